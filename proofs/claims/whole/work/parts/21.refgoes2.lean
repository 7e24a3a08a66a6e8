/-! THE REFERENCE: what rules of the other kinds take; what is left -/
theorem pow_le6 {n : Nat} (h : n ≤ 6) : 1 ≤ 2 ^ n ∧ 2 ^ n ≤ 64 := by
  have h1 : (2 : Nat) ^ n ≤ 2 ^ 6 := Nat.pow_le_pow_right (by decide) h
  exact ⟨Nat.one_le_two_pow, h1⟩
theorem shl1 {k : Nat} (h : k < 31) : iShl 1 (k : Int) = ((2 ^ k : Nat) : Int) := by
  have h1 : (2 : Nat) ^ k < 2 ^ 31 := Nat.pow_lt_pow_right (by decide) h
  rw [show (1 : Int) = ((1 : Nat) : Int) from rfl, iShl_nat (by omega) (by omega), Nat.one_mul]
def uF (R : RC) (X : Rg) (i v : Nat) : Nat → Nat := fun k => if k = i then 2 ^ v else X (rO R k)
theorem uF_lt {R : RC} {X : Rg} {i v : Nat} (hv : v < 16) (hX : ∀ k, k < rN R → X (rO R k) < 65536) (k : Nat) (hk : k < rN R) : uF R X i v k < 65536 := by
  unfold uF
  split
  · have := pow_le16 hv; omega
  · exact hX k hk
theorem uni_lt {n : Nat} {f : Nat → Nat} {S : Nat} (h : ∀ k, k < n → f k < 65536) : uni n f S < 65536 := by
  induction n with
  | zero => exact (by decide : 0 < 65536)
  | succ n ih =>
    simp only [uni]
    have h1 : uni n f S < 2 ^ 16 := ih fun k hk => h k (by omega)
    have h2 : (if S.testBit n then f n else 0) < 2 ^ 16 := by split; exact h n (by omega); decide
    exact Nat.or_lt_two_pow h1 h2
theorem uni_t {n : Nat} {f : Nat → Nat} {S : Nat} (h : S.testBit n = true) : uni (n + 1) f S = uni n f S ||| f n := by simp only [uni, h, if_true]
theorem uni_f {n : Nat} {f : Nat → Nat} {S : Nat} (h : S.testBit n = false) : uni (n + 1) f S = uni n f S := by simp [uni, h]
set_option maxRecDepth 100000 in
set_option maxHeartbeats 4000000 in
theorem sM_unl_in {g : GC} (σ : Sg) (r U : Nat) (R : RC) (X : Rg) (hr : r < 16) (hM : MR σ r R) (hW : WR U R) (hX : AV σ 294 U X) (i v : Nat) (hi : i < rN R) (hv : v < 16) (S : Nat) (hS : S < 64) {Post : Option PV → Mem → Prop} : ∀ j K : Nat, K + j = rN R → Ev g mX8_goesByUnlike 74 [some (vR (272)), some (vI (((r : Nat) : Int))), some (vI (((i : Nat) : Int))), some (vI (((v : Nat) : Int))), some (vI (((S : Nat) : Int))), some (vI (((uni (rN R) (uF R X i v) S : Nat) : Int))), none] [] (M0 (σ)) 0 0 Post → Ev g mX8_goesByUnlike 22 [some (vR (272)), some (vI (((r : Nat) : Int))), some (vI (((i : Nat) : Int))), some (vI (((v : Nat) : Int))), some (vI (((S : Nat) : Int))), some (vI (((uni K (uF R X i v) S : Nat) : Int))), some (vI (((K : Nat) : Int)))] [] (M0 (σ)) 0 0 (Post) := by
  intro j
  induction j with
  | zero =>
    intro K hij kk
    obtain ⟨hK, hS, hB, hN, hP⟩ := id hM
    obtain ⟨⟨hk5, hn6, hU⟩, hO, -⟩ := id hW
    have hXR : ∀ k, k < rN R → X (rO R k) ≠ 0 ∧ X (rO R k) < 65536 := fun k hk => (hX _ (hO k hk)).2
    have hp6 := pow_le6 hn6
    have hp16 := pow_le16 hv
    have hu := uni_lt (n := K) (S := S) (f := uF R X i v) (fun k hk => uF_lt hv (fun k hk => (hXR k hk).2) k (by omega))
    refine Ev.iload dX8_goesByUnlike_22 rfl ?_
    refine Ev.aload_n dX8_goesByUnlike_24 rfl rfl ?_
    refine gf_X8_38 rfl dX8_goesByUnlike_25 ltc_272 shc_272 rfc_272_13 ?_
    refine Ev.iload_n dX8_goesByUnlike_28 rfl rfl ?_
    refine Ev.iaload (v := ((rN R : Nat) : Int)) dX8_goesByUnlike_29 ltc_282 shc_282 (by decide) (by omega) (by omega) (ldx (by omega) hN) ?_
    refine Ev.icmp_ge (tgt := 74) ⟨by omega, by omega⟩ ⟨by omega, by omega⟩ dX8_goesByUnlike_30 (by decide) (fun h30 => ?_) (fun h30 => ?_)
    · skip
      refine Ev.wk (pl' := [some (vR (272)), some (vI (((r : Nat) : Int))), some (vI (((i : Nat) : Int))), some (vI (((v : Nat) : Int))), some (vI (((S : Nat) : Int))), some (vI (((uni (rN R) (uF R X i v) S : Nat) : Int))), none]) ⟨rfl, ⟨rfl, ⟨rfl, ⟨rfl, ⟨rfl, ⟨vIe (by rw [show K = rN R by omega]), trivial⟩⟩⟩⟩⟩⟩ ?_
      exact kk
    · exact absurd h30 (by omega)
  | succ j ih =>
    intro K hij kk
    obtain ⟨hK, hS, hB, hN, hP⟩ := id hM
    obtain ⟨⟨hk5, hn6, hU⟩, hO, -⟩ := id hW
    have hXR : ∀ k, k < rN R → X (rO R k) ≠ 0 ∧ X (rO R k) < 65536 := fun k hk => (hX _ (hO k hk)).2
    have hp6 := pow_le6 hn6
    have hp16 := pow_le16 hv
    have hu := uni_lt (n := K) (S := S) (f := uF R X i v) (fun k hk => uF_lt hv (fun k hk => (hXR k hk).2) k (by omega))
    have hu2 := uni_lt (n := K + 1) (S := S) (f := uF R X i v) (fun k hk => uF_lt hv (fun k hk => (hXR k hk).2) k (by omega))
    have hxk := (hXR K (by omega)).2
    refine Ev.iload dX8_goesByUnlike_22 rfl ?_
    refine Ev.aload_n dX8_goesByUnlike_24 rfl rfl ?_
    refine gf_X8_38 rfl dX8_goesByUnlike_25 ltc_272 shc_272 rfc_272_13 ?_
    refine Ev.iload_n dX8_goesByUnlike_28 rfl rfl ?_
    refine Ev.iaload (v := ((rN R : Nat) : Int)) dX8_goesByUnlike_29 ltc_282 shc_282 (by decide) (by omega) (by omega) (ldx (by omega) hN) ?_
    refine Ev.icmp_ge (tgt := 74) ⟨by omega, by omega⟩ ⟨by omega, by omega⟩ dX8_goesByUnlike_30 (by decide) (fun h30 => ?_) (fun h30 => ?_)
    · exact absurd h30 (by omega)
    · skip
      refine Ev.iload dX8_goesByUnlike_33 rfl ?_
      refine Ev.iload dX8_goesByUnlike_35 rfl ?_
      refine Ev.ishr dX8_goesByUnlike_37 ?_
      refine Ev.iconst dX8_goesByUnlike_38 ?_
      refine Ev.iand dX8_goesByUnlike_39 ?_
      rw [show (iAnd ((iShr (((S : Nat) : Int)) (((K : Nat) : Int)))) (1)) = (((b2 (Nat.testBit S K)) : Nat) : Int) from bit_nat (by omega) (by omega)]
      refine Ev.iconst dX8_goesByUnlike_40 ?_
      refine Ev.icmp_ne (tgt := 68) b2_inR ⟨by decide, by decide⟩ dX8_goesByUnlike_41 (by decide) (fun h41 => ?_) (fun h41 => ?_)
      · skip
        refine Ev.iinc (pl' := [some (vR (272)), some (vI (((r : Nat) : Int))), some (vI (((i : Nat) : Int))), some (vI (((v : Nat) : Int))), some (vI (((S : Nat) : Int))), some (vI (((uni K (uF R X i v) S : Nat) : Int))), some (vI (((K : Nat) : Int) + 1))]) dX8_goesByUnlike_68 rfl (Nat.le_of_ble_eq_true rfl) rfl ?_
        refine Ev.goto (tgt := 22) dX8_goesByUnlike_71 (by decide) ?_
        refine Ev.wk (pl' := [some (vR (272)), some (vI (((r : Nat) : Int))), some (vI (((i : Nat) : Int))), some (vI (((v : Nat) : Int))), some (vI (((S : Nat) : Int))), some (vI (((uni (K + 1) (uF R X i v) S : Nat) : Int))), some (vI ((((K + 1) : Nat) : Int)))]) ⟨rfl, ⟨rfl, ⟨rfl, ⟨rfl, ⟨rfl, ⟨vIe (by rw [uni_f (by cases hq : S.testBit K with | false => rfl | true => exact absurd (b2_1.mpr hq) (by assumption))]), ⟨vIe (by omega), trivial⟩⟩⟩⟩⟩⟩⟩ ?_
        exact ih (K + 1) (by omega) kk
      · skip
        refine Ev.iload dX8_goesByUnlike_44 rfl ?_
        refine Ev.iload dX8_goesByUnlike_46 rfl ?_
        refine Ev.iload_n dX8_goesByUnlike_48 rfl rfl ?_
        refine Ev.icmp_ne (tgt := 58) ⟨by omega, by omega⟩ ⟨by omega, by omega⟩ dX8_goesByUnlike_49 (by decide) (fun h49 => ?_) (fun h49 => ?_)
        · skip
          refine Ev.aload_n dX8_goesByUnlike_58 rfl rfl ?_
          refine Ev.iload_n dX8_goesByUnlike_59 rfl rfl ?_
          refine Ev.iload dX8_goesByUnlike_60 rfl ?_
          refine Ev.callV_I (M2 := mX8_asideOf) (args2 := [vI (((r : Nat) : Int)), vI (((K : Nat) : Int))]) (rcv := 272) (q := (RX8, TX8, 34)) (ci := 8) dX8_goesByUnlike_62 okX8_asideOf lk_X8_155 ovX8_asideOf.1.1 ovX8_asideOf.1.2 ovX8_asideOf.2 (by decide) rfl rfl ltc_272 shc_272 rfl (Nat.le_of_ble_eq_true rfl) (Nat.le_of_ble_eq_true rfl) (sM_asideOf σ r U R X hr hM hW hX K (by omega)) ?_ rfl
          refine Ev.ior dX8_goesByUnlike_65 ?_
          rw [show (iOr (((uni K (uF R X i v) S : Nat) : Int)) (((X (rO R K) : Nat) : Int))) = ((uni (K + 1) (uF R X i v) S : Nat) : Int) from (by first | (rw [uni_t (b2_1.mp (by assumption))]; exact (iOr_nat (by omega) (by omega)).trans (by first | rfl | (congr 2; unfold uF; first | rw [if_pos (by omega)] | rw [if_neg (by omega)]))) | skip)]
          refine Ev.istore (pl' := [some (vR (272)), some (vI (((r : Nat) : Int))), some (vI (((i : Nat) : Int))), some (vI (((v : Nat) : Int))), some (vI (((S : Nat) : Int))), some (vI (((uni (K + 1) (uF R X i v) S : Nat) : Int))), some (vI (((K : Nat) : Int)))]) dX8_goesByUnlike_66 (Nat.le_of_ble_eq_true rfl) rfl ?_
          refine Ev.iinc (pl' := [some (vR (272)), some (vI (((r : Nat) : Int))), some (vI (((i : Nat) : Int))), some (vI (((v : Nat) : Int))), some (vI (((S : Nat) : Int))), some (vI (((uni (K + 1) (uF R X i v) S : Nat) : Int))), some (vI (((K : Nat) : Int) + 1))]) dX8_goesByUnlike_68 rfl (Nat.le_of_ble_eq_true rfl) rfl ?_
          refine Ev.goto (tgt := 22) dX8_goesByUnlike_71 (by decide) ?_
          refine Ev.wk (pl' := [some (vR (272)), some (vI (((r : Nat) : Int))), some (vI (((i : Nat) : Int))), some (vI (((v : Nat) : Int))), some (vI (((S : Nat) : Int))), some (vI (((uni (K + 1) (uF R X i v) S : Nat) : Int))), some (vI ((((K + 1) : Nat) : Int)))]) ⟨rfl, ⟨rfl, ⟨rfl, ⟨rfl, ⟨rfl, ⟨rfl, ⟨vIe (by omega), trivial⟩⟩⟩⟩⟩⟩⟩ ?_
          exact ih (K + 1) (by omega) kk
        · skip
          refine Ev.iconst dX8_goesByUnlike_52 ?_
          refine Ev.iload_n dX8_goesByUnlike_53 rfl rfl ?_
          refine Ev.ishl dX8_goesByUnlike_54 ?_
          rw [show (iShl (1) (((v : Nat) : Int))) = ((2 ^ v : Nat) : Int) from shl1 (by omega)]
          refine Ev.goto (tgt := 65) dX8_goesByUnlike_55 (by decide) ?_
          refine Ev.ior dX8_goesByUnlike_65 ?_
          rw [show (iOr (((uni K (uF R X i v) S : Nat) : Int)) (((2 ^ v : Nat) : Int))) = ((uni (K + 1) (uF R X i v) S : Nat) : Int) from (by first | (rw [uni_t (b2_1.mp (by assumption))]; exact (iOr_nat (by omega) (by omega)).trans (by first | rfl | (congr 2; unfold uF; first | rw [if_pos (by omega)] | rw [if_neg (by omega)]))) | skip)]
          refine Ev.istore (pl' := [some (vR (272)), some (vI (((r : Nat) : Int))), some (vI (((i : Nat) : Int))), some (vI (((v : Nat) : Int))), some (vI (((S : Nat) : Int))), some (vI (((uni (K + 1) (uF R X i v) S : Nat) : Int))), some (vI (((K : Nat) : Int)))]) dX8_goesByUnlike_66 (Nat.le_of_ble_eq_true rfl) rfl ?_
          refine Ev.iinc (pl' := [some (vR (272)), some (vI (((r : Nat) : Int))), some (vI (((i : Nat) : Int))), some (vI (((v : Nat) : Int))), some (vI (((S : Nat) : Int))), some (vI (((uni (K + 1) (uF R X i v) S : Nat) : Int))), some (vI (((K : Nat) : Int) + 1))]) dX8_goesByUnlike_68 rfl (Nat.le_of_ble_eq_true rfl) rfl ?_
          refine Ev.goto (tgt := 22) dX8_goesByUnlike_71 (by decide) ?_
          refine Ev.wk (pl' := [some (vR (272)), some (vI (((r : Nat) : Int))), some (vI (((i : Nat) : Int))), some (vI (((v : Nat) : Int))), some (vI (((S : Nat) : Int))), some (vI (((uni (K + 1) (uF R X i v) S : Nat) : Int))), some (vI ((((K + 1) : Nat) : Int)))]) ⟨rfl, ⟨rfl, ⟨rfl, ⟨rfl, ⟨rfl, ⟨rfl, ⟨vIe (by omega), trivial⟩⟩⟩⟩⟩⟩⟩ ?_
          exact ih (K + 1) (by omega) kk

set_option maxRecDepth 100000 in
set_option maxHeartbeats 4000000 in
theorem sM_unl {g : GC} (σ : Sg) (r U : Nat) (R : RC) (X : Rg) (hr : r < 16) (hM : MR σ r R) (hW : WR U R) (hX : AV σ 294 U X) (i v : Nat) (hi : i < rN R) (hv : v < 16) : ∀ j S : Nat, S + j = 2 ^ rN R → (∀ s, s < S → ¬ pop (uni (rN R) (uF R X i v) s) < pop s) → Ev g mX8_goesByUnlike 3 [some (vR (272)), some (vI (((r : Nat) : Int))), some (vI (((i : Nat) : Int))), some (vI (((v : Nat) : Int))), some (vI (((S : Nat) : Int))), none, none] [] (M0 (σ)) 0 0 (retI (bI (gUnl R X i v)) σ) := by
  intro j
  induction j with
  | zero =>
    intro S hij hno
    obtain ⟨hK, hS, hB, hN, hP⟩ := id hM
    obtain ⟨⟨hk5, hn6, hU⟩, hO, -⟩ := id hW
    have hXR : ∀ k, k < rN R → X (rO R k) ≠ 0 ∧ X (rO R k) < 65536 := fun k hk => (hX _ (hO k hk)).2
    have hp6 := pow_le6 hn6
    have hp16 := pow_le16 hv
    have hu := uni_lt (n := rN R) (S := S) (f := uF R X i v) (fun k hk => uF_lt hv (fun k hk => (hXR k hk).2) k (by omega))
    refine Ev.iload dX8_goesByUnlike_3 rfl ?_
    refine Ev.iconst dX8_goesByUnlike_5 ?_
    refine Ev.aload_n dX8_goesByUnlike_6 rfl rfl ?_
    refine gf_X8_38 rfl dX8_goesByUnlike_7 ltc_272 shc_272 rfc_272_13 ?_
    refine Ev.iload_n dX8_goesByUnlike_10 rfl rfl ?_
    refine Ev.iaload (v := ((rN R : Nat) : Int)) dX8_goesByUnlike_11 ltc_282 shc_282 (by decide) (by omega) (by omega) (ldx (by omega) hN) ?_
    refine Ev.ishl dX8_goesByUnlike_12 ?_
    rw [show (iShl (1) (((rN R : Nat) : Int))) = ((2 ^ rN R : Nat) : Int) from shl1 (by omega)]
    refine Ev.icmp_ge (tgt := 95) ⟨by omega, by omega⟩ ⟨by omega, by omega⟩ dX8_goesByUnlike_13 (by decide) (fun h13 => ?_) (fun h13 => ?_)
    · skip
      refine Ev.iconst dX8_goesByUnlike_95 ?_
      exact Ev.zreturn dX8_goesByUnlike_96 rfl (Or.inl rfl) (rI (bI_f (fun ⟨s, h1, h2⟩ => hno s (by omega) h2)) rfl)
    · exact absurd h13 (by omega)
  | succ j ih =>
    intro S hij hno
    obtain ⟨hK, hS, hB, hN, hP⟩ := id hM
    obtain ⟨⟨hk5, hn6, hU⟩, hO, -⟩ := id hW
    have hXR : ∀ k, k < rN R → X (rO R k) ≠ 0 ∧ X (rO R k) < 65536 := fun k hk => (hX _ (hO k hk)).2
    have hp6 := pow_le6 hn6
    have hp16 := pow_le16 hv
    have hu := uni_lt (n := rN R) (S := S) (f := uF R X i v) (fun k hk => uF_lt hv (fun k hk => (hXR k hk).2) k (by omega))
    refine Ev.iload dX8_goesByUnlike_3 rfl ?_
    refine Ev.iconst dX8_goesByUnlike_5 ?_
    refine Ev.aload_n dX8_goesByUnlike_6 rfl rfl ?_
    refine gf_X8_38 rfl dX8_goesByUnlike_7 ltc_272 shc_272 rfc_272_13 ?_
    refine Ev.iload_n dX8_goesByUnlike_10 rfl rfl ?_
    refine Ev.iaload (v := ((rN R : Nat) : Int)) dX8_goesByUnlike_11 ltc_282 shc_282 (by decide) (by omega) (by omega) (ldx (by omega) hN) ?_
    refine Ev.ishl dX8_goesByUnlike_12 ?_
    rw [show (iShl (1) (((rN R : Nat) : Int))) = ((2 ^ rN R : Nat) : Int) from shl1 (by omega)]
    refine Ev.icmp_ge (tgt := 95) ⟨by omega, by omega⟩ ⟨by omega, by omega⟩ dX8_goesByUnlike_13 (by decide) (fun h13 => ?_) (fun h13 => ?_)
    · exact absurd h13 (by omega)
    · skip
      refine Ev.iconst dX8_goesByUnlike_16 ?_
      refine Ev.istore (pl' := [some (vR (272)), some (vI (((r : Nat) : Int))), some (vI (((i : Nat) : Int))), some (vI (((v : Nat) : Int))), some (vI (((S : Nat) : Int))), some (vI (0)), none]) dX8_goesByUnlike_17 (Nat.le_of_ble_eq_true rfl) rfl ?_
      refine Ev.iconst dX8_goesByUnlike_19 ?_
      refine Ev.istore (pl' := [some (vR (272)), some (vI (((r : Nat) : Int))), some (vI (((i : Nat) : Int))), some (vI (((v : Nat) : Int))), some (vI (((S : Nat) : Int))), some (vI (0)), some (vI (0))]) dX8_goesByUnlike_20 (Nat.le_of_ble_eq_true rfl) rfl ?_
      refine Ev.wk (pl' := [some (vR (272)), some (vI (((r : Nat) : Int))), some (vI (((i : Nat) : Int))), some (vI (((v : Nat) : Int))), some (vI (((S : Nat) : Int))), some (vI (((uni 0 (uF R X i v) S : Nat) : Int))), some (vI (((0 : Nat) : Int)))]) ⟨rfl, ⟨rfl, ⟨rfl, ⟨rfl, ⟨rfl, ⟨vIe rfl, ⟨vIe rfl, trivial⟩⟩⟩⟩⟩⟩⟩ ?_
      refine sM_unl_in σ r U R X hr hM hW hX i v hi hv S (by omega) (rN R) 0 (by omega) ?_
      refine Ev.iload dX8_goesByUnlike_74 rfl ?_
      refine Ev.callS_I (M2 := mX8_many) (args2 := [vI (((uni (rN R) (uF R X i v) S : Nat) : Int))]) dX8_goesByUnlike_76 okX8_many lk_X8_123 osX8_many.1 osX8_many.2 (by decide) rfl (Nat.le_of_ble_eq_true rfl) (Nat.le_of_ble_eq_true rfl) (sM_many σ (uni (rN R) (uF R X i v) S) (by omega)) ?_ rfl
      refine Ev.iload dX8_goesByUnlike_79 rfl ?_
      refine Ev.callS_I (M2 := mX8_many) (args2 := [vI (((S : Nat) : Int))]) dX8_goesByUnlike_81 okX8_many lk_X8_123 osX8_many.1 osX8_many.2 (by decide) rfl (Nat.le_of_ble_eq_true rfl) (Nat.le_of_ble_eq_true rfl) (sM_many σ (S) (by omega)) ?_ rfl
      refine Ev.icmp_ge (tgt := 89) pop_inR pop_inR dX8_goesByUnlike_84 (by decide) (fun h84 => ?_) (fun h84 => ?_)
      · skip
        refine Ev.iinc (pl' := [some (vR (272)), some (vI (((r : Nat) : Int))), some (vI (((i : Nat) : Int))), some (vI (((v : Nat) : Int))), some (vI (((S : Nat) : Int) + 1)), some (vI (((uni (rN R) (uF R X i v) S : Nat) : Int))), none]) dX8_goesByUnlike_89 rfl (Nat.le_of_ble_eq_true rfl) rfl ?_
        refine Ev.goto (tgt := 3) dX8_goesByUnlike_92 (by decide) ?_
        refine Ev.wk (pl' := [some (vR (272)), some (vI (((r : Nat) : Int))), some (vI (((i : Nat) : Int))), some (vI (((v : Nat) : Int))), some (vI ((((S + 1) : Nat) : Int))), none, none]) ⟨rfl, ⟨rfl, ⟨rfl, ⟨rfl, ⟨vIe (by omega), trivial⟩⟩⟩⟩⟩ ?_
        exact ih (S + 1) (by omega) (fun s hs => (Nat.lt_or_ge s S).elim (hno s) (fun z => by rw [show s = S by omega]; omega))
      · skip
        refine Ev.iconst dX8_goesByUnlike_87 ?_
        exact Ev.zreturn dX8_goesByUnlike_88 rfl (Or.inr rfl) (rI (bI_t ⟨S, by omega, by show pop (uni (rN R) (uF R X i v) S) < pop S; omega⟩) rfl)

set_option maxRecDepth 100000 in
set_option maxHeartbeats 4000000 in
theorem sM_goesByUnlike {g : GC} (σ : Sg) (r U : Nat) (R : RC) (X : Rg) (hr : r < 16) (hM : MR σ r R) (hW : WR U R) (hX : AV σ 294 U X) (i v : Nat) (hi : i < rN R) (hv : v < 16) : Ev g mX8_goesByUnlike 0 [some (vR (272)), some (vI (((r : Nat) : Int))), some (vI (((i : Nat) : Int))), some (vI (((v : Nat) : Int))), none, none, none] [] (M0 (σ)) 0 0 (retI (bI (gUnl R X i v)) σ) := by
  obtain ⟨hK, hS, hB, hN, hP⟩ := id hM
  obtain ⟨⟨hk5, hn6, hU⟩, hO, -⟩ := id hW
  have hp6 := pow_le6 hn6
  refine Ev.iconst dX8_goesByUnlike_0 ?_
  refine Ev.istore (pl' := [some (vR (272)), some (vI (((r : Nat) : Int))), some (vI (((i : Nat) : Int))), some (vI (((v : Nat) : Int))), some (vI (1)), none, none]) dX8_goesByUnlike_1 (Nat.le_of_ble_eq_true rfl) rfl ?_
  refine Ev.wk (pl' := [some (vR (272)), some (vI (((r : Nat) : Int))), some (vI (((i : Nat) : Int))), some (vI (((v : Nat) : Int))), some (vI (((1 : Nat) : Int))), none, none]) ⟨rfl, ⟨rfl, ⟨rfl, ⟨rfl, ⟨vIe rfl, trivial⟩⟩⟩⟩⟩ ?_
  exact sM_unl σ r U R X hr hM hW hX i v hi hv (2 ^ rN R - 1) 1 (by omega) (fun s hs => by rw [show s = 0 by omega, show pop 0 = 0 from by decide]; exact Nat.not_lt_zero _)

