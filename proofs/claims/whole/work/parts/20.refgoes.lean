/-! THE REFERENCE: what of a rule, a range, a table stands where; what a rule takes -/
theorem ldx {σ : Sg} {c : Nat} {j : Int} {n : Nat} {v : Int} (hj : j = n) (h : σ c n = v) : σ c j.toNat = v := by subst hj; exact h
theorem ldt {c : Nat} {j : Int} {n : Nat} {v : Option Nat} (hj : j = n) (h : rho0 c n = v) : rho0 c j.toNat = v := by subst hj; exact h
theorem pop_inR {m : Nat} : inR ((pop m : Nat) : Int) := by have : pop m ≤ 16 := popN_le 16 m; exact ⟨by omega, by omega⟩
theorem lo_inR {m : Nat} : inR ((lo m : Nat) : Int) := by have := lo_le m; exact ⟨by omega, by omega⟩
/-- rule r of the reference is R -/
def MR (σ : Sg) (r : Nat) (R : RC) : Prop := σ 278 r = (rK R : Int) ∧ σ 279 r = rS R ∧ σ 280 r = rB R ∧ σ 282 r = (rN R : Int) ∧ ∀ k, k < rN R → σ 283 (6 * r + k) = (rO R k : Int) ∧ σ 284 (6 * r + k) = rA R k ∧ σ 285 (6 * r + k) = rZ R k
/-- a rule as the calls let it be -/
def WR (U : Nat) (R : RC) : Prop := (rK R ≤ 5 ∧ rN R ≤ 6 ∧ U ≤ 10) ∧ (∀ k, k < rN R → rO R k < U) ∧ (rK R = 0 → (0 ≤ rS R ∧ rS R ≤ 2) ∧ (-1000 ≤ rB R ∧ rB R ≤ 1000) ∧ ∀ k, k < rN R → -9 ≤ rA R k ∧ rA R k ≤ 9) ∧ (rK R = 2 → 0 ≤ rS R ∧ rS R < 6) ∧ (rK R = 3 → (0 ≤ rS R ∧ rS R ≤ 100) ∧ ∀ k, k < rN R → (0 ≤ rA R k ∧ rA R k ≤ 15) ∧ 0 ≤ rZ R k ∧ rZ R k ≤ 20) ∧ (rK R = 5 → ∀ k, k < rN R → 0 ≤ rA R k ∧ rA R k < 65536) ∧ (rK R ≠ 5 → ∀ j k, j < rN R → k < rN R → rO R j = rO R k → j = k)
/-- the row of ranges in cell c is X, as far as unknowns go; no range is empty -/
def AV (σ : Sg) (c U : Nat) (X : Rg) : Prop := ∀ x, x < U → σ c x = (X x : Int) ∧ X x ≠ 0 ∧ X x < 65536
def TVm (σ : Sg) (T : Tb) : Prop := ∀ t, t < 6 → σ 286 t = T.1 t ∧ (-1 ≤ T.1 t ∧ T.1 t ≤ 48) ∧ ∀ j, j < 48 → σ 287 (48 * t + j) = (T.2 t j : Int) ∧ T.2 t j < 16
theorem mul_bd {a : Int} {v : Nat} {B C : Int} (h : -B ≤ a ∧ a ≤ B) (hv : (v : Int) ≤ C) (hB : 0 ≤ B) : -(B * C) ≤ a * v ∧ a * v ≤ B * C := by
  have h1 : a * (v : Int) ≤ B * v := Int.mul_le_mul_of_nonneg_right h.2 (by omega)
  have h2 : -B * (v : Int) ≤ a * v := Int.mul_le_mul_of_nonneg_right h.1 (by omega)
  have h3 : B * (v : Int) ≤ B * C := Int.mul_le_mul_of_nonneg_left hv hB
  rw [Int.neg_mul] at h2
  omega
theorem mn_bd {m : Int} {S : Nat} (hm : -9 ≤ m ∧ m ≤ 9) (h0 : S ≠ 0) (hS : S < 65536) : -135 ≤ mn m S ∧ mn m S ≤ 135 := by
  have h1 := lo_lt hS h0
  have h2 := hi_lt hS h0
  unfold mn
  split
  · have := mul_bd (a := m) (v := lo S) (B := 9) (C := 15) hm (by omega) (by decide); omega
  · have := mul_bd (a := m) (v := hi S) (B := 9) (C := 15) hm (by omega) (by decide); omega
theorem mx_bd {m : Int} {S : Nat} (hm : -9 ≤ m ∧ m ≤ 9) (h0 : S ≠ 0) (hS : S < 65536) : -135 ≤ mx m S ∧ mx m S ≤ 135 := by
  have h1 := lo_lt hS h0
  have h2 := hi_lt hS h0
  unfold mx
  split
  · have := mul_bd (a := m) (v := hi S) (B := 9) (C := 15) hm (by omega) (by decide); omega
  · have := mul_bd (a := m) (v := lo S) (B := 9) (C := 15) hm (by omega) (by decide); omega
def sLn (R : RC) (X : Rg) (i n : Nat) : Int := sumI n (fun k => if k = i then 0 else mn (rA R k) (X (rO R k)))
def sHn (R : RC) (X : Rg) (i n : Nat) : Int := sumI n (fun k => if k = i then 0 else mx (rA R k) (X (rO R k)))
def sgl (R : RC) (X : Rg) (i n : Nat) : Prop := ∀ k, k < n → k ≠ i → pop (X (rO R k)) = 1
theorem sLn_ne {R : RC} {X : Rg} {i n : Nat} (h : n ≠ i) : sLn R X i (n + 1) = sLn R X i n + mn (rA R n) (X (rO R n)) := by simp only [sLn, sumI, if_neg h]
theorem sLn_eq {R : RC} {X : Rg} {i n : Nat} (h : n = i) : sLn R X i (n + 1) = sLn R X i n := by simp only [sLn, sumI, if_pos h]; omega
theorem sHn_ne {R : RC} {X : Rg} {i n : Nat} (h : n ≠ i) : sHn R X i (n + 1) = sHn R X i n + mx (rA R n) (X (rO R n)) := by simp only [sHn, sumI, if_neg h]
theorem sHn_eq {R : RC} {X : Rg} {i n : Nat} (h : n = i) : sHn R X i (n + 1) = sHn R X i n := by simp only [sHn, sumI, if_pos h]; omega
theorem sgl_ne {R : RC} {X : Rg} {i n : Nat} (h : n ≠ i) : sgl R X i (n + 1) ↔ sgl R X i n ∧ pop (X (rO R n)) = 1 := by
  constructor
  · intro q; exact ⟨fun k hk hi => q k (by omega) hi, q n (by omega) h⟩
  · rintro ⟨q1, q2⟩ k hk hi
    rcases Nat.lt_or_ge k n with z | z
    · exact q1 k z hi
    · rw [show k = n by omega]; exact q2
theorem sgl_eq {R : RC} {X : Rg} {i n : Nat} (h : n = i) : sgl R X i (n + 1) ↔ sgl R X i n := by
  constructor
  · intro q k hk hi; exact q k (by omega) hi
  · intro q k hk hi; exact q k (by omega) hi
theorem sL_bd {R : RC} {X : Rg} {i n : Nat} (hn : n ≤ 6) (hA : ∀ k, k < n → -9 ≤ rA R k ∧ rA R k ≤ 9) (hX : ∀ k, k < n → X (rO R k) ≠ 0 ∧ X (rO R k) < 65536) : (-810 ≤ sLn R X i n ∧ sLn R X i n ≤ 810) ∧ -810 ≤ sHn R X i n ∧ sHn R X i n ≤ 810 := by
  have h1 := sumI_bd (n := n) (f := fun k => if k = i then 0 else mn (rA R k) (X (rO R k))) (b := 135) (fun k hk => by
    try dsimp only
    split
    · omega
    · exact mn_bd (hA k hk) (hX k hk).1 (hX k hk).2)
  have h2 := sumI_bd (n := n) (f := fun k => if k = i then 0 else mx (rA R k) (X (rO R k))) (b := 135) (fun k hk => by
    try dsimp only
    split
    · omega
    · exact mx_bd (hA k hk) (hX k hk).1 (hX k hk).2)
  unfold sLn sHn
  omega
theorem gSum_iff {R : RC} {X : Rg} {i v K : Nat} (h : K = rN R) : gSum R X i v ↔ (rS R = 2 ∧ sgl R X i K ∧ rA R i * v + sLn R X i K = rB R) ∨ (rS R ≠ 2 ∧ (rA R i * v + sLn R X i K > rB R ∨ (rS R = 1 ∧ rA R i * v + sHn R X i K < rB R))) := by
  subst h
  exact Iff.rfl
set_option maxRecDepth 100000 in
set_option maxHeartbeats 4000000 in
theorem sM_asideOf {g : GC} (σ : Sg) (r U : Nat) (R : RC) (X : Rg) (hr : r < 16) (hM : MR σ r R) (hW : WR U R) (hX : AV σ 294 U X) (k : Nat) (hk : k < rN R) : Ev g mX8_asideOf 0 [some (vR (272)), some (vI (((r : Nat) : Int))), some (vI (((k : Nat) : Int)))] [] (M0 (σ)) 0 0 (retI ((X (rO R k) : Nat) : Int) σ) := by
  obtain ⟨hK, hS, hB, hN, hP⟩ := id hM
  obtain ⟨⟨hk5, hn6, hU⟩, hO, -⟩ := id hW
  refine Ev.aload_n dX8_asideOf_0 rfl rfl ?_
  refine gf_X8_78 rfl dX8_asideOf_1 ltc_272 shc_272 rfc_272_29 ?_
  refine Ev.aload_n dX8_asideOf_4 rfl rfl ?_
  refine gf_X8_41 rfl dX8_asideOf_5 ltc_272 shc_272 rfc_272_14 ?_
  refine Ev.bipush (n := 6) (by decide) dX8_asideOf_8 ?_
  refine Ev.iload_n dX8_asideOf_10 rfl rfl ?_
  refine Ev.imul dX8_asideOf_11 ?_
  refine Ev.iload_n dX8_asideOf_12 rfl rfl ?_
  refine Ev.iadd dX8_asideOf_13 ?_
  refine Ev.iaload (v := ((rO R k : Nat) : Int)) dX8_asideOf_14 ltc_283 shc_283 (by decide) (by omega) (by omega) (ldx (n := 6 * r + k) (by omega) (hP k (by omega)).1) ?_
  refine Ev.iaload (v := ((X (rO R k) : Nat) : Int)) dX8_asideOf_15 ltc_294 shc_294 (by decide) (by omega) (Int.ofNat_lt.mpr (Nat.lt_of_lt_of_le (hO _ (by omega)) hU)) (ldx rfl (hX _ (hO _ (by omega))).1) ?_
  exact Ev.ireturn dX8_asideOf_16 rfl (rI rfl rfl)

set_option maxRecDepth 100000 in
set_option maxHeartbeats 4000000 in
theorem sM_endL {g : GC} (σ : Sg) (r U : Nat) (R : RC) (X : Rg) (hr : r < 16) (hM : MR σ r R) (hW : WR U R) (hX : AV σ 294 U X) (k : Nat) (hk : k < rN R) (hA : -9 ≤ rA R k ∧ rA R k ≤ 9) : Ev g mX8_end 0 [some (vR (272)), some (vI (((r : Nat) : Int))), some (vI (((k : Nat) : Int))), some (vI (0)), none, none] [] (M0 (σ)) 0 0 (retI (mn (rA R k) (X (rO R k))) σ) := by
  obtain ⟨hK, hS, hB, hN, hP⟩ := id hM
  obtain ⟨⟨hk5, hn6, hU⟩, hO, -⟩ := id hW
  refine Ev.aload_n dX8_end_0 rfl rfl ?_
  refine gf_X8_44 rfl dX8_end_1 ltc_272 shc_272 rfc_272_15 ?_
  refine Ev.bipush (n := 6) (by decide) dX8_end_4 ?_
  refine Ev.iload_n dX8_end_6 rfl rfl ?_
  refine Ev.imul dX8_end_7 ?_
  refine Ev.iload_n dX8_end_8 rfl rfl ?_
  refine Ev.iadd dX8_end_9 ?_
  refine Ev.iaload (v := rA R k) dX8_end_10 ltc_284 shc_284 (by decide) (by omega) (by omega) (ldx (n := 6 * r + k) (by omega) (hP k (by omega)).2.1) ?_
  refine Ev.istore (pl' := [some (vR (272)), some (vI (((r : Nat) : Int))), some (vI (((k : Nat) : Int))), some (vI (0)), some (vI (rA R k)), none]) dX8_end_11 (Nat.le_of_ble_eq_true rfl) rfl ?_
  refine Ev.aload_n dX8_end_13 rfl rfl ?_
  refine Ev.iload_n dX8_end_14 rfl rfl ?_
  refine Ev.iload_n dX8_end_15 rfl rfl ?_
  refine Ev.callV_I (M2 := mX8_asideOf) (args2 := [vI (((r : Nat) : Int)), vI (((k : Nat) : Int))]) (rcv := 272) (q := (RX8, TX8, 34)) (ci := 8) dX8_end_16 okX8_asideOf lk_X8_155 ovX8_asideOf.1.1 ovX8_asideOf.1.2 ovX8_asideOf.2 (by decide) rfl rfl ltc_272 shc_272 rfl (Nat.le_of_ble_eq_true rfl) (Nat.le_of_ble_eq_true rfl) (sM_asideOf σ r U R X hr hM hW hX k (by omega)) ?_ rfl
  refine Ev.istore (pl' := [some (vR (272)), some (vI (((r : Nat) : Int))), some (vI (((k : Nat) : Int))), some (vI (0)), some (vI (rA R k)), some (vI (((X (rO R k) : Nat) : Int)))]) dX8_end_19 (Nat.le_of_ble_eq_true rfl) rfl ?_
  refine Ev.iload dX8_end_21 rfl ?_
  refine Ev.iload dX8_end_23 rfl ?_
  refine Ev.if_le (tgt := 32) ⟨by omega, by omega⟩ dX8_end_25 (by decide) (fun h25 => ?_) (fun h25 => ?_)
  · skip
    refine Ev.iconst dX8_end_32 ?_
    refine Ev.iload_n dX8_end_33 rfl rfl ?_
    refine Ev.icmp_ne (tgt := 45) ⟨by decide, by decide⟩ ⟨by decide, by decide⟩ dX8_end_34 (by decide) (fun h34 => ?_) (fun h34 => ?_)
    · skip
      refine Ev.iload dX8_end_45 rfl ?_
      refine Ev.callS_I (M2 := mX8_least) (args2 := [vI (((X (rO R k) : Nat) : Int))]) dX8_end_47 okX8_least lk_X8_161 osX8_least.1 osX8_least.2 (by decide) rfl (Nat.le_of_ble_eq_true rfl) (Nat.le_of_ble_eq_true rfl) (sM_least σ (X (rO R k)) (Nat.lt_of_lt_of_le (hX _ (hO _ (by omega))).2.2 (by decide))) ?_ rfl
      refine Ev.imul dX8_end_50 ?_
      exact Ev.ireturn dX8_end_51 rfl (rI (by unfold mn; split <;> first | rfl | omega) rfl)
    · skip
      refine Ev.iload dX8_end_37 rfl ?_
      refine Ev.callS_I (M2 := mX8_greatest) (args2 := [vI (((X (rO R k) : Nat) : Int))]) dX8_end_39 okX8_greatest lk_X8_158 osX8_greatest.1 osX8_greatest.2 (by decide) rfl (Nat.le_of_ble_eq_true rfl) (Nat.le_of_ble_eq_true rfl) (sM_great σ (X (rO R k)) (hX _ (hO _ (by omega))).2.2 (hX _ (hO _ (by omega))).2.1) ?_ rfl
      refine Ev.goto (tgt := 50) dX8_end_42 (by decide) ?_
      refine Ev.imul dX8_end_50 ?_
      exact Ev.ireturn dX8_end_51 rfl (rI (by unfold mn; split <;> first | rfl | omega) rfl)
  · skip
    refine Ev.iconst dX8_end_28 ?_
    refine Ev.goto (tgt := 33) dX8_end_29 (by decide) ?_
    refine Ev.iload_n dX8_end_33 rfl rfl ?_
    refine Ev.icmp_ne (tgt := 45) ⟨by decide, by decide⟩ ⟨by decide, by decide⟩ dX8_end_34 (by decide) (fun h34 => ?_) (fun h34 => ?_)
    · skip
      refine Ev.iload dX8_end_45 rfl ?_
      refine Ev.callS_I (M2 := mX8_least) (args2 := [vI (((X (rO R k) : Nat) : Int))]) dX8_end_47 okX8_least lk_X8_161 osX8_least.1 osX8_least.2 (by decide) rfl (Nat.le_of_ble_eq_true rfl) (Nat.le_of_ble_eq_true rfl) (sM_least σ (X (rO R k)) (Nat.lt_of_lt_of_le (hX _ (hO _ (by omega))).2.2 (by decide))) ?_ rfl
      refine Ev.imul dX8_end_50 ?_
      exact Ev.ireturn dX8_end_51 rfl (rI (by unfold mn; split <;> first | rfl | omega) rfl)
    · skip
      refine Ev.iload dX8_end_37 rfl ?_
      refine Ev.callS_I (M2 := mX8_greatest) (args2 := [vI (((X (rO R k) : Nat) : Int))]) dX8_end_39 okX8_greatest lk_X8_158 osX8_greatest.1 osX8_greatest.2 (by decide) rfl (Nat.le_of_ble_eq_true rfl) (Nat.le_of_ble_eq_true rfl) (sM_great σ (X (rO R k)) (hX _ (hO _ (by omega))).2.2 (hX _ (hO _ (by omega))).2.1) ?_ rfl
      refine Ev.goto (tgt := 50) dX8_end_42 (by decide) ?_
      refine Ev.imul dX8_end_50 ?_
      exact Ev.ireturn dX8_end_51 rfl (rI (by unfold mn; split <;> first | rfl | omega) rfl)

set_option maxRecDepth 100000 in
set_option maxHeartbeats 4000000 in
theorem sM_endH {g : GC} (σ : Sg) (r U : Nat) (R : RC) (X : Rg) (hr : r < 16) (hM : MR σ r R) (hW : WR U R) (hX : AV σ 294 U X) (k : Nat) (hk : k < rN R) (hA : -9 ≤ rA R k ∧ rA R k ≤ 9) : Ev g mX8_end 0 [some (vR (272)), some (vI (((r : Nat) : Int))), some (vI (((k : Nat) : Int))), some (vI (1)), none, none] [] (M0 (σ)) 0 0 (retI (mx (rA R k) (X (rO R k))) σ) := by
  obtain ⟨hK, hS, hB, hN, hP⟩ := id hM
  obtain ⟨⟨hk5, hn6, hU⟩, hO, -⟩ := id hW
  refine Ev.aload_n dX8_end_0 rfl rfl ?_
  refine gf_X8_44 rfl dX8_end_1 ltc_272 shc_272 rfc_272_15 ?_
  refine Ev.bipush (n := 6) (by decide) dX8_end_4 ?_
  refine Ev.iload_n dX8_end_6 rfl rfl ?_
  refine Ev.imul dX8_end_7 ?_
  refine Ev.iload_n dX8_end_8 rfl rfl ?_
  refine Ev.iadd dX8_end_9 ?_
  refine Ev.iaload (v := rA R k) dX8_end_10 ltc_284 shc_284 (by decide) (by omega) (by omega) (ldx (n := 6 * r + k) (by omega) (hP k (by omega)).2.1) ?_
  refine Ev.istore (pl' := [some (vR (272)), some (vI (((r : Nat) : Int))), some (vI (((k : Nat) : Int))), some (vI (1)), some (vI (rA R k)), none]) dX8_end_11 (Nat.le_of_ble_eq_true rfl) rfl ?_
  refine Ev.aload_n dX8_end_13 rfl rfl ?_
  refine Ev.iload_n dX8_end_14 rfl rfl ?_
  refine Ev.iload_n dX8_end_15 rfl rfl ?_
  refine Ev.callV_I (M2 := mX8_asideOf) (args2 := [vI (((r : Nat) : Int)), vI (((k : Nat) : Int))]) (rcv := 272) (q := (RX8, TX8, 34)) (ci := 8) dX8_end_16 okX8_asideOf lk_X8_155 ovX8_asideOf.1.1 ovX8_asideOf.1.2 ovX8_asideOf.2 (by decide) rfl rfl ltc_272 shc_272 rfl (Nat.le_of_ble_eq_true rfl) (Nat.le_of_ble_eq_true rfl) (sM_asideOf σ r U R X hr hM hW hX k (by omega)) ?_ rfl
  refine Ev.istore (pl' := [some (vR (272)), some (vI (((r : Nat) : Int))), some (vI (((k : Nat) : Int))), some (vI (1)), some (vI (rA R k)), some (vI (((X (rO R k) : Nat) : Int)))]) dX8_end_19 (Nat.le_of_ble_eq_true rfl) rfl ?_
  refine Ev.iload dX8_end_21 rfl ?_
  refine Ev.iload dX8_end_23 rfl ?_
  refine Ev.if_le (tgt := 32) ⟨by omega, by omega⟩ dX8_end_25 (by decide) (fun h25 => ?_) (fun h25 => ?_)
  · skip
    refine Ev.iconst dX8_end_32 ?_
    refine Ev.iload_n dX8_end_33 rfl rfl ?_
    refine Ev.icmp_ne (tgt := 45) ⟨by decide, by decide⟩ ⟨by decide, by decide⟩ dX8_end_34 (by decide) (fun h34 => ?_) (fun h34 => ?_)
    · skip
      refine Ev.iload dX8_end_45 rfl ?_
      refine Ev.callS_I (M2 := mX8_least) (args2 := [vI (((X (rO R k) : Nat) : Int))]) dX8_end_47 okX8_least lk_X8_161 osX8_least.1 osX8_least.2 (by decide) rfl (Nat.le_of_ble_eq_true rfl) (Nat.le_of_ble_eq_true rfl) (sM_least σ (X (rO R k)) (Nat.lt_of_lt_of_le (hX _ (hO _ (by omega))).2.2 (by decide))) ?_ rfl
      refine Ev.imul dX8_end_50 ?_
      exact Ev.ireturn dX8_end_51 rfl (rI (by unfold mx; split <;> first | rfl | omega) rfl)
    · skip
      refine Ev.iload dX8_end_37 rfl ?_
      refine Ev.callS_I (M2 := mX8_greatest) (args2 := [vI (((X (rO R k) : Nat) : Int))]) dX8_end_39 okX8_greatest lk_X8_158 osX8_greatest.1 osX8_greatest.2 (by decide) rfl (Nat.le_of_ble_eq_true rfl) (Nat.le_of_ble_eq_true rfl) (sM_great σ (X (rO R k)) (hX _ (hO _ (by omega))).2.2 (hX _ (hO _ (by omega))).2.1) ?_ rfl
      refine Ev.goto (tgt := 50) dX8_end_42 (by decide) ?_
      refine Ev.imul dX8_end_50 ?_
      exact Ev.ireturn dX8_end_51 rfl (rI (by unfold mx; split <;> first | rfl | omega) rfl)
  · skip
    refine Ev.iconst dX8_end_28 ?_
    refine Ev.goto (tgt := 33) dX8_end_29 (by decide) ?_
    refine Ev.iload_n dX8_end_33 rfl rfl ?_
    refine Ev.icmp_ne (tgt := 45) ⟨by decide, by decide⟩ ⟨by decide, by decide⟩ dX8_end_34 (by decide) (fun h34 => ?_) (fun h34 => ?_)
    · skip
      refine Ev.iload dX8_end_45 rfl ?_
      refine Ev.callS_I (M2 := mX8_least) (args2 := [vI (((X (rO R k) : Nat) : Int))]) dX8_end_47 okX8_least lk_X8_161 osX8_least.1 osX8_least.2 (by decide) rfl (Nat.le_of_ble_eq_true rfl) (Nat.le_of_ble_eq_true rfl) (sM_least σ (X (rO R k)) (Nat.lt_of_lt_of_le (hX _ (hO _ (by omega))).2.2 (by decide))) ?_ rfl
      refine Ev.imul dX8_end_50 ?_
      exact Ev.ireturn dX8_end_51 rfl (rI (by unfold mx; split <;> first | rfl | omega) rfl)
    · skip
      refine Ev.iload dX8_end_37 rfl ?_
      refine Ev.callS_I (M2 := mX8_greatest) (args2 := [vI (((X (rO R k) : Nat) : Int))]) dX8_end_39 okX8_greatest lk_X8_158 osX8_greatest.1 osX8_greatest.2 (by decide) rfl (Nat.le_of_ble_eq_true rfl) (Nat.le_of_ble_eq_true rfl) (sM_great σ (X (rO R k)) (hX _ (hO _ (by omega))).2.2 (hX _ (hO _ (by omega))).2.1) ?_ rfl
      refine Ev.goto (tgt := 50) dX8_end_42 (by decide) ?_
      refine Ev.imul dX8_end_50 ?_
      exact Ev.ireturn dX8_end_51 rfl (rI (by unfold mx; split <;> first | rfl | omega) rfl)

set_option maxRecDepth 100000 in
set_option maxHeartbeats 4000000 in
theorem sM_goesBySum_l {g : GC} (σ : Sg) (r U : Nat) (R : RC) (X : Rg) (hr : r < 16) (hM : MR σ r R) (hW : WR U R) (hX : AV σ 294 U X) (i v : Nat) (hi : i < rN R) (hv : v < 16) (hk0 : rK R = 0) : ∀ j K : Nat, K + j = rN R → Ev g mX8_goesBySum 25 [some (vR (272)), some (vI (((r : Nat) : Int))), some (vI (((i : Nat) : Int))), some (vI (((v : Nat) : Int))), some (vI (rA R i * (v : Int) + sLn R X i K)), some (vI (rA R i * (v : Int) + sHn R X i K)), some (vI (bI (sgl R X i K))), some (vI (((K : Nat) : Int))), none] [] (M0 (σ)) 0 0 (retI (bI (gSum R X i v)) σ) := by
  intro j
  induction j with
  | zero =>
    intro K hij
    obtain ⟨hK, hS, hB, hN, hP⟩ := id hM
    obtain ⟨⟨hk5, hn6, hU⟩, hO, -⟩ := id hW
    obtain ⟨hs0, hb0, hA0⟩ := hW.2.2.1 hk0
    have hav := mul_bd (a := rA R i) (v := v) (B := 9) (C := 15) (hA0 i hi) (by omega) (by decide)
    have hXR : ∀ k, k < rN R → X (rO R k) ≠ 0 ∧ X (rO R k) < 65536 := fun k hk => (hX _ (hO k hk)).2
    have hbd := sL_bd (i := i) (n := K) (R := R) (X := X) (by omega) (fun k hk => hA0 k (by omega)) (fun k hk => hXR k (by omega))
    refine Ev.iload dX8_goesBySum_25 rfl ?_
    refine Ev.aload_n dX8_goesBySum_27 rfl rfl ?_
    refine gf_X8_38 rfl dX8_goesBySum_28 ltc_272 shc_272 rfc_272_13 ?_
    refine Ev.iload_n dX8_goesBySum_31 rfl rfl ?_
    refine Ev.iaload (v := ((rN R : Nat) : Int)) dX8_goesBySum_32 ltc_282 shc_282 (by decide) (by omega) (by omega) (ldx (by omega) hN) ?_
    refine Ev.icmp_ge (tgt := 100) ⟨by omega, by omega⟩ ⟨by omega, by omega⟩ dX8_goesBySum_33 (by decide) (fun h33 => ?_) (fun h33 => ?_)
    · skip
      refine Ev.aload_n dX8_goesBySum_100 rfl rfl ?_
      refine gf_X8_28 rfl dX8_goesBySum_101 ltc_272 shc_272 rfc_272_10 ?_
      refine Ev.iload_n dX8_goesBySum_104 rfl rfl ?_
      refine Ev.iaload (v := rS R) dX8_goesBySum_105 ltc_279 shc_279 (by decide) (by omega) (by omega) (ldx (by omega) hS) ?_
      refine Ev.istore (pl' := [some (vR (272)), some (vI (((r : Nat) : Int))), some (vI (((i : Nat) : Int))), some (vI (((v : Nat) : Int))), some (vI (rA R i * (v : Int) + sLn R X i K)), some (vI (rA R i * (v : Int) + sHn R X i K)), some (vI (bI (sgl R X i K))), some (vI (rS R)), none]) dX8_goesBySum_106 (Nat.le_of_ble_eq_true rfl) rfl ?_
      refine Ev.aload_n dX8_goesBySum_108 rfl rfl ?_
      refine gf_X8_31 rfl dX8_goesBySum_109 ltc_272 shc_272 rfc_272_11 ?_
      refine Ev.iload_n dX8_goesBySum_112 rfl rfl ?_
      refine Ev.iaload (v := rB R) dX8_goesBySum_113 ltc_280 shc_280 (by decide) (by omega) (by omega) (ldx (by omega) hB) ?_
      refine Ev.istore (pl' := [some (vR (272)), some (vI (((r : Nat) : Int))), some (vI (((i : Nat) : Int))), some (vI (((v : Nat) : Int))), some (vI (rA R i * (v : Int) + sLn R X i K)), some (vI (rA R i * (v : Int) + sHn R X i K)), some (vI (bI (sgl R X i K))), some (vI (rS R)), some (vI (rB R))]) dX8_goesBySum_114 (Nat.le_of_ble_eq_true rfl) rfl ?_
      refine Ev.iload dX8_goesBySum_116 rfl ?_
      refine Ev.iconst dX8_goesBySum_118 ?_
      refine Ev.icmp_ne (tgt := 142) ⟨by omega, by omega⟩ ⟨by decide, by decide⟩ dX8_goesBySum_119 (by decide) (fun h119 => ?_) (fun h119 => ?_)
      · skip
        refine Ev.iload dX8_goesBySum_142 rfl ?_
        refine Ev.iload dX8_goesBySum_144 rfl ?_
        refine Ev.icmp_gt (tgt := 162) ⟨by omega, by omega⟩ ⟨by omega, by omega⟩ dX8_goesBySum_146 (by decide) (fun h146 => ?_) (fun h146 => ?_)
        · skip
          refine Ev.iconst dX8_goesBySum_162 ?_
          refine Ev.goto (tgt := 167) dX8_goesBySum_163 (by decide) ?_
          exact Ev.zreturn dX8_goesBySum_167 rfl (Or.inr rfl) (rI (bI_t (by first | exact (gSum_iff (K := K) (by omega)).mpr (Or.inl ⟨by omega, bI_1.mp (by assumption), by omega⟩) | exact (gSum_iff (K := K) (by omega)).mpr (Or.inr ⟨by omega, Or.inl (by omega)⟩) | exact (gSum_iff (K := K) (by omega)).mpr (Or.inr ⟨by omega, Or.inr ⟨by omega, by omega⟩⟩))) rfl)
        · skip
          refine Ev.iload dX8_goesBySum_149 rfl ?_
          refine Ev.iconst dX8_goesBySum_151 ?_
          refine Ev.icmp_ne (tgt := 166) ⟨by omega, by omega⟩ ⟨by decide, by decide⟩ dX8_goesBySum_152 (by decide) (fun h152 => ?_) (fun h152 => ?_)
          · skip
            refine Ev.iconst dX8_goesBySum_166 ?_
            exact Ev.zreturn dX8_goesBySum_167 rfl (Or.inl rfl) (rI (bI_f (by rw [gSum_iff (K := K) (by omega)]; rintro (⟨z1, z2, z3⟩ | ⟨z1, z2⟩) <;> first | omega | exact absurd z2 (bI_0.mp (by assumption)))) rfl)
          · skip
            refine Ev.iload dX8_goesBySum_155 rfl ?_
            refine Ev.iload dX8_goesBySum_157 rfl ?_
            refine Ev.icmp_ge (tgt := 166) ⟨by omega, by omega⟩ ⟨by omega, by omega⟩ dX8_goesBySum_159 (by decide) (fun h159 => ?_) (fun h159 => ?_)
            · skip
              refine Ev.iconst dX8_goesBySum_166 ?_
              exact Ev.zreturn dX8_goesBySum_167 rfl (Or.inl rfl) (rI (bI_f (by rw [gSum_iff (K := K) (by omega)]; rintro (⟨z1, z2, z3⟩ | ⟨z1, z2⟩) <;> first | omega | exact absurd z2 (bI_0.mp (by assumption)))) rfl)
            · skip
              refine Ev.iconst dX8_goesBySum_162 ?_
              refine Ev.goto (tgt := 167) dX8_goesBySum_163 (by decide) ?_
              exact Ev.zreturn dX8_goesBySum_167 rfl (Or.inr rfl) (rI (bI_t (by first | exact (gSum_iff (K := K) (by omega)).mpr (Or.inl ⟨by omega, bI_1.mp (by assumption), by omega⟩) | exact (gSum_iff (K := K) (by omega)).mpr (Or.inr ⟨by omega, Or.inl (by omega)⟩) | exact (gSum_iff (K := K) (by omega)).mpr (Or.inr ⟨by omega, Or.inr ⟨by omega, by omega⟩⟩))) rfl)
      · skip
        refine Ev.iload dX8_goesBySum_122 rfl ?_
        refine Ev.if_eq (tgt := 138) bI_inR dX8_goesBySum_124 (by decide) (fun h124 => ?_) (fun h124 => ?_)
        · skip
          refine Ev.iconst dX8_goesBySum_138 ?_
          refine Ev.goto (tgt := 167) dX8_goesBySum_139 (by decide) ?_
          exact Ev.zreturn dX8_goesBySum_167 rfl (Or.inl rfl) (rI (bI_f (by rw [gSum_iff (K := K) (by omega)]; rintro (⟨z1, z2, z3⟩ | ⟨z1, z2⟩) <;> first | omega | exact absurd z2 (bI_0.mp (by assumption)))) rfl)
        · skip
          refine Ev.iload dX8_goesBySum_127 rfl ?_
          refine Ev.iload dX8_goesBySum_129 rfl ?_
          refine Ev.icmp_ne (tgt := 138) ⟨by omega, by omega⟩ ⟨by omega, by omega⟩ dX8_goesBySum_131 (by decide) (fun h131 => ?_) (fun h131 => ?_)
          · skip
            refine Ev.iconst dX8_goesBySum_138 ?_
            refine Ev.goto (tgt := 167) dX8_goesBySum_139 (by decide) ?_
            exact Ev.zreturn dX8_goesBySum_167 rfl (Or.inl rfl) (rI (bI_f (by rw [gSum_iff (K := K) (by omega)]; rintro (⟨z1, z2, z3⟩ | ⟨z1, z2⟩) <;> first | omega | exact absurd z2 (bI_0.mp (by assumption)))) rfl)
          · skip
            refine Ev.iconst dX8_goesBySum_134 ?_
            refine Ev.goto (tgt := 167) dX8_goesBySum_135 (by decide) ?_
            exact Ev.zreturn dX8_goesBySum_167 rfl (Or.inr rfl) (rI (bI_t (by first | exact (gSum_iff (K := K) (by omega)).mpr (Or.inl ⟨by omega, bI_1.mp (by assumption), by omega⟩) | exact (gSum_iff (K := K) (by omega)).mpr (Or.inr ⟨by omega, Or.inl (by omega)⟩) | exact (gSum_iff (K := K) (by omega)).mpr (Or.inr ⟨by omega, Or.inr ⟨by omega, by omega⟩⟩))) rfl)
    · exact absurd h33 (by omega)
  | succ j ih =>
    intro K hij
    obtain ⟨hK, hS, hB, hN, hP⟩ := id hM
    obtain ⟨⟨hk5, hn6, hU⟩, hO, -⟩ := id hW
    obtain ⟨hs0, hb0, hA0⟩ := hW.2.2.1 hk0
    have hav := mul_bd (a := rA R i) (v := v) (B := 9) (C := 15) (hA0 i hi) (by omega) (by decide)
    have hXR : ∀ k, k < rN R → X (rO R k) ≠ 0 ∧ X (rO R k) < 65536 := fun k hk => (hX _ (hO k hk)).2
    have hbd := sL_bd (i := i) (n := K) (R := R) (X := X) (by omega) (fun k hk => hA0 k (by omega)) (fun k hk => hXR k (by omega))
    refine Ev.iload dX8_goesBySum_25 rfl ?_
    refine Ev.aload_n dX8_goesBySum_27 rfl rfl ?_
    refine gf_X8_38 rfl dX8_goesBySum_28 ltc_272 shc_272 rfc_272_13 ?_
    refine Ev.iload_n dX8_goesBySum_31 rfl rfl ?_
    refine Ev.iaload (v := ((rN R : Nat) : Int)) dX8_goesBySum_32 ltc_282 shc_282 (by decide) (by omega) (by omega) (ldx (by omega) hN) ?_
    refine Ev.icmp_ge (tgt := 100) ⟨by omega, by omega⟩ ⟨by omega, by omega⟩ dX8_goesBySum_33 (by decide) (fun h33 => ?_) (fun h33 => ?_)
    · exact absurd h33 (by omega)
    · skip
      refine Ev.iload dX8_goesBySum_36 rfl ?_
      refine Ev.iload_n dX8_goesBySum_38 rfl rfl ?_
      refine Ev.icmp_eq (tgt := 94) ⟨by omega, by omega⟩ ⟨by omega, by omega⟩ dX8_goesBySum_39 (by decide) (fun h39 => ?_) (fun h39 => ?_)
      · skip
        refine Ev.iinc (pl' := [some (vR (272)), some (vI (((r : Nat) : Int))), some (vI (((i : Nat) : Int))), some (vI (((v : Nat) : Int))), some (vI (rA R i * (v : Int) + sLn R X i K)), some (vI (rA R i * (v : Int) + sHn R X i K)), some (vI (bI (sgl R X i K))), some (vI (((K : Nat) : Int) + 1)), none]) dX8_goesBySum_94 rfl (Nat.le_of_ble_eq_true rfl) rfl ?_
        refine Ev.goto (tgt := 25) dX8_goesBySum_97 (by decide) ?_
        refine Ev.wk (pl' := [some (vR (272)), some (vI (((r : Nat) : Int))), some (vI (((i : Nat) : Int))), some (vI (((v : Nat) : Int))), some (vI (rA R i * (v : Int) + sLn R X i (K + 1))), some (vI (rA R i * (v : Int) + sHn R X i (K + 1))), some (vI (bI (sgl R X i (K + 1)))), some (vI ((((K + 1) : Nat) : Int))), none]) ⟨rfl, ⟨rfl, ⟨rfl, ⟨rfl, ⟨vIe (by first | (rw [sLn_ne (by omega)]; omega) | rw [sLn_eq (by omega)]), ⟨vIe (by first | (rw [sHn_ne (by omega)]; omega) | rw [sHn_eq (by omega)]), ⟨vIe (by first | exact bI_t ((sgl_ne (by omega)).mpr ⟨bI_1.mp (by assumption), by omega⟩) | exact bI_f (fun z => absurd ((sgl_ne (by omega)).mp z).1 (bI_0.mp (by assumption))) | exact bI_f (fun z => absurd ((sgl_ne (by omega)).mp z).2 (by omega)) | exact bI_congr (sgl_eq (by omega)).symm), ⟨vIe (by omega), trivial⟩⟩⟩⟩⟩⟩⟩⟩ ?_
        exact ih (K + 1) (by omega)
      · skip
        refine Ev.iload dX8_goesBySum_42 rfl ?_
        refine Ev.aload_n dX8_goesBySum_44 rfl rfl ?_
        refine Ev.iload_n dX8_goesBySum_45 rfl rfl ?_
        refine Ev.iload dX8_goesBySum_46 rfl ?_
        refine Ev.iconst dX8_goesBySum_48 ?_
        refine Ev.callV_I (M2 := mX8_end) (args2 := [vI (((r : Nat) : Int)), vI (((K : Nat) : Int)), vI (0)]) (rcv := 272) (q := (RX8, TX8, 34)) (ci := 8) dX8_goesBySum_49 okX8_end lk_X8_164 ovX8_end.1.1 ovX8_end.1.2 ovX8_end.2 (by decide) rfl rfl ltc_272 shc_272 rfl (Nat.le_of_ble_eq_true rfl) (Nat.le_of_ble_eq_true rfl) (sM_endL σ r U R X hr hM hW hX K (by omega) (hA0 _ (by omega))) ?_ rfl
        refine Ev.iadd dX8_goesBySum_52 ?_
        refine Ev.istore (pl' := [some (vR (272)), some (vI (((r : Nat) : Int))), some (vI (((i : Nat) : Int))), some (vI (((v : Nat) : Int))), some (vI ((rA R i * (v : Int) + sLn R X i K + mn (rA R K) (X (rO R K))))), some (vI (rA R i * (v : Int) + sHn R X i K)), some (vI (bI (sgl R X i K))), some (vI (((K : Nat) : Int))), none]) dX8_goesBySum_53 (Nat.le_of_ble_eq_true rfl) rfl ?_
        refine Ev.iload dX8_goesBySum_55 rfl ?_
        refine Ev.aload_n dX8_goesBySum_57 rfl rfl ?_
        refine Ev.iload_n dX8_goesBySum_58 rfl rfl ?_
        refine Ev.iload dX8_goesBySum_59 rfl ?_
        refine Ev.iconst dX8_goesBySum_61 ?_
        refine Ev.callV_I (M2 := mX8_end) (args2 := [vI (((r : Nat) : Int)), vI (((K : Nat) : Int)), vI (1)]) (rcv := 272) (q := (RX8, TX8, 34)) (ci := 8) dX8_goesBySum_62 okX8_end lk_X8_164 ovX8_end.1.1 ovX8_end.1.2 ovX8_end.2 (by decide) rfl rfl ltc_272 shc_272 rfl (Nat.le_of_ble_eq_true rfl) (Nat.le_of_ble_eq_true rfl) (sM_endH σ r U R X hr hM hW hX K (by omega) (hA0 _ (by omega))) ?_ rfl
        refine Ev.iadd dX8_goesBySum_65 ?_
        refine Ev.istore (pl' := [some (vR (272)), some (vI (((r : Nat) : Int))), some (vI (((i : Nat) : Int))), some (vI (((v : Nat) : Int))), some (vI ((rA R i * (v : Int) + sLn R X i K + mn (rA R K) (X (rO R K))))), some (vI ((rA R i * (v : Int) + sHn R X i K + mx (rA R K) (X (rO R K))))), some (vI (bI (sgl R X i K))), some (vI (((K : Nat) : Int))), none]) dX8_goesBySum_66 (Nat.le_of_ble_eq_true rfl) rfl ?_
        refine Ev.iload dX8_goesBySum_68 rfl ?_
        refine Ev.if_eq (tgt := 91) bI_inR dX8_goesBySum_70 (by decide) (fun h70 => ?_) (fun h70 => ?_)
        · skip
          refine Ev.iconst dX8_goesBySum_91 ?_
          refine Ev.istore (pl' := [some (vR (272)), some (vI (((r : Nat) : Int))), some (vI (((i : Nat) : Int))), some (vI (((v : Nat) : Int))), some (vI ((rA R i * (v : Int) + sLn R X i K + mn (rA R K) (X (rO R K))))), some (vI ((rA R i * (v : Int) + sHn R X i K + mx (rA R K) (X (rO R K))))), some (vI (0)), some (vI (((K : Nat) : Int))), none]) dX8_goesBySum_92 (Nat.le_of_ble_eq_true rfl) rfl ?_
          refine Ev.iinc (pl' := [some (vR (272)), some (vI (((r : Nat) : Int))), some (vI (((i : Nat) : Int))), some (vI (((v : Nat) : Int))), some (vI ((rA R i * (v : Int) + sLn R X i K + mn (rA R K) (X (rO R K))))), some (vI ((rA R i * (v : Int) + sHn R X i K + mx (rA R K) (X (rO R K))))), some (vI (0)), some (vI (((K : Nat) : Int) + 1)), none]) dX8_goesBySum_94 rfl (Nat.le_of_ble_eq_true rfl) rfl ?_
          refine Ev.goto (tgt := 25) dX8_goesBySum_97 (by decide) ?_
          refine Ev.wk (pl' := [some (vR (272)), some (vI (((r : Nat) : Int))), some (vI (((i : Nat) : Int))), some (vI (((v : Nat) : Int))), some (vI (rA R i * (v : Int) + sLn R X i (K + 1))), some (vI (rA R i * (v : Int) + sHn R X i (K + 1))), some (vI (bI (sgl R X i (K + 1)))), some (vI ((((K + 1) : Nat) : Int))), none]) ⟨rfl, ⟨rfl, ⟨rfl, ⟨rfl, ⟨vIe (by first | (rw [sLn_ne (by omega)]; omega) | rw [sLn_eq (by omega)]), ⟨vIe (by first | (rw [sHn_ne (by omega)]; omega) | rw [sHn_eq (by omega)]), ⟨vIe (by first | exact bI_t ((sgl_ne (by omega)).mpr ⟨bI_1.mp (by assumption), by omega⟩) | exact bI_f (fun z => absurd ((sgl_ne (by omega)).mp z).1 (bI_0.mp (by assumption))) | exact bI_f (fun z => absurd ((sgl_ne (by omega)).mp z).2 (by omega)) | exact bI_congr (sgl_eq (by omega)).symm), ⟨vIe (by omega), trivial⟩⟩⟩⟩⟩⟩⟩⟩ ?_
          exact ih (K + 1) (by omega)
        · skip
          refine Ev.aload_n dX8_goesBySum_73 rfl rfl ?_
          refine Ev.iload_n dX8_goesBySum_74 rfl rfl ?_
          refine Ev.iload dX8_goesBySum_75 rfl ?_
          refine Ev.callV_I (M2 := mX8_asideOf) (args2 := [vI (((r : Nat) : Int)), vI (((K : Nat) : Int))]) (rcv := 272) (q := (RX8, TX8, 34)) (ci := 8) dX8_goesBySum_77 okX8_asideOf lk_X8_155 ovX8_asideOf.1.1 ovX8_asideOf.1.2 ovX8_asideOf.2 (by decide) rfl rfl ltc_272 shc_272 rfl (Nat.le_of_ble_eq_true rfl) (Nat.le_of_ble_eq_true rfl) (sM_asideOf σ r U R X hr hM hW hX K (by omega)) ?_ rfl
          refine Ev.callS_I (M2 := mX8_many) (args2 := [vI (((X (rO R K) : Nat) : Int))]) dX8_goesBySum_80 okX8_many lk_X8_123 osX8_many.1 osX8_many.2 (by decide) rfl (Nat.le_of_ble_eq_true rfl) (Nat.le_of_ble_eq_true rfl) (sM_many σ (X (rO R K)) (Nat.lt_of_lt_of_le (hX _ (hO _ (by omega))).2.2 (by decide))) ?_ rfl
          refine Ev.iconst dX8_goesBySum_83 ?_
          refine Ev.icmp_ne (tgt := 91) pop_inR ⟨by decide, by decide⟩ dX8_goesBySum_84 (by decide) (fun h84 => ?_) (fun h84 => ?_)
          · skip
            refine Ev.iconst dX8_goesBySum_91 ?_
            refine Ev.istore (pl' := [some (vR (272)), some (vI (((r : Nat) : Int))), some (vI (((i : Nat) : Int))), some (vI (((v : Nat) : Int))), some (vI ((rA R i * (v : Int) + sLn R X i K + mn (rA R K) (X (rO R K))))), some (vI ((rA R i * (v : Int) + sHn R X i K + mx (rA R K) (X (rO R K))))), some (vI (0)), some (vI (((K : Nat) : Int))), none]) dX8_goesBySum_92 (Nat.le_of_ble_eq_true rfl) rfl ?_
            refine Ev.iinc (pl' := [some (vR (272)), some (vI (((r : Nat) : Int))), some (vI (((i : Nat) : Int))), some (vI (((v : Nat) : Int))), some (vI ((rA R i * (v : Int) + sLn R X i K + mn (rA R K) (X (rO R K))))), some (vI ((rA R i * (v : Int) + sHn R X i K + mx (rA R K) (X (rO R K))))), some (vI (0)), some (vI (((K : Nat) : Int) + 1)), none]) dX8_goesBySum_94 rfl (Nat.le_of_ble_eq_true rfl) rfl ?_
            refine Ev.goto (tgt := 25) dX8_goesBySum_97 (by decide) ?_
            refine Ev.wk (pl' := [some (vR (272)), some (vI (((r : Nat) : Int))), some (vI (((i : Nat) : Int))), some (vI (((v : Nat) : Int))), some (vI (rA R i * (v : Int) + sLn R X i (K + 1))), some (vI (rA R i * (v : Int) + sHn R X i (K + 1))), some (vI (bI (sgl R X i (K + 1)))), some (vI ((((K + 1) : Nat) : Int))), none]) ⟨rfl, ⟨rfl, ⟨rfl, ⟨rfl, ⟨vIe (by first | (rw [sLn_ne (by omega)]; omega) | rw [sLn_eq (by omega)]), ⟨vIe (by first | (rw [sHn_ne (by omega)]; omega) | rw [sHn_eq (by omega)]), ⟨vIe (by first | exact bI_t ((sgl_ne (by omega)).mpr ⟨bI_1.mp (by assumption), by omega⟩) | exact bI_f (fun z => absurd ((sgl_ne (by omega)).mp z).1 (bI_0.mp (by assumption))) | exact bI_f (fun z => absurd ((sgl_ne (by omega)).mp z).2 (by omega)) | exact bI_congr (sgl_eq (by omega)).symm), ⟨vIe (by omega), trivial⟩⟩⟩⟩⟩⟩⟩⟩ ?_
            exact ih (K + 1) (by omega)
          · skip
            refine Ev.iconst dX8_goesBySum_87 ?_
            refine Ev.goto (tgt := 92) dX8_goesBySum_88 (by decide) ?_
            refine Ev.istore (pl' := [some (vR (272)), some (vI (((r : Nat) : Int))), some (vI (((i : Nat) : Int))), some (vI (((v : Nat) : Int))), some (vI ((rA R i * (v : Int) + sLn R X i K + mn (rA R K) (X (rO R K))))), some (vI ((rA R i * (v : Int) + sHn R X i K + mx (rA R K) (X (rO R K))))), some (vI (1)), some (vI (((K : Nat) : Int))), none]) dX8_goesBySum_92 (Nat.le_of_ble_eq_true rfl) rfl ?_
            refine Ev.iinc (pl' := [some (vR (272)), some (vI (((r : Nat) : Int))), some (vI (((i : Nat) : Int))), some (vI (((v : Nat) : Int))), some (vI ((rA R i * (v : Int) + sLn R X i K + mn (rA R K) (X (rO R K))))), some (vI ((rA R i * (v : Int) + sHn R X i K + mx (rA R K) (X (rO R K))))), some (vI (1)), some (vI (((K : Nat) : Int) + 1)), none]) dX8_goesBySum_94 rfl (Nat.le_of_ble_eq_true rfl) rfl ?_
            refine Ev.goto (tgt := 25) dX8_goesBySum_97 (by decide) ?_
            refine Ev.wk (pl' := [some (vR (272)), some (vI (((r : Nat) : Int))), some (vI (((i : Nat) : Int))), some (vI (((v : Nat) : Int))), some (vI (rA R i * (v : Int) + sLn R X i (K + 1))), some (vI (rA R i * (v : Int) + sHn R X i (K + 1))), some (vI (bI (sgl R X i (K + 1)))), some (vI ((((K + 1) : Nat) : Int))), none]) ⟨rfl, ⟨rfl, ⟨rfl, ⟨rfl, ⟨vIe (by first | (rw [sLn_ne (by omega)]; omega) | rw [sLn_eq (by omega)]), ⟨vIe (by first | (rw [sHn_ne (by omega)]; omega) | rw [sHn_eq (by omega)]), ⟨vIe (by first | exact bI_t ((sgl_ne (by omega)).mpr ⟨bI_1.mp (by assumption), by omega⟩) | exact bI_f (fun z => absurd ((sgl_ne (by omega)).mp z).1 (bI_0.mp (by assumption))) | exact bI_f (fun z => absurd ((sgl_ne (by omega)).mp z).2 (by omega)) | exact bI_congr (sgl_eq (by omega)).symm), ⟨vIe (by omega), trivial⟩⟩⟩⟩⟩⟩⟩⟩ ?_
            exact ih (K + 1) (by omega)

set_option maxRecDepth 100000 in
set_option maxHeartbeats 4000000 in
theorem sM_goesBySum {g : GC} (σ : Sg) (r U : Nat) (R : RC) (X : Rg) (hr : r < 16) (hM : MR σ r R) (hW : WR U R) (hX : AV σ 294 U X) (i v : Nat) (hi : i < rN R) (hv : v < 16) (hk0 : rK R = 0) : Ev g mX8_goesBySum 0 [some (vR (272)), some (vI (((r : Nat) : Int))), some (vI (((i : Nat) : Int))), some (vI (((v : Nat) : Int))), none, none, none, none, none] [] (M0 (σ)) 0 0 (retI (bI (gSum R X i v)) σ) := by
  obtain ⟨hK, hS, hB, hN, hP⟩ := id hM
  obtain ⟨⟨hk5, hn6, hU⟩, hO, -⟩ := id hW
  obtain ⟨hs0, hb0, hA0⟩ := hW.2.2.1 hk0
  have hav := mul_bd (a := rA R i) (v := v) (B := 9) (C := 15) (hA0 i hi) (by omega) (by decide)
  have hXR : ∀ k, k < rN R → X (rO R k) ≠ 0 ∧ X (rO R k) < 65536 := fun k hk => (hX _ (hO k hk)).2
  refine Ev.aload_n dX8_goesBySum_0 rfl rfl ?_
  refine gf_X8_44 rfl dX8_goesBySum_1 ltc_272 shc_272 rfc_272_15 ?_
  refine Ev.bipush (n := 6) (by decide) dX8_goesBySum_4 ?_
  refine Ev.iload_n dX8_goesBySum_6 rfl rfl ?_
  refine Ev.imul dX8_goesBySum_7 ?_
  refine Ev.iload_n dX8_goesBySum_8 rfl rfl ?_
  refine Ev.iadd dX8_goesBySum_9 ?_
  refine Ev.iaload (v := rA R i) dX8_goesBySum_10 ltc_284 shc_284 (by decide) (by omega) (by omega) (ldx (n := 6 * r + i) (by omega) (hP i (by omega)).2.1) ?_
  refine Ev.iload_n dX8_goesBySum_11 rfl rfl ?_
  refine Ev.imul dX8_goesBySum_12 ?_
  refine Ev.istore (pl' := [some (vR (272)), some (vI (((r : Nat) : Int))), some (vI (((i : Nat) : Int))), some (vI (((v : Nat) : Int))), some (vI ((rA R i * ((v : Nat) : Int)))), none, none, none, none]) dX8_goesBySum_13 (Nat.le_of_ble_eq_true rfl) rfl ?_
  refine Ev.iload dX8_goesBySum_15 rfl ?_
  refine Ev.istore (pl' := [some (vR (272)), some (vI (((r : Nat) : Int))), some (vI (((i : Nat) : Int))), some (vI (((v : Nat) : Int))), some (vI ((rA R i * ((v : Nat) : Int)))), some (vI ((rA R i * ((v : Nat) : Int)))), none, none, none]) dX8_goesBySum_17 (Nat.le_of_ble_eq_true rfl) rfl ?_
  refine Ev.iconst dX8_goesBySum_19 ?_
  refine Ev.istore (pl' := [some (vR (272)), some (vI (((r : Nat) : Int))), some (vI (((i : Nat) : Int))), some (vI (((v : Nat) : Int))), some (vI ((rA R i * ((v : Nat) : Int)))), some (vI ((rA R i * ((v : Nat) : Int)))), some (vI (1)), none, none]) dX8_goesBySum_20 (Nat.le_of_ble_eq_true rfl) rfl ?_
  refine Ev.iconst dX8_goesBySum_22 ?_
  refine Ev.istore (pl' := [some (vR (272)), some (vI (((r : Nat) : Int))), some (vI (((i : Nat) : Int))), some (vI (((v : Nat) : Int))), some (vI ((rA R i * ((v : Nat) : Int)))), some (vI ((rA R i * ((v : Nat) : Int)))), some (vI (1)), some (vI (0)), none]) dX8_goesBySum_23 (Nat.le_of_ble_eq_true rfl) rfl ?_
  refine Ev.wk (pl' := [some (vR (272)), some (vI (((r : Nat) : Int))), some (vI (((i : Nat) : Int))), some (vI (((v : Nat) : Int))), some (vI (rA R i * (v : Int) + sLn R X i 0)), some (vI (rA R i * (v : Int) + sHn R X i 0)), some (vI (bI (sgl R X i 0))), some (vI (((0 : Nat) : Int))), none]) ⟨rfl, ⟨rfl, ⟨rfl, ⟨rfl, ⟨vIe (by show _ = _ + 0; omega), ⟨vIe (by show _ = _ + 0; omega), ⟨vIe (bI_t (fun k hk => absurd hk (by omega))), ⟨vIe (by omega), trivial⟩⟩⟩⟩⟩⟩⟩⟩ ?_
  exact sM_goesBySum_l σ r U R X hr hM hW hX i v hi hv hk0 (rN R) 0 (by omega)

