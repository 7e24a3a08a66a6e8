/-! THE CLASS: loads -/
theorem gn_3 {T : Tb} {R : RC} {X : Rg} {i : Nat} (h : rK R = 3) : gn T R X i = mkN 16 (fun v => (X (rO R i)).testBit v = true ∧ gLoad R X i v) := mk_congr fun j _ => by rw [goes_3 h]
/-- the needs of all that must run at a time, of the parts ahead of n -/
noncomputable def mA (R : RC) (X : Rg) (t n : Nat) : Int := sumI n (fun k => @ite Int (must (X (rO R k)) t (rA R k)) (Classical.propDecidable _) (rZ R k) 0)
theorem mA_t {R : RC} {X : Rg} {t n : Nat} (h : must (X (rO R n)) t (rA R n)) : mA R X t (n + 1) = mA R X t n + rZ R n := by simp only [mA, sumI]; rw [if_pos h]
theorem mA_f {R : RC} {X : Rg} {t n : Nat} (h : ¬ must (X (rO R n)) t (rA R n)) : mA R X t (n + 1) = mA R X t n := by simp only [mA, sumI]; rw [if_neg h]; omega
theorem mA_bd {R : RC} {X : Rg} {t n : Nat} (hn : n ≤ 6) (h : ∀ k, k < n → 0 ≤ rZ R k ∧ rZ R k ≤ 20) : -120 ≤ mA R X t n ∧ mA R X t n ≤ 120 := by
  have := sumI_bd (n := n) (f := fun k => @ite Int (must (X (rO R k)) t (rA R k)) (Classical.propDecidable _) (rZ R k) 0) (b := 20) (fun k hk => by
    have := h k hk
    try dsimp only
    split <;> omega)
  unfold mA
  omega
theorem mA_i {R : RC} {X : Rg} {i t : Nat} (hi : i < rN R) : mA R X t (rN R) = @ite Int (must (X (rO R i)) t (rA R i)) (Classical.propDecidable _) (rZ R i) 0 + needAt R X i t := by
  unfold mA needAt
  rw [sumI_but hi]
  congr 1
  apply sumI_congr
  intro k hk
  try dsimp only
  by_cases h : k = i
  · rw [if_pos h, if_neg (fun z => z.1 h)]
  · rw [if_neg h]
    by_cases h2 : must (X (rO R k)) t (rA R k)
    · rw [if_pos h2, if_pos ⟨h, h2⟩]
    · rw [if_neg h2, if_neg (fun z => h2 z.2)]
/-- whether job i at t is too much -/
def ovr (R : RC) (X : Rg) (i t : Nat) : Prop := rZ R i + needAt R X i t > rS R
theorem ovr_t {R : RC} {X : Rg} {i t : Nat} (hi : i < rN R) (h : must (X (rO R i)) t (rA R i)) : ovr R X i t ↔ mA R X t (rN R) + 0 > rS R := by
  unfold ovr; rw [mA_i hi, if_pos h]; omega
theorem ovr_f {R : RC} {X : Rg} {i t : Nat} (hi : i < rN R) (h : ¬ must (X (rO R i)) t (rA R i)) : ovr R X i t ↔ mA R X t (rN R) + rZ R i > rS R := by
  unfold ovr; rw [mA_i hi, if_neg h]; omega
set_option maxRecDepth 100000 in
set_option maxHeartbeats 4000000 in
theorem s1_ldt_l {g : GC} (σ : Sg) (r U : Nat) (R : RC) (hr : r < 56) (hM : CR σ r R) (hW : WR U R) (X : Rg) (rg : Nat) (hg : rg < 298) (hgs : sh0 rg = (1, 10)) (hgn : rg ∉ LK) (hX : AV σ rg U X) (hk3 : rK R = 3) (i v a : Nat) (hii : i < rN R) (hv : v < 16) (ha : rA R i = a) (hmu : ∀ t, t < 31 → σ 264 t = mA R X t (rN R)) : ∀ j t : Nat, t + j = v + a → v ≤ t → (∀ s, v ≤ s → s < t → ¬ ovr R X i s) → Ev g mX1_loadTakes 18 [some (vR (261)), some (vR (26 + 4 * r)), some (vI (((i : Nat) : Int))), some (vI (((v : Nat) : Int))), some (vI (((hi (X (rO R i)) : Nat) : Int))), some (vI ((((lo (X (rO R i)) + a) : Nat) : Int))), some (vI ((((v + a) : Nat) : Int))), some (vI (((t : Nat) : Int))), none] [] (M0 (σ)) 0 0 (retI (bI (gLoad R X i v)) σ) := by
  intro j
  induction j with
  | zero =>
    intro t hij hvt hno
    obtain ⟨hK, hS, hB, hN, hE, hP⟩ := id hM
    obtain ⟨⟨hk5, hn6, hU⟩, hO, -⟩ := id hW
    have hXR : ∀ k, k < rN R → X (rO R k) ≠ 0 ∧ X (rO R k) < 65536 := fun k hk => (hX _ (hO k hk)).2
    obtain ⟨hs3, hz3⟩ := hW.2.2.2.2.1 hk3
    have hai := (hz3 i hii).1
    have hbi := (hz3 i hii).2
    have hhi := hi_lt (hXR i hii).2 (hXR i hii).1
    have hlo := lo_lt (hXR i hii).2 (hXR i hii).1
    have hmb := mA_bd (X := X) (t := t) hn6 (fun k hk => (hz3 k hk).2)
    refine Ev.iload dX1_loadTakes_18 rfl ?_
    refine Ev.iload dX1_loadTakes_20 rfl ?_
    refine Ev.icmp_ge (tgt := 84) ⟨by omega, by omega⟩ ⟨by omega, by omega⟩ dX1_loadTakes_22 (by decide) (fun h22 => ?_) (fun h22 => ?_)
    · skip
      refine Ev.iconst dX1_loadTakes_84 ?_
      exact Ev.zreturn dX1_loadTakes_85 rfl (Or.inl rfl) (rI (bI_f (fun ⟨s, z1, z2, z3⟩ => hno s z1 (by omega) z3)) rfl)
    · exact absurd h22 (by omega)
  | succ j ih =>
    intro t hij hvt hno
    obtain ⟨hK, hS, hB, hN, hE, hP⟩ := id hM
    obtain ⟨⟨hk5, hn6, hU⟩, hO, -⟩ := id hW
    have hXR : ∀ k, k < rN R → X (rO R k) ≠ 0 ∧ X (rO R k) < 65536 := fun k hk => (hX _ (hO k hk)).2
    obtain ⟨hs3, hz3⟩ := hW.2.2.2.2.1 hk3
    have hai := (hz3 i hii).1
    have hbi := (hz3 i hii).2
    have hhi := hi_lt (hXR i hii).2 (hXR i hii).1
    have hlo := lo_lt (hXR i hii).2 (hXR i hii).1
    have hmb := mA_bd (X := X) (t := t) hn6 (fun k hk => (hz3 k hk).2)
    refine Ev.iload dX1_loadTakes_18 rfl ?_
    refine Ev.iload dX1_loadTakes_20 rfl ?_
    refine Ev.icmp_ge (tgt := 84) ⟨by omega, by omega⟩ ⟨by omega, by omega⟩ dX1_loadTakes_22 (by decide) (fun h22 => ?_) (fun h22 => ?_)
    · exact absurd h22 (by omega)
    · skip
      refine Ev.iload dX1_loadTakes_25 rfl ?_
      refine Ev.iload dX1_loadTakes_27 rfl ?_
      refine Ev.icmp_gt (tgt := 43) ⟨by omega, by omega⟩ ⟨by omega, by omega⟩ dX1_loadTakes_29 (by decide) (fun h29 => ?_) (fun h29 => ?_)
      · skip
        refine Ev.iconst dX1_loadTakes_43 ?_
        refine Ev.istore (pl' := [some (vR (261)), some (vR (26 + 4 * r)), some (vI (((i : Nat) : Int))), some (vI (((v : Nat) : Int))), some (vI (((hi (X (rO R i)) : Nat) : Int))), some (vI ((((lo (X (rO R i)) + a) : Nat) : Int))), some (vI ((((v + a) : Nat) : Int))), some (vI (((t : Nat) : Int))), some (vI (0))]) dX1_loadTakes_44 (Nat.le_of_ble_eq_true rfl) rfl ?_
        refine Ev.aload_n dX1_loadTakes_46 rfl rfl ?_
        refine gf_X1_20 rfl dX1_loadTakes_47 ltc_261 shc_261 rfc_261_3 ?_
        refine Ev.iload dX1_loadTakes_50 rfl ?_
        refine Ev.iaload (v := mA R X t (rN R)) dX1_loadTakes_52 ltc_264 shc_264 (by decide) (by omega) (by omega) (ldx rfl (hmu t (by omega))) ?_
        refine Ev.iload dX1_loadTakes_53 rfl ?_
        refine Ev.if_eq (tgt := 62) ⟨by decide, by decide⟩ dX1_loadTakes_55 (by decide) (fun h55 => ?_) (fun h55 => ?_)
        · skip
          refine Ev.aload_n dX1_loadTakes_62 rfl rfl ?_
          refine gf_X1_128 rfl dX1_loadTakes_63 (lt_rc (by omega)) (sh_rc (by omega)) (rf_rc7 (by omega)) ?_
          refine Ev.iload_n dX1_loadTakes_66 rfl rfl ?_
          refine Ev.iaload (v := rZ R i) dX1_loadTakes_67 (lt_rcf (by omega) (by decide)) (sh_rc3 (by omega)) (by decide) (by omega) (by omega) (ldx rfl (hP i (by omega)).2.2) ?_
          refine Ev.iadd dX1_loadTakes_68 ?_
          refine Ev.aload_n dX1_loadTakes_69 rfl rfl ?_
          refine gf_X1_86 (x := rS R) rfl dX1_loadTakes_70 (lt_rc (by omega)) (sh_rc (by omega)) hS ?_
          refine Ev.icmp_le (tgt := 78) ⟨by omega, by omega⟩ ⟨by omega, by omega⟩ dX1_loadTakes_73 (by decide) (fun h73 => ?_) (fun h73 => ?_)
          · skip
            refine Ev.iinc (pl' := [some (vR (261)), some (vR (26 + 4 * r)), some (vI (((i : Nat) : Int))), some (vI (((v : Nat) : Int))), some (vI (((hi (X (rO R i)) : Nat) : Int))), some (vI ((((lo (X (rO R i)) + a) : Nat) : Int))), some (vI ((((v + a) : Nat) : Int))), some (vI (((t : Nat) : Int) + 1)), some (vI (0))]) dX1_loadTakes_78 rfl (Nat.le_of_ble_eq_true rfl) rfl ?_
            refine Ev.goto (tgt := 18) dX1_loadTakes_81 (by decide) ?_
            refine Ev.wk (pl' := [some (vR (261)), some (vR (26 + 4 * r)), some (vI (((i : Nat) : Int))), some (vI (((v : Nat) : Int))), some (vI (((hi (X (rO R i)) : Nat) : Int))), some (vI ((((lo (X (rO R i)) + a) : Nat) : Int))), some (vI ((((v + a) : Nat) : Int))), some (vI ((((t + 1) : Nat) : Int))), none]) ⟨rfl, ⟨rfl, ⟨rfl, ⟨rfl, ⟨rfl, ⟨rfl, ⟨rfl, ⟨vIe (by omega), trivial⟩⟩⟩⟩⟩⟩⟩⟩ ?_
            exact ih (t + 1) (by omega) (by omega) (fun s h1 h2 => (Nat.lt_or_ge s t).elim (hno s h1) (fun e => by rw [show s = t by omega]; first | (rw [ovr_t hii ⟨by omega, by omega⟩]; omega) | (rw [ovr_f hii (fun z => by have z1 := z.1; have z2 := z.2; omega)]; omega)))
          · skip
            refine Ev.iconst dX1_loadTakes_76 ?_
            exact Ev.zreturn dX1_loadTakes_77 rfl (Or.inr rfl) (rI (bI_t ⟨t, by omega, by omega, by show ovr R X i t; first | (rw [ovr_t hii ⟨by omega, by omega⟩]; omega) | (rw [ovr_f hii (fun z => by have z1 := z.1; have z2 := z.2; omega)]; omega)⟩) rfl)
        · skip
          refine Ev.iconst dX1_loadTakes_58 ?_
          refine Ev.goto (tgt := 68) dX1_loadTakes_59 (by decide) ?_
          refine Ev.iadd dX1_loadTakes_68 ?_
          refine Ev.aload_n dX1_loadTakes_69 rfl rfl ?_
          refine gf_X1_86 (x := rS R) rfl dX1_loadTakes_70 (lt_rc (by omega)) (sh_rc (by omega)) hS ?_
          refine Ev.icmp_le (tgt := 78) ⟨by omega, by omega⟩ ⟨by omega, by omega⟩ dX1_loadTakes_73 (by decide) (fun h73 => ?_) (fun h73 => ?_)
          · skip
            refine Ev.iinc (pl' := [some (vR (261)), some (vR (26 + 4 * r)), some (vI (((i : Nat) : Int))), some (vI (((v : Nat) : Int))), some (vI (((hi (X (rO R i)) : Nat) : Int))), some (vI ((((lo (X (rO R i)) + a) : Nat) : Int))), some (vI ((((v + a) : Nat) : Int))), some (vI (((t : Nat) : Int) + 1)), some (vI (0))]) dX1_loadTakes_78 rfl (Nat.le_of_ble_eq_true rfl) rfl ?_
            refine Ev.goto (tgt := 18) dX1_loadTakes_81 (by decide) ?_
            refine Ev.wk (pl' := [some (vR (261)), some (vR (26 + 4 * r)), some (vI (((i : Nat) : Int))), some (vI (((v : Nat) : Int))), some (vI (((hi (X (rO R i)) : Nat) : Int))), some (vI ((((lo (X (rO R i)) + a) : Nat) : Int))), some (vI ((((v + a) : Nat) : Int))), some (vI ((((t + 1) : Nat) : Int))), none]) ⟨rfl, ⟨rfl, ⟨rfl, ⟨rfl, ⟨rfl, ⟨rfl, ⟨rfl, ⟨vIe (by omega), trivial⟩⟩⟩⟩⟩⟩⟩⟩ ?_
            exact ih (t + 1) (by omega) (by omega) (fun s h1 h2 => (Nat.lt_or_ge s t).elim (hno s h1) (fun e => by rw [show s = t by omega]; first | (rw [ovr_t hii ⟨by omega, by omega⟩]; omega) | (rw [ovr_f hii (fun z => by have z1 := z.1; have z2 := z.2; omega)]; omega)))
          · skip
            refine Ev.iconst dX1_loadTakes_76 ?_
            exact Ev.zreturn dX1_loadTakes_77 rfl (Or.inr rfl) (rI (bI_t ⟨t, by omega, by omega, by show ovr R X i t; first | (rw [ovr_t hii ⟨by omega, by omega⟩]; omega) | (rw [ovr_f hii (fun z => by have z1 := z.1; have z2 := z.2; omega)]; omega)⟩) rfl)
      · skip
        refine Ev.iload dX1_loadTakes_32 rfl ?_
        refine Ev.iload dX1_loadTakes_34 rfl ?_
        refine Ev.icmp_ge (tgt := 43) ⟨by omega, by omega⟩ ⟨by omega, by omega⟩ dX1_loadTakes_36 (by decide) (fun h36 => ?_) (fun h36 => ?_)
        · skip
          refine Ev.iconst dX1_loadTakes_43 ?_
          refine Ev.istore (pl' := [some (vR (261)), some (vR (26 + 4 * r)), some (vI (((i : Nat) : Int))), some (vI (((v : Nat) : Int))), some (vI (((hi (X (rO R i)) : Nat) : Int))), some (vI ((((lo (X (rO R i)) + a) : Nat) : Int))), some (vI ((((v + a) : Nat) : Int))), some (vI (((t : Nat) : Int))), some (vI (0))]) dX1_loadTakes_44 (Nat.le_of_ble_eq_true rfl) rfl ?_
          refine Ev.aload_n dX1_loadTakes_46 rfl rfl ?_
          refine gf_X1_20 rfl dX1_loadTakes_47 ltc_261 shc_261 rfc_261_3 ?_
          refine Ev.iload dX1_loadTakes_50 rfl ?_
          refine Ev.iaload (v := mA R X t (rN R)) dX1_loadTakes_52 ltc_264 shc_264 (by decide) (by omega) (by omega) (ldx rfl (hmu t (by omega))) ?_
          refine Ev.iload dX1_loadTakes_53 rfl ?_
          refine Ev.if_eq (tgt := 62) ⟨by decide, by decide⟩ dX1_loadTakes_55 (by decide) (fun h55 => ?_) (fun h55 => ?_)
          · skip
            refine Ev.aload_n dX1_loadTakes_62 rfl rfl ?_
            refine gf_X1_128 rfl dX1_loadTakes_63 (lt_rc (by omega)) (sh_rc (by omega)) (rf_rc7 (by omega)) ?_
            refine Ev.iload_n dX1_loadTakes_66 rfl rfl ?_
            refine Ev.iaload (v := rZ R i) dX1_loadTakes_67 (lt_rcf (by omega) (by decide)) (sh_rc3 (by omega)) (by decide) (by omega) (by omega) (ldx rfl (hP i (by omega)).2.2) ?_
            refine Ev.iadd dX1_loadTakes_68 ?_
            refine Ev.aload_n dX1_loadTakes_69 rfl rfl ?_
            refine gf_X1_86 (x := rS R) rfl dX1_loadTakes_70 (lt_rc (by omega)) (sh_rc (by omega)) hS ?_
            refine Ev.icmp_le (tgt := 78) ⟨by omega, by omega⟩ ⟨by omega, by omega⟩ dX1_loadTakes_73 (by decide) (fun h73 => ?_) (fun h73 => ?_)
            · skip
              refine Ev.iinc (pl' := [some (vR (261)), some (vR (26 + 4 * r)), some (vI (((i : Nat) : Int))), some (vI (((v : Nat) : Int))), some (vI (((hi (X (rO R i)) : Nat) : Int))), some (vI ((((lo (X (rO R i)) + a) : Nat) : Int))), some (vI ((((v + a) : Nat) : Int))), some (vI (((t : Nat) : Int) + 1)), some (vI (0))]) dX1_loadTakes_78 rfl (Nat.le_of_ble_eq_true rfl) rfl ?_
              refine Ev.goto (tgt := 18) dX1_loadTakes_81 (by decide) ?_
              refine Ev.wk (pl' := [some (vR (261)), some (vR (26 + 4 * r)), some (vI (((i : Nat) : Int))), some (vI (((v : Nat) : Int))), some (vI (((hi (X (rO R i)) : Nat) : Int))), some (vI ((((lo (X (rO R i)) + a) : Nat) : Int))), some (vI ((((v + a) : Nat) : Int))), some (vI ((((t + 1) : Nat) : Int))), none]) ⟨rfl, ⟨rfl, ⟨rfl, ⟨rfl, ⟨rfl, ⟨rfl, ⟨rfl, ⟨vIe (by omega), trivial⟩⟩⟩⟩⟩⟩⟩⟩ ?_
              exact ih (t + 1) (by omega) (by omega) (fun s h1 h2 => (Nat.lt_or_ge s t).elim (hno s h1) (fun e => by rw [show s = t by omega]; first | (rw [ovr_t hii ⟨by omega, by omega⟩]; omega) | (rw [ovr_f hii (fun z => by have z1 := z.1; have z2 := z.2; omega)]; omega)))
            · skip
              refine Ev.iconst dX1_loadTakes_76 ?_
              exact Ev.zreturn dX1_loadTakes_77 rfl (Or.inr rfl) (rI (bI_t ⟨t, by omega, by omega, by show ovr R X i t; first | (rw [ovr_t hii ⟨by omega, by omega⟩]; omega) | (rw [ovr_f hii (fun z => by have z1 := z.1; have z2 := z.2; omega)]; omega)⟩) rfl)
          · skip
            refine Ev.iconst dX1_loadTakes_58 ?_
            refine Ev.goto (tgt := 68) dX1_loadTakes_59 (by decide) ?_
            refine Ev.iadd dX1_loadTakes_68 ?_
            refine Ev.aload_n dX1_loadTakes_69 rfl rfl ?_
            refine gf_X1_86 (x := rS R) rfl dX1_loadTakes_70 (lt_rc (by omega)) (sh_rc (by omega)) hS ?_
            refine Ev.icmp_le (tgt := 78) ⟨by omega, by omega⟩ ⟨by omega, by omega⟩ dX1_loadTakes_73 (by decide) (fun h73 => ?_) (fun h73 => ?_)
            · skip
              refine Ev.iinc (pl' := [some (vR (261)), some (vR (26 + 4 * r)), some (vI (((i : Nat) : Int))), some (vI (((v : Nat) : Int))), some (vI (((hi (X (rO R i)) : Nat) : Int))), some (vI ((((lo (X (rO R i)) + a) : Nat) : Int))), some (vI ((((v + a) : Nat) : Int))), some (vI (((t : Nat) : Int) + 1)), some (vI (0))]) dX1_loadTakes_78 rfl (Nat.le_of_ble_eq_true rfl) rfl ?_
              refine Ev.goto (tgt := 18) dX1_loadTakes_81 (by decide) ?_
              refine Ev.wk (pl' := [some (vR (261)), some (vR (26 + 4 * r)), some (vI (((i : Nat) : Int))), some (vI (((v : Nat) : Int))), some (vI (((hi (X (rO R i)) : Nat) : Int))), some (vI ((((lo (X (rO R i)) + a) : Nat) : Int))), some (vI ((((v + a) : Nat) : Int))), some (vI ((((t + 1) : Nat) : Int))), none]) ⟨rfl, ⟨rfl, ⟨rfl, ⟨rfl, ⟨rfl, ⟨rfl, ⟨rfl, ⟨vIe (by omega), trivial⟩⟩⟩⟩⟩⟩⟩⟩ ?_
              exact ih (t + 1) (by omega) (by omega) (fun s h1 h2 => (Nat.lt_or_ge s t).elim (hno s h1) (fun e => by rw [show s = t by omega]; first | (rw [ovr_t hii ⟨by omega, by omega⟩]; omega) | (rw [ovr_f hii (fun z => by have z1 := z.1; have z2 := z.2; omega)]; omega)))
            · skip
              refine Ev.iconst dX1_loadTakes_76 ?_
              exact Ev.zreturn dX1_loadTakes_77 rfl (Or.inr rfl) (rI (bI_t ⟨t, by omega, by omega, by show ovr R X i t; first | (rw [ovr_t hii ⟨by omega, by omega⟩]; omega) | (rw [ovr_f hii (fun z => by have z1 := z.1; have z2 := z.2; omega)]; omega)⟩) rfl)
        · skip
          refine Ev.iconst dX1_loadTakes_39 ?_
          refine Ev.goto (tgt := 44) dX1_loadTakes_40 (by decide) ?_
          refine Ev.istore (pl' := [some (vR (261)), some (vR (26 + 4 * r)), some (vI (((i : Nat) : Int))), some (vI (((v : Nat) : Int))), some (vI (((hi (X (rO R i)) : Nat) : Int))), some (vI ((((lo (X (rO R i)) + a) : Nat) : Int))), some (vI ((((v + a) : Nat) : Int))), some (vI (((t : Nat) : Int))), some (vI (1))]) dX1_loadTakes_44 (Nat.le_of_ble_eq_true rfl) rfl ?_
          refine Ev.aload_n dX1_loadTakes_46 rfl rfl ?_
          refine gf_X1_20 rfl dX1_loadTakes_47 ltc_261 shc_261 rfc_261_3 ?_
          refine Ev.iload dX1_loadTakes_50 rfl ?_
          refine Ev.iaload (v := mA R X t (rN R)) dX1_loadTakes_52 ltc_264 shc_264 (by decide) (by omega) (by omega) (ldx rfl (hmu t (by omega))) ?_
          refine Ev.iload dX1_loadTakes_53 rfl ?_
          refine Ev.if_eq (tgt := 62) ⟨by decide, by decide⟩ dX1_loadTakes_55 (by decide) (fun h55 => ?_) (fun h55 => ?_)
          · skip
            refine Ev.aload_n dX1_loadTakes_62 rfl rfl ?_
            refine gf_X1_128 rfl dX1_loadTakes_63 (lt_rc (by omega)) (sh_rc (by omega)) (rf_rc7 (by omega)) ?_
            refine Ev.iload_n dX1_loadTakes_66 rfl rfl ?_
            refine Ev.iaload (v := rZ R i) dX1_loadTakes_67 (lt_rcf (by omega) (by decide)) (sh_rc3 (by omega)) (by decide) (by omega) (by omega) (ldx rfl (hP i (by omega)).2.2) ?_
            refine Ev.iadd dX1_loadTakes_68 ?_
            refine Ev.aload_n dX1_loadTakes_69 rfl rfl ?_
            refine gf_X1_86 (x := rS R) rfl dX1_loadTakes_70 (lt_rc (by omega)) (sh_rc (by omega)) hS ?_
            refine Ev.icmp_le (tgt := 78) ⟨by omega, by omega⟩ ⟨by omega, by omega⟩ dX1_loadTakes_73 (by decide) (fun h73 => ?_) (fun h73 => ?_)
            · skip
              refine Ev.iinc (pl' := [some (vR (261)), some (vR (26 + 4 * r)), some (vI (((i : Nat) : Int))), some (vI (((v : Nat) : Int))), some (vI (((hi (X (rO R i)) : Nat) : Int))), some (vI ((((lo (X (rO R i)) + a) : Nat) : Int))), some (vI ((((v + a) : Nat) : Int))), some (vI (((t : Nat) : Int) + 1)), some (vI (1))]) dX1_loadTakes_78 rfl (Nat.le_of_ble_eq_true rfl) rfl ?_
              refine Ev.goto (tgt := 18) dX1_loadTakes_81 (by decide) ?_
              refine Ev.wk (pl' := [some (vR (261)), some (vR (26 + 4 * r)), some (vI (((i : Nat) : Int))), some (vI (((v : Nat) : Int))), some (vI (((hi (X (rO R i)) : Nat) : Int))), some (vI ((((lo (X (rO R i)) + a) : Nat) : Int))), some (vI ((((v + a) : Nat) : Int))), some (vI ((((t + 1) : Nat) : Int))), none]) ⟨rfl, ⟨rfl, ⟨rfl, ⟨rfl, ⟨rfl, ⟨rfl, ⟨rfl, ⟨vIe (by omega), trivial⟩⟩⟩⟩⟩⟩⟩⟩ ?_
              exact ih (t + 1) (by omega) (by omega) (fun s h1 h2 => (Nat.lt_or_ge s t).elim (hno s h1) (fun e => by rw [show s = t by omega]; first | (rw [ovr_t hii ⟨by omega, by omega⟩]; omega) | (rw [ovr_f hii (fun z => by have z1 := z.1; have z2 := z.2; omega)]; omega)))
            · skip
              refine Ev.iconst dX1_loadTakes_76 ?_
              exact Ev.zreturn dX1_loadTakes_77 rfl (Or.inr rfl) (rI (bI_t ⟨t, by omega, by omega, by show ovr R X i t; first | (rw [ovr_t hii ⟨by omega, by omega⟩]; omega) | (rw [ovr_f hii (fun z => by have z1 := z.1; have z2 := z.2; omega)]; omega)⟩) rfl)
          · skip
            refine Ev.iconst dX1_loadTakes_58 ?_
            refine Ev.goto (tgt := 68) dX1_loadTakes_59 (by decide) ?_
            refine Ev.iadd dX1_loadTakes_68 ?_
            refine Ev.aload_n dX1_loadTakes_69 rfl rfl ?_
            refine gf_X1_86 (x := rS R) rfl dX1_loadTakes_70 (lt_rc (by omega)) (sh_rc (by omega)) hS ?_
            refine Ev.icmp_le (tgt := 78) ⟨by omega, by omega⟩ ⟨by omega, by omega⟩ dX1_loadTakes_73 (by decide) (fun h73 => ?_) (fun h73 => ?_)
            · skip
              refine Ev.iinc (pl' := [some (vR (261)), some (vR (26 + 4 * r)), some (vI (((i : Nat) : Int))), some (vI (((v : Nat) : Int))), some (vI (((hi (X (rO R i)) : Nat) : Int))), some (vI ((((lo (X (rO R i)) + a) : Nat) : Int))), some (vI ((((v + a) : Nat) : Int))), some (vI (((t : Nat) : Int) + 1)), some (vI (1))]) dX1_loadTakes_78 rfl (Nat.le_of_ble_eq_true rfl) rfl ?_
              refine Ev.goto (tgt := 18) dX1_loadTakes_81 (by decide) ?_
              refine Ev.wk (pl' := [some (vR (261)), some (vR (26 + 4 * r)), some (vI (((i : Nat) : Int))), some (vI (((v : Nat) : Int))), some (vI (((hi (X (rO R i)) : Nat) : Int))), some (vI ((((lo (X (rO R i)) + a) : Nat) : Int))), some (vI ((((v + a) : Nat) : Int))), some (vI ((((t + 1) : Nat) : Int))), none]) ⟨rfl, ⟨rfl, ⟨rfl, ⟨rfl, ⟨rfl, ⟨rfl, ⟨rfl, ⟨vIe (by omega), trivial⟩⟩⟩⟩⟩⟩⟩⟩ ?_
              exact ih (t + 1) (by omega) (by omega) (fun s h1 h2 => (Nat.lt_or_ge s t).elim (hno s h1) (fun e => by rw [show s = t by omega]; first | (rw [ovr_t hii ⟨by omega, by omega⟩]; omega) | (rw [ovr_f hii (fun z => by have z1 := z.1; have z2 := z.2; omega)]; omega)))
            · skip
              refine Ev.iconst dX1_loadTakes_76 ?_
              exact Ev.zreturn dX1_loadTakes_77 rfl (Or.inr rfl) (rI (bI_t ⟨t, by omega, by omega, by show ovr R X i t; first | (rw [ovr_t hii ⟨by omega, by omega⟩]; omega) | (rw [ovr_f hii (fun z => by have z1 := z.1; have z2 := z.2; omega)]; omega)⟩) rfl)

set_option maxRecDepth 100000 in
set_option maxHeartbeats 4000000 in
theorem s1_loadTakes {g : GC} (σ : Sg) (r U : Nat) (R : RC) (hr : r < 56) (hM : CR σ r R) (hW : WR U R) (X : Rg) (rg : Nat) (hg : rg < 298) (hgs : sh0 rg = (1, 10)) (hgn : rg ∉ LK) (hX : AV σ rg U X) (hk3 : rK R = 3) (i v a : Nat) (hii : i < rN R) (hv : v < 16) (ha : rA R i = a) (hmu : ∀ t, t < 31 → σ 264 t = mA R X t (rN R)) : Ev g mX1_loadTakes 0 [some (vR (261)), some (vR (26 + 4 * r)), some (vI (((i : Nat) : Int))), some (vI (((v : Nat) : Int))), some (vI (((hi (X (rO R i)) : Nat) : Int))), some (vI ((((lo (X (rO R i)) + a) : Nat) : Int))), none, none, none] [] (M0 (σ)) 0 0 (retI (bI (gLoad R X i v)) σ) := by
  obtain ⟨hK, hS, hB, hN, hE, hP⟩ := id hM
  obtain ⟨⟨hk5, hn6, hU⟩, hO, -⟩ := id hW
  have hXR : ∀ k, k < rN R → X (rO R k) ≠ 0 ∧ X (rO R k) < 65536 := fun k hk => (hX _ (hO k hk)).2
  obtain ⟨hs3, hz3⟩ := hW.2.2.2.2.1 hk3
  have hai := (hz3 i hii).1
  have hbi := (hz3 i hii).2
  have hhi := hi_lt (hXR i hii).2 (hXR i hii).1
  have hlo := lo_lt (hXR i hii).2 (hXR i hii).1
  refine Ev.iload_n dX1_loadTakes_0 rfl rfl ?_
  refine Ev.aload_n dX1_loadTakes_1 rfl rfl ?_
  refine gf_X1_59 rfl dX1_loadTakes_2 (lt_rc (by omega)) (sh_rc (by omega)) (rf_rc6 (by omega)) ?_
  refine Ev.iload_n dX1_loadTakes_5 rfl rfl ?_
  refine Ev.iaload (v := ((a : Nat) : Int)) dX1_loadTakes_6 (lt_rcf (by omega) (by decide)) (sh_rc2 (by omega)) (by decide) (by omega) (by omega) (ldx rfl ((hP i (by omega)).2.1.trans ha)) ?_
  refine Ev.iadd dX1_loadTakes_7 ?_
  refine Ev.bipush (n := 31) (by decide) dX1_loadTakes_8 ?_
  refine Ev.imin ⟨by omega, by omega⟩ ⟨by decide, by decide⟩ dX1_loadTakes_10 (tbl_i 478 (by decide +kernel)) (by decide) (Nat.le_of_ble_eq_true rfl) ?_
  refine Ev.istore (pl' := [some (vR (261)), some (vR (26 + 4 * r)), some (vI (((i : Nat) : Int))), some (vI (((v : Nat) : Int))), some (vI (((hi (X (rO R i)) : Nat) : Int))), some (vI ((((lo (X (rO R i)) + a) : Nat) : Int))), some (vI ((min ((((v : Nat) : Int) + ((a : Nat) : Int))) 31))), none, none]) dX1_loadTakes_13 (Nat.le_of_ble_eq_true rfl) rfl ?_
  refine Ev.iload_n dX1_loadTakes_15 rfl rfl ?_
  refine Ev.istore (pl' := [some (vR (261)), some (vR (26 + 4 * r)), some (vI (((i : Nat) : Int))), some (vI (((v : Nat) : Int))), some (vI (((hi (X (rO R i)) : Nat) : Int))), some (vI ((((lo (X (rO R i)) + a) : Nat) : Int))), some (vI ((min ((((v : Nat) : Int) + ((a : Nat) : Int))) 31))), some (vI (((v : Nat) : Int))), none]) dX1_loadTakes_16 (Nat.le_of_ble_eq_true rfl) rfl ?_
  refine Ev.wk (pl' := [some (vR (261)), some (vR (26 + 4 * r)), some (vI (((i : Nat) : Int))), some (vI (((v : Nat) : Int))), some (vI (((hi (X (rO R i)) : Nat) : Int))), some (vI ((((lo (X (rO R i)) + a) : Nat) : Int))), some (vI ((((v + a) : Nat) : Int))), some (vI (((v : Nat) : Int))), none]) ⟨rfl, ⟨rfl, ⟨rfl, ⟨rfl, ⟨rfl, ⟨rfl, ⟨vIe (by omega), ⟨rfl, trivial⟩⟩⟩⟩⟩⟩⟩⟩ ?_
  exact s1_ldt_l σ r U R hr hM hW X rg hg hgs hgn hX hk3 i v a hii hv ha hmu a v (by omega) (by omega) (fun s h1 h2 => absurd h2 (by omega))

set_option maxRecDepth 100000 in
set_option maxHeartbeats 4000000 in
theorem s1_ld0 {g : GC} (σ : Sg) (r U : Nat) (R : RC) (hr : r < 56) (hM : CR σ r R) (hW : WR U R) (X : Rg) (rg : Nat) (hg : rg < 298) (hgs : sh0 rg = (1, 10)) (hgn : rg ∉ LK) (hX : AV σ rg U X) {Post : Option PV → Mem → Prop} : ∀ j K : Nat, K + j = 31 → ∀ τ : Sg, Same LK σ τ → τ 263 = σ 263 → (∀ t, t < K → τ 264 t = 0) → (∀ τ : Sg, Same LK σ τ → τ 263 = σ 263 → (∀ t, t < 31 → τ 264 t = 0) → Ev g mX1_lookAtLoad 21 [some (vR (261)), some (vR (26 + 4 * r)), some (vR (rg)), none, none, none, none, none, none] [] (M0 τ) 0 0 Post) → Ev g mX1_lookAtLoad 2 [some (vR (261)), some (vR (26 + 4 * r)), some (vR (rg)), some (vI (((K : Nat) : Int))), none, none, none, none, none] [] (M0 (τ)) 0 0 (Post) := by
  intro j
  induction j with
  | zero =>
    intro K hij τ hF hJ hZ kk
    refine Ev.iload_n dX1_lookAtLoad_2 rfl rfl ?_
    refine Ev.bipush (n := 31) (by decide) dX1_lookAtLoad_3 ?_
    refine Ev.icmp_ge (tgt := 21) ⟨by omega, by omega⟩ ⟨by decide, by decide⟩ dX1_lookAtLoad_5 (by decide) (fun h5 => ?_) (fun h5 => ?_)
    · skip
      refine Ev.wk (pl' := [some (vR (261)), some (vR (26 + 4 * r)), some (vR (rg)), none, none, none, none, none, none]) ⟨rfl, ⟨rfl, ⟨rfl, trivial⟩⟩⟩ ?_
      exact kk τ hF hJ (fun t ht => hZ t (by omega))
    · exact absurd h5 (by omega)
  | succ j ih =>
    intro K hij τ hF hJ hZ kk
    refine Ev.iload_n dX1_lookAtLoad_2 rfl rfl ?_
    refine Ev.bipush (n := 31) (by decide) dX1_lookAtLoad_3 ?_
    refine Ev.icmp_ge (tgt := 21) ⟨by omega, by omega⟩ ⟨by decide, by decide⟩ dX1_lookAtLoad_5 (by decide) (fun h5 => ?_) (fun h5 => ?_)
    · exact absurd h5 (by omega)
    · skip
      refine Ev.aload_n dX1_lookAtLoad_8 rfl rfl ?_
      refine gf_X1_20 rfl dX1_lookAtLoad_9 ltc_261 shc_261 rfc_261_3 ?_
      refine Ev.iload_n dX1_lookAtLoad_12 rfl rfl ?_
      refine Ev.iconst dX1_lookAtLoad_13 ?_
      refine Ev.iastore dX1_lookAtLoad_14 ltc_264 shc_264 (by decide) (by omega) (by omega) ?_
      refine Ev.iinc (pl' := [some (vR (261)), some (vR (26 + 4 * r)), some (vR (rg)), some (vI (((K : Nat) : Int) + 1)), none, none, none, none, none]) dX1_lookAtLoad_15 rfl (Nat.le_of_ble_eq_true rfl) rfl ?_
      refine Ev.goto (tgt := 2) dX1_lookAtLoad_18 (by decide) ?_
      refine Ev.wk (pl' := [some (vR (261)), some (vR (26 + 4 * r)), some (vR (rg)), some (vI ((((K + 1) : Nat) : Int))), none, none, none, none, none]) ⟨rfl, ⟨rfl, ⟨rfl, ⟨vIe (by omega), trivial⟩⟩⟩⟩ ?_
      exact ih (K + 1) (by omega) (upC (τ) 264 (((K : Nat) : Int)).toNat (0)) (hF.up (by decide)) (by rw [upC_ne (by decide)]; exact hJ) (fun t ht => (Nat.lt_or_ge t K).elim (fun e => by rw [show ((K : Nat) : Int).toNat = K from rfl, upC_self (by omega)]; exact hZ t e) (fun e => by rw [show t = K by omega]; exact upC_at)) kk

set_option maxRecDepth 100000 in
set_option maxHeartbeats 4000000 in
theorem s1_ld1i {g : GC} (σ : Sg) (r U : Nat) (R : RC) (hr : r < 56) (hM : CR σ r R) (hW : WR U R) (X : Rg) (rg : Nat) (hg : rg < 298) (hgs : sh0 rg = (1, 10)) (hgn : rg ∉ LK) (hX : AV σ rg U X) (hk3 : rK R = 3) (K a : Nat) (hK6 : K < rN R) (ha : rA R K = a) {Post : Option PV → Mem → Prop} : ∀ j t : Nat, t + j = max (hi (X (rO R K))) (lo (X (rO R K)) + a) → hi (X (rO R K)) ≤ t → ∀ τ : Sg, Same LK σ τ → τ 263 = σ 263 → (∀ s, s < 31 → s < t → τ 264 s = mA R X s (K + 1)) → (∀ s, s < 31 → t ≤ s → τ 264 s = mA R X s K) → (∀ τ : Sg, Same LK σ τ → τ 263 = σ 263 → (∀ s, s < 31 → τ 264 s = mA R X s (K + 1)) → Ev g mX1_lookAtLoad 100 [some (vR (261)), some (vR (26 + 4 * r)), some (vR (rg)), some (vI (((K : Nat) : Int))), none, none, none, none, none] [] (M0 τ) 0 0 Post) → Ev g mX1_lookAtLoad 71 [some (vR (261)), some (vR (26 + 4 * r)), some (vR (rg)), some (vI (((K : Nat) : Int))), some (vI (((X (rO R K) : Nat) : Int))), some (vI ((((lo (X (rO R K)) + a) : Nat) : Int))), some (vI (((t : Nat) : Int))), none, none] [] (M0 (τ)) 0 0 (Post) := by
  intro j
  induction j with
  | zero =>
    intro t hij hht τ hF hJ hG1 hG2 kk
    have hF0 := hF
    have hM := hM.same hF (fun j hj => nLK (by omega))
    have hX := hX.same hF hgn
    obtain ⟨hK, hS, hB, hN, hE, hP⟩ := id hM
    obtain ⟨⟨hk5, hn6, hU⟩, hO, -⟩ := id hW
    have hXR : ∀ k, k < rN R → X (rO R k) ≠ 0 ∧ X (rO R k) < 65536 := fun k hk => (hX _ (hO k hk)).2
    obtain ⟨hs3, hz3⟩ := hW.2.2.2.2.1 hk3
    have haK := (hz3 K hK6).1
    have hhi := hi_lt (hXR K hK6).2 (hXR K hK6).1
    have hlo := lo_lt (hXR K hK6).2 (hXR K hK6).1
    refine Ev.iload dX1_lookAtLoad_71 rfl ?_
    refine Ev.iload dX1_lookAtLoad_73 rfl ?_
    refine Ev.icmp_ge (tgt := 100) ⟨by omega, by omega⟩ ⟨by omega, by omega⟩ dX1_lookAtLoad_75 (by decide) (fun h75 => ?_) (fun h75 => ?_)
    · skip
      refine Ev.wk (pl' := [some (vR (261)), some (vR (26 + 4 * r)), some (vR (rg)), some (vI (((K : Nat) : Int))), none, none, none, none, none]) ⟨rfl, ⟨rfl, ⟨rfl, ⟨rfl, trivial⟩⟩⟩⟩ ?_
      exact kk τ hF0 hJ (fun s hs => (Nat.lt_or_ge s t).elim (hG1 s hs) (fun e => by rw [hG2 s hs e, mA_f (fun z => by have z1 := z.1; have z2 := z.2; omega)]))
    · exact absurd h75 (by omega)
  | succ j ih =>
    intro t hij hht τ hF hJ hG1 hG2 kk
    have hF0 := hF
    have hM := hM.same hF (fun j hj => nLK (by omega))
    have hX := hX.same hF hgn
    obtain ⟨hK, hS, hB, hN, hE, hP⟩ := id hM
    obtain ⟨⟨hk5, hn6, hU⟩, hO, -⟩ := id hW
    have hXR : ∀ k, k < rN R → X (rO R k) ≠ 0 ∧ X (rO R k) < 65536 := fun k hk => (hX _ (hO k hk)).2
    obtain ⟨hs3, hz3⟩ := hW.2.2.2.2.1 hk3
    have haK := (hz3 K hK6).1
    have hhi := hi_lt (hXR K hK6).2 (hXR K hK6).1
    have hlo := lo_lt (hXR K hK6).2 (hXR K hK6).1
    refine Ev.iload dX1_lookAtLoad_71 rfl ?_
    refine Ev.iload dX1_lookAtLoad_73 rfl ?_
    refine Ev.icmp_ge (tgt := 100) ⟨by omega, by omega⟩ ⟨by omega, by omega⟩ dX1_lookAtLoad_75 (by decide) (fun h75 => ?_) (fun h75 => ?_)
    · skip
      refine Ev.wk (pl' := [some (vR (261)), some (vR (26 + 4 * r)), some (vR (rg)), some (vI (((K : Nat) : Int))), none, none, none, none, none]) ⟨rfl, ⟨rfl, ⟨rfl, ⟨rfl, trivial⟩⟩⟩⟩ ?_
      exact kk τ hF0 hJ (fun s hs => (Nat.lt_or_ge s t).elim (hG1 s hs) (fun e => by rw [hG2 s hs e, mA_f (fun z => by have z1 := z.1; have z2 := z.2; omega)]))
    · skip
      refine Ev.aload_n dX1_lookAtLoad_78 rfl rfl ?_
      refine gf_X1_20 rfl dX1_lookAtLoad_79 ltc_261 shc_261 rfc_261_3 ?_
      refine Ev.iload dX1_lookAtLoad_82 rfl ?_
      refine Ev.dup2RI dX1_lookAtLoad_84 ?_
      refine Ev.iaload (v := mA R X t K) dX1_lookAtLoad_85 ltc_264 shc_264 (by decide) (by omega) (by omega) (ldx rfl (hG2 t (by omega) (by omega))) ?_
      refine Ev.aload_n dX1_lookAtLoad_86 rfl rfl ?_
      refine gf_X1_128 rfl dX1_lookAtLoad_87 (lt_rc (by omega)) (sh_rc (by omega)) (rf_rc7 (by omega)) ?_
      refine Ev.iload_n dX1_lookAtLoad_90 rfl rfl ?_
      refine Ev.iaload (v := rZ R K) dX1_lookAtLoad_91 (lt_rcf (by omega) (by decide)) (sh_rc3 (by omega)) (by decide) (by omega) (by omega) (ldx rfl (hP K (by omega)).2.2) ?_
      refine Ev.iadd dX1_lookAtLoad_92 ?_
      refine Ev.iastore dX1_lookAtLoad_93 ltc_264 shc_264 (by decide) (by omega) (by omega) ?_
      refine Ev.iinc (pl' := [some (vR (261)), some (vR (26 + 4 * r)), some (vR (rg)), some (vI (((K : Nat) : Int))), some (vI (((X (rO R K) : Nat) : Int))), some (vI ((((lo (X (rO R K)) + a) : Nat) : Int))), some (vI (((t : Nat) : Int) + 1)), none, none]) dX1_lookAtLoad_94 rfl (Nat.le_of_ble_eq_true rfl) rfl ?_
      refine Ev.goto (tgt := 71) dX1_lookAtLoad_97 (by decide) ?_
      refine Ev.wk (pl' := [some (vR (261)), some (vR (26 + 4 * r)), some (vR (rg)), some (vI (((K : Nat) : Int))), some (vI (((X (rO R K) : Nat) : Int))), some (vI ((((lo (X (rO R K)) + a) : Nat) : Int))), some (vI ((((t + 1) : Nat) : Int))), none, none]) ⟨rfl, ⟨rfl, ⟨rfl, ⟨rfl, ⟨rfl, ⟨rfl, ⟨vIe (by omega), trivial⟩⟩⟩⟩⟩⟩⟩ ?_
      exact ih (t + 1) (by omega) (by omega) (upC (τ) 264 (((t : Nat) : Int)).toNat ((mA R X t K + rZ R K))) (hF0.up (by decide)) (by rw [upC_ne (by decide)]; exact hJ) (fun s hs1 hs2 => (Nat.lt_or_ge s t).elim (fun e => by rw [show ((t : Nat) : Int).toNat = t from rfl, upC_self (by omega)]; exact hG1 s hs1 e) (fun e => by rw [show s = t by omega, mA_t ⟨by omega, by omega⟩]; exact upC_at)) (fun s hs1 hs2 => by rw [show ((t : Nat) : Int).toNat = t from rfl, upC_self (by omega)]; exact hG2 s hs1 (by omega)) kk

set_option maxRecDepth 100000 in
set_option maxHeartbeats 4000000 in
theorem s1_ld1 {g : GC} (σ : Sg) (r U : Nat) (R : RC) (hr : r < 56) (hM : CR σ r R) (hW : WR U R) (X : Rg) (rg : Nat) (hg : rg < 298) (hgs : sh0 rg = (1, 10)) (hgn : rg ∉ LK) (hX : AV σ rg U X) (hk3 : rK R = 3) {Post : Option PV → Mem → Prop} : ∀ j K : Nat, K + j = rN R → ∀ τ : Sg, Same LK σ τ → τ 263 = σ 263 → (∀ s, s < 31 → τ 264 s = mA R X s K) → (∀ τ : Sg, Same LK σ τ → τ 263 = σ 263 → (∀ s, s < 31 → τ 264 s = mA R X s (rN R)) → Ev g mX1_lookAtLoad 106 [some (vR (261)), some (vR (26 + 4 * r)), some (vR (rg)), none, none, none, none, none, none] [] (M0 τ) 0 0 Post) → Ev g mX1_lookAtLoad 23 [some (vR (261)), some (vR (26 + 4 * r)), some (vR (rg)), some (vI (((K : Nat) : Int))), none, none, none, none, none] [] (M0 (τ)) 0 0 (Post) := by
  intro j
  induction j with
  | zero =>
    intro K hij τ hF hJ hG kk
    have hM0 := hM
    have hX0 := hX
    have hF0 := hF
    have hM := hM.same hF (fun j hj => nLK (by omega))
    have hX := hX.same hF hgn
    obtain ⟨hK, hS, hB, hN, hE, hP⟩ := id hM
    obtain ⟨⟨hk5, hn6, hU⟩, hO, -⟩ := id hW
    have hXR : ∀ k, k < rN R → X (rO R k) ≠ 0 ∧ X (rO R k) < 65536 := fun k hk => (hX _ (hO k hk)).2
    obtain ⟨hs3, hz3⟩ := hW.2.2.2.2.1 hk3
    refine Ev.iload_n dX1_lookAtLoad_23 rfl rfl ?_
    refine Ev.aload_n dX1_lookAtLoad_24 rfl rfl ?_
    refine gf_X1_53 (x := ((rN R : Nat) : Int)) rfl dX1_lookAtLoad_25 (lt_rc (by omega)) (sh_rc (by omega)) hN ?_
    refine Ev.icmp_ge (tgt := 106) ⟨by omega, by omega⟩ ⟨by omega, by omega⟩ dX1_lookAtLoad_28 (by decide) (fun h28 => ?_) (fun h28 => ?_)
    · skip
      refine Ev.wk (pl' := [some (vR (261)), some (vR (26 + 4 * r)), some (vR (rg)), none, none, none, none, none, none]) ⟨rfl, ⟨rfl, ⟨rfl, trivial⟩⟩⟩ ?_
      exact kk τ hF0 hJ (fun s hs => by rw [hG s hs, show K = rN R by omega])
    · exact absurd h28 (by omega)
  | succ j ih =>
    intro K hij τ hF hJ hG kk
    have hM0 := hM
    have hX0 := hX
    have hF0 := hF
    have hM := hM.same hF (fun j hj => nLK (by omega))
    have hX := hX.same hF hgn
    obtain ⟨hK, hS, hB, hN, hE, hP⟩ := id hM
    obtain ⟨⟨hk5, hn6, hU⟩, hO, -⟩ := id hW
    have hXR : ∀ k, k < rN R → X (rO R k) ≠ 0 ∧ X (rO R k) < 65536 := fun k hk => (hX _ (hO k hk)).2
    obtain ⟨hs3, hz3⟩ := hW.2.2.2.2.1 hk3
    obtain ⟨a, ha⟩ : ∃ a : Nat, rA R K = a := ⟨(rA R K).toNat, by have := (hz3 K (by omega)).1; omega⟩
    have haK := (hz3 K (by omega)).1
    have hhi := hi_lt (hXR K (by omega)).2 (hXR K (by omega)).1
    have hlo := lo_lt (hXR K (by omega)).2 (hXR K (by omega)).1
    refine Ev.iload_n dX1_lookAtLoad_23 rfl rfl ?_
    refine Ev.aload_n dX1_lookAtLoad_24 rfl rfl ?_
    refine gf_X1_53 (x := ((rN R : Nat) : Int)) rfl dX1_lookAtLoad_25 (lt_rc (by omega)) (sh_rc (by omega)) hN ?_
    refine Ev.icmp_ge (tgt := 106) ⟨by omega, by omega⟩ ⟨by omega, by omega⟩ dX1_lookAtLoad_28 (by decide) (fun h28 => ?_) (fun h28 => ?_)
    · exact absurd h28 (by omega)
    · skip
      refine Ev.aload_n dX1_lookAtLoad_31 rfl rfl ?_
      refine Ev.aload_n dX1_lookAtLoad_32 rfl rfl ?_
      refine gf_X1_56 rfl dX1_lookAtLoad_33 (lt_rc (by omega)) (sh_rc (by omega)) (rf_rc5 (by omega)) ?_
      refine Ev.iload_n dX1_lookAtLoad_36 rfl rfl ?_
      refine Ev.iaload (v := ((rO R K : Nat) : Int)) dX1_lookAtLoad_37 (lt_rcf (by omega) (by decide)) (sh_rc1 (by omega)) (by decide) (by omega) (by omega) (ldx rfl (hP K (by omega)).1) ?_
      refine Ev.iaload (v := ((X (rO R K) : Nat) : Int)) dX1_lookAtLoad_38 hg hgs (by decide) (by omega) (Int.ofNat_lt.mpr (Nat.lt_of_lt_of_le (hO _ (by omega)) hU)) (ldx rfl (hX _ (hO _ (by omega))).1) ?_
      refine Ev.istore (pl' := [some (vR (261)), some (vR (26 + 4 * r)), some (vR (rg)), some (vI (((K : Nat) : Int))), some (vI (((X (rO R K) : Nat) : Int))), none, none, none, none]) dX1_lookAtLoad_39 (Nat.le_of_ble_eq_true rfl) rfl ?_
      refine Ev.iload dX1_lookAtLoad_41 rfl ?_
      refine Ev.callSN_I (M2 := mX7_least) (args2 := [vI (((X (rO R K) : Nat) : Int))]) (host := "NarrowingKernel") dX1_lookAtLoad_43 okX7_least (show _ ∈ nestL from by decide) osX7_least.1 osX7_least.2 (by decide) rfl (Nat.le_of_ble_eq_true rfl) (Nat.le_of_ble_eq_true rfl) (s7_least τ (X (rO R K)) (hX _ (hO _ (by omega))).2.2 (hX _ (hO _ (by omega))).2.1) ?_ rfl
      refine Ev.aload_n dX1_lookAtLoad_46 rfl rfl ?_
      refine gf_X1_59 rfl dX1_lookAtLoad_47 (lt_rc (by omega)) (sh_rc (by omega)) (rf_rc6 (by omega)) ?_
      refine Ev.iload_n dX1_lookAtLoad_50 rfl rfl ?_
      refine Ev.iaload (v := ((a : Nat) : Int)) dX1_lookAtLoad_51 (lt_rcf (by omega) (by decide)) (sh_rc2 (by omega)) (by decide) (by omega) (by omega) (ldx rfl ((hP K (by omega)).2.1.trans ha)) ?_
      refine Ev.iadd dX1_lookAtLoad_52 ?_
      refine Ev.bipush (n := 31) (by decide) dX1_lookAtLoad_53 ?_
      refine Ev.imin ⟨by omega, by omega⟩ ⟨by decide, by decide⟩ dX1_lookAtLoad_55 (tbl_i 478 (by decide +kernel)) (by decide) (Nat.le_of_ble_eq_true rfl) ?_
      rw [show (min ((((lo (X (rO R K)) : Nat) : Int) + ((a : Nat) : Int))) 31) = (((lo (X (rO R K)) + a) : Nat) : Int) from by omega]
      refine Ev.istore (pl' := [some (vR (261)), some (vR (26 + 4 * r)), some (vR (rg)), some (vI (((K : Nat) : Int))), some (vI (((X (rO R K) : Nat) : Int))), some (vI ((((lo (X (rO R K)) + a) : Nat) : Int))), none, none, none]) dX1_lookAtLoad_58 (Nat.le_of_ble_eq_true rfl) rfl ?_
      refine Ev.iload dX1_lookAtLoad_60 rfl ?_
      refine Ev.callSN_I (M2 := mX7_greatest) (args2 := [vI (((X (rO R K) : Nat) : Int))]) (host := "NarrowingKernel") dX1_lookAtLoad_62 okX7_greatest (show _ ∈ nestL from by decide) osX7_greatest.1 osX7_greatest.2 (by decide) rfl (Nat.le_of_ble_eq_true rfl) (Nat.le_of_ble_eq_true rfl) (s7_greatest τ (X (rO R K)) (hX _ (hO _ (by omega))).2.2 (hX _ (hO _ (by omega))).2.1) ?_ rfl
      refine Ev.iconst dX1_lookAtLoad_65 ?_
      refine Ev.imax ⟨by omega, by omega⟩ ⟨by decide, by decide⟩ dX1_lookAtLoad_66 (tbl_i 485 (by decide +kernel)) (by decide) (Nat.le_of_ble_eq_true rfl) ?_
      rw [show (max (((hi (X (rO R K)) : Nat) : Int)) 0) = ((hi (X (rO R K)) : Nat) : Int) from by omega]
      refine Ev.istore (pl' := [some (vR (261)), some (vR (26 + 4 * r)), some (vR (rg)), some (vI (((K : Nat) : Int))), some (vI (((X (rO R K) : Nat) : Int))), some (vI ((((lo (X (rO R K)) + a) : Nat) : Int))), some (vI (((hi (X (rO R K)) : Nat) : Int))), none, none]) dX1_lookAtLoad_69 (Nat.le_of_ble_eq_true rfl) rfl ?_
      refine Ev.wk (pl' := [some (vR (261)), some (vR (26 + 4 * r)), some (vR (rg)), some (vI (((K : Nat) : Int))), some (vI (((X (rO R K) : Nat) : Int))), some (vI ((((lo (X (rO R K)) + a) : Nat) : Int))), some (vI ((((hi (X (rO R K))) : Nat) : Int))), none, none]) ⟨rfl, ⟨rfl, ⟨rfl, ⟨rfl, ⟨rfl, ⟨rfl, ⟨vIe (by omega), trivial⟩⟩⟩⟩⟩⟩⟩ ?_
      refine s1_ld1i σ r U R hr hM0 hW X rg hg hgs hgn hX0 hk3 K a (by omega) ha (max (hi (X (rO R K))) (lo (X (rO R K)) + a) - hi (X (rO R K))) (hi (X (rO R K))) (by omega) (Nat.le_refl _) τ hF0 hJ (fun s hs hs2 => by rw [hG s hs, mA_f (fun z => by have z1 := z.1; omega)]) (fun s hs _ => hG s hs) (fun ρ qF qJ qG => ?_)
      refine Ev.iinc (pl' := [some (vR (261)), some (vR (26 + 4 * r)), some (vR (rg)), some (vI (((K : Nat) : Int) + 1)), none, none, none, none, none]) dX1_lookAtLoad_100 rfl (Nat.le_of_ble_eq_true rfl) rfl ?_
      refine Ev.goto (tgt := 23) dX1_lookAtLoad_103 (by decide) ?_
      refine Ev.wk (pl' := [some (vR (261)), some (vR (26 + 4 * r)), some (vR (rg)), some (vI ((((K + 1) : Nat) : Int))), none, none, none, none, none]) ⟨rfl, ⟨rfl, ⟨rfl, ⟨vIe (by omega), trivial⟩⟩⟩⟩ ?_
      exact ih (K + 1) (by omega) ρ qF qJ qG kk

set_option maxRecDepth 100000 in
set_option maxHeartbeats 4000000 in
theorem s1_ld2i {g : GC} (σ : Sg) (r U : Nat) (R : RC) (hr : r < 56) (hM : CR σ r R) (hW : WR U R) (X : Rg) (rg : Nat) (hg : rg < 298) (hgs : sh0 rg = (1, 10)) (hgn : rg ∉ LK) (hX : AV σ rg U X) (hk3 : rK R = 3) (i a : Nat) (hii : i < rN R) (ha : rA R i = a) (hmu : ∀ t, t < 31 → σ 264 t = mA R X t (rN R)) {Post : Option PV → Mem → Prop} : ∀ j K : Nat, K + j = 16 → Ev g mX1_lookAtLoad 200 [some (vR (261)), some (vR (26 + 4 * r)), some (vR (rg)), some (vI (((i : Nat) : Int))), none, none, none, some (vI (((mkN 16 (fun v => (X (rO R i)).testBit v = true ∧ gLoad R X i v) : Nat) : Int))), none] [] (M0 (σ)) 0 0 Post → Ev g mX1_lookAtLoad 153 [some (vR (261)), some (vR (26 + 4 * r)), some (vR (rg)), some (vI (((i : Nat) : Int))), some (vI (((X (rO R i) : Nat) : Int))), some (vI (((hi (X (rO R i)) : Nat) : Int))), some (vI ((((lo (X (rO R i)) + a) : Nat) : Int))), some (vI (((mkN K (fun v => (X (rO R i)).testBit v = true ∧ gLoad R X i v) : Nat) : Int))), some (vI (((K : Nat) : Int)))] [] (M0 (σ)) 0 0 (Post) := by
  intro j
  induction j with
  | zero =>
    intro K hij kk
    obtain ⟨hK, hS, hB, hN, hE, hP⟩ := id hM
    obtain ⟨⟨hk5, hn6, hU⟩, hO, -⟩ := id hW
    have hXR : ∀ k, k < rN R → X (rO R k) ≠ 0 ∧ X (rO R k) < 65536 := fun k hk => (hX _ (hO k hk)).2
    obtain ⟨hs3, hz3⟩ := hW.2.2.2.2.1 hk3
    have hxi := hXR i hii
    have hm16 := mkN_16 (fun v => (X (rO R i)).testBit v = true ∧ gLoad R X i v) (show K ≤ 16 by omega)
    refine Ev.iload dX1_lookAtLoad_153 rfl ?_
    refine Ev.bipush (n := 16) (by decide) dX1_lookAtLoad_155 ?_
    refine Ev.icmp_ge (tgt := 200) ⟨by omega, by omega⟩ ⟨by decide, by decide⟩ dX1_lookAtLoad_157 (by decide) (fun h157 => ?_) (fun h157 => ?_)
    · skip
      refine Ev.wk (pl' := [some (vR (261)), some (vR (26 + 4 * r)), some (vR (rg)), some (vI (((i : Nat) : Int))), none, none, none, some (vI (((mkN 16 (fun v => (X (rO R i)).testBit v = true ∧ gLoad R X i v) : Nat) : Int))), none]) ⟨rfl, ⟨rfl, ⟨rfl, ⟨rfl, ⟨vIe (by rw [show K = 16 by omega]), trivial⟩⟩⟩⟩⟩ ?_
      exact kk
    · exact absurd h157 (by omega)
  | succ j ih =>
    intro K hij kk
    obtain ⟨hK, hS, hB, hN, hE, hP⟩ := id hM
    obtain ⟨⟨hk5, hn6, hU⟩, hO, -⟩ := id hW
    have hXR : ∀ k, k < rN R → X (rO R k) ≠ 0 ∧ X (rO R k) < 65536 := fun k hk => (hX _ (hO k hk)).2
    obtain ⟨hs3, hz3⟩ := hW.2.2.2.2.1 hk3
    have hxi := hXR i hii
    have hm16 := mkN_16 (fun v => (X (rO R i)).testBit v = true ∧ gLoad R X i v) (show K ≤ 16 by omega)
    have hp16 := pow_le16 (show K < 16 by omega)
    refine Ev.iload dX1_lookAtLoad_153 rfl ?_
    refine Ev.bipush (n := 16) (by decide) dX1_lookAtLoad_155 ?_
    refine Ev.icmp_ge (tgt := 200) ⟨by omega, by omega⟩ ⟨by decide, by decide⟩ dX1_lookAtLoad_157 (by decide) (fun h157 => ?_) (fun h157 => ?_)
    · exact absurd h157 (by omega)
    · skip
      refine Ev.iload dX1_lookAtLoad_160 rfl ?_
      refine Ev.iload dX1_lookAtLoad_162 rfl ?_
      refine Ev.ishr dX1_lookAtLoad_164 ?_
      refine Ev.iconst dX1_lookAtLoad_165 ?_
      refine Ev.iand dX1_lookAtLoad_166 ?_
      rw [show (iAnd ((iShr (((X (rO R i) : Nat) : Int)) (((K : Nat) : Int)))) (1)) = (((b2 (Nat.testBit (X (rO R i)) K)) : Nat) : Int) from bit_nat (by omega) (by omega)]
      refine Ev.if_eq (tgt := 194) b2_inR dX1_lookAtLoad_167 (by decide) (fun h167 => ?_) (fun h167 => ?_)
      · skip
        refine Ev.iinc (pl' := [some (vR (261)), some (vR (26 + 4 * r)), some (vR (rg)), some (vI (((i : Nat) : Int))), some (vI (((X (rO R i) : Nat) : Int))), some (vI (((hi (X (rO R i)) : Nat) : Int))), some (vI ((((lo (X (rO R i)) + a) : Nat) : Int))), some (vI (((mkN K (fun v => (X (rO R i)).testBit v = true ∧ gLoad R X i v) : Nat) : Int))), some (vI (((K : Nat) : Int) + 1))]) dX1_lookAtLoad_194 rfl (Nat.le_of_ble_eq_true rfl) rfl ?_
        refine Ev.goto (tgt := 153) dX1_lookAtLoad_197 (by decide) ?_
        refine Ev.wk (pl' := [some (vR (261)), some (vR (26 + 4 * r)), some (vR (rg)), some (vI (((i : Nat) : Int))), some (vI (((X (rO R i) : Nat) : Int))), some (vI (((hi (X (rO R i)) : Nat) : Int))), some (vI ((((lo (X (rO R i)) + a) : Nat) : Int))), some (vI (((mkN (K + 1) (fun v => (X (rO R i)).testBit v = true ∧ gLoad R X i v) : Nat) : Int))), some (vI ((((K + 1) : Nat) : Int)))]) ⟨rfl, ⟨rfl, ⟨rfl, ⟨rfl, ⟨rfl, ⟨rfl, ⟨rfl, ⟨vIe (by first | rw [mkN_t ⟨b2_ne.mp (by assumption), bI_1.mp (by assumption)⟩] | rw [mkN_f (fun z => bI_0.mp (by assumption) z.2)] | rw [mkN_f (fun z => by have z2 := b2_0.mp (by assumption); rw [z2] at z; exact absurd z.1 (by decide))]), ⟨vIe (by omega), trivial⟩⟩⟩⟩⟩⟩⟩⟩⟩ ?_
        exact ih (K + 1) (by omega) kk
      · skip
        refine Ev.aload_n dX1_lookAtLoad_170 rfl rfl ?_
        refine Ev.aload_n dX1_lookAtLoad_171 rfl rfl ?_
        refine Ev.iload_n dX1_lookAtLoad_172 rfl rfl ?_
        refine Ev.iload dX1_lookAtLoad_173 rfl ?_
        refine Ev.iload dX1_lookAtLoad_175 rfl ?_
        refine Ev.iload dX1_lookAtLoad_177 rfl ?_
        refine Ev.callV_I (M2 := mX1_loadTakes) (args2 := [vR (26 + 4 * r), vI (((i : Nat) : Int)), vI (((K : Nat) : Int)), vI (((hi (X (rO R i)) : Nat) : Int)), vI ((((lo (X (rO R i)) + a) : Nat) : Int))]) (rcv := 261) (q := (RX1, TX1, 5)) (ci := 1) dX1_lookAtLoad_179 okX1_loadTakes lk_X1_131 ovX1_loadTakes.1.1 ovX1_loadTakes.1.2 ovX1_loadTakes.2 (by decide) rfl rfl ltc_261 shc_261 rfl (Nat.le_of_ble_eq_true rfl) (Nat.le_of_ble_eq_true rfl) (s1_loadTakes σ r U R hr hM hW X rg hg hgs hgn hX hk3 i K a hii (by omega) ha hmu) ?_ rfl
        refine Ev.if_eq (tgt := 194) bI_inR dX1_lookAtLoad_182 (by decide) (fun h182 => ?_) (fun h182 => ?_)
        · skip
          refine Ev.iinc (pl' := [some (vR (261)), some (vR (26 + 4 * r)), some (vR (rg)), some (vI (((i : Nat) : Int))), some (vI (((X (rO R i) : Nat) : Int))), some (vI (((hi (X (rO R i)) : Nat) : Int))), some (vI ((((lo (X (rO R i)) + a) : Nat) : Int))), some (vI (((mkN K (fun v => (X (rO R i)).testBit v = true ∧ gLoad R X i v) : Nat) : Int))), some (vI (((K : Nat) : Int) + 1))]) dX1_lookAtLoad_194 rfl (Nat.le_of_ble_eq_true rfl) rfl ?_
          refine Ev.goto (tgt := 153) dX1_lookAtLoad_197 (by decide) ?_
          refine Ev.wk (pl' := [some (vR (261)), some (vR (26 + 4 * r)), some (vR (rg)), some (vI (((i : Nat) : Int))), some (vI (((X (rO R i) : Nat) : Int))), some (vI (((hi (X (rO R i)) : Nat) : Int))), some (vI ((((lo (X (rO R i)) + a) : Nat) : Int))), some (vI (((mkN (K + 1) (fun v => (X (rO R i)).testBit v = true ∧ gLoad R X i v) : Nat) : Int))), some (vI ((((K + 1) : Nat) : Int)))]) ⟨rfl, ⟨rfl, ⟨rfl, ⟨rfl, ⟨rfl, ⟨rfl, ⟨rfl, ⟨vIe (by first | rw [mkN_t ⟨b2_ne.mp (by assumption), bI_1.mp (by assumption)⟩] | rw [mkN_f (fun z => bI_0.mp (by assumption) z.2)] | rw [mkN_f (fun z => by have z2 := b2_0.mp (by assumption); rw [z2] at z; exact absurd z.1 (by decide))]), ⟨vIe (by omega), trivial⟩⟩⟩⟩⟩⟩⟩⟩⟩ ?_
          exact ih (K + 1) (by omega) kk
        · skip
          refine Ev.iload dX1_lookAtLoad_185 rfl ?_
          refine Ev.iconst dX1_lookAtLoad_187 ?_
          refine Ev.iload dX1_lookAtLoad_188 rfl ?_
          refine Ev.ishl dX1_lookAtLoad_190 ?_
          rw [show (iShl (1) (((K : Nat) : Int))) = ((2 ^ K : Nat) : Int) from shl1 (by omega)]
          refine Ev.ior dX1_lookAtLoad_191 ?_
          rw [show (iOr (((mkN K (fun v => (X (rO R i)).testBit v = true ∧ gLoad R X i v) : Nat) : Int)) (((2 ^ K : Nat) : Int))) = ((mkN K (fun v => (X (rO R i)).testBit v = true ∧ gLoad R X i v) ||| 2 ^ K : Nat) : Int) from iOr_nat (by omega) (by omega)]
          refine Ev.istore (pl' := [some (vR (261)), some (vR (26 + 4 * r)), some (vR (rg)), some (vI (((i : Nat) : Int))), some (vI (((X (rO R i) : Nat) : Int))), some (vI (((hi (X (rO R i)) : Nat) : Int))), some (vI ((((lo (X (rO R i)) + a) : Nat) : Int))), some (vI (((mkN K (fun v => (X (rO R i)).testBit v = true ∧ gLoad R X i v) ||| 2 ^ K : Nat) : Int))), some (vI (((K : Nat) : Int)))]) dX1_lookAtLoad_192 (Nat.le_of_ble_eq_true rfl) rfl ?_
          refine Ev.iinc (pl' := [some (vR (261)), some (vR (26 + 4 * r)), some (vR (rg)), some (vI (((i : Nat) : Int))), some (vI (((X (rO R i) : Nat) : Int))), some (vI (((hi (X (rO R i)) : Nat) : Int))), some (vI ((((lo (X (rO R i)) + a) : Nat) : Int))), some (vI (((mkN K (fun v => (X (rO R i)).testBit v = true ∧ gLoad R X i v) ||| 2 ^ K : Nat) : Int))), some (vI (((K : Nat) : Int) + 1))]) dX1_lookAtLoad_194 rfl (Nat.le_of_ble_eq_true rfl) rfl ?_
          refine Ev.goto (tgt := 153) dX1_lookAtLoad_197 (by decide) ?_
          refine Ev.wk (pl' := [some (vR (261)), some (vR (26 + 4 * r)), some (vR (rg)), some (vI (((i : Nat) : Int))), some (vI (((X (rO R i) : Nat) : Int))), some (vI (((hi (X (rO R i)) : Nat) : Int))), some (vI ((((lo (X (rO R i)) + a) : Nat) : Int))), some (vI (((mkN (K + 1) (fun v => (X (rO R i)).testBit v = true ∧ gLoad R X i v) : Nat) : Int))), some (vI ((((K + 1) : Nat) : Int)))]) ⟨rfl, ⟨rfl, ⟨rfl, ⟨rfl, ⟨rfl, ⟨rfl, ⟨rfl, ⟨vIe (by first | rw [mkN_t ⟨b2_ne.mp (by assumption), bI_1.mp (by assumption)⟩] | rw [mkN_f (fun z => bI_0.mp (by assumption) z.2)] | rw [mkN_f (fun z => by have z2 := b2_0.mp (by assumption); rw [z2] at z; exact absurd z.1 (by decide))]), ⟨vIe (by omega), trivial⟩⟩⟩⟩⟩⟩⟩⟩⟩ ?_
          exact ih (K + 1) (by omega) kk

set_option maxRecDepth 100000 in
set_option maxHeartbeats 4000000 in
theorem s1_ld2 {g : GC} (σ : Sg) (r U : Nat) (R : RC) (hr : r < 56) (hM : CR σ r R) (hW : WR U R) (X : Rg) (rg : Nat) (hg : rg < 298) (hgs : sh0 rg = (1, 10)) (hgn : rg ∉ LK) (hX : AV σ rg U X) (hk3 : rK R = 3) (T : Tb) : ∀ j K : Nat, K + j = rN R → ∀ τ : Sg, Same LK σ τ → τ 263 0 = 0 → (∀ t, t < 31 → τ 264 t = mA R X t (rN R)) → (∀ k, k < K → τ 262 (rO R k) = (gn T R X k : Int)) → Ev g mX1_lookAtLoad 108 [some (vR (261)), some (vR (26 + 4 * r)), some (vR (rg)), some (vI (((K : Nat) : Int))), none, none, none, none, none] [] (M0 (τ)) 0 0 (retW (Looked σ T R X)) := by
  intro j
  induction j with
  | zero =>
    intro K hij τ hF hJ hmu hG
    have hF0 := hF
    have hM := hM.same hF (fun j hj => nLK (by omega))
    have hX := hX.same hF hgn
    obtain ⟨hK, hS, hB, hN, hE, hP⟩ := id hM
    obtain ⟨⟨hk5, hn6, hU⟩, hO, -⟩ := id hW
    have hXR : ∀ k, k < rN R → X (rO R k) ≠ 0 ∧ X (rO R k) < 65536 := fun k hk => (hX _ (hO k hk)).2
    obtain ⟨hs3, hz3⟩ := hW.2.2.2.2.1 hk3
    have hdis : ∀ j k, j < rN R → k < rN R → rO R j = rO R k → j = k := hW.2.2.2.2.2.2 (by omega)
    refine Ev.iload_n dX1_lookAtLoad_108 rfl rfl ?_
    refine Ev.aload_n dX1_lookAtLoad_109 rfl rfl ?_
    refine gf_X1_53 (x := ((rN R : Nat) : Int)) rfl dX1_lookAtLoad_110 (lt_rc (by omega)) (sh_rc (by omega)) hN ?_
    refine Ev.icmp_ge (tgt := 219) ⟨by omega, by omega⟩ ⟨by omega, by omega⟩ dX1_lookAtLoad_113 (by decide) (fun h113 => ?_) (fun h113 => ?_)
    · skip
      exact Ev.vreturn dX1_lookAtLoad_219 rfl (rW ⟨hF0, hJ, fun k hk => hG k (by omega)⟩)
    · exact absurd h113 (by omega)
  | succ j ih =>
    intro K hij τ hF hJ hmu hG
    have hF0 := hF
    have hM := hM.same hF (fun j hj => nLK (by omega))
    have hX := hX.same hF hgn
    obtain ⟨hK, hS, hB, hN, hE, hP⟩ := id hM
    obtain ⟨⟨hk5, hn6, hU⟩, hO, -⟩ := id hW
    have hXR : ∀ k, k < rN R → X (rO R k) ≠ 0 ∧ X (rO R k) < 65536 := fun k hk => (hX _ (hO k hk)).2
    obtain ⟨hs3, hz3⟩ := hW.2.2.2.2.1 hk3
    have hdis : ∀ j k, j < rN R → k < rN R → rO R j = rO R k → j = k := hW.2.2.2.2.2.2 (by omega)
    obtain ⟨a, ha⟩ : ∃ a : Nat, rA R K = a := ⟨(rA R K).toNat, by have := (hz3 K (by omega)).1; omega⟩
    have haK := (hz3 K (by omega)).1
    have hhi := hi_lt (hXR K (by omega)).2 (hXR K (by omega)).1
    have hlo := lo_lt (hXR K (by omega)).2 (hXR K (by omega)).1
    refine Ev.iload_n dX1_lookAtLoad_108 rfl rfl ?_
    refine Ev.aload_n dX1_lookAtLoad_109 rfl rfl ?_
    refine gf_X1_53 (x := ((rN R : Nat) : Int)) rfl dX1_lookAtLoad_110 (lt_rc (by omega)) (sh_rc (by omega)) hN ?_
    refine Ev.icmp_ge (tgt := 219) ⟨by omega, by omega⟩ ⟨by omega, by omega⟩ dX1_lookAtLoad_113 (by decide) (fun h113 => ?_) (fun h113 => ?_)
    · exact absurd h113 (by omega)
    · skip
      refine Ev.aload_n dX1_lookAtLoad_116 rfl rfl ?_
      refine Ev.aload_n dX1_lookAtLoad_117 rfl rfl ?_
      refine gf_X1_56 rfl dX1_lookAtLoad_118 (lt_rc (by omega)) (sh_rc (by omega)) (rf_rc5 (by omega)) ?_
      refine Ev.iload_n dX1_lookAtLoad_121 rfl rfl ?_
      refine Ev.iaload (v := ((rO R K : Nat) : Int)) dX1_lookAtLoad_122 (lt_rcf (by omega) (by decide)) (sh_rc1 (by omega)) (by decide) (by omega) (by omega) (ldx rfl (hP K (by omega)).1) ?_
      refine Ev.iaload (v := ((X (rO R K) : Nat) : Int)) dX1_lookAtLoad_123 hg hgs (by decide) (by omega) (Int.ofNat_lt.mpr (Nat.lt_of_lt_of_le (hO _ (by omega)) hU)) (ldx rfl (hX _ (hO _ (by omega))).1) ?_
      refine Ev.istore (pl' := [some (vR (261)), some (vR (26 + 4 * r)), some (vR (rg)), some (vI (((K : Nat) : Int))), some (vI (((X (rO R K) : Nat) : Int))), none, none, none, none]) dX1_lookAtLoad_124 (Nat.le_of_ble_eq_true rfl) rfl ?_
      refine Ev.iload dX1_lookAtLoad_126 rfl ?_
      refine Ev.callSN_I (M2 := mX7_greatest) (args2 := [vI (((X (rO R K) : Nat) : Int))]) (host := "NarrowingKernel") dX1_lookAtLoad_128 okX7_greatest (show _ ∈ nestL from by decide) osX7_greatest.1 osX7_greatest.2 (by decide) rfl (Nat.le_of_ble_eq_true rfl) (Nat.le_of_ble_eq_true rfl) (s7_greatest τ (X (rO R K)) (hX _ (hO _ (by omega))).2.2 (hX _ (hO _ (by omega))).2.1) ?_ rfl
      refine Ev.istore (pl' := [some (vR (261)), some (vR (26 + 4 * r)), some (vR (rg)), some (vI (((K : Nat) : Int))), some (vI (((X (rO R K) : Nat) : Int))), some (vI (((hi (X (rO R K)) : Nat) : Int))), none, none, none]) dX1_lookAtLoad_131 (Nat.le_of_ble_eq_true rfl) rfl ?_
      refine Ev.iload dX1_lookAtLoad_133 rfl ?_
      refine Ev.callSN_I (M2 := mX7_least) (args2 := [vI (((X (rO R K) : Nat) : Int))]) (host := "NarrowingKernel") dX1_lookAtLoad_135 okX7_least (show _ ∈ nestL from by decide) osX7_least.1 osX7_least.2 (by decide) rfl (Nat.le_of_ble_eq_true rfl) (Nat.le_of_ble_eq_true rfl) (s7_least τ (X (rO R K)) (hX _ (hO _ (by omega))).2.2 (hX _ (hO _ (by omega))).2.1) ?_ rfl
      refine Ev.aload_n dX1_lookAtLoad_138 rfl rfl ?_
      refine gf_X1_59 rfl dX1_lookAtLoad_139 (lt_rc (by omega)) (sh_rc (by omega)) (rf_rc6 (by omega)) ?_
      refine Ev.iload_n dX1_lookAtLoad_142 rfl rfl ?_
      refine Ev.iaload (v := ((a : Nat) : Int)) dX1_lookAtLoad_143 (lt_rcf (by omega) (by decide)) (sh_rc2 (by omega)) (by decide) (by omega) (by omega) (ldx rfl ((hP K (by omega)).2.1.trans ha)) ?_
      refine Ev.iadd dX1_lookAtLoad_144 ?_
      refine Ev.istore (pl' := [some (vR (261)), some (vR (26 + 4 * r)), some (vR (rg)), some (vI (((K : Nat) : Int))), some (vI (((X (rO R K) : Nat) : Int))), some (vI (((hi (X (rO R K)) : Nat) : Int))), some (vI ((((lo (X (rO R K)) : Nat) : Int) + ((a : Nat) : Int)))), none, none]) dX1_lookAtLoad_145 (Nat.le_of_ble_eq_true rfl) rfl ?_
      refine Ev.iconst dX1_lookAtLoad_147 ?_
      refine Ev.istore (pl' := [some (vR (261)), some (vR (26 + 4 * r)), some (vR (rg)), some (vI (((K : Nat) : Int))), some (vI (((X (rO R K) : Nat) : Int))), some (vI (((hi (X (rO R K)) : Nat) : Int))), some (vI ((((lo (X (rO R K)) : Nat) : Int) + ((a : Nat) : Int)))), some (vI (0)), none]) dX1_lookAtLoad_148 (Nat.le_of_ble_eq_true rfl) rfl ?_
      refine Ev.iconst dX1_lookAtLoad_150 ?_
      refine Ev.istore (pl' := [some (vR (261)), some (vR (26 + 4 * r)), some (vR (rg)), some (vI (((K : Nat) : Int))), some (vI (((X (rO R K) : Nat) : Int))), some (vI (((hi (X (rO R K)) : Nat) : Int))), some (vI ((((lo (X (rO R K)) : Nat) : Int) + ((a : Nat) : Int)))), some (vI (0)), some (vI (0))]) dX1_lookAtLoad_151 (Nat.le_of_ble_eq_true rfl) rfl ?_
      refine Ev.wk (pl' := [some (vR (261)), some (vR (26 + 4 * r)), some (vR (rg)), some (vI (((K : Nat) : Int))), some (vI (((X (rO R K) : Nat) : Int))), some (vI (((hi (X (rO R K)) : Nat) : Int))), some (vI ((((lo (X (rO R K)) + a) : Nat) : Int))), some (vI (((mkN 0 (fun v => (X (rO R K)).testBit v = true ∧ gLoad R X K v) : Nat) : Int))), some (vI (((0 : Nat) : Int)))]) ⟨rfl, ⟨rfl, ⟨rfl, ⟨rfl, ⟨rfl, ⟨rfl, ⟨vIe (by omega), ⟨vIe rfl, ⟨vIe rfl, trivial⟩⟩⟩⟩⟩⟩⟩⟩⟩ ?_
      refine s1_ld2i τ r U R hr hM hW X rg hg hgs hgn hX hk3 K a (by omega) ha hmu 16 0 rfl ?_
      refine Ev.aload_n dX1_lookAtLoad_200 rfl rfl ?_
      refine gf_X1_11 rfl dX1_lookAtLoad_201 ltc_261 shc_261 rfc_261_1 ?_
      refine Ev.aload_n dX1_lookAtLoad_204 rfl rfl ?_
      refine gf_X1_56 rfl dX1_lookAtLoad_205 (lt_rc (by omega)) (sh_rc (by omega)) (rf_rc5 (by omega)) ?_
      refine Ev.iload_n dX1_lookAtLoad_208 rfl rfl ?_
      refine Ev.iaload (v := ((rO R K : Nat) : Int)) dX1_lookAtLoad_209 (lt_rcf (by omega) (by decide)) (sh_rc1 (by omega)) (by decide) (by omega) (by omega) (ldx rfl (hP K (by omega)).1) ?_
      refine Ev.iload dX1_lookAtLoad_210 rfl ?_
      refine Ev.iastore dX1_lookAtLoad_212 ltc_262 shc_262 (by decide) (by omega) (Int.ofNat_lt.mpr (Nat.lt_of_lt_of_le (hO _ (by omega)) hU)) ?_
      refine Ev.iinc (pl' := [some (vR (261)), some (vR (26 + 4 * r)), some (vR (rg)), some (vI (((K : Nat) : Int) + 1)), none, none, none, some (vI (((mkN 16 (fun v => (X (rO R K)).testBit v = true ∧ gLoad R X K v) : Nat) : Int))), none]) dX1_lookAtLoad_213 rfl (Nat.le_of_ble_eq_true rfl) rfl ?_
      refine Ev.goto (tgt := 108) dX1_lookAtLoad_216 (by decide) ?_
      refine Ev.wk (pl' := [some (vR (261)), some (vR (26 + 4 * r)), some (vR (rg)), some (vI ((((K + 1) : Nat) : Int))), none, none, none, none, none]) ⟨rfl, ⟨rfl, ⟨rfl, ⟨vIe (by omega), trivial⟩⟩⟩⟩ ?_
      exact ih (K + 1) (by omega) (upC (τ) 262 (((rO R K : Nat) : Int)).toNat (((mkN 16 (fun v => (X (rO R K)).testBit v = true ∧ gLoad R X K v) : Nat) : Int))) (hF0.up (by decide)) (by rw [upC_ne (by decide)]; exact hJ) (fun t ht => by rw [upC_ne (by decide)]; exact hmu t ht) (gone_up rfl (by rw [gn_3 hk3]) (fun k hk z => absurd (hdis k K (by omega) (by omega) z) (by omega)) hG)

set_option maxRecDepth 100000 in
set_option maxHeartbeats 4000000 in
theorem s1_lookAtLoad {g : GC} (σ : Sg) (r U : Nat) (R : RC) (hr : r < 56) (hM : CR σ r R) (hW : WR U R) (X : Rg) (rg : Nat) (hg : rg < 298) (hgs : sh0 rg = (1, 10)) (hgn : rg ∉ LK) (hX : AV σ rg U X) (hk3 : rK R = 3) (T : Tb) (hJ : σ 263 0 = 0) : Ev g mX1_lookAtLoad 0 [some (vR (261)), some (vR (26 + 4 * r)), some (vR (rg)), none, none, none, none, none, none] [] (M0 (σ)) 0 0 (retW (Looked σ T R X)) := by
  refine Ev.iconst dX1_lookAtLoad_0 ?_
  refine Ev.istore_n (pl' := [some (vR (261)), some (vR (26 + 4 * r)), some (vR (rg)), some (vI (0)), none, none, none, none, none]) dX1_lookAtLoad_1 rfl (Nat.le_of_ble_eq_true rfl) rfl ?_
  refine Ev.wk (pl' := [some (vR (261)), some (vR (26 + 4 * r)), some (vR (rg)), some (vI (((0 : Nat) : Int))), none, none, none, none, none]) ⟨rfl, ⟨rfl, ⟨rfl, ⟨vIe rfl, trivial⟩⟩⟩⟩ ?_
  refine s1_ld0 σ r U R hr hM hW X rg hg hgs hgn hX 31 0 (by omega) σ Same.rf rfl (fun t ht => absurd ht (by omega)) (fun τ hF hJ2 hZ => ?_)
  refine Ev.iconst dX1_lookAtLoad_21 ?_
  refine Ev.istore_n (pl' := [some (vR (261)), some (vR (26 + 4 * r)), some (vR (rg)), some (vI (0)), none, none, none, none, none]) dX1_lookAtLoad_22 rfl (Nat.le_of_ble_eq_true rfl) rfl ?_
  refine Ev.wk (pl' := [some (vR (261)), some (vR (26 + 4 * r)), some (vR (rg)), some (vI (((0 : Nat) : Int))), none, none, none, none, none]) ⟨rfl, ⟨rfl, ⟨rfl, ⟨vIe rfl, trivial⟩⟩⟩⟩ ?_
  refine s1_ld1 σ r U R hr hM hW X rg hg hgs hgn hX hk3 (rN R) 0 (by omega) τ hF hJ2 (fun s hs => by rw [hZ s hs]; rfl) (fun ρ qF qJ qG => ?_)
  refine Ev.iconst dX1_lookAtLoad_106 ?_
  refine Ev.istore_n (pl' := [some (vR (261)), some (vR (26 + 4 * r)), some (vR (rg)), some (vI (0)), none, none, none, none, none]) dX1_lookAtLoad_107 rfl (Nat.le_of_ble_eq_true rfl) rfl ?_
  refine Ev.wk (pl' := [some (vR (261)), some (vR (26 + 4 * r)), some (vR (rg)), some (vI (((0 : Nat) : Int))), none, none, none, none, none]) ⟨rfl, ⟨rfl, ⟨rfl, ⟨vIe rfl, trivial⟩⟩⟩⟩ ?_
  exact s1_ld2 σ r U R hr hM hW X rg hg hgs hgn hX hk3 T (rN R) 0 (by omega) ρ qF (by rw [qJ]; exact hJ) qG (fun k hk => absurd hk (by omega))

