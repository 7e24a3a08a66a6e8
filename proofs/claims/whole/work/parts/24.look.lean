/-! THE CLASS: what a look at a rule says -/
abbrev LK : List Nat := [262, 263, 264, 265]
theorem nLK {c : Nat} (h : c < 262) : c ∉ LK := by simp [LK]; omega
/-- what a rule takes from a part's range, looked at once -/
noncomputable def gn (T : Tb) (R : RC) (X : Rg) (i : Nat) : Nat := mk (fun v => (X (rO R i)).testBit v = true ∧ goes T R X i v)
/-- what a look leaves: the rows of the looker alone are others -/
def Looked (σ : Sg) (T : Tb) (R : RC) (X : Rg) (τ : Sg) : Prop := Same LK σ τ ∧ τ 263 0 = 0 ∧ ∀ k, k < rN R → τ 262 (rO R k) = (gn T R X k : Int)
def sLa (R : RC) (X : Rg) (n : Nat) : Int := sumI n (fun k => mn (rA R k) (X (rO R k)))
def sHa (R : RC) (X : Rg) (n : Nat) : Int := sumI n (fun k => mx (rA R k) (X (rO R k)))
noncomputable def opn (R : RC) (X : Rg) (n : Nat) : Int := sumI n (fun k => bI (pop (X (rO R k)) ≠ 1))
theorem sLa_bd {R : RC} {X : Rg} {n : Nat} (hn : n ≤ 6) (hA : ∀ k, k < n → -9 ≤ rA R k ∧ rA R k ≤ 9) (hX : ∀ k, k < n → X (rO R k) ≠ 0 ∧ X (rO R k) < 65536) : (-810 ≤ sLa R X n ∧ sLa R X n ≤ 810) ∧ (-810 ≤ sHa R X n ∧ sHa R X n ≤ 810) ∧ -6 ≤ opn R X n ∧ opn R X n ≤ 6 := by
  have h1 := sumI_bd (n := n) (f := fun k => mn (rA R k) (X (rO R k))) (b := 135) (fun k hk => mn_bd (hA k hk) (hX k hk).1 (hX k hk).2)
  have h2 := sumI_bd (n := n) (f := fun k => mx (rA R k) (X (rO R k))) (b := 135) (fun k hk => mx_bd (hA k hk) (hX k hk).1 (hX k hk).2)
  have h3 := sumI_bd (n := n) (f := fun k => bI (pop (X (rO R k)) ≠ 1)) (b := 1) (fun k hk => by rcases @bI_or (pop (X (rO R k)) ≠ 1) with h | h <;> rw [h] <;> decide)
  unfold sLa sHa opn
  omega
theorem sLa_i {R : RC} {X : Rg} {i : Nat} (hi : i < rN R) : sLa R X (rN R) - mn (rA R i) (X (rO R i)) = sLow R X i := by
  unfold sLa sLow
  rw [sumI_but hi]; omega
theorem sHa_i {R : RC} {X : Rg} {i : Nat} (hi : i < rN R) : sHa R X (rN R) - mx (rA R i) (X (rO R i)) = sHigh R X i := by
  unfold sHa sHigh
  rw [sumI_but hi]; omega
theorem sum01 {n : Nat} {f : Nat → Int} (h : ∀ k, k < n → 0 ≤ f k) : 0 ≤ sumI n f ∧ (sumI n f = 0 ↔ ∀ k, k < n → f k = 0) := by
  induction n with
  | zero => exact ⟨by simp [sumI], by simp [sumI]⟩
  | succ n ih =>
    obtain ⟨h1, h2⟩ := ih fun k hk => h k (by omega)
    have h3 := h n (by omega)
    simp only [sumI]
    refine ⟨by omega, fun z k hk => ?_, fun z => ?_⟩
    · rcases Nat.lt_or_ge k n with h4 | h4
      · exact h2.mp (by omega) k h4
      · rw [show k = n by omega]; omega
    · have := h2.mpr fun k hk => z k (by omega)
      have := z n (by omega)
      omega
theorem opn_i {R : RC} {X : Rg} {i : Nat} (hi : i < rN R) : opn R X (rN R) = bI (pop (X (rO R i)) ≠ 1) ↔ ∀ k, k < rN R → k ≠ i → pop (X (rO R k)) = 1 := by
  unfold opn
  rw [sumI_but hi]
  have h := sum01 (n := rN R) (f := fun k => if k = i then 0 else bI (pop (X (rO R k)) ≠ 1)) (fun k _ => by
    try dsimp only
    split
    · exact Int.le_refl _
    · rcases @bI_or (pop (X (rO R k)) ≠ 1) with h | h <;> rw [h] <;> decide)
  constructor
  · intro z k hk hki
    have z2 := h.2.mp (by omega) k hk
    try dsimp only at z2
    rw [if_neg hki, bI_0] at z2
    omega
  · intro z
    have z2 := h.2.mpr fun k hk => by
      try dsimp only
      split
      · rfl
      · rw [bI_0]; intro e; exact e (z k hk (by assumption))
    omega
theorem or_pow {a K : Nat} (h : a < 2 ^ K) : a ||| 2 ^ K = a + 2 ^ K := by
  have := Nat.two_pow_add_eq_or_of_lt h 1
  rw [Nat.mul_one] at this
  rw [Nat.or_comm, ← this]; omega
theorem mkN_t {K : Nat} {P : Nat → Prop} (h : P K) : mkN (K + 1) P = mkN K P ||| 2 ^ K := by
  rw [or_pow (mkN_lt K P)]
  simp only [mkN]
  rw [if_pos h]
theorem mkN_f {K : Nat} {P : Nat → Prop} (h : ¬ P K) : mkN (K + 1) P = mkN K P := by
  simp only [mkN]
  rw [if_neg h]; omega
theorem mkN_16 {K : Nat} (P : Nat → Prop) (h : K ≤ 16) : mkN K P < 65536 := by
  have h1 := mkN_lt K P
  have h2 := pow_le17 (show K < 17 by omega)
  omega
theorem gone_up {T : Tb} {R : RC} {X : Rg} {τ : Sg} {K : Nat} {j v : Int} (hj : j = (rO R K : Int)) (hv : v = (gn T R X K : Int)) (hd : ∀ k, k < K → rO R k ≠ rO R K) (hG : ∀ k, k < K → τ 262 (rO R k) = (gn T R X k : Int)) : ∀ k, k < K + 1 → upC τ 262 j.toNat v 262 (rO R k) = (gn T R X k : Int) := by
  intro k hk
  subst hj
  rcases Nat.lt_or_ge k K with h | h
  · rw [show ((rO R K : Nat) : Int).toNat = rO R K from rfl, upC_self (hd k h)]; exact hG k h
  · rw [show k = K by omega, ← hv]; exact upC_at
theorem gn_0 {T : Tb} {R : RC} {X : Rg} {i : Nat} (h : rK R = 0) : gn T R X i = mkN 16 (fun v => (X (rO R i)).testBit v = true ∧ gSum R X i v) := mk_congr fun j _ => by rw [goes_0 h]
def sT (R : RC) (lw hg : Int) (p : Prop) : Prop := (rS R = 2 ∧ p ∧ lw = rB R) ∨ (rS R ≠ 2 ∧ (lw > rB R ∨ (rS R = 1 ∧ hg < rB R)))
set_option maxRecDepth 100000 in
set_option maxHeartbeats 4000000 in
theorem s1_sumTakes {g : GC} (σ : Sg) (r U : Nat) (R : RC) (hr : r < 56) (hM : CR σ r R) (hW : WR U R) (hk0 : rK R = 0) (lw hg : Int) (hl : inR lw) (hh : inR hg) (p : Prop) : Ev g mX1_sumTakes 0 [some (vR (26 + 4 * r)), some (vI (lw)), some (vI (hg)), some (vI (bI p))] [] (M0 (σ)) 0 0 (retI (bI (sT R lw hg p)) σ) := by
  obtain ⟨hK, hS, hB, hN, hE, hP⟩ := id hM
  obtain ⟨⟨hk5, hn6, hU⟩, hO, -⟩ := id hW
  obtain ⟨hs0, hb0, hA0⟩ := hW.2.2.1 hk0
  refine Ev.aload_n dX1_sumTakes_0 rfl rfl ?_
  refine gf_X1_86 (x := rS R) rfl dX1_sumTakes_1 (lt_rc (by omega)) (sh_rc (by omega)) hS ?_
  have hcs : rS R = 0 ∨ rS R = 1 ∨ rS R = 2 := by omega
  rcases hcs with hk | hk | hk
  · rw [show rS R = 0 from hk]
    refine Ev.lookup (tgt := 32) dX1_sumTakes_4 ⟨by decide, by decide⟩ rfl rfl (by decide) ?_
    refine Ev.iload_n dX1_sumTakes_32 rfl rfl ?_
    refine Ev.aload_n dX1_sumTakes_33 rfl rfl ?_
    refine gf_X1_89 (x := rB R) rfl dX1_sumTakes_34 (lt_rc (by omega)) (sh_rc (by omega)) hB ?_
    refine Ev.icmp_le (tgt := 44) ⟨by omega, by omega⟩ ⟨by omega, by omega⟩ dX1_sumTakes_37 (by decide) (fun h37 => ?_) (fun h37 => ?_)
    · skip
      refine Ev.iconst dX1_sumTakes_44 ?_
      exact Ev.zreturn dX1_sumTakes_45 rfl (Or.inl rfl) (rI (bI_f (by rintro (⟨z1, z2, z3⟩ | ⟨z1, z2⟩) <;> first | omega | exact absurd z2 (bI_0.mp (by assumption)))) rfl)
    · skip
      refine Ev.iconst dX1_sumTakes_40 ?_
      refine Ev.goto (tgt := 45) dX1_sumTakes_41 (by decide) ?_
      exact Ev.zreturn dX1_sumTakes_45 rfl (Or.inr rfl) (rI (bI_t (by first | exact Or.inl ⟨by omega, bI_1.mp (by assumption), by omega⟩ | exact Or.inr ⟨by omega, Or.inl (by omega)⟩ | exact Or.inr ⟨by omega, Or.inr ⟨by omega, by omega⟩⟩)) rfl)
  · rw [show rS R = 1 from hk]
    refine Ev.lookup (tgt := 46) dX1_sumTakes_4 ⟨by decide, by decide⟩ rfl rfl (by decide) ?_
    refine Ev.iload_n dX1_sumTakes_46 rfl rfl ?_
    refine Ev.aload_n dX1_sumTakes_47 rfl rfl ?_
    refine gf_X1_89 (x := rB R) rfl dX1_sumTakes_48 (lt_rc (by omega)) (sh_rc (by omega)) hB ?_
    refine Ev.icmp_gt (tgt := 62) ⟨by omega, by omega⟩ ⟨by omega, by omega⟩ dX1_sumTakes_51 (by decide) (fun h51 => ?_) (fun h51 => ?_)
    · skip
      refine Ev.iconst dX1_sumTakes_62 ?_
      refine Ev.goto (tgt := 67) dX1_sumTakes_63 (by decide) ?_
      exact Ev.zreturn dX1_sumTakes_67 rfl (Or.inr rfl) (rI (bI_t (by first | exact Or.inl ⟨by omega, bI_1.mp (by assumption), by omega⟩ | exact Or.inr ⟨by omega, Or.inl (by omega)⟩ | exact Or.inr ⟨by omega, Or.inr ⟨by omega, by omega⟩⟩)) rfl)
    · skip
      refine Ev.iload_n dX1_sumTakes_54 rfl rfl ?_
      refine Ev.aload_n dX1_sumTakes_55 rfl rfl ?_
      refine gf_X1_89 (x := rB R) rfl dX1_sumTakes_56 (lt_rc (by omega)) (sh_rc (by omega)) hB ?_
      refine Ev.icmp_ge (tgt := 66) ⟨by omega, by omega⟩ ⟨by omega, by omega⟩ dX1_sumTakes_59 (by decide) (fun h59 => ?_) (fun h59 => ?_)
      · skip
        refine Ev.iconst dX1_sumTakes_66 ?_
        exact Ev.zreturn dX1_sumTakes_67 rfl (Or.inl rfl) (rI (bI_f (by rintro (⟨z1, z2, z3⟩ | ⟨z1, z2⟩) <;> first | omega | exact absurd z2 (bI_0.mp (by assumption)))) rfl)
      · skip
        refine Ev.iconst dX1_sumTakes_62 ?_
        refine Ev.goto (tgt := 67) dX1_sumTakes_63 (by decide) ?_
        exact Ev.zreturn dX1_sumTakes_67 rfl (Or.inr rfl) (rI (bI_t (by first | exact Or.inl ⟨by omega, bI_1.mp (by assumption), by omega⟩ | exact Or.inr ⟨by omega, Or.inl (by omega)⟩ | exact Or.inr ⟨by omega, Or.inr ⟨by omega, by omega⟩⟩)) rfl)
  · rw [show rS R = 2 from hk]
    refine Ev.lookup (tgt := 68) dX1_sumTakes_4 ⟨by decide, by decide⟩ rfl rfl (by decide) ?_
    refine Ev.iload_n dX1_sumTakes_68 rfl rfl ?_
    refine Ev.if_eq (tgt := 84) bI_inR dX1_sumTakes_69 (by decide) (fun h69 => ?_) (fun h69 => ?_)
    · skip
      refine Ev.iconst dX1_sumTakes_84 ?_
      exact Ev.zreturn dX1_sumTakes_85 rfl (Or.inl rfl) (rI (bI_f (by rintro (⟨z1, z2, z3⟩ | ⟨z1, z2⟩) <;> first | omega | exact absurd z2 (bI_0.mp (by assumption)))) rfl)
    · skip
      refine Ev.iload_n dX1_sumTakes_72 rfl rfl ?_
      refine Ev.aload_n dX1_sumTakes_73 rfl rfl ?_
      refine gf_X1_89 (x := rB R) rfl dX1_sumTakes_74 (lt_rc (by omega)) (sh_rc (by omega)) hB ?_
      refine Ev.icmp_ne (tgt := 84) ⟨by omega, by omega⟩ ⟨by omega, by omega⟩ dX1_sumTakes_77 (by decide) (fun h77 => ?_) (fun h77 => ?_)
      · skip
        refine Ev.iconst dX1_sumTakes_84 ?_
        exact Ev.zreturn dX1_sumTakes_85 rfl (Or.inl rfl) (rI (bI_f (by rintro (⟨z1, z2, z3⟩ | ⟨z1, z2⟩) <;> first | omega | exact absurd z2 (bI_0.mp (by assumption)))) rfl)
      · skip
        refine Ev.iconst dX1_sumTakes_80 ?_
        refine Ev.goto (tgt := 85) dX1_sumTakes_81 (by decide) ?_
        exact Ev.zreturn dX1_sumTakes_85 rfl (Or.inr rfl) (rI (bI_t (by first | exact Or.inl ⟨by omega, bI_1.mp (by assumption), by omega⟩ | exact Or.inr ⟨by omega, Or.inl (by omega)⟩ | exact Or.inr ⟨by omega, Or.inr ⟨by omega, by omega⟩⟩)) rfl)

set_option maxRecDepth 100000 in
set_option maxHeartbeats 4000000 in
theorem s1_sum1 {g : GC} (σ : Sg) (r U : Nat) (R : RC) (hr : r < 56) (hM : CR σ r R) (hW : WR U R) (X : Rg) (rg : Nat) (hg : rg < 298) (hgs : sh0 rg = (1, 10)) (hgn : rg ∉ LK) (hX : AV σ rg U X) (hk0 : rK R = 0) {Post : Option PV → Mem → Prop} : ∀ j K : Nat, K + j = rN R → Ev g mX1_lookAtSum 87 [some (vR (261)), some (vR (26 + 4 * r)), some (vR (rg)), some (vI (sLa R X (rN R))), some (vI (sHa R X (rN R))), some (vI (opn R X (rN R))), none, none, none, none, none, none, none, none] [] (M0 (σ)) 0 0 Post → Ev g mX1_lookAtSum 11 [some (vR (261)), some (vR (26 + 4 * r)), some (vR (rg)), some (vI (sLa R X K)), some (vI (sHa R X K)), some (vI (opn R X K)), some (vI (((K : Nat) : Int))), none, none, none, none, none, none, none] [] (M0 (σ)) 0 0 (Post) := by
  intro j
  induction j with
  | zero =>
    intro K hij kk
    obtain ⟨hK, hS, hB, hN, hE, hP⟩ := id hM
    obtain ⟨⟨hk5, hn6, hU⟩, hO, -⟩ := id hW
    have hXR : ∀ k, k < rN R → X (rO R k) ≠ 0 ∧ X (rO R k) < 65536 := fun k hk => (hX _ (hO k hk)).2
    obtain ⟨hs0, hb0, hA0⟩ := hW.2.2.1 hk0
    refine Ev.iload dX1_lookAtSum_11 rfl ?_
    refine Ev.aload_n dX1_lookAtSum_13 rfl rfl ?_
    refine gf_X1_53 (x := ((rN R : Nat) : Int)) rfl dX1_lookAtSum_14 (lt_rc (by omega)) (sh_rc (by omega)) hN ?_
    refine Ev.icmp_ge (tgt := 87) ⟨by omega, by omega⟩ ⟨by omega, by omega⟩ dX1_lookAtSum_17 (by decide) (fun h17 => ?_) (fun h17 => ?_)
    · skip
      refine Ev.wk (pl' := [some (vR (261)), some (vR (26 + 4 * r)), some (vR (rg)), some (vI (sLa R X (rN R))), some (vI (sHa R X (rN R))), some (vI (opn R X (rN R))), none, none, none, none, none, none, none, none]) ⟨rfl, ⟨rfl, ⟨rfl, ⟨vIe (by rw [show K = rN R by omega]), ⟨vIe (by rw [show K = rN R by omega]), ⟨vIe (by rw [show K = rN R by omega]), trivial⟩⟩⟩⟩⟩⟩ ?_
      exact kk
    · exact absurd h17 (by omega)
  | succ j ih =>
    intro K hij kk
    obtain ⟨hK, hS, hB, hN, hE, hP⟩ := id hM
    obtain ⟨⟨hk5, hn6, hU⟩, hO, -⟩ := id hW
    have hXR : ∀ k, k < rN R → X (rO R k) ≠ 0 ∧ X (rO R k) < 65536 := fun k hk => (hX _ (hO k hk)).2
    obtain ⟨hs0, hb0, hA0⟩ := hW.2.2.1 hk0
    refine Ev.iload dX1_lookAtSum_11 rfl ?_
    refine Ev.aload_n dX1_lookAtSum_13 rfl rfl ?_
    refine gf_X1_53 (x := ((rN R : Nat) : Int)) rfl dX1_lookAtSum_14 (lt_rc (by omega)) (sh_rc (by omega)) hN ?_
    refine Ev.icmp_ge (tgt := 87) ⟨by omega, by omega⟩ ⟨by omega, by omega⟩ dX1_lookAtSum_17 (by decide) (fun h17 => ?_) (fun h17 => ?_)
    · exact absurd h17 (by omega)
    · skip
      refine Ev.aload_n dX1_lookAtSum_20 rfl rfl ?_
      refine Ev.aload_n dX1_lookAtSum_21 rfl rfl ?_
      refine gf_X1_56 rfl dX1_lookAtSum_22 (lt_rc (by omega)) (sh_rc (by omega)) (rf_rc5 (by omega)) ?_
      refine Ev.iload dX1_lookAtSum_25 rfl ?_
      refine Ev.iaload (v := ((rO R K : Nat) : Int)) dX1_lookAtSum_27 (lt_rcf (by omega) (by decide)) (sh_rc1 (by omega)) (by decide) (by omega) (by omega) (ldx rfl (hP K (by omega)).1) ?_
      refine Ev.iaload (v := ((X (rO R K) : Nat) : Int)) dX1_lookAtSum_28 hg hgs (by decide) (by omega) (Int.ofNat_lt.mpr (Nat.lt_of_lt_of_le (hO _ (by omega)) hU)) (ldx rfl (hX _ (hO _ (by omega))).1) ?_
      refine Ev.istore (pl' := [some (vR (261)), some (vR (26 + 4 * r)), some (vR (rg)), some (vI (sLa R X K)), some (vI (sHa R X K)), some (vI (opn R X K)), some (vI (((K : Nat) : Int))), some (vI (((X (rO R K) : Nat) : Int))), none, none, none, none, none, none]) dX1_lookAtSum_29 (Nat.le_of_ble_eq_true rfl) rfl ?_
      refine Ev.iload_n dX1_lookAtSum_31 rfl rfl ?_
      refine Ev.aload_n dX1_lookAtSum_32 rfl rfl ?_
      refine gf_X1_59 rfl dX1_lookAtSum_33 (lt_rc (by omega)) (sh_rc (by omega)) (rf_rc6 (by omega)) ?_
      refine Ev.iload dX1_lookAtSum_36 rfl ?_
      refine Ev.iaload (v := rA R K) dX1_lookAtSum_38 (lt_rcf (by omega) (by decide)) (sh_rc2 (by omega)) (by decide) (by omega) (by omega) (ldx rfl (hP K (by omega)).2.1) ?_
      refine Ev.iload dX1_lookAtSum_39 rfl ?_
      refine Ev.callS_I (M2 := mX1_lowest) (args2 := [vI (rA R K), vI (((X (rO R K) : Nat) : Int))]) dX1_lookAtSum_41 okX1_lowest lk_X1_62 osX1_lowest.1 osX1_lowest.2 (by decide) rfl (Nat.le_of_ble_eq_true rfl) (Nat.le_of_ble_eq_true rfl) (s1_lowest σ (rA R K) (X (rO R K)) (hA0 _ (by omega)) (hX _ (hO _ (by omega))).2.2 (hX _ (hO _ (by omega))).2.1) ?_ rfl
      refine Ev.iadd dX1_lookAtSum_44 ?_
      refine Ev.istore_n (pl' := [some (vR (261)), some (vR (26 + 4 * r)), some (vR (rg)), some (vI ((sLa R X K + mn (rA R K) (X (rO R K))))), some (vI (sHa R X K)), some (vI (opn R X K)), some (vI (((K : Nat) : Int))), some (vI (((X (rO R K) : Nat) : Int))), none, none, none, none, none, none]) dX1_lookAtSum_45 rfl (Nat.le_of_ble_eq_true rfl) rfl ?_
      refine Ev.iload dX1_lookAtSum_46 rfl ?_
      refine Ev.aload_n dX1_lookAtSum_48 rfl rfl ?_
      refine gf_X1_59 rfl dX1_lookAtSum_49 (lt_rc (by omega)) (sh_rc (by omega)) (rf_rc6 (by omega)) ?_
      refine Ev.iload dX1_lookAtSum_52 rfl ?_
      refine Ev.iaload (v := rA R K) dX1_lookAtSum_54 (lt_rcf (by omega) (by decide)) (sh_rc2 (by omega)) (by decide) (by omega) (by omega) (ldx rfl (hP K (by omega)).2.1) ?_
      refine Ev.iload dX1_lookAtSum_55 rfl ?_
      refine Ev.callS_I (M2 := mX1_highest) (args2 := [vI (rA R K), vI (((X (rO R K) : Nat) : Int))]) dX1_lookAtSum_57 okX1_highest lk_X1_66 osX1_highest.1 osX1_highest.2 (by decide) rfl (Nat.le_of_ble_eq_true rfl) (Nat.le_of_ble_eq_true rfl) (s1_highest σ (rA R K) (X (rO R K)) (hA0 _ (by omega)) (hX _ (hO _ (by omega))).2.2 (hX _ (hO _ (by omega))).2.1) ?_ rfl
      refine Ev.iadd dX1_lookAtSum_60 ?_
      refine Ev.istore (pl' := [some (vR (261)), some (vR (26 + 4 * r)), some (vR (rg)), some (vI ((sLa R X K + mn (rA R K) (X (rO R K))))), some (vI ((sHa R X K + mx (rA R K) (X (rO R K))))), some (vI (opn R X K)), some (vI (((K : Nat) : Int))), some (vI (((X (rO R K) : Nat) : Int))), none, none, none, none, none, none]) dX1_lookAtSum_61 (Nat.le_of_ble_eq_true rfl) rfl ?_
      refine Ev.iload dX1_lookAtSum_63 rfl ?_
      refine Ev.iload dX1_lookAtSum_65 rfl ?_
      refine Ev.callSN_I (M2 := mX7_isOne) (args2 := [vI (((X (rO R K) : Nat) : Int))]) (host := "NarrowingKernel") dX1_lookAtSum_67 okX7_isOne (show _ ∈ nestL from by decide) osX7_isOne.1 osX7_isOne.2 (by decide) rfl (Nat.le_of_ble_eq_true rfl) (Nat.le_of_ble_eq_true rfl) (s7_isOne σ (X (rO R K)) (hX _ (hO _ (by omega))).2.2 (hX _ (hO _ (by omega))).2.1) ?_ rfl
      refine Ev.if_eq (tgt := 77) bI_inR dX1_lookAtSum_70 (by decide) (fun h70 => ?_) (fun h70 => ?_)
      · skip
        refine Ev.iconst dX1_lookAtSum_77 ?_
        refine Ev.iadd dX1_lookAtSum_78 ?_
        refine Ev.istore (pl' := [some (vR (261)), some (vR (26 + 4 * r)), some (vR (rg)), some (vI ((sLa R X K + mn (rA R K) (X (rO R K))))), some (vI ((sHa R X K + mx (rA R K) (X (rO R K))))), some (vI ((opn R X K + 1))), some (vI (((K : Nat) : Int))), some (vI (((X (rO R K) : Nat) : Int))), none, none, none, none, none, none]) dX1_lookAtSum_79 (Nat.le_of_ble_eq_true rfl) rfl ?_
        refine Ev.iinc (pl' := [some (vR (261)), some (vR (26 + 4 * r)), some (vR (rg)), some (vI ((sLa R X K + mn (rA R K) (X (rO R K))))), some (vI ((sHa R X K + mx (rA R K) (X (rO R K))))), some (vI ((opn R X K + 1))), some (vI (((K : Nat) : Int) + 1)), some (vI (((X (rO R K) : Nat) : Int))), none, none, none, none, none, none]) dX1_lookAtSum_81 rfl (Nat.le_of_ble_eq_true rfl) rfl ?_
        refine Ev.goto (tgt := 11) dX1_lookAtSum_84 (by decide) ?_
        refine Ev.wk (pl' := [some (vR (261)), some (vR (26 + 4 * r)), some (vR (rg)), some (vI (sLa R X (K + 1))), some (vI (sHa R X (K + 1))), some (vI (opn R X (K + 1))), some (vI ((((K + 1) : Nat) : Int))), none, none, none, none, none, none, none]) ⟨rfl, ⟨rfl, ⟨rfl, ⟨vIe rfl, ⟨vIe rfl, ⟨vIe (by first | (show _ + 0 = opn R X K + bI _; rw [bI_F (fun z => z (bI_1.mp (by assumption)))]) | (show _ + 1 = opn R X K + bI _; rw [bI_T (bI_0.mp (by assumption))])), ⟨vIe (by omega), trivial⟩⟩⟩⟩⟩⟩⟩ ?_
        exact ih (K + 1) (by omega) kk
      · skip
        refine Ev.iconst dX1_lookAtSum_73 ?_
        refine Ev.goto (tgt := 78) dX1_lookAtSum_74 (by decide) ?_
        refine Ev.iadd dX1_lookAtSum_78 ?_
        refine Ev.istore (pl' := [some (vR (261)), some (vR (26 + 4 * r)), some (vR (rg)), some (vI ((sLa R X K + mn (rA R K) (X (rO R K))))), some (vI ((sHa R X K + mx (rA R K) (X (rO R K))))), some (vI ((opn R X K + 0))), some (vI (((K : Nat) : Int))), some (vI (((X (rO R K) : Nat) : Int))), none, none, none, none, none, none]) dX1_lookAtSum_79 (Nat.le_of_ble_eq_true rfl) rfl ?_
        refine Ev.iinc (pl' := [some (vR (261)), some (vR (26 + 4 * r)), some (vR (rg)), some (vI ((sLa R X K + mn (rA R K) (X (rO R K))))), some (vI ((sHa R X K + mx (rA R K) (X (rO R K))))), some (vI ((opn R X K + 0))), some (vI (((K : Nat) : Int) + 1)), some (vI (((X (rO R K) : Nat) : Int))), none, none, none, none, none, none]) dX1_lookAtSum_81 rfl (Nat.le_of_ble_eq_true rfl) rfl ?_
        refine Ev.goto (tgt := 11) dX1_lookAtSum_84 (by decide) ?_
        refine Ev.wk (pl' := [some (vR (261)), some (vR (26 + 4 * r)), some (vR (rg)), some (vI (sLa R X (K + 1))), some (vI (sHa R X (K + 1))), some (vI (opn R X (K + 1))), some (vI ((((K + 1) : Nat) : Int))), none, none, none, none, none, none, none]) ⟨rfl, ⟨rfl, ⟨rfl, ⟨vIe rfl, ⟨vIe rfl, ⟨vIe (by first | (show _ + 0 = opn R X K + bI _; rw [bI_F (fun z => z (bI_1.mp (by assumption)))]) | (show _ + 1 = opn R X K + bI _; rw [bI_T (bI_0.mp (by assumption))])), ⟨vIe (by omega), trivial⟩⟩⟩⟩⟩⟩⟩ ?_
        exact ih (K + 1) (by omega) kk

set_option maxRecDepth 100000 in
set_option maxHeartbeats 4000000 in
theorem s1_sum3 {g : GC} (σ : Sg) (r U : Nat) (R : RC) (hr : r < 56) (hM : CR σ r R) (hW : WR U R) (X : Rg) (rg : Nat) (hg : rg < 298) (hgs : sh0 rg = (1, 10)) (hgn : rg ∉ LK) (hX : AV σ rg U X) (hk0 : rK R = 0) (i : Nat) (hi : i < rN R) {Post : Option PV → Mem → Prop} : ∀ j K : Nat, K + j = 16 → Ev g mX1_lookAtSum 237 [some (vR (261)), some (vR (26 + 4 * r)), some (vR (rg)), some (vI (sLa R X (rN R))), some (vI (sHa R X (rN R))), some (vI (opn R X (rN R))), some (vI (((i : Nat) : Int))), none, none, none, none, some (vI (((mkN 16 (fun v => (X (rO R i)).testBit v = true ∧ gSum R X i v) : Nat) : Int))), none, none] [] (M0 (σ)) 0 0 Post → Ev g mX1_lookAtSum 174 [some (vR (261)), some (vR (26 + 4 * r)), some (vR (rg)), some (vI (sLa R X (rN R))), some (vI (sHa R X (rN R))), some (vI (opn R X (rN R))), some (vI (((i : Nat) : Int))), some (vI (((X (rO R i) : Nat) : Int))), some (vI (sLow R X i)), some (vI (sHigh R X i)), some (vI (bI (∀ k, k < rN R → k ≠ i → pop (X (rO R k)) = 1))), some (vI (((mkN K (fun v => (X (rO R i)).testBit v = true ∧ gSum R X i v) : Nat) : Int))), some (vI (((K : Nat) : Int))), none] [] (M0 (σ)) 0 0 (Post) := by
  intro j
  induction j with
  | zero =>
    intro K hij kk
    obtain ⟨hK, hS, hB, hN, hE, hP⟩ := id hM
    obtain ⟨⟨hk5, hn6, hU⟩, hO, -⟩ := id hW
    have hXR : ∀ k, k < rN R → X (rO R k) ≠ 0 ∧ X (rO R k) < 65536 := fun k hk => (hX _ (hO k hk)).2
    obtain ⟨hs0, hb0, hA0⟩ := hW.2.2.1 hk0
    have hxi := hXR i hi
    have hav := mul_bd (a := rA R i) (v := K) (B := 9) (C := 15 + 1) (hA0 i hi) (by omega) (by decide)
    have hbl := (sL_bd (i := i) (n := rN R) (R := R) (X := X) hn6 hA0 hXR).1
    have hbh := (sL_bd (i := i) (n := rN R) (R := R) (X := X) hn6 hA0 hXR).2
    have hm16 := mkN_16 (fun v => (X (rO R i)).testBit v = true ∧ gSum R X i v) (show K ≤ 16 by omega)
    change -810 ≤ sLow R X i ∧ sLow R X i ≤ 810 at hbl
    change -810 ≤ sHigh R X i ∧ sHigh R X i ≤ 810 at hbh
    refine Ev.iload dX1_lookAtSum_174 rfl ?_
    refine Ev.bipush (n := 16) (by decide) dX1_lookAtSum_176 ?_
    refine Ev.icmp_ge (tgt := 237) ⟨by omega, by omega⟩ ⟨by decide, by decide⟩ dX1_lookAtSum_178 (by decide) (fun h178 => ?_) (fun h178 => ?_)
    · skip
      refine Ev.wk (pl' := [some (vR (261)), some (vR (26 + 4 * r)), some (vR (rg)), some (vI (sLa R X (rN R))), some (vI (sHa R X (rN R))), some (vI (opn R X (rN R))), some (vI (((i : Nat) : Int))), none, none, none, none, some (vI (((mkN 16 (fun v => (X (rO R i)).testBit v = true ∧ gSum R X i v) : Nat) : Int))), none, none]) ⟨rfl, ⟨rfl, ⟨rfl, ⟨rfl, ⟨rfl, ⟨rfl, ⟨rfl, ⟨vIe (by rw [show K = 16 by omega]), trivial⟩⟩⟩⟩⟩⟩⟩⟩ ?_
      exact kk
    · exact absurd h178 (by omega)
  | succ j ih =>
    intro K hij kk
    obtain ⟨hK, hS, hB, hN, hE, hP⟩ := id hM
    obtain ⟨⟨hk5, hn6, hU⟩, hO, -⟩ := id hW
    have hXR : ∀ k, k < rN R → X (rO R k) ≠ 0 ∧ X (rO R k) < 65536 := fun k hk => (hX _ (hO k hk)).2
    obtain ⟨hs0, hb0, hA0⟩ := hW.2.2.1 hk0
    have hxi := hXR i hi
    have hav := mul_bd (a := rA R i) (v := K) (B := 9) (C := 15 + 1) (hA0 i hi) (by omega) (by decide)
    have hbl := (sL_bd (i := i) (n := rN R) (R := R) (X := X) hn6 hA0 hXR).1
    have hbh := (sL_bd (i := i) (n := rN R) (R := R) (X := X) hn6 hA0 hXR).2
    have hm16 := mkN_16 (fun v => (X (rO R i)).testBit v = true ∧ gSum R X i v) (show K ≤ 16 by omega)
    change -810 ≤ sLow R X i ∧ sLow R X i ≤ 810 at hbl
    change -810 ≤ sHigh R X i ∧ sHigh R X i ≤ 810 at hbh
    have hp16 := pow_le16 (show K < 16 by omega)
    refine Ev.iload dX1_lookAtSum_174 rfl ?_
    refine Ev.bipush (n := 16) (by decide) dX1_lookAtSum_176 ?_
    refine Ev.icmp_ge (tgt := 237) ⟨by omega, by omega⟩ ⟨by decide, by decide⟩ dX1_lookAtSum_178 (by decide) (fun h178 => ?_) (fun h178 => ?_)
    · exact absurd h178 (by omega)
    · skip
      refine Ev.aload_n dX1_lookAtSum_181 rfl rfl ?_
      refine gf_X1_59 rfl dX1_lookAtSum_182 (lt_rc (by omega)) (sh_rc (by omega)) (rf_rc6 (by omega)) ?_
      refine Ev.iload dX1_lookAtSum_185 rfl ?_
      refine Ev.iaload (v := rA R i) dX1_lookAtSum_187 (lt_rcf (by omega) (by decide)) (sh_rc2 (by omega)) (by decide) (by omega) (by omega) (ldx rfl (hP i (by omega)).2.1) ?_
      refine Ev.iload dX1_lookAtSum_188 rfl ?_
      refine Ev.imul dX1_lookAtSum_190 ?_
      refine Ev.istore (pl' := [some (vR (261)), some (vR (26 + 4 * r)), some (vR (rg)), some (vI (sLa R X (rN R))), some (vI (sHa R X (rN R))), some (vI (opn R X (rN R))), some (vI (((i : Nat) : Int))), some (vI (((X (rO R i) : Nat) : Int))), some (vI (sLow R X i)), some (vI (sHigh R X i)), some (vI (bI (∀ k, k < rN R → k ≠ i → pop (X (rO R k)) = 1))), some (vI (((mkN K (fun v => (X (rO R i)).testBit v = true ∧ gSum R X i v) : Nat) : Int))), some (vI (((K : Nat) : Int))), some (vI ((rA R i * ((K : Nat) : Int))))]) dX1_lookAtSum_191 (Nat.le_of_ble_eq_true rfl) rfl ?_
      refine Ev.iload dX1_lookAtSum_193 rfl ?_
      refine Ev.iload dX1_lookAtSum_195 rfl ?_
      refine Ev.ishr dX1_lookAtSum_197 ?_
      refine Ev.iconst dX1_lookAtSum_198 ?_
      refine Ev.iand dX1_lookAtSum_199 ?_
      rw [show (iAnd ((iShr (((X (rO R i) : Nat) : Int)) (((K : Nat) : Int)))) (1)) = (((b2 (Nat.testBit (X (rO R i)) K)) : Nat) : Int) from bit_nat (by omega) (by omega)]
      refine Ev.if_eq (tgt := 231) b2_inR dX1_lookAtSum_200 (by decide) (fun h200 => ?_) (fun h200 => ?_)
      · skip
        refine Ev.iinc (pl' := [some (vR (261)), some (vR (26 + 4 * r)), some (vR (rg)), some (vI (sLa R X (rN R))), some (vI (sHa R X (rN R))), some (vI (opn R X (rN R))), some (vI (((i : Nat) : Int))), some (vI (((X (rO R i) : Nat) : Int))), some (vI (sLow R X i)), some (vI (sHigh R X i)), some (vI (bI (∀ k, k < rN R → k ≠ i → pop (X (rO R k)) = 1))), some (vI (((mkN K (fun v => (X (rO R i)).testBit v = true ∧ gSum R X i v) : Nat) : Int))), some (vI (((K : Nat) : Int) + 1)), some (vI ((rA R i * ((K : Nat) : Int))))]) dX1_lookAtSum_231 rfl (Nat.le_of_ble_eq_true rfl) rfl ?_
        refine Ev.goto (tgt := 174) dX1_lookAtSum_234 (by decide) ?_
        refine Ev.wk (pl' := [some (vR (261)), some (vR (26 + 4 * r)), some (vR (rg)), some (vI (sLa R X (rN R))), some (vI (sHa R X (rN R))), some (vI (opn R X (rN R))), some (vI (((i : Nat) : Int))), some (vI (((X (rO R i) : Nat) : Int))), some (vI (sLow R X i)), some (vI (sHigh R X i)), some (vI (bI (∀ k, k < rN R → k ≠ i → pop (X (rO R k)) = 1))), some (vI (((mkN (K + 1) (fun v => (X (rO R i)).testBit v = true ∧ gSum R X i v) : Nat) : Int))), some (vI ((((K + 1) : Nat) : Int))), none]) ⟨rfl, ⟨rfl, ⟨rfl, ⟨rfl, ⟨rfl, ⟨rfl, ⟨rfl, ⟨rfl, ⟨rfl, ⟨rfl, ⟨rfl, ⟨vIe (by first | rw [mkN_t ⟨b2_ne.mp (by assumption), bI_1.mp (by assumption)⟩] | rw [mkN_f (fun z => bI_0.mp (by assumption) z.2)] | rw [mkN_f (fun z => by have z2 := b2_0.mp (by assumption); rw [z2] at z; exact absurd z.1 (by decide))]), ⟨vIe (by omega), trivial⟩⟩⟩⟩⟩⟩⟩⟩⟩⟩⟩⟩⟩ ?_
        exact ih (K + 1) (by omega) kk
      · skip
        refine Ev.aload_n dX1_lookAtSum_203 rfl rfl ?_
        refine Ev.iload dX1_lookAtSum_204 rfl ?_
        refine Ev.iload dX1_lookAtSum_206 rfl ?_
        refine Ev.iadd dX1_lookAtSum_208 ?_
        refine Ev.iload dX1_lookAtSum_209 rfl ?_
        refine Ev.iload dX1_lookAtSum_211 rfl ?_
        refine Ev.iadd dX1_lookAtSum_213 ?_
        refine Ev.iload dX1_lookAtSum_214 rfl ?_
        refine Ev.callS_I (M2 := mX1_sumTakes) (args2 := [vR (26 + 4 * r), vI (((rA R i * ((K : Nat) : Int)) + sLow R X i)), vI (((rA R i * ((K : Nat) : Int)) + sHigh R X i)), vI (bI (∀ k, k < rN R → k ≠ i → pop (X (rO R k)) = 1))]) dX1_lookAtSum_216 okX1_sumTakes lk_X1_73 osX1_sumTakes.1 osX1_sumTakes.2 (by decide) rfl (Nat.le_of_ble_eq_true rfl) (Nat.le_of_ble_eq_true rfl) (s1_sumTakes σ r U R hr hM hW hk0 (((rA R i * ((K : Nat) : Int)) + sLow R X i)) (((rA R i * ((K : Nat) : Int)) + sHigh R X i)) ⟨by omega, by omega⟩ ⟨by omega, by omega⟩ (∀ k, k < rN R → k ≠ i → pop (X (rO R k)) = 1)) ?_ rfl
        refine Ev.if_eq (tgt := 231) bI_inR dX1_lookAtSum_219 (by decide) (fun h219 => ?_) (fun h219 => ?_)
        · skip
          refine Ev.iinc (pl' := [some (vR (261)), some (vR (26 + 4 * r)), some (vR (rg)), some (vI (sLa R X (rN R))), some (vI (sHa R X (rN R))), some (vI (opn R X (rN R))), some (vI (((i : Nat) : Int))), some (vI (((X (rO R i) : Nat) : Int))), some (vI (sLow R X i)), some (vI (sHigh R X i)), some (vI (bI (∀ k, k < rN R → k ≠ i → pop (X (rO R k)) = 1))), some (vI (((mkN K (fun v => (X (rO R i)).testBit v = true ∧ gSum R X i v) : Nat) : Int))), some (vI (((K : Nat) : Int) + 1)), some (vI ((rA R i * ((K : Nat) : Int))))]) dX1_lookAtSum_231 rfl (Nat.le_of_ble_eq_true rfl) rfl ?_
          refine Ev.goto (tgt := 174) dX1_lookAtSum_234 (by decide) ?_
          refine Ev.wk (pl' := [some (vR (261)), some (vR (26 + 4 * r)), some (vR (rg)), some (vI (sLa R X (rN R))), some (vI (sHa R X (rN R))), some (vI (opn R X (rN R))), some (vI (((i : Nat) : Int))), some (vI (((X (rO R i) : Nat) : Int))), some (vI (sLow R X i)), some (vI (sHigh R X i)), some (vI (bI (∀ k, k < rN R → k ≠ i → pop (X (rO R k)) = 1))), some (vI (((mkN (K + 1) (fun v => (X (rO R i)).testBit v = true ∧ gSum R X i v) : Nat) : Int))), some (vI ((((K + 1) : Nat) : Int))), none]) ⟨rfl, ⟨rfl, ⟨rfl, ⟨rfl, ⟨rfl, ⟨rfl, ⟨rfl, ⟨rfl, ⟨rfl, ⟨rfl, ⟨rfl, ⟨vIe (by first | rw [mkN_t ⟨b2_ne.mp (by assumption), bI_1.mp (by assumption)⟩] | rw [mkN_f (fun z => bI_0.mp (by assumption) z.2)] | rw [mkN_f (fun z => by have z2 := b2_0.mp (by assumption); rw [z2] at z; exact absurd z.1 (by decide))]), ⟨vIe (by omega), trivial⟩⟩⟩⟩⟩⟩⟩⟩⟩⟩⟩⟩⟩ ?_
          exact ih (K + 1) (by omega) kk
        · skip
          refine Ev.iload dX1_lookAtSum_222 rfl ?_
          refine Ev.iconst dX1_lookAtSum_224 ?_
          refine Ev.iload dX1_lookAtSum_225 rfl ?_
          refine Ev.ishl dX1_lookAtSum_227 ?_
          rw [show (iShl (1) (((K : Nat) : Int))) = ((2 ^ K : Nat) : Int) from shl1 (by omega)]
          refine Ev.ior dX1_lookAtSum_228 ?_
          rw [show (iOr (((mkN K (fun v => (X (rO R i)).testBit v = true ∧ gSum R X i v) : Nat) : Int)) (((2 ^ K : Nat) : Int))) = ((mkN K (fun v => (X (rO R i)).testBit v = true ∧ gSum R X i v) ||| 2 ^ K : Nat) : Int) from iOr_nat (by omega) (by omega)]
          refine Ev.istore (pl' := [some (vR (261)), some (vR (26 + 4 * r)), some (vR (rg)), some (vI (sLa R X (rN R))), some (vI (sHa R X (rN R))), some (vI (opn R X (rN R))), some (vI (((i : Nat) : Int))), some (vI (((X (rO R i) : Nat) : Int))), some (vI (sLow R X i)), some (vI (sHigh R X i)), some (vI (bI (∀ k, k < rN R → k ≠ i → pop (X (rO R k)) = 1))), some (vI (((mkN K (fun v => (X (rO R i)).testBit v = true ∧ gSum R X i v) ||| 2 ^ K : Nat) : Int))), some (vI (((K : Nat) : Int))), some (vI ((rA R i * ((K : Nat) : Int))))]) dX1_lookAtSum_229 (Nat.le_of_ble_eq_true rfl) rfl ?_
          refine Ev.iinc (pl' := [some (vR (261)), some (vR (26 + 4 * r)), some (vR (rg)), some (vI (sLa R X (rN R))), some (vI (sHa R X (rN R))), some (vI (opn R X (rN R))), some (vI (((i : Nat) : Int))), some (vI (((X (rO R i) : Nat) : Int))), some (vI (sLow R X i)), some (vI (sHigh R X i)), some (vI (bI (∀ k, k < rN R → k ≠ i → pop (X (rO R k)) = 1))), some (vI (((mkN K (fun v => (X (rO R i)).testBit v = true ∧ gSum R X i v) ||| 2 ^ K : Nat) : Int))), some (vI (((K : Nat) : Int) + 1)), some (vI ((rA R i * ((K : Nat) : Int))))]) dX1_lookAtSum_231 rfl (Nat.le_of_ble_eq_true rfl) rfl ?_
          refine Ev.goto (tgt := 174) dX1_lookAtSum_234 (by decide) ?_
          refine Ev.wk (pl' := [some (vR (261)), some (vR (26 + 4 * r)), some (vR (rg)), some (vI (sLa R X (rN R))), some (vI (sHa R X (rN R))), some (vI (opn R X (rN R))), some (vI (((i : Nat) : Int))), some (vI (((X (rO R i) : Nat) : Int))), some (vI (sLow R X i)), some (vI (sHigh R X i)), some (vI (bI (∀ k, k < rN R → k ≠ i → pop (X (rO R k)) = 1))), some (vI (((mkN (K + 1) (fun v => (X (rO R i)).testBit v = true ∧ gSum R X i v) : Nat) : Int))), some (vI ((((K + 1) : Nat) : Int))), none]) ⟨rfl, ⟨rfl, ⟨rfl, ⟨rfl, ⟨rfl, ⟨rfl, ⟨rfl, ⟨rfl, ⟨rfl, ⟨rfl, ⟨rfl, ⟨vIe (by first | rw [mkN_t ⟨b2_ne.mp (by assumption), bI_1.mp (by assumption)⟩] | rw [mkN_f (fun z => bI_0.mp (by assumption) z.2)] | rw [mkN_f (fun z => by have z2 := b2_0.mp (by assumption); rw [z2] at z; exact absurd z.1 (by decide))]), ⟨vIe (by omega), trivial⟩⟩⟩⟩⟩⟩⟩⟩⟩⟩⟩⟩⟩ ?_
          exact ih (K + 1) (by omega) kk

set_option maxRecDepth 100000 in
set_option maxHeartbeats 4000000 in
theorem s1_sum2 {g : GC} (σ : Sg) (r U : Nat) (R : RC) (hr : r < 56) (hM : CR σ r R) (hW : WR U R) (X : Rg) (rg : Nat) (hg : rg < 298) (hgs : sh0 rg = (1, 10)) (hgn : rg ∉ LK) (hX : AV σ rg U X) (hk0 : rK R = 0) (T : Tb) : ∀ j K : Nat, K + j = rN R → ∀ τ : Sg, Same LK σ τ → τ 263 0 = 0 → (∀ k, k < K → τ 262 (rO R k) = (gn T R X k : Int)) → Ev g mX1_lookAtSum 90 [some (vR (261)), some (vR (26 + 4 * r)), some (vR (rg)), some (vI (sLa R X (rN R))), some (vI (sHa R X (rN R))), some (vI (opn R X (rN R))), some (vI (((K : Nat) : Int))), none, none, none, none, none, none, none] [] (M0 (τ)) 0 0 (retW (Looked σ T R X)) := by
  intro j
  induction j with
  | zero =>
    intro K hij τ hF hJ hG
    have hF0 := hF
    have hM0 := hM
    have hX0 := hX
    have hM := hM.same hF (fun j hj => nLK (by omega))
    have hX := hX.same hF hgn
    obtain ⟨hK, hS, hB, hN, hE, hP⟩ := id hM
    obtain ⟨⟨hk5, hn6, hU⟩, hO, -⟩ := id hW
    have hXR : ∀ k, k < rN R → X (rO R k) ≠ 0 ∧ X (rO R k) < 65536 := fun k hk => (hX _ (hO k hk)).2
    obtain ⟨hs0, hb0, hA0⟩ := hW.2.2.1 hk0
    have hdis : ∀ j k, j < rN R → k < rN R → rO R j = rO R k → j = k := hW.2.2.2.2.2.2 (by omega)
    have hsb := sLa_bd (n := rN R) (R := R) (X := X) hn6 hA0 hXR
    refine Ev.iload dX1_lookAtSum_90 rfl ?_
    refine Ev.aload_n dX1_lookAtSum_92 rfl rfl ?_
    refine gf_X1_53 (x := ((rN R : Nat) : Int)) rfl dX1_lookAtSum_93 (lt_rc (by omega)) (sh_rc (by omega)) hN ?_
    refine Ev.icmp_ge (tgt := 257) ⟨by omega, by omega⟩ ⟨by omega, by omega⟩ dX1_lookAtSum_96 (by decide) (fun h96 => ?_) (fun h96 => ?_)
    · skip
      exact Ev.vreturn dX1_lookAtSum_257 rfl (rW ⟨hF0, hJ, fun k hk => hG k (by omega)⟩)
    · exact absurd h96 (by omega)
  | succ j ih =>
    intro K hij τ hF hJ hG
    have hF0 := hF
    have hM0 := hM
    have hX0 := hX
    have hM := hM.same hF (fun j hj => nLK (by omega))
    have hX := hX.same hF hgn
    obtain ⟨hK, hS, hB, hN, hE, hP⟩ := id hM
    obtain ⟨⟨hk5, hn6, hU⟩, hO, -⟩ := id hW
    have hXR : ∀ k, k < rN R → X (rO R k) ≠ 0 ∧ X (rO R k) < 65536 := fun k hk => (hX _ (hO k hk)).2
    obtain ⟨hs0, hb0, hA0⟩ := hW.2.2.1 hk0
    have hdis : ∀ j k, j < rN R → k < rN R → rO R j = rO R k → j = k := hW.2.2.2.2.2.2 (by omega)
    have hsb := sLa_bd (n := rN R) (R := R) (X := X) hn6 hA0 hXR
    refine Ev.iload dX1_lookAtSum_90 rfl ?_
    refine Ev.aload_n dX1_lookAtSum_92 rfl rfl ?_
    refine gf_X1_53 (x := ((rN R : Nat) : Int)) rfl dX1_lookAtSum_93 (lt_rc (by omega)) (sh_rc (by omega)) hN ?_
    refine Ev.icmp_ge (tgt := 257) ⟨by omega, by omega⟩ ⟨by omega, by omega⟩ dX1_lookAtSum_96 (by decide) (fun h96 => ?_) (fun h96 => ?_)
    · exact absurd h96 (by omega)
    · skip
      refine Ev.aload_n dX1_lookAtSum_99 rfl rfl ?_
      refine Ev.aload_n dX1_lookAtSum_100 rfl rfl ?_
      refine gf_X1_56 rfl dX1_lookAtSum_101 (lt_rc (by omega)) (sh_rc (by omega)) (rf_rc5 (by omega)) ?_
      refine Ev.iload dX1_lookAtSum_104 rfl ?_
      refine Ev.iaload (v := ((rO R K : Nat) : Int)) dX1_lookAtSum_106 (lt_rcf (by omega) (by decide)) (sh_rc1 (by omega)) (by decide) (by omega) (by omega) (ldx rfl (hP K (by omega)).1) ?_
      refine Ev.iaload (v := ((X (rO R K) : Nat) : Int)) dX1_lookAtSum_107 hg hgs (by decide) (by omega) (Int.ofNat_lt.mpr (Nat.lt_of_lt_of_le (hO _ (by omega)) hU)) (ldx rfl (hX _ (hO _ (by omega))).1) ?_
      refine Ev.istore (pl' := [some (vR (261)), some (vR (26 + 4 * r)), some (vR (rg)), some (vI (sLa R X (rN R))), some (vI (sHa R X (rN R))), some (vI (opn R X (rN R))), some (vI (((K : Nat) : Int))), some (vI (((X (rO R K) : Nat) : Int))), none, none, none, none, none, none]) dX1_lookAtSum_108 (Nat.le_of_ble_eq_true rfl) rfl ?_
      refine Ev.iload_n dX1_lookAtSum_110 rfl rfl ?_
      refine Ev.aload_n dX1_lookAtSum_111 rfl rfl ?_
      refine gf_X1_59 rfl dX1_lookAtSum_112 (lt_rc (by omega)) (sh_rc (by omega)) (rf_rc6 (by omega)) ?_
      refine Ev.iload dX1_lookAtSum_115 rfl ?_
      refine Ev.iaload (v := rA R K) dX1_lookAtSum_117 (lt_rcf (by omega) (by decide)) (sh_rc2 (by omega)) (by decide) (by omega) (by omega) (ldx rfl (hP K (by omega)).2.1) ?_
      refine Ev.iload dX1_lookAtSum_118 rfl ?_
      refine Ev.callS_I (M2 := mX1_lowest) (args2 := [vI (rA R K), vI (((X (rO R K) : Nat) : Int))]) dX1_lookAtSum_120 okX1_lowest lk_X1_62 osX1_lowest.1 osX1_lowest.2 (by decide) rfl (Nat.le_of_ble_eq_true rfl) (Nat.le_of_ble_eq_true rfl) (s1_lowest τ (rA R K) (X (rO R K)) (hA0 _ (by omega)) (hX _ (hO _ (by omega))).2.2 (hX _ (hO _ (by omega))).2.1) ?_ rfl
      refine Ev.isub dX1_lookAtSum_123 ?_
      refine Ev.istore (pl' := [some (vR (261)), some (vR (26 + 4 * r)), some (vR (rg)), some (vI (sLa R X (rN R))), some (vI (sHa R X (rN R))), some (vI (opn R X (rN R))), some (vI (((K : Nat) : Int))), some (vI (((X (rO R K) : Nat) : Int))), some (vI ((sLa R X (rN R) - mn (rA R K) (X (rO R K))))), none, none, none, none, none]) dX1_lookAtSum_124 (Nat.le_of_ble_eq_true rfl) rfl ?_
      refine Ev.iload dX1_lookAtSum_126 rfl ?_
      refine Ev.aload_n dX1_lookAtSum_128 rfl rfl ?_
      refine gf_X1_59 rfl dX1_lookAtSum_129 (lt_rc (by omega)) (sh_rc (by omega)) (rf_rc6 (by omega)) ?_
      refine Ev.iload dX1_lookAtSum_132 rfl ?_
      refine Ev.iaload (v := rA R K) dX1_lookAtSum_134 (lt_rcf (by omega) (by decide)) (sh_rc2 (by omega)) (by decide) (by omega) (by omega) (ldx rfl (hP K (by omega)).2.1) ?_
      refine Ev.iload dX1_lookAtSum_135 rfl ?_
      refine Ev.callS_I (M2 := mX1_highest) (args2 := [vI (rA R K), vI (((X (rO R K) : Nat) : Int))]) dX1_lookAtSum_137 okX1_highest lk_X1_66 osX1_highest.1 osX1_highest.2 (by decide) rfl (Nat.le_of_ble_eq_true rfl) (Nat.le_of_ble_eq_true rfl) (s1_highest τ (rA R K) (X (rO R K)) (hA0 _ (by omega)) (hX _ (hO _ (by omega))).2.2 (hX _ (hO _ (by omega))).2.1) ?_ rfl
      refine Ev.isub dX1_lookAtSum_140 ?_
      refine Ev.istore (pl' := [some (vR (261)), some (vR (26 + 4 * r)), some (vR (rg)), some (vI (sLa R X (rN R))), some (vI (sHa R X (rN R))), some (vI (opn R X (rN R))), some (vI (((K : Nat) : Int))), some (vI (((X (rO R K) : Nat) : Int))), some (vI ((sLa R X (rN R) - mn (rA R K) (X (rO R K))))), some (vI ((sHa R X (rN R) - mx (rA R K) (X (rO R K))))), none, none, none, none]) dX1_lookAtSum_141 (Nat.le_of_ble_eq_true rfl) rfl ?_
      refine Ev.iload dX1_lookAtSum_143 rfl ?_
      refine Ev.iload dX1_lookAtSum_145 rfl ?_
      refine Ev.callSN_I (M2 := mX7_isOne) (args2 := [vI (((X (rO R K) : Nat) : Int))]) (host := "NarrowingKernel") dX1_lookAtSum_147 okX7_isOne (show _ ∈ nestL from by decide) osX7_isOne.1 osX7_isOne.2 (by decide) rfl (Nat.le_of_ble_eq_true rfl) (Nat.le_of_ble_eq_true rfl) (s7_isOne τ (X (rO R K)) (hX _ (hO _ (by omega))).2.2 (hX _ (hO _ (by omega))).2.1) ?_ rfl
      refine Ev.if_eq (tgt := 157) bI_inR dX1_lookAtSum_150 (by decide) (fun h150 => ?_) (fun h150 => ?_)
      · skip
        refine Ev.iconst dX1_lookAtSum_157 ?_
        refine Ev.icmp_ne (tgt := 165) ⟨by omega, by omega⟩ ⟨by decide, by decide⟩ dX1_lookAtSum_158 (by decide) (fun h158 => ?_) (fun h158 => ?_)
        · skip
          refine Ev.iconst dX1_lookAtSum_165 ?_
          refine Ev.istore (pl' := [some (vR (261)), some (vR (26 + 4 * r)), some (vR (rg)), some (vI (sLa R X (rN R))), some (vI (sHa R X (rN R))), some (vI (opn R X (rN R))), some (vI (((K : Nat) : Int))), some (vI (((X (rO R K) : Nat) : Int))), some (vI ((sLa R X (rN R) - mn (rA R K) (X (rO R K))))), some (vI ((sHa R X (rN R) - mx (rA R K) (X (rO R K))))), some (vI (0)), none, none, none]) dX1_lookAtSum_166 (Nat.le_of_ble_eq_true rfl) rfl ?_
          refine Ev.iconst dX1_lookAtSum_168 ?_
          refine Ev.istore (pl' := [some (vR (261)), some (vR (26 + 4 * r)), some (vR (rg)), some (vI (sLa R X (rN R))), some (vI (sHa R X (rN R))), some (vI (opn R X (rN R))), some (vI (((K : Nat) : Int))), some (vI (((X (rO R K) : Nat) : Int))), some (vI ((sLa R X (rN R) - mn (rA R K) (X (rO R K))))), some (vI ((sHa R X (rN R) - mx (rA R K) (X (rO R K))))), some (vI (0)), some (vI (0)), none, none]) dX1_lookAtSum_169 (Nat.le_of_ble_eq_true rfl) rfl ?_
          refine Ev.iconst dX1_lookAtSum_171 ?_
          refine Ev.istore (pl' := [some (vR (261)), some (vR (26 + 4 * r)), some (vR (rg)), some (vI (sLa R X (rN R))), some (vI (sHa R X (rN R))), some (vI (opn R X (rN R))), some (vI (((K : Nat) : Int))), some (vI (((X (rO R K) : Nat) : Int))), some (vI ((sLa R X (rN R) - mn (rA R K) (X (rO R K))))), some (vI ((sHa R X (rN R) - mx (rA R K) (X (rO R K))))), some (vI (0)), some (vI (0)), some (vI (0)), none]) dX1_lookAtSum_172 (Nat.le_of_ble_eq_true rfl) rfl ?_
          refine Ev.wk (pl' := [some (vR (261)), some (vR (26 + 4 * r)), some (vR (rg)), some (vI (sLa R X (rN R))), some (vI (sHa R X (rN R))), some (vI (opn R X (rN R))), some (vI (((K : Nat) : Int))), some (vI (((X (rO R K) : Nat) : Int))), some (vI (sLow R X K)), some (vI (sHigh R X K)), some (vI (bI (∀ k, k < rN R → k ≠ K → pop (X (rO R k)) = 1))), some (vI (((mkN 0 (fun v => (X (rO R K)).testBit v = true ∧ gSum R X K v) : Nat) : Int))), some (vI (((0 : Nat) : Int))), none]) ⟨rfl, ⟨rfl, ⟨rfl, ⟨rfl, ⟨rfl, ⟨rfl, ⟨rfl, ⟨rfl, ⟨vIe (sLa_i (by omega)), ⟨vIe (sHa_i (by omega)), ⟨vIe (by first | exact bI_t ((opn_i (by omega)).mp (by rw [bI_F (fun z => z (bI_1.mp (by assumption)))]; omega)) | exact bI_t ((opn_i (by omega)).mp (by rw [bI_T (bI_0.mp (by assumption))]; omega)) | exact bI_f (fun z => by have z2 := (opn_i (by omega)).mpr z; rw [bI_F (fun z => z (bI_1.mp (by assumption)))] at z2; omega) | exact bI_f (fun z => by have z2 := (opn_i (by omega)).mpr z; rw [bI_T (bI_0.mp (by assumption))] at z2; omega)), ⟨vIe rfl, ⟨vIe rfl, trivial⟩⟩⟩⟩⟩⟩⟩⟩⟩⟩⟩⟩⟩ ?_
          refine s1_sum3 τ r U R hr hM hW X rg hg hgs hgn hX hk0 K (by omega) 16 0 rfl ?_
          refine Ev.aload_n dX1_lookAtSum_237 rfl rfl ?_
          refine gf_X1_11 rfl dX1_lookAtSum_238 ltc_261 shc_261 rfc_261_1 ?_
          refine Ev.aload_n dX1_lookAtSum_241 rfl rfl ?_
          refine gf_X1_56 rfl dX1_lookAtSum_242 (lt_rc (by omega)) (sh_rc (by omega)) (rf_rc5 (by omega)) ?_
          refine Ev.iload dX1_lookAtSum_245 rfl ?_
          refine Ev.iaload (v := ((rO R K : Nat) : Int)) dX1_lookAtSum_247 (lt_rcf (by omega) (by decide)) (sh_rc1 (by omega)) (by decide) (by omega) (by omega) (ldx rfl (hP K (by omega)).1) ?_
          refine Ev.iload dX1_lookAtSum_248 rfl ?_
          refine Ev.iastore dX1_lookAtSum_250 ltc_262 shc_262 (by decide) (by omega) (Int.ofNat_lt.mpr (Nat.lt_of_lt_of_le (hO _ (by omega)) hU)) ?_
          refine Ev.iinc (pl' := [some (vR (261)), some (vR (26 + 4 * r)), some (vR (rg)), some (vI (sLa R X (rN R))), some (vI (sHa R X (rN R))), some (vI (opn R X (rN R))), some (vI (((K : Nat) : Int) + 1)), none, none, none, none, some (vI (((mkN 16 (fun v => (X (rO R K)).testBit v = true ∧ gSum R X K v) : Nat) : Int))), none, none]) dX1_lookAtSum_251 rfl (Nat.le_of_ble_eq_true rfl) rfl ?_
          refine Ev.goto (tgt := 90) dX1_lookAtSum_254 (by decide) ?_
          refine Ev.wk (pl' := [some (vR (261)), some (vR (26 + 4 * r)), some (vR (rg)), some (vI (sLa R X (rN R))), some (vI (sHa R X (rN R))), some (vI (opn R X (rN R))), some (vI ((((K + 1) : Nat) : Int))), none, none, none, none, none, none, none]) ⟨rfl, ⟨rfl, ⟨rfl, ⟨rfl, ⟨rfl, ⟨rfl, ⟨vIe (by omega), trivial⟩⟩⟩⟩⟩⟩⟩ ?_
          exact ih (K + 1) (by omega) (upC (τ) 262 (((rO R K : Nat) : Int)).toNat (((mkN 16 (fun v => (X (rO R K)).testBit v = true ∧ gSum R X K v) : Nat) : Int))) (hF0.up (by decide)) (by rw [upC_ne (by decide)]; exact hJ) (gone_up rfl (by rw [gn_0 hk0]) (fun k hk z => absurd (hdis k K (by omega) (by omega) z) (by omega)) hG)
        · skip
          refine Ev.iconst dX1_lookAtSum_161 ?_
          refine Ev.goto (tgt := 166) dX1_lookAtSum_162 (by decide) ?_
          refine Ev.istore (pl' := [some (vR (261)), some (vR (26 + 4 * r)), some (vR (rg)), some (vI (sLa R X (rN R))), some (vI (sHa R X (rN R))), some (vI (opn R X (rN R))), some (vI (((K : Nat) : Int))), some (vI (((X (rO R K) : Nat) : Int))), some (vI ((sLa R X (rN R) - mn (rA R K) (X (rO R K))))), some (vI ((sHa R X (rN R) - mx (rA R K) (X (rO R K))))), some (vI (1)), none, none, none]) dX1_lookAtSum_166 (Nat.le_of_ble_eq_true rfl) rfl ?_
          refine Ev.iconst dX1_lookAtSum_168 ?_
          refine Ev.istore (pl' := [some (vR (261)), some (vR (26 + 4 * r)), some (vR (rg)), some (vI (sLa R X (rN R))), some (vI (sHa R X (rN R))), some (vI (opn R X (rN R))), some (vI (((K : Nat) : Int))), some (vI (((X (rO R K) : Nat) : Int))), some (vI ((sLa R X (rN R) - mn (rA R K) (X (rO R K))))), some (vI ((sHa R X (rN R) - mx (rA R K) (X (rO R K))))), some (vI (1)), some (vI (0)), none, none]) dX1_lookAtSum_169 (Nat.le_of_ble_eq_true rfl) rfl ?_
          refine Ev.iconst dX1_lookAtSum_171 ?_
          refine Ev.istore (pl' := [some (vR (261)), some (vR (26 + 4 * r)), some (vR (rg)), some (vI (sLa R X (rN R))), some (vI (sHa R X (rN R))), some (vI (opn R X (rN R))), some (vI (((K : Nat) : Int))), some (vI (((X (rO R K) : Nat) : Int))), some (vI ((sLa R X (rN R) - mn (rA R K) (X (rO R K))))), some (vI ((sHa R X (rN R) - mx (rA R K) (X (rO R K))))), some (vI (1)), some (vI (0)), some (vI (0)), none]) dX1_lookAtSum_172 (Nat.le_of_ble_eq_true rfl) rfl ?_
          refine Ev.wk (pl' := [some (vR (261)), some (vR (26 + 4 * r)), some (vR (rg)), some (vI (sLa R X (rN R))), some (vI (sHa R X (rN R))), some (vI (opn R X (rN R))), some (vI (((K : Nat) : Int))), some (vI (((X (rO R K) : Nat) : Int))), some (vI (sLow R X K)), some (vI (sHigh R X K)), some (vI (bI (∀ k, k < rN R → k ≠ K → pop (X (rO R k)) = 1))), some (vI (((mkN 0 (fun v => (X (rO R K)).testBit v = true ∧ gSum R X K v) : Nat) : Int))), some (vI (((0 : Nat) : Int))), none]) ⟨rfl, ⟨rfl, ⟨rfl, ⟨rfl, ⟨rfl, ⟨rfl, ⟨rfl, ⟨rfl, ⟨vIe (sLa_i (by omega)), ⟨vIe (sHa_i (by omega)), ⟨vIe (by first | exact bI_t ((opn_i (by omega)).mp (by rw [bI_F (fun z => z (bI_1.mp (by assumption)))]; omega)) | exact bI_t ((opn_i (by omega)).mp (by rw [bI_T (bI_0.mp (by assumption))]; omega)) | exact bI_f (fun z => by have z2 := (opn_i (by omega)).mpr z; rw [bI_F (fun z => z (bI_1.mp (by assumption)))] at z2; omega) | exact bI_f (fun z => by have z2 := (opn_i (by omega)).mpr z; rw [bI_T (bI_0.mp (by assumption))] at z2; omega)), ⟨vIe rfl, ⟨vIe rfl, trivial⟩⟩⟩⟩⟩⟩⟩⟩⟩⟩⟩⟩⟩ ?_
          refine s1_sum3 τ r U R hr hM hW X rg hg hgs hgn hX hk0 K (by omega) 16 0 rfl ?_
          refine Ev.aload_n dX1_lookAtSum_237 rfl rfl ?_
          refine gf_X1_11 rfl dX1_lookAtSum_238 ltc_261 shc_261 rfc_261_1 ?_
          refine Ev.aload_n dX1_lookAtSum_241 rfl rfl ?_
          refine gf_X1_56 rfl dX1_lookAtSum_242 (lt_rc (by omega)) (sh_rc (by omega)) (rf_rc5 (by omega)) ?_
          refine Ev.iload dX1_lookAtSum_245 rfl ?_
          refine Ev.iaload (v := ((rO R K : Nat) : Int)) dX1_lookAtSum_247 (lt_rcf (by omega) (by decide)) (sh_rc1 (by omega)) (by decide) (by omega) (by omega) (ldx rfl (hP K (by omega)).1) ?_
          refine Ev.iload dX1_lookAtSum_248 rfl ?_
          refine Ev.iastore dX1_lookAtSum_250 ltc_262 shc_262 (by decide) (by omega) (Int.ofNat_lt.mpr (Nat.lt_of_lt_of_le (hO _ (by omega)) hU)) ?_
          refine Ev.iinc (pl' := [some (vR (261)), some (vR (26 + 4 * r)), some (vR (rg)), some (vI (sLa R X (rN R))), some (vI (sHa R X (rN R))), some (vI (opn R X (rN R))), some (vI (((K : Nat) : Int) + 1)), none, none, none, none, some (vI (((mkN 16 (fun v => (X (rO R K)).testBit v = true ∧ gSum R X K v) : Nat) : Int))), none, none]) dX1_lookAtSum_251 rfl (Nat.le_of_ble_eq_true rfl) rfl ?_
          refine Ev.goto (tgt := 90) dX1_lookAtSum_254 (by decide) ?_
          refine Ev.wk (pl' := [some (vR (261)), some (vR (26 + 4 * r)), some (vR (rg)), some (vI (sLa R X (rN R))), some (vI (sHa R X (rN R))), some (vI (opn R X (rN R))), some (vI ((((K + 1) : Nat) : Int))), none, none, none, none, none, none, none]) ⟨rfl, ⟨rfl, ⟨rfl, ⟨rfl, ⟨rfl, ⟨rfl, ⟨vIe (by omega), trivial⟩⟩⟩⟩⟩⟩⟩ ?_
          exact ih (K + 1) (by omega) (upC (τ) 262 (((rO R K : Nat) : Int)).toNat (((mkN 16 (fun v => (X (rO R K)).testBit v = true ∧ gSum R X K v) : Nat) : Int))) (hF0.up (by decide)) (by rw [upC_ne (by decide)]; exact hJ) (gone_up rfl (by rw [gn_0 hk0]) (fun k hk z => absurd (hdis k K (by omega) (by omega) z) (by omega)) hG)
      · skip
        refine Ev.iconst dX1_lookAtSum_153 ?_
        refine Ev.goto (tgt := 158) dX1_lookAtSum_154 (by decide) ?_
        refine Ev.icmp_ne (tgt := 165) ⟨by omega, by omega⟩ ⟨by decide, by decide⟩ dX1_lookAtSum_158 (by decide) (fun h158 => ?_) (fun h158 => ?_)
        · skip
          refine Ev.iconst dX1_lookAtSum_165 ?_
          refine Ev.istore (pl' := [some (vR (261)), some (vR (26 + 4 * r)), some (vR (rg)), some (vI (sLa R X (rN R))), some (vI (sHa R X (rN R))), some (vI (opn R X (rN R))), some (vI (((K : Nat) : Int))), some (vI (((X (rO R K) : Nat) : Int))), some (vI ((sLa R X (rN R) - mn (rA R K) (X (rO R K))))), some (vI ((sHa R X (rN R) - mx (rA R K) (X (rO R K))))), some (vI (0)), none, none, none]) dX1_lookAtSum_166 (Nat.le_of_ble_eq_true rfl) rfl ?_
          refine Ev.iconst dX1_lookAtSum_168 ?_
          refine Ev.istore (pl' := [some (vR (261)), some (vR (26 + 4 * r)), some (vR (rg)), some (vI (sLa R X (rN R))), some (vI (sHa R X (rN R))), some (vI (opn R X (rN R))), some (vI (((K : Nat) : Int))), some (vI (((X (rO R K) : Nat) : Int))), some (vI ((sLa R X (rN R) - mn (rA R K) (X (rO R K))))), some (vI ((sHa R X (rN R) - mx (rA R K) (X (rO R K))))), some (vI (0)), some (vI (0)), none, none]) dX1_lookAtSum_169 (Nat.le_of_ble_eq_true rfl) rfl ?_
          refine Ev.iconst dX1_lookAtSum_171 ?_
          refine Ev.istore (pl' := [some (vR (261)), some (vR (26 + 4 * r)), some (vR (rg)), some (vI (sLa R X (rN R))), some (vI (sHa R X (rN R))), some (vI (opn R X (rN R))), some (vI (((K : Nat) : Int))), some (vI (((X (rO R K) : Nat) : Int))), some (vI ((sLa R X (rN R) - mn (rA R K) (X (rO R K))))), some (vI ((sHa R X (rN R) - mx (rA R K) (X (rO R K))))), some (vI (0)), some (vI (0)), some (vI (0)), none]) dX1_lookAtSum_172 (Nat.le_of_ble_eq_true rfl) rfl ?_
          refine Ev.wk (pl' := [some (vR (261)), some (vR (26 + 4 * r)), some (vR (rg)), some (vI (sLa R X (rN R))), some (vI (sHa R X (rN R))), some (vI (opn R X (rN R))), some (vI (((K : Nat) : Int))), some (vI (((X (rO R K) : Nat) : Int))), some (vI (sLow R X K)), some (vI (sHigh R X K)), some (vI (bI (∀ k, k < rN R → k ≠ K → pop (X (rO R k)) = 1))), some (vI (((mkN 0 (fun v => (X (rO R K)).testBit v = true ∧ gSum R X K v) : Nat) : Int))), some (vI (((0 : Nat) : Int))), none]) ⟨rfl, ⟨rfl, ⟨rfl, ⟨rfl, ⟨rfl, ⟨rfl, ⟨rfl, ⟨rfl, ⟨vIe (sLa_i (by omega)), ⟨vIe (sHa_i (by omega)), ⟨vIe (by first | exact bI_t ((opn_i (by omega)).mp (by rw [bI_F (fun z => z (bI_1.mp (by assumption)))]; omega)) | exact bI_t ((opn_i (by omega)).mp (by rw [bI_T (bI_0.mp (by assumption))]; omega)) | exact bI_f (fun z => by have z2 := (opn_i (by omega)).mpr z; rw [bI_F (fun z => z (bI_1.mp (by assumption)))] at z2; omega) | exact bI_f (fun z => by have z2 := (opn_i (by omega)).mpr z; rw [bI_T (bI_0.mp (by assumption))] at z2; omega)), ⟨vIe rfl, ⟨vIe rfl, trivial⟩⟩⟩⟩⟩⟩⟩⟩⟩⟩⟩⟩⟩ ?_
          refine s1_sum3 τ r U R hr hM hW X rg hg hgs hgn hX hk0 K (by omega) 16 0 rfl ?_
          refine Ev.aload_n dX1_lookAtSum_237 rfl rfl ?_
          refine gf_X1_11 rfl dX1_lookAtSum_238 ltc_261 shc_261 rfc_261_1 ?_
          refine Ev.aload_n dX1_lookAtSum_241 rfl rfl ?_
          refine gf_X1_56 rfl dX1_lookAtSum_242 (lt_rc (by omega)) (sh_rc (by omega)) (rf_rc5 (by omega)) ?_
          refine Ev.iload dX1_lookAtSum_245 rfl ?_
          refine Ev.iaload (v := ((rO R K : Nat) : Int)) dX1_lookAtSum_247 (lt_rcf (by omega) (by decide)) (sh_rc1 (by omega)) (by decide) (by omega) (by omega) (ldx rfl (hP K (by omega)).1) ?_
          refine Ev.iload dX1_lookAtSum_248 rfl ?_
          refine Ev.iastore dX1_lookAtSum_250 ltc_262 shc_262 (by decide) (by omega) (Int.ofNat_lt.mpr (Nat.lt_of_lt_of_le (hO _ (by omega)) hU)) ?_
          refine Ev.iinc (pl' := [some (vR (261)), some (vR (26 + 4 * r)), some (vR (rg)), some (vI (sLa R X (rN R))), some (vI (sHa R X (rN R))), some (vI (opn R X (rN R))), some (vI (((K : Nat) : Int) + 1)), none, none, none, none, some (vI (((mkN 16 (fun v => (X (rO R K)).testBit v = true ∧ gSum R X K v) : Nat) : Int))), none, none]) dX1_lookAtSum_251 rfl (Nat.le_of_ble_eq_true rfl) rfl ?_
          refine Ev.goto (tgt := 90) dX1_lookAtSum_254 (by decide) ?_
          refine Ev.wk (pl' := [some (vR (261)), some (vR (26 + 4 * r)), some (vR (rg)), some (vI (sLa R X (rN R))), some (vI (sHa R X (rN R))), some (vI (opn R X (rN R))), some (vI ((((K + 1) : Nat) : Int))), none, none, none, none, none, none, none]) ⟨rfl, ⟨rfl, ⟨rfl, ⟨rfl, ⟨rfl, ⟨rfl, ⟨vIe (by omega), trivial⟩⟩⟩⟩⟩⟩⟩ ?_
          exact ih (K + 1) (by omega) (upC (τ) 262 (((rO R K : Nat) : Int)).toNat (((mkN 16 (fun v => (X (rO R K)).testBit v = true ∧ gSum R X K v) : Nat) : Int))) (hF0.up (by decide)) (by rw [upC_ne (by decide)]; exact hJ) (gone_up rfl (by rw [gn_0 hk0]) (fun k hk z => absurd (hdis k K (by omega) (by omega) z) (by omega)) hG)
        · skip
          refine Ev.iconst dX1_lookAtSum_161 ?_
          refine Ev.goto (tgt := 166) dX1_lookAtSum_162 (by decide) ?_
          refine Ev.istore (pl' := [some (vR (261)), some (vR (26 + 4 * r)), some (vR (rg)), some (vI (sLa R X (rN R))), some (vI (sHa R X (rN R))), some (vI (opn R X (rN R))), some (vI (((K : Nat) : Int))), some (vI (((X (rO R K) : Nat) : Int))), some (vI ((sLa R X (rN R) - mn (rA R K) (X (rO R K))))), some (vI ((sHa R X (rN R) - mx (rA R K) (X (rO R K))))), some (vI (1)), none, none, none]) dX1_lookAtSum_166 (Nat.le_of_ble_eq_true rfl) rfl ?_
          refine Ev.iconst dX1_lookAtSum_168 ?_
          refine Ev.istore (pl' := [some (vR (261)), some (vR (26 + 4 * r)), some (vR (rg)), some (vI (sLa R X (rN R))), some (vI (sHa R X (rN R))), some (vI (opn R X (rN R))), some (vI (((K : Nat) : Int))), some (vI (((X (rO R K) : Nat) : Int))), some (vI ((sLa R X (rN R) - mn (rA R K) (X (rO R K))))), some (vI ((sHa R X (rN R) - mx (rA R K) (X (rO R K))))), some (vI (1)), some (vI (0)), none, none]) dX1_lookAtSum_169 (Nat.le_of_ble_eq_true rfl) rfl ?_
          refine Ev.iconst dX1_lookAtSum_171 ?_
          refine Ev.istore (pl' := [some (vR (261)), some (vR (26 + 4 * r)), some (vR (rg)), some (vI (sLa R X (rN R))), some (vI (sHa R X (rN R))), some (vI (opn R X (rN R))), some (vI (((K : Nat) : Int))), some (vI (((X (rO R K) : Nat) : Int))), some (vI ((sLa R X (rN R) - mn (rA R K) (X (rO R K))))), some (vI ((sHa R X (rN R) - mx (rA R K) (X (rO R K))))), some (vI (1)), some (vI (0)), some (vI (0)), none]) dX1_lookAtSum_172 (Nat.le_of_ble_eq_true rfl) rfl ?_
          refine Ev.wk (pl' := [some (vR (261)), some (vR (26 + 4 * r)), some (vR (rg)), some (vI (sLa R X (rN R))), some (vI (sHa R X (rN R))), some (vI (opn R X (rN R))), some (vI (((K : Nat) : Int))), some (vI (((X (rO R K) : Nat) : Int))), some (vI (sLow R X K)), some (vI (sHigh R X K)), some (vI (bI (∀ k, k < rN R → k ≠ K → pop (X (rO R k)) = 1))), some (vI (((mkN 0 (fun v => (X (rO R K)).testBit v = true ∧ gSum R X K v) : Nat) : Int))), some (vI (((0 : Nat) : Int))), none]) ⟨rfl, ⟨rfl, ⟨rfl, ⟨rfl, ⟨rfl, ⟨rfl, ⟨rfl, ⟨rfl, ⟨vIe (sLa_i (by omega)), ⟨vIe (sHa_i (by omega)), ⟨vIe (by first | exact bI_t ((opn_i (by omega)).mp (by rw [bI_F (fun z => z (bI_1.mp (by assumption)))]; omega)) | exact bI_t ((opn_i (by omega)).mp (by rw [bI_T (bI_0.mp (by assumption))]; omega)) | exact bI_f (fun z => by have z2 := (opn_i (by omega)).mpr z; rw [bI_F (fun z => z (bI_1.mp (by assumption)))] at z2; omega) | exact bI_f (fun z => by have z2 := (opn_i (by omega)).mpr z; rw [bI_T (bI_0.mp (by assumption))] at z2; omega)), ⟨vIe rfl, ⟨vIe rfl, trivial⟩⟩⟩⟩⟩⟩⟩⟩⟩⟩⟩⟩⟩ ?_
          refine s1_sum3 τ r U R hr hM hW X rg hg hgs hgn hX hk0 K (by omega) 16 0 rfl ?_
          refine Ev.aload_n dX1_lookAtSum_237 rfl rfl ?_
          refine gf_X1_11 rfl dX1_lookAtSum_238 ltc_261 shc_261 rfc_261_1 ?_
          refine Ev.aload_n dX1_lookAtSum_241 rfl rfl ?_
          refine gf_X1_56 rfl dX1_lookAtSum_242 (lt_rc (by omega)) (sh_rc (by omega)) (rf_rc5 (by omega)) ?_
          refine Ev.iload dX1_lookAtSum_245 rfl ?_
          refine Ev.iaload (v := ((rO R K : Nat) : Int)) dX1_lookAtSum_247 (lt_rcf (by omega) (by decide)) (sh_rc1 (by omega)) (by decide) (by omega) (by omega) (ldx rfl (hP K (by omega)).1) ?_
          refine Ev.iload dX1_lookAtSum_248 rfl ?_
          refine Ev.iastore dX1_lookAtSum_250 ltc_262 shc_262 (by decide) (by omega) (Int.ofNat_lt.mpr (Nat.lt_of_lt_of_le (hO _ (by omega)) hU)) ?_
          refine Ev.iinc (pl' := [some (vR (261)), some (vR (26 + 4 * r)), some (vR (rg)), some (vI (sLa R X (rN R))), some (vI (sHa R X (rN R))), some (vI (opn R X (rN R))), some (vI (((K : Nat) : Int) + 1)), none, none, none, none, some (vI (((mkN 16 (fun v => (X (rO R K)).testBit v = true ∧ gSum R X K v) : Nat) : Int))), none, none]) dX1_lookAtSum_251 rfl (Nat.le_of_ble_eq_true rfl) rfl ?_
          refine Ev.goto (tgt := 90) dX1_lookAtSum_254 (by decide) ?_
          refine Ev.wk (pl' := [some (vR (261)), some (vR (26 + 4 * r)), some (vR (rg)), some (vI (sLa R X (rN R))), some (vI (sHa R X (rN R))), some (vI (opn R X (rN R))), some (vI ((((K + 1) : Nat) : Int))), none, none, none, none, none, none, none]) ⟨rfl, ⟨rfl, ⟨rfl, ⟨rfl, ⟨rfl, ⟨rfl, ⟨vIe (by omega), trivial⟩⟩⟩⟩⟩⟩⟩ ?_
          exact ih (K + 1) (by omega) (upC (τ) 262 (((rO R K : Nat) : Int)).toNat (((mkN 16 (fun v => (X (rO R K)).testBit v = true ∧ gSum R X K v) : Nat) : Int))) (hF0.up (by decide)) (by rw [upC_ne (by decide)]; exact hJ) (gone_up rfl (by rw [gn_0 hk0]) (fun k hk z => absurd (hdis k K (by omega) (by omega) z) (by omega)) hG)

set_option maxRecDepth 100000 in
set_option maxHeartbeats 4000000 in
theorem s1_lookAtSum {g : GC} (σ : Sg) (r U : Nat) (R : RC) (hr : r < 56) (hM : CR σ r R) (hW : WR U R) (X : Rg) (rg : Nat) (hg : rg < 298) (hgs : sh0 rg = (1, 10)) (hgn : rg ∉ LK) (hX : AV σ rg U X) (hk0 : rK R = 0) (T : Tb) (hJ : σ 263 0 = 0) : Ev g mX1_lookAtSum 0 [some (vR (261)), some (vR (26 + 4 * r)), some (vR (rg)), none, none, none, none, none, none, none, none, none, none, none] [] (M0 (σ)) 0 0 (retW (Looked σ T R X)) := by
  refine Ev.iconst dX1_lookAtSum_0 ?_
  refine Ev.istore_n (pl' := [some (vR (261)), some (vR (26 + 4 * r)), some (vR (rg)), some (vI (0)), none, none, none, none, none, none, none, none, none, none]) dX1_lookAtSum_1 rfl (Nat.le_of_ble_eq_true rfl) rfl ?_
  refine Ev.iconst dX1_lookAtSum_2 ?_
  refine Ev.istore (pl' := [some (vR (261)), some (vR (26 + 4 * r)), some (vR (rg)), some (vI (0)), some (vI (0)), none, none, none, none, none, none, none, none, none]) dX1_lookAtSum_3 (Nat.le_of_ble_eq_true rfl) rfl ?_
  refine Ev.iconst dX1_lookAtSum_5 ?_
  refine Ev.istore (pl' := [some (vR (261)), some (vR (26 + 4 * r)), some (vR (rg)), some (vI (0)), some (vI (0)), some (vI (0)), none, none, none, none, none, none, none, none]) dX1_lookAtSum_6 (Nat.le_of_ble_eq_true rfl) rfl ?_
  refine Ev.iconst dX1_lookAtSum_8 ?_
  refine Ev.istore (pl' := [some (vR (261)), some (vR (26 + 4 * r)), some (vR (rg)), some (vI (0)), some (vI (0)), some (vI (0)), some (vI (0)), none, none, none, none, none, none, none]) dX1_lookAtSum_9 (Nat.le_of_ble_eq_true rfl) rfl ?_
  refine Ev.wk (pl' := [some (vR (261)), some (vR (26 + 4 * r)), some (vR (rg)), some (vI (sLa R X 0)), some (vI (sHa R X 0)), some (vI (opn R X 0)), some (vI (((0 : Nat) : Int))), none, none, none, none, none, none, none]) ⟨rfl, ⟨rfl, ⟨rfl, ⟨vIe rfl, ⟨vIe rfl, ⟨vIe rfl, ⟨vIe rfl, trivial⟩⟩⟩⟩⟩⟩⟩ ?_
  refine s1_sum1 σ r U R hr hM hW X rg hg hgs hgn hX hk0 (rN R) 0 (by omega) ?_
  refine Ev.iconst dX1_lookAtSum_87 ?_
  refine Ev.istore (pl' := [some (vR (261)), some (vR (26 + 4 * r)), some (vR (rg)), some (vI (sLa R X (rN R))), some (vI (sHa R X (rN R))), some (vI (opn R X (rN R))), some (vI (0)), none, none, none, none, none, none, none]) dX1_lookAtSum_88 (Nat.le_of_ble_eq_true rfl) rfl ?_
  refine Ev.wk (pl' := [some (vR (261)), some (vR (26 + 4 * r)), some (vR (rg)), some (vI (sLa R X (rN R))), some (vI (sHa R X (rN R))), some (vI (opn R X (rN R))), some (vI (((0 : Nat) : Int))), none, none, none, none, none, none, none]) ⟨rfl, ⟨rfl, ⟨rfl, ⟨rfl, ⟨rfl, ⟨rfl, ⟨vIe rfl, trivial⟩⟩⟩⟩⟩⟩⟩ ?_
  exact s1_sum2 σ r U R hr hM hW X rg hg hgs hgn hX hk0 T (rN R) 0 (by omega) σ Same.rf hJ (fun k hk => absurd hk (by omega))

