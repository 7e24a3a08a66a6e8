/-! THE REFERENCE: going through answers -/
theorem kod_mono {n : Nat} {A B : An} (h : ∀ x, x < n → A x ≤ B x) : kod n A ≤ kod n B := by
  induction n with
  | zero => exact Nat.le_refl _
  | succ n ih =>
    have h1 := ih fun x hx => h x (by omega)
    have h2 := h n (by omega)
    simp only [kod]
    omega
def GO (U : Nat) (X : Rg) (A0 A : An) (i : Nat) : Prop := (∀ y, y < i → A y = A0 y) ∧ ∀ y, i ≤ y → y < U → A y = lo (X y) ∧ ∀ j, (X y).testBit j = true → j ≤ A0 y
def hiB (m a : Nat) : Nat := andN m (2 ^ (a + 1) - 1)
theorem hiB_tb {m a j : Nat} : (hiB m a).testBit j = true ↔ m.testBit j = true ∧ a < j := by
  unfold hiB
  rw [andN_tb, Nat.testBit_two_pow_sub_one]
  simp
  intro _
  omega
theorem hiB_lt {m a : Nat} (h : m < 65536) : hiB m a < 65536 := andN_lt h
/-- what a step onwards ends with -/
def NxP (σ : Sg) (U : Nat) (X : Rg) (A : An) (v : Int) (τ : Sg) : Prop := Same [297] σ τ ∧ ((v = 1 ∧ ∃ A', InR U X A' ∧ (∀ x, x < U → τ 297 x = (A' x : Int)) ∧ kod U A < kod U A' ∧ ∀ B, InR U X B → kod U B < kod U A' → kod U B ≤ kod U A) ∨ (v = 0 ∧ ∀ B, InR U X B → kod U B ≤ kod U A))
theorem GO.no {U : Nat} {X : Rg} {A0 A : An} (h : GO U X A0 A 0) : ∀ B, InR U X B → kod U B ≤ kod U A0 := fun B hB => kod_mono fun x hx => (h.2 x (by omega) hx).2 _ (hB x hx)
theorem GO.dn {U x : Nat} {X : Rg} {A0 A : An} (hx : x < U) (hX : X x < 65536) (hA0 : InR U X A0) (h : GO U X A0 A (x + 1)) (h0 : hiB (X x) (A x) = 0) : GO U X A0 (upY A x (lo (X x))) x := by
  refine ⟨fun y hy => by rw [upY_ne (by omega)]; exact h.1 y (by omega), fun y hy hyU => ?_⟩
  by_cases e : y = x
  · rw [e, upY_at]
    refine ⟨rfl, fun j hj => ?_⟩
    rcases Nat.lt_or_ge (A0 x) j with h1 | h1
    · have : (hiB (X x) (A x)).testBit j = true := hiB_tb.mpr ⟨hj, by rw [h.1 x (by omega)]; exact h1⟩
      rw [h0, Nat.zero_testBit] at this
      cases this
    · exact h1
  · rw [upY_ne e]; exact h.2 y (by omega) hyU
theorem GO.up {U x : Nat} {X : Rg} {A0 A : An} (hNE : NEm U X) (hx : x < U) (hA0 : InR U X A0) (h : GO U X A0 A (x + 1)) (h0 : hiB (X x) (A x) ≠ 0) :
    InR U X (upY A x (lo (hiB (X x) (A x)))) ∧ kod U A0 < kod U (upY A x (lo (hiB (X x) (A x)))) ∧ ∀ B, InR U X B → kod U B < kod U (upY A x (lo (hiB (X x) (A x)))) → kod U B ≤ kod U A0 := by
  have hh := hiB_lt (a := A x) (hNE x hx).2
  have hl := hiB_tb.mp (lo_tb hh h0)
  have eA : A x = A0 x := h.1 x (by omega)
  have hI : InR U X (upY A x (lo (hiB (X x) (A x)))) := fun y hy => by
    by_cases e : y = x
    · rw [e, upY_at]; exact hl.1
    · rw [upY_ne e]
      rcases Nat.lt_or_ge y x with h1 | h1
      · rw [h.1 y (by omega)]; exact hA0 y hy
      · rw [(h.2 y (by omega) hy).1]; exact lo_tb (hNE y hy).2 (hNE y hy).1
  have hlt : ∀ B, InR U X B → lt16 U B := fun B hB => InR.lt (fun x hx => (hNE x hx).2) hB
  refine ⟨hI, (kod_lex (hlt _ hA0) (hlt _ hI)).mpr ⟨x, hx, fun y hy => by rw [upY_ne (by omega)]; exact (h.1 y (by omega)).symm, by rw [upY_at, ← eA]; exact hl.2⟩, fun B hB hk => ?_⟩
  obtain ⟨z, z1, z2, z3⟩ := (kod_lex (hlt _ hB) (hlt _ hI)).mp hk
  rcases Nat.lt_trichotomy z x with h1 | h1 | h1
  · rw [upY_ne (by omega), h.1 z (by omega)] at z3
    exact Nat.le_of_lt ((kod_lex (hlt _ hB) (hlt _ hA0)).mpr ⟨z, z1, fun y hy => by rw [z2 y hy, upY_ne (by omega), h.1 y (by omega)], z3⟩)
  · subst h1
    rw [upY_at] at z3
    have hb : B z ≤ A0 z := by
      rcases Nat.lt_or_ge (A0 z) (B z) with q | q
      · have := lo_min (hiB_tb.mpr ⟨hB z z1, show A z < B z by omega⟩)
        omega
      · exact q
    refine kod_mono fun y hy => ?_
    rcases Nat.lt_trichotomy y z with q | q | q
    · rw [z2 y q, upY_ne (by omega), h.1 y (by omega)]; exact Nat.le_refl _
    · rw [q]; exact hb
    · exact (h.2 y (by omega) hy).2 _ (hB y hy)
  · rw [upY_ne (by omega), (h.2 z (by omega) z1).1] at z3
    have := lo_min (hB z z1)
    omega
theorem wys_pos {U : Nat} {X : Rg} (h : NEm U X) {n : Nat} (hn : n ≤ U) : 1 ≤ wys X n := by
  induction n with
  | zero => exact Nat.le_refl _
  | succ n ih =>
    have h1 := ih (by omega)
    have h2 := pop_pos (h n (by omega)).2 (h n (by omega)).1
    simp only [wys]
    exact Nat.mul_pos h1 h2
theorem wys_mono {U : Nat} {X : Rg} (h : NEm U X) {a b : Nat} (hab : a ≤ b) (hb : b ≤ U) : wys X a ≤ wys X b := by
  induction b with
  | zero => rw [show a = 0 by omega]; exact Nat.le_refl _
  | succ b ih =>
    rcases Nat.lt_or_ge b a with h1 | h1
    · rw [show a = b + 1 by omega]; exact Nat.le_refl _
    · have h2 := ih h1 (by omega)
      have h3 := pop_pos (h b (by omega)).2 (h b (by omega)).1
      simp only [wys]
      exact Nat.le_trans h2 (Nat.le_mul_of_pos_right _ h3)
theorem nv3 {τ : Sg} {U x v : Nat} {A : An} (h : ∀ y, y < U → τ 297 y = (A y : Int)) : ∀ y, y < U → upC τ 297 x (v : Int) 297 y = (upY A x v y : Int) := fun y hy => by
  by_cases e : y = x
  · rw [e, upC_at, upY_at]
  · rw [upC_self e, upY_ne e]; exact h y hy
set_option maxRecDepth 100000 in
set_option maxHeartbeats 4000000 in
theorem sM_first_l {g : GC} (σ : Sg) (U : Nat) (hU : U ≤ 10) (h1 : σ 272 1 = (U : Int)) (X : Rg) (hX : AW σ U X) : ∀ j x : Nat, x + j = U → ∀ τ : Sg, Same [297] σ τ → (∀ y, y < x → τ 297 y = (lo (X y) : Int)) → Ev g mX8_first 2 [some (vR (272)), some (vI (((x : Nat) : Int)))] [] (M0 (τ)) 0 0 (retW (fun τ => Same [297] σ τ ∧ ∀ x, x < U → τ 297 x = (lo (X x) : Int))) := by
  intro j
  induction j with
  | zero =>
    intro x hij τ hF hG
    refine Ev.iload_n dX8_first_2 rfl rfl ?_
    refine Ev.aload_n dX8_first_3 rfl rfl ?_
    refine gf_X8_93 (x := ((U : Nat) : Int)) rfl dX8_first_4 ltc_272 shc_272 ((congrFun (hF 272 (by decide)) 1).trans h1) ?_
    refine Ev.icmp_ge (tgt := 31) ⟨by omega, by omega⟩ ⟨by omega, by omega⟩ dX8_first_7 (by decide) (fun h7 => ?_) (fun h7 => ?_)
    · skip
      exact Ev.vreturn dX8_first_31 rfl (rW ⟨hF, fun y hy => hG y (by omega)⟩)
    · exact absurd h7 (by omega)
  | succ j ih =>
    intro x hij τ hF hG
    have hx16 := (hX x (by omega)).2
    refine Ev.iload_n dX8_first_2 rfl rfl ?_
    refine Ev.aload_n dX8_first_3 rfl rfl ?_
    refine gf_X8_93 (x := ((U : Nat) : Int)) rfl dX8_first_4 ltc_272 shc_272 ((congrFun (hF 272 (by decide)) 1).trans h1) ?_
    refine Ev.icmp_ge (tgt := 31) ⟨by omega, by omega⟩ ⟨by omega, by omega⟩ dX8_first_7 (by decide) (fun h7 => ?_) (fun h7 => ?_)
    · exact absurd h7 (by omega)
    · skip
      refine Ev.aload_n dX8_first_10 rfl rfl ?_
      refine gf_X8_87 rfl dX8_first_11 ltc_272 shc_272 rfc_272_33 ?_
      refine Ev.iload_n dX8_first_14 rfl rfl ?_
      refine Ev.aload_n dX8_first_15 rfl rfl ?_
      refine gf_X8_78 rfl dX8_first_16 ltc_272 shc_272 rfc_272_29 ?_
      refine Ev.iload_n dX8_first_19 rfl rfl ?_
      refine Ev.iaload (v := ((X x : Nat) : Int)) dX8_first_20 ltc_294 shc_294 (by decide) (by omega) (by omega) (ldx rfl ((congrFun (hF 294 (by decide)) _).trans (hX x (by omega)).1)) ?_
      refine Ev.callS_I (M2 := mX8_least) (args2 := [vI (((X x : Nat) : Int))]) dX8_first_21 okX8_least lk_X8_161 osX8_least.1 osX8_least.2 (by decide) rfl (Nat.le_of_ble_eq_true rfl) (Nat.le_of_ble_eq_true rfl) (sM_least τ (X x) (by omega)) ?_ rfl
      refine Ev.iastore dX8_first_24 ltc_297 shc_297 (by decide) (by omega) (by omega) ?_
      refine Ev.iinc (pl' := [some (vR (272)), some (vI (((x : Nat) : Int) + 1))]) dX8_first_25 rfl (Nat.le_of_ble_eq_true rfl) rfl ?_
      refine Ev.goto (tgt := 2) dX8_first_28 (by decide) ?_
      refine Ev.mem (τ := upC τ 297 x (lo (X x) : Int)) (by simp only [Int.toNat_natCast]) ?_
      refine Ev.wk (pl' := [some (vR (272)), some (vI ((((x + 1) : Nat) : Int)))]) ⟨rfl, ⟨vIe (by omega), trivial⟩⟩ ?_
      exact ih (x + 1) (by omega) _ (hF.up (by decide)) (fun y hy => by rcases Nat.lt_or_ge y x with e | e; (rw [upC_self (by omega)]; exact hG y e); (rw [show y = x by omega]; exact upC_at))

set_option maxRecDepth 100000 in
set_option maxHeartbeats 4000000 in
theorem sM_first {g : GC} (σ : Sg) (U : Nat) (hU : U ≤ 10) (h1 : σ 272 1 = (U : Int)) (X : Rg) (hX : AW σ U X) : Ev g mX8_first 0 [some (vR (272)), none] [] (M0 (σ)) 0 0 (retW (fun τ => Same [297] σ τ ∧ ∀ x, x < U → τ 297 x = (lo (X x) : Int))) := by
  refine Ev.iconst dX8_first_0 ?_
  refine Ev.istore_n (pl' := [some (vR (272)), some (vI (0))]) dX8_first_1 rfl (Nat.le_of_ble_eq_true rfl) rfl ?_
  refine Ev.wk (pl' := [some (vR (272)), some (vI (((0 : Nat) : Int)))]) ⟨rfl, ⟨vIe rfl, trivial⟩⟩ ?_
  exact sM_first_l σ U hU h1 X hX U 0 (by omega) σ Same.rf (fun y hy => absurd hy (by omega))

set_option maxRecDepth 100000 in
set_option maxHeartbeats 4000000 in
theorem sM_isFar_l {g : GC} (σ : Sg) (U : Nat) (hU : U ≤ 10) (h1 : σ 272 1 = (U : Int)) (X : Rg) (hX : AW σ U X) (hNE : NEm U X) : ∀ j i : Nat, i + j = U → wys X i ≤ 320000 → Ev g mX8_isFar 4 [some (vR (272)), some (vL (((wys X i : Nat) : Int))), none, some (vI (((i : Nat) : Int)))] [] (M0 (σ)) 0 0 (retI (bI (20000 < wys X U)) σ) := by
  intro j
  induction j with
  | zero =>
    intro i hij hwb
    have hc := lCmp_c (wys X i : Int) 20000
    refine Ev.iload_n dX8_isFar_4 rfl rfl ?_
    refine Ev.aload_n dX8_isFar_5 rfl rfl ?_
    refine gf_X8_93 (x := ((U : Nat) : Int)) rfl dX8_isFar_6 ltc_272 shc_272 h1 ?_
    refine Ev.icmp_ge (tgt := 39) ⟨by omega, by omega⟩ ⟨by omega, by omega⟩ dX8_isFar_9 (by decide) (fun h9 => ?_) (fun h9 => ?_)
    · skip
      refine Ev.lload_n dX8_isFar_39 rfl rfl ?_
      refine Ev.ldc2 (n := 20000) (tbl_i 998 (by decide +kernel)) dX8_isFar_40 ?_
      refine Ev.lcmp ⟨by omega, by omega⟩ ⟨by decide, by decide⟩ dX8_isFar_43 ?_
      refine Ev.if_le (tgt := 51) lCmp_inR dX8_isFar_44 (by decide) (fun h44 => ?_) (fun h44 => ?_)
      · skip
        refine Ev.iconst dX8_isFar_51 ?_
        exact Ev.zreturn dX8_isFar_52 rfl (Or.inl rfl) (rI (bI_f (by have e : i = U := (by omega); rw [← e]; omega)) rfl)
      · skip
        refine Ev.iconst dX8_isFar_47 ?_
        refine Ev.goto (tgt := 52) dX8_isFar_48 (by decide) ?_
        exact Ev.zreturn dX8_isFar_52 rfl (Or.inr rfl) (rI (bI_t (by have hm := wys_mono hNE (show i ≤ U by omega) (Nat.le_refl U); omega)) rfl)
    · exact absurd h9 (by omega)
  | succ j ih =>
    intro i hij hwb
    have hc := lCmp_c (wys X i : Int) 20000
    have hx16 := (hX i (by omega)).2
    have hp16 : pop (X i) ≤ 16 := popN_le 16 _
    have hmm : wys X i * pop (X i) = wys X (i + 1) := rfl
    have hml : wys X i ≤ 20000 → wys X i * pop (X i) ≤ 20000 * 16 := fun z => Nat.mul_le_mul z hp16
    refine Ev.iload_n dX8_isFar_4 rfl rfl ?_
    refine Ev.aload_n dX8_isFar_5 rfl rfl ?_
    refine gf_X8_93 (x := ((U : Nat) : Int)) rfl dX8_isFar_6 ltc_272 shc_272 h1 ?_
    refine Ev.icmp_ge (tgt := 39) ⟨by omega, by omega⟩ ⟨by omega, by omega⟩ dX8_isFar_9 (by decide) (fun h9 => ?_) (fun h9 => ?_)
    · exact absurd h9 (by omega)
    · skip
      refine Ev.lload_n dX8_isFar_12 rfl rfl ?_
      refine Ev.ldc2 (n := 20000) (tbl_i 998 (by decide +kernel)) dX8_isFar_13 ?_
      refine Ev.lcmp ⟨by omega, by omega⟩ ⟨by decide, by decide⟩ dX8_isFar_16 ?_
      refine Ev.if_gt (tgt := 39) lCmp_inR dX8_isFar_17 (by decide) (fun h17 => ?_) (fun h17 => ?_)
      · skip
        refine Ev.lload_n dX8_isFar_39 rfl rfl ?_
        refine Ev.ldc2 (n := 20000) (tbl_i 998 (by decide +kernel)) dX8_isFar_40 ?_
        refine Ev.lcmp ⟨by omega, by omega⟩ ⟨by decide, by decide⟩ dX8_isFar_43 ?_
        refine Ev.if_le (tgt := 51) lCmp_inR dX8_isFar_44 (by decide) (fun h44 => ?_) (fun h44 => ?_)
        · skip
          refine Ev.iconst dX8_isFar_51 ?_
          exact Ev.zreturn dX8_isFar_52 rfl (Or.inl rfl) (rI (bI_f (by have e : i = U := (by omega); rw [← e]; omega)) rfl)
        · skip
          refine Ev.iconst dX8_isFar_47 ?_
          refine Ev.goto (tgt := 52) dX8_isFar_48 (by decide) ?_
          exact Ev.zreturn dX8_isFar_52 rfl (Or.inr rfl) (rI (bI_t (by have hm := wys_mono hNE (show i ≤ U by omega) (Nat.le_refl U); omega)) rfl)
      · skip
        refine Ev.lload_n dX8_isFar_20 rfl rfl ?_
        refine Ev.aload_n dX8_isFar_21 rfl rfl ?_
        refine gf_X8_78 rfl dX8_isFar_22 ltc_272 shc_272 rfc_272_29 ?_
        refine Ev.iload_n dX8_isFar_25 rfl rfl ?_
        refine Ev.iaload (v := ((X i : Nat) : Int)) dX8_isFar_26 ltc_294 shc_294 (by decide) (by omega) (by omega) (ldx rfl (hX i (by omega)).1) ?_
        refine Ev.callS_I (M2 := mX8_many) (args2 := [vI (((X i : Nat) : Int))]) dX8_isFar_27 okX8_many lk_X8_123 osX8_many.1 osX8_many.2 (by decide) rfl (Nat.le_of_ble_eq_true rfl) (Nat.le_of_ble_eq_true rfl) (sM_many σ (X i) (by omega)) ?_ rfl
        refine Ev.i2l pop_inR dX8_isFar_30 ?_
        refine Ev.lmul dX8_isFar_31 ?_
        rw [show (((wys X i : Nat) : Int) * ((pop (X i) : Nat) : Int)) = ((wys X (i + 1) : Nat) : Int) from by rw [← hmm]; exact (Int.natCast_mul _ _).symm]
        refine Ev.lstore_n (pl' := [some (vR (272)), some (vL (((wys X (i + 1) : Nat) : Int))), none, some (vI (((i : Nat) : Int)))]) dX8_isFar_32 rfl (Nat.le_of_ble_eq_true rfl) rfl ?_
        refine Ev.iinc (pl' := [some (vR (272)), some (vL (((wys X (i + 1) : Nat) : Int))), none, some (vI (((i : Nat) : Int) + 1))]) dX8_isFar_33 rfl (Nat.le_of_ble_eq_true rfl) rfl ?_
        refine Ev.goto (tgt := 4) dX8_isFar_36 (by decide) ?_
        refine Ev.wk (pl' := [some (vR (272)), some (vL (((wys X (i + 1) : Nat) : Int))), none, some (vI ((((i + 1) : Nat) : Int)))]) ⟨rfl, ⟨rfl, ⟨vIe (by omega), trivial⟩⟩⟩ ?_
        exact ih (i + 1) (by omega) (by rw [← hmm]; omega)

set_option maxRecDepth 100000 in
set_option maxHeartbeats 4000000 in
theorem sM_isFar {g : GC} (σ : Sg) (U : Nat) (hU : U ≤ 10) (h1 : σ 272 1 = (U : Int)) (X : Rg) (hX : AW σ U X) (hNE : NEm U X) : Ev g mX8_isFar 0 [some (vR (272)), none, none, none] [] (M0 (σ)) 0 0 (retI (bI (20000 < wys X U)) σ) := by
  refine Ev.lconst 1 rfl dX8_isFar_0 ?_
  refine Ev.lstore_n (pl' := [some (vR (272)), some (vL (1)), none, none]) dX8_isFar_1 rfl (Nat.le_of_ble_eq_true rfl) rfl ?_
  refine Ev.iconst dX8_isFar_2 ?_
  refine Ev.istore_n (pl' := [some (vR (272)), some (vL (1)), none, some (vI (0))]) dX8_isFar_3 rfl (Nat.le_of_ble_eq_true rfl) rfl ?_
  refine Ev.wk (pl' := [some (vR (272)), some (vL (((wys X 0 : Nat) : Int))), none, some (vI (((0 : Nat) : Int)))]) ⟨rfl, ⟨vLe rfl, ⟨vIe rfl, trivial⟩⟩⟩ ?_
  exact sM_isFar_l σ U hU h1 X hX hNE U 0 (by omega) (by show 1 ≤ 320000; decide)

set_option maxRecDepth 100000 in
set_option maxHeartbeats 4000000 in
theorem sM_goesOn_l {g : GC} (σ : Sg) (U : Nat) (hU : U ≤ 10) (h1 : σ 272 1 = (U : Int)) (X : Rg) (hX : AW σ U X) (hNE : NEm U X) (A0 : An) (hA0 : InR U X A0) : ∀ j K : Nat, K + j = U → ∀ (τ : Sg) (A : An), Same [297] σ τ → (∀ x, x < U → τ 297 x = (A x : Int)) → GO U X A0 A (U - K) → Ev g mX8_goesOn 7 [some (vR (272)), some (vI ((U : Int) - 1 - ((K : Nat) : Int))), none] [] (M0 (τ)) 0 0 (retE (NxP σ U X A0)) := by
  intro j
  induction j with
  | zero =>
    intro K hij τ A hF hA hgo
    refine Ev.iload_n dX8_goesOn_7 rfl rfl ?_
    refine Ev.if_lt (tgt := 71) ⟨by omega, by omega⟩ dX8_goesOn_8 (by decide) (fun h8 => ?_) (fun h8 => ?_)
    · skip
      refine Ev.iconst dX8_goesOn_71 ?_
      exact Ev.zreturn dX8_goesOn_72 rfl (Or.inl rfl) (rE ⟨hF, Or.inr ⟨rfl, GO.no (by rw [show U - K = 0 by omega] at hgo; exact hgo)⟩⟩)
    · exact absurd h8 (by omega)
  | succ j ih =>
    intro K hij τ A hF hA hgo
    refine Ev.iload_n dX8_goesOn_7 rfl rfl ?_
    refine Ev.if_lt (tgt := 71) ⟨by omega, by omega⟩ dX8_goesOn_8 (by decide) (fun h8 => ?_) (fun h8 => ?_)
    · exact absurd h8 (by omega)
    · skip
      obtain ⟨x, hx⟩ : ∃ x : Nat, (x : Int) = (U : Int) - 1 - (K : Int) := ⟨U - 1 - K, by omega⟩
      refine Ev.wk (pl' := [some (vR (272)), some (vI (((x : Nat) : Int))), none]) ⟨rfl, ⟨vIe hx.symm, trivial⟩⟩ ?_
      have hxU : x < U := by omega
      have hx16 := (hNE x hxU).2
      have hxe : U - K = x + 1 := by omega
      rw [hxe] at hgo
      have hax : A x < 16 := by rw [hgo.1 x (by omega)]; exact tb_lt hx16 (hA0 x hxU)
      have hp2 := pow_le17 (show A x + 1 < 17 by omega)
      have hp1 : 1 ≤ 2 ^ (A x + 1) := Nat.one_le_two_pow
      have hhl : hiB (X x) (A x) < 65536 := hiB_lt hx16
      refine Ev.aload_n dX8_goesOn_11 rfl rfl ?_
      refine gf_X8_78 rfl dX8_goesOn_12 ltc_272 shc_272 rfc_272_29 ?_
      refine Ev.iload_n dX8_goesOn_15 rfl rfl ?_
      refine Ev.iaload (v := ((X x : Nat) : Int)) dX8_goesOn_16 ltc_294 shc_294 (by decide) (by omega) (by omega) (ldx rfl ((congrFun (hF 294 (by decide)) _).trans (hX x hxU).1)) ?_
      refine Ev.ldc (n := 65535) (tbl_i 803 (by decide +kernel)) dX8_goesOn_17 ?_
      refine Ev.iconst dX8_goesOn_19 ?_
      refine Ev.aload_n dX8_goesOn_20 rfl rfl ?_
      refine gf_X8_87 rfl dX8_goesOn_21 ltc_272 shc_272 rfc_272_33 ?_
      refine Ev.iload_n dX8_goesOn_24 rfl rfl ?_
      refine Ev.iaload (v := ((A x : Nat) : Int)) dX8_goesOn_25 ltc_297 shc_297 (by decide) (by omega) (by omega) (ldx rfl (hA x hxU)) ?_
      refine Ev.iconst dX8_goesOn_26 ?_
      refine Ev.iadd dX8_goesOn_27 ?_
      refine Ev.ishl dX8_goesOn_28 ?_
      rw [show (iShl (1) ((((A x : Nat) : Int) + 1))) = ((2 ^ (A x + 1) : Nat) : Int) from by rw [show ((A x : Nat) : Int) + 1 = ((A x + 1 : Nat) : Int) by omega]; exact shl1 (by omega)]
      refine Ev.iconst dX8_goesOn_29 ?_
      refine Ev.isub dX8_goesOn_30 ?_
      refine Ev.isub dX8_goesOn_31 ?_
      refine Ev.iand dX8_goesOn_32 ?_
      rw [show (iAnd (((X x : Nat) : Int)) ((65535 - (((2 ^ (A x + 1) : Nat) : Int) - 1)))) = ((hiB (X x) (A x) : Nat) : Int) from by rw [show (65535 : Int) - (((2 ^ (A x + 1) : Nat) : Int) - 1) = ((65535 - (2 ^ (A x + 1) - 1) : Nat) : Int) by omega, iAnd_nat (by omega), and_compl hx16 (by omega)]; rfl]
      refine Ev.istore_n (pl' := [some (vR (272)), some (vI (((x : Nat) : Int))), some (vI (((hiB (X x) (A x) : Nat) : Int)))]) dX8_goesOn_33 rfl (Nat.le_of_ble_eq_true rfl) rfl ?_
      refine Ev.iload_n dX8_goesOn_34 rfl rfl ?_
      refine Ev.if_eq (tgt := 50) ⟨by omega, by omega⟩ dX8_goesOn_35 (by decide) (fun h35 => ?_) (fun h35 => ?_)
      · skip
        refine Ev.aload_n dX8_goesOn_50 rfl rfl ?_
        refine gf_X8_87 rfl dX8_goesOn_51 ltc_272 shc_272 rfc_272_33 ?_
        refine Ev.iload_n dX8_goesOn_54 rfl rfl ?_
        refine Ev.aload_n dX8_goesOn_55 rfl rfl ?_
        refine gf_X8_78 rfl dX8_goesOn_56 ltc_272 shc_272 rfc_272_29 ?_
        refine Ev.iload_n dX8_goesOn_59 rfl rfl ?_
        refine Ev.iaload (v := ((X x : Nat) : Int)) dX8_goesOn_60 ltc_294 shc_294 (by decide) (by omega) (by omega) (ldx rfl ((congrFun (hF 294 (by decide)) _).trans (hX x hxU).1)) ?_
        refine Ev.callS_I (M2 := mX8_least) (args2 := [vI (((X x : Nat) : Int))]) dX8_goesOn_61 okX8_least lk_X8_161 osX8_least.1 osX8_least.2 (by decide) rfl (Nat.le_of_ble_eq_true rfl) (Nat.le_of_ble_eq_true rfl) (sM_least τ (X x) (by omega)) ?_ rfl
        refine Ev.iastore dX8_goesOn_64 ltc_297 shc_297 (by decide) (by omega) (by omega) ?_
        refine Ev.mem (τ := upC τ 297 x (lo (X x) : Int)) (by simp only [Int.toNat_natCast]) ?_
        refine Ev.iinc (pl' := [some (vR (272)), some (vI (((x : Nat) : Int) + (-1))), some (vI (((hiB (X x) (A x) : Nat) : Int)))]) dX8_goesOn_65 rfl (Nat.le_of_ble_eq_true rfl) rfl ?_
        refine Ev.goto (tgt := 7) dX8_goesOn_68 (by decide) ?_
        refine Ev.wk (pl' := [some (vR (272)), some (vI ((U : Int) - 1 - (((K + 1) : Nat) : Int))), none]) ⟨rfl, ⟨vIe (by omega), trivial⟩⟩ ?_
        exact ih (K + 1) (by omega) _ (upY A x (lo (X x))) (hF.up (by decide)) (nv3 hA) (by rw [show U - (K + 1) = x by omega]; exact hgo.dn hxU hx16 hA0 (by omega))
      · skip
        refine Ev.aload_n dX8_goesOn_38 rfl rfl ?_
        refine gf_X8_87 rfl dX8_goesOn_39 ltc_272 shc_272 rfc_272_33 ?_
        refine Ev.iload_n dX8_goesOn_42 rfl rfl ?_
        refine Ev.iload_n dX8_goesOn_43 rfl rfl ?_
        refine Ev.callS_I (M2 := mX8_least) (args2 := [vI (((hiB (X x) (A x) : Nat) : Int))]) dX8_goesOn_44 okX8_least lk_X8_161 osX8_least.1 osX8_least.2 (by decide) rfl (Nat.le_of_ble_eq_true rfl) (Nat.le_of_ble_eq_true rfl) (sM_least τ (hiB (X x) (A x)) (by omega)) ?_ rfl
        refine Ev.iastore dX8_goesOn_47 ltc_297 shc_297 (by decide) (by omega) (by omega) ?_
        refine Ev.mem (τ := upC τ 297 x (lo (hiB (X x) (A x)) : Int)) (by simp only [Int.toNat_natCast]) ?_
        refine Ev.iconst dX8_goesOn_48 ?_
        exact Ev.zreturn dX8_goesOn_49 rfl (Or.inr rfl) (rE ⟨hF.up (by decide), Or.inl ⟨rfl, _, (hgo.up hNE hxU hA0 (by omega)).1, nv3 hA, (hgo.up hNE hxU hA0 (by omega)).2⟩⟩)

set_option maxRecDepth 100000 in
set_option maxHeartbeats 4000000 in
theorem sM_goesOn {g : GC} (σ : Sg) (U : Nat) (hU : U ≤ 10) (h1 : σ 272 1 = (U : Int)) (X : Rg) (hX : AW σ U X) (hNE : NEm U X) (A0 : An) (hA0 : InR U X A0) (hA : ∀ x, x < U → σ 297 x = (A0 x : Int)) : Ev g mX8_goesOn 0 [some (vR (272)), none, none] [] (M0 (σ)) 0 0 (retE (NxP σ U X A0)) := by
  refine Ev.aload_n dX8_goesOn_0 rfl rfl ?_
  refine gf_X8_93 (x := ((U : Nat) : Int)) rfl dX8_goesOn_1 ltc_272 shc_272 h1 ?_
  refine Ev.iconst dX8_goesOn_4 ?_
  refine Ev.isub dX8_goesOn_5 ?_
  refine Ev.istore_n (pl' := [some (vR (272)), some (vI ((((U : Nat) : Int) - 1))), none]) dX8_goesOn_6 rfl (Nat.le_of_ble_eq_true rfl) rfl ?_
  refine Ev.wk (pl' := [some (vR (272)), some (vI ((U : Int) - 1 - ((0 : Nat) : Int))), none]) ⟨rfl, ⟨vIe (by omega), trivial⟩⟩ ?_
  exact sM_goesOn_l σ U hU h1 X hX hNE A0 hA0 U 0 (by omega) σ A0 Same.rf hA ⟨fun y _ => rfl, fun y h1 h2 => absurd h1 (by omega)⟩

set_option maxRecDepth 100000 in
set_option maxHeartbeats 4000000 in
theorem sM_fitsAll_l {g : GC} (σ : Sg) (U : Nat) (n : Nat) (hn : n ≤ 16) (h8 : σ 272 8 = (n : Int)) (T : Tb) (hT : TVm σ T) (Rf : Nat → RC) (w : Nat) (hw : w < 2 ^ n) (hR : ∀ r, r < n → MR σ r (Rf r) ∧ WR U (Rf r)) (hon : ∀ r, r < n → σ 281 r = (b2 (w.testBit r) : Int)) (A : An) (hA : ∀ x, x < U → σ 297 x = (A x : Int) ∧ A x < 16) : ∀ j r : Nat, r + j = n → (∀ q, q < r → w.testBit q = true → fit T (Rf q) A) → Ev g mX8_fitsAll 2 [some (vR (272)), some (vI (((r : Nat) : Int)))] [] (M0 (σ)) 0 0 (retI (bI (FitS T (16, Rf, fun r => w.testBit r = true) A)) σ) := by
  intro j
  induction j with
  | zero =>
    intro r hij hno
    refine Ev.iload_n dX8_fitsAll_2 rfl rfl ?_
    refine Ev.aload_n dX8_fitsAll_3 rfl rfl ?_
    refine gf_X8_100 (x := ((n : Nat) : Int)) rfl dX8_fitsAll_4 ltc_272 shc_272 h8 ?_
    refine Ev.icmp_ge (tgt := 35) ⟨by omega, by omega⟩ ⟨by omega, by omega⟩ dX8_fitsAll_7 (by decide) (fun h7 => ?_) (fun h7 => ?_)
    · skip
      refine Ev.iconst dX8_fitsAll_35 ?_
      exact Ev.zreturn dX8_fitsAll_36 rfl (Or.inr rfl) (rI (bI_t (fun q hq hb => hno q (by have := bit_cap hw hb; omega) hb)) rfl)
    · exact absurd h7 (by omega)
  | succ j ih =>
    intro r hij hno
    have hRr := hR r (by omega)
    refine Ev.iload_n dX8_fitsAll_2 rfl rfl ?_
    refine Ev.aload_n dX8_fitsAll_3 rfl rfl ?_
    refine gf_X8_100 (x := ((n : Nat) : Int)) rfl dX8_fitsAll_4 ltc_272 shc_272 h8 ?_
    refine Ev.icmp_ge (tgt := 35) ⟨by omega, by omega⟩ ⟨by omega, by omega⟩ dX8_fitsAll_7 (by decide) (fun h7 => ?_) (fun h7 => ?_)
    · exact absurd h7 (by omega)
    · skip
      refine Ev.aload_n dX8_fitsAll_10 rfl rfl ?_
      refine gf_X8_34 rfl dX8_fitsAll_11 ltc_272 shc_272 rfc_272_12 ?_
      refine Ev.iload_n dX8_fitsAll_14 rfl rfl ?_
      refine Ev.zaload (v := ((b2 (Nat.testBit w r) : Nat) : Int)) dX8_fitsAll_15 ltc_281 shc_281 (by decide) (by omega) (by omega) (ldx rfl (hon r (by omega))) ?_
      refine Ev.if_eq (tgt := 29) b2_inR dX8_fitsAll_16 (by decide) (fun h16 => ?_) (fun h16 => ?_)
      · skip
        refine Ev.iinc (pl' := [some (vR (272)), some (vI (((r : Nat) : Int) + 1))]) dX8_fitsAll_29 rfl (Nat.le_of_ble_eq_true rfl) rfl ?_
        refine Ev.goto (tgt := 2) dX8_fitsAll_32 (by decide) ?_
        refine Ev.wk (pl' := [some (vR (272)), some (vI ((((r + 1) : Nat) : Int)))]) ⟨rfl, ⟨vIe (by omega), trivial⟩⟩ ?_
        exact ih (r + 1) (by omega) (fun q hq hb => (Nat.lt_or_ge q r).elim (fun e => hno q e hb) (fun e => by have e2 : q = r := (by omega); subst e2; first | exact bI_1.mp (by assumption) | exact absurd hb (by rw [b2_0.mp h16]; decide)))
      · skip
        refine Ev.aload_n dX8_fitsAll_19 rfl rfl ?_
        refine Ev.iload_n dX8_fitsAll_20 rfl rfl ?_
        refine Ev.callV_I (M2 := mX8_fits) (args2 := [vI (((r : Nat) : Int))]) (rcv := 272) (q := (RX8, TX8, 34)) (ci := 8) dX8_fitsAll_21 okX8_fits lk_X8_245 ovX8_fits.1.1 ovX8_fits.1.2 ovX8_fits.2 (by decide) rfl rfl ltc_272 shc_272 rfl (Nat.le_of_ble_eq_true rfl) (Nat.le_of_ble_eq_true rfl) (sM_fits σ r U (Rf r) A (by omega) hRr.1 hRr.2 (fun k hk => hA _ (hRr.2.2.1 k hk)) T hT) ?_ rfl
        refine Ev.if_ne (tgt := 29) bI_inR dX8_fitsAll_24 (by decide) (fun h24 => ?_) (fun h24 => ?_)
        · skip
          refine Ev.iinc (pl' := [some (vR (272)), some (vI (((r : Nat) : Int) + 1))]) dX8_fitsAll_29 rfl (Nat.le_of_ble_eq_true rfl) rfl ?_
          refine Ev.goto (tgt := 2) dX8_fitsAll_32 (by decide) ?_
          refine Ev.wk (pl' := [some (vR (272)), some (vI ((((r + 1) : Nat) : Int)))]) ⟨rfl, ⟨vIe (by omega), trivial⟩⟩ ?_
          exact ih (r + 1) (by omega) (fun q hq hb => (Nat.lt_or_ge q r).elim (fun e => hno q e hb) (fun e => by have e2 : q = r := (by omega); subst e2; first | exact bI_1.mp (by assumption) | exact absurd hb (by rw [b2_0.mp h16]; decide)))
        · skip
          refine Ev.iconst dX8_fitsAll_27 ?_
          exact Ev.zreturn dX8_fitsAll_28 rfl (Or.inl rfl) (rI (bI_f (fun z => bI_0.mp (by assumption) (z r (show r < 16 by omega) (b2_ne.mp h16)))) rfl)

set_option maxRecDepth 100000 in
set_option maxHeartbeats 4000000 in
theorem sM_fitsAll {g : GC} (σ : Sg) (U : Nat) (n : Nat) (hn : n ≤ 16) (h8 : σ 272 8 = (n : Int)) (T : Tb) (hT : TVm σ T) (Rf : Nat → RC) (w : Nat) (hw : w < 2 ^ n) (hR : ∀ r, r < n → MR σ r (Rf r) ∧ WR U (Rf r)) (hon : ∀ r, r < n → σ 281 r = (b2 (w.testBit r) : Int)) (A : An) (hA : ∀ x, x < U → σ 297 x = (A x : Int) ∧ A x < 16) : Ev g mX8_fitsAll 0 [some (vR (272)), none] [] (M0 (σ)) 0 0 (retI (bI (FitS T (16, Rf, fun r => w.testBit r = true) A)) σ) := by
  refine Ev.iconst dX8_fitsAll_0 ?_
  refine Ev.istore_n (pl' := [some (vR (272)), some (vI (0))]) dX8_fitsAll_1 rfl (Nat.le_of_ble_eq_true rfl) rfl ?_
  refine Ev.wk (pl' := [some (vR (272)), some (vI (((0 : Nat) : Int)))]) ⟨rfl, ⟨vIe rfl, trivial⟩⟩ ?_
  exact sM_fitsAll_l σ U n hn h8 T hT Rf w hw hR hon A hA n 0 (by omega) (fun q hq => absurd hq (by omega))

set_option maxRecDepth 100000 in
set_option maxHeartbeats 4000000 in
theorem sM_above_l {g : GC} (σ : Sg) (U : Nat) (hU : U ≤ 10) (h1 : σ 272 1 = (U : Int)) (A B : An) (hA : ∀ x, x < U → σ 297 x = (A x : Int) ∧ A x < 16) (hB : ∀ x, x < U → σ 293 x = (B x : Int) ∧ B x < 16) : ∀ j x : Nat, x + j = U → (∀ y, y < x → B y = A y) → Ev g mX8_isAbove 2 [some (vR (272)), some (vI (((x : Nat) : Int)))] [] (M0 (σ)) 0 0 (retI (bI (kod U B < kod U A)) σ) := by
  intro j
  induction j with
  | zero =>
    intro x hij hno
    refine Ev.iload_n dX8_isAbove_2 rfl rfl ?_
    refine Ev.aload_n dX8_isAbove_3 rfl rfl ?_
    refine gf_X8_93 (x := ((U : Nat) : Int)) rfl dX8_isAbove_4 ltc_272 shc_272 h1 ?_
    refine Ev.icmp_ge (tgt := 52) ⟨by omega, by omega⟩ ⟨by omega, by omega⟩ dX8_isAbove_7 (by decide) (fun h7 => ?_) (fun h7 => ?_)
    · skip
      refine Ev.iconst dX8_isAbove_52 ?_
      exact Ev.zreturn dX8_isAbove_53 rfl (Or.inl rfl) (rI (bI_f (fun z => by obtain ⟨y, z1, z2, z3⟩ := (kod_lex (fun x hx => (hB x hx).2) (fun x hx => (hA x hx).2)).mp z; rcases Nat.lt_trichotomy y x with e | e | e; (have := hno y e; omega); (rw [e] at z3; omega); (have := z2 x e; omega))) rfl)
    · exact absurd h7 (by omega)
  | succ j ih =>
    intro x hij hno
    have ha := (hA x (by omega)).2
    have hb := (hB x (by omega)).2
    refine Ev.iload_n dX8_isAbove_2 rfl rfl ?_
    refine Ev.aload_n dX8_isAbove_3 rfl rfl ?_
    refine gf_X8_93 (x := ((U : Nat) : Int)) rfl dX8_isAbove_4 ltc_272 shc_272 h1 ?_
    refine Ev.icmp_ge (tgt := 52) ⟨by omega, by omega⟩ ⟨by omega, by omega⟩ dX8_isAbove_7 (by decide) (fun h7 => ?_) (fun h7 => ?_)
    · exact absurd h7 (by omega)
    · skip
      refine Ev.aload_n dX8_isAbove_10 rfl rfl ?_
      refine gf_X8_87 rfl dX8_isAbove_11 ltc_272 shc_272 rfc_272_33 ?_
      refine Ev.iload_n dX8_isAbove_14 rfl rfl ?_
      refine Ev.iaload (v := ((A x : Nat) : Int)) dX8_isAbove_15 ltc_297 shc_297 (by decide) (by omega) (by omega) (ldx rfl (hA x (by omega)).1) ?_
      refine Ev.aload_n dX8_isAbove_16 rfl rfl ?_
      refine gf_X8_75 rfl dX8_isAbove_17 ltc_272 shc_272 rfc_272_28 ?_
      refine Ev.iload_n dX8_isAbove_20 rfl rfl ?_
      refine Ev.iaload (v := ((B x : Nat) : Int)) dX8_isAbove_21 ltc_293 shc_293 (by decide) (by omega) (by omega) (ldx rfl (hB x (by omega)).1) ?_
      refine Ev.icmp_eq (tgt := 46) ⟨by omega, by omega⟩ ⟨by omega, by omega⟩ dX8_isAbove_22 (by decide) (fun h22 => ?_) (fun h22 => ?_)
      · skip
        refine Ev.iinc (pl' := [some (vR (272)), some (vI (((x : Nat) : Int) + 1))]) dX8_isAbove_46 rfl (Nat.le_of_ble_eq_true rfl) rfl ?_
        refine Ev.goto (tgt := 2) dX8_isAbove_49 (by decide) ?_
        refine Ev.wk (pl' := [some (vR (272)), some (vI ((((x + 1) : Nat) : Int)))]) ⟨rfl, ⟨vIe (by omega), trivial⟩⟩ ?_
        exact ih (x + 1) (by omega) (fun y hy => (Nat.lt_or_ge y x).elim (hno y) (fun e => by rw [show y = x by omega]; omega))
      · skip
        refine Ev.aload_n dX8_isAbove_25 rfl rfl ?_
        refine gf_X8_87 rfl dX8_isAbove_26 ltc_272 shc_272 rfc_272_33 ?_
        refine Ev.iload_n dX8_isAbove_29 rfl rfl ?_
        refine Ev.iaload (v := ((A x : Nat) : Int)) dX8_isAbove_30 ltc_297 shc_297 (by decide) (by omega) (by omega) (ldx rfl (hA x (by omega)).1) ?_
        refine Ev.aload_n dX8_isAbove_31 rfl rfl ?_
        refine gf_X8_75 rfl dX8_isAbove_32 ltc_272 shc_272 rfc_272_28 ?_
        refine Ev.iload_n dX8_isAbove_35 rfl rfl ?_
        refine Ev.iaload (v := ((B x : Nat) : Int)) dX8_isAbove_36 ltc_293 shc_293 (by decide) (by omega) (by omega) (ldx rfl (hB x (by omega)).1) ?_
        refine Ev.icmp_le (tgt := 44) ⟨by omega, by omega⟩ ⟨by omega, by omega⟩ dX8_isAbove_37 (by decide) (fun h37 => ?_) (fun h37 => ?_)
        · skip
          refine Ev.iconst dX8_isAbove_44 ?_
          exact Ev.zreturn dX8_isAbove_45 rfl (Or.inl rfl) (rI (bI_f (fun z => by obtain ⟨y, z1, z2, z3⟩ := (kod_lex (fun x hx => (hB x hx).2) (fun x hx => (hA x hx).2)).mp z; rcases Nat.lt_trichotomy y x with e | e | e; (have := hno y e; omega); (rw [e] at z3; omega); (have := z2 x e; omega))) rfl)
        · skip
          refine Ev.iconst dX8_isAbove_40 ?_
          refine Ev.goto (tgt := 45) dX8_isAbove_41 (by decide) ?_
          exact Ev.zreturn dX8_isAbove_45 rfl (Or.inr rfl) (rI (bI_t ((kod_lex (fun x hx => (hB x hx).2) (fun x hx => (hA x hx).2)).mpr ⟨x, by omega, hno, by omega⟩)) rfl)

set_option maxRecDepth 100000 in
set_option maxHeartbeats 4000000 in
theorem sM_above {g : GC} (σ : Sg) (U : Nat) (hU : U ≤ 10) (h1 : σ 272 1 = (U : Int)) (A B : An) (hA : ∀ x, x < U → σ 297 x = (A x : Int) ∧ A x < 16) (hB : ∀ x, x < U → σ 293 x = (B x : Int) ∧ B x < 16) : Ev g mX8_isAbove 0 [some (vR (272)), none] [] (M0 (σ)) 0 0 (retI (bI (kod U B < kod U A)) σ) := by
  refine Ev.iconst dX8_isAbove_0 ?_
  refine Ev.istore_n (pl' := [some (vR (272)), some (vI (0))]) dX8_isAbove_1 rfl (Nat.le_of_ble_eq_true rfl) rfl ?_
  refine Ev.wk (pl' := [some (vR (272)), some (vI (((0 : Nat) : Int)))]) ⟨rfl, ⟨vIe rfl, trivial⟩⟩ ?_
  exact sM_above_l σ U hU h1 A B hA hB U 0 (by omega) (fun y hy => absurd hy (by omega))

set_option maxRecDepth 100000 in
set_option maxHeartbeats 4000000 in
theorem sM_keep_l {g : GC} (σ : Sg) (U : Nat) (hU : U ≤ 10) (h1 : σ 272 1 = (U : Int)) (A : An) (hA : ∀ x, x < U → σ 297 x = (A x : Int)) : ∀ j x : Nat, x + j = U → ∀ τ : Sg, (∀ c i, c ≠ 293 → (c = 272 → i ≠ 27) → τ c i = σ c i) → τ 272 27 = (U : Int) → (∀ y, y < x → τ 293 y = (A y : Int)) → Ev g mX8_keep 10 [some (vR (272)), some (vI (((x : Nat) : Int)))] [] (M0 (τ)) 0 0 (retW (fun τ => (∀ c i, c ≠ 293 → (c = 272 → i ≠ 27) → τ c i = σ c i) ∧ τ 272 27 = (U : Int) ∧ ∀ x, x < U → τ 293 x = (A x : Int))) := by
  intro j
  induction j with
  | zero =>
    intro x hij τ hF hu hG
    refine Ev.iload_n dX8_keep_10 rfl rfl ?_
    refine Ev.aload_n dX8_keep_11 rfl rfl ?_
    refine gf_X8_93 (x := ((U : Nat) : Int)) rfl dX8_keep_12 ltc_272 shc_272 ((hF 272 1 (by decide) (by decide)).trans h1) ?_
    refine Ev.icmp_ge (tgt := 36) ⟨by omega, by omega⟩ ⟨by omega, by omega⟩ dX8_keep_15 (by decide) (fun h15 => ?_) (fun h15 => ?_)
    · skip
      exact Ev.vreturn dX8_keep_36 rfl (rW ⟨hF, hu, fun y hy => hG y (by omega)⟩)
    · exact absurd h15 (by omega)
  | succ j ih =>
    intro x hij τ hF hu hG
    refine Ev.iload_n dX8_keep_10 rfl rfl ?_
    refine Ev.aload_n dX8_keep_11 rfl rfl ?_
    refine gf_X8_93 (x := ((U : Nat) : Int)) rfl dX8_keep_12 ltc_272 shc_272 ((hF 272 1 (by decide) (by decide)).trans h1) ?_
    refine Ev.icmp_ge (tgt := 36) ⟨by omega, by omega⟩ ⟨by omega, by omega⟩ dX8_keep_15 (by decide) (fun h15 => ?_) (fun h15 => ?_)
    · exact absurd h15 (by omega)
    · skip
      refine Ev.aload_n dX8_keep_18 rfl rfl ?_
      refine gf_X8_75 rfl dX8_keep_19 ltc_272 shc_272 rfc_272_28 ?_
      refine Ev.iload_n dX8_keep_22 rfl rfl ?_
      refine Ev.aload_n dX8_keep_23 rfl rfl ?_
      refine gf_X8_87 rfl dX8_keep_24 ltc_272 shc_272 rfc_272_33 ?_
      refine Ev.iload_n dX8_keep_27 rfl rfl ?_
      refine Ev.iaload (v := ((A x : Nat) : Int)) dX8_keep_28 ltc_297 shc_297 (by decide) (by omega) (by omega) (ldx rfl ((hF 297 x (by decide) (fun z => absurd z (by decide))).trans (hA x (by omega)))) ?_
      refine Ev.iastore dX8_keep_29 ltc_293 shc_293 (by decide) (by omega) (by omega) ?_
      refine Ev.iinc (pl' := [some (vR (272)), some (vI (((x : Nat) : Int) + 1))]) dX8_keep_30 rfl (Nat.le_of_ble_eq_true rfl) rfl ?_
      refine Ev.goto (tgt := 10) dX8_keep_33 (by decide) ?_
      refine Ev.mem (τ := upC τ 293 x (A x : Int)) (by simp only [Int.toNat_natCast]) ?_
      refine Ev.wk (pl' := [some (vR (272)), some (vI ((((x + 1) : Nat) : Int)))]) ⟨rfl, ⟨vIe (by omega), trivial⟩⟩ ?_
      exact ih (x + 1) (by omega) _ (fun c i hc hi => by rw [upC_ne hc]; exact hF c i hc hi) (by rw [upC_ne (by decide)]; exact hu) (fun y hy => by rcases Nat.lt_or_ge y x with e | e; (rw [upC_self (by omega)]; exact hG y e); (rw [show y = x by omega]; exact upC_at))

set_option maxRecDepth 100000 in
set_option maxHeartbeats 4000000 in
theorem sM_keep {g : GC} (σ : Sg) (U : Nat) (hU : U ≤ 10) (h1 : σ 272 1 = (U : Int)) (A : An) (hA : ∀ x, x < U → σ 297 x = (A x : Int)) : Ev g mX8_keep 0 [some (vR (272)), none] [] (M0 (σ)) 0 0 (retW (fun τ => (∀ c i, c ≠ 293 → (c = 272 → i ≠ 27) → τ c i = σ c i) ∧ τ 272 27 = (U : Int) ∧ ∀ x, x < U → τ 293 x = (A x : Int))) := by
  refine Ev.aload_n dX8_keep_0 rfl rfl ?_
  refine Ev.aload_n dX8_keep_1 rfl rfl ?_
  refine gf_X8_93 (x := ((U : Nat) : Int)) rfl dX8_keep_2 ltc_272 shc_272 h1 ?_
  refine pf_X8_71 rfl dX8_keep_5 ltc_272 shc_272 ?_
  refine Ev.iconst dX8_keep_8 ?_
  refine Ev.istore_n (pl' := [some (vR (272)), some (vI (0))]) dX8_keep_9 rfl (Nat.le_of_ble_eq_true rfl) rfl ?_
  refine Ev.wk (pl' := [some (vR (272)), some (vI (((0 : Nat) : Int)))]) ⟨rfl, ⟨vIe rfl, trivial⟩⟩ ?_
  exact sM_keep_l σ U hU h1 A hA U 0 (by omega) _ (fun c i hc hi => by by_cases e : c = 272; (subst e; exact upC_self (hi rfl)); (rw [upC_ne e])) upC_at (fun y hy => absurd hy (by omega))

