/-! THE CLASS: what the calls about answers share -/
/-- a row of ranges, that may be empty -/
def AZ (σ : Sg) (c U : Nat) (X : Rg) : Prop := ∀ x, x < U → σ c x = (X x : Int) ∧ X x < 65536
theorem AV.az {σ : Sg} {c U : Nat} {X : Rg} (h : AV σ c U X) : AZ σ c U X := fun x hx => ⟨(h x hx).1, (h x hx).2.2⟩
theorem AZ.av {σ : Sg} {c U : Nat} {X : Rg} (h : AZ σ c U X) (h2 : ∀ x, x < U → X x ≠ 0) : AV σ c U X := fun x hx => ⟨(h x hx).1, h2 x hx, (h x hx).2⟩
theorem AV.ne {σ : Sg} {c U : Nat} {X : Rg} (h : AV σ c U X) : NEm U X := fun x hx => (h x hx).2
/-- ways to choose, of some of the unknowns -/
def wysB (p : Nat → Bool) (X : Rg) : Nat → Nat
  | 0 => 1
  | n + 1 => if p n = true then wysB p X n * pop (X n) else wysB p X n
theorem wysB_t {p : Nat → Bool} {X : Rg} {n : Nat} (h : p n = true) : wysB p X (n + 1) = wysB p X n * pop (X n) := if_pos h
theorem wysB_f {p : Nat → Bool} {X : Rg} {n : Nat} (h : p n = false) : wysB p X (n + 1) = wysB p X n := if_neg (by rw [h]; decide)
theorem wysB_all (X : Rg) (n : Nat) : wysB (fun _ => true) X n = wys X n := by
  induction n with
  | zero => rfl
  | succ n ih => rw [wysB_t rfl, ih]; rfl
theorem wysB_cut {p : Nat → Bool} {X Y : Rg} {n : Nat} (h : ∀ x, x < n → (p x = true → Y x = X x) ∧ (p x = false → pop (Y x) = 1)) : wysB p X n = wys Y n := by
  induction n with
  | zero => rfl
  | succ n ih =>
    have h1 := h n (by omega)
    cases hp : p n with
    | true => rw [wysB_t hp, ih fun x hx => h x (by omega)]; simp only [wys]; rw [h1.1 hp]
    | false => rw [wysB_f hp, ih fun x hx => h x (by omega)]; simp only [wys]; rw [h1.2 hp, Nat.mul_one]
theorem wysB_mono {p : Nat → Bool} {U : Nat} {X : Rg} (h : NEm U X) {a b : Nat} (hab : a ≤ b) (hb : b ≤ U) : wysB p X a ≤ wysB p X b := by
  induction b with
  | zero => rw [show a = 0 by omega]; exact Nat.le_refl _
  | succ b ih =>
    rcases Nat.lt_or_ge b a with h1 | h1
    · rw [show a = b + 1 by omega]; exact Nat.le_refl _
    · have h2 := ih h1 (by omega)
      have h3 := pop_pos (h b (by omega)).2 (h b (by omega)).1
      cases hp : p b with
      | true => rw [wysB_t hp]; exact Nat.le_trans h2 (Nat.le_mul_of_pos_right _ h3)
      | false => rw [wysB_f hp]; exact h2
theorem wysB_pos {p : Nat → Bool} {U : Nat} {X : Rg} (h : NEm U X) {n : Nat} (hn : n ≤ U) : 1 ≤ wysB p X n := wysB_mono (a := 0) h (Nat.zero_le _) hn
theorem m1_bits : ∀ x, x < 10 → iAnd (iShr (-1) ((x : Nat) : Int)) 1 = ((b2 true : Nat) : Int) := by decide +kernel
/-- what counting ways ends with -/
def CwP (σ : Sg) (U : Nat) (p : Nat → Bool) (X : Rg) (v : Int) (τ : Sg) : Prop := σ = τ ∧ ∃ n : Nat, v = (n : Int) ∧ 1 ≤ n ∧ n ≤ 320000 ∧ (20000 < n ↔ 20000 < wysB p X U)
/-- narrowing aside -/
def NaP (s : SS) (σ : Sg) (v : Int) (τ : Sg) : Prop := Same SC σ τ ∧ τ 263 0 = 0 ∧ ((v = 0 ∧ ¬ AL s (sX s)) ∨ (∃ n : Nat, v = (n : Int) ∧ 1 ≤ n ∧ n ≤ 320000 ∧ AL s (sX s) ∧ AV τ 24 (sU s) (NX s (sX s)) ∧ (20000 < n ↔ 20000 < wys (NX s (sX s)) (sU s))))
/-- seeking the least answer -/
def FaP (L : List Nat) (s : SS) (σ : Sg) (Y : Rg) (v : Int) (τ : Sg) : Prop := v = bI (∃ B, isAns (sU s) (sB s) (sS s) Y B) ∧ Same L σ τ ∧ ((∃ B, isAns (sU s) (sB s) (sS s) Y B) → ∀ x, x < sU s → τ 267 x = (lstA (sU s) (isAns (sU s) (sB s) (sS s) Y) x : Int))
theorem fa_iff {U : Nat} {T : Tb} {S : Sy} {Y : Rg} (hS : SyOk U S) (hY : ∀ x, x < U → Y x < 65536) : nAns U T S Y ≠ 0 ↔ ∃ B, isAns U T S Y B := by
  constructor
  · exact nmb_ex
  · rintro ⟨B, hB⟩ h0
    exact nmb_z (P := isAns U T S Y) (fun A B h hA => hA.cong hS h) (fun A hA => hA.1.lt hY) h0 B hB
abbrev SK2 : List Nat := [25, 267, 268, 269, 270, 271]
theorem SK_SC {σ τ : Sg} (h : Same SK σ τ) : Same SC σ τ := h.wide fun c hc => by simp at hc; rcases hc with rfl | rfl | rfl | rfl | rfl <;> decide
theorem SK2_SC {σ τ : Sg} (h : Same SK2 σ τ) : Same SC σ τ := h.wide fun c hc => by simp at hc; rcases hc with rfl | rfl | rfl | rfl | rfl | rfl <;> decide
theorem SK_SK2 {σ τ : Sg} (h : Same SK σ τ) : Same SK2 σ τ := h.wide fun c hc => by simp at hc; rcases hc with rfl | rfl | rfl | rfl | rfl <;> decide
theorem k6_kept {τ : Sg} {U : Nat} {A : An} (hU : U ≤ 10) (e : τ 0 11 = (U : Int)) (hA : ∀ x, x < U → τ 21 x = (A x : Int) ∧ A x < 16) : k6 τ (U : Int) A := ⟨⟨by omega, by omega⟩, e, fun x hx => hA x (by omega)⟩
theorem k6_un {τ : Sg} {v : An} (e : τ 0 11 = -1) : k6 τ (-1) v := ⟨⟨by omega, by omega⟩, e, fun x hx => absurd hx (by omega)⟩
theorem CI.kept {s : SS} {σ : Sg} {A : An} (h : CI s σ) (hA : ∀ x, x < sU s → σ 267 x = (A x : Int) ∧ A x < 16) : CI (wA s (sU s) A) (upC (cpy σ 267 21 0 0 10) 0 11 (sU s : Int)) := by
  obtain ⟨hk1, hk2, hk3, hk4, hk5, hk6, hk7, hk8, hk9⟩ := h
  have hU := hk1.1
  exact ⟨(hk1.cg ((upC_self (by decide)).trans ((congrFun (cpy_ne (by decide)) 2).trans rfl)) (fun c q1 q2 => ((upC_ne (Nat.ne_of_gt (Nat.lt_of_lt_of_le (show 0 < 1 by decide) q1))).trans ((cpy_ne (Nat.ne_of_lt (Nat.lt_of_lt_of_le q2 (show 3 ≤ 21 by decide)))).trans rfl)))), (hk2.cg ((upC_self (by decide)).trans ((congrFun (cpy_ne (by decide)) 4).trans rfl)) ((upC_self (by decide)).trans ((congrFun (cpy_ne (by decide)) 5).trans rfl)) (fun c q1 q2 => ((upC_ne (Nat.ne_of_gt (Nat.lt_of_lt_of_le (show 0 < 26 by decide) q1))).trans ((cpy_ne (Nat.ne_of_gt (Nat.lt_of_lt_of_le (show 21 < 26 by decide) q1))).trans rfl)))), (hk3.cg (fun c q1 q2 => ((upC_ne (Nat.ne_of_gt (Nat.lt_of_lt_of_le (show 0 < 251 by decide) q1))).trans ((cpy_ne (Nat.ne_of_gt (Nat.lt_of_lt_of_le (show 21 < 251 by decide) q1))).trans rfl)))), (hk4.cg (fun c q1 q2 _ => ((upC_ne (Nat.ne_of_gt (Nat.lt_of_lt_of_le (show 0 < 4 by decide) q1))).trans ((cpy_ne (Nat.ne_of_lt (Nat.lt_of_lt_of_le q2 (show 20 ≤ 21 by decide)))).trans rfl)))), (hk5.cg ((upC_self (by decide)).trans ((congrFun (cpy_ne (by decide)) 9).trans rfl)) ((upC_ne (by decide)).trans ((cpy_ne (by decide)).trans rfl))), (k6_kept hU upC_at (fun x hx => ⟨(congrFun (upC_ne (by decide)) x).trans ((cp_at (Nat.lt_of_lt_of_le hx hU)).trans (hA x hx).1), (hA x hx).2⟩)), (hk7.cg ((upC_self (by decide)).trans ((congrFun (cpy_ne (by decide)) 14).trans rfl)) ((upC_ne (by decide)).trans ((cpy_ne (by decide)).trans rfl)) (fun c q1 q2 => ((upC_ne (Nat.ne_of_gt (Nat.lt_of_lt_of_le (show 0 < 90 by decide) q1))).trans ((cpy_ne (Nat.ne_of_gt (Nat.lt_of_lt_of_le (show 21 < 90 by decide) q1))).trans rfl)))), ((upC_self (by decide)).trans ((congrFun (cpy_ne (by decide)) 15).trans hk8)), ((congrFun (upC_ne (by decide)) 0).trans ((congrFun (cpy_ne (by decide)) 0).trans hk9))⟩
theorem CI.unans {s : SS} {σ : Sg} (h : CI s σ) : CI (wA s (-1) (sV s)) (upC σ 0 11 (-1)) := by
  obtain ⟨hk1, hk2, hk3, hk4, hk5, hk6, hk7, hk8, hk9⟩ := h
  have hU := hk1.1
  exact ⟨(hk1.cg ((upC_self (by decide)).trans rfl) (fun c q1 q2 => ((upC_ne (Nat.ne_of_gt (Nat.lt_of_lt_of_le (show 0 < 1 by decide) q1))).trans rfl))), (hk2.cg ((upC_self (by decide)).trans rfl) ((upC_self (by decide)).trans rfl) (fun c q1 q2 => ((upC_ne (Nat.ne_of_gt (Nat.lt_of_lt_of_le (show 0 < 26 by decide) q1))).trans rfl))), (hk3.cg (fun c q1 q2 => ((upC_ne (Nat.ne_of_gt (Nat.lt_of_lt_of_le (show 0 < 251 by decide) q1))).trans rfl))), (hk4.cg (fun c q1 q2 _ => ((upC_ne (Nat.ne_of_gt (Nat.lt_of_lt_of_le (show 0 < 4 by decide) q1))).trans rfl))), (hk5.cg ((upC_self (by decide)).trans rfl) ((upC_ne (by decide)).trans rfl)), (k6_un upC_at), (hk7.cg ((upC_self (by decide)).trans rfl) ((upC_ne (by decide)).trans rfl) (fun c q1 q2 => ((upC_ne (Nat.ne_of_gt (Nat.lt_of_lt_of_le (show 0 < 90 by decide) q1))).trans rfl))), ((upC_self (by decide)).trans hk8), ((congrFun (upC_ne (by decide)) 0).trans hk9)⟩
set_option maxRecDepth 100000 in
set_option maxHeartbeats 4000000 in
theorem s7_nie_l {g : GC} (σ : Sg) (U : Nat) (hU : U ≤ 10) (h : σ 0 2 = (U : Int)) (X : Rg) (rg : Nat) (hg : rg < 298) (hgs : sh0 rg = (1, 10)) (hX : AZ σ rg U X) : ∀ j i : Nat, i + j = U → (∀ x, x < i → X x ≠ 0) → Ev g mX7_noneIsEmpty 2 [some (vR (0)), some (vR (rg)), some (vI (((i : Nat) : Int)))] [] (M0 (σ)) 0 0 (retI (bI (∀ x, x < U → X x ≠ 0)) σ) := by
  intro j
  induction j with
  | zero =>
    intro i hij hno
    refine Ev.iload_n dX7_noneIsEmpty_2 rfl rfl ?_
    refine Ev.aload_n dX7_noneIsEmpty_3 rfl rfl ?_
    refine gf_X7_88 (x := ((U : Nat) : Int)) rfl dX7_noneIsEmpty_4 ltc_0 shc_0 h ?_
    refine Ev.icmp_ge (tgt := 24) ⟨by omega, by omega⟩ ⟨by omega, by omega⟩ dX7_noneIsEmpty_7 (by decide) (fun h7 => ?_) (fun h7 => ?_)
    · skip
      refine Ev.iconst dX7_noneIsEmpty_24 ?_
      exact Ev.zreturn dX7_noneIsEmpty_25 rfl (Or.inr rfl) (rI (bI_t (fun x hx => hno x (by omega))) rfl)
    · exact absurd h7 (by omega)
  | succ j ih =>
    intro i hij hno
    have hxl := (hX i (by omega)).2
    refine Ev.iload_n dX7_noneIsEmpty_2 rfl rfl ?_
    refine Ev.aload_n dX7_noneIsEmpty_3 rfl rfl ?_
    refine gf_X7_88 (x := ((U : Nat) : Int)) rfl dX7_noneIsEmpty_4 ltc_0 shc_0 h ?_
    refine Ev.icmp_ge (tgt := 24) ⟨by omega, by omega⟩ ⟨by omega, by omega⟩ dX7_noneIsEmpty_7 (by decide) (fun h7 => ?_) (fun h7 => ?_)
    · exact absurd h7 (by omega)
    · skip
      refine Ev.aload_n dX7_noneIsEmpty_10 rfl rfl ?_
      refine Ev.iload_n dX7_noneIsEmpty_11 rfl rfl ?_
      refine Ev.iaload (v := ((X i : Nat) : Int)) dX7_noneIsEmpty_12 hg hgs (by decide) (by omega) (by omega) (ldx rfl (hX i (by omega)).1) ?_
      refine Ev.if_ne (tgt := 18) ⟨by omega, by omega⟩ dX7_noneIsEmpty_13 (by decide) (fun h13 => ?_) (fun h13 => ?_)
      · skip
        refine Ev.iinc (pl' := [some (vR (0)), some (vR (rg)), some (vI (((i : Nat) : Int) + 1))]) dX7_noneIsEmpty_18 rfl (Nat.le_of_ble_eq_true rfl) rfl ?_
        refine Ev.goto (tgt := 2) dX7_noneIsEmpty_21 (by decide) ?_
        refine Ev.wk (pl' := [some (vR (0)), some (vR (rg)), some (vI ((((i + 1) : Nat) : Int)))]) ⟨rfl, ⟨rfl, ⟨vIe (by omega), trivial⟩⟩⟩ ?_
        exact ih (i + 1) (by omega) (fun x hx => by rcases Nat.lt_or_ge x i with e | e; (exact hno x e); (rw [show x = i by omega]; omega))
      · skip
        refine Ev.iconst dX7_noneIsEmpty_16 ?_
        exact Ev.zreturn dX7_noneIsEmpty_17 rfl (Or.inl rfl) (rI (bI_f (fun z => z i (by omega) (by omega))) rfl)

set_option maxRecDepth 100000 in
set_option maxHeartbeats 4000000 in
theorem s7_noneIsEmpty {g : GC} (σ : Sg) (U : Nat) (hU : U ≤ 10) (h : σ 0 2 = (U : Int)) (X : Rg) (rg : Nat) (hg : rg < 298) (hgs : sh0 rg = (1, 10)) (hX : AZ σ rg U X) : Ev g mX7_noneIsEmpty 0 [some (vR (0)), some (vR (rg)), none] [] (M0 (σ)) 0 0 (retI (bI (∀ x, x < U → X x ≠ 0)) σ) := by
  refine Ev.iconst dX7_noneIsEmpty_0 ?_
  refine Ev.istore_n (pl' := [some (vR (0)), some (vR (rg)), some (vI (0))]) dX7_noneIsEmpty_1 rfl (Nat.le_of_ble_eq_true rfl) rfl ?_
  refine Ev.wk (pl' := [some (vR (0)), some (vR (rg)), some (vI (((0 : Nat) : Int)))]) ⟨rfl, ⟨rfl, ⟨vIe rfl, trivial⟩⟩⟩ ?_
  exact s7_nie_l σ U hU h X rg hg hgs hX U 0 (by omega) (fun x hx => absurd hx (by omega))

set_option maxRecDepth 100000 in
set_option maxHeartbeats 4000000 in
theorem s7_cw_l {g : GC} (σ : Sg) (U : Nat) (hU : U ≤ 10) (h : σ 0 2 = (U : Int)) (X : Rg) (rg : Nat) (hg : rg < 298) (hgs : sh0 rg = (1, 10)) (hX : AV σ rg U X) (m : Int) (p : Nat → Bool) (hm : ∀ x : Nat, x < 10 → iAnd (iShr m (x : Int)) 1 = ((b2 (p x) : Nat) : Int)) : ∀ j i : Nat, i + j = U → wysB p X i ≤ 320000 → Ev g mX7_countWays 5 [some (vR (0)), some (vR (rg)), some (vI (m)), some (vI (((wysB p X i : Nat) : Int))), some (vI (((i : Nat) : Int)))] [] (M0 (σ)) 0 0 (retE (CwP σ U p X)) := by
  intro j
  induction j with
  | zero =>
    intro i hij hwb
    have hp1 := wysB_pos (p := p) hX.ne (show i ≤ U by omega)
    refine Ev.iload dX7_countWays_5 rfl ?_
    refine Ev.aload_n dX7_countWays_7 rfl rfl ?_
    refine gf_X7_88 (x := ((U : Nat) : Int)) rfl dX7_countWays_8 ltc_0 shc_0 h ?_
    refine Ev.icmp_ge (tgt := 46) ⟨by omega, by omega⟩ ⟨by omega, by omega⟩ dX7_countWays_11 (by decide) (fun h11 => ?_) (fun h11 => ?_)
    · skip
      refine Ev.iload_n dX7_countWays_46 rfl rfl ?_
      exact Ev.ireturn dX7_countWays_47 rfl (rE ⟨rfl, wysB p X i, rfl, wysB_pos hX.ne (by omega), hwb, by have hmo := wysB_mono (p := p) hX.ne (show i ≤ U by omega) (Nat.le_refl U); (first | (rw [show i = U by omega]) | omega)⟩)
    · exact absurd h11 (by omega)
  | succ j ih =>
    intro i hij hwb
    have hp1 := wysB_pos (p := p) hX.ne (show i ≤ U by omega)
    have hxl := (hX i (by omega)).2
    have hp16 : pop (X i) ≤ 16 := popN_le 16 _
    have hml : wysB p X i ≤ 20000 → wysB p X i * pop (X i) ≤ 20000 * 16 := fun z => Nat.mul_le_mul z hp16
    have ht := @wysB_t p X i
    have hf := @wysB_f p X i
    refine Ev.iload dX7_countWays_5 rfl ?_
    refine Ev.aload_n dX7_countWays_7 rfl rfl ?_
    refine gf_X7_88 (x := ((U : Nat) : Int)) rfl dX7_countWays_8 ltc_0 shc_0 h ?_
    refine Ev.icmp_ge (tgt := 46) ⟨by omega, by omega⟩ ⟨by omega, by omega⟩ dX7_countWays_11 (by decide) (fun h11 => ?_) (fun h11 => ?_)
    · exact absurd h11 (by omega)
    · skip
      refine Ev.iload_n dX7_countWays_14 rfl rfl ?_
      refine Ev.sipush (n := 20000) (by decide) dX7_countWays_15 ?_
      refine Ev.icmp_gt (tgt := 46) ⟨by omega, by omega⟩ ⟨by decide, by decide⟩ dX7_countWays_18 (by decide) (fun h18 => ?_) (fun h18 => ?_)
      · skip
        refine Ev.iload_n dX7_countWays_46 rfl rfl ?_
        exact Ev.ireturn dX7_countWays_47 rfl (rE ⟨rfl, wysB p X i, rfl, wysB_pos hX.ne (by omega), hwb, by have hmo := wysB_mono (p := p) hX.ne (show i ≤ U by omega) (Nat.le_refl U); (first | (rw [show i = U by omega]) | omega)⟩)
      · skip
        refine Ev.iload_n dX7_countWays_21 rfl rfl ?_
        refine Ev.iload dX7_countWays_22 rfl ?_
        refine Ev.ishr dX7_countWays_24 ?_
        refine Ev.iconst dX7_countWays_25 ?_
        refine Ev.iand dX7_countWays_26 ?_
        rw [show (iAnd ((iShr (m) (((i : Nat) : Int)))) (1)) = (((b2 (p i)) : Nat) : Int) from hm i (by omega)]
        refine Ev.if_eq (tgt := 40) b2_inR dX7_countWays_27 (by decide) (fun h27 => ?_) (fun h27 => ?_)
        · skip
          refine Ev.iinc (pl' := [some (vR (0)), some (vR (rg)), some (vI (m)), some (vI (((wysB p X i : Nat) : Int))), some (vI (((i : Nat) : Int) + 1))]) dX7_countWays_40 rfl (Nat.le_of_ble_eq_true rfl) rfl ?_
          refine Ev.goto (tgt := 5) dX7_countWays_43 (by decide) ?_
          refine Ev.wk (pl' := [some (vR (0)), some (vR (rg)), some (vI (m)), some (vI (((wysB p X (i + 1) : Nat) : Int))), some (vI ((((i + 1) : Nat) : Int)))]) ⟨rfl, ⟨rfl, ⟨rfl, ⟨vIe (by first | (rw [ht (b2_ne.mp h27)]; exact Int.natCast_mul _ _) | (rw [hf (b2_0.mp h27)])), ⟨vIe (by omega), trivial⟩⟩⟩⟩⟩ ?_
          exact ih (i + 1) (by omega) (by first | (rw [ht (b2_ne.mp h27)]; omega) | (rw [hf (b2_0.mp h27)]; omega))
        · skip
          refine Ev.iload_n dX7_countWays_30 rfl rfl ?_
          refine Ev.aload_n dX7_countWays_31 rfl rfl ?_
          refine Ev.iload dX7_countWays_32 rfl ?_
          refine Ev.iaload (v := ((X i : Nat) : Int)) dX7_countWays_34 hg hgs (by decide) (by omega) (by omega) (ldx rfl (hX i (by omega)).1) ?_
          refine Ev.callS_I (M2 := mJ6_bitCount_0f7a4) (args2 := [vI (((X i : Nat) : Int))]) dX7_countWays_35 okJ6_bitCount_0f7a4 lk_X7_101 osJ6_bitCount_0f7a4.1 osJ6_bitCount_0f7a4.2 (by decide) rfl (Nat.le_of_ble_eq_true rfl) (Nat.le_of_ble_eq_true rfl) (sJ_bitCount σ (X i) hxl.2) ?_ rfl
          refine Ev.imul dX7_countWays_38 ?_
          refine Ev.istore_n (pl' := [some (vR (0)), some (vR (rg)), some (vI (m)), some (vI ((((wysB p X i : Nat) : Int) * ((pop (X i) : Nat) : Int)))), some (vI (((i : Nat) : Int)))]) dX7_countWays_39 rfl (Nat.le_of_ble_eq_true rfl) rfl ?_
          refine Ev.iinc (pl' := [some (vR (0)), some (vR (rg)), some (vI (m)), some (vI ((((wysB p X i : Nat) : Int) * ((pop (X i) : Nat) : Int)))), some (vI (((i : Nat) : Int) + 1))]) dX7_countWays_40 rfl (Nat.le_of_ble_eq_true rfl) rfl ?_
          refine Ev.goto (tgt := 5) dX7_countWays_43 (by decide) ?_
          refine Ev.wk (pl' := [some (vR (0)), some (vR (rg)), some (vI (m)), some (vI (((wysB p X (i + 1) : Nat) : Int))), some (vI ((((i + 1) : Nat) : Int)))]) ⟨rfl, ⟨rfl, ⟨rfl, ⟨vIe (by first | (rw [ht (b2_ne.mp h27)]; exact Int.natCast_mul _ _) | (rw [hf (b2_0.mp h27)])), ⟨vIe (by omega), trivial⟩⟩⟩⟩⟩ ?_
          exact ih (i + 1) (by omega) (by first | (rw [ht (b2_ne.mp h27)]; omega) | (rw [hf (b2_0.mp h27)]; omega))

set_option maxRecDepth 100000 in
set_option maxHeartbeats 4000000 in
theorem s7_countWays {g : GC} (σ : Sg) (U : Nat) (hU : U ≤ 10) (h : σ 0 2 = (U : Int)) (X : Rg) (rg : Nat) (hg : rg < 298) (hgs : sh0 rg = (1, 10)) (hX : AV σ rg U X) (m : Int) (p : Nat → Bool) (hm : ∀ x : Nat, x < 10 → iAnd (iShr m (x : Int)) 1 = ((b2 (p x) : Nat) : Int)) : Ev g mX7_countWays 0 [some (vR (0)), some (vR (rg)), some (vI (m)), none, none] [] (M0 (σ)) 0 0 (retE (CwP σ U p X)) := by
  refine Ev.iconst dX7_countWays_0 ?_
  refine Ev.istore_n (pl' := [some (vR (0)), some (vR (rg)), some (vI (m)), some (vI (1)), none]) dX7_countWays_1 rfl (Nat.le_of_ble_eq_true rfl) rfl ?_
  refine Ev.iconst dX7_countWays_2 ?_
  refine Ev.istore (pl' := [some (vR (0)), some (vR (rg)), some (vI (m)), some (vI (1)), some (vI (0))]) dX7_countWays_3 (Nat.le_of_ble_eq_true rfl) rfl ?_
  refine Ev.wk (pl' := [some (vR (0)), some (vR (rg)), some (vI (m)), some (vI (((wysB p X 0 : Nat) : Int))), some (vI (((0 : Nat) : Int)))]) ⟨rfl, ⟨rfl, ⟨rfl, ⟨vIe rfl, ⟨vIe rfl, trivial⟩⟩⟩⟩⟩ ?_
  exact s7_cw_l σ U hU h X rg hg hgs hX m p hm U 0 (by omega) (by show 1 ≤ 320000; decide)

set_option maxRecDepth 100000 in
set_option maxHeartbeats 4000000 in
theorem s7_narrowAside {g : GC} (s : SS) (σ : Sg) (hC : CI s σ) : Ev g mX7_narrowAside 0 [some (vR (0))] [] (M0 (σ)) 0 0 (retE (NaP s σ)) := by
  obtain ⟨hk1, hk2, hk3, hk4, hk5, hk6, hk7, hk8, hk9⟩ := id hC
  have hU := hk1.1
  have hN := hk2.1
  have hD := hk4.1
  have hM := hk7.1
  have hQ := hk5.1
  refine Ev.aload_n dX7_narrowAside_0 rfl rfl ?_
  refine gf_X7_13 rfl dX7_narrowAside_1 ltc_0 shc_0 rfc_0_1 ?_
  refine Ev.aload_n dX7_narrowAside_4 rfl rfl ?_
  refine gf_X7_45 rfl dX7_narrowAside_5 ltc_0 shc_0 rfc_0_18 ?_
  refine Ev.callS_V (M2 := mX7_bring) (args2 := [vR (2), vR (24)]) dX7_narrowAside_8 okX7_bring lk_X7_187 osX7_bring.1 osX7_bring.2 (by decide) rfl (Nat.le_of_ble_eq_true rfl) (Nat.le_of_ble_eq_true rfl) (s7_bring σ 2 24 ltc_2 shc_2 ltc_24 shc_24) ?_ rfl
  obtain ⟨ρ, hρ⟩ : ∃ ρ : Sg, ρ = cpy (σ) 2 24 0 0 10 := ⟨_, rfl⟩
  refine Ev.mem (τ := ρ) hρ.symm ?_
  have hSρ : Same SC σ ρ := by rw [hρ]; exact cpS (by decide)
  have hCρ : CI s ρ := by rw [hρ]; exact hC.cp24
  have hX24 : AV ρ 24 (sU s) (sX s) := by rw [hρ]; exact cp_av hU hk1.2.2.2
  have hC := hCρ
  obtain ⟨hk1, hk2, hk3, hk4, hk5, hk6, hk7, hk8, hk9⟩ := id hC
  have hU := hk1.1
  have hN := hk2.1
  have hD := hk4.1
  have hM := hk7.1
  have hQ := hk5.1
  refine Ev.aload_n dX7_narrowAside_11 rfl rfl ?_
  refine gf_X7_72 rfl dX7_narrowAside_12 ltc_0 shc_0 rfc_0_16 ?_
  refine Ev.aload_n dX7_narrowAside_15 rfl rfl ?_
  refine gf_X7_45 rfl dX7_narrowAside_16 ltc_0 shc_0 rfc_0_18 ?_
  refine Ev.aload_n dX7_narrowAside_19 rfl rfl ?_
  refine gf_X7_18 rfl dX7_narrowAside_20 ltc_0 shc_0 rfc_0_3 ?_
  refine Ev.aload_n dX7_narrowAside_23 rfl rfl ?_
  refine gf_X7_118 (x := ((sW s : Nat) : Int)) rfl dX7_narrowAside_24 ltc_0 shc_0 hk2.2.2.1 ?_
  refine Ev.callV_G (M2 := mX2_run) (args2 := [vR (24), vR (3), vL (((sW s : Nat) : Int))]) (rcv := 260) (q := (RX2, TX2, 2)) (ci := 2) dX7_narrowAside_27 okX2_run lk_X7_191 ovX2_run.1.1 ovX2_run.1.2 ovX2_run.2 (by decide) rfl rfl ltc_260 shc_260 rfl (Nat.le_of_ble_eq_true rfl) (Nat.le_of_ble_eq_true rfl) (c_run hC (sX s) hX24) (fun v_ m_ hp_ => ?_) rfl
  obtain ⟨_, τ, rfl, rfl, rfl, hF1, hJ1, hX1⟩ := hp_
  have hS1 : Same SC σ τ := hSρ.tr (WK_SC hF1)
  have hC := hC.scr (WK_SC hF1) hJ1
  obtain ⟨hk1, hk2, hk3, hk4, hk5, hk6, hk7, hk8, hk9⟩ := id hC
  have hU := hk1.1
  have hN := hk2.1
  have hD := hk4.1
  have hM := hk7.1
  have hQ := hk5.1
  show Ev g mX7_narrowAside 30 [some (vR (0))] [vI (bI (AL s (sX s)))] (M0 (τ)) 0 0 _
  refine Ev.if_eq (tgt := 45) bI_inR dX7_narrowAside_30 (by decide) (fun h30 => ?_) (fun h30 => ?_)
  · skip
    have q30 := bI_0.mp h30
    refine Ev.iconst dX7_narrowAside_45 ?_
    exact Ev.ireturn dX7_narrowAside_46 rfl (rE ⟨hS1, hJ1, Or.inl ⟨rfl, q30⟩⟩)
  · skip
    have q30 := bI_1.mp h30
    refine Ev.aload_n dX7_narrowAside_33 rfl rfl ?_
    refine Ev.aload_n dX7_narrowAside_34 rfl rfl ?_
    refine gf_X7_45 rfl dX7_narrowAside_35 ltc_0 shc_0 rfc_0_18 ?_
    refine Ev.iconst dX7_narrowAside_38 ?_
    refine Ev.callV_G (M2 := mX7_countWays) (args2 := [vR (24), vI (-1)]) (rcv := 0) (q := (RX7, TX7, 20)) (ci := 7) dX7_narrowAside_39 okX7_countWays lk_X7_253 ovX7_countWays.1.1 ovX7_countWays.1.2 ovX7_countWays.2 (by decide) rfl rfl ltc_0 shc_0 rfl (Nat.le_of_ble_eq_true rfl) (Nat.le_of_ble_eq_true rfl) (s7_countWays τ (sU s) hU hk1.2.1 (NX s (sX s)) 24 ltc_24 shc_24 (hX1 q30) (-1) (fun _ => true) m1_bits) (fun v_ m_ hp_ => ?_) rfl
    obtain ⟨_, σ_, rfl, rfl, he_, n, rfl, hn1, hn2, hn3⟩ := hp_
    subst σ_
    rw [wysB_all] at hn3
    show Ev g mX7_narrowAside 42 [some (vR (0))] [vI (((n : Nat) : Int))] (M0 (τ)) 0 0 _
    refine Ev.goto (tgt := 46) dX7_narrowAside_42 (by decide) ?_
    exact Ev.ireturn dX7_narrowAside_46 rfl (rE ⟨hS1, hJ1, Or.inr ⟨n, rfl, hn1, hn2, q30, hX1 q30, hn3⟩⟩)

set_option maxRecDepth 100000 in
set_option maxHeartbeats 4000000 in
theorem s7_findsAnswer {g : GC} (s : SS) (σ : Sg) (hC : CI s σ) (Y : Rg) (rg : Nat) (hg : rg < 298) (hgs : sh0 rg = (1, 10)) (hgn : rg ∉ SK) (hY : AZ σ rg (sU s) Y) (hw : NEm (sU s) Y → wys Y (sU s) ≤ 20000) : Ev g mX7_findsAnswer 0 [some (vR (0)), some (vR (rg))] [] (M0 (σ)) 0 0 (retE (FaP SK s σ Y)) := by
  obtain ⟨hk1, hk2, hk3, hk4, hk5, hk6, hk7, hk8, hk9⟩ := id hC
  have hU := hk1.1
  have hN := hk2.1
  have hD := hk4.1
  have hM := hk7.1
  have hQ := hk5.1
  refine Ev.aload_n dX7_findsAnswer_0 rfl rfl ?_
  refine Ev.aload_n dX7_findsAnswer_1 rfl rfl ?_
  refine Ev.callV_I (M2 := mX7_noneIsEmpty) (args2 := [vR (rg)]) (rcv := 0) (q := (RX7, TX7, 20)) (ci := 7) dX7_findsAnswer_2 okX7_noneIsEmpty lk_X7_227 ovX7_noneIsEmpty.1.1 ovX7_noneIsEmpty.1.2 ovX7_noneIsEmpty.2 (by decide) rfl rfl ltc_0 shc_0 rfl (Nat.le_of_ble_eq_true rfl) (Nat.le_of_ble_eq_true rfl) (s7_noneIsEmpty σ (sU s) hU hk1.2.1 Y rg hg hgs hY) ?_ rfl
  refine Ev.if_eq (tgt := 36) bI_inR dX7_findsAnswer_5 (by decide) (fun h5 => ?_) (fun h5 => ?_)
  · skip
    have q5 := bI_0.mp h5
    refine Ev.iconst dX7_findsAnswer_36 ?_
    exact Ev.zreturn dX7_findsAnswer_37 rfl (Or.inl rfl) (rE ⟨bI_f (ans_em q5), Same.rf, fun z => absurd z (ans_em q5)⟩)
  · skip
    have q5 := bI_1.mp h5
    refine Ev.aload_n dX7_findsAnswer_8 rfl rfl ?_
    refine gf_X7_81 rfl dX7_findsAnswer_9 ltc_0 shc_0 rfc_0_17 ?_
    refine Ev.aload_n dX7_findsAnswer_12 rfl rfl ?_
    refine Ev.aload_n dX7_findsAnswer_13 rfl rfl ?_
    refine gf_X7_88 (x := ((sU s : Nat) : Int)) rfl dX7_findsAnswer_14 ltc_0 shc_0 hk1.2.1 ?_
    refine Ev.aload_n dX7_findsAnswer_17 rfl rfl ?_
    refine gf_X7_18 rfl dX7_findsAnswer_18 ltc_0 shc_0 rfc_0_3 ?_
    refine Ev.aload_n dX7_findsAnswer_21 rfl rfl ?_
    refine gf_X7_118 (x := ((sW s : Nat) : Int)) rfl dX7_findsAnswer_22 ltc_0 shc_0 hk2.2.2.1 ?_
    refine Ev.iconst dX7_findsAnswer_25 ?_
    refine Ev.callV_G (M2 := mX4_find) (args2 := [vR (rg), vI (((sU s : Nat) : Int)), vR (3), vL (((sW s : Nat) : Int)), vI (1)]) (rcv := 266) (q := (RX4, TX4, 6)) (ci := 4) dX7_findsAnswer_26 okX4_find lk_X7_246 ovX4_find.1.1 ovX4_find.1.2 ovX4_find.2 (by decide) rfl rfl ltc_266 shc_266 rfl (Nat.le_of_ble_eq_true rfl) (Nat.le_of_ble_eq_true rfl) (s4_find σ (sU s) hU Y rg hg hgs hgn (hY.av q5) (sR s) (sW s) (w16 hk2.2.2.2.1 hN) (fun r _ hb => hk2.on hb) (sB s) hk3 1 ⟨by decide, by decide⟩ (hw (hY.av q5).ne)) (fun v_ m_ hp_ => ?_) rfl
    obtain ⟨_, τ, rfl, rfl, rfl, hF1, hG1⟩ := hp_
    have hfa := fa_iff (T := sB s) hC.sy (fun x hx => (hY x hx).2)
    have hmn : min 1 (nAns (sU s) (sB s) (sS s) Y) ≤ 1 := Nat.min_le_left _ _
    show Ev g mX7_findsAnswer 29 [some (vR (0)), some (vR (rg))] [vI (((min 1 (nAns (sU s) (sB s) (sS s) Y) : Nat) : Int))] (M0 (τ)) 0 0 _
    refine Ev.if_le (tgt := 36) ⟨by omega, by omega⟩ dX7_findsAnswer_29 (by decide) (fun h29 => ?_) (fun h29 => ?_)
    · skip
      refine Ev.iconst dX7_findsAnswer_36 ?_
      exact Ev.zreturn dX7_findsAnswer_37 rfl (Or.inl rfl) (rE ⟨bI_f (fun z => (hfa.mpr z) (by omega)), hF1, fun z => hG1 rfl (hfa.mpr z)⟩)
    · skip
      refine Ev.iconst dX7_findsAnswer_32 ?_
      refine Ev.goto (tgt := 37) dX7_findsAnswer_33 (by decide) ?_
      exact Ev.zreturn dX7_findsAnswer_37 rfl (Or.inr rfl) (rE ⟨bI_t (hfa.mp (by omega)), hF1, fun z => hG1 rfl (hfa.mpr z)⟩)

set_option maxRecDepth 100000 in
set_option maxHeartbeats 4000000 in
theorem s7_findsAnswerWith {g : GC} (s : SS) (σ : Sg) (hC : CI s σ) (hXw : AV σ 24 (sU s) (NX s (sX s))) (hw : wys (NX s (sX s)) (sU s) ≤ 20000) (x : Nat) (hx : x < sU s) (nb : Int) (Z : Nat) (hZ : iAnd ((NX s (sX s) x : Nat) : Int) nb = (Z : Int)) (hZs : sub Z (NX s (sX s) x)) : Ev g mX7_findsAnswerWith 0 [some (vR (0)), some (vI (((x : Nat) : Int))), some (vI (nb))] [] (M0 (σ)) 0 0 (retE (FaP SK2 s σ (upY (NX s (sX s)) x Z))) := by
  obtain ⟨hk1, hk2, hk3, hk4, hk5, hk6, hk7, hk8, hk9⟩ := id hC
  have hU := hk1.1
  have hN := hk2.1
  have hD := hk4.1
  have hM := hk7.1
  have hQ := hk5.1
  have hxl := (hXw x hx).2
  refine Ev.aload_n dX7_findsAnswerWith_0 rfl rfl ?_
  refine gf_X7_45 rfl dX7_findsAnswerWith_1 ltc_0 shc_0 rfc_0_18 ?_
  refine Ev.aload_n dX7_findsAnswerWith_4 rfl rfl ?_
  refine gf_X7_48 rfl dX7_findsAnswerWith_5 ltc_0 shc_0 rfc_0_19 ?_
  refine Ev.callS_V (M2 := mX7_bring) (args2 := [vR (24), vR (25)]) dX7_findsAnswerWith_8 okX7_bring lk_X7_187 osX7_bring.1 osX7_bring.2 (by decide) rfl (Nat.le_of_ble_eq_true rfl) (Nat.le_of_ble_eq_true rfl) (s7_bring σ 24 25 ltc_24 shc_24 ltc_25 shc_25) ?_ rfl
  refine Ev.aload_n dX7_findsAnswerWith_11 rfl rfl ?_
  refine gf_X7_48 rfl dX7_findsAnswerWith_12 ltc_0 shc_0 rfc_0_19 ?_
  refine Ev.iload_n dX7_findsAnswerWith_15 rfl rfl ?_
  refine Ev.dup2RI dX7_findsAnswerWith_16 ?_
  refine Ev.iaload (v := ((NX s (sX s) x : Nat) : Int)) dX7_findsAnswerWith_17 ltc_25 shc_25 (by decide) (by omega) (by omega) (show (cpy (σ) 24 25 0 0 10) 25 (((x : Nat) : Int)).toNat = ((NX s (sX s) x : Nat) : Int) from (ldx rfl ((cp_at (by omega)).trans (hXw x hx).1))) ?_
  refine Ev.iload_n dX7_findsAnswerWith_18 rfl rfl ?_
  refine Ev.iand dX7_findsAnswerWith_19 ?_
  rw [show (iAnd (((NX s (sX s) x : Nat) : Int)) (nb)) = ((Z : Nat) : Int) from hZ]
  refine Ev.iastore dX7_findsAnswerWith_20 ltc_25 shc_25 (by decide) (by omega) (by omega) ?_
  refine Ev.mem (τ := upC (cpy σ 24 25 0 0 10) 25 x (Z : Int)) (by simp only [Int.toNat_natCast]) ?_
  obtain ⟨ρ, hρ⟩ : ∃ ρ : Sg, ρ = upC (cpy σ 24 25 0 0 10) 25 x (Z : Int) := ⟨_, rfl⟩
  refine Ev.mem (τ := ρ) hρ.symm ?_
  have hSr : Same SK2 σ ρ := by rw [hρ]; exact (cpS (by decide)).up (by decide)
  have hCr := hC.scr (SK2_SC hSr) ((congrFun (hSr 263 (by decide)) 0).trans hk9)
  have hYr : AZ ρ 25 (sU s) (upY (NX s (sX s)) x Z) := fun y hy => by rw [hρ]; by_cases e : y = x; (rw [e, upC_at, upY_at]; exact ⟨rfl, sub_lt hZs (hXw x hx).2.2⟩); (rw [upC_self e, upY_ne e]; exact ⟨(cp_at (by omega)).trans (hXw y hy).1, (hXw y hy).2.2⟩)
  have hYw : wys (upY (NX s (sX s)) x Z) (sU s) ≤ 20000 := Nat.le_trans (wys_sub (U := sU s) (fun y hy => by by_cases e : y = x; (rw [e, upY_at]; exact hZs); (rw [upY_ne e]; exact sub_rf _)) (Nat.le_refl _)) hw
  refine Ev.aload_n dX7_findsAnswerWith_21 rfl rfl ?_
  refine Ev.aload_n dX7_findsAnswerWith_22 rfl rfl ?_
  refine gf_X7_48 rfl dX7_findsAnswerWith_23 ltc_0 shc_0 rfc_0_19 ?_
  refine Ev.callV_G (M2 := mX7_findsAnswer) (args2 := [vR (25)]) (rcv := 0) (q := (RX7, TX7, 20)) (ci := 7) dX7_findsAnswerWith_26 okX7_findsAnswer lk_X7_237 ovX7_findsAnswer.1.1 ovX7_findsAnswer.1.2 ovX7_findsAnswer.2 (by decide) rfl rfl ltc_0 shc_0 rfl (Nat.le_of_ble_eq_true rfl) (Nat.le_of_ble_eq_true rfl) (s7_findsAnswer s ρ hCr (upY (NX s (sX s)) x Z) 25 ltc_25 shc_25 (by decide) hYr (fun _ => hYw)) (fun v_ m_ hp_ => ?_) rfl
  obtain ⟨_, τ, rfl, rfl, rfl, hF1, hG1⟩ := hp_
  show Ev g mX7_findsAnswerWith 29 [some (vR (0)), some (vI (((x : Nat) : Int))), some (vI (nb))] [vI (bI (∃ B, isAns (sU s) (sB s) (sS s) (upY (NX s (sX s)) x Z) B))] (M0 (τ)) 0 0 _
  exact Ev.zreturn dX7_findsAnswerWith_29 rfl bI_or (rE ⟨rfl, hSr.tr (SK_SK2 hF1), hG1⟩)

theorem hiB_i {m a : Nat} (hm : m < 65536) (ha : a < 16) : iAnd (m : Int) (-((2 ^ (a + 1) : Nat) : Int)) = ((hiB m a : Nat) : Int) := by
  have h1 : 1 ≤ 2 ^ (a + 1) := Nat.one_le_two_pow
  rw [show (-((2 ^ (a + 1) : Nat) : Int)) = -((2 ^ (a + 1) - 1 : Nat) : Int) - 1 by omega]
  exact iAnd_not (by omega)
set_option maxRecDepth 100000 in
set_option maxHeartbeats 4000000 in
theorem s7_faa_l {g : GC} (s : SS) (σ : Sg) (hC : CI s σ) (hXw : AV σ 24 (sU s) (NX s (sX s))) (hw : wys (NX s (sX s)) (sU s) ≤ 20000) (hA : ∀ y, y < sU s → σ 21 y = (sV s y : Int) ∧ sV s y < 16) (x : Nat) (hx : x < sU s) : ∀ j y : Nat, y + j = x → ∀ τ : Sg, Same SK2 σ τ → (∀ z, z < sU s → (z < y → τ 25 z = ((NX s (sX s) z &&& 2 ^ sV s z : Nat) : Int)) ∧ (y ≤ z → τ 25 z = (NX s (sX s) z : Int))) → Ev g mX7_findsAnswerAbove 13 [some (vR (0)), some (vI (((x : Nat) : Int))), some (vI (((y : Nat) : Int)))] [] (M0 (τ)) 0 0 (retE (FaP SK2 s σ (abvY (NX s (sX s)) (sV s) x))) := by
  intro j
  induction j with
  | zero =>
    intro y hij τ hF hI
    obtain ⟨hk1, hk2, hk3, hk4, hk5, hk6, hk7, hk8, hk9⟩ := id hC
    have hU := hk1.1
    have hN := hk2.1
    have hD := hk4.1
    have hM := hk7.1
    have hQ := hk5.1
    have hxl := (hXw x hx).2
    have hax := (hA x hx).2
    refine Ev.iload_n dX7_findsAnswerAbove_13 rfl rfl ?_
    refine Ev.iload_n dX7_findsAnswerAbove_14 rfl rfl ?_
    refine Ev.icmp_ge (tgt := 41) ⟨by omega, by omega⟩ ⟨by omega, by omega⟩ dX7_findsAnswerAbove_15 (by decide) (fun h15 => ?_) (fun h15 => ?_)
    · skip
      refine Ev.aload_n dX7_findsAnswerAbove_41 rfl rfl ?_
      refine gf_X7_48 rfl dX7_findsAnswerAbove_42 ltc_0 shc_0 rfc_0_19 ?_
      refine Ev.iload_n dX7_findsAnswerAbove_45 rfl rfl ?_
      refine Ev.dup2RI dX7_findsAnswerAbove_46 ?_
      refine Ev.iaload (v := ((NX s (sX s) x : Nat) : Int)) dX7_findsAnswerAbove_47 ltc_25 shc_25 (by decide) (by omega) (by omega) (ldx rfl ((hI x (by omega)).2 (by omega))) ?_
      refine Ev.iconst dX7_findsAnswerAbove_48 ?_
      refine Ev.aload_n dX7_findsAnswerAbove_49 rfl rfl ?_
      refine gf_X7_32 rfl dX7_findsAnswerAbove_50 ltc_0 shc_0 rfc_0_10 ?_
      refine Ev.iload_n dX7_findsAnswerAbove_53 rfl rfl ?_
      refine Ev.iaload (v := ((sV s x : Nat) : Int)) dX7_findsAnswerAbove_54 ltc_21 shc_21 (by decide) (by omega) (by omega) (ldx rfl ((congrFun (hF 21 (by decide)) x).trans (hA x (by omega)).1)) ?_
      refine Ev.ishl dX7_findsAnswerAbove_55 ?_
      rw [show (iShl (2) (((sV s x : Nat) : Int))) = ((2 ^ (sV s x + 1) : Nat) : Int) from shl2 (by omega)]
      refine Ev.ineg dX7_findsAnswerAbove_56 ?_
      refine Ev.iand dX7_findsAnswerAbove_57 ?_
      rw [show (iAnd (((NX s (sX s) x : Nat) : Int)) ((-((2 ^ (sV s x + 1) : Nat) : Int)))) = ((hiB (NX s (sX s) x) (sV s x) : Nat) : Int) from hiB_i hxl.2 (by omega)]
      refine Ev.iastore dX7_findsAnswerAbove_58 ltc_25 shc_25 (by decide) (by omega) (by omega) ?_
      refine Ev.mem (τ := upC τ 25 x (hiB (NX s (sX s) x) (sV s x) : Int)) (by simp only [Int.toNat_natCast]) ?_
      obtain ⟨ρ, hρ⟩ : ∃ ρ : Sg, ρ = upC τ 25 x (hiB (NX s (sX s) x) (sV s x) : Int) := ⟨_, rfl⟩
      refine Ev.mem (τ := ρ) hρ.symm ?_
      have hSr : Same SK2 σ ρ := by rw [hρ]; exact hF.up (by decide)
      have hCr := hC.scr (SK2_SC hSr) ((congrFun (hSr 263 (by decide)) 0).trans hk9)
      have hYr : AZ ρ 25 (sU s) (abvY (NX s (sX s)) (sV s) x) := fun z hz => by rw [hρ]; unfold abvY; rcases Nat.lt_trichotomy z x with e | e | e; (rw [upC_self (by omega), if_pos e]; exact ⟨(hI z hz).1 (by omega), and_ltN (hXw z hz).2.2⟩); (rw [e, upC_at, if_neg (by omega), if_pos rfl]; exact ⟨rfl, hiB_lt (hXw x hx).2.2⟩); (rw [upC_self (by omega), if_neg (by omega), if_neg (by omega)]; exact ⟨(hI z hz).2 (by omega), (hXw z hz).2.2⟩)
      have hYw : wys (abvY (NX s (sX s)) (sV s) x) (sU s) ≤ 20000 := Nat.le_trans (wys_sub (U := sU s) (fun z hz => by unfold abvY; rcases Nat.lt_trichotomy z x with e | e | e; (rw [if_pos e]; exact sub_and _ _); (rw [if_neg (by omega), if_pos e, e]; exact sub_andN _ _); (rw [if_neg (by omega), if_neg (by omega)]; exact sub_rf _)) (Nat.le_refl _)) hw
      refine Ev.aload_n dX7_findsAnswerAbove_59 rfl rfl ?_
      refine Ev.aload_n dX7_findsAnswerAbove_60 rfl rfl ?_
      refine gf_X7_48 rfl dX7_findsAnswerAbove_61 ltc_0 shc_0 rfc_0_19 ?_
      refine Ev.callV_G (M2 := mX7_findsAnswer) (args2 := [vR (25)]) (rcv := 0) (q := (RX7, TX7, 20)) (ci := 7) dX7_findsAnswerAbove_64 okX7_findsAnswer lk_X7_237 ovX7_findsAnswer.1.1 ovX7_findsAnswer.1.2 ovX7_findsAnswer.2 (by decide) rfl rfl ltc_0 shc_0 rfl (Nat.le_of_ble_eq_true rfl) (Nat.le_of_ble_eq_true rfl) (s7_findsAnswer s ρ hCr (abvY (NX s (sX s)) (sV s) x) 25 ltc_25 shc_25 (by decide) hYr (fun _ => hYw)) (fun v_ m_ hp_ => ?_) rfl
      obtain ⟨_, τ, rfl, rfl, rfl, hF1, hG1⟩ := hp_
      show Ev g mX7_findsAnswerAbove 67 [some (vR (0)), some (vI (((x : Nat) : Int))), some (vI (((y : Nat) : Int)))] [vI (bI (∃ B, isAns (sU s) (sB s) (sS s) (abvY (NX s (sX s)) (sV s) x) B))] (M0 (τ)) 0 0 _
      exact Ev.zreturn dX7_findsAnswerAbove_67 rfl bI_or (rE ⟨rfl, hSr.tr (SK_SK2 hF1), hG1⟩)
    · exact absurd h15 (by omega)
  | succ j ih =>
    intro y hij τ hF hI
    obtain ⟨hk1, hk2, hk3, hk4, hk5, hk6, hk7, hk8, hk9⟩ := id hC
    have hU := hk1.1
    have hN := hk2.1
    have hD := hk4.1
    have hM := hk7.1
    have hQ := hk5.1
    have hxl := (hXw x hx).2
    have hax := (hA x hx).2
    have hyl := (hXw y (by omega)).2
    have hay := (hA y (by omega)).2
    refine Ev.iload_n dX7_findsAnswerAbove_13 rfl rfl ?_
    refine Ev.iload_n dX7_findsAnswerAbove_14 rfl rfl ?_
    refine Ev.icmp_ge (tgt := 41) ⟨by omega, by omega⟩ ⟨by omega, by omega⟩ dX7_findsAnswerAbove_15 (by decide) (fun h15 => ?_) (fun h15 => ?_)
    · exact absurd h15 (by omega)
    · skip
      refine Ev.aload_n dX7_findsAnswerAbove_18 rfl rfl ?_
      refine gf_X7_48 rfl dX7_findsAnswerAbove_19 ltc_0 shc_0 rfc_0_19 ?_
      refine Ev.iload_n dX7_findsAnswerAbove_22 rfl rfl ?_
      refine Ev.dup2RI dX7_findsAnswerAbove_23 ?_
      refine Ev.iaload (v := ((NX s (sX s) y : Nat) : Int)) dX7_findsAnswerAbove_24 ltc_25 shc_25 (by decide) (by omega) (by omega) (ldx rfl ((hI y (by omega)).2 (by omega))) ?_
      refine Ev.iconst dX7_findsAnswerAbove_25 ?_
      refine Ev.aload_n dX7_findsAnswerAbove_26 rfl rfl ?_
      refine gf_X7_32 rfl dX7_findsAnswerAbove_27 ltc_0 shc_0 rfc_0_10 ?_
      refine Ev.iload_n dX7_findsAnswerAbove_30 rfl rfl ?_
      refine Ev.iaload (v := ((sV s y : Nat) : Int)) dX7_findsAnswerAbove_31 ltc_21 shc_21 (by decide) (by omega) (by omega) (ldx rfl ((congrFun (hF 21 (by decide)) y).trans (hA y (by omega)).1)) ?_
      refine Ev.ishl dX7_findsAnswerAbove_32 ?_
      rw [show (iShl (1) (((sV s y : Nat) : Int))) = ((2 ^ sV s y : Nat) : Int) from shl1 (by omega)]
      refine Ev.iand dX7_findsAnswerAbove_33 ?_
      rw [show (iAnd (((NX s (sX s) y : Nat) : Int)) (((2 ^ sV s y : Nat) : Int))) = (((NX s (sX s) y &&& 2 ^ sV s y) : Nat) : Int) from iAnd_nat (by omega)]
      refine Ev.iastore dX7_findsAnswerAbove_34 ltc_25 shc_25 (by decide) (by omega) (by omega) ?_
      refine Ev.iinc (pl' := [some (vR (0)), some (vI (((x : Nat) : Int))), some (vI (((y : Nat) : Int) + 1))]) dX7_findsAnswerAbove_35 rfl (Nat.le_of_ble_eq_true rfl) rfl ?_
      refine Ev.goto (tgt := 13) dX7_findsAnswerAbove_38 (by decide) ?_
      refine Ev.mem (τ := upC τ 25 y ((NX s (sX s) y &&& 2 ^ sV s y : Nat) : Int)) (by simp only [Int.toNat_natCast]) ?_
      refine Ev.wk (pl' := [some (vR (0)), some (vI (((x : Nat) : Int))), some (vI ((((y + 1) : Nat) : Int)))]) ⟨rfl, ⟨rfl, ⟨vIe (by omega), trivial⟩⟩⟩ ?_
      exact ih (y + 1) (by omega) _ (hF.up (by decide)) (fun z hz => by by_cases e : z = y; (rw [e, upC_at]; exact ⟨fun _ => rfl, fun q => by omega⟩); (rw [upC_self e]; exact ⟨fun q => (hI z hz).1 (by omega), fun q => (hI z hz).2 (by omega)⟩))

set_option maxRecDepth 100000 in
set_option maxHeartbeats 4000000 in
theorem s7_findsAnswerAbove {g : GC} (s : SS) (σ : Sg) (hC : CI s σ) (hXw : AV σ 24 (sU s) (NX s (sX s))) (hw : wys (NX s (sX s)) (sU s) ≤ 20000) (hA : ∀ y, y < sU s → σ 21 y = (sV s y : Int) ∧ sV s y < 16) (x : Nat) (hx : x < sU s) : Ev g mX7_findsAnswerAbove 0 [some (vR (0)), some (vI (((x : Nat) : Int))), none] [] (M0 (σ)) 0 0 (retE (FaP SK2 s σ (abvY (NX s (sX s)) (sV s) x))) := by
  obtain ⟨hk1, hk2, hk3, hk4, hk5, hk6, hk7, hk8, hk9⟩ := id hC
  have hU := hk1.1
  have hN := hk2.1
  have hD := hk4.1
  have hM := hk7.1
  have hQ := hk5.1
  refine Ev.aload_n dX7_findsAnswerAbove_0 rfl rfl ?_
  refine gf_X7_45 rfl dX7_findsAnswerAbove_1 ltc_0 shc_0 rfc_0_18 ?_
  refine Ev.aload_n dX7_findsAnswerAbove_4 rfl rfl ?_
  refine gf_X7_48 rfl dX7_findsAnswerAbove_5 ltc_0 shc_0 rfc_0_19 ?_
  refine Ev.callS_V (M2 := mX7_bring) (args2 := [vR (24), vR (25)]) dX7_findsAnswerAbove_8 okX7_bring lk_X7_187 osX7_bring.1 osX7_bring.2 (by decide) rfl (Nat.le_of_ble_eq_true rfl) (Nat.le_of_ble_eq_true rfl) (s7_bring σ 24 25 ltc_24 shc_24 ltc_25 shc_25) ?_ rfl
  refine Ev.iconst dX7_findsAnswerAbove_11 ?_
  refine Ev.istore_n (pl' := [some (vR (0)), some (vI (((x : Nat) : Int))), some (vI (0))]) dX7_findsAnswerAbove_12 rfl (Nat.le_of_ble_eq_true rfl) rfl ?_
  refine Ev.wk (pl' := [some (vR (0)), some (vI (((x : Nat) : Int))), some (vI (((0 : Nat) : Int)))]) ⟨rfl, ⟨rfl, ⟨vIe rfl, trivial⟩⟩⟩ ?_
  exact s7_faa_l s σ hC hXw hw hA x hx x 0 (by omega) _ (cpS (by decide)) (fun z hz => ⟨fun q => absurd q (by omega), fun _ => (cp_at (by omega)).trans (hXw z hz).1⟩)

set_option maxRecDepth 100000 in
set_option maxHeartbeats 4000000 in
theorem s7_keepAnswer {g : GC} (σ : Sg) (U : Nat) (hU : U ≤ 10) (h : σ 0 2 = (U : Int)) : Ev g mX7_keepAnswer 0 [some (vR (0))] [] (M0 (σ)) 0 0 (retV (upC (cpy σ 267 21 0 0 10) 0 11 (U : Int))) := by
  refine Ev.aload_n dX7_keepAnswer_0 rfl rfl ?_
  refine gf_X7_81 rfl dX7_keepAnswer_1 ltc_0 shc_0 rfc_0_17 ?_
  refine gf_X7_260 rfl dX7_keepAnswer_4 ltc_266 shc_266 rfc_266_1 ?_
  refine Ev.aload_n dX7_keepAnswer_7 rfl rfl ?_
  refine gf_X7_32 rfl dX7_keepAnswer_8 ltc_0 shc_0 rfc_0_10 ?_
  refine Ev.callS_V (M2 := mX7_bring) (args2 := [vR (267), vR (21)]) dX7_keepAnswer_11 okX7_bring lk_X7_187 osX7_bring.1 osX7_bring.2 (by decide) rfl (Nat.le_of_ble_eq_true rfl) (Nat.le_of_ble_eq_true rfl) (s7_bring σ 267 21 ltc_267 shc_267 ltc_21 shc_21) ?_ rfl
  refine Ev.aload_n dX7_keepAnswer_14 rfl rfl ?_
  refine Ev.aload_n dX7_keepAnswer_15 rfl rfl ?_
  refine gf_X7_88 (x := ((U : Nat) : Int)) rfl dX7_keepAnswer_16 ltc_0 shc_0 (show (cpy (σ) 267 21 0 0 10) 0 2 = ((U : Nat) : Int) from (by (repeat (first | rw [upC_self (by omega)] | rw [upC_ne (by omega)] | rw [cpy_ne (by omega)])); exact h)) ?_
  refine pf_X7_35 rfl dX7_keepAnswer_19 ltc_0 shc_0 ?_
  exact Ev.vreturn dX7_keepAnswer_22 rfl (rV rfl)

