/-! THE CLASS: solve, next, answer, count, best, has -/
theorem kept_Q {U : Nat} {P Q : An → Prop} {τ : Sg} (e : P = Q) (hl : ∀ A, Q A → lt16 U A) (h : ∃ B, P B) (hG : ∀ x, x < U → τ 267 x = (lstA U P x : Int)) : ∀ x, x < U → τ 267 x = (lstA U Q x : Int) ∧ lstA U Q x < 16 := by
  subst e
  exact fun x hx => ⟨hG x hx, hl _ (lstA_ok h).1 x hx⟩
theorem abv_eq {s : SS} (hal : AL s (sX s)) {x : Nat} (hx : x < sU s) : isAns (sU s) (sB s) (sS s) (abvY (NX s (sX s)) (sV s) x) = fun B => ansP s (sX s) B ∧ (∀ y, y < x → B y = sV s y) ∧ sV s x < B x := by
  rw [ans_abv hx]
  exact funext fun B => propext ⟨fun z => ⟨⟨hal, z.1⟩, z.2⟩, fun z => ⟨z.1.2, z.2⟩⟩
theorem abv_no {s : SS} (hal : AL s (sX s)) {x : Nat} (hx : x < sU s) (h : ¬ ∃ B, isAns (sU s) (sB s) (sS s) (abvY (NX s (sX s)) (sV s) x) B) : ¬ ∃ B, ansP s (sX s) B ∧ (∀ y, y < x → B y = sV s y) ∧ sV s x < B x := by
  rw [abv_eq hal hx] at h; exact h
theorem nx_found {s : SS} (hal : AL s (sX s)) (hV : lt16 (sU s) (sV s)) {x : Nat} (hx : x < sU s) (hno : ∀ z, x < z → z < sU s → ¬ ∃ B, ansP s (sX s) B ∧ (∀ y, y < z → B y = sV s y) ∧ sV s z < B z) (h : ∃ B, isAns (sU s) (sB s) (sS s) (abvY (NX s (sX s)) (sV s) x) B) {τ : Sg} (hG : ∀ y, y < sU s → τ 267 y = (lstA (sU s) (isAns (sU s) (sB s) (sS s) (abvY (NX s (sX s)) (sV s) x)) y : Int)) : (∃ B, nxP s B) ∧ ∀ y, y < sU s → τ 267 y = (lstA (sU s) (nxP s) y : Int) ∧ lstA (sU s) (nxP s) y < 16 := by
  rw [abv_eq hal hx] at h hG
  have h1 := nx_lst (P := ansP s (sX s)) (fun B hB => ansP_lt hB) hV hx hno (lstA_ok h)
  have h2 := lstA_eq (U := sU s) (P := nxP s) (fun B hB => ansP_lt hB.1) h1
  exact ⟨⟨_, h1.1⟩, fun y hy => ⟨by rw [h2 y hy]; exact hG y hy, ansP_lt (lstA_ok (P := nxP s) ⟨_, h1.1⟩).1.1 y hy⟩⟩
theorem with_eq {U : Nat} {T : Tb} {S : Sy} {X : Rg} {x a : Nat} (hx : x < U) : isAns U T S (upY X x (X x &&& 2 ^ a)) = fun B => isAns U T S X B ∧ B x = a := ans_cut (q := fun j => j = a) hx fun j => by
  rw [Nat.testBit_and, Bool.and_eq_true, tb_pow]
  exact ⟨fun z => ⟨z.1, z.2.symm⟩, fun z => ⟨z.1, z.2.symm⟩⟩
theorem with_Q {s : SS} (hal : AL s (sX s)) {x a b : Nat} (hx : x < sU s) (hb : b = a) : isAns (sU s) (sB s) (sS s) (upY (NX s (sX s)) x (NX s (sX s) x &&& 2 ^ a)) = fun B => ansP s (sX s) B ∧ B x = b := by
  subst hb
  rw [with_eq hx]
  exact funext fun B => propext ⟨fun z => ⟨⟨hal, z.1⟩, z.2⟩, fun z => ⟨z.1.2, z.2⟩⟩
theorem with_no {s : SS} (hal : AL s (sX s)) {x a : Nat} (hx : x < sU s) (h : ¬ ∃ B, isAns (sU s) (sB s) (sS s) (upY (NX s (sX s)) x (NX s (sX s) x &&& 2 ^ a)) B) : ¬ ∃ B, ansP s (sX s) B ∧ B x = a := by
  rw [with_Q hal hx rfl] at h; exact h
theorem with_ex {s : SS} (hal : AL s (sX s)) {x a : Nat} (hx : x < sU s) (h : ∃ B, isAns (sU s) (sB s) (sS s) (upY (NX s (sX s)) x (NX s (sX s) x &&& 2 ^ a)) B) : ∃ B, ansP s (sX s) B ∧ B x = a := by
  rw [with_Q hal hx rfl] at h; exact h
theorem so_iff {s : SS} (hal : AL s (sX s)) {x n : Nat} (hx : x < sU s) : (∃ B, isAns (sU s) (sB s) (sS s) (upY (NX s (sX s)) x (NX s (sX s) x &&& n)) B) ↔ ∃ B, ansP s (sX s) B ∧ n.testBit (B x) = true := by
  rw [ans_cut (q := fun j => n.testBit j = true) hx fun j => by rw [Nat.testBit_and, Bool.and_eq_true]]
  exact ⟨fun ⟨B, z⟩ => ⟨B, ⟨hal, z.1⟩, z.2⟩, fun ⟨B, z⟩ => ⟨B, z.1.2, z.2⟩⟩
theorem nso_iff {s : SS} (hal : AL s (sX s)) {x n : Nat} (hx : x < sU s) : (∃ B, isAns (sU s) (sB s) (sS s) (upY (NX s (sX s)) x (andN (NX s (sX s) x) n)) B) ↔ ∃ B, ansP s (sX s) B ∧ n.testBit (B x) = false := by
  rw [ans_cut (q := fun j => n.testBit j = false) hx fun j => by rw [andN_tb, Bool.and_eq_true]; simp]
  exact ⟨fun ⟨B, z⟩ => ⟨B, ⟨hal, z.1⟩, z.2⟩, fun ⟨B, z⟩ => ⟨B, z.1.2, z.2⟩⟩
theorem bst_lo {s : SS} {x a : Nat} (h : ∃ B, ansP s (sX s) B ∧ B x = a) (ha : a < 16) (hno : ∀ u, u < a → ¬ ∃ B, ansP s (sX s) B ∧ B x = u) : lo (bstM s x) = a := (lo_eq (m := bstM s x) (k := a) ((mkN_tb 16 _ a).mpr ⟨ha, h⟩) (fun j hj => by
  cases hb : (bstM s x).testBit j with
  | false => rfl
  | true => exact absurd ((mkN_tb 16 _ j).mp hb).2 (hno j hj)) (mk_lt _)).symm
theorem bst_hi {s : SS} {x i : Nat} (h : ∃ B, ansP s (sX s) B ∧ B x = 15 - i) (hi16 : i < 16) (hno : ∀ u, u < i → ¬ ∃ B, ansP s (sX s) B ∧ B x = 15 - u) : hi (bstM s x) = 15 - i := (hi_is (s := bstM s x) (i := 15 - i) (fun j hj => by
  cases hb : (bstM s x).testBit j with
  | false => rfl
  | true =>
    have h1 := (mkN_tb 16 _ j).mp hb
    exact absurd h1.2 (by have := hno (15 - j) (by omega); rwa [show 15 - (15 - j) = j by omega] at this)) ((mkN_tb 16 _ _).mpr ⟨by omega, h⟩)).symm
/-- the number at place i of those that best() tries -/
def bsv (g : Int) (i : Nat) : Nat := if g = 0 then i else 15 - i
theorem bsv_0 {g : Int} {i : Nat} (h : g = 0) : bsv g i = i := if_pos h
theorem bsv_1 {g : Int} {i : Nat} (h : ¬ g = 0) : bsv g i = 15 - i := if_neg h
theorem bst_is {s : SS} {x i : Nat} {g : Int} (h : ∃ B, ansP s (sX s) B ∧ B x = bsv g i) (hi16 : i < 16) (hno : ∀ u, u < i → ¬ ∃ B, ansP s (sX s) B ∧ B x = bsv g u) : bstV s x g = bsv g i := by
  unfold bstV
  by_cases e : g = 0
  · rw [ifP_t e, bsv_0 e]
    rw [bsv_0 e] at h
    exact bst_lo h hi16 fun u hu => by have := hno u hu; rwa [bsv_0 e] at this
  · rw [ifP_f e, bsv_1 e]
    rw [bsv_1 e] at h
    exact bst_hi h hi16 fun u hu => by have := hno u hu; rwa [bsv_1 e] at this
theorem bst_none {s : SS} {x : Nat} {g : Int} (hx : x < sU s) (hno : ∀ u, u < 16 → ¬ ∃ B, ansP s (sX s) B ∧ B x = bsv g u) : ¬ ∃ B, ansP s (sX s) B := fun ⟨B, hB⟩ => by
  have h1 := ansP_lt hB x hx
  by_cases e : g = 0
  · exact hno (B x) h1 ⟨B, hB, (bsv_0 e).symm⟩
  · exact hno (15 - B x) (by omega) ⟨B, hB, by rw [bsv_1 e]; omega⟩
set_option maxRecDepth 100000 in
set_option maxHeartbeats 4000000 in
theorem c_solve {g : GC} (s : SS) (σ : Sg) (hC : CI s σ) : Ev g mX7_solve 0 [some (vR (0)), none] [] (M0 (σ)) 0 0 (retE (CP σ (o_solve s))) := by
  obtain ⟨hk1, hk2, hk3, hk4, hk5, hk6, hk7, hk8, hk9⟩ := id hC
  have hU := hk1.1
  have hN := hk2.1
  have hD := hk4.1
  have hM := hk7.1
  have hQ := hk5.1
  refine Ev.aload_n dX7_solve_0 rfl rfl ?_
  refine Ev.callV_G (M2 := mX7_narrowAside) (args2 := []) (rcv := 0) (q := (RX7, TX7, 20)) (ci := 7) dX7_solve_1 okX7_narrowAside lk_X7_234 ovX7_narrowAside.1.1 ovX7_narrowAside.1.2 ovX7_narrowAside.2 (by decide) rfl rfl ltc_0 shc_0 rfl (Nat.le_of_ble_eq_true rfl) (Nat.le_of_ble_eq_true rfl) (s7_narrowAside s σ hC) (fun v_ m_ hp_ => ?_) rfl
  obtain ⟨v, τ, rfl, rfl, hS1, hJ1, hvv⟩ := hp_
  have hC := hC.scr hS1 hJ1
  have hK : ∀ c, 272 ≤ c → τ c = σ c := fun c h => hS1 c (nSC2 h)
  obtain ⟨hk1, hk2, hk3, hk4, hk5, hk6, hk7, hk8, hk9⟩ := id hC
  have hU := hk1.1
  have hN := hk2.1
  have hD := hk4.1
  have hM := hk7.1
  have hQ := hk5.1
  rcases hvv with ⟨rfl, hal⟩ | ⟨n, rfl, hn1, hn2, hal, hXw, hn3⟩
  · skip
    show Ev g mX7_solve 4 [some (vR (0)), none] [vI (0)] (M0 (τ)) 0 0 _
    refine Ev.istore_n (pl' := [some (vR (0)), some (vI (0))]) dX7_solve_4 rfl (Nat.le_of_ble_eq_true rfl) rfl ?_
    refine Ev.iload_n dX7_solve_5 rfl rfl ?_
    refine Ev.sipush (n := 20000) (by decide) dX7_solve_6 ?_
    refine Ev.icmp_le (tgt := 15) ⟨by decide, by decide⟩ ⟨by decide, by decide⟩ dX7_solve_9 (by decide) (fun h9 => ?_) (fun h9 => ?_)
    · skip
      refine Ev.iload_n dX7_solve_15 rfl rfl ?_
      refine Ev.if_eq (tgt := 30) ⟨by decide, by decide⟩ dX7_solve_16 (by decide) (fun h16 => ?_) (fun h16 => ?_)
      · skip
        refine Ev.aload_n dX7_solve_30 rfl rfl ?_
        refine Ev.iconst dX7_solve_31 ?_
        refine pf_X7_35 rfl dX7_solve_32 ltc_0 shc_0 ?_
        refine Ev.mem (τ := upC τ 0 11 (-1)) (rfl) ?_
        refine Ev.iconst dX7_solve_35 ?_
        exact Ev.ireturn dX7_solve_36 rfl (rE (by unfold CP o_solve; (repeat rw [Int.toNat_natCast]); rw [ifP_f (fun z => by first | exact hal z.1 | (have := hn3.mpr z.2; omega)), ifP_f (ansP_no hal)]; exact ⟨rfl, hC.unans, (fun c q1 => ((upC_ne (Nat.ne_of_gt (Nat.lt_of_lt_of_le (show 0 < 272 by decide) q1))).trans (hK c q1)))⟩))
      · exact absurd h16 (by omega)
    · exact absurd h9 (by omega)
  · skip
    show Ev g mX7_solve 4 [some (vR (0)), none] [vI (((n : Nat) : Int))] (M0 (τ)) 0 0 _
    refine Ev.istore_n (pl' := [some (vR (0)), some (vI (((n : Nat) : Int)))]) dX7_solve_4 rfl (Nat.le_of_ble_eq_true rfl) rfl ?_
    refine Ev.iload_n dX7_solve_5 rfl rfl ?_
    refine Ev.sipush (n := 20000) (by decide) dX7_solve_6 ?_
    refine Ev.icmp_le (tgt := 15) ⟨by omega, by omega⟩ ⟨by decide, by decide⟩ dX7_solve_9 (by decide) (fun h9 => ?_) (fun h9 => ?_)
    · skip
      refine Ev.iload_n dX7_solve_15 rfl rfl ?_
      refine Ev.if_eq (tgt := 30) ⟨by omega, by omega⟩ dX7_solve_16 (by decide) (fun h16 => ?_) (fun h16 => ?_)
      · exact absurd h16 (by omega)
      · skip
        refine Ev.aload_n dX7_solve_19 rfl rfl ?_
        refine Ev.aload_n dX7_solve_20 rfl rfl ?_
        refine gf_X7_45 rfl dX7_solve_21 ltc_0 shc_0 rfc_0_18 ?_
        refine Ev.callV_G (M2 := mX7_findsAnswer) (args2 := [vR (24)]) (rcv := 0) (q := (RX7, TX7, 20)) (ci := 7) dX7_solve_24 okX7_findsAnswer lk_X7_237 ovX7_findsAnswer.1.1 ovX7_findsAnswer.1.2 ovX7_findsAnswer.2 (by decide) rfl rfl ltc_0 shc_0 rfl (Nat.le_of_ble_eq_true rfl) (Nat.le_of_ble_eq_true rfl) (s7_findsAnswer s τ hC (NX s (sX s)) 24 ltc_24 shc_24 (by decide) hXw.az (fun _ => (show wys (NX s (sX s)) (sU s) ≤ 20000 by omega))) (fun v_ m_ hp_ => ?_) rfl
        obtain ⟨_, τ2, rfl, rfl, rfl, hF2, hG2⟩ := hp_
        have hS2 := SK_SC hF2
        have hXw := hXw.same hF2 (by decide)
        have hC := hC.scr hS2 ((congrFun (hF2 263 (by decide)) 0).trans hk9)
        have hK := fun c (h : 272 ≤ c) => (hS2 c (nSC2 h)).trans (hK c h)
        obtain ⟨hk1, hk2, hk3, hk4, hk5, hk6, hk7, hk8, hk9⟩ := id hC
        have hU := hk1.1
        have hN := hk2.1
        have hD := hk4.1
        have hM := hk7.1
        have hQ := hk5.1
        show Ev g mX7_solve 27 [some (vR (0)), some (vI (((n : Nat) : Int)))] [vI (bI (∃ B, isAns (sU s) (sB s) (sS s) (NX s (sX s)) B))] (M0 (τ2)) 0 0 _
        refine Ev.if_ne (tgt := 37) bI_inR dX7_solve_27 (by decide) (fun h27 => ?_) (fun h27 => ?_)
        · skip
          have q27 := bI_1.mp h27
          refine Ev.aload_n dX7_solve_37 rfl rfl ?_
          refine Ev.callV_V (M2 := mX7_keepAnswer) (args2 := []) (rcv := 0) (q := (RX7, TX7, 20)) (ci := 7) dX7_solve_38 okX7_keepAnswer lk_X7_240 ovX7_keepAnswer.1.1 ovX7_keepAnswer.1.2 ovX7_keepAnswer.2 (by decide) rfl rfl ltc_0 shc_0 rfl (Nat.le_of_ble_eq_true rfl) (Nat.le_of_ble_eq_true rfl) (s7_keepAnswer τ2 (sU s) hU hk1.2.1) ?_ rfl
          refine Ev.iconst dX7_solve_41 ?_
          exact Ev.ireturn dX7_solve_42 rfl (rE (by unfold CP o_solve; (repeat rw [Int.toNat_natCast]); rw [ifP_f (fun z => by first | exact hal z.1 | (have := hn3.mpr z.2; omega)), ifP_t (by obtain ⟨B, z⟩ := q27; exact ⟨B, hal, z⟩)]; exact ⟨rfl, (hC.kept (kept_Q (ansP_eq hal).symm (fun A hA => ansP_lt hA) q27 (hG2 q27))), (fun c q1 => ((upC_ne (Nat.ne_of_gt (Nat.lt_of_lt_of_le (show 0 < 272 by decide) q1))).trans ((cpy_ne (Nat.ne_of_gt (Nat.lt_of_lt_of_le (show 21 < 272 by decide) q1))).trans (hK c q1))))⟩))
        · skip
          have q27 := bI_0.mp h27
          refine Ev.aload_n dX7_solve_30 rfl rfl ?_
          refine Ev.iconst dX7_solve_31 ?_
          refine pf_X7_35 rfl dX7_solve_32 ltc_0 shc_0 ?_
          refine Ev.mem (τ := upC τ2 0 11 (-1)) (rfl) ?_
          refine Ev.iconst dX7_solve_35 ?_
          exact Ev.ireturn dX7_solve_36 rfl (rE (by unfold CP o_solve; (repeat rw [Int.toNat_natCast]); rw [ifP_f (fun z => by first | exact hal z.1 | (have := hn3.mpr z.2; omega)), ifP_f (fun ⟨B, z⟩ => q27 ⟨B, z.2⟩)]; exact ⟨rfl, hC.unans, (fun c q1 => ((upC_ne (Nat.ne_of_gt (Nat.lt_of_lt_of_le (show 0 < 272 by decide) q1))).trans (hK c q1)))⟩))
    · skip
      refine Ev.bipush (n := -5) (by decide) dX7_solve_12 ?_
      exact Ev.ireturn dX7_solve_14 rfl (rE (by unfold CP o_solve; (repeat rw [Int.toNat_natCast]); rw [ifP_t ⟨hal, hn3.mp (by omega)⟩]; exact ⟨rfl, hC, hK⟩))

set_option maxRecDepth 100000 in
set_option maxHeartbeats 4000000 in
theorem c_answer {g : GC} (s : SS) (σ : Sg) (hC : CI s σ) (x : Int) (h_x : inR x) : Ev g mX7_answer 0 [some (vR (0)), some (vI (x))] [] (M0 (σ)) 0 0 (retE (CP σ (o_answer s x))) := by
  obtain ⟨hk1, hk2, hk3, hk4, hk5, hk6, hk7, hk8, hk9⟩ := id hC
  have hU := hk1.1
  have hN := hk2.1
  have hD := hk4.1
  have hM := hk7.1
  have hQ := hk5.1
  have hA6 := hk6.1
  refine Ev.aload_n dX7_answer_0 rfl rfl ?_
  refine Ev.iload_n dX7_answer_1 rfl rfl ?_
  refine Ev.callV_I (M2 := mX7_isUnknown) (args2 := [vI (x)]) (rcv := 0) (q := (RX7, TX7, 20)) (ci := 7) dX7_answer_2 okX7_isUnknown lk_X7_94 ovX7_isUnknown.1.1 ovX7_isUnknown.1.2 ovX7_isUnknown.2 (by decide) rfl rfl ltc_0 shc_0 rfl (Nat.le_of_ble_eq_true rfl) (Nat.le_of_ble_eq_true rfl) (s7_isUnknown σ (sU s) hU hk1.2.1 (x) ⟨by omega, by omega⟩) ?_ rfl
  refine Ev.if_ne (tgt := 10) bI_inR dX7_answer_5 (by decide) (fun h5 => ?_) (fun h5 => ?_)
  · skip
    have q5 := bI_1.mp h5
    obtain ⟨kx, rfl⟩ : ∃ k : Nat, x = (k : Int) := ⟨x.toNat, by omega⟩
    refine Ev.iload_n dX7_answer_10 rfl rfl ?_
    refine Ev.aload_n dX7_answer_11 rfl rfl ?_
    refine gf_X7_35 (x := sA s) rfl dX7_answer_12 ltc_0 shc_0 hk6.2.1 ?_
    refine Ev.icmp_ge (tgt := 27) ⟨by omega, by omega⟩ ⟨by omega, by omega⟩ dX7_answer_15 (by decide) (fun h15 => ?_) (fun h15 => ?_)
    · skip
      refine Ev.bipush (n := -3) (by decide) dX7_answer_27 ?_
      exact Ev.ireturn dX7_answer_29 rfl (rE (by unfold CP o_answer; (repeat rw [Int.toNat_natCast]); rw [ifP_f (by omega)]; exact ⟨(by show _ = ifP _ _ _; rw [ifP_f (by omega)]), hC, (fun _ _ => rfl)⟩))
    · skip
      refine Ev.aload_n dX7_answer_18 rfl rfl ?_
      refine gf_X7_32 rfl dX7_answer_19 ltc_0 shc_0 rfc_0_10 ?_
      refine Ev.iload_n dX7_answer_22 rfl rfl ?_
      refine Ev.iaload (v := ((sV s kx : Nat) : Int)) dX7_answer_23 ltc_21 shc_21 (by decide) (by omega) (by omega) (ldx rfl (hk6.2.2 kx (by omega)).1) ?_
      refine Ev.goto (tgt := 29) dX7_answer_24 (by decide) ?_
      exact Ev.ireturn dX7_answer_29 rfl (rE (by unfold CP o_answer; (repeat rw [Int.toNat_natCast]); rw [ifP_f (by omega)]; exact ⟨(by show _ = ifP _ _ _; rw [ifP_t (by omega)]), hC, (fun _ _ => rfl)⟩))
  · skip
    have q5 := bI_0.mp h5
    refine Ev.iconst dX7_answer_8 ?_
    exact Ev.ireturn dX7_answer_9 rfl (rE (by unfold CP o_answer; (repeat rw [Int.toNat_natCast]); rw [ifP_t (by omega)]; exact ⟨rfl, hC, (fun _ _ => rfl)⟩))

set_option maxRecDepth 100000 in
set_option maxHeartbeats 4000000 in
theorem c_count {g : GC} (s : SS) (σ : Sg) (hC : CI s σ) (m : Int) (h_m : inR m) : Ev g mX7_count 0 [some (vR (0)), some (vI (m)), none] [] (M0 (σ)) 0 0 (retE (CP σ (o_count s m))) := by
  obtain ⟨hk1, hk2, hk3, hk4, hk5, hk6, hk7, hk8, hk9⟩ := id hC
  have hU := hk1.1
  have hN := hk2.1
  have hD := hk4.1
  have hM := hk7.1
  have hQ := hk5.1
  refine Ev.iload_n dX7_count_0 rfl rfl ?_
  refine Ev.iconst dX7_count_1 ?_
  refine Ev.icmp_lt (tgt := 12) ⟨by omega, by omega⟩ ⟨by decide, by decide⟩ dX7_count_2 (by decide) (fun h2 => ?_) (fun h2 => ?_)
  · skip
    refine Ev.bipush (n := -2) (by decide) dX7_count_12 ?_
    exact Ev.ireturn dX7_count_14 rfl (rE (by unfold CP o_count; (repeat rw [Int.toNat_natCast]); rw [ifP_t (by omega)]; exact ⟨rfl, hC, (fun _ _ => rfl)⟩))
  · skip
    refine Ev.iload_n dX7_count_5 rfl rfl ?_
    refine Ev.sipush (n := 20000) (by decide) dX7_count_6 ?_
    refine Ev.icmp_le (tgt := 15) ⟨by omega, by omega⟩ ⟨by decide, by decide⟩ dX7_count_9 (by decide) (fun h9 => ?_) (fun h9 => ?_)
    · skip
      obtain ⟨km, rfl⟩ : ∃ k : Nat, m = (k : Int) := ⟨m.toNat, by omega⟩
      refine Ev.aload_n dX7_count_15 rfl rfl ?_
      refine Ev.callV_G (M2 := mX7_narrowAside) (args2 := []) (rcv := 0) (q := (RX7, TX7, 20)) (ci := 7) dX7_count_16 okX7_narrowAside lk_X7_234 ovX7_narrowAside.1.1 ovX7_narrowAside.1.2 ovX7_narrowAside.2 (by decide) rfl rfl ltc_0 shc_0 rfl (Nat.le_of_ble_eq_true rfl) (Nat.le_of_ble_eq_true rfl) (s7_narrowAside s σ hC) (fun v_ m_ hp_ => ?_) rfl
      obtain ⟨v, τ, rfl, rfl, hS1, hJ1, hvv⟩ := hp_
      have hC := hC.scr hS1 hJ1
      have hK : ∀ c, 272 ≤ c → τ c = σ c := fun c h => hS1 c (nSC2 h)
      obtain ⟨hk1, hk2, hk3, hk4, hk5, hk6, hk7, hk8, hk9⟩ := id hC
      have hU := hk1.1
      have hN := hk2.1
      have hD := hk4.1
      have hM := hk7.1
      have hQ := hk5.1
      rcases hvv with ⟨rfl, hal⟩ | ⟨n, rfl, hn1, hn2, hal, hXw, hn3⟩
      · skip
        show Ev g mX7_count 19 [some (vR (0)), some (vI (((km : Nat) : Int))), none] [vI (0)] (M0 (τ)) 0 0 _
        refine Ev.istore_n (pl' := [some (vR (0)), some (vI (((km : Nat) : Int))), some (vI (0))]) dX7_count_19 rfl (Nat.le_of_ble_eq_true rfl) rfl ?_
        refine Ev.iload_n dX7_count_20 rfl rfl ?_
        refine Ev.sipush (n := 20000) (by decide) dX7_count_21 ?_
        refine Ev.icmp_le (tgt := 30) ⟨by decide, by decide⟩ ⟨by decide, by decide⟩ dX7_count_24 (by decide) (fun h24 => ?_) (fun h24 => ?_)
        · skip
          refine Ev.iload_n dX7_count_30 rfl rfl ?_
          refine Ev.if_ne (tgt := 38) ⟨by decide, by decide⟩ dX7_count_31 (by decide) (fun h31 => ?_) (fun h31 => ?_)
          · exact absurd h31 (by omega)
          · skip
            refine Ev.iconst dX7_count_34 ?_
            refine Ev.goto (tgt := 62) dX7_count_35 (by decide) ?_
            exact Ev.ireturn dX7_count_62 rfl (rE (by unfold CP o_count; (repeat rw [Int.toNat_natCast]); rw [ifP_f (by omega), ifP_f (fun z => by first | exact hal z.1 | (have := hn3.mpr z.2; omega))]; exact ⟨(by show _ = ((min km (nmb (sU s) (ansP s (sX s))) : Nat) : Int); rw [nmb_0 (fun B _ z => hal z.1), Nat.min_zero]; rfl), hC, hK⟩))
        · exact absurd h24 (by omega)
      · skip
        show Ev g mX7_count 19 [some (vR (0)), some (vI (((km : Nat) : Int))), none] [vI (((n : Nat) : Int))] (M0 (τ)) 0 0 _
        refine Ev.istore_n (pl' := [some (vR (0)), some (vI (((km : Nat) : Int))), some (vI (((n : Nat) : Int)))]) dX7_count_19 rfl (Nat.le_of_ble_eq_true rfl) rfl ?_
        refine Ev.iload_n dX7_count_20 rfl rfl ?_
        refine Ev.sipush (n := 20000) (by decide) dX7_count_21 ?_
        refine Ev.icmp_le (tgt := 30) ⟨by omega, by omega⟩ ⟨by decide, by decide⟩ dX7_count_24 (by decide) (fun h24 => ?_) (fun h24 => ?_)
        · skip
          refine Ev.iload_n dX7_count_30 rfl rfl ?_
          refine Ev.if_ne (tgt := 38) ⟨by omega, by omega⟩ dX7_count_31 (by decide) (fun h31 => ?_) (fun h31 => ?_)
          · skip
            refine Ev.aload_n dX7_count_38 rfl rfl ?_
            refine gf_X7_81 rfl dX7_count_39 ltc_0 shc_0 rfc_0_17 ?_
            refine Ev.aload_n dX7_count_42 rfl rfl ?_
            refine gf_X7_45 rfl dX7_count_43 ltc_0 shc_0 rfc_0_18 ?_
            refine Ev.aload_n dX7_count_46 rfl rfl ?_
            refine gf_X7_88 (x := ((sU s : Nat) : Int)) rfl dX7_count_47 ltc_0 shc_0 hk1.2.1 ?_
            refine Ev.aload_n dX7_count_50 rfl rfl ?_
            refine gf_X7_18 rfl dX7_count_51 ltc_0 shc_0 rfc_0_3 ?_
            refine Ev.aload_n dX7_count_54 rfl rfl ?_
            refine gf_X7_118 (x := ((sW s : Nat) : Int)) rfl dX7_count_55 ltc_0 shc_0 hk2.2.2.1 ?_
            refine Ev.iload_n dX7_count_58 rfl rfl ?_
            refine Ev.callV_G (M2 := mX4_find) (args2 := [vR (24), vI (((sU s : Nat) : Int)), vR (3), vL (((sW s : Nat) : Int)), vI (((km : Nat) : Int))]) (rcv := 266) (q := (RX4, TX4, 6)) (ci := 4) dX7_count_59 okX4_find lk_X7_246 ovX4_find.1.1 ovX4_find.1.2 ovX4_find.2 (by decide) rfl rfl ltc_266 shc_266 rfl (Nat.le_of_ble_eq_true rfl) (Nat.le_of_ble_eq_true rfl) (s4_find τ (sU s) hU (NX s (sX s)) 24 ltc_24 shc_24 (by decide) hXw (sR s) (sW s) (w16 hk2.2.2.2.1 hN) (fun r _ hb => hk2.on hb) (sB s) hk3 km ⟨by omega, by omega⟩ (show wys (NX s (sX s)) (sU s) ≤ 20000 by omega)) (fun v_ m_ hp_ => ?_) rfl
            obtain ⟨_, τ2, rfl, rfl, rfl, hF2, hG2⟩ := hp_
            have hS2 := SK_SC hF2
            have hC := hC.scr hS2 ((congrFun (hF2 263 (by decide)) 0).trans hk9)
            have hK := fun c (h : 272 ≤ c) => (hS2 c (nSC2 h)).trans (hK c h)
            show Ev g mX7_count 62 [some (vR (0)), some (vI (((km : Nat) : Int))), some (vI (((n : Nat) : Int)))] [vI (((min km (nAns (sU s) (sB s) (sS s) (NX s (sX s))) : Nat) : Int))] (M0 (τ2)) 0 0 _
            exact Ev.ireturn dX7_count_62 rfl (rE (by unfold CP o_count; (repeat rw [Int.toNat_natCast]); rw [ifP_f (by omega), ifP_f (fun z => by first | exact hal z.1 | (have := hn3.mpr z.2; omega))]; exact ⟨(by show _ = ((min km (nmb (sU s) (ansP s (sX s))) : Nat) : Int); rw [ansP_eq hal]; rfl), hC, hK⟩))
          · exact absurd h31 (by omega)
        · skip
          refine Ev.bipush (n := -5) (by decide) dX7_count_27 ?_
          exact Ev.ireturn dX7_count_29 rfl (rE (by unfold CP o_count; (repeat rw [Int.toNat_natCast]); rw [ifP_f (by omega), ifP_t ⟨hal, hn3.mp (by omega)⟩]; exact ⟨rfl, hC, hK⟩))
    · skip
      refine Ev.bipush (n := -2) (by decide) dX7_count_12 ?_
      exact Ev.ireturn dX7_count_14 rfl (rE (by unfold CP o_count; (repeat rw [Int.toNat_natCast]); rw [ifP_t (by omega)]; exact ⟨rfl, hC, (fun _ _ => rfl)⟩))

set_option maxRecDepth 100000 in
set_option maxHeartbeats 4000000 in
theorem c_best_l {g : GC} (s : SS) (σ : Sg) (n : Nat) (hn1 : 1 ≤ n) (hn2 : n ≤ 320000) (hal : AL s (sX s)) (hn3 : 20000 < n ↔ 20000 < wys (NX s (sX s)) (sU s)) (hnn : n ≤ 20000) (kx : Nat) (hx : kx < sU s) (g_ : Int) (h_g : inR g_) : ∀ j i : Nat, i + j = 16 → ∀ τ : Sg, CI s τ → (∀ c, 272 ≤ c → τ c = σ c) → AV τ 24 (sU s) (NX s (sX s)) → (∀ u, u < i → ¬ ∃ B, ansP s (sX s) B ∧ B kx = bsv g_ u) → Ev g mX7_best 28 [some (vR (0)), some (vI (((kx : Nat) : Int))), some (vI (g_)), some (vI (((n : Nat) : Int))), some (vI (((i : Nat) : Int))), none] [] (M0 (τ)) 0 0 (retE (CP σ (o_best s (kx : Int) g_))) := by
  intro j
  induction j with
  | zero =>
    intro i hij τ hC hK hXw hno
    obtain ⟨hk1, hk2, hk3, hk4, hk5, hk6, hk7, hk8, hk9⟩ := id hC
    have hU := hk1.1
    have hN := hk2.1
    have hD := hk4.1
    have hM := hk7.1
    have hQ := hk5.1
    refine Ev.iload_n dX7_best_28 rfl rfl ?_
    refine Ev.if_le (tgt := 80) ⟨by omega, by omega⟩ dX7_best_29 (by decide) (fun h29 => ?_) (fun h29 => ?_)
    · exact absurd h29 (by omega)
    · skip
      refine Ev.iload dX7_best_32 rfl ?_
      refine Ev.bipush (n := 16) (by decide) dX7_best_34 ?_
      refine Ev.icmp_ge (tgt := 80) ⟨by omega, by omega⟩ ⟨by decide, by decide⟩ dX7_best_36 (by decide) (fun h36 => ?_) (fun h36 => ?_)
      · skip
        refine Ev.aload_n dX7_best_80 rfl rfl ?_
        refine Ev.iconst dX7_best_81 ?_
        refine pf_X7_35 rfl dX7_best_82 ltc_0 shc_0 ?_
        refine Ev.mem (τ := upC τ 0 11 (-1)) (rfl) ?_
        refine Ev.bipush (n := -9) (by decide) dX7_best_85 ?_
        exact Ev.ireturn dX7_best_87 rfl (rE (by unfold CP o_best; (repeat rw [Int.toNat_natCast]); rw [ifP_f (by omega), ifP_f (fun z => by first | exact hal z.1 | (have := hn3.mpr z.2; omega)), ifP_f (bst_none hx (fun u hu => hno u (by omega)))]; exact ⟨rfl, hC.unans, (fun c q1 => ((upC_ne (Nat.ne_of_gt (Nat.lt_of_lt_of_le (show 0 < 272 by decide) q1))).trans (hK c q1)))⟩))
      · exact absurd h36 (by omega)
  | succ j ih =>
    intro i hij τ hC hK hXw hno
    obtain ⟨hk1, hk2, hk3, hk4, hk5, hk6, hk7, hk8, hk9⟩ := id hC
    have hU := hk1.1
    have hN := hk2.1
    have hD := hk4.1
    have hM := hk7.1
    have hQ := hk5.1
    have hxl := (hXw kx (by omega)).2.2
    refine Ev.iload_n dX7_best_28 rfl rfl ?_
    refine Ev.if_le (tgt := 80) ⟨by omega, by omega⟩ dX7_best_29 (by decide) (fun h29 => ?_) (fun h29 => ?_)
    · exact absurd h29 (by omega)
    · skip
      refine Ev.iload dX7_best_32 rfl ?_
      refine Ev.bipush (n := 16) (by decide) dX7_best_34 ?_
      refine Ev.icmp_ge (tgt := 80) ⟨by omega, by omega⟩ ⟨by decide, by decide⟩ dX7_best_36 (by decide) (fun h36 => ?_) (fun h36 => ?_)
      · exact absurd h36 (by omega)
      · skip
        refine Ev.iload_n dX7_best_39 rfl rfl ?_
        refine Ev.if_eq (tgt := 51) ⟨by omega, by omega⟩ dX7_best_40 (by decide) (fun h40 => ?_) (fun h40 => ?_)
        · skip
          refine Ev.iload dX7_best_51 rfl ?_
          refine Ev.istore (pl' := [some (vR (0)), some (vI (((kx : Nat) : Int))), some (vI (g_)), some (vI (((n : Nat) : Int))), some (vI (((i : Nat) : Int))), some (vI (((i : Nat) : Int)))]) dX7_best_53 (Nat.le_of_ble_eq_true rfl) rfl ?_
          refine Ev.aload_n dX7_best_55 rfl rfl ?_
          refine Ev.iload_n dX7_best_56 rfl rfl ?_
          refine Ev.iconst dX7_best_57 ?_
          refine Ev.iload dX7_best_58 rfl ?_
          refine Ev.ishl dX7_best_60 ?_
          rw [show (iShl (1) (((i : Nat) : Int))) = ((2 ^ i : Nat) : Int) from shl1 (by omega)]
          refine Ev.callV_G (M2 := mX7_findsAnswerWith) (args2 := [vI (((kx : Nat) : Int)), vI (((2 ^ i : Nat) : Int))]) (rcv := 0) (q := (RX7, TX7, 20)) (ci := 7) dX7_best_61 okX7_findsAnswerWith lk_X7_250 ovX7_findsAnswerWith.1.1 ovX7_findsAnswerWith.1.2 ovX7_findsAnswerWith.2 (by decide) rfl rfl ltc_0 shc_0 rfl (Nat.le_of_ble_eq_true rfl) (Nat.le_of_ble_eq_true rfl) (s7_findsAnswerWith s τ hC hXw (show wys (NX s (sX s)) (sU s) ≤ 20000 by omega) kx (by omega) (((2 ^ i : Nat) : Int)) ((NX s (sX s)) kx &&& 2 ^ i) (iAnd_nat (by omega)) (sub_and _ _)) (fun v_ m_ hp_ => ?_) rfl
          obtain ⟨_, τ2, rfl, rfl, rfl, hF2, hG2⟩ := hp_
          have hS2 := SK2_SC hF2
          have hXw := hXw.same hF2 (by decide)
          have hC := hC.scr hS2 ((congrFun (hF2 263 (by decide)) 0).trans hk9)
          have hK := fun c (h : 272 ≤ c) => (hS2 c (nSC2 h)).trans (hK c h)
          obtain ⟨hk1, hk2, hk3, hk4, hk5, hk6, hk7, hk8, hk9⟩ := id hC
          have hU := hk1.1
          have hN := hk2.1
          have hD := hk4.1
          have hM := hk7.1
          have hQ := hk5.1
          show Ev g mX7_best 64 [some (vR (0)), some (vI (((kx : Nat) : Int))), some (vI (g_)), some (vI (((n : Nat) : Int))), some (vI (((i : Nat) : Int))), some (vI (((i : Nat) : Int)))] [vI (bI (∃ B, isAns (sU s) (sB s) (sS s) (upY (NX s (sX s)) kx ((NX s (sX s)) kx &&& 2 ^ i)) B))] (M0 (τ2)) 0 0 _
          refine Ev.if_eq (tgt := 74) bI_inR dX7_best_64 (by decide) (fun h64 => ?_) (fun h64 => ?_)
          · skip
            have q64 := bI_0.mp h64
            refine Ev.iinc (pl' := [some (vR (0)), some (vI (((kx : Nat) : Int))), some (vI (g_)), some (vI (((n : Nat) : Int))), some (vI (((i : Nat) : Int) + 1)), some (vI (((i : Nat) : Int)))]) dX7_best_74 rfl (Nat.le_of_ble_eq_true rfl) rfl ?_
            refine Ev.goto (tgt := 28) dX7_best_77 (by decide) ?_
            refine Ev.wk (pl' := [some (vR (0)), some (vI (((kx : Nat) : Int))), some (vI (g_)), some (vI (((n : Nat) : Int))), some (vI ((((i + 1) : Nat) : Int))), none]) ⟨rfl, ⟨rfl, ⟨rfl, ⟨rfl, ⟨vIe (by omega), trivial⟩⟩⟩⟩⟩ ?_
            exact ih (i + 1) (by omega) τ2 hC hK hXw (fun u hu => by by_cases e : u = i; (rw [e]; first | (rw [bsv_0 h40]; exact with_no hal hx q64) | (rw [bsv_1 h40]; exact with_no hal hx q64)); (exact hno u (by omega)))
          · skip
            have q64 := bI_1.mp h64
            refine Ev.aload_n dX7_best_67 rfl rfl ?_
            refine Ev.callV_V (M2 := mX7_keepAnswer) (args2 := []) (rcv := 0) (q := (RX7, TX7, 20)) (ci := 7) dX7_best_68 okX7_keepAnswer lk_X7_240 ovX7_keepAnswer.1.1 ovX7_keepAnswer.1.2 ovX7_keepAnswer.2 (by decide) rfl rfl ltc_0 shc_0 rfl (Nat.le_of_ble_eq_true rfl) (Nat.le_of_ble_eq_true rfl) (s7_keepAnswer τ2 (sU s) hU hk1.2.1) ?_ rfl
            refine Ev.iload dX7_best_71 rfl ?_
            exact Ev.ireturn dX7_best_73 rfl (rE (by have hfe := with_ex hal hx q64; have hbe : bstV s kx g_ = i := (bst_is (g := g_) (i := i) (by first | (rw [bsv_0 h40]; exact hfe) | (rw [bsv_1 h40]; exact hfe)) (by omega) hno).trans (by first | exact bsv_0 h40 | exact bsv_1 h40); unfold CP o_best; (repeat rw [Int.toNat_natCast]); rw [ifP_f (by omega), ifP_f (fun z => by first | exact hal z.1 | (have := hn3.mpr z.2; omega)), ifP_t (by obtain ⟨B, z, _⟩ := hfe; exact ⟨B, z⟩)]; exact ⟨(by rw [hbe]), (hC.kept (kept_Q (with_Q hal hx hbe) (fun A hA => ansP_lt hA.1) q64 (hG2 q64))), (fun c q1 => ((upC_ne (Nat.ne_of_gt (Nat.lt_of_lt_of_le (show 0 < 272 by decide) q1))).trans ((cpy_ne (Nat.ne_of_gt (Nat.lt_of_lt_of_le (show 21 < 272 by decide) q1))).trans (hK c q1))))⟩))
        · skip
          refine Ev.bipush (n := 15) (by decide) dX7_best_43 ?_
          refine Ev.iload dX7_best_45 rfl ?_
          refine Ev.isub dX7_best_47 ?_
          rw [show (15 - ((i : Nat) : Int)) = (((15 - i) : Nat) : Int) from by omega]
          refine Ev.goto (tgt := 53) dX7_best_48 (by decide) ?_
          refine Ev.istore (pl' := [some (vR (0)), some (vI (((kx : Nat) : Int))), some (vI (g_)), some (vI (((n : Nat) : Int))), some (vI (((i : Nat) : Int))), some (vI ((((15 - i) : Nat) : Int)))]) dX7_best_53 (Nat.le_of_ble_eq_true rfl) rfl ?_
          refine Ev.aload_n dX7_best_55 rfl rfl ?_
          refine Ev.iload_n dX7_best_56 rfl rfl ?_
          refine Ev.iconst dX7_best_57 ?_
          refine Ev.iload dX7_best_58 rfl ?_
          refine Ev.ishl dX7_best_60 ?_
          rw [show (iShl (1) ((((15 - i) : Nat) : Int))) = ((2 ^ (15 - i) : Nat) : Int) from shl1 (by omega)]
          refine Ev.callV_G (M2 := mX7_findsAnswerWith) (args2 := [vI (((kx : Nat) : Int)), vI (((2 ^ (15 - i) : Nat) : Int))]) (rcv := 0) (q := (RX7, TX7, 20)) (ci := 7) dX7_best_61 okX7_findsAnswerWith lk_X7_250 ovX7_findsAnswerWith.1.1 ovX7_findsAnswerWith.1.2 ovX7_findsAnswerWith.2 (by decide) rfl rfl ltc_0 shc_0 rfl (Nat.le_of_ble_eq_true rfl) (Nat.le_of_ble_eq_true rfl) (s7_findsAnswerWith s τ hC hXw (show wys (NX s (sX s)) (sU s) ≤ 20000 by omega) kx (by omega) (((2 ^ (15 - i) : Nat) : Int)) ((NX s (sX s)) kx &&& 2 ^ (15 - i)) (iAnd_nat (by omega)) (sub_and _ _)) (fun v_ m_ hp_ => ?_) rfl
          obtain ⟨_, τ2, rfl, rfl, rfl, hF2, hG2⟩ := hp_
          have hS2 := SK2_SC hF2
          have hXw := hXw.same hF2 (by decide)
          have hC := hC.scr hS2 ((congrFun (hF2 263 (by decide)) 0).trans hk9)
          have hK := fun c (h : 272 ≤ c) => (hS2 c (nSC2 h)).trans (hK c h)
          obtain ⟨hk1, hk2, hk3, hk4, hk5, hk6, hk7, hk8, hk9⟩ := id hC
          have hU := hk1.1
          have hN := hk2.1
          have hD := hk4.1
          have hM := hk7.1
          have hQ := hk5.1
          show Ev g mX7_best 64 [some (vR (0)), some (vI (((kx : Nat) : Int))), some (vI (g_)), some (vI (((n : Nat) : Int))), some (vI (((i : Nat) : Int))), some (vI ((((15 - i) : Nat) : Int)))] [vI (bI (∃ B, isAns (sU s) (sB s) (sS s) (upY (NX s (sX s)) kx ((NX s (sX s)) kx &&& 2 ^ (15 - i))) B))] (M0 (τ2)) 0 0 _
          refine Ev.if_eq (tgt := 74) bI_inR dX7_best_64 (by decide) (fun h64 => ?_) (fun h64 => ?_)
          · skip
            have q64 := bI_0.mp h64
            refine Ev.iinc (pl' := [some (vR (0)), some (vI (((kx : Nat) : Int))), some (vI (g_)), some (vI (((n : Nat) : Int))), some (vI (((i : Nat) : Int) + 1)), some (vI ((((15 - i) : Nat) : Int)))]) dX7_best_74 rfl (Nat.le_of_ble_eq_true rfl) rfl ?_
            refine Ev.goto (tgt := 28) dX7_best_77 (by decide) ?_
            refine Ev.wk (pl' := [some (vR (0)), some (vI (((kx : Nat) : Int))), some (vI (g_)), some (vI (((n : Nat) : Int))), some (vI ((((i + 1) : Nat) : Int))), none]) ⟨rfl, ⟨rfl, ⟨rfl, ⟨rfl, ⟨vIe (by omega), trivial⟩⟩⟩⟩⟩ ?_
            exact ih (i + 1) (by omega) τ2 hC hK hXw (fun u hu => by by_cases e : u = i; (rw [e]; first | (rw [bsv_0 h40]; exact with_no hal hx q64) | (rw [bsv_1 h40]; exact with_no hal hx q64)); (exact hno u (by omega)))
          · skip
            have q64 := bI_1.mp h64
            refine Ev.aload_n dX7_best_67 rfl rfl ?_
            refine Ev.callV_V (M2 := mX7_keepAnswer) (args2 := []) (rcv := 0) (q := (RX7, TX7, 20)) (ci := 7) dX7_best_68 okX7_keepAnswer lk_X7_240 ovX7_keepAnswer.1.1 ovX7_keepAnswer.1.2 ovX7_keepAnswer.2 (by decide) rfl rfl ltc_0 shc_0 rfl (Nat.le_of_ble_eq_true rfl) (Nat.le_of_ble_eq_true rfl) (s7_keepAnswer τ2 (sU s) hU hk1.2.1) ?_ rfl
            refine Ev.iload dX7_best_71 rfl ?_
            exact Ev.ireturn dX7_best_73 rfl (rE (by have hfe := with_ex hal hx q64; have hbe : bstV s kx g_ = (15 - i) := (bst_is (g := g_) (i := i) (by first | (rw [bsv_0 h40]; exact hfe) | (rw [bsv_1 h40]; exact hfe)) (by omega) hno).trans (by first | exact bsv_0 h40 | exact bsv_1 h40); unfold CP o_best; (repeat rw [Int.toNat_natCast]); rw [ifP_f (by omega), ifP_f (fun z => by first | exact hal z.1 | (have := hn3.mpr z.2; omega)), ifP_t (by obtain ⟨B, z, _⟩ := hfe; exact ⟨B, z⟩)]; exact ⟨(by rw [hbe]), (hC.kept (kept_Q (with_Q hal hx hbe) (fun A hA => ansP_lt hA.1) q64 (hG2 q64))), (fun c q1 => ((upC_ne (Nat.ne_of_gt (Nat.lt_of_lt_of_le (show 0 < 272 by decide) q1))).trans ((cpy_ne (Nat.ne_of_gt (Nat.lt_of_lt_of_le (show 21 < 272 by decide) q1))).trans (hK c q1))))⟩))

set_option maxRecDepth 100000 in
set_option maxHeartbeats 4000000 in
theorem c_best {g : GC} (s : SS) (σ : Sg) (hC : CI s σ) (x : Int) (h_x : inR x) (g_ : Int) (h_g_ : inR g_) : Ev g mX7_best 0 [some (vR (0)), some (vI (x)), some (vI (g_)), none, none, none] [] (M0 (σ)) 0 0 (retE (CP σ (o_best s x g_))) := by
  obtain ⟨hk1, hk2, hk3, hk4, hk5, hk6, hk7, hk8, hk9⟩ := id hC
  have hU := hk1.1
  have hN := hk2.1
  have hD := hk4.1
  have hM := hk7.1
  have hQ := hk5.1
  refine Ev.aload_n dX7_best_0 rfl rfl ?_
  refine Ev.iload_n dX7_best_1 rfl rfl ?_
  refine Ev.callV_I (M2 := mX7_isUnknown) (args2 := [vI (x)]) (rcv := 0) (q := (RX7, TX7, 20)) (ci := 7) dX7_best_2 okX7_isUnknown lk_X7_94 ovX7_isUnknown.1.1 ovX7_isUnknown.1.2 ovX7_isUnknown.2 (by decide) rfl rfl ltc_0 shc_0 rfl (Nat.le_of_ble_eq_true rfl) (Nat.le_of_ble_eq_true rfl) (s7_isUnknown σ (sU s) hU hk1.2.1 (x) ⟨by omega, by omega⟩) ?_ rfl
  refine Ev.if_ne (tgt := 10) bI_inR dX7_best_5 (by decide) (fun h5 => ?_) (fun h5 => ?_)
  · skip
    have q5 := bI_1.mp h5
    obtain ⟨kx, rfl⟩ : ∃ k : Nat, x = (k : Int) := ⟨x.toNat, by omega⟩
    refine Ev.aload_n dX7_best_10 rfl rfl ?_
    refine Ev.callV_G (M2 := mX7_narrowAside) (args2 := []) (rcv := 0) (q := (RX7, TX7, 20)) (ci := 7) dX7_best_11 okX7_narrowAside lk_X7_234 ovX7_narrowAside.1.1 ovX7_narrowAside.1.2 ovX7_narrowAside.2 (by decide) rfl rfl ltc_0 shc_0 rfl (Nat.le_of_ble_eq_true rfl) (Nat.le_of_ble_eq_true rfl) (s7_narrowAside s σ hC) (fun v_ m_ hp_ => ?_) rfl
    obtain ⟨v, τ, rfl, rfl, hS1, hJ1, hvv⟩ := hp_
    have hC := hC.scr hS1 hJ1
    have hK : ∀ c, 272 ≤ c → τ c = σ c := fun c h => hS1 c (nSC2 h)
    obtain ⟨hk1, hk2, hk3, hk4, hk5, hk6, hk7, hk8, hk9⟩ := id hC
    have hU := hk1.1
    have hN := hk2.1
    have hD := hk4.1
    have hM := hk7.1
    have hQ := hk5.1
    rcases hvv with ⟨rfl, hal⟩ | ⟨n, rfl, hn1, hn2, hal, hXw, hn3⟩
    · skip
      show Ev g mX7_best 14 [some (vR (0)), some (vI (((kx : Nat) : Int))), some (vI (g_)), none, none, none] [vI (0)] (M0 (τ)) 0 0 _
      refine Ev.istore_n (pl' := [some (vR (0)), some (vI (((kx : Nat) : Int))), some (vI (g_)), some (vI (0)), none, none]) dX7_best_14 rfl (Nat.le_of_ble_eq_true rfl) rfl ?_
      refine Ev.iload_n dX7_best_15 rfl rfl ?_
      refine Ev.sipush (n := 20000) (by decide) dX7_best_16 ?_
      refine Ev.icmp_le (tgt := 25) ⟨by decide, by decide⟩ ⟨by decide, by decide⟩ dX7_best_19 (by decide) (fun h19 => ?_) (fun h19 => ?_)
      · skip
        refine Ev.iconst dX7_best_25 ?_
        refine Ev.istore (pl' := [some (vR (0)), some (vI (((kx : Nat) : Int))), some (vI (g_)), some (vI (0)), some (vI (0)), none]) dX7_best_26 (Nat.le_of_ble_eq_true rfl) rfl ?_
        refine Ev.iload_n dX7_best_28 rfl rfl ?_
        refine Ev.if_le (tgt := 80) ⟨by decide, by decide⟩ dX7_best_29 (by decide) (fun h29 => ?_) (fun h29 => ?_)
        · skip
          refine Ev.aload_n dX7_best_80 rfl rfl ?_
          refine Ev.iconst dX7_best_81 ?_
          refine pf_X7_35 rfl dX7_best_82 ltc_0 shc_0 ?_
          refine Ev.mem (τ := upC τ 0 11 (-1)) (rfl) ?_
          refine Ev.bipush (n := -9) (by decide) dX7_best_85 ?_
          exact Ev.ireturn dX7_best_87 rfl (rE (by unfold CP o_best; (repeat rw [Int.toNat_natCast]); rw [ifP_f (by omega), ifP_f (fun z => by first | exact hal z.1 | (have := hn3.mpr z.2; omega)), ifP_f (ansP_no hal)]; exact ⟨rfl, hC.unans, (fun c q1 => ((upC_ne (Nat.ne_of_gt (Nat.lt_of_lt_of_le (show 0 < 272 by decide) q1))).trans (hK c q1)))⟩))
        · exact absurd h29 (by omega)
      · exact absurd h19 (by omega)
    · skip
      show Ev g mX7_best 14 [some (vR (0)), some (vI (((kx : Nat) : Int))), some (vI (g_)), none, none, none] [vI (((n : Nat) : Int))] (M0 (τ)) 0 0 _
      refine Ev.istore_n (pl' := [some (vR (0)), some (vI (((kx : Nat) : Int))), some (vI (g_)), some (vI (((n : Nat) : Int))), none, none]) dX7_best_14 rfl (Nat.le_of_ble_eq_true rfl) rfl ?_
      refine Ev.iload_n dX7_best_15 rfl rfl ?_
      refine Ev.sipush (n := 20000) (by decide) dX7_best_16 ?_
      refine Ev.icmp_le (tgt := 25) ⟨by omega, by omega⟩ ⟨by decide, by decide⟩ dX7_best_19 (by decide) (fun h19 => ?_) (fun h19 => ?_)
      · skip
        refine Ev.iconst dX7_best_25 ?_
        refine Ev.istore (pl' := [some (vR (0)), some (vI (((kx : Nat) : Int))), some (vI (g_)), some (vI (((n : Nat) : Int))), some (vI (0)), none]) dX7_best_26 (Nat.le_of_ble_eq_true rfl) rfl ?_
        refine Ev.wk (pl' := [some (vR (0)), some (vI (((kx : Nat) : Int))), some (vI (g_)), some (vI (((n : Nat) : Int))), some (vI (((0 : Nat) : Int))), none]) ⟨rfl, ⟨rfl, ⟨rfl, ⟨rfl, ⟨vIe rfl, trivial⟩⟩⟩⟩⟩ ?_
        exact c_best_l s σ n hn1 hn2 hal hn3 (by omega) kx (by omega) g_ h_g_ 16 0 (by omega) τ hC hK hXw (fun u hu => absurd hu (by omega))
      · skip
        refine Ev.bipush (n := -5) (by decide) dX7_best_22 ?_
        exact Ev.ireturn dX7_best_24 rfl (rE (by unfold CP o_best; (repeat rw [Int.toNat_natCast]); rw [ifP_f (by omega), ifP_t ⟨hal, hn3.mp (by omega)⟩]; exact ⟨rfl, hC, hK⟩))
  · skip
    have q5 := bI_0.mp h5
    refine Ev.iconst dX7_best_8 ?_
    exact Ev.ireturn dX7_best_9 rfl (rE (by unfold CP o_best; (repeat rw [Int.toNat_natCast]); rw [ifP_t (by omega)]; exact ⟨rfl, hC, (fun _ _ => rfl)⟩))

set_option maxRecDepth 100000 in
set_option maxHeartbeats 4000000 in
theorem c_has {g : GC} (s : SS) (σ : Sg) (hC : CI s σ) (x : Int) (h_x : inR x) (k : Int) (h_k : inR k) (v : Int) (h_v : inR v) : Ev g mX7_has 0 [some (vR (0)), some (vI (x)), some (vI (k)), some (vI (v)), none, none, none, none] [] (M0 (σ)) 0 0 (retE (CP σ (o_has s x k v))) := by
  obtain ⟨hk1, hk2, hk3, hk4, hk5, hk6, hk7, hk8, hk9⟩ := id hC
  have hU := hk1.1
  have hN := hk2.1
  have hD := hk4.1
  have hM := hk7.1
  have hQ := hk5.1
  refine Ev.aload_n dX7_has_0 rfl rfl ?_
  refine Ev.iload_n dX7_has_1 rfl rfl ?_
  refine Ev.callV_I (M2 := mX7_isUnknown) (args2 := [vI (x)]) (rcv := 0) (q := (RX7, TX7, 20)) (ci := 7) dX7_has_2 okX7_isUnknown lk_X7_94 ovX7_isUnknown.1.1 ovX7_isUnknown.1.2 ovX7_isUnknown.2 (by decide) rfl rfl ltc_0 shc_0 rfl (Nat.le_of_ble_eq_true rfl) (Nat.le_of_ble_eq_true rfl) (s7_isUnknown σ (sU s) hU hk1.2.1 (x) ⟨by omega, by omega⟩) ?_ rfl
  refine Ev.if_ne (tgt := 10) bI_inR dX7_has_5 (by decide) (fun h5 => ?_) (fun h5 => ?_)
  · skip
    have q5 := bI_1.mp h5
    obtain ⟨kx, rfl⟩ : ∃ k : Nat, x = (k : Int) := ⟨x.toNat, by omega⟩
    refine Ev.iload_n dX7_has_10 rfl rfl ?_
    refine Ev.iload_n dX7_has_11 rfl rfl ?_
    refine Ev.callS_I (M2 := mX7_isLiteral) (args2 := [vI (k), vI (v)]) dX7_has_12 okX7_isLiteral lk_X7_143 osX7_isLiteral.1 osX7_isLiteral.2 (by decide) rfl (Nat.le_of_ble_eq_true rfl) (Nat.le_of_ble_eq_true rfl) (s7_isLiteral σ (k) (v) ⟨by omega, by omega⟩ ⟨by omega, by omega⟩) ?_ rfl
    refine Ev.if_ne (tgt := 21) bI_inR dX7_has_15 (by decide) (fun h15 => ?_) (fun h15 => ?_)
    · skip
      have q15 := bI_1.mp h15
      obtain ⟨kv, rfl⟩ : ∃ k : Nat, v = (k : Int) := ⟨v.toNat, by omega⟩
      have hnl : nS k kv < 65536 := nS_lt (by omega)
      refine Ev.aload_n dX7_has_21 rfl rfl ?_
      refine Ev.callV_G (M2 := mX7_narrowAside) (args2 := []) (rcv := 0) (q := (RX7, TX7, 20)) (ci := 7) dX7_has_22 okX7_narrowAside lk_X7_234 ovX7_narrowAside.1.1 ovX7_narrowAside.1.2 ovX7_narrowAside.2 (by decide) rfl rfl ltc_0 shc_0 rfl (Nat.le_of_ble_eq_true rfl) (Nat.le_of_ble_eq_true rfl) (s7_narrowAside s σ hC) (fun v_ m_ hp_ => ?_) rfl
      obtain ⟨v, τ, rfl, rfl, hS1, hJ1, hvv⟩ := hp_
      have hC := hC.scr hS1 hJ1
      have hK : ∀ c, 272 ≤ c → τ c = σ c := fun c h => hS1 c (nSC2 h)
      obtain ⟨hk1, hk2, hk3, hk4, hk5, hk6, hk7, hk8, hk9⟩ := id hC
      have hU := hk1.1
      have hN := hk2.1
      have hD := hk4.1
      have hM := hk7.1
      have hQ := hk5.1
      rcases hvv with ⟨rfl, hal⟩ | ⟨n, rfl, hn1, hn2, hal, hXw, hn3⟩
      · skip
        show Ev g mX7_has 25 [some (vR (0)), some (vI (((kx : Nat) : Int))), some (vI (k)), some (vI (((kv : Nat) : Int))), none, none, none, none] [vI (0)] (M0 (τ)) 0 0 _
        refine Ev.istore (pl' := [some (vR (0)), some (vI (((kx : Nat) : Int))), some (vI (k)), some (vI (((kv : Nat) : Int))), some (vI (0)), none, none, none]) dX7_has_25 (Nat.le_of_ble_eq_true rfl) rfl ?_
        refine Ev.iload dX7_has_27 rfl ?_
        refine Ev.sipush (n := 20000) (by decide) dX7_has_29 ?_
        refine Ev.icmp_le (tgt := 38) ⟨by decide, by decide⟩ ⟨by decide, by decide⟩ dX7_has_32 (by decide) (fun h32 => ?_) (fun h32 => ?_)
        · skip
          refine Ev.iload_n dX7_has_38 rfl rfl ?_
          refine Ev.iload_n dX7_has_39 rfl rfl ?_
          refine Ev.callS_I (M2 := mX7_numbersSo) (args2 := [vI (k), vI (((kv : Nat) : Int))]) dX7_has_40 okX7_numbersSo lk_X7_147 osX7_numbersSo.1 osX7_numbersSo.2 (by decide) rfl (Nat.le_of_ble_eq_true rfl) (Nat.le_of_ble_eq_true rfl) (s7_numbersSo τ (k) kv (by omega) (by omega)) ?_ rfl
          refine Ev.istore (pl' := [some (vR (0)), some (vI (((kx : Nat) : Int))), some (vI (k)), some (vI (((kv : Nat) : Int))), some (vI (0)), some (vI (((nS (k) kv : Nat) : Int))), none, none]) dX7_has_43 (Nat.le_of_ble_eq_true rfl) rfl ?_
          refine Ev.iload dX7_has_45 rfl ?_
          refine Ev.if_le (tgt := 64) ⟨by decide, by decide⟩ dX7_has_47 (by decide) (fun h47 => ?_) (fun h47 => ?_)
          · skip
            refine Ev.iconst dX7_has_64 ?_
            refine Ev.istore (pl' := [some (vR (0)), some (vI (((kx : Nat) : Int))), some (vI (k)), some (vI (((kv : Nat) : Int))), some (vI (0)), some (vI (((nS (k) kv : Nat) : Int))), some (vI (0)), none]) dX7_has_65 (Nat.le_of_ble_eq_true rfl) rfl ?_
            refine Ev.iload dX7_has_67 rfl ?_
            refine Ev.if_le (tgt := 88) ⟨by decide, by decide⟩ dX7_has_69 (by decide) (fun h69 => ?_) (fun h69 => ?_)
            · skip
              refine Ev.iconst dX7_has_88 ?_
              refine Ev.istore (pl' := [some (vR (0)), some (vI (((kx : Nat) : Int))), some (vI (k)), some (vI (((kv : Nat) : Int))), some (vI (0)), some (vI (((nS (k) kv : Nat) : Int))), some (vI (0)), some (vI (0))]) dX7_has_89 (Nat.le_of_ble_eq_true rfl) rfl ?_
              refine Ev.iload dX7_has_91 rfl ?_
              refine Ev.if_eq (tgt := 107) ⟨by decide, by decide⟩ dX7_has_93 (by decide) (fun h93 => ?_) (fun h93 => ?_)
              · skip
                refine Ev.iload dX7_has_107 rfl ?_
                refine Ev.if_eq (tgt := 116) ⟨by decide, by decide⟩ dX7_has_109 (by decide) (fun h109 => ?_) (fun h109 => ?_)
                · skip
                  refine Ev.iconst dX7_has_116 ?_
                  exact Ev.ireturn dX7_has_117 rfl (rE (by unfold CP o_has; (repeat rw [Int.toNat_natCast]); rw [ifP_f (by omega), ifP_f (by omega), ifP_f (fun z => by first | exact hal z.1 | (have := hn3.mpr z.2; omega))]; exact ⟨(by show _ = ifP _ _ _; rw [ifP_f (fun ⟨B, z, _⟩ => hal z.1)]; rw [ifP_f (fun ⟨B, z, _⟩ => hal z.1)]), hC, hK⟩))
                · exact absurd h109 (by decide)
              · exact absurd h93 (by decide)
            · exact absurd h69 (by omega)
          · exact absurd h47 (by omega)
        · exact absurd h32 (by omega)
      · skip
        show Ev g mX7_has 25 [some (vR (0)), some (vI (((kx : Nat) : Int))), some (vI (k)), some (vI (((kv : Nat) : Int))), none, none, none, none] [vI (((n : Nat) : Int))] (M0 (τ)) 0 0 _
        refine Ev.istore (pl' := [some (vR (0)), some (vI (((kx : Nat) : Int))), some (vI (k)), some (vI (((kv : Nat) : Int))), some (vI (((n : Nat) : Int))), none, none, none]) dX7_has_25 (Nat.le_of_ble_eq_true rfl) rfl ?_
        refine Ev.iload dX7_has_27 rfl ?_
        refine Ev.sipush (n := 20000) (by decide) dX7_has_29 ?_
        refine Ev.icmp_le (tgt := 38) ⟨by omega, by omega⟩ ⟨by decide, by decide⟩ dX7_has_32 (by decide) (fun h32 => ?_) (fun h32 => ?_)
        · skip
          have hxl : NX s (sX s) kx < 65536 := by first | exact (hXw kx (by omega)).2.2 | exact absurd hal (by assumption)
          refine Ev.iload_n dX7_has_38 rfl rfl ?_
          refine Ev.iload_n dX7_has_39 rfl rfl ?_
          refine Ev.callS_I (M2 := mX7_numbersSo) (args2 := [vI (k), vI (((kv : Nat) : Int))]) dX7_has_40 okX7_numbersSo lk_X7_147 osX7_numbersSo.1 osX7_numbersSo.2 (by decide) rfl (Nat.le_of_ble_eq_true rfl) (Nat.le_of_ble_eq_true rfl) (s7_numbersSo τ (k) kv (by omega) (by omega)) ?_ rfl
          refine Ev.istore (pl' := [some (vR (0)), some (vI (((kx : Nat) : Int))), some (vI (k)), some (vI (((kv : Nat) : Int))), some (vI (((n : Nat) : Int))), some (vI (((nS (k) kv : Nat) : Int))), none, none]) dX7_has_43 (Nat.le_of_ble_eq_true rfl) rfl ?_
          refine Ev.iload dX7_has_45 rfl ?_
          refine Ev.if_le (tgt := 64) ⟨by omega, by omega⟩ dX7_has_47 (by decide) (fun h47 => ?_) (fun h47 => ?_)
          · exact absurd h47 (by omega)
          · skip
            refine Ev.aload_n dX7_has_50 rfl rfl ?_
            refine Ev.iload_n dX7_has_51 rfl rfl ?_
            refine Ev.iload dX7_has_52 rfl ?_
            refine Ev.callV_G (M2 := mX7_findsAnswerWith) (args2 := [vI (((kx : Nat) : Int)), vI (((nS (k) kv : Nat) : Int))]) (rcv := 0) (q := (RX7, TX7, 20)) (ci := 7) dX7_has_54 okX7_findsAnswerWith lk_X7_250 ovX7_findsAnswerWith.1.1 ovX7_findsAnswerWith.1.2 ovX7_findsAnswerWith.2 (by decide) rfl rfl ltc_0 shc_0 rfl (Nat.le_of_ble_eq_true rfl) (Nat.le_of_ble_eq_true rfl) (s7_findsAnswerWith s τ hC hXw (show wys (NX s (sX s)) (sU s) ≤ 20000 by omega) kx (by omega) (((nS (k) kv : Nat) : Int)) ((NX s (sX s)) kx &&& nS k kv) (iAnd_nat (by omega)) (sub_and _ _)) (fun v_ m_ hp_ => ?_) rfl
            obtain ⟨_, τ2, rfl, rfl, rfl, hF2, hG2⟩ := hp_
            have hS2 := SK2_SC hF2
            have hXw := hXw.same hF2 (by decide)
            have hC := hC.scr hS2 ((congrFun (hF2 263 (by decide)) 0).trans hk9)
            have hK := fun c (h : 272 ≤ c) => (hS2 c (nSC2 h)).trans (hK c h)
            obtain ⟨hk1, hk2, hk3, hk4, hk5, hk6, hk7, hk8, hk9⟩ := id hC
            have hU := hk1.1
            have hN := hk2.1
            have hD := hk4.1
            have hM := hk7.1
            have hQ := hk5.1
            show Ev g mX7_has 57 [some (vR (0)), some (vI (((kx : Nat) : Int))), some (vI (k)), some (vI (((kv : Nat) : Int))), some (vI (((n : Nat) : Int))), some (vI (((nS (k) kv : Nat) : Int))), none, none] [vI (bI (∃ B, isAns (sU s) (sB s) (sS s) (upY (NX s (sX s)) kx ((NX s (sX s)) kx &&& nS k kv)) B))] (M0 (τ2)) 0 0 _
            refine Ev.if_eq (tgt := 64) bI_inR dX7_has_57 (by decide) (fun h57 => ?_) (fun h57 => ?_)
            · skip
              have q57 := bI_0.mp h57
              refine Ev.iconst dX7_has_64 ?_
              refine Ev.istore (pl' := [some (vR (0)), some (vI (((kx : Nat) : Int))), some (vI (k)), some (vI (((kv : Nat) : Int))), some (vI (((n : Nat) : Int))), some (vI (((nS (k) kv : Nat) : Int))), some (vI (0)), none]) dX7_has_65 (Nat.le_of_ble_eq_true rfl) rfl ?_
              refine Ev.iload dX7_has_67 rfl ?_
              refine Ev.if_le (tgt := 88) ⟨by omega, by omega⟩ dX7_has_69 (by decide) (fun h69 => ?_) (fun h69 => ?_)
              · exact absurd h69 (by omega)
              · skip
                refine Ev.aload_n dX7_has_72 rfl rfl ?_
                refine Ev.iload_n dX7_has_73 rfl rfl ?_
                refine Ev.iload dX7_has_74 rfl ?_
                refine Ev.iconst dX7_has_76 ?_
                refine Ev.ixor dX7_has_77 ?_
                rw [show (iXor (((nS (k) kv : Nat) : Int)) (-1)) = (-((nS k kv : Nat) : Int) - 1) from iXor_m1 (by omega)]
                refine Ev.callV_G (M2 := mX7_findsAnswerWith) (args2 := [vI (((kx : Nat) : Int)), vI ((-((nS k kv : Nat) : Int) - 1))]) (rcv := 0) (q := (RX7, TX7, 20)) (ci := 7) dX7_has_78 okX7_findsAnswerWith lk_X7_250 ovX7_findsAnswerWith.1.1 ovX7_findsAnswerWith.1.2 ovX7_findsAnswerWith.2 (by decide) rfl rfl ltc_0 shc_0 rfl (Nat.le_of_ble_eq_true rfl) (Nat.le_of_ble_eq_true rfl) (s7_findsAnswerWith s τ2 hC hXw (show wys (NX s (sX s)) (sU s) ≤ 20000 by omega) kx (by omega) ((-((nS k kv : Nat) : Int) - 1)) (andN ((NX s (sX s)) kx) (nS k kv)) (iAnd_not (by omega)) (sub_andN _ _)) (fun v_ m_ hp_ => ?_) rfl
                obtain ⟨_, τ3, rfl, rfl, rfl, hF2, hG2⟩ := hp_
                have hS2 := SK2_SC hF2
                have hXw := hXw.same hF2 (by decide)
                have hC := hC.scr hS2 ((congrFun (hF2 263 (by decide)) 0).trans hk9)
                have hK := fun c (h : 272 ≤ c) => (hS2 c (nSC2 h)).trans (hK c h)
                obtain ⟨hk1, hk2, hk3, hk4, hk5, hk6, hk7, hk8, hk9⟩ := id hC
                have hU := hk1.1
                have hN := hk2.1
                have hD := hk4.1
                have hM := hk7.1
                have hQ := hk5.1
                show Ev g mX7_has 81 [some (vR (0)), some (vI (((kx : Nat) : Int))), some (vI (k)), some (vI (((kv : Nat) : Int))), some (vI (((n : Nat) : Int))), some (vI (((nS (k) kv : Nat) : Int))), some (vI (0)), none] [vI (bI (∃ B, isAns (sU s) (sB s) (sS s) (upY (NX s (sX s)) kx (andN ((NX s (sX s)) kx) (nS k kv))) B))] (M0 (τ3)) 0 0 _
                refine Ev.if_eq (tgt := 88) bI_inR dX7_has_81 (by decide) (fun h81 => ?_) (fun h81 => ?_)
                · skip
                  have q81 := bI_0.mp h81
                  refine Ev.iconst dX7_has_88 ?_
                  refine Ev.istore (pl' := [some (vR (0)), some (vI (((kx : Nat) : Int))), some (vI (k)), some (vI (((kv : Nat) : Int))), some (vI (((n : Nat) : Int))), some (vI (((nS (k) kv : Nat) : Int))), some (vI (0)), some (vI (0))]) dX7_has_89 (Nat.le_of_ble_eq_true rfl) rfl ?_
                  refine Ev.iload dX7_has_91 rfl ?_
                  refine Ev.if_eq (tgt := 107) ⟨by decide, by decide⟩ dX7_has_93 (by decide) (fun h93 => ?_) (fun h93 => ?_)
                  · skip
                    refine Ev.iload dX7_has_107 rfl ?_
                    refine Ev.if_eq (tgt := 116) ⟨by decide, by decide⟩ dX7_has_109 (by decide) (fun h109 => ?_) (fun h109 => ?_)
                    · skip
                      refine Ev.iconst dX7_has_116 ?_
                      exact Ev.ireturn dX7_has_117 rfl (rE (by unfold CP o_has; (repeat rw [Int.toNat_natCast]); rw [ifP_f (by omega), ifP_f (by omega), ifP_f (fun z => by first | exact hal z.1 | (have := hn3.mpr z.2; omega))]; exact ⟨(by show _ = ifP _ _ _; rw [ifP_f (fun z => q57 ((so_iff hal (by omega)).mpr z))]; rw [ifP_f (fun z => q81 ((nso_iff hal (by omega)).mpr z))]), hC, hK⟩))
                    · exact absurd h109 (by decide)
                  · exact absurd h93 (by decide)
                · skip
                  have q81 := bI_1.mp h81
                  refine Ev.iconst dX7_has_84 ?_
                  refine Ev.goto (tgt := 89) dX7_has_85 (by decide) ?_
                  refine Ev.istore (pl' := [some (vR (0)), some (vI (((kx : Nat) : Int))), some (vI (k)), some (vI (((kv : Nat) : Int))), some (vI (((n : Nat) : Int))), some (vI (((nS (k) kv : Nat) : Int))), some (vI (0)), some (vI (1))]) dX7_has_89 (Nat.le_of_ble_eq_true rfl) rfl ?_
                  refine Ev.iload dX7_has_91 rfl ?_
                  refine Ev.if_eq (tgt := 107) ⟨by decide, by decide⟩ dX7_has_93 (by decide) (fun h93 => ?_) (fun h93 => ?_)
                  · skip
                    refine Ev.iload dX7_has_107 rfl ?_
                    refine Ev.if_eq (tgt := 116) ⟨by decide, by decide⟩ dX7_has_109 (by decide) (fun h109 => ?_) (fun h109 => ?_)
                    · exact absurd h109 (by decide)
                    · skip
                      refine Ev.iconst dX7_has_112 ?_
                      refine Ev.goto (tgt := 117) dX7_has_113 (by decide) ?_
                      exact Ev.ireturn dX7_has_117 rfl (rE (by unfold CP o_has; (repeat rw [Int.toNat_natCast]); rw [ifP_f (by omega), ifP_f (by omega), ifP_f (fun z => by first | exact hal z.1 | (have := hn3.mpr z.2; omega))]; exact ⟨(by show _ = ifP _ _ _; rw [ifP_f (fun z => q57 ((so_iff hal (by omega)).mpr z))]; rw [ifP_t ((nso_iff hal (by omega)).mp q81)]), hC, hK⟩))
                  · exact absurd h93 (by decide)
            · skip
              have q57 := bI_1.mp h57
              refine Ev.iconst dX7_has_60 ?_
              refine Ev.goto (tgt := 65) dX7_has_61 (by decide) ?_
              refine Ev.istore (pl' := [some (vR (0)), some (vI (((kx : Nat) : Int))), some (vI (k)), some (vI (((kv : Nat) : Int))), some (vI (((n : Nat) : Int))), some (vI (((nS (k) kv : Nat) : Int))), some (vI (1)), none]) dX7_has_65 (Nat.le_of_ble_eq_true rfl) rfl ?_
              refine Ev.iload dX7_has_67 rfl ?_
              refine Ev.if_le (tgt := 88) ⟨by omega, by omega⟩ dX7_has_69 (by decide) (fun h69 => ?_) (fun h69 => ?_)
              · exact absurd h69 (by omega)
              · skip
                refine Ev.aload_n dX7_has_72 rfl rfl ?_
                refine Ev.iload_n dX7_has_73 rfl rfl ?_
                refine Ev.iload dX7_has_74 rfl ?_
                refine Ev.iconst dX7_has_76 ?_
                refine Ev.ixor dX7_has_77 ?_
                rw [show (iXor (((nS (k) kv : Nat) : Int)) (-1)) = (-((nS k kv : Nat) : Int) - 1) from iXor_m1 (by omega)]
                refine Ev.callV_G (M2 := mX7_findsAnswerWith) (args2 := [vI (((kx : Nat) : Int)), vI ((-((nS k kv : Nat) : Int) - 1))]) (rcv := 0) (q := (RX7, TX7, 20)) (ci := 7) dX7_has_78 okX7_findsAnswerWith lk_X7_250 ovX7_findsAnswerWith.1.1 ovX7_findsAnswerWith.1.2 ovX7_findsAnswerWith.2 (by decide) rfl rfl ltc_0 shc_0 rfl (Nat.le_of_ble_eq_true rfl) (Nat.le_of_ble_eq_true rfl) (s7_findsAnswerWith s τ2 hC hXw (show wys (NX s (sX s)) (sU s) ≤ 20000 by omega) kx (by omega) ((-((nS k kv : Nat) : Int) - 1)) (andN ((NX s (sX s)) kx) (nS k kv)) (iAnd_not (by omega)) (sub_andN _ _)) (fun v_ m_ hp_ => ?_) rfl
                obtain ⟨_, τ3, rfl, rfl, rfl, hF2, hG2⟩ := hp_
                have hS2 := SK2_SC hF2
                have hXw := hXw.same hF2 (by decide)
                have hC := hC.scr hS2 ((congrFun (hF2 263 (by decide)) 0).trans hk9)
                have hK := fun c (h : 272 ≤ c) => (hS2 c (nSC2 h)).trans (hK c h)
                obtain ⟨hk1, hk2, hk3, hk4, hk5, hk6, hk7, hk8, hk9⟩ := id hC
                have hU := hk1.1
                have hN := hk2.1
                have hD := hk4.1
                have hM := hk7.1
                have hQ := hk5.1
                show Ev g mX7_has 81 [some (vR (0)), some (vI (((kx : Nat) : Int))), some (vI (k)), some (vI (((kv : Nat) : Int))), some (vI (((n : Nat) : Int))), some (vI (((nS (k) kv : Nat) : Int))), some (vI (1)), none] [vI (bI (∃ B, isAns (sU s) (sB s) (sS s) (upY (NX s (sX s)) kx (andN ((NX s (sX s)) kx) (nS k kv))) B))] (M0 (τ3)) 0 0 _
                refine Ev.if_eq (tgt := 88) bI_inR dX7_has_81 (by decide) (fun h81 => ?_) (fun h81 => ?_)
                · skip
                  have q81 := bI_0.mp h81
                  refine Ev.iconst dX7_has_88 ?_
                  refine Ev.istore (pl' := [some (vR (0)), some (vI (((kx : Nat) : Int))), some (vI (k)), some (vI (((kv : Nat) : Int))), some (vI (((n : Nat) : Int))), some (vI (((nS (k) kv : Nat) : Int))), some (vI (1)), some (vI (0))]) dX7_has_89 (Nat.le_of_ble_eq_true rfl) rfl ?_
                  refine Ev.iload dX7_has_91 rfl ?_
                  refine Ev.if_eq (tgt := 107) ⟨by decide, by decide⟩ dX7_has_93 (by decide) (fun h93 => ?_) (fun h93 => ?_)
                  · exact absurd h93 (by decide)
                  · skip
                    refine Ev.iload dX7_has_96 rfl ?_
                    refine Ev.if_eq (tgt := 105) ⟨by decide, by decide⟩ dX7_has_98 (by decide) (fun h98 => ?_) (fun h98 => ?_)
                    · skip
                      refine Ev.iconst dX7_has_105 ?_
                      exact Ev.ireturn dX7_has_106 rfl (rE (by unfold CP o_has; (repeat rw [Int.toNat_natCast]); rw [ifP_f (by omega), ifP_f (by omega), ifP_f (fun z => by first | exact hal z.1 | (have := hn3.mpr z.2; omega))]; exact ⟨(by show _ = ifP _ _ _; rw [ifP_t ((so_iff hal (by omega)).mp q57)]; rw [ifP_f (fun z => q81 ((nso_iff hal (by omega)).mpr z))]), hC, hK⟩))
                    · exact absurd h98 (by decide)
                · skip
                  have q81 := bI_1.mp h81
                  refine Ev.iconst dX7_has_84 ?_
                  refine Ev.goto (tgt := 89) dX7_has_85 (by decide) ?_
                  refine Ev.istore (pl' := [some (vR (0)), some (vI (((kx : Nat) : Int))), some (vI (k)), some (vI (((kv : Nat) : Int))), some (vI (((n : Nat) : Int))), some (vI (((nS (k) kv : Nat) : Int))), some (vI (1)), some (vI (1))]) dX7_has_89 (Nat.le_of_ble_eq_true rfl) rfl ?_
                  refine Ev.iload dX7_has_91 rfl ?_
                  refine Ev.if_eq (tgt := 107) ⟨by decide, by decide⟩ dX7_has_93 (by decide) (fun h93 => ?_) (fun h93 => ?_)
                  · exact absurd h93 (by decide)
                  · skip
                    refine Ev.iload dX7_has_96 rfl ?_
                    refine Ev.if_eq (tgt := 105) ⟨by decide, by decide⟩ dX7_has_98 (by decide) (fun h98 => ?_) (fun h98 => ?_)
                    · exact absurd h98 (by decide)
                    · skip
                      refine Ev.iconst dX7_has_101 ?_
                      refine Ev.goto (tgt := 106) dX7_has_102 (by decide) ?_
                      exact Ev.ireturn dX7_has_106 rfl (rE (by unfold CP o_has; (repeat rw [Int.toNat_natCast]); rw [ifP_f (by omega), ifP_f (by omega), ifP_f (fun z => by first | exact hal z.1 | (have := hn3.mpr z.2; omega))]; exact ⟨(by show _ = ifP _ _ _; rw [ifP_t ((so_iff hal (by omega)).mp q57)]; rw [ifP_t ((nso_iff hal (by omega)).mp q81)]), hC, hK⟩))
        · skip
          refine Ev.bipush (n := -5) (by decide) dX7_has_35 ?_
          exact Ev.ireturn dX7_has_37 rfl (rE (by unfold CP o_has; (repeat rw [Int.toNat_natCast]); rw [ifP_f (by omega), ifP_f (by omega), ifP_t ⟨hal, hn3.mp (by omega)⟩]; exact ⟨rfl, hC, hK⟩))
    · skip
      have q15 := bI_0.mp h15
      refine Ev.bipush (n := -2) (by decide) dX7_has_18 ?_
      exact Ev.ireturn dX7_has_20 rfl (rE (by unfold CP o_has; (repeat rw [Int.toNat_natCast]); rw [ifP_f (by omega), ifP_t (by omega)]; exact ⟨rfl, hC, (fun _ _ => rfl)⟩))
  · skip
    have q5 := bI_0.mp h5
    refine Ev.iconst dX7_has_8 ?_
    exact Ev.ireturn dX7_has_9 rfl (rE (by unfold CP o_has; (repeat rw [Int.toNat_natCast]); rw [ifP_t (by omega)]; exact ⟨rfl, hC, (fun _ _ => rfl)⟩))

set_option maxRecDepth 100000 in
set_option maxHeartbeats 4000000 in
theorem c_next_l {g : GC} (s : SS) (σ : Sg) (n : Nat) (hn1 : 1 ≤ n) (hn2 : n ≤ 320000) (hal : AL s (sX s)) (hn3 : 20000 < n ↔ 20000 < wys (NX s (sX s)) (sU s)) (hnn : n ≤ 20000) (hsa : sA s = (sU s : Int)) : ∀ j K : Nat, K + j = sU s → ∀ τ : Sg, CI s τ → (∀ c, 272 ≤ c → τ c = σ c) → AV τ 24 (sU s) (NX s (sX s)) → (∀ z, sU s - K ≤ z → z < sU s → ¬ ∃ B, ansP s (sX s) B ∧ (∀ y, y < z → B y = sV s y) ∧ sV s z < B z) → Ev g mX7_next 42 [some (vR (0)), none, some (vI ((sU s : Int) - 1 - ((K : Nat) : Int)))] [] (M0 (τ)) 0 0 (retE (CP σ (o_next s))) := by
  intro j
  induction j with
  | zero =>
    intro K hij τ hC hK hXw hno
    obtain ⟨hk1, hk2, hk3, hk4, hk5, hk6, hk7, hk8, hk9⟩ := id hC
    have hU := hk1.1
    have hN := hk2.1
    have hD := hk4.1
    have hM := hk7.1
    have hQ := hk5.1
    have hA21 : ∀ y, y < sU s → τ 21 y = (sV s y : Int) ∧ sV s y < 16 := fun y hy => hk6.2.2 y (by omega)
    have hV : lt16 (sU s) (sV s) := fun y hy => (hA21 y hy).2
    refine Ev.iload_n dX7_next_42 rfl rfl ?_
    refine Ev.if_lt (tgt := 66) ⟨by omega, by omega⟩ dX7_next_43 (by decide) (fun h43 => ?_) (fun h43 => ?_)
    · skip
      refine Ev.iconst dX7_next_66 ?_
      exact Ev.ireturn dX7_next_67 rfl (rE (by unfold CP o_next; (repeat rw [Int.toNat_natCast]); rw [ifP_f (by omega), ifP_f (fun z => by first | exact hal z.1 | (have := hn3.mpr z.2; omega)), ifP_f (nx_no (P := ansP s (sX s)) (fun B hB => ansP_lt hB) hV (fun z hz => hno z (by omega) hz))]; exact ⟨rfl, hC, hK⟩))
    · exact absurd h43 (by omega)
  | succ j ih =>
    intro K hij τ hC hK hXw hno
    obtain ⟨hk1, hk2, hk3, hk4, hk5, hk6, hk7, hk8, hk9⟩ := id hC
    have hU := hk1.1
    have hN := hk2.1
    have hD := hk4.1
    have hM := hk7.1
    have hQ := hk5.1
    have hA21 : ∀ y, y < sU s → τ 21 y = (sV s y : Int) ∧ sV s y < 16 := fun y hy => hk6.2.2 y (by omega)
    have hV : lt16 (sU s) (sV s) := fun y hy => (hA21 y hy).2
    refine Ev.iload_n dX7_next_42 rfl rfl ?_
    refine Ev.if_lt (tgt := 66) ⟨by omega, by omega⟩ dX7_next_43 (by decide) (fun h43 => ?_) (fun h43 => ?_)
    · exact absurd h43 (by omega)
    · skip
      obtain ⟨x, hx⟩ : ∃ x : Nat, (x : Int) = (sU s : Int) - 1 - (K : Int) := ⟨sU s - 1 - K, by omega⟩
      refine Ev.wk (pl' := [some (vR (0)), none, some (vI (((x : Nat) : Int)))]) ⟨rfl, ⟨vIe hx.symm, trivial⟩⟩ ?_
      have hxU : x < sU s := by omega
      refine Ev.aload_n dX7_next_46 rfl rfl ?_
      refine Ev.iload_n dX7_next_47 rfl rfl ?_
      refine Ev.callV_G (M2 := mX7_findsAnswerAbove) (args2 := [vI (((x : Nat) : Int))]) (rcv := 0) (q := (RX7, TX7, 20)) (ci := 7) dX7_next_48 okX7_findsAnswerAbove lk_X7_243 ovX7_findsAnswerAbove.1.1 ovX7_findsAnswerAbove.1.2 ovX7_findsAnswerAbove.2 (by decide) rfl rfl ltc_0 shc_0 rfl (Nat.le_of_ble_eq_true rfl) (Nat.le_of_ble_eq_true rfl) (s7_findsAnswerAbove s τ hC hXw (show wys (NX s (sX s)) (sU s) ≤ 20000 by omega) hA21 x hxU) (fun v_ m_ hp_ => ?_) rfl
      obtain ⟨_, τ2, rfl, rfl, rfl, hF2, hG2⟩ := hp_
      have hS2 := SK2_SC hF2
      have hXw := hXw.same hF2 (by decide)
      have hC := hC.scr hS2 ((congrFun (hF2 263 (by decide)) 0).trans hk9)
      have hK := fun c (h : 272 ≤ c) => (hS2 c (nSC2 h)).trans (hK c h)
      obtain ⟨hk1, hk2, hk3, hk4, hk5, hk6, hk7, hk8, hk9⟩ := id hC
      have hU := hk1.1
      have hN := hk2.1
      have hD := hk4.1
      have hM := hk7.1
      have hQ := hk5.1
      show Ev g mX7_next 51 [some (vR (0)), none, some (vI (((x : Nat) : Int)))] [vI (bI (∃ B, isAns (sU s) (sB s) (sS s) (abvY (NX s (sX s)) (sV s) x) B))] (M0 (τ2)) 0 0 _
      refine Ev.if_eq (tgt := 60) bI_inR dX7_next_51 (by decide) (fun h51 => ?_) (fun h51 => ?_)
      · skip
        have q51 := bI_0.mp h51
        refine Ev.iinc (pl' := [some (vR (0)), none, some (vI (((x : Nat) : Int) + (-1)))]) dX7_next_60 rfl (Nat.le_of_ble_eq_true rfl) rfl ?_
        refine Ev.goto (tgt := 42) dX7_next_63 (by decide) ?_
        refine Ev.wk (pl' := [some (vR (0)), none, some (vI ((sU s : Int) - 1 - (((K + 1) : Nat) : Int)))]) ⟨rfl, ⟨vIe (by omega), trivial⟩⟩ ?_
        exact ih (K + 1) (by omega) τ2 hC hK hXw (fun z h1 h2 => by by_cases e : z = x; (rw [e]; exact abv_no hal hxU q51); (exact hno z (by omega) h2))
      · skip
        have q51 := bI_1.mp h51
        refine Ev.aload_n dX7_next_54 rfl rfl ?_
        refine Ev.callV_V (M2 := mX7_keepAnswer) (args2 := []) (rcv := 0) (q := (RX7, TX7, 20)) (ci := 7) dX7_next_55 okX7_keepAnswer lk_X7_240 ovX7_keepAnswer.1.1 ovX7_keepAnswer.1.2 ovX7_keepAnswer.2 (by decide) rfl rfl ltc_0 shc_0 rfl (Nat.le_of_ble_eq_true rfl) (Nat.le_of_ble_eq_true rfl) (s7_keepAnswer τ2 (sU s) hU hk1.2.1) ?_ rfl
        refine Ev.iconst dX7_next_58 ?_
        exact Ev.ireturn dX7_next_59 rfl (rE (by have hnf := nx_found hal hV hxU (fun z h1 h2 => hno z (by omega) h2) q51 (hG2 q51); unfold CP o_next; (repeat rw [Int.toNat_natCast]); rw [ifP_f (by omega), ifP_f (fun z => by first | exact hal z.1 | (have := hn3.mpr z.2; omega)), ifP_t hnf.1]; exact ⟨rfl, (hC.kept hnf.2), (fun c q1 => ((upC_ne (Nat.ne_of_gt (Nat.lt_of_lt_of_le (show 0 < 272 by decide) q1))).trans ((cpy_ne (Nat.ne_of_gt (Nat.lt_of_lt_of_le (show 21 < 272 by decide) q1))).trans (hK c q1))))⟩))

set_option maxRecDepth 100000 in
set_option maxHeartbeats 4000000 in
theorem c_next {g : GC} (s : SS) (σ : Sg) (hC : CI s σ) : Ev g mX7_next 0 [some (vR (0)), none, none] [] (M0 (σ)) 0 0 (retE (CP σ (o_next s))) := by
  obtain ⟨hk1, hk2, hk3, hk4, hk5, hk6, hk7, hk8, hk9⟩ := id hC
  have hU := hk1.1
  have hN := hk2.1
  have hD := hk4.1
  have hM := hk7.1
  have hQ := hk5.1
  have hA6 := hk6.1
  refine Ev.aload_n dX7_next_0 rfl rfl ?_
  refine gf_X7_35 (x := sA s) rfl dX7_next_1 ltc_0 shc_0 hk6.2.1 ?_
  refine Ev.aload_n dX7_next_4 rfl rfl ?_
  refine gf_X7_88 (x := ((sU s : Nat) : Int)) rfl dX7_next_5 ltc_0 shc_0 hk1.2.1 ?_
  refine Ev.icmp_eq (tgt := 14) ⟨by omega, by omega⟩ ⟨by omega, by omega⟩ dX7_next_8 (by decide) (fun h8 => ?_) (fun h8 => ?_)
  · skip
    refine Ev.aload_n dX7_next_14 rfl rfl ?_
    refine Ev.callV_G (M2 := mX7_narrowAside) (args2 := []) (rcv := 0) (q := (RX7, TX7, 20)) (ci := 7) dX7_next_15 okX7_narrowAside lk_X7_234 ovX7_narrowAside.1.1 ovX7_narrowAside.1.2 ovX7_narrowAside.2 (by decide) rfl rfl ltc_0 shc_0 rfl (Nat.le_of_ble_eq_true rfl) (Nat.le_of_ble_eq_true rfl) (s7_narrowAside s σ hC) (fun v_ m_ hp_ => ?_) rfl
    obtain ⟨v, τ, rfl, rfl, hS1, hJ1, hvv⟩ := hp_
    have hC := hC.scr hS1 hJ1
    have hK : ∀ c, 272 ≤ c → τ c = σ c := fun c h => hS1 c (nSC2 h)
    obtain ⟨hk1, hk2, hk3, hk4, hk5, hk6, hk7, hk8, hk9⟩ := id hC
    have hU := hk1.1
    have hN := hk2.1
    have hD := hk4.1
    have hM := hk7.1
    have hQ := hk5.1
    rcases hvv with ⟨rfl, hal⟩ | ⟨n, rfl, hn1, hn2, hal, hXw, hn3⟩
    · skip
      show Ev g mX7_next 18 [some (vR (0)), none, none] [vI (0)] (M0 (τ)) 0 0 _
      refine Ev.istore_n (pl' := [some (vR (0)), some (vI (0)), none]) dX7_next_18 rfl (Nat.le_of_ble_eq_true rfl) rfl ?_
      refine Ev.iload_n dX7_next_19 rfl rfl ?_
      refine Ev.sipush (n := 20000) (by decide) dX7_next_20 ?_
      refine Ev.icmp_le (tgt := 29) ⟨by decide, by decide⟩ ⟨by decide, by decide⟩ dX7_next_23 (by decide) (fun h23 => ?_) (fun h23 => ?_)
      · skip
        refine Ev.iload_n dX7_next_29 rfl rfl ?_
        refine Ev.if_ne (tgt := 35) ⟨by decide, by decide⟩ dX7_next_30 (by decide) (fun h30 => ?_) (fun h30 => ?_)
        · exact absurd h30 (by omega)
        · skip
          refine Ev.iconst dX7_next_33 ?_
          exact Ev.ireturn dX7_next_34 rfl (rE (by unfold CP o_next; (repeat rw [Int.toNat_natCast]); rw [ifP_f (by omega), ifP_f (fun z => by first | exact hal z.1 | (have := hn3.mpr z.2; omega)), ifP_f (fun ⟨B, z⟩ => hal z.1.1)]; exact ⟨rfl, hC, hK⟩))
      · exact absurd h23 (by omega)
    · skip
      show Ev g mX7_next 18 [some (vR (0)), none, none] [vI (((n : Nat) : Int))] (M0 (τ)) 0 0 _
      refine Ev.istore_n (pl' := [some (vR (0)), some (vI (((n : Nat) : Int))), none]) dX7_next_18 rfl (Nat.le_of_ble_eq_true rfl) rfl ?_
      refine Ev.iload_n dX7_next_19 rfl rfl ?_
      refine Ev.sipush (n := 20000) (by decide) dX7_next_20 ?_
      refine Ev.icmp_le (tgt := 29) ⟨by omega, by omega⟩ ⟨by decide, by decide⟩ dX7_next_23 (by decide) (fun h23 => ?_) (fun h23 => ?_)
      · skip
        refine Ev.iload_n dX7_next_29 rfl rfl ?_
        refine Ev.if_ne (tgt := 35) ⟨by omega, by omega⟩ dX7_next_30 (by decide) (fun h30 => ?_) (fun h30 => ?_)
        · skip
          refine Ev.aload_n dX7_next_35 rfl rfl ?_
          refine gf_X7_88 (x := ((sU s : Nat) : Int)) rfl dX7_next_36 ltc_0 shc_0 hk1.2.1 ?_
          refine Ev.iconst dX7_next_39 ?_
          refine Ev.isub dX7_next_40 ?_
          refine Ev.istore_n (pl' := [some (vR (0)), some (vI (((n : Nat) : Int))), some (vI ((((sU s : Nat) : Int) - 1)))]) dX7_next_41 rfl (Nat.le_of_ble_eq_true rfl) rfl ?_
          refine Ev.wk (pl' := [some (vR (0)), none, some (vI ((sU s : Int) - 1 - ((0 : Nat) : Int)))]) ⟨rfl, ⟨vIe (by omega), trivial⟩⟩ ?_
          exact c_next_l s σ n hn1 hn2 hal hn3 (by omega) (by omega) (sU s) 0 (by omega) τ hC hK hXw (fun z h1 h2 => absurd h1 (by omega))
        · exact absurd h30 (by omega)
      · skip
        refine Ev.bipush (n := -5) (by decide) dX7_next_26 ?_
        exact Ev.ireturn dX7_next_28 rfl (rE (by unfold CP o_next; (repeat rw [Int.toNat_natCast]); rw [ifP_f (by omega), ifP_t ⟨hal, hn3.mp (by omega)⟩]; exact ⟨rfl, hC, hK⟩))
  · skip
    refine Ev.bipush (n := -3) (by decide) dX7_next_11 ?_
    exact Ev.ireturn dX7_next_13 rfl (rE (by unfold CP o_next; (repeat rw [Int.toNat_natCast]); rw [ifP_t (by omega)]; exact ⟨rfl, hC, (fun _ _ => rfl)⟩))

