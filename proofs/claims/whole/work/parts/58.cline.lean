/-! THE CLASS: line, says, forge, check, refutes, total -/
theorem k7_new {σ τ : Sg} {U n m : Nat} {L : Nat → RC} {f : Nat → Int} {r : Int} (h : k7 σ U n m L f) (hU : U ≤ 10) (hm : m < 40) (hr : r = -9 ∨ (0 ≤ r ∧ r < n)) (e14 : τ 0 14 = ((m + 1 : Nat) : Int)) (e23 : ∀ i, τ 23 i = upC σ 23 m r 23 i) (e : ∀ c, 90 ≤ c → c < 250 → τ c = (upC (upC (upC σ (26 + 4 * (16 + m)) 0 5) (26 + 4 * (16 + m)) 1 0) (26 + 4 * (16 + m)) 2 0) c) : k7 τ U n (m + 1) (updF L m (nR 5 0 0)) (updF f m r) := by
  obtain ⟨a1, a2, a3, a4⟩ := h
  refine ⟨by omega, e14, fun l hl => ?_, fun l q1 q2 => ?_⟩
  · rw [e23 l]
    by_cases el : l = m
    · subst el
      rw [updF_at, updF_at, upC_at]
      exact ⟨(CR.begin (by decide) (a4 l (by omega) hm).1 (a4 l (by omega) hm).2).cg fun c q1 q2 => e c (by omega) (by omega), WR.new hU (by decide) ⟨fun z => absurd z (by decide), fun z => absurd z (by decide), fun z => absurd z (by decide)⟩, rfl, rfl, hr⟩
    · rw [updF_ne el, updF_ne el, upC_self el]
      obtain ⟨b1, b2, b3, b4, b5⟩ := a3 l (by omega)
      exact ⟨b1.cg fun c q1 q2 => by rw [e c (by omega) (by omega), upC_ne (by omega), upC_ne (by omega), upC_ne (by omega)], b2, b3, b4, b5⟩
  · rw [e (26 + 4 * (16 + l)) (by omega) (by omega), upC_ne (by omega), upC_ne (by omega), upC_ne (by omega)]
    exact a4 l (by omega) q2
theorem k7_add {σ τ : Sg} {U n m l x : Nat} {L : Nat → RC} {f : Nat → Int} {a b : Int} (h : k7 σ U n m L f) (hx10 : x < 10) (hl : l < m) (hW : WR U (addP (L l) x a b)) (e14 : τ 0 14 = σ 0 14) (e23 : τ 23 = σ 23) (e : ∀ c, 90 ≤ c → c < 250 → τ c = (upC (upC (upC (upC (upC σ (26 + 4 * (16 + l) + 1) (rN (L l)) (x : Int)) (26 + 4 * (16 + l) + 2) (rN (L l)) a) (26 + 4 * (16 + l) + 3) (rN (L l)) b) (26 + 4 * (16 + l)) 3 ((rN (L l) + 1 : Nat) : Int)) (26 + 4 * (16 + l)) 4 ((memM (L l) ||| 2 ^ x : Nat) : Int)) c) : k7 τ U n m (updF L l (addP (L l) x a b)) f := by
  obtain ⟨a1, a2, a3, a4⟩ := h
  refine ⟨a1, e14.trans a2, fun q hq => ?_, fun q q1 q2 => ?_⟩
  · rw [e23]
    by_cases er : q = l
    · subst er
      rw [updF_at]
      obtain ⟨b1, b2, b3, b4, b5⟩ := a3 q hl
      exact ⟨(CR.join hx10 b1).cg fun c q1 q2 => e c (by omega) (by omega), hW, b3, b4, b5⟩
    · rw [updF_ne er]
      obtain ⟨b1, b2, b3, b4, b5⟩ := a3 q hq
      exact ⟨b1.cg fun c q1 q2 => by rw [e c (by omega) (by omega), upC_ne (by omega), upC_ne (by omega), upC_ne (by omega), upC_ne (by omega), upC_ne (by omega)], b2, b3, b4, b5⟩
  · rw [e (26 + 4 * (16 + q)) (by omega) (by omega), upC_ne (by omega), upC_ne (by omega), upC_ne (by omega), upC_ne (by omega), upC_ne (by omega)]
    exact a4 q (by omega) q2
theorem memM_set {R : RC} {j : Nat} {a : Int} : memM (setP R j a) = memM R := rfl
theorem WR.set {U j : Nat} {R : RC} {a : Int} (h : WR U R) (h5 : rK R = 5) (ha : 0 ≤ a ∧ a < 65536) : WR U (setP R j a) := by
  obtain ⟨w1, w4, w5, w6, w7, w8, w9⟩ := h
  refine ⟨w1, w4, fun z => absurd (show rK R = 0 from z) (by omega), w6, fun z => absurd (show rK R = 3 from z) (by omega), fun z k hk => ?_, w9⟩
  show 0 ≤ updF (rA R) j a k ∧ updF (rA R) j a k < 65536
  by_cases e : k = j
  · rw [e, updF_at]; exact ha
  · rw [updF_ne e]; exact w8 z k hk
theorem CR.set {σ : Sg} {r j : Nat} {R : RC} {a : Int} (h : CR σ r R) : CR (upC σ (26 + 4 * r + 2) j a) r (setP R j a) := by
  obtain ⟨h1, h2, h3, h4, h5, h6⟩ := h
  refine ⟨by rw [upC_ne (by omega)]; exact h1, by rw [upC_ne (by omega)]; exact h2, by rw [upC_ne (by omega)]; exact h3, by rw [upC_ne (by omega)]; exact h4, by rw [upC_ne (by omega)]; exact h5, fun k hk => ?_⟩
  obtain ⟨q1, q2, q3⟩ := h6 k hk
  refine ⟨by rw [upC_ne (by omega)]; exact q1, ?_, by rw [upC_ne (by omega)]; exact q3⟩
  show upC σ (26 + 4 * r + 2) j a (26 + 4 * r + 2) k = updF (rA R) j a k
  by_cases e : k = j
  · rw [e, upC_at, updF_at]
  · rw [upC_self e, updF_ne e]; exact q2
theorem k7_set {σ τ : Sg} {U n m l j : Nat} {L : Nat → RC} {f : Nat → Int} {a : Int} (h : k7 σ U n m L f) (hl : l < m) (ha : 0 ≤ a ∧ a < 65536) (e14 : τ 0 14 = σ 0 14) (e23 : τ 23 = σ 23) (e : ∀ c, 90 ≤ c → c < 250 → τ c = upC σ (26 + 4 * (16 + l) + 2) j a c) : k7 τ U n m (updF L l (setP (L l) j a)) f := by
  obtain ⟨a1, a2, a3, a4⟩ := h
  refine ⟨a1, e14.trans a2, fun q hq => ?_, fun q q1 q2 => ?_⟩
  · rw [e23]
    by_cases er : q = l
    · subst er
      rw [updF_at]
      obtain ⟨b1, b2, b3, b4, b5⟩ := a3 q hl
      exact ⟨b1.set.cg fun c q1 q2 => e c (by omega) (by omega), b2.set b3 ha, b3, b4, b5⟩
    · rw [updF_ne er]
      obtain ⟨b1, b2, b3, b4, b5⟩ := a3 q hq
      exact ⟨b1.cg fun c q1 q2 => by rw [e c (by omega) (by omega), upC_ne (by omega)], b2, b3, b4, b5⟩
  · rw [e (26 + 4 * (16 + q)) (by omega) (by omega), upC_ne (by omega)]
    exact a4 q (by omega) q2
theorem iXor_i {a : Int} (h : 0 ≤ a ∧ a < 65536) : iXor a (-1) = -((a.toNat : Nat) : Int) - 1 := by
  obtain ⟨n, rfl⟩ := Int.eq_ofNat_of_zero_le h.1
  exact iXor_m1 (by omega)
theorem low_bit {m : Nat} (h : m < 65536) (h0 : m ≠ 0) : andN m (m - 1) = 2 ^ lo m := by
  apply Nat.eq_of_testBit_eq
  intro j
  have h1 : (m &&& (m - 1)).testBit j = (andN m (2 ^ lo m)).testBit j := by rw [clr_lo h h0]
  rw [Nat.testBit_and, andN_tb, Nat.testBit_two_pow] at h1
  rw [andN_tb, Nat.testBit_two_pow]
  by_cases e : lo m = j
  · subst e
    rw [lo_tb h h0] at h1 ⊢
    simp at h1 ⊢
    exact h1
  · simp [e] at h1 ⊢
    cases hb : m.testBit j with
    | false => simp
    | true => rw [hb] at h1; simpa using h1
theorem low_i {m : Nat} (h : m < 65536) (h0 : m ≠ 0) : iAnd (m : Int) (-(m : Int)) = ((2 ^ lo m : Nat) : Int) := by
  rw [show (-(m : Int)) = -((m - 1 : Nat) : Int) - 1 by omega, iAnd_not (by omega), low_bit h h0]
theorem iOr_b {p : Prop} : iOr (bI p) 1 = 1 ∧ iOr (bI p) 0 = bI p := by
  rcases bI_or (p := p) with h | h <;> rw [h] <;> exact ⟨by decide +kernel, by decide +kernel⟩
theorem Same24_SC {σ τ : Sg} (h : Same [24] σ τ) : Same SC σ τ := h.wide fun c hc => by simp at hc; subst hc; decide
/-- ranges read through up to x: those that the rule doesn't look at have one number -/
def OneW (τ : Sg) (U : Nat) (R : RC) (X : Rg) (x : Nat) : Prop := ∀ y, y < U → (y < x → τ 24 y = (oneY R X y : Int)) ∧ (x ≤ y → τ 24 y = (X y : Int))
set_option maxRecDepth 100000 in
set_option maxHeartbeats 4000000 in
theorem c_line {g : GC} (s : SS) (σ : Sg) (hC : CI s σ) (r : Int) (h_r : inR r) : Ev g mX7_line 0 [some (vR (0)), some (vI (r))] [] (M0 (σ)) 0 0 (retE (CP σ (o_line s r))) := by
  obtain ⟨hk1, hk2, hk3, hk4, hk5, hk6, hk7, hk8, hk9⟩ := id hC
  have hU := hk1.1
  have hN := hk2.1
  have hD := hk4.1
  have hM := hk7.1
  have hQ := hk5.1
  refine Ev.iload_n dX7_line_0 rfl rfl ?_
  refine Ev.bipush (n := -9) (by decide) dX7_line_1 ?_
  refine Ev.icmp_eq (tgt := 16) ⟨by omega, by omega⟩ ⟨by decide, by decide⟩ dX7_line_3 (by decide) (fun h3 => ?_) (fun h3 => ?_)
  · skip
    have hrr : r = -9 ∨ (0 ≤ r ∧ r < (sN s : Int)) := Or.inl h3
    refine Ev.aload_n dX7_line_16 rfl rfl ?_
    refine gf_X7_263 (x := ((sM s : Nat) : Int)) rfl dX7_line_17 ltc_0 shc_0 hk7.2.1 ?_
    refine Ev.bipush (n := 40) (by decide) dX7_line_20 ?_
    refine Ev.icmp_lt (tgt := 28) ⟨by omega, by omega⟩ ⟨by decide, by decide⟩ dX7_line_22 (by decide) (fun h22 => ?_) (fun h22 => ?_)
    · skip
      refine Ev.aload_n dX7_line_28 rfl rfl ?_
      refine gf_X7_39 rfl dX7_line_29 ltc_0 shc_0 rfc_0_12 ?_
      refine Ev.aload_n dX7_line_32 rfl rfl ?_
      refine gf_X7_263 (x := ((sM s : Nat) : Int)) rfl dX7_line_33 ltc_0 shc_0 hk7.2.1 ?_
      refine Ev.raload dX7_line_36 ltc_22 shc_22 (by decide) (by omega) (by omega) (rf_line (by omega)) ?_
      refine Ev.iconst dX7_line_37 ?_
      refine Ev.iconst dX7_line_38 ?_
      refine Ev.iconst dX7_line_39 ?_
      refine Ev.callV_V (M2 := mX3_begin) (args2 := [vI (5), vI (0), vI (0)]) (rcv := 26 + 4 * ((16 + sM s))) (q := (RX3, TX3, 8)) (ci := 3) dX7_line_40 okX3_begin lk_X7_114 ovX3_begin.1.1 ovX3_begin.1.2 ovX3_begin.2 (by decide) rfl rfl (lt_rc (by omega)) (sh_rc (by omega)) rfl (Nat.le_of_ble_eq_true rfl) (Nat.le_of_ble_eq_true rfl) (s3_begin σ (16 + sM s) (by omega) 5 0 0) ?_ rfl
      refine Ev.aload_n dX7_line_43 rfl rfl ?_
      refine gf_X7_42 rfl dX7_line_44 ltc_0 shc_0 rfc_0_13 ?_
      refine Ev.aload_n dX7_line_47 rfl rfl ?_
      refine gf_X7_263 (x := ((sM s : Nat) : Int)) rfl dX7_line_48 ltc_0 shc_0 (show (upC (upC (upC σ (26 + 4 * (16 + sM s)) 0 5) (26 + 4 * (16 + sM s)) 1 0) (26 + 4 * (16 + sM s)) 2 0) 0 14 = _ from (by (repeat (first | rw [upC_self (by omega)] | rw [upC_ne (by omega)] | rw [cpy_ne (by omega)])); exact hk7.2.1)) ?_
      refine Ev.iload_n dX7_line_51 rfl rfl ?_
      refine Ev.iastore dX7_line_52 ltc_23 shc_23 (by decide) (by omega) (by omega) ?_
      refine Ev.mem (τ := upC (upC (upC (upC σ (26 + 4 * (16 + sM s)) 0 5) (26 + 4 * (16 + sM s)) 1 0) (26 + 4 * (16 + sM s)) 2 0) 23 (sM s) r) (by simp only [Int.toNat_natCast]) ?_
      refine Ev.aload_n dX7_line_53 rfl rfl ?_
      refine Ev.dupR dX7_line_54 ?_
      refine gf_X7_263 (x := ((sM s : Nat) : Int)) rfl dX7_line_55 ltc_0 shc_0 (show (upC (upC (upC (upC σ (26 + 4 * (16 + sM s)) 0 5) (26 + 4 * (16 + sM s)) 1 0) (26 + 4 * (16 + sM s)) 2 0) 23 (sM s) r) 0 14 = _ from (by (repeat (first | rw [upC_self (by omega)] | rw [upC_ne (by omega)] | rw [cpy_ne (by omega)])); exact hk7.2.1)) ?_
      refine Ev.iconst dX7_line_58 ?_
      refine Ev.iadd dX7_line_59 ?_
      refine pf_X7_263 rfl dX7_line_60 ltc_0 shc_0 ?_
      refine Ev.mem (τ := upC (upC (upC (upC (upC σ (26 + 4 * (16 + sM s)) 0 5) (26 + 4 * (16 + sM s)) 1 0) (26 + 4 * (16 + sM s)) 2 0) 23 (sM s) r) 0 14 ((sM s + 1 : Nat) : Int)) (by rw [show ((sM s : Nat) : Int) + 1 = ((sM s + 1 : Nat) : Int) by omega]) ?_
      refine Ev.aload_n dX7_line_63 rfl rfl ?_
      refine gf_X7_263 (x := (((sM s + 1) : Nat) : Int)) rfl dX7_line_64 ltc_0 shc_0 (show (upC (upC (upC (upC (upC σ (26 + 4 * (16 + sM s)) 0 5) (26 + 4 * (16 + sM s)) 1 0) (26 + 4 * (16 + sM s)) 2 0) 23 (sM s) r) 0 14 ((sM s + 1 : Nat) : Int)) 0 14 = (((sM s + 1) : Nat) : Int) from upC_at) ?_
      refine Ev.iconst dX7_line_67 ?_
      refine Ev.isub dX7_line_68 ?_
      exact Ev.ireturn dX7_line_69 rfl (rE (by unfold CP o_line; (repeat rw [Int.toNat_natCast]); rw [ifP_f (fun z => z hrr), ifP_f (by omega)]; exact ⟨(by show _ = ((sM s : Nat) : Int); omega), ⟨(hk1.cg ((upC_self (by decide)).trans ((congrFun (upC_ne (by decide)) 2).trans ((congrFun (upC_ne (by omega)) 2).trans ((congrFun (upC_ne (by omega)) 2).trans ((congrFun (upC_ne (by omega)) 2).trans rfl))))) (fun c q1 q2 => ((upC_ne (Nat.ne_of_gt (Nat.lt_of_lt_of_le (show 0 < 1 by decide) q1))).trans ((upC_ne (Nat.ne_of_lt (Nat.lt_of_lt_of_le q2 (show 3 ≤ 23 by decide)))).trans ((upC_ne (by omega)).trans ((upC_ne (by omega)).trans ((upC_ne (by omega)).trans rfl))))))), (hk2.cg ((upC_self (by decide)).trans ((congrFun (upC_ne (by decide)) 4).trans ((congrFun (upC_ne (by omega)) 4).trans ((congrFun (upC_ne (by omega)) 4).trans ((congrFun (upC_ne (by omega)) 4).trans rfl))))) ((upC_self (by decide)).trans ((congrFun (upC_ne (by decide)) 5).trans ((congrFun (upC_ne (by omega)) 5).trans ((congrFun (upC_ne (by omega)) 5).trans ((congrFun (upC_ne (by omega)) 5).trans rfl))))) (fun c q1 q2 => ((upC_ne (Nat.ne_of_gt (Nat.lt_of_lt_of_le (show 0 < 26 by decide) q1))).trans ((upC_ne (Nat.ne_of_gt (Nat.lt_of_lt_of_le (show 23 < 26 by decide) q1))).trans ((upC_ne (by omega)).trans ((upC_ne (by omega)).trans ((upC_ne (by omega)).trans rfl))))))), (hk3.cg (fun c q1 q2 => ((upC_ne (Nat.ne_of_gt (Nat.lt_of_lt_of_le (show 0 < 251 by decide) q1))).trans ((upC_ne (Nat.ne_of_gt (Nat.lt_of_lt_of_le (show 23 < 251 by decide) q1))).trans ((upC_ne (by omega)).trans ((upC_ne (by omega)).trans ((upC_ne (by omega)).trans rfl))))))), (hk4.cg (fun c q1 q2 _ => ((upC_ne (Nat.ne_of_gt (Nat.lt_of_lt_of_le (show 0 < 4 by decide) q1))).trans ((upC_ne (Nat.ne_of_lt (Nat.lt_of_lt_of_le q2 (show 20 ≤ 23 by decide)))).trans ((upC_ne (by omega)).trans ((upC_ne (by omega)).trans ((upC_ne (by omega)).trans rfl))))))), (hk5.cg ((upC_self (by decide)).trans ((congrFun (upC_ne (by decide)) 9).trans ((congrFun (upC_ne (by omega)) 9).trans ((congrFun (upC_ne (by omega)) 9).trans ((congrFun (upC_ne (by omega)) 9).trans rfl))))) ((upC_ne (by decide)).trans ((upC_ne (by decide)).trans ((upC_ne (by omega)).trans ((upC_ne (by omega)).trans ((upC_ne (by omega)).trans rfl)))))), (hk6.cg ((upC_self (by decide)).trans ((congrFun (upC_ne (by decide)) 11).trans ((congrFun (upC_ne (by omega)) 11).trans ((congrFun (upC_ne (by omega)) 11).trans ((congrFun (upC_ne (by omega)) 11).trans rfl))))) ((upC_ne (by decide)).trans ((upC_ne (by decide)).trans ((upC_ne (by omega)).trans ((upC_ne (by omega)).trans ((upC_ne (by omega)).trans rfl)))))), (k7_new hk7 hU (by omega) hrr upC_at (fun i => (congrFun (upC_ne (by decide)) i).trans (by by_cases e : i = sM s; (rw [e, upC_at, upC_at]); (rw [upC_self e, upC_self e]; exact congrFun ((upC_ne (by omega)).trans ((upC_ne (by omega)).trans ((upC_ne (by omega)).trans rfl))) i))) (fun c q1 q2 => ((upC_ne (Nat.ne_of_gt (Nat.lt_of_lt_of_le (show 0 < 90 by decide) q1))).trans ((upC_ne (Nat.ne_of_gt (Nat.lt_of_lt_of_le (show 23 < 90 by decide) q1))).trans rfl)))), ((upC_self (by decide)).trans ((congrFun (upC_ne (by decide)) 15).trans ((congrFun (upC_ne (by omega)) 15).trans ((congrFun (upC_ne (by omega)) 15).trans ((congrFun (upC_ne (by omega)) 15).trans hk8))))), ((congrFun (upC_ne (by decide)) 0).trans ((congrFun (upC_ne (by decide)) 0).trans ((congrFun (upC_ne (by omega)) 0).trans ((congrFun (upC_ne (by omega)) 0).trans ((congrFun (upC_ne (by omega)) 0).trans hk9)))))⟩, (fun c q1 => ((upC_ne (Nat.ne_of_gt (Nat.lt_of_lt_of_le (show 0 < 272 by decide) q1))).trans ((upC_ne (Nat.ne_of_gt (Nat.lt_of_lt_of_le (show 23 < 272 by decide) q1))).trans ((upC_ne (by omega)).trans ((upC_ne (by omega)).trans ((upC_ne (by omega)).trans rfl))))))⟩))
    · skip
      refine Ev.bipush (n := -4) (by decide) dX7_line_25 ?_
      exact Ev.ireturn dX7_line_27 rfl (rE (by unfold CP o_line; (repeat rw [Int.toNat_natCast]); rw [ifP_f (fun z => z hrr), ifP_t (by omega)]; exact ⟨rfl, hC, (fun _ _ => rfl)⟩))
  · skip
    refine Ev.aload_n dX7_line_6 rfl rfl ?_
    refine Ev.iload_n dX7_line_7 rfl rfl ?_
    refine Ev.callV_I (M2 := mX7_isRule) (args2 := [vI (r)]) (rcv := 0) (q := (RX7, TX7, 20)) (ci := 7) dX7_line_8 okX7_isRule lk_X7_122 ovX7_isRule.1.1 ovX7_isRule.1.2 ovX7_isRule.2 (by decide) rfl rfl ltc_0 shc_0 rfl (Nat.le_of_ble_eq_true rfl) (Nat.le_of_ble_eq_true rfl) (s7_isRule σ (sN s) hN hk2.2.1 (r) ⟨by omega, by omega⟩) ?_ rfl
    refine Ev.if_ne (tgt := 16) bI_inR dX7_line_11 (by decide) (fun h11 => ?_) (fun h11 => ?_)
    · skip
      have q11 := bI_1.mp h11
      have hrr : r = -9 ∨ (0 ≤ r ∧ r < (sN s : Int)) := Or.inr q11
      refine Ev.aload_n dX7_line_16 rfl rfl ?_
      refine gf_X7_263 (x := ((sM s : Nat) : Int)) rfl dX7_line_17 ltc_0 shc_0 hk7.2.1 ?_
      refine Ev.bipush (n := 40) (by decide) dX7_line_20 ?_
      refine Ev.icmp_lt (tgt := 28) ⟨by omega, by omega⟩ ⟨by decide, by decide⟩ dX7_line_22 (by decide) (fun h22 => ?_) (fun h22 => ?_)
      · skip
        refine Ev.aload_n dX7_line_28 rfl rfl ?_
        refine gf_X7_39 rfl dX7_line_29 ltc_0 shc_0 rfc_0_12 ?_
        refine Ev.aload_n dX7_line_32 rfl rfl ?_
        refine gf_X7_263 (x := ((sM s : Nat) : Int)) rfl dX7_line_33 ltc_0 shc_0 hk7.2.1 ?_
        refine Ev.raload dX7_line_36 ltc_22 shc_22 (by decide) (by omega) (by omega) (rf_line (by omega)) ?_
        refine Ev.iconst dX7_line_37 ?_
        refine Ev.iconst dX7_line_38 ?_
        refine Ev.iconst dX7_line_39 ?_
        refine Ev.callV_V (M2 := mX3_begin) (args2 := [vI (5), vI (0), vI (0)]) (rcv := 26 + 4 * ((16 + sM s))) (q := (RX3, TX3, 8)) (ci := 3) dX7_line_40 okX3_begin lk_X7_114 ovX3_begin.1.1 ovX3_begin.1.2 ovX3_begin.2 (by decide) rfl rfl (lt_rc (by omega)) (sh_rc (by omega)) rfl (Nat.le_of_ble_eq_true rfl) (Nat.le_of_ble_eq_true rfl) (s3_begin σ (16 + sM s) (by omega) 5 0 0) ?_ rfl
        refine Ev.aload_n dX7_line_43 rfl rfl ?_
        refine gf_X7_42 rfl dX7_line_44 ltc_0 shc_0 rfc_0_13 ?_
        refine Ev.aload_n dX7_line_47 rfl rfl ?_
        refine gf_X7_263 (x := ((sM s : Nat) : Int)) rfl dX7_line_48 ltc_0 shc_0 (show (upC (upC (upC σ (26 + 4 * (16 + sM s)) 0 5) (26 + 4 * (16 + sM s)) 1 0) (26 + 4 * (16 + sM s)) 2 0) 0 14 = _ from (by (repeat (first | rw [upC_self (by omega)] | rw [upC_ne (by omega)] | rw [cpy_ne (by omega)])); exact hk7.2.1)) ?_
        refine Ev.iload_n dX7_line_51 rfl rfl ?_
        refine Ev.iastore dX7_line_52 ltc_23 shc_23 (by decide) (by omega) (by omega) ?_
        refine Ev.mem (τ := upC (upC (upC (upC σ (26 + 4 * (16 + sM s)) 0 5) (26 + 4 * (16 + sM s)) 1 0) (26 + 4 * (16 + sM s)) 2 0) 23 (sM s) r) (by simp only [Int.toNat_natCast]) ?_
        refine Ev.aload_n dX7_line_53 rfl rfl ?_
        refine Ev.dupR dX7_line_54 ?_
        refine gf_X7_263 (x := ((sM s : Nat) : Int)) rfl dX7_line_55 ltc_0 shc_0 (show (upC (upC (upC (upC σ (26 + 4 * (16 + sM s)) 0 5) (26 + 4 * (16 + sM s)) 1 0) (26 + 4 * (16 + sM s)) 2 0) 23 (sM s) r) 0 14 = _ from (by (repeat (first | rw [upC_self (by omega)] | rw [upC_ne (by omega)] | rw [cpy_ne (by omega)])); exact hk7.2.1)) ?_
        refine Ev.iconst dX7_line_58 ?_
        refine Ev.iadd dX7_line_59 ?_
        refine pf_X7_263 rfl dX7_line_60 ltc_0 shc_0 ?_
        refine Ev.mem (τ := upC (upC (upC (upC (upC σ (26 + 4 * (16 + sM s)) 0 5) (26 + 4 * (16 + sM s)) 1 0) (26 + 4 * (16 + sM s)) 2 0) 23 (sM s) r) 0 14 ((sM s + 1 : Nat) : Int)) (by rw [show ((sM s : Nat) : Int) + 1 = ((sM s + 1 : Nat) : Int) by omega]) ?_
        refine Ev.aload_n dX7_line_63 rfl rfl ?_
        refine gf_X7_263 (x := (((sM s + 1) : Nat) : Int)) rfl dX7_line_64 ltc_0 shc_0 (show (upC (upC (upC (upC (upC σ (26 + 4 * (16 + sM s)) 0 5) (26 + 4 * (16 + sM s)) 1 0) (26 + 4 * (16 + sM s)) 2 0) 23 (sM s) r) 0 14 ((sM s + 1 : Nat) : Int)) 0 14 = (((sM s + 1) : Nat) : Int) from upC_at) ?_
        refine Ev.iconst dX7_line_67 ?_
        refine Ev.isub dX7_line_68 ?_
        exact Ev.ireturn dX7_line_69 rfl (rE (by unfold CP o_line; (repeat rw [Int.toNat_natCast]); rw [ifP_f (fun z => z hrr), ifP_f (by omega)]; exact ⟨(by show _ = ((sM s : Nat) : Int); omega), ⟨(hk1.cg ((upC_self (by decide)).trans ((congrFun (upC_ne (by decide)) 2).trans ((congrFun (upC_ne (by omega)) 2).trans ((congrFun (upC_ne (by omega)) 2).trans ((congrFun (upC_ne (by omega)) 2).trans rfl))))) (fun c q1 q2 => ((upC_ne (Nat.ne_of_gt (Nat.lt_of_lt_of_le (show 0 < 1 by decide) q1))).trans ((upC_ne (Nat.ne_of_lt (Nat.lt_of_lt_of_le q2 (show 3 ≤ 23 by decide)))).trans ((upC_ne (by omega)).trans ((upC_ne (by omega)).trans ((upC_ne (by omega)).trans rfl))))))), (hk2.cg ((upC_self (by decide)).trans ((congrFun (upC_ne (by decide)) 4).trans ((congrFun (upC_ne (by omega)) 4).trans ((congrFun (upC_ne (by omega)) 4).trans ((congrFun (upC_ne (by omega)) 4).trans rfl))))) ((upC_self (by decide)).trans ((congrFun (upC_ne (by decide)) 5).trans ((congrFun (upC_ne (by omega)) 5).trans ((congrFun (upC_ne (by omega)) 5).trans ((congrFun (upC_ne (by omega)) 5).trans rfl))))) (fun c q1 q2 => ((upC_ne (Nat.ne_of_gt (Nat.lt_of_lt_of_le (show 0 < 26 by decide) q1))).trans ((upC_ne (Nat.ne_of_gt (Nat.lt_of_lt_of_le (show 23 < 26 by decide) q1))).trans ((upC_ne (by omega)).trans ((upC_ne (by omega)).trans ((upC_ne (by omega)).trans rfl))))))), (hk3.cg (fun c q1 q2 => ((upC_ne (Nat.ne_of_gt (Nat.lt_of_lt_of_le (show 0 < 251 by decide) q1))).trans ((upC_ne (Nat.ne_of_gt (Nat.lt_of_lt_of_le (show 23 < 251 by decide) q1))).trans ((upC_ne (by omega)).trans ((upC_ne (by omega)).trans ((upC_ne (by omega)).trans rfl))))))), (hk4.cg (fun c q1 q2 _ => ((upC_ne (Nat.ne_of_gt (Nat.lt_of_lt_of_le (show 0 < 4 by decide) q1))).trans ((upC_ne (Nat.ne_of_lt (Nat.lt_of_lt_of_le q2 (show 20 ≤ 23 by decide)))).trans ((upC_ne (by omega)).trans ((upC_ne (by omega)).trans ((upC_ne (by omega)).trans rfl))))))), (hk5.cg ((upC_self (by decide)).trans ((congrFun (upC_ne (by decide)) 9).trans ((congrFun (upC_ne (by omega)) 9).trans ((congrFun (upC_ne (by omega)) 9).trans ((congrFun (upC_ne (by omega)) 9).trans rfl))))) ((upC_ne (by decide)).trans ((upC_ne (by decide)).trans ((upC_ne (by omega)).trans ((upC_ne (by omega)).trans ((upC_ne (by omega)).trans rfl)))))), (hk6.cg ((upC_self (by decide)).trans ((congrFun (upC_ne (by decide)) 11).trans ((congrFun (upC_ne (by omega)) 11).trans ((congrFun (upC_ne (by omega)) 11).trans ((congrFun (upC_ne (by omega)) 11).trans rfl))))) ((upC_ne (by decide)).trans ((upC_ne (by decide)).trans ((upC_ne (by omega)).trans ((upC_ne (by omega)).trans ((upC_ne (by omega)).trans rfl)))))), (k7_new hk7 hU (by omega) hrr upC_at (fun i => (congrFun (upC_ne (by decide)) i).trans (by by_cases e : i = sM s; (rw [e, upC_at, upC_at]); (rw [upC_self e, upC_self e]; exact congrFun ((upC_ne (by omega)).trans ((upC_ne (by omega)).trans ((upC_ne (by omega)).trans rfl))) i))) (fun c q1 q2 => ((upC_ne (Nat.ne_of_gt (Nat.lt_of_lt_of_le (show 0 < 90 by decide) q1))).trans ((upC_ne (Nat.ne_of_gt (Nat.lt_of_lt_of_le (show 23 < 90 by decide) q1))).trans rfl)))), ((upC_self (by decide)).trans ((congrFun (upC_ne (by decide)) 15).trans ((congrFun (upC_ne (by omega)) 15).trans ((congrFun (upC_ne (by omega)) 15).trans ((congrFun (upC_ne (by omega)) 15).trans hk8))))), ((congrFun (upC_ne (by decide)) 0).trans ((congrFun (upC_ne (by decide)) 0).trans ((congrFun (upC_ne (by omega)) 0).trans ((congrFun (upC_ne (by omega)) 0).trans ((congrFun (upC_ne (by omega)) 0).trans hk9)))))⟩, (fun c q1 => ((upC_ne (Nat.ne_of_gt (Nat.lt_of_lt_of_le (show 0 < 272 by decide) q1))).trans ((upC_ne (Nat.ne_of_gt (Nat.lt_of_lt_of_le (show 23 < 272 by decide) q1))).trans ((upC_ne (by omega)).trans ((upC_ne (by omega)).trans ((upC_ne (by omega)).trans rfl))))))⟩))
      · skip
        refine Ev.bipush (n := -4) (by decide) dX7_line_25 ?_
        exact Ev.ireturn dX7_line_27 rfl (rE (by unfold CP o_line; (repeat rw [Int.toNat_natCast]); rw [ifP_f (fun z => z hrr), ifP_t (by omega)]; exact ⟨rfl, hC, (fun _ _ => rfl)⟩))
    · skip
      have q11 := bI_0.mp h11
      refine Ev.iconst dX7_line_14 ?_
      exact Ev.ireturn dX7_line_15 rfl (rE (by unfold CP o_line; (repeat rw [Int.toNat_natCast]); rw [ifP_t (by omega)]; exact ⟨rfl, hC, (fun _ _ => rfl)⟩))

set_option maxRecDepth 100000 in
set_option maxHeartbeats 4000000 in
theorem c_says {g : GC} (s : SS) (σ : Sg) (hC : CI s σ) (l : Int) (h_l : inR l) (x : Int) (h_x : inR x) (k : Int) (h_k : inR k) (v : Int) (h_v : inR v) : Ev g mX7_says 0 [some (vR (0)), some (vI (l)), some (vI (x)), some (vI (k)), some (vI (v))] [] (M0 (σ)) 0 0 (retE (CP σ (o_says s l x k v))) := by
  obtain ⟨hk1, hk2, hk3, hk4, hk5, hk6, hk7, hk8, hk9⟩ := id hC
  have hU := hk1.1
  have hN := hk2.1
  have hD := hk4.1
  have hM := hk7.1
  have hQ := hk5.1
  refine Ev.aload_n dX7_says_0 rfl rfl ?_
  refine Ev.iload_n dX7_says_1 rfl rfl ?_
  refine Ev.callV_I (M2 := mX7_isLine) (args2 := [vI (l)]) (rcv := 0) (q := (RX7, TX7, 20)) (ci := 7) dX7_says_2 okX7_isLine lk_X7_266 ovX7_isLine.1.1 ovX7_isLine.1.2 ovX7_isLine.2 (by decide) rfl rfl ltc_0 shc_0 rfl (Nat.le_of_ble_eq_true rfl) (Nat.le_of_ble_eq_true rfl) (s7_isLine σ (sM s) hM hk7.2.1 (l) ⟨by omega, by omega⟩) ?_ rfl
  refine Ev.if_eq (tgt := 16) bI_inR dX7_says_5 (by decide) (fun h5 => ?_) (fun h5 => ?_)
  · skip
    have q5 := bI_0.mp h5
    refine Ev.iconst dX7_says_16 ?_
    exact Ev.ireturn dX7_says_17 rfl (rE (by unfold CP o_says; (repeat rw [Int.toNat_natCast]); rw [ifP_t (by first | exact fun z => absurd z.1 (by omega) | exact fun z => absurd z.2 (by omega))]; exact ⟨rfl, hC, (fun _ _ => rfl)⟩))
  · skip
    have q5 := bI_1.mp h5
    refine Ev.aload_n dX7_says_8 rfl rfl ?_
    refine Ev.iload_n dX7_says_9 rfl rfl ?_
    refine Ev.callV_I (M2 := mX7_isUnknown) (args2 := [vI (x)]) (rcv := 0) (q := (RX7, TX7, 20)) (ci := 7) dX7_says_10 okX7_isUnknown lk_X7_94 ovX7_isUnknown.1.1 ovX7_isUnknown.1.2 ovX7_isUnknown.2 (by decide) rfl rfl ltc_0 shc_0 rfl (Nat.le_of_ble_eq_true rfl) (Nat.le_of_ble_eq_true rfl) (s7_isUnknown σ (sU s) hU hk1.2.1 (x) ⟨by omega, by omega⟩) ?_ rfl
    refine Ev.if_ne (tgt := 18) bI_inR dX7_says_13 (by decide) (fun h13 => ?_) (fun h13 => ?_)
    · skip
      have q13 := bI_1.mp h13
      obtain ⟨kl, rfl⟩ : ∃ n_ : Nat, l = (n_ : Int) := ⟨l.toNat, by omega⟩
      obtain ⟨kx, rfl⟩ : ∃ n_ : Nat, x = (n_ : Int) := ⟨x.toNat, by omega⟩
      have hLk := hk7.2.2.1 kl (by omega)
      have hn6 := hLk.2.1.1.2.1
      have hk5L := hLk.2.2.1
      refine Ev.iload_n dX7_says_18 rfl rfl ?_
      refine Ev.iload dX7_says_19 rfl ?_
      refine Ev.callS_I (M2 := mX7_isLiteral) (args2 := [vI (k), vI (v)]) dX7_says_21 okX7_isLiteral lk_X7_143 osX7_isLiteral.1 osX7_isLiteral.2 (by decide) rfl (Nat.le_of_ble_eq_true rfl) (Nat.le_of_ble_eq_true rfl) (s7_isLiteral σ (k) (v) ⟨by omega, by omega⟩ ⟨by omega, by omega⟩) ?_ rfl
      refine Ev.if_ne (tgt := 30) bI_inR dX7_says_24 (by decide) (fun h24 => ?_) (fun h24 => ?_)
      · skip
        have q24 := bI_1.mp h24
        obtain ⟨kv, rfl⟩ : ∃ n_ : Nat, v = (n_ : Int) := ⟨v.toNat, by omega⟩
        refine Ev.aload_n dX7_says_30 rfl rfl ?_
        refine gf_X7_39 rfl dX7_says_31 ltc_0 shc_0 rfc_0_12 ?_
        refine Ev.iload_n dX7_says_34 rfl rfl ?_
        refine Ev.raload dX7_says_35 ltc_22 shc_22 (by decide) (by omega) (by omega) (rf_line (by omega)) ?_
        refine gf_X7_137 (x := ((rN (sL s kl) : Nat) : Int)) rfl dX7_says_36 (lt_rc (by omega)) (sh_rc (by omega)) (hk7.2.2.1 kl (by omega)).1.2.2.2.1 ?_
        refine Ev.bipush (n := 6) (by decide) dX7_says_39 ?_
        refine Ev.icmp_lt (tgt := 47) ⟨by omega, by omega⟩ ⟨by decide, by decide⟩ dX7_says_41 (by decide) (fun h41 => ?_) (fun h41 => ?_)
        · skip
          refine Ev.aload_n dX7_says_47 rfl rfl ?_
          refine gf_X7_39 rfl dX7_says_48 ltc_0 shc_0 rfc_0_12 ?_
          refine Ev.iload_n dX7_says_51 rfl rfl ?_
          refine Ev.raload dX7_says_52 ltc_22 shc_22 (by decide) (by omega) (by omega) (rf_line (by omega)) ?_
          refine Ev.iload_n dX7_says_53 rfl rfl ?_
          refine Ev.iload_n dX7_says_54 rfl rfl ?_
          refine Ev.iload dX7_says_55 rfl ?_
          refine Ev.callS_I (M2 := mX7_numbersSo) (args2 := [vI (k), vI (((kv : Nat) : Int))]) dX7_says_57 okX7_numbersSo lk_X7_147 osX7_numbersSo.1 osX7_numbersSo.2 (by decide) rfl (Nat.le_of_ble_eq_true rfl) (Nat.le_of_ble_eq_true rfl) (s7_numbersSo σ (k) kv (by omega) (by omega)) ?_ rfl
          refine Ev.iconst dX7_says_60 ?_
          refine Ev.callV_V (M2 := mX3_join) (args2 := [vI (((kx : Nat) : Int)), vI (((nS (k) kv : Nat) : Int)), vI (0)]) (rcv := 26 + 4 * ((16 + kl))) (q := (RX3, TX3, 8)) (ci := 3) dX7_says_61 okX3_join lk_X7_140 ovX3_join.1.1 ovX3_join.1.2 ovX3_join.2 (by decide) rfl rfl (lt_rc (by omega)) (sh_rc (by omega)) rfl (Nat.le_of_ble_eq_true rfl) (Nat.le_of_ble_eq_true rfl) (s3_join σ (16 + kl) (by omega) (rN (sL s kl)) (memM (sL s kl)) kx (by omega) hLk.1.2.2.2.1 hLk.1.2.2.2.2.1 memM_lt (by omega) (nS k kv : Int) 0) ?_ rfl
          refine Ev.aload_n dX7_says_64 rfl rfl ?_
          refine gf_X7_39 rfl dX7_says_65 ltc_0 shc_0 rfc_0_12 ?_
          refine Ev.iload_n dX7_says_68 rfl rfl ?_
          refine Ev.raload dX7_says_69 ltc_22 shc_22 (by decide) (by omega) (by omega) (rf_line (by omega)) ?_
          refine gf_X7_137 (x := (((rN (sL s kl) + 1) : Nat) : Int)) rfl dX7_says_70 (lt_rc (by omega)) (sh_rc (by omega)) (show (upC (upC (upC (upC (upC σ (26 + 4 * (16 + kl) + 1) (rN (sL s kl)) (kx : Int)) (26 + 4 * (16 + kl) + 2) (rN (sL s kl)) (nS k kv : Int)) (26 + 4 * (16 + kl) + 3) (rN (sL s kl)) 0) (26 + 4 * (16 + kl)) 3 ((rN (sL s kl) + 1 : Nat) : Int)) (26 + 4 * (16 + kl)) 4 ((memM (sL s kl) ||| 2 ^ kx : Nat) : Int)) (26 + 4 * ((16 + kl))) 3 = (((rN (sL s kl) + 1) : Nat) : Int) from ((upC_self (by decide)).trans upC_at)) ?_
          exact Ev.ireturn dX7_says_73 rfl (rE (by unfold CP o_says; (repeat rw [Int.toNat_natCast]); rw [ifP_f (fun z => z ⟨⟨by omega, by omega⟩, ⟨by omega, by omega⟩⟩), ifP_f (fun z => z ⟨⟨by omega, by omega⟩, ⟨by omega, by omega⟩⟩), ifP_f (by show ¬ 6 ≤ rN (sL s kl); omega)]; exact ⟨(by show _ = ((rN (sL s kl) : Nat) : Int) + 1; omega), ⟨(hk1.cg ((congrFun (upC_ne (by omega)) 2).trans ((congrFun (upC_ne (by omega)) 2).trans ((congrFun (upC_ne (by omega)) 2).trans ((congrFun (upC_ne (by omega)) 2).trans ((congrFun (upC_ne (by omega)) 2).trans rfl))))) (fun c q1 q2 => ((upC_ne (by omega)).trans ((upC_ne (by omega)).trans ((upC_ne (by omega)).trans ((upC_ne (by omega)).trans ((upC_ne (by omega)).trans rfl))))))), (hk2.cg ((congrFun (upC_ne (by omega)) 4).trans ((congrFun (upC_ne (by omega)) 4).trans ((congrFun (upC_ne (by omega)) 4).trans ((congrFun (upC_ne (by omega)) 4).trans ((congrFun (upC_ne (by omega)) 4).trans rfl))))) ((congrFun (upC_ne (by omega)) 5).trans ((congrFun (upC_ne (by omega)) 5).trans ((congrFun (upC_ne (by omega)) 5).trans ((congrFun (upC_ne (by omega)) 5).trans ((congrFun (upC_ne (by omega)) 5).trans rfl))))) (fun c q1 q2 => ((upC_ne (by omega)).trans ((upC_ne (by omega)).trans ((upC_ne (by omega)).trans ((upC_ne (by omega)).trans ((upC_ne (by omega)).trans rfl))))))), (hk3.cg (fun c q1 q2 => ((upC_ne (by omega)).trans ((upC_ne (by omega)).trans ((upC_ne (by omega)).trans ((upC_ne (by omega)).trans ((upC_ne (by omega)).trans rfl))))))), (hk4.cg (fun c q1 q2 _ => ((upC_ne (by omega)).trans ((upC_ne (by omega)).trans ((upC_ne (by omega)).trans ((upC_ne (by omega)).trans ((upC_ne (by omega)).trans rfl))))))), (hk5.cg ((congrFun (upC_ne (by omega)) 9).trans ((congrFun (upC_ne (by omega)) 9).trans ((congrFun (upC_ne (by omega)) 9).trans ((congrFun (upC_ne (by omega)) 9).trans ((congrFun (upC_ne (by omega)) 9).trans rfl))))) ((upC_ne (by omega)).trans ((upC_ne (by omega)).trans ((upC_ne (by omega)).trans ((upC_ne (by omega)).trans ((upC_ne (by omega)).trans rfl)))))), (hk6.cg ((congrFun (upC_ne (by omega)) 11).trans ((congrFun (upC_ne (by omega)) 11).trans ((congrFun (upC_ne (by omega)) 11).trans ((congrFun (upC_ne (by omega)) 11).trans ((congrFun (upC_ne (by omega)) 11).trans rfl))))) ((upC_ne (by omega)).trans ((upC_ne (by omega)).trans ((upC_ne (by omega)).trans ((upC_ne (by omega)).trans ((upC_ne (by omega)).trans rfl)))))), (k7_add hk7 (show kx < 10 by omega) (show kl < sM s by omega) (hLk.2.1.add (by omega) (by omega) ⟨fun z => by omega, fun z => by omega, fun z => ⟨by omega, by have := nS_lt (k := k) (show kv < 16 by omega); omega⟩⟩ (fun z => by omega)) ((congrFun (upC_ne (by omega)) 14).trans ((congrFun (upC_ne (by omega)) 14).trans ((congrFun (upC_ne (by omega)) 14).trans ((congrFun (upC_ne (by omega)) 14).trans ((congrFun (upC_ne (by omega)) 14).trans rfl))))) ((upC_ne (by omega)).trans ((upC_ne (by omega)).trans ((upC_ne (by omega)).trans ((upC_ne (by omega)).trans ((upC_ne (by omega)).trans rfl))))) (fun c q1 q2 => rfl)), ((congrFun (upC_ne (by omega)) 15).trans ((congrFun (upC_ne (by omega)) 15).trans ((congrFun (upC_ne (by omega)) 15).trans ((congrFun (upC_ne (by omega)) 15).trans ((congrFun (upC_ne (by omega)) 15).trans hk8))))), ((congrFun (upC_ne (by omega)) 0).trans ((congrFun (upC_ne (by omega)) 0).trans ((congrFun (upC_ne (by omega)) 0).trans ((congrFun (upC_ne (by omega)) 0).trans ((congrFun (upC_ne (by omega)) 0).trans hk9)))))⟩, (fun c q1 => ((upC_ne (by omega)).trans ((upC_ne (by omega)).trans ((upC_ne (by omega)).trans ((upC_ne (by omega)).trans ((upC_ne (by omega)).trans rfl))))))⟩))
        · skip
          refine Ev.bipush (n := -4) (by decide) dX7_says_44 ?_
          exact Ev.ireturn dX7_says_46 rfl (rE (by unfold CP o_says; (repeat rw [Int.toNat_natCast]); rw [ifP_f (fun z => z ⟨⟨by omega, by omega⟩, ⟨by omega, by omega⟩⟩), ifP_f (fun z => z ⟨⟨by omega, by omega⟩, ⟨by omega, by omega⟩⟩), ifP_t (by show 6 ≤ rN (sL s kl); omega)]; exact ⟨rfl, hC, (fun _ _ => rfl)⟩))
      · skip
        have q24 := bI_0.mp h24
        refine Ev.bipush (n := -2) (by decide) dX7_says_27 ?_
        exact Ev.ireturn dX7_says_29 rfl (rE (by unfold CP o_says; (repeat rw [Int.toNat_natCast]); rw [ifP_f (fun z => z ⟨⟨by omega, by omega⟩, ⟨by omega, by omega⟩⟩), ifP_t q24]; exact ⟨rfl, hC, (fun _ _ => rfl)⟩))
    · skip
      have q13 := bI_0.mp h13
      refine Ev.iconst dX7_says_16 ?_
      exact Ev.ireturn dX7_says_17 rfl (rE (by unfold CP o_says; (repeat rw [Int.toNat_natCast]); rw [ifP_t (by first | exact fun z => absurd z.1 (by omega) | exact fun z => absurd z.2 (by omega))]; exact ⟨rfl, hC, (fun _ _ => rfl)⟩))

set_option maxRecDepth 100000 in
set_option maxHeartbeats 4000000 in
theorem c_forge {g : GC} (s : SS) (σ : Sg) (hC : CI s σ) (l : Int) (h_l : inR l) (j : Int) (h_j : inR j) (k : Int) (h_k : inR k) (v : Int) (h_v : inR v) : Ev g mX7_forge 0 [some (vR (0)), some (vI (l)), some (vI (j)), some (vI (k)), some (vI (v))] [] (M0 (σ)) 0 0 (retE (CP σ (o_forge s l j k v))) := by
  obtain ⟨hk1, hk2, hk3, hk4, hk5, hk6, hk7, hk8, hk9⟩ := id hC
  have hU := hk1.1
  have hN := hk2.1
  have hD := hk4.1
  have hM := hk7.1
  have hQ := hk5.1
  refine Ev.aload_n dX7_forge_0 rfl rfl ?_
  refine Ev.iload_n dX7_forge_1 rfl rfl ?_
  refine Ev.callV_I (M2 := mX7_isLine) (args2 := [vI (l)]) (rcv := 0) (q := (RX7, TX7, 20)) (ci := 7) dX7_forge_2 okX7_isLine lk_X7_266 ovX7_isLine.1.1 ovX7_isLine.1.2 ovX7_isLine.2 (by decide) rfl rfl ltc_0 shc_0 rfl (Nat.le_of_ble_eq_true rfl) (Nat.le_of_ble_eq_true rfl) (s7_isLine σ (sM s) hM hk7.2.1 (l) ⟨by omega, by omega⟩) ?_ rfl
  refine Ev.if_eq (tgt := 25) bI_inR dX7_forge_5 (by decide) (fun h5 => ?_) (fun h5 => ?_)
  · skip
    have q5 := bI_0.mp h5
    refine Ev.iconst dX7_forge_25 ?_
    exact Ev.ireturn dX7_forge_26 rfl (rE (by unfold CP o_forge; (repeat rw [Int.toNat_natCast]); rw [ifP_t (by first | exact fun z => absurd z.1 (by omega) | exact fun z => absurd z.2.1 (by omega) | exact fun z => absurd z.2.2 (by show ¬ (_ : Int) < ((rN (sL s kl) : Nat) : Int); omega))]; exact ⟨rfl, hC, (fun _ _ => rfl)⟩))
  · skip
    have q5 := bI_1.mp h5
    obtain ⟨kl, rfl⟩ : ∃ n_ : Nat, l = (n_ : Int) := ⟨l.toNat, by omega⟩
    have hLk := hk7.2.2.1 kl (by omega)
    have hn6 := hLk.2.1.1.2.1
    refine Ev.iload_n dX7_forge_8 rfl rfl ?_
    refine Ev.if_lt (tgt := 25) ⟨by omega, by omega⟩ dX7_forge_9 (by decide) (fun h9 => ?_) (fun h9 => ?_)
    · skip
      refine Ev.iconst dX7_forge_25 ?_
      exact Ev.ireturn dX7_forge_26 rfl (rE (by unfold CP o_forge; (repeat rw [Int.toNat_natCast]); rw [ifP_t (by first | exact fun z => absurd z.1 (by omega) | exact fun z => absurd z.2.1 (by omega) | exact fun z => absurd z.2.2 (by show ¬ (_ : Int) < ((rN (sL s kl) : Nat) : Int); omega))]; exact ⟨rfl, hC, (fun _ _ => rfl)⟩))
    · skip
      refine Ev.iload_n dX7_forge_12 rfl rfl ?_
      refine Ev.aload_n dX7_forge_13 rfl rfl ?_
      refine gf_X7_39 rfl dX7_forge_14 ltc_0 shc_0 rfc_0_12 ?_
      refine Ev.iload_n dX7_forge_17 rfl rfl ?_
      refine Ev.raload dX7_forge_18 ltc_22 shc_22 (by decide) (by omega) (by omega) (rf_line (by omega)) ?_
      refine gf_X7_137 (x := ((rN (sL s kl) : Nat) : Int)) rfl dX7_forge_19 (lt_rc (by omega)) (sh_rc (by omega)) (hk7.2.2.1 kl (by omega)).1.2.2.2.1 ?_
      refine Ev.icmp_lt (tgt := 27) ⟨by omega, by omega⟩ ⟨by omega, by omega⟩ dX7_forge_22 (by decide) (fun h22 => ?_) (fun h22 => ?_)
      · skip
        obtain ⟨kj, rfl⟩ : ∃ n_ : Nat, j = (n_ : Int) := ⟨j.toNat, by omega⟩
        refine Ev.iload_n dX7_forge_27 rfl rfl ?_
        refine Ev.iload dX7_forge_28 rfl ?_
        refine Ev.callS_I (M2 := mX7_isLiteral) (args2 := [vI (k), vI (v)]) dX7_forge_30 okX7_isLiteral lk_X7_143 osX7_isLiteral.1 osX7_isLiteral.2 (by decide) rfl (Nat.le_of_ble_eq_true rfl) (Nat.le_of_ble_eq_true rfl) (s7_isLiteral σ (k) (v) ⟨by omega, by omega⟩ ⟨by omega, by omega⟩) ?_ rfl
        refine Ev.if_ne (tgt := 39) bI_inR dX7_forge_33 (by decide) (fun h33 => ?_) (fun h33 => ?_)
        · skip
          have q33 := bI_1.mp h33
          obtain ⟨kv, rfl⟩ : ∃ n_ : Nat, v = (n_ : Int) := ⟨v.toNat, by omega⟩
          have hnl : nS k kv < 65536 := nS_lt (by omega)
          refine Ev.aload_n dX7_forge_39 rfl rfl ?_
          refine gf_X7_39 rfl dX7_forge_40 ltc_0 shc_0 rfc_0_12 ?_
          refine Ev.iload_n dX7_forge_43 rfl rfl ?_
          refine Ev.raload dX7_forge_44 ltc_22 shc_22 (by decide) (by omega) (by omega) (rf_line (by omega)) ?_
          refine gf_X7_269 rfl dX7_forge_45 (lt_rc (by omega)) (sh_rc (by omega)) (rf_rc6 (by omega)) ?_
          refine Ev.iload_n dX7_forge_48 rfl rfl ?_
          refine Ev.iload_n dX7_forge_49 rfl rfl ?_
          refine Ev.iload dX7_forge_50 rfl ?_
          refine Ev.callS_I (M2 := mX7_numbersSo) (args2 := [vI (k), vI (((kv : Nat) : Int))]) dX7_forge_52 okX7_numbersSo lk_X7_147 osX7_numbersSo.1 osX7_numbersSo.2 (by decide) rfl (Nat.le_of_ble_eq_true rfl) (Nat.le_of_ble_eq_true rfl) (s7_numbersSo σ (k) kv (by omega) (by omega)) ?_ rfl
          refine Ev.iastore dX7_forge_55 (lt_rcf (by omega) (by decide)) (sh_rc2 (by omega)) (by decide) (by omega) (by omega) ?_
          refine Ev.mem (τ := upC σ (26 + 4 * (16 + kl) + 2) kj (nS k kv : Int)) (by simp only [Int.toNat_natCast]) ?_
          refine Ev.iconst dX7_forge_56 ?_
          exact Ev.ireturn dX7_forge_57 rfl (rE (by unfold CP o_forge; (repeat rw [Int.toNat_natCast]); rw [ifP_f (fun z => z ⟨⟨by omega, by omega⟩, by omega, by omega⟩), ifP_f (fun z => z ⟨⟨by omega, by omega⟩, ⟨by omega, by omega⟩⟩)]; exact ⟨rfl, ⟨(hk1.cg ((congrFun (upC_ne (by omega)) 2).trans rfl) (fun c q1 q2 => ((upC_ne (by omega)).trans rfl))), (hk2.cg ((congrFun (upC_ne (by omega)) 4).trans rfl) ((congrFun (upC_ne (by omega)) 5).trans rfl) (fun c q1 q2 => ((upC_ne (by omega)).trans rfl))), (hk3.cg (fun c q1 q2 => ((upC_ne (by omega)).trans rfl))), (hk4.cg (fun c q1 q2 _ => ((upC_ne (by omega)).trans rfl))), (hk5.cg ((congrFun (upC_ne (by omega)) 9).trans rfl) ((upC_ne (by omega)).trans rfl)), (hk6.cg ((congrFun (upC_ne (by omega)) 11).trans rfl) ((upC_ne (by omega)).trans rfl)), (k7_set hk7 (show kl < sM s by omega) ⟨by omega, by omega⟩ ((congrFun (upC_ne (by omega)) 14).trans rfl) ((upC_ne (by omega)).trans rfl) (fun c q1 q2 => rfl)), ((congrFun (upC_ne (by omega)) 15).trans hk8), ((congrFun (upC_ne (by omega)) 0).trans hk9)⟩, (fun c q1 => ((upC_ne (by omega)).trans rfl))⟩))
        · skip
          have q33 := bI_0.mp h33
          refine Ev.bipush (n := -2) (by decide) dX7_forge_36 ?_
          exact Ev.ireturn dX7_forge_38 rfl (rE (by unfold CP o_forge; (repeat rw [Int.toNat_natCast]); rw [ifP_f (fun z => z ⟨⟨by omega, by omega⟩, by omega, by omega⟩), ifP_t q33]; exact ⟨rfl, hC, (fun _ _ => rfl)⟩))
      · skip
        refine Ev.iconst dX7_forge_25 ?_
        exact Ev.ireturn dX7_forge_26 rfl (rE (by unfold CP o_forge; (repeat rw [Int.toNat_natCast]); rw [ifP_t (by first | exact fun z => absurd z.1 (by omega) | exact fun z => absurd z.2.1 (by omega) | exact fun z => absurd z.2.2 (by show ¬ (_ : Int) < ((rN (sL s kl) : Nat) : Int); omega))]; exact ⟨rfl, hC, (fun _ _ => rfl)⟩))

set_option maxRecDepth 100000 in
set_option maxHeartbeats 4000000 in
theorem s7_cf_l {g : GC} (s : SS) (σ : Sg) (hC : CI s σ) (l : Nat) (hl : l < sM s) : ∀ j K : Nat, K + j = rN (sL s l) → ∀ τ : Sg, Same [24] σ τ → AZ τ 24 (sU s) (cutF (sL s l) (sG s) K) → Ev g mX7_cutToldByFalse 13 [some (vR (0)), some (vR (26 + 4 * ((16 + l)))), some (vI (((K : Nat) : Int)))] [] (M0 (τ)) 0 0 (retE (fun v τ => v = bI (∀ x, x < sU s → cutL s l x ≠ 0) ∧ Same [24] σ τ ∧ AZ τ 24 (sU s) (cutL s l))) := by
  intro j
  induction j with
  | zero =>
    intro K hij τ hF hY
    obtain ⟨hk1, hk2, hk3, hk4, hk5, hk6, hk7, hk8, hk9⟩ := id hC
    have hU := hk1.1
    have hN := hk2.1
    have hD := hk4.1
    have hM := hk7.1
    have hQ := hk5.1
    have hLk := hk7.2.2.1 l hl
    have hn6 := hLk.2.1.1.2.1
    refine Ev.iload_n dX7_cutToldByFalse_13 rfl rfl ?_
    refine Ev.aload_n dX7_cutToldByFalse_14 rfl rfl ?_
    refine gf_X7_137 (x := ((rN (sL s l) : Nat) : Int)) rfl dX7_cutToldByFalse_15 (lt_rc (by omega)) (sh_rc (by omega)) ((congrFun (hF _ (by simp; omega)) 3).trans hLk.1.2.2.2.1) ?_
    refine Ev.icmp_ge (tgt := 49) ⟨by omega, by omega⟩ ⟨by omega, by omega⟩ dX7_cutToldByFalse_18 (by decide) (fun h18 => ?_) (fun h18 => ?_)
    · skip
      refine Ev.aload_n dX7_cutToldByFalse_49 rfl rfl ?_
      refine Ev.aload_n dX7_cutToldByFalse_50 rfl rfl ?_
      refine gf_X7_45 rfl dX7_cutToldByFalse_51 ltc_0 shc_0 rfc_0_18 ?_
      refine Ev.callV_I (M2 := mX7_noneIsEmpty) (args2 := [vR (24)]) (rcv := 0) (q := (RX7, TX7, 20)) (ci := 7) dX7_cutToldByFalse_54 okX7_noneIsEmpty lk_X7_227 ovX7_noneIsEmpty.1.1 ovX7_noneIsEmpty.1.2 ovX7_noneIsEmpty.2 (by decide) rfl rfl ltc_0 shc_0 rfl (Nat.le_of_ble_eq_true rfl) (Nat.le_of_ble_eq_true rfl) (s7_noneIsEmpty τ (sU s) hU ((congrFun (hF 0 (by decide)) 2).trans hk1.2.1) (cutF (sL s l) (sG s) K) 24 ltc_24 shc_24 hY) ?_ rfl
      exact Ev.zreturn dX7_cutToldByFalse_57 rfl bI_or (rE (by have e : K = rN (sL s l) := (by omega); subst e; exact ⟨rfl, hF, hY⟩))
    · exact absurd h18 (by omega)
  | succ j ih =>
    intro K hij τ hF hY
    obtain ⟨hk1, hk2, hk3, hk4, hk5, hk6, hk7, hk8, hk9⟩ := id hC
    have hU := hk1.1
    have hN := hk2.1
    have hD := hk4.1
    have hM := hk7.1
    have hQ := hk5.1
    have hLk := hk7.2.2.1 l hl
    have hn6 := hLk.2.1.1.2.1
    have hxU := hLk.2.1.2.1 K (by omega)
    have hra := hLk.2.1.2.2.2.2.2.1 hLk.2.2.1 K (by omega)
    have hcl := (hY _ hxU).2
    refine Ev.iload_n dX7_cutToldByFalse_13 rfl rfl ?_
    refine Ev.aload_n dX7_cutToldByFalse_14 rfl rfl ?_
    refine gf_X7_137 (x := ((rN (sL s l) : Nat) : Int)) rfl dX7_cutToldByFalse_15 (lt_rc (by omega)) (sh_rc (by omega)) ((congrFun (hF _ (by simp; omega)) 3).trans hLk.1.2.2.2.1) ?_
    refine Ev.icmp_ge (tgt := 49) ⟨by omega, by omega⟩ ⟨by omega, by omega⟩ dX7_cutToldByFalse_18 (by decide) (fun h18 => ?_) (fun h18 => ?_)
    · exact absurd h18 (by omega)
    · skip
      refine Ev.aload_n dX7_cutToldByFalse_21 rfl rfl ?_
      refine gf_X7_45 rfl dX7_cutToldByFalse_22 ltc_0 shc_0 rfc_0_18 ?_
      refine Ev.aload_n dX7_cutToldByFalse_25 rfl rfl ?_
      refine gf_X7_288 rfl dX7_cutToldByFalse_26 (lt_rc (by omega)) (sh_rc (by omega)) (rf_rc5 (by omega)) ?_
      refine Ev.iload_n dX7_cutToldByFalse_29 rfl rfl ?_
      refine Ev.iaload (v := ((rO (sL s l) K : Nat) : Int)) dX7_cutToldByFalse_30 (lt_rcf (by omega) (by decide)) (sh_rc1 (by omega)) (by decide) (by omega) (by omega) (ldx rfl ((congrFun (hF _ (by simp; omega)) K).trans (hLk.1.2.2.2.2.2 K (by omega)).1)) ?_
      refine Ev.dup2RI dX7_cutToldByFalse_31 ?_
      refine Ev.iaload (v := (((cutF (sL s l) (sG s) K) (rO (sL s l) K) : Nat) : Int)) dX7_cutToldByFalse_32 ltc_24 shc_24 (by decide) (by omega) (Int.ofNat_lt.mpr (Nat.lt_of_lt_of_le hxU hU)) (ldx rfl (hY _ hxU).1) ?_
      refine Ev.aload_n dX7_cutToldByFalse_33 rfl rfl ?_
      refine gf_X7_269 rfl dX7_cutToldByFalse_34 (lt_rc (by omega)) (sh_rc (by omega)) (rf_rc6 (by omega)) ?_
      refine Ev.iload_n dX7_cutToldByFalse_37 rfl rfl ?_
      refine Ev.iaload (v := rA (sL s l) K) dX7_cutToldByFalse_38 (lt_rcf (by omega) (by decide)) (sh_rc2 (by omega)) (by decide) (by omega) (by omega) (ldx rfl ((congrFun (hF _ (by simp; omega)) K).trans (hLk.1.2.2.2.2.2 K (by omega)).2.1)) ?_
      refine Ev.iconst dX7_cutToldByFalse_39 ?_
      refine Ev.ixor dX7_cutToldByFalse_40 ?_
      rw [show (iXor (rA (sL s l) K) (-1)) = (-(((rA (sL s l) K).toNat : Nat) : Int) - 1) from iXor_i hra]
      refine Ev.iand dX7_cutToldByFalse_41 ?_
      rw [show (iAnd ((((cutF (sL s l) (sG s) K) (rO (sL s l) K) : Nat) : Int)) ((-(((rA (sL s l) K).toNat : Nat) : Int) - 1))) = ((andN ((cutF (sL s l) (sG s) K) (rO (sL s l) K)) (rA (sL s l) K).toNat : Nat) : Int) from iAnd_not (by omega)]
      refine Ev.iastore dX7_cutToldByFalse_42 ltc_24 shc_24 (by decide) (by omega) (Int.ofNat_lt.mpr (Nat.lt_of_lt_of_le hxU hU)) ?_
      refine Ev.iinc (pl' := [some (vR (0)), some (vR (26 + 4 * ((16 + l)))), some (vI (((K : Nat) : Int) + 1))]) dX7_cutToldByFalse_43 rfl (Nat.le_of_ble_eq_true rfl) rfl ?_
      refine Ev.goto (tgt := 13) dX7_cutToldByFalse_46 (by decide) ?_
      refine Ev.mem (τ := upC τ 24 (rO (sL s l) K) ((andN ((cutF (sL s l) (sG s) K) (rO (sL s l) K)) (rA (sL s l) K).toNat : Nat) : Int)) (by simp only [Int.toNat_natCast]) ?_
      refine Ev.wk (pl' := [some (vR (0)), some (vR (26 + 4 * ((16 + l)))), some (vI ((((K + 1) : Nat) : Int)))]) ⟨rfl, ⟨rfl, ⟨vIe (by omega), trivial⟩⟩⟩ ?_
      exact ih (K + 1) (by omega) _ (hF.up (by decide)) (hY.up (andN_lt hcl))

set_option maxRecDepth 100000 in
set_option maxHeartbeats 4000000 in
theorem s7_cutToldByFalse {g : GC} (s : SS) (σ : Sg) (hC : CI s σ) (l : Nat) (hl : l < sM s) : Ev g mX7_cutToldByFalse 0 [some (vR (0)), some (vR (26 + 4 * ((16 + l)))), none] [] (M0 (σ)) 0 0 (retE (fun v τ => v = bI (∀ x, x < sU s → cutL s l x ≠ 0) ∧ Same [24] σ τ ∧ AZ τ 24 (sU s) (cutL s l))) := by
  obtain ⟨hk1, hk2, hk3, hk4, hk5, hk6, hk7, hk8, hk9⟩ := id hC
  have hU := hk1.1
  have hN := hk2.1
  have hD := hk4.1
  have hM := hk7.1
  have hQ := hk5.1
  refine Ev.aload_n dX7_cutToldByFalse_0 rfl rfl ?_
  refine gf_X7_9 rfl dX7_cutToldByFalse_1 ltc_0 shc_0 rfc_0_0 ?_
  refine Ev.aload_n dX7_cutToldByFalse_4 rfl rfl ?_
  refine gf_X7_45 rfl dX7_cutToldByFalse_5 ltc_0 shc_0 rfc_0_18 ?_
  refine Ev.callS_V (M2 := mX7_bring) (args2 := [vR (1), vR (24)]) dX7_cutToldByFalse_8 okX7_bring lk_X7_187 osX7_bring.1 osX7_bring.2 (by decide) rfl (Nat.le_of_ble_eq_true rfl) (Nat.le_of_ble_eq_true rfl) (s7_bring σ 1 24 ltc_1 shc_1 ltc_24 shc_24) ?_ rfl
  refine Ev.iconst dX7_cutToldByFalse_11 ?_
  refine Ev.istore_n (pl' := [some (vR (0)), some (vR (26 + 4 * ((16 + l)))), some (vI (0))]) dX7_cutToldByFalse_12 rfl (Nat.le_of_ble_eq_true rfl) rfl ?_
  refine Ev.wk (pl' := [some (vR (0)), some (vR (26 + 4 * ((16 + l)))), some (vI (((0 : Nat) : Int)))]) ⟨rfl, ⟨rfl, ⟨vIe rfl, trivial⟩⟩⟩ ?_
  exact s7_cf_l s σ hC l hl (rN (sL s l)) 0 (by omega) _ (cpS (by decide)) (cp_av hU hk1.2.2.1).az

set_option maxRecDepth 100000 in
set_option maxHeartbeats 4000000 in
theorem s7_isRightByLines {g : GC} (s : SS) (σ : Sg) (hC : CI s σ) (l : Nat) (hl : l < sM s) : Ev g mX7_isRightByLines 0 [some (vR (0)), some (vI (((l : Nat) : Int)))] [] (M0 (σ)) 0 0 (retE (fun v τ => v = bI (¬ Alive (sU s) (sB s) (sSl s l) (cutL s l)) ∧ Same SC σ τ ∧ τ 263 0 = 0)) := by
  obtain ⟨hk1, hk2, hk3, hk4, hk5, hk6, hk7, hk8, hk9⟩ := id hC
  have hU := hk1.1
  have hN := hk2.1
  have hD := hk4.1
  have hM := hk7.1
  have hQ := hk5.1
  have hp1 : 1 ≤ 2 ^ l := Nat.one_le_two_pow
  refine Ev.aload_n dX7_isRightByLines_0 rfl rfl ?_
  refine Ev.aload_n dX7_isRightByLines_1 rfl rfl ?_
  refine gf_X7_39 rfl dX7_isRightByLines_2 ltc_0 shc_0 rfc_0_12 ?_
  refine Ev.iload_n dX7_isRightByLines_5 rfl rfl ?_
  refine Ev.raload dX7_isRightByLines_6 ltc_22 shc_22 (by decide) (by omega) (by omega) (rf_line (by omega)) ?_
  refine Ev.callV_G (M2 := mX7_cutToldByFalse) (args2 := [vR (26 + 4 * ((16 + l)))]) (rcv := 0) (q := (RX7, TX7, 20)) (ci := 7) dX7_isRightByLines_7 okX7_cutToldByFalse lk_X7_284 ovX7_cutToldByFalse.1.1 ovX7_cutToldByFalse.1.2 ovX7_cutToldByFalse.2 (by decide) rfl rfl ltc_0 shc_0 rfl (Nat.le_of_ble_eq_true rfl) (Nat.le_of_ble_eq_true rfl) (s7_cutToldByFalse s σ hC l hl) (fun v_ m_ hp_ => ?_) rfl
  obtain ⟨_, τ2, rfl, rfl, rfl, hF2, hY2⟩ := hp_
  have hS2 := Same24_SC hF2
  have hC := hC.scr hS2 ((congrFun (hF2 263 (by decide)) 0).trans hk9)
  obtain ⟨hk1, hk2, hk3, hk4, hk5, hk6, hk7, hk8, hk9⟩ := id hC
  have hU := hk1.1
  have hN := hk2.1
  have hD := hk4.1
  have hM := hk7.1
  have hQ := hk5.1
  show Ev g mX7_isRightByLines 10 [some (vR (0)), some (vI (((l : Nat) : Int)))] [vI (bI (∀ x, x < sU s → cutL s l x ≠ 0))] (M0 (τ2)) 0 0 _
  refine Ev.if_eq (tgt := 40) bI_inR dX7_isRightByLines_10 (by decide) (fun h10 => ?_) (fun h10 => ?_)
  · skip
    have q10 := bI_0.mp h10
    refine Ev.iconst dX7_isRightByLines_40 ?_
    exact Ev.ireturn dX7_isRightByLines_41 rfl (rE ⟨(bI_t (by first | exact q33 | exact not_em q10)), hS2, hk9⟩)
  · skip
    have q10 := bI_1.mp h10
    refine Ev.aload_n dX7_isRightByLines_13 rfl rfl ?_
    refine gf_X7_72 rfl dX7_isRightByLines_14 ltc_0 shc_0 rfc_0_16 ?_
    refine Ev.aload_n dX7_isRightByLines_17 rfl rfl ?_
    refine gf_X7_45 rfl dX7_isRightByLines_18 ltc_0 shc_0 rfc_0_18 ?_
    refine Ev.aload_n dX7_isRightByLines_21 rfl rfl ?_
    refine gf_X7_39 rfl dX7_isRightByLines_22 ltc_0 shc_0 rfc_0_12 ?_
    refine Ev.lconst 1 rfl dX7_isRightByLines_25 ?_
    refine Ev.iload_n dX7_isRightByLines_26 rfl rfl ?_
    refine Ev.lshl dX7_isRightByLines_27 ?_
    rw [show (lShl (1) (((l : Nat) : Int))) = (((2 ^ l) : Nat) : Int) from lshl1 (by omega)]
    refine Ev.lconst 1 rfl dX7_isRightByLines_28 ?_
    refine Ev.lsub dX7_isRightByLines_29 ?_
    rw [show ((((2 ^ l) : Nat) : Int) - 1) = (((2 ^ l - 1 : Nat)) : Int) by omega]
    refine Ev.callV_G (M2 := mX2_run) (args2 := [vR (24), vR (22), vL ((((2 ^ l - 1) : Nat) : Int))]) (rcv := 260) (q := (RX2, TX2, 2)) (ci := 2) dX7_isRightByLines_30 okX2_run lk_X7_191 ovX2_run.1.1 ovX2_run.1.2 ovX2_run.2 (by decide) rfl rfl ltc_260 shc_260 rfl (Nat.le_of_ble_eq_true rfl) (Nat.le_of_ble_eq_true rfl) (s2_run τ2 (sU s) (sB s) hk3 22 16 40 ltc_22 shc_22 hr22 (by decide) (sL s) (2 ^ l - 1) (by have := Nat.pow_le_pow_right (show 0 < 2 by decide) (show l ≤ 40 by omega); omega) (fun r hr hb => by have := below_tb.mp hb; exact ⟨(hk7.2.2.1 r (by omega)).1, (hk7.2.2.1 r (by omega)).2.1⟩) hU (cutL s l) (hY2.av q10) hk9) (fun v_ m_ hp_ => ?_) rfl
    obtain ⟨_, τ3, rfl, rfl, rfl, hF3, hJ3, -⟩ := hp_
    show Ev g mX7_isRightByLines 33 [some (vR (0)), some (vI (((l : Nat) : Int)))] [vI (bI (Alive (sU s) (sB s) (sSl s l) (cutL s l)))] (M0 (τ3)) 0 0 _
    refine Ev.if_eq (tgt := 40) bI_inR dX7_isRightByLines_33 (by decide) (fun h33 => ?_) (fun h33 => ?_)
    · skip
      have q33 := bI_0.mp h33
      refine Ev.iconst dX7_isRightByLines_40 ?_
      exact Ev.ireturn dX7_isRightByLines_41 rfl (rE ⟨(bI_t (by first | exact q33 | exact not_em q10)), hS2.tr (WK_SC hF3), hJ3⟩)
    · skip
      have q33 := bI_1.mp h33
      refine Ev.iconst dX7_isRightByLines_36 ?_
      refine Ev.goto (tgt := 41) dX7_isRightByLines_37 (by decide) ?_
      exact Ev.ireturn dX7_isRightByLines_41 rfl (rE ⟨(bI_f (fun z => z q33)), hS2.tr (WK_SC hF3), hJ3⟩)

set_option maxRecDepth 100000 in
set_option maxHeartbeats 4000000 in
theorem s7_irr_l {g : GC} (s : SS) (σ : Sg) (l r : Nat) (hl : l < sM s) (hr : r < sN s) (hon : ¬ (sW s).testBit r = false) (hw : ¬ 20000 < wys (tM s l r) (sU s)) (ρ : Sg) (hC : CI s ρ) (hSr : Same SC σ ρ) (hal : (Alive (sU s) (sB s) (sSr s r) (cutL s l))) (hX : AV ρ 24 (sU s) (narX (sU s) (sB s) (sSr s r) (cutL s l))) : ∀ j x : Nat, x + j = sU s → ∀ τ : Sg, Same [24] ρ τ → OneW τ (sU s) (sR s r) (narX (sU s) (sB s) (sSr s r) (cutL s l)) x → Ev g mX7_isRightByRule 86 [some (vR (0)), none, some (vI (((r : Nat) : Int))), none, some (vR (26 + 4 * r)), some (vI (((x : Nat) : Int)))] [] (M0 (τ)) 0 0 (retE (fun v τ => v = howR s l r ∧ Same SC σ τ ∧ τ 263 0 = 0)) := by
  intro j
  induction j with
  | zero =>
    intro x hij τ hF hO
    obtain ⟨hk1, hk2, hk3, hk4, hk5, hk6, hk7, hk8, hk9⟩ := id hC
    have hU := hk1.1
    have hN := hk2.1
    have hD := hk4.1
    have hM := hk7.1
    have hQ := hk5.1
    have hRr := hk2.2.2.2.2.1 r hr
    have hLl := hk7.2.2.1 l hl
    have hpr := pow_le16 (show r < 16 by omega)
    refine Ev.iload dX7_isRightByRule_86 rfl ?_
    refine Ev.aload_n dX7_isRightByRule_88 rfl rfl ?_
    refine gf_X7_88 (x := ((sU s : Nat) : Int)) rfl dX7_isRightByRule_89 ltc_0 shc_0 ((congrFun (hF 0 (by decide)) 2).trans hk1.2.1) ?_
    refine Ev.icmp_ge (tgt := 129) ⟨by omega, by omega⟩ ⟨by omega, by omega⟩ dX7_isRightByRule_92 (by decide) (fun h92 => ?_) (fun h92 => ?_)
    · skip
      have hYo : AV τ 24 (sU s) (oneY (sR s r) (narX (sU s) (sB s) (sSr s r) (cutL s l))) := fun y hy => ⟨(hO y hy).1 (by omega), by by_cases e : ofR (sR s r) y; (rw [oneY_t e]; exact (hX y hy).2); (rw [oneY_f e]; have hlo := lo_lt (hX y hy).2.2 (hX y hy).2.1; have h1 := pow_le16 hlo; have h2 : 1 ≤ 2 ^ lo ((narX (sU s) (sB s) (sSr s r) (cutL s l)) y) := Nat.one_le_two_pow; exact ⟨by omega, by omega⟩)⟩
      refine Ev.aload_n dX7_isRightByRule_129 rfl rfl ?_
      refine gf_X7_81 rfl dX7_isRightByRule_130 ltc_0 shc_0 rfc_0_17 ?_
      refine Ev.aload_n dX7_isRightByRule_133 rfl rfl ?_
      refine gf_X7_45 rfl dX7_isRightByRule_134 ltc_0 shc_0 rfc_0_18 ?_
      refine Ev.aload_n dX7_isRightByRule_137 rfl rfl ?_
      refine gf_X7_88 (x := ((sU s : Nat) : Int)) rfl dX7_isRightByRule_138 ltc_0 shc_0 ((congrFun (hF 0 (by decide)) 2).trans hk1.2.1) ?_
      refine Ev.aload_n dX7_isRightByRule_141 rfl rfl ?_
      refine gf_X7_18 rfl dX7_isRightByRule_142 ltc_0 shc_0 rfc_0_3 ?_
      refine Ev.lconst 1 rfl dX7_isRightByRule_145 ?_
      refine Ev.iload_n dX7_isRightByRule_146 rfl rfl ?_
      refine Ev.lshl dX7_isRightByRule_147 ?_
      rw [show (lShl (1) (((r : Nat) : Int))) = (((2 ^ r) : Nat) : Int) from lshl1 (by omega)]
      refine Ev.iconst dX7_isRightByRule_148 ?_
      refine Ev.callV_G (M2 := mX4_find) (args2 := [vR (24), vI (((sU s : Nat) : Int)), vR (3), vL ((((2 ^ r) : Nat) : Int)), vI (1)]) (rcv := 266) (q := (RX4, TX4, 6)) (ci := 4) dX7_isRightByRule_149 okX4_find lk_X7_246 ovX4_find.1.1 ovX4_find.1.2 ovX4_find.2 (by decide) rfl rfl ltc_266 shc_266 rfl (Nat.le_of_ble_eq_true rfl) (Nat.le_of_ble_eq_true rfl) (s4_find τ (sU s) hU (oneY (sR s r) (narX (sU s) (sB s) (sSr s r) (cutL s l))) 24 ltc_24 shc_24 (by decide) hYo (sR s) (2 ^ r) (by omega) (fun q _ hb => by rw [← tb_pow.mp hb]; exact ⟨hRr.1.cg (fun c q1 q2 => hF c (by simp; omega)), hRr.2⟩) (sB s) (hk3.cg (fun c q1 q2 => hF c (by simp; omega))) 1 ⟨by decide, by decide⟩ (Nat.le_trans (oneY_wys (fun x hx => (hk1.2.2.1 x hx).2) hal (Nat.le_refl _)) (by omega))) (fun v_ m_ hp_ => ?_) rfl
      obtain ⟨_, τ4, rfl, rfl, rfl, hF4, -⟩ := hp_
      have hfa := fa_iff (T := sB s) (syr (s := s) (r := r) (by omega) hRr.2) (fun x hx => (hYo x hx).2.2)
      have hmn : min 1 (nAns (sU s) (sB s) (sSr s r) (oneY (sR s r) (narX (sU s) (sB s) (sSr s r) (cutL s l)))) ≤ 1 := Nat.min_le_left _ _
      show Ev g mX7_isRightByRule 152 [some (vR (0)), none, some (vI (((r : Nat) : Int))), none, some (vR (26 + 4 * r)), some (vI (((x : Nat) : Int)))] [vI (((min 1 (nAns (sU s) (sB s) (sSr s r) (oneY (sR s r) (narX (sU s) (sB s) (sSr s r) (cutL s l)))) : Nat) : Int))] (M0 (τ4)) 0 0 _
      refine Ev.if_le (tgt := 159) ⟨by omega, by omega⟩ dX7_isRightByRule_152 (by decide) (fun h152 => ?_) (fun h152 => ?_)
      · skip
        refine Ev.iconst dX7_isRightByRule_159 ?_
        exact Ev.ireturn dX7_isRightByRule_160 rfl (rE ⟨by unfold howR; rw [ifP_f hon, ifP_f hw]; exact bI_t (fun z => absurd (hfa.mpr (noR_alive (by omega) hRr.2 hLl.2.1 (fun x hx => (hk1.2.2.1 x hx).2) z).2) (by omega)), hSr.tr ((Same24_SC hF).tr (SK_SC hF4)), (congrFun (hF4 263 (by decide)) 0).trans ((congrFun (hF 263 (by decide)) 0).trans hk9)⟩)
      · skip
        refine Ev.iconst dX7_isRightByRule_155 ?_
        refine Ev.goto (tgt := 160) dX7_isRightByRule_156 (by decide) ?_
        exact Ev.ireturn dX7_isRightByRule_160 rfl (rE ⟨by unfold howR; rw [ifP_f hon, ifP_f hw]; exact bI_f (fun z => z (ans_noR (by omega) hRr.2 hLl.2.1 hal (hfa.mp (by omega)))), hSr.tr ((Same24_SC hF).tr (SK_SC hF4)), (congrFun (hF4 263 (by decide)) 0).trans ((congrFun (hF 263 (by decide)) 0).trans hk9)⟩)
    · exact absurd h92 (by omega)
  | succ j ih =>
    intro x hij τ hF hO
    obtain ⟨hk1, hk2, hk3, hk4, hk5, hk6, hk7, hk8, hk9⟩ := id hC
    have hU := hk1.1
    have hN := hk2.1
    have hD := hk4.1
    have hM := hk7.1
    have hQ := hk5.1
    have hRr := hk2.2.2.2.2.1 r hr
    have hLl := hk7.2.2.1 l hl
    have hpr := pow_le16 (show r < 16 by omega)
    have hxl := (hX x (by omega)).2
    refine Ev.iload dX7_isRightByRule_86 rfl ?_
    refine Ev.aload_n dX7_isRightByRule_88 rfl rfl ?_
    refine gf_X7_88 (x := ((sU s : Nat) : Int)) rfl dX7_isRightByRule_89 ltc_0 shc_0 ((congrFun (hF 0 (by decide)) 2).trans hk1.2.1) ?_
    refine Ev.icmp_ge (tgt := 129) ⟨by omega, by omega⟩ ⟨by omega, by omega⟩ dX7_isRightByRule_92 (by decide) (fun h92 => ?_) (fun h92 => ?_)
    · exact absurd h92 (by omega)
    · skip
      refine Ev.aload dX7_isRightByRule_95 rfl ?_
      refine Ev.iload dX7_isRightByRule_97 rfl ?_
      refine Ev.callV_I (M2 := mX3_isOf) (args2 := [vI (((x : Nat) : Int))]) (rcv := 26 + 4 * r) (q := (RX3, TX3, 8)) (ci := 3) dX7_isRightByRule_99 okX3_isOf lk_X7_134 ovX3_isOf.1.1 ovX3_isOf.1.2 ovX3_isOf.2 (by decide) rfl rfl (lt_rc (by omega)) (sh_rc (by omega)) rfl (Nat.le_of_ble_eq_true rfl) (Nat.le_of_ble_eq_true rfl) (s3_isOf τ r (sU s) (sR s r) (by omega) (hRr.1.cg (fun c q1 q2 => hF c (by simp; omega))) hRr.2 x (by omega)) ?_ rfl
      refine Ev.if_ne (tgt := 123) bI_inR dX7_isRightByRule_102 (by decide) (fun h102 => ?_) (fun h102 => ?_)
      · skip
        have q102 := bI_1.mp h102
        refine Ev.iinc (pl' := [some (vR (0)), none, some (vI (((r : Nat) : Int))), none, some (vR (26 + 4 * r)), some (vI (((x : Nat) : Int) + 1))]) dX7_isRightByRule_123 rfl (Nat.le_of_ble_eq_true rfl) rfl ?_
        refine Ev.goto (tgt := 86) dX7_isRightByRule_126 (by decide) ?_
        refine Ev.wk (pl' := [some (vR (0)), none, some (vI (((r : Nat) : Int))), none, some (vR (26 + 4 * r)), some (vI ((((x + 1) : Nat) : Int)))]) ⟨rfl, ⟨rfl, ⟨rfl, ⟨vIe (by omega), trivial⟩⟩⟩⟩ ?_
        exact ih (x + 1) (by omega) τ hF (fun y hy => ⟨fun q => by by_cases e : y = x; (rw [e, oneY_t q102]; exact (hO x (by omega)).2 (Nat.le_refl x)); (exact (hO y hy).1 (by omega)), fun q => (hO y hy).2 (by omega)⟩)
      · skip
        have q102 := bI_0.mp h102
        refine Ev.aload_n dX7_isRightByRule_105 rfl rfl ?_
        refine gf_X7_45 rfl dX7_isRightByRule_106 ltc_0 shc_0 rfc_0_18 ?_
        refine Ev.iload dX7_isRightByRule_109 rfl ?_
        refine Ev.dup2RI dX7_isRightByRule_111 ?_
        refine Ev.iaload (v := (((narX (sU s) (sB s) (sSr s r) (cutL s l)) x : Nat) : Int)) dX7_isRightByRule_112 ltc_24 shc_24 (by decide) (by omega) (by omega) (ldx rfl ((hO x (by omega)).2 (Nat.le_refl x))) ?_
        refine Ev.aload_n dX7_isRightByRule_113 rfl rfl ?_
        refine gf_X7_45 rfl dX7_isRightByRule_114 ltc_0 shc_0 rfc_0_18 ?_
        refine Ev.iload dX7_isRightByRule_117 rfl ?_
        refine Ev.iaload (v := (((narX (sU s) (sB s) (sSr s r) (cutL s l)) x : Nat) : Int)) dX7_isRightByRule_119 ltc_24 shc_24 (by decide) (by omega) (by omega) (ldx rfl ((hO x (by omega)).2 (Nat.le_refl x))) ?_
        refine Ev.ineg dX7_isRightByRule_120 ?_
        refine Ev.iand dX7_isRightByRule_121 ?_
        rw [show (iAnd ((((narX (sU s) (sB s) (sSr s r) (cutL s l)) x : Nat) : Int)) ((-(((narX (sU s) (sB s) (sSr s r) (cutL s l)) x : Nat) : Int)))) = ((2 ^ lo ((narX (sU s) (sB s) (sSr s r) (cutL s l)) x) : Nat) : Int) from low_i hxl.2 hxl.1]
        refine Ev.iastore dX7_isRightByRule_122 ltc_24 shc_24 (by decide) (by omega) (by omega) ?_
        refine Ev.iinc (pl' := [some (vR (0)), none, some (vI (((r : Nat) : Int))), none, some (vR (26 + 4 * r)), some (vI (((x : Nat) : Int) + 1))]) dX7_isRightByRule_123 rfl (Nat.le_of_ble_eq_true rfl) rfl ?_
        refine Ev.goto (tgt := 86) dX7_isRightByRule_126 (by decide) ?_
        refine Ev.mem (τ := upC τ 24 x ((2 ^ lo ((narX (sU s) (sB s) (sSr s r) (cutL s l)) x) : Nat) : Int)) (by simp only [Int.toNat_natCast]) ?_
        refine Ev.wk (pl' := [some (vR (0)), none, some (vI (((r : Nat) : Int))), none, some (vR (26 + 4 * r)), some (vI ((((x + 1) : Nat) : Int)))]) ⟨rfl, ⟨rfl, ⟨rfl, ⟨vIe (by omega), trivial⟩⟩⟩⟩ ?_
        exact ih (x + 1) (by omega) _ (hF.up (by decide)) (fun y hy => ⟨fun q => by by_cases e : y = x; (rw [e, upC_at, oneY_f q102]); (rw [upC_self e]; exact (hO y hy).1 (by omega)), fun q => by rw [upC_self (by omega)]; exact (hO y hy).2 (by omega)⟩)

set_option maxRecDepth 100000 in
set_option maxHeartbeats 4000000 in
theorem s7_isRightByRule {g : GC} (s : SS) (σ : Sg) (hC : CI s σ) (l r : Nat) (hl : l < sM s) (hr : r < sN s) : Ev g mX7_isRightByRule 0 [some (vR (0)), some (vI (((l : Nat) : Int))), some (vI (((r : Nat) : Int))), none, none, none] [] (M0 (σ)) 0 0 (retE (fun v τ => v = howR s l r ∧ Same SC σ τ ∧ τ 263 0 = 0)) := by
  obtain ⟨hk1, hk2, hk3, hk4, hk5, hk6, hk7, hk8, hk9⟩ := id hC
  have hU := hk1.1
  have hN := hk2.1
  have hD := hk4.1
  have hM := hk7.1
  have hQ := hk5.1
  have hRr := hk2.2.2.2.2.1 r hr
  have hLl := hk7.2.2.1 l hl
  have hm1 := @memM_lt (sR s r)
  have hm2 := @memM_lt (sL s l)
  have hmo : memM (sR s r) ||| memM (sL s l) < 1024 := Nat.or_lt_two_pow (n := 10) hm1 hm2
  have hpr := pow_le16 (show r < 16 by omega)
  have hcutw : ∀ x, x < sU s → (((fun x => (memM (sR s r) ||| memM (sL s l)).testBit x) x) = true → tM s l r x = sG s x) ∧ (((fun x => (memM (sR s r) ||| memM (sL s l)).testBit x) x) = false → pop (tM s l r x) = 1) := fun x hx => by
    constructor
    · intro z
      have z : (memM (sR s r) ||| memM (sL s l)).testBit x = true := z
      rw [Nat.testBit_or, Bool.or_eq_true, memM_tb hRr.2, memM_tb hLl.2.1] at z
      exact tM_t z
    · intro z
      have z : (memM (sR s r) ||| memM (sL s l)).testBit x = false := z
      have hn : ¬ (ofR (sR s r) x ∨ ofR (sL s l) x) := fun y => by
        have y2 : (memM (sR s r) ||| memM (sL s l)).testBit x = true := by
          rw [Nat.testBit_or, Bool.or_eq_true, memM_tb hRr.2, memM_tb hLl.2.1]; exact y
        rw [y2] at z; cases z
      rw [tM_f hn]
      exact pop_1
  refine Ev.aload_n dX7_isRightByRule_0 rfl rfl ?_
  refine gf_X7_39 rfl dX7_isRightByRule_1 ltc_0 shc_0 rfc_0_12 ?_
  refine Ev.iload_n dX7_isRightByRule_4 rfl rfl ?_
  refine Ev.raload dX7_isRightByRule_5 ltc_22 shc_22 (by decide) (by omega) (by omega) (rf_line (by omega)) ?_
  refine Ev.astore_n (pl' := [some (vR (0)), some (vI (((l : Nat) : Int))), some (vI (((r : Nat) : Int))), some (vR (26 + 4 * ((16 + l)))), none, none]) dX7_isRightByRule_6 rfl (Nat.le_of_ble_eq_true rfl) rfl ?_
  refine Ev.aload_n dX7_isRightByRule_7 rfl rfl ?_
  refine gf_X7_18 rfl dX7_isRightByRule_8 ltc_0 shc_0 rfc_0_3 ?_
  refine Ev.iload_n dX7_isRightByRule_11 rfl rfl ?_
  refine Ev.raload dX7_isRightByRule_12 ltc_3 shc_3 (by decide) (by omega) (by omega) (rf_rule (by omega)) ?_
  refine Ev.astore (pl' := [some (vR (0)), some (vI (((l : Nat) : Int))), some (vI (((r : Nat) : Int))), some (vR (26 + 4 * ((16 + l)))), some (vR (26 + 4 * r)), none]) dX7_isRightByRule_13 (Nat.le_of_ble_eq_true rfl) rfl ?_
  refine Ev.aload_n dX7_isRightByRule_15 rfl rfl ?_
  refine Ev.iload_n dX7_isRightByRule_16 rfl rfl ?_
  refine Ev.callV_I (M2 := mX7_stands) (args2 := [vI (((r : Nat) : Int))]) (rcv := 0) (q := (RX7, TX7, 20)) (ci := 7) dX7_isRightByRule_17 okX7_stands lk_X7_151 ovX7_stands.1.1 ovX7_stands.1.2 ovX7_stands.2 (by decide) rfl rfl ltc_0 shc_0 rfl (Nat.le_of_ble_eq_true rfl) (Nat.le_of_ble_eq_true rfl) (s7_stands σ (sW s) r (w16 hk2.2.2.2.1 hN) hk2.2.2.1 (by omega)) ?_ rfl
  refine Ev.if_ne (tgt := 25) b2_inR dX7_isRightByRule_20 (by decide) (fun h20 => ?_) (fun h20 => ?_)
  · skip
    have hon : ¬ (sW s).testBit r = false := by rw [b2_ne.mp h20]; decide
    refine Ev.aload_n dX7_isRightByRule_25 rfl rfl ?_
    refine Ev.aload_n dX7_isRightByRule_26 rfl rfl ?_
    refine gf_X7_9 rfl dX7_isRightByRule_27 ltc_0 shc_0 rfc_0_0 ?_
    refine Ev.aload dX7_isRightByRule_30 rfl ?_
    refine gf_X7_281 (x := ((memM (sR s r) : Nat) : Int)) rfl dX7_isRightByRule_32 (lt_rc (by omega)) (sh_rc (by omega)) (hk2.2.2.2.2.1 r (by omega)).1.2.2.2.2.1 ?_
    refine Ev.aload_n dX7_isRightByRule_35 rfl rfl ?_
    refine gf_X7_281 (x := ((memM (sL s l) : Nat) : Int)) rfl dX7_isRightByRule_36 (lt_rc (by omega)) (sh_rc (by omega)) (hk7.2.2.1 l (by omega)).1.2.2.2.2.1 ?_
    refine Ev.ior dX7_isRightByRule_39 ?_
    rw [show (iOr (((memM (sR s r) : Nat) : Int)) (((memM (sL s l) : Nat) : Int))) = (((memM (sR s r) ||| memM (sL s l)) : Nat) : Int) from iOr_nat (by omega) (by omega)]
    refine Ev.callV_G (M2 := mX7_countWays) (args2 := [vR (1), vI ((((memM (sR s r) ||| memM (sL s l)) : Nat) : Int))]) (rcv := 0) (q := (RX7, TX7, 20)) (ci := 7) dX7_isRightByRule_40 okX7_countWays lk_X7_253 ovX7_countWays.1.1 ovX7_countWays.1.2 ovX7_countWays.2 (by decide) rfl rfl ltc_0 shc_0 rfl (Nat.le_of_ble_eq_true rfl) (Nat.le_of_ble_eq_true rfl) (s7_countWays σ (sU s) hU hk1.2.1 (sG s) 1 ltc_1 shc_1 hk1.2.2.1 ((memM (sR s r) ||| memM (sL s l) : Nat) : Int) (fun x => (memM (sR s r) ||| memM (sL s l)).testBit x) (fun x hx => bit_nat (by omega) (by omega))) (fun v_ m_ hp_ => ?_) rfl
    obtain ⟨_, σ_, rfl, rfl, he_, n, rfl, hn1, hn2, hn3⟩ := hp_
    subst σ_
    rw [wysB_cut (Y := tM s l r) hcutw] at hn3
    show Ev g mX7_isRightByRule 43 [some (vR (0)), some (vI (((l : Nat) : Int))), some (vI (((r : Nat) : Int))), some (vR (26 + 4 * ((16 + l)))), some (vR (26 + 4 * r)), none] [vI (((n : Nat) : Int))] (M0 (σ)) 0 0 _
    refine Ev.sipush (n := 20000) (by decide) dX7_isRightByRule_43 ?_
    refine Ev.icmp_le (tgt := 52) ⟨by omega, by omega⟩ ⟨by decide, by decide⟩ dX7_isRightByRule_46 (by decide) (fun h46 => ?_) (fun h46 => ?_)
    · skip
      refine Ev.aload_n dX7_isRightByRule_52 rfl rfl ?_
      refine Ev.aload_n dX7_isRightByRule_53 rfl rfl ?_
      refine Ev.callV_G (M2 := mX7_cutToldByFalse) (args2 := [vR (26 + 4 * ((16 + l)))]) (rcv := 0) (q := (RX7, TX7, 20)) (ci := 7) dX7_isRightByRule_54 okX7_cutToldByFalse lk_X7_284 ovX7_cutToldByFalse.1.1 ovX7_cutToldByFalse.1.2 ovX7_cutToldByFalse.2 (by decide) rfl rfl ltc_0 shc_0 rfl (Nat.le_of_ble_eq_true rfl) (Nat.le_of_ble_eq_true rfl) (s7_cutToldByFalse s σ hC l hl) (fun v_ m_ hp_ => ?_) rfl
      obtain ⟨_, τ2, rfl, rfl, rfl, hF2, hY2⟩ := hp_
      have hS2 := Same24_SC hF2
      have hC := hC.scr hS2 ((congrFun (hF2 263 (by decide)) 0).trans hk9)
      obtain ⟨hk1, hk2, hk3, hk4, hk5, hk6, hk7, hk8, hk9⟩ := id hC
      have hU := hk1.1
      have hN := hk2.1
      have hD := hk4.1
      have hM := hk7.1
      have hQ := hk5.1
      show Ev g mX7_isRightByRule 57 [some (vR (0)), some (vI (((l : Nat) : Int))), some (vI (((r : Nat) : Int))), some (vR (26 + 4 * ((16 + l)))), some (vR (26 + 4 * r)), none] [vI (bI (∀ x, x < sU s → cutL s l x ≠ 0))] (M0 (τ2)) 0 0 _
      refine Ev.if_eq (tgt := 81) bI_inR dX7_isRightByRule_57 (by decide) (fun h57 => ?_) (fun h57 => ?_)
      · skip
        have q57 := bI_0.mp h57
        refine Ev.iconst dX7_isRightByRule_81 ?_
        exact Ev.ireturn dX7_isRightByRule_82 rfl (rE ⟨by unfold howR; rw [ifP_f hon, ifP_f (by omega)]; exact bI_t (fun z => by have ha := (noR_alive (by omega) hRr.2 hLl.2.1 (fun x hx => (hk1.2.2.1 x hx).2) z).1; first | exact q78 ha | exact not_em q57 ha), hS2, hk9⟩)
      · skip
        have q57 := bI_1.mp h57
        refine Ev.aload_n dX7_isRightByRule_60 rfl rfl ?_
        refine gf_X7_72 rfl dX7_isRightByRule_61 ltc_0 shc_0 rfc_0_16 ?_
        refine Ev.aload_n dX7_isRightByRule_64 rfl rfl ?_
        refine gf_X7_45 rfl dX7_isRightByRule_65 ltc_0 shc_0 rfc_0_18 ?_
        refine Ev.aload_n dX7_isRightByRule_68 rfl rfl ?_
        refine gf_X7_18 rfl dX7_isRightByRule_69 ltc_0 shc_0 rfc_0_3 ?_
        refine Ev.lconst 1 rfl dX7_isRightByRule_72 ?_
        refine Ev.iload_n dX7_isRightByRule_73 rfl rfl ?_
        refine Ev.lshl dX7_isRightByRule_74 ?_
        rw [show (lShl (1) (((r : Nat) : Int))) = (((2 ^ r) : Nat) : Int) from lshl1 (by omega)]
        refine Ev.callV_G (M2 := mX2_run) (args2 := [vR (24), vR (3), vL ((((2 ^ r) : Nat) : Int))]) (rcv := 260) (q := (RX2, TX2, 2)) (ci := 2) dX7_isRightByRule_75 okX2_run lk_X7_191 ovX2_run.1.1 ovX2_run.1.2 ovX2_run.2 (by decide) rfl rfl ltc_260 shc_260 rfl (Nat.le_of_ble_eq_true rfl) (Nat.le_of_ble_eq_true rfl) (s2_run τ2 (sU s) (sB s) hk3 3 0 16 ltc_3 shc_3 hr3 (by decide) (sR s) (2 ^ r) (by omega) (fun q _ hb => by rw [Nat.zero_add, ← tb_pow.mp hb]; exact hk2.2.2.2.2.1 r hr) hU (cutL s l) (hY2.av q57) hk9) (fun v_ m_ hp_ => ?_) rfl
        obtain ⟨_, τ3, rfl, rfl, rfl, hF3, hJ3, hX3⟩ := hp_
        have hS3 := WK_SC hF3
        have hC := hC.scr hS3 hJ3
        obtain ⟨hk1, hk2, hk3, hk4, hk5, hk6, hk7, hk8, hk9⟩ := id hC
        have hU := hk1.1
        have hN := hk2.1
        have hD := hk4.1
        have hM := hk7.1
        have hQ := hk5.1
        show Ev g mX7_isRightByRule 78 [some (vR (0)), some (vI (((l : Nat) : Int))), some (vI (((r : Nat) : Int))), some (vR (26 + 4 * ((16 + l)))), some (vR (26 + 4 * r)), none] [vI (bI (Alive (sU s) (sB s) (sSr s r) (cutL s l)))] (M0 (τ3)) 0 0 _
        refine Ev.if_ne (tgt := 83) bI_inR dX7_isRightByRule_78 (by decide) (fun h78 => ?_) (fun h78 => ?_)
        · skip
          have q78 := bI_1.mp h78
          refine Ev.iconst dX7_isRightByRule_83 ?_
          refine Ev.istore (pl' := [some (vR (0)), some (vI (((l : Nat) : Int))), some (vI (((r : Nat) : Int))), some (vR (26 + 4 * ((16 + l)))), some (vR (26 + 4 * r)), some (vI (0))]) dX7_isRightByRule_84 (Nat.le_of_ble_eq_true rfl) rfl ?_
          refine Ev.wk (pl' := [some (vR (0)), none, some (vI (((r : Nat) : Int))), none, some (vR (26 + 4 * r)), some (vI (((0 : Nat) : Int)))]) ⟨rfl, ⟨rfl, ⟨rfl, ⟨vIe rfl, trivial⟩⟩⟩⟩ ?_
          exact s7_irr_l s σ l r hl hr hon (by omega) τ3 hC (hS2.tr hS3) q78 (hX3 q78) (sU s) 0 (by omega) τ3 Same.rf (fun y hy => ⟨fun q => absurd q (by omega), fun _ => (hX3 q78 y hy).1⟩)
        · skip
          have q78 := bI_0.mp h78
          refine Ev.iconst dX7_isRightByRule_81 ?_
          exact Ev.ireturn dX7_isRightByRule_82 rfl (rE ⟨by unfold howR; rw [ifP_f hon, ifP_f (by omega)]; exact bI_t (fun z => by have ha := (noR_alive (by omega) hRr.2 hLl.2.1 (fun x hx => (hk1.2.2.1 x hx).2) z).1; first | exact q78 ha | exact not_em q57 ha), hS2.tr hS3, hk9⟩)
    · skip
      refine Ev.bipush (n := -5) (by decide) dX7_isRightByRule_49 ?_
      exact Ev.ireturn dX7_isRightByRule_51 rfl (rE ⟨by unfold howR; rw [ifP_f hon, ifP_t (by omega)], Same.rf, hk9⟩)
  · skip
    refine Ev.iconst dX7_isRightByRule_23 ?_
    exact Ev.ireturn dX7_isRightByRule_24 rfl (rE ⟨by unfold howR; rw [ifP_t (b2_0.mp (by omega))], Same.rf, hk9⟩)

set_option maxRecDepth 100000 in
set_option maxHeartbeats 4000000 in
theorem s7_chk_l {g : GC} (s : SS) (σ : Sg) : ∀ j l : Nat, l + j = sM s → ∀ τ : Sg, CI s τ → (∀ c, 272 ≤ c → τ c = σ c) → o_chk s = fw (howL s) (sM s - l) l → Ev g mX7_check 2 [some (vR (0)), some (vI (((l : Nat) : Int))), none] [] (M0 (τ)) 0 0 (retE (fun v τ => v = o_chk s ∧ CI s τ ∧ ∀ c, 272 ≤ c → τ c = σ c)) := by
  intro j
  induction j with
  | zero =>
    intro l hij τ hC hK he
    obtain ⟨hk1, hk2, hk3, hk4, hk5, hk6, hk7, hk8, hk9⟩ := id hC
    have hU := hk1.1
    have hN := hk2.1
    have hD := hk4.1
    have hM := hk7.1
    have hQ := hk5.1
    refine Ev.iload_n dX7_check_2 rfl rfl ?_
    refine Ev.aload_n dX7_check_3 rfl rfl ?_
    refine gf_X7_263 (x := ((sM s : Nat) : Int)) rfl dX7_check_4 ltc_0 shc_0 hk7.2.1 ?_
    refine Ev.icmp_ge (tgt := 62) ⟨by omega, by omega⟩ ⟨by omega, by omega⟩ dX7_check_7 (by decide) (fun h7 => ?_) (fun h7 => ?_)
    · skip
      refine Ev.bipush (n := -9) (by decide) dX7_check_62 ?_
      exact Ev.ireturn dX7_check_64 rfl (rE ⟨(by rw [he, show sM s - l = 0 by omega]; rfl), hC, hK⟩)
    · exact absurd h7 (by omega)
  | succ j ih =>
    intro l hij τ hC hK he
    obtain ⟨hk1, hk2, hk3, hk4, hk5, hk6, hk7, hk8, hk9⟩ := id hC
    have hU := hk1.1
    have hN := hk2.1
    have hD := hk4.1
    have hM := hk7.1
    have hQ := hk5.1
    have hb5 := (hk7.2.2.1 l (by omega)).2.2.2.2
    have hee : sM s - l = (sM s - (l + 1)) + 1 := by omega
    have hor := @howL_or s l
    have howI : inR (howL s l) := ⟨by omega, by omega⟩
    refine Ev.iload_n dX7_check_2 rfl rfl ?_
    refine Ev.aload_n dX7_check_3 rfl rfl ?_
    refine gf_X7_263 (x := ((sM s : Nat) : Int)) rfl dX7_check_4 ltc_0 shc_0 hk7.2.1 ?_
    refine Ev.icmp_ge (tgt := 62) ⟨by omega, by omega⟩ ⟨by omega, by omega⟩ dX7_check_7 (by decide) (fun h7 => ?_) (fun h7 => ?_)
    · exact absurd h7 (by omega)
    · skip
      refine Ev.aload_n dX7_check_10 rfl rfl ?_
      refine gf_X7_42 rfl dX7_check_11 ltc_0 shc_0 rfc_0_13 ?_
      refine Ev.iload_n dX7_check_14 rfl rfl ?_
      refine Ev.iaload (v := sK s l) dX7_check_15 ltc_23 shc_23 (by decide) (by omega) (by omega) (ldx rfl (hk7.2.2.1 l (by omega)).2.2.2.1) ?_
      refine Ev.bipush (n := -9) (by decide) dX7_check_16 ?_
      refine Ev.icmp_ne (tgt := 29) ⟨by omega, by omega⟩ ⟨by decide, by decide⟩ dX7_check_18 (by decide) (fun h18 => ?_) (fun h18 => ?_)
      · skip
        obtain ⟨kr, hkr⟩ : ∃ k : Nat, sK s l = (k : Int) := ⟨(sK s l).toNat, by omega⟩
        have hwR : howR s l kr = howL s l := by unfold howL; rw [ifP_f (by omega), hkr]; rfl
        refine Ev.aload_n dX7_check_29 rfl rfl ?_
        refine Ev.iload_n dX7_check_30 rfl rfl ?_
        refine Ev.aload_n dX7_check_31 rfl rfl ?_
        refine gf_X7_42 rfl dX7_check_32 ltc_0 shc_0 rfc_0_13 ?_
        refine Ev.iload_n dX7_check_35 rfl rfl ?_
        refine Ev.iaload (v := sK s l) dX7_check_36 ltc_23 shc_23 (by decide) (by omega) (by omega) (ldx rfl (hk7.2.2.1 l (by omega)).2.2.2.1) ?_
        rw [hkr]
        refine Ev.callV_G (M2 := mX7_isRightByRule) (args2 := [vI (((l : Nat) : Int)), vI (((kr : Nat) : Int))]) (rcv := 0) (q := (RX7, TX7, 20)) (ci := 7) dX7_check_37 okX7_isRightByRule lk_X7_275 ovX7_isRightByRule.1.1 ovX7_isRightByRule.1.2 ovX7_isRightByRule.2 (by decide) rfl rfl ltc_0 shc_0 rfl (Nat.le_of_ble_eq_true rfl) (Nat.le_of_ble_eq_true rfl) (s7_isRightByRule s τ hC l kr (by omega) (by omega)) (fun v_ m_ hp_ => ?_) rfl
        obtain ⟨_, τ2, rfl, rfl, rfl, hS1, hJ1⟩ := hp_
        rw [hwR]
        have hC := hC.scr hS1 hJ1
        have hK := fun c (h : 272 ≤ c) => (hS1 c (nSC2 h)).trans (hK c h)
        obtain ⟨hk1, hk2, hk3, hk4, hk5, hk6, hk7, hk8, hk9⟩ := id hC
        have hU := hk1.1
        have hN := hk2.1
        have hD := hk4.1
        have hM := hk7.1
        have hQ := hk5.1
        show Ev g mX7_check 40 [some (vR (0)), some (vI (((l : Nat) : Int))), none] [vI (howL s l)] (M0 (τ2)) 0 0 _
        refine Ev.istore_n (pl' := [some (vR (0)), some (vI (((l : Nat) : Int))), some (vI (howL s l))]) dX7_check_40 rfl (Nat.le_of_ble_eq_true rfl) rfl ?_
        refine Ev.iload_n dX7_check_41 rfl rfl ?_
        refine Ev.bipush (n := -5) (by decide) dX7_check_42 ?_
        refine Ev.icmp_ne (tgt := 50) howI ⟨by decide, by decide⟩ dX7_check_44 (by decide) (fun h44 => ?_) (fun h44 => ?_)
        · skip
          refine Ev.iload_n dX7_check_50 rfl rfl ?_
          refine Ev.if_ne (tgt := 56) howI dX7_check_51 (by decide) (fun h51 => ?_) (fun h51 => ?_)
          · skip
            refine Ev.iinc (pl' := [some (vR (0)), some (vI (((l : Nat) : Int) + 1)), some (vI (howL s l))]) dX7_check_56 rfl (Nat.le_of_ble_eq_true rfl) rfl ?_
            refine Ev.goto (tgt := 2) dX7_check_59 (by decide) ?_
            refine Ev.wk (pl' := [some (vR (0)), some (vI ((((l + 1) : Nat) : Int))), none]) ⟨rfl, ⟨vIe (by omega), trivial⟩⟩ ?_
            exact ih (l + 1) (by omega) τ2 hC hK (by rw [he, hee, fw_1 (by omega)])
          · skip
            refine Ev.iload_n dX7_check_54 rfl rfl ?_
            exact Ev.ireturn dX7_check_55 rfl (rE ⟨(by rw [he, hee, fw_0 (by omega)]), hC, hK⟩)
        · skip
          refine Ev.bipush (n := -5) (by decide) dX7_check_47 ?_
          exact Ev.ireturn dX7_check_49 rfl (rE ⟨(by rw [he, hee, fw_5 h44]), hC, hK⟩)
      · skip
        have hwL : bI (¬ Alive (sU s) (sB s) (sSl s l) (cutL s l)) = howL s l := by unfold howL; rw [ifP_t (by omega)]
        refine Ev.aload_n dX7_check_21 rfl rfl ?_
        refine Ev.iload_n dX7_check_22 rfl rfl ?_
        refine Ev.callV_G (M2 := mX7_isRightByLines) (args2 := [vI (((l : Nat) : Int))]) (rcv := 0) (q := (RX7, TX7, 20)) (ci := 7) dX7_check_23 okX7_isRightByLines lk_X7_272 ovX7_isRightByLines.1.1 ovX7_isRightByLines.1.2 ovX7_isRightByLines.2 (by decide) rfl rfl ltc_0 shc_0 rfl (Nat.le_of_ble_eq_true rfl) (Nat.le_of_ble_eq_true rfl) (s7_isRightByLines s τ hC l (by omega)) (fun v_ m_ hp_ => ?_) rfl
        obtain ⟨_, τ2, rfl, rfl, rfl, hS1, hJ1⟩ := hp_
        rw [hwL]
        have hC := hC.scr hS1 hJ1
        have hK := fun c (h : 272 ≤ c) => (hS1 c (nSC2 h)).trans (hK c h)
        obtain ⟨hk1, hk2, hk3, hk4, hk5, hk6, hk7, hk8, hk9⟩ := id hC
        have hU := hk1.1
        have hN := hk2.1
        have hD := hk4.1
        have hM := hk7.1
        have hQ := hk5.1
        show Ev g mX7_check 26 [some (vR (0)), some (vI (((l : Nat) : Int))), none] [vI (howL s l)] (M0 (τ2)) 0 0 _
        refine Ev.goto (tgt := 40) dX7_check_26 (by decide) ?_
        refine Ev.istore_n (pl' := [some (vR (0)), some (vI (((l : Nat) : Int))), some (vI (howL s l))]) dX7_check_40 rfl (Nat.le_of_ble_eq_true rfl) rfl ?_
        refine Ev.iload_n dX7_check_41 rfl rfl ?_
        refine Ev.bipush (n := -5) (by decide) dX7_check_42 ?_
        refine Ev.icmp_ne (tgt := 50) howI ⟨by decide, by decide⟩ dX7_check_44 (by decide) (fun h44 => ?_) (fun h44 => ?_)
        · skip
          refine Ev.iload_n dX7_check_50 rfl rfl ?_
          refine Ev.if_ne (tgt := 56) howI dX7_check_51 (by decide) (fun h51 => ?_) (fun h51 => ?_)
          · skip
            refine Ev.iinc (pl' := [some (vR (0)), some (vI (((l : Nat) : Int) + 1)), some (vI (howL s l))]) dX7_check_56 rfl (Nat.le_of_ble_eq_true rfl) rfl ?_
            refine Ev.goto (tgt := 2) dX7_check_59 (by decide) ?_
            refine Ev.wk (pl' := [some (vR (0)), some (vI ((((l + 1) : Nat) : Int))), none]) ⟨rfl, ⟨vIe (by omega), trivial⟩⟩ ?_
            exact ih (l + 1) (by omega) τ2 hC hK (by rw [he, hee, fw_1 (by omega)])
          · skip
            refine Ev.iload_n dX7_check_54 rfl rfl ?_
            exact Ev.ireturn dX7_check_55 rfl (rE ⟨(by rw [he, hee, fw_0 (by omega)]), hC, hK⟩)
        · skip
          refine Ev.bipush (n := -5) (by decide) dX7_check_47 ?_
          exact Ev.ireturn dX7_check_49 rfl (rE ⟨(by rw [he, hee, fw_5 h44]), hC, hK⟩)

set_option maxRecDepth 100000 in
set_option maxHeartbeats 4000000 in
theorem s7_check {g : GC} (s : SS) (σ : Sg) (hC : CI s σ) : Ev g mX7_check 0 [some (vR (0)), none, none] [] (M0 (σ)) 0 0 (retE (fun v τ => v = o_chk s ∧ CI s τ ∧ ∀ c, 272 ≤ c → τ c = σ c)) := by
  refine Ev.iconst dX7_check_0 ?_
  refine Ev.istore_n (pl' := [some (vR (0)), some (vI (0)), none]) dX7_check_1 rfl (Nat.le_of_ble_eq_true rfl) rfl ?_
  refine Ev.wk (pl' := [some (vR (0)), some (vI (((0 : Nat) : Int))), none]) ⟨rfl, ⟨vIe rfl, trivial⟩⟩ ?_
  exact s7_chk_l s σ (sM s) 0 (by omega) σ hC (fun _ _ => rfl) rfl

set_option maxHeartbeats 4000000 in
theorem c_check {g : GC} (s : SS) (σ : Sg) (hC : CI s σ) : Ev g mX7_check 0 [some (vR (0)), none, none] [] (M0 (σ)) 0 0 (retE (CP σ (o_check s))) := s7_check s σ hC
set_option maxRecDepth 100000 in
set_option maxHeartbeats 4000000 in
theorem c_ref_l {g : GC} (s : SS) (σ τ : Sg) (hC : CI s τ) (hK : ∀ c, 272 ≤ c → τ c = σ c) (h8 : ¬ o_chk s = -5) : ∀ j l : Nat, l + j = sM s → Ev g mX7_refutes 18 [some (vR (0)), some (vI (o_chk s)), some (vI ((bI (∃ q, q < l ∧ rN (sL s q) = 0)))), some (vI (((l : Nat) : Int)))] [] (M0 (τ)) 0 0 (retE (CP σ (o_refutes s))) := by
  intro j
  induction j with
  | zero =>
    intro l hij
    obtain ⟨hk1, hk2, hk3, hk4, hk5, hk6, hk7, hk8, hk9⟩ := id hC
    have hU := hk1.1
    have hN := hk2.1
    have hD := hk4.1
    have hM := hk7.1
    have hQ := hk5.1
    have hcb : -9 ≤ o_chk s ∧ o_chk s ≤ ((sM s : Nat) : Int) + ((0 : Nat) : Int) := fw_bd (howL s) (sM s) 0
    refine Ev.iload_n dX7_refutes_18 rfl rfl ?_
    refine Ev.aload_n dX7_refutes_19 rfl rfl ?_
    refine gf_X7_263 (x := ((sM s : Nat) : Int)) rfl dX7_refutes_20 ltc_0 shc_0 hk7.2.1 ?_
    refine Ev.icmp_ge (tgt := 52) ⟨by omega, by omega⟩ ⟨by omega, by omega⟩ dX7_refutes_23 (by decide) (fun h23 => ?_) (fun h23 => ?_)
    · skip
      refine Ev.iload_n dX7_refutes_52 rfl rfl ?_
      refine Ev.bipush (n := -9) (by decide) dX7_refutes_53 ?_
      refine Ev.icmp_ne (tgt := 66) ⟨by omega, by omega⟩ ⟨by decide, by decide⟩ dX7_refutes_55 (by decide) (fun h55 => ?_) (fun h55 => ?_)
      · skip
        refine Ev.iconst dX7_refutes_66 ?_
        exact Ev.ireturn dX7_refutes_67 rfl (rE (by unfold CP o_refutes; rw [ifP_f h8]; exact ⟨bI_f (fun z => by first | exact h55 z.1 | (have y := bI_0.mp h59; rw [show l = sM s by omega] at y; exact y z.2)), hC, hK⟩))
      · skip
        refine Ev.iload_n dX7_refutes_58 rfl rfl ?_
        refine Ev.if_eq (tgt := 66) bI_inR dX7_refutes_59 (by decide) (fun h59 => ?_) (fun h59 => ?_)
        · skip
          refine Ev.iconst dX7_refutes_66 ?_
          exact Ev.ireturn dX7_refutes_67 rfl (rE (by unfold CP o_refutes; rw [ifP_f h8]; exact ⟨bI_f (fun z => by first | exact h55 z.1 | (have y := bI_0.mp h59; rw [show l = sM s by omega] at y; exact y z.2)), hC, hK⟩))
        · skip
          refine Ev.iconst dX7_refutes_62 ?_
          refine Ev.goto (tgt := 67) dX7_refutes_63 (by decide) ?_
          exact Ev.ireturn dX7_refutes_67 rfl (rE (by unfold CP o_refutes; rw [ifP_f h8]; exact ⟨bI_t ⟨by omega, by have z := bI_1.mp h59; rw [show l = sM s by omega] at z; exact z⟩, hC, hK⟩))
    · exact absurd h23 (by omega)
  | succ j ih =>
    intro l hij
    obtain ⟨hk1, hk2, hk3, hk4, hk5, hk6, hk7, hk8, hk9⟩ := id hC
    have hU := hk1.1
    have hN := hk2.1
    have hD := hk4.1
    have hM := hk7.1
    have hQ := hk5.1
    have hcb : -9 ≤ o_chk s ∧ o_chk s ≤ ((sM s : Nat) : Int) + ((0 : Nat) : Int) := fw_bd (howL s) (sM s) 0
    have hl6 := (hk7.2.2.1 l (by omega)).2.1.1.2.1
    refine Ev.iload_n dX7_refutes_18 rfl rfl ?_
    refine Ev.aload_n dX7_refutes_19 rfl rfl ?_
    refine gf_X7_263 (x := ((sM s : Nat) : Int)) rfl dX7_refutes_20 ltc_0 shc_0 hk7.2.1 ?_
    refine Ev.icmp_ge (tgt := 52) ⟨by omega, by omega⟩ ⟨by omega, by omega⟩ dX7_refutes_23 (by decide) (fun h23 => ?_) (fun h23 => ?_)
    · exact absurd h23 (by omega)
    · skip
      refine Ev.iload_n dX7_refutes_26 rfl rfl ?_
      refine Ev.aload_n dX7_refutes_27 rfl rfl ?_
      refine gf_X7_39 rfl dX7_refutes_28 ltc_0 shc_0 rfc_0_12 ?_
      refine Ev.iload_n dX7_refutes_31 rfl rfl ?_
      refine Ev.raload dX7_refutes_32 ltc_22 shc_22 (by decide) (by omega) (by omega) (rf_line (by omega)) ?_
      refine gf_X7_137 (x := ((rN (sL s l) : Nat) : Int)) rfl dX7_refutes_33 (lt_rc (by omega)) (sh_rc (by omega)) (hk7.2.2.1 l (by omega)).1.2.2.2.1 ?_
      refine Ev.if_ne (tgt := 43) ⟨by omega, by omega⟩ dX7_refutes_36 (by decide) (fun h36 => ?_) (fun h36 => ?_)
      · skip
        refine Ev.iconst dX7_refutes_43 ?_
        refine Ev.ior dX7_refutes_44 ?_
        refine Ev.istore_n (pl' := [some (vR (0)), some (vI (o_chk s)), some (vI ((iOr ((bI (∃ q, q < l ∧ rN (sL s q) = 0))) (0)))), some (vI (((l : Nat) : Int)))]) dX7_refutes_45 rfl (Nat.le_of_ble_eq_true rfl) rfl ?_
        refine Ev.iinc (pl' := [some (vR (0)), some (vI (o_chk s)), some (vI ((iOr ((bI (∃ q, q < l ∧ rN (sL s q) = 0))) (0)))), some (vI (((l : Nat) : Int) + 1))]) dX7_refutes_46 rfl (Nat.le_of_ble_eq_true rfl) rfl ?_
        refine Ev.goto (tgt := 18) dX7_refutes_49 (by decide) ?_
        refine Ev.wk (pl' := [some (vR (0)), some (vI (o_chk s)), some (vI ((bI (∃ q, q < (l + 1) ∧ rN (sL s q) = 0)))), some (vI ((((l + 1) : Nat) : Int)))]) ⟨rfl, ⟨rfl, ⟨vIe (by first | exact (by have h1 : (1 : Int) = bI (∃ q, q < l + 1 ∧ rN (sL s q) = 0) := bI_t ⟨l, by omega, by omega⟩; rw [← h1]; exact iOr_b.1) | exact (by rw [iOr_b.2]; exact bI_congr ⟨fun ⟨q, z1, z2⟩ => ⟨q, by omega, z2⟩, fun ⟨q, z1, z2⟩ => ⟨q, by have : q ≠ l := (fun e => by rw [e] at z2; omega); omega, z2⟩⟩)), ⟨vIe (by omega), trivial⟩⟩⟩⟩ ?_
        exact ih (l + 1) (by omega)
      · skip
        refine Ev.iconst dX7_refutes_39 ?_
        refine Ev.goto (tgt := 44) dX7_refutes_40 (by decide) ?_
        refine Ev.ior dX7_refutes_44 ?_
        refine Ev.istore_n (pl' := [some (vR (0)), some (vI (o_chk s)), some (vI ((iOr ((bI (∃ q, q < l ∧ rN (sL s q) = 0))) (1)))), some (vI (((l : Nat) : Int)))]) dX7_refutes_45 rfl (Nat.le_of_ble_eq_true rfl) rfl ?_
        refine Ev.iinc (pl' := [some (vR (0)), some (vI (o_chk s)), some (vI ((iOr ((bI (∃ q, q < l ∧ rN (sL s q) = 0))) (1)))), some (vI (((l : Nat) : Int) + 1))]) dX7_refutes_46 rfl (Nat.le_of_ble_eq_true rfl) rfl ?_
        refine Ev.goto (tgt := 18) dX7_refutes_49 (by decide) ?_
        refine Ev.wk (pl' := [some (vR (0)), some (vI (o_chk s)), some (vI ((bI (∃ q, q < (l + 1) ∧ rN (sL s q) = 0)))), some (vI ((((l + 1) : Nat) : Int)))]) ⟨rfl, ⟨rfl, ⟨vIe (by first | exact (by have h1 : (1 : Int) = bI (∃ q, q < l + 1 ∧ rN (sL s q) = 0) := bI_t ⟨l, by omega, by omega⟩; rw [← h1]; exact iOr_b.1) | exact (by rw [iOr_b.2]; exact bI_congr ⟨fun ⟨q, z1, z2⟩ => ⟨q, by omega, z2⟩, fun ⟨q, z1, z2⟩ => ⟨q, by have : q ≠ l := (fun e => by rw [e] at z2; omega); omega, z2⟩⟩)), ⟨vIe (by omega), trivial⟩⟩⟩⟩ ?_
        exact ih (l + 1) (by omega)

set_option maxRecDepth 100000 in
set_option maxHeartbeats 4000000 in
theorem c_refutes {g : GC} (s : SS) (σ : Sg) (hC : CI s σ) : Ev g mX7_refutes 0 [some (vR (0)), none, none, none] [] (M0 (σ)) 0 0 (retE (CP σ (o_refutes s))) := by
  obtain ⟨hk1, hk2, hk3, hk4, hk5, hk6, hk7, hk8, hk9⟩ := id hC
  have hU := hk1.1
  have hN := hk2.1
  have hD := hk4.1
  have hM := hk7.1
  have hQ := hk5.1
  refine Ev.aload_n dX7_refutes_0 rfl rfl ?_
  refine Ev.callV_G (M2 := mX7_check) (args2 := []) (rcv := 0) (q := (RX7, TX7, 20)) (ci := 7) dX7_refutes_1 okX7_check lk_X7_278 ovX7_check.1.1 ovX7_check.1.2 ovX7_check.2 (by decide) rfl rfl ltc_0 shc_0 rfl (Nat.le_of_ble_eq_true rfl) (Nat.le_of_ble_eq_true rfl) (s7_check s σ hC) (fun v_ m_ hp_ => ?_) rfl
  obtain ⟨_, τ, rfl, rfl, rfl, hC, hK⟩ := hp_
  have hcb : -9 ≤ o_chk s ∧ o_chk s ≤ ((sM s : Nat) : Int) + ((0 : Nat) : Int) := fw_bd (howL s) (sM s) 0
  show Ev g mX7_refutes 4 [some (vR (0)), none, none, none] [vI (o_chk s)] (M0 (τ)) 0 0 _
  refine Ev.istore_n (pl' := [some (vR (0)), some (vI (o_chk s)), none, none]) dX7_refutes_4 rfl (Nat.le_of_ble_eq_true rfl) rfl ?_
  refine Ev.iload_n dX7_refutes_5 rfl rfl ?_
  refine Ev.bipush (n := -5) (by decide) dX7_refutes_6 ?_
  refine Ev.icmp_ne (tgt := 14) ⟨by omega, by omega⟩ ⟨by decide, by decide⟩ dX7_refutes_8 (by decide) (fun h8 => ?_) (fun h8 => ?_)
  · skip
    refine Ev.iconst dX7_refutes_14 ?_
    refine Ev.istore_n (pl' := [some (vR (0)), some (vI (o_chk s)), some (vI (0)), none]) dX7_refutes_15 rfl (Nat.le_of_ble_eq_true rfl) rfl ?_
    refine Ev.iconst dX7_refutes_16 ?_
    refine Ev.istore_n (pl' := [some (vR (0)), some (vI (o_chk s)), some (vI (0)), some (vI (0))]) dX7_refutes_17 rfl (Nat.le_of_ble_eq_true rfl) rfl ?_
    refine Ev.wk (pl' := [some (vR (0)), some (vI (o_chk s)), some (vI ((bI (∃ q, q < 0 ∧ rN (sL s q) = 0)))), some (vI (((0 : Nat) : Int)))]) ⟨rfl, ⟨rfl, ⟨vIe (bI_f (fun ⟨q, z, _⟩ => absurd z (by omega))), ⟨vIe rfl, trivial⟩⟩⟩⟩ ?_
    exact c_ref_l s σ τ hC hK h8 (sM s) 0 (by omega)
  · skip
    refine Ev.bipush (n := -5) (by decide) dX7_refutes_11 ?_
    exact Ev.ireturn dX7_refutes_13 rfl (rE (by unfold CP o_refutes; rw [ifP_t h8]; exact ⟨rfl, hC, hK⟩))

set_option maxRecDepth 100000 in
set_option maxHeartbeats 4000000 in
theorem s6_cl_l {g : GC} (σ : Sg) (T : Tb) (hT : TVc σ T) : ∀ j t : Nat, t + j = 6 → Ev g mX6_countLaid 4 [some (vR (250)), some (vI (((tbC T t : Nat) : Int))), some (vI (((t : Nat) : Int)))] [] (M0 (σ)) 0 0 (retI ((tbC T 6 : Nat) : Int) σ) := by
  intro j
  induction j with
  | zero =>
    intro t hij
    refine Ev.iload_n dX6_countLaid_4 rfl rfl ?_
    refine Ev.bipush (n := 6) (by decide) dX6_countLaid_5 ?_
    refine Ev.icmp_ge (tgt := 27) ⟨by omega, by omega⟩ ⟨by decide, by decide⟩ dX6_countLaid_7 (by decide) (fun h7 => ?_) (fun h7 => ?_)
    · skip
      refine Ev.iload_n dX6_countLaid_27 rfl rfl ?_
      exact Ev.ireturn dX6_countLaid_28 rfl (rI (by rw [show t = 6 by omega]) rfl)
    · exact absurd h7 (by omega)
  | succ j ih =>
    intro t hij
    have ht : tbC T (t + 1) = tbC T t + (if T.1 t = -1 then 0 else 1) := rfl
    refine Ev.iload_n dX6_countLaid_4 rfl rfl ?_
    refine Ev.bipush (n := 6) (by decide) dX6_countLaid_5 ?_
    refine Ev.icmp_ge (tgt := 27) ⟨by omega, by omega⟩ ⟨by decide, by decide⟩ dX6_countLaid_7 (by decide) (fun h7 => ?_) (fun h7 => ?_)
    · exact absurd h7 (by omega)
    · skip
      refine Ev.aload_n dX6_countLaid_10 rfl rfl ?_
      refine Ev.iload_n dX6_countLaid_11 rfl rfl ?_
      refine Ev.callV_I (M2 := mX6_isMissing) (args2 := [vI (((t : Nat) : Int))]) (rcv := 250) (q := (RX6, TX6, 2)) (ci := 6) dX6_countLaid_12 okX6_isMissing lk_X6_20 ovX6_isMissing.1.1 ovX6_isMissing.1.2 ovX6_isMissing.2 (by decide) rfl rfl ltc_250 shc_250 rfl (Nat.le_of_ble_eq_true rfl) (Nat.le_of_ble_eq_true rfl) (s6_isMissing σ t (by omega) T hT) ?_ rfl
      refine Ev.if_ne (tgt := 21) bI_inR dX6_countLaid_15 (by decide) (fun h15 => ?_) (fun h15 => ?_)
      · skip
        have q15 := bI_1.mp h15
        refine Ev.iinc (pl' := [some (vR (250)), some (vI (((tbC T t : Nat) : Int))), some (vI (((t : Nat) : Int) + 1))]) dX6_countLaid_21 rfl (Nat.le_of_ble_eq_true rfl) rfl ?_
        refine Ev.goto (tgt := 4) dX6_countLaid_24 (by decide) ?_
        refine Ev.wk (pl' := [some (vR (250)), some (vI (((tbC T (t + 1) : Nat) : Int))), some (vI ((((t + 1) : Nat) : Int)))]) ⟨rfl, ⟨vIe (by rw [ht]; first | (rw [if_pos q15]; omega) | (rw [if_neg q15]; omega)), ⟨vIe (by omega), trivial⟩⟩⟩ ?_
        exact ih (t + 1) (by omega)
      · skip
        have q15 := bI_0.mp h15
        refine Ev.iinc (pl' := [some (vR (250)), some (vI (((tbC T t : Nat) : Int) + 1)), some (vI (((t : Nat) : Int)))]) dX6_countLaid_18 rfl (Nat.le_of_ble_eq_true rfl) rfl ?_
        refine Ev.iinc (pl' := [some (vR (250)), some (vI (((tbC T t : Nat) : Int) + 1)), some (vI (((t : Nat) : Int) + 1))]) dX6_countLaid_21 rfl (Nat.le_of_ble_eq_true rfl) rfl ?_
        refine Ev.goto (tgt := 4) dX6_countLaid_24 (by decide) ?_
        refine Ev.wk (pl' := [some (vR (250)), some (vI (((tbC T (t + 1) : Nat) : Int))), some (vI ((((t + 1) : Nat) : Int)))]) ⟨rfl, ⟨vIe (by rw [ht]; first | (rw [if_pos q15]; omega) | (rw [if_neg q15]; omega)), ⟨vIe (by omega), trivial⟩⟩⟩ ?_
        exact ih (t + 1) (by omega)

set_option maxRecDepth 100000 in
set_option maxHeartbeats 4000000 in
theorem s6_countLaid {g : GC} (σ : Sg) (T : Tb) (hT : TVc σ T) : Ev g mX6_countLaid 0 [some (vR (250)), none, none] [] (M0 (σ)) 0 0 (retI ((tbC T 6 : Nat) : Int) σ) := by
  refine Ev.iconst dX6_countLaid_0 ?_
  refine Ev.istore_n (pl' := [some (vR (250)), some (vI (0)), none]) dX6_countLaid_1 rfl (Nat.le_of_ble_eq_true rfl) rfl ?_
  refine Ev.iconst dX6_countLaid_2 ?_
  refine Ev.istore_n (pl' := [some (vR (250)), some (vI (0)), some (vI (0))]) dX6_countLaid_3 rfl (Nat.le_of_ble_eq_true rfl) rfl ?_
  refine Ev.wk (pl' := [some (vR (250)), some (vI (((tbC T 0 : Nat) : Int))), some (vI (((0 : Nat) : Int)))]) ⟨rfl, ⟨vIe rfl, ⟨vIe rfl, trivial⟩⟩⟩ ?_
  exact s6_cl_l σ T hT 6 0 (by omega)

set_option maxRecDepth 100000 in
set_option maxHeartbeats 4000000 in
theorem c_total {g : GC} (s : SS) (σ : Sg) (hC : CI s σ) (w : Int) (h_w : inR w) : Ev g mX7_total 0 [some (vR (0)), some (vI (w))] [] (M0 (σ)) 0 0 (retE (CP σ (o_total s w))) := by
  obtain ⟨hk1, hk2, hk3, hk4, hk5, hk6, hk7, hk8, hk9⟩ := id hC
  have hU := hk1.1
  have hN := hk2.1
  have hD := hk4.1
  have hM := hk7.1
  have hQ := hk5.1
  refine Ev.iload_n dX7_total_0 rfl rfl ?_
  have hcs : w = 0 ∨ w = 1 ∨ w = 2 ∨ w = 3 ∨ w = 4 ∨ w = 5 ∨ (w < 0 ∨ 5 < w) := by omega
  rcases hcs with hk | hk | hk | hk | hk | hk | hk
  · skip
    subst hk
    refine Ev.tableIn (tgt := 40) dX7_total_1 ⟨by decide, by decide⟩ (by decide) (by decide) rfl (by decide) ?_
    refine Ev.aload_n dX7_total_40 rfl rfl ?_
    refine gf_X7_88 (x := ((sU s : Nat) : Int)) rfl dX7_total_41 ltc_0 shc_0 hk1.2.1 ?_
    exact Ev.ireturn dX7_total_44 rfl (rE (by unfold CP o_total; exact ⟨by show _ = ifP _ _ _; rw [ifP_t (by omega)], hC, fun _ _ => rfl⟩))
  · skip
    subst hk
    refine Ev.tableIn (tgt := 45) dX7_total_1 ⟨by decide, by decide⟩ (by decide) (by decide) rfl (by decide) ?_
    refine Ev.aload_n dX7_total_45 rfl rfl ?_
    refine gf_X7_111 (x := ((sN s : Nat) : Int)) rfl dX7_total_46 ltc_0 shc_0 hk2.2.1 ?_
    exact Ev.ireturn dX7_total_49 rfl (rE (by unfold CP o_total; exact ⟨by show _ = ifP _ _ _; rw [ifP_f (by omega)]; rw [ifP_t (by omega)], hC, fun _ _ => rfl⟩))
  · skip
    subst hk
    refine Ev.tableIn (tgt := 50) dX7_total_1 ⟨by decide, by decide⟩ (by decide) (by decide) rfl (by decide) ?_
    refine Ev.aload_n dX7_total_50 rfl rfl ?_
    refine gf_X7_25 rfl dX7_total_51 ltc_0 shc_0 rfc_0_7 ?_
    refine gf_X7_85 (x := ((sD s : Nat) : Int)) rfl dX7_total_54 ltc_4 shc_4 hk4.2.1 ?_
    exact Ev.ireturn dX7_total_57 rfl (rE (by unfold CP o_total; exact ⟨by show _ = ifP _ _ _; rw [ifP_f (by omega)]; rw [ifP_f (by omega)]; rw [ifP_t (by omega)], hC, fun _ _ => rfl⟩))
  · skip
    subst hk
    refine Ev.tableIn (tgt := 58) dX7_total_1 ⟨by decide, by decide⟩ (by decide) (by decide) rfl (by decide) ?_
    refine Ev.aload_n dX7_total_58 rfl rfl ?_
    refine gf_X7_263 (x := ((sM s : Nat) : Int)) rfl dX7_total_59 ltc_0 shc_0 hk7.2.1 ?_
    exact Ev.ireturn dX7_total_62 rfl (rE (by unfold CP o_total; exact ⟨by show _ = ifP _ _ _; rw [ifP_f (by omega)]; rw [ifP_f (by omega)]; rw [ifP_f (by omega)]; rw [ifP_t (by omega)], hC, fun _ _ => rfl⟩))
  · skip
    subst hk
    refine Ev.tableIn (tgt := 63) dX7_total_1 ⟨by decide, by decide⟩ (by decide) (by decide) rfl (by decide) ?_
    refine Ev.aload_n dX7_total_63 rfl rfl ?_
    refine gf_X7_289 (x := sF s) rfl dX7_total_64 ltc_0 shc_0 hk8 ?_
    exact Ev.ireturn dX7_total_67 rfl (rE (by unfold CP o_total; exact ⟨by show _ = ifP _ _ _; rw [ifP_f (by omega)]; rw [ifP_f (by omega)]; rw [ifP_f (by omega)]; rw [ifP_f (by omega)]; rw [ifP_t (by omega)], hC, fun _ _ => rfl⟩))
  · skip
    subst hk
    refine Ev.tableIn (tgt := 68) dX7_total_1 ⟨by decide, by decide⟩ (by decide) (by decide) rfl (by decide) ?_
    refine Ev.aload_n dX7_total_68 rfl rfl ?_
    refine gf_X7_60 rfl dX7_total_69 ltc_0 shc_0 rfc_0_6 ?_
    refine Ev.callV_I (M2 := mX6_countLaid) (args2 := []) (rcv := 250) (q := (RX6, TX6, 2)) (ci := 6) dX7_total_72 okX6_countLaid lk_X7_292 ovX6_countLaid.1.1 ovX6_countLaid.1.2 ovX6_countLaid.2 (by decide) rfl rfl ltc_250 shc_250 rfl (Nat.le_of_ble_eq_true rfl) (Nat.le_of_ble_eq_true rfl) (s6_countLaid σ (sB s) hk3) ?_ rfl
    exact Ev.ireturn dX7_total_75 rfl (rE (by unfold CP o_total; exact ⟨by show _ = ifP _ _ _; rw [ifP_f (by omega)]; rw [ifP_f (by omega)]; rw [ifP_f (by omega)]; rw [ifP_f (by omega)]; rw [ifP_f (by omega)]; rw [ifP_t (by omega)], hC, fun _ _ => rfl⟩))
  · skip
    refine Ev.tableOut (tgt := 76) dX7_total_1 ⟨by omega, by omega⟩ hk (by decide) ?_
    refine Ev.bipush (n := -2) (by decide) dX7_total_76 ?_
    exact Ev.ireturn dX7_total_78 rfl (rE (by unfold CP o_total; exact ⟨by show _ = ifP _ _ _; rw [ifP_f (by omega)]; rw [ifP_f (by omega)]; rw [ifP_f (by omega)]; rw [ifP_f (by omega)]; rw [ifP_f (by omega)]; rw [ifP_f (by omega)], hC, fun _ _ => rfl⟩))

