/-! THE CLASS: what is told: unknown, hole -/
theorem k2.wr {U n : Nat} {Rf : Nat → RC} {w U' : Nat} {σ τ : Sg} (h : k2 σ U n Rf w) (hU : U ≤ U') (hU' : U' ≤ 10) (e4 : τ 0 4 = σ 0 4) (e5 : τ 0 5 = σ 0 5) (e : ∀ c, 26 ≤ c → c < 90 → τ c = σ c) : k2 τ U' n Rf w := by
  obtain ⟨a1, a2, a3, a4, a5, a6⟩ := h.cg e4 e5 e
  exact ⟨a1, a2, a3, a4, fun r hr => ⟨(a5 r hr).1, (a5 r hr).2.up hU hU'⟩, a6⟩
theorem k7.wr {U n m : Nat} {L : Nat → RC} {f : Nat → Int} {U' n' : Nat} {σ τ : Sg} (h : k7 σ U n m L f) (hU : U ≤ U') (hU' : U' ≤ 10) (hn : n ≤ n') (e14 : τ 0 14 = σ 0 14) (e23 : τ 23 = σ 23) (e : ∀ c, 90 ≤ c → c < 250 → τ c = σ c) : k7 τ U' n' m L f := by
  obtain ⟨a1, a2, a3, a4⟩ := h.cg e14 e23 e
  refine ⟨a1, a2, fun l hl => ?_, a4⟩
  obtain ⟨q1, q2, q3, q4, q5⟩ := a3 l hl
  exact ⟨q1, q2.up hU hU', q3, q4, by omega⟩
theorem av_new {σ : Sg} {U v : Nat} {X : Rg} (h : AV σ 1 U X) (hv : v ≠ 0 ∧ v < 65536) : AV (upC σ 1 U (v : Int)) 1 (U + 1) (upY X U v) := fun x hx => by
  by_cases e : x = U
  · rw [e, upC_at, upY_at]; exact ⟨rfl, hv⟩
  · rw [upC_self e, upY_ne e]; exact h x (by omega)
theorem av_set {σ : Sg} {U x v : Nat} {X : Rg} (h : AV σ 1 U X) (hv : v ≠ 0 ∧ v < 65536) : AV (upC σ 1 x (v : Int)) 1 U (upY X x v) := fun y hy => by
  by_cases e : y = x
  · rw [e, upC_at, upY_at]; exact ⟨rfl, hv⟩
  · rw [upC_self e, upY_ne e]; exact h y hy
theorem new_r {a b : Nat} (hab : a ≤ b) (hb : b < 16) : 2 ^ (b + 1) - 2 ^ a ≠ 0 ∧ 2 ^ (b + 1) - 2 ^ a < 65536 ∧ 2 ^ a ≤ 2 ^ (b + 1) := by
  have h1 := pow_le17 (show b + 1 < 17 by omega)
  have h2 : 2 ^ a < 2 ^ (b + 1) := Nat.pow_lt_pow_right (by decide) (by omega)
  have h3 : 1 ≤ 2 ^ a := Nat.one_le_two_pow
  omega
theorem andN_ne {m k : Nat} (h : m.testBit k = true) (h2 : m ≠ 2 ^ k) : andN m (2 ^ k) ≠ 0 := fun z => h2 (by
  apply Nat.eq_of_testBit_eq
  intro j
  have h3 : (andN m (2 ^ k)).testBit j = false := by rw [z, Nat.zero_testBit]
  rw [andN_tb, Nat.testBit_two_pow] at h3
  rw [Nat.testBit_two_pow]
  by_cases e : k = j
  · subst e; rw [h]; simp
  · simp [e] at h3 ⊢; exact h3)
theorem andN_sub {m k : Nat} (h : m.testBit k = true) : andN m (2 ^ k) = m - 2 ^ k := (sub_bit h).1.symm
theorem no_d {k : Nat} {U d : Nat} {σ τ : Sg} {o p : Nat → Nat} {h : Nat → Rg} {U' : Nat} (_ : k = 0) (hk : k4 σ U d o p h) (hd : d = 0) (e : τ 4 = σ 4) : k4 τ U' d o p h := ⟨hk.1, by rw [e]; exact hk.2.1, fun j hj => absurd hj (by omega)⟩
theorem w_or {w n : Nat} (h : w < 2 ^ n) : w ||| 2 ^ n < 2 ^ (n + 1) := Nat.or_lt_two_pow (Nat.lt_of_lt_of_le h (Nat.pow_le_pow_right (by decide) (by omega))) (Nat.pow_lt_pow_right (by decide) (by omega))
theorem w16 {w n : Nat} (h : w < 2 ^ n) (hn : n ≤ 16) : w < 65536 := Nat.lt_of_lt_of_le h (by have := Nat.pow_le_pow_right (show 0 < 2 by decide) hn; simpa using this)
theorem k2_new {σ τ : Sg} {U n w : Nat} {Rf : Nat → RC} {k a b : Int} (h : k2 σ U n Rf w) (hU : U ≤ 10) (hn : n < 16) (hk : 0 ≤ k ∧ k ≤ 5) (hok : okSet k a b) (e4 : τ 0 4 = ((n + 1 : Nat) : Int)) (e5 : τ 0 5 = ((w ||| 2 ^ n : Nat) : Int)) (e : ∀ c, 26 ≤ c → c < 90 → τ c = (upC (upC (upC σ (26 + 4 * n) 0 k) (26 + 4 * n) 1 a) (26 + 4 * n) 2 b) c) : k2 τ U (n + 1) (updF Rf n (nR k a b)) (w ||| 2 ^ n) := by
  obtain ⟨a1, a2, a3, a4, a5, a6⟩ := h
  refine ⟨by omega, e4, e5, w_or a4, fun r hr => ?_, fun r q1 q2 => ?_⟩
  · by_cases er : r = n
    · rw [er, updF_at]
      exact ⟨(CR.begin hk.1 (a6 n (by omega) hn).1 (a6 n (by omega) hn).2).cg fun c q1 q2 => e c (by omega) (by omega), WR.new hU hk hok⟩
    · rw [updF_ne er]
      exact ⟨(a5 r (by omega)).1.cg fun c q1 q2 => by rw [e c (by omega) (by omega), upC_ne (by omega), upC_ne (by omega), upC_ne (by omega)], (a5 r (by omega)).2⟩
  · rw [e (26 + 4 * r) (by omega) (by omega), upC_ne (by omega), upC_ne (by omega), upC_ne (by omega)]
    exact a6 r (by omega) q2
theorem k2_add {σ τ : Sg} {U n w r x : Nat} {Rf : Nat → RC} {a b : Int} (h : k2 σ U n Rf w) (hx10 : x < 10) (hr : r < n) (hW : WR U (addP (Rf r) x a b)) (e4 : τ 0 4 = σ 0 4) (e5 : τ 0 5 = σ 0 5) (e : ∀ c, 26 ≤ c → c < 90 → τ c = (upC (upC (upC (upC (upC σ (26 + 4 * r + 1) (rN (Rf r)) (x : Int)) (26 + 4 * r + 2) (rN (Rf r)) a) (26 + 4 * r + 3) (rN (Rf r)) b) (26 + 4 * r) 3 ((rN (Rf r) + 1 : Nat) : Int)) (26 + 4 * r) 4 ((memM (Rf r) ||| 2 ^ x : Nat) : Int)) c) : k2 τ U n (updF Rf r (addP (Rf r) x a b)) w := by
  obtain ⟨a1, a2, a3, a4, a5, a6⟩ := h
  refine ⟨a1, e4.trans a2, e5.trans a3, a4, fun q hq => ?_, fun q q1 q2 => ?_⟩
  · by_cases er : q = r
    · rw [er, updF_at]
      exact ⟨(CR.join hx10 (a5 r hr).1).cg fun c q1 q2 => e c (by omega) (by omega), hW⟩
    · rw [updF_ne er]
      exact ⟨(a5 q hq).1.cg fun c q1 q2 => by rw [e c (by omega) (by omega), upC_ne (by omega), upC_ne (by omega), upC_ne (by omega), upC_ne (by omega), upC_ne (by omega)], (a5 q hq).2⟩
  · rw [e (26 + 4 * q) (by omega) (by omega), upC_ne (by omega), upC_ne (by omega), upC_ne (by omega), upC_ne (by omega), upC_ne (by omega)]
    exact a6 q (by omega) q2
set_option maxRecDepth 100000 in
set_option maxHeartbeats 4000000 in
theorem c_unknown {g : GC} (s : SS) (σ : Sg) (hC : CI s σ) (a : Int) (h_a : inR a) (b : Int) (h_b : inR b) : Ev g mX7_unknown 0 [some (vR (0)), some (vI (a)), some (vI (b))] [] (M0 (σ)) 0 0 (retE (CP σ (o_unknown s a b))) := by
  obtain ⟨hk1, hk2, hk3, hk4, hk5, hk6, hk7, hk8, hk9⟩ := id hC
  have hU := hk1.1
  have hN := hk2.1
  have hD := hk4.1
  have hM := hk7.1
  have hQ := hk5.1
  refine Ev.iload_n dX7_unknown_0 rfl rfl ?_
  refine Ev.if_lt (tgt := 15) ⟨by omega, by omega⟩ dX7_unknown_1 (by decide) (fun h1 => ?_) (fun h1 => ?_)
  · skip
    refine Ev.bipush (n := -2) (by decide) dX7_unknown_15 ?_
    exact Ev.ireturn dX7_unknown_17 rfl (rE (by unfold CP o_unknown; (repeat rw [Int.toNat_natCast]); rw [ifP_t (by omega)]; exact ⟨rfl, hC, (fun _ _ => rfl)⟩))
  · skip
    refine Ev.iload_n dX7_unknown_4 rfl rfl ?_
    refine Ev.bipush (n := 16) (by decide) dX7_unknown_5 ?_
    refine Ev.icmp_ge (tgt := 15) ⟨by omega, by omega⟩ ⟨by decide, by decide⟩ dX7_unknown_7 (by decide) (fun h7 => ?_) (fun h7 => ?_)
    · skip
      refine Ev.bipush (n := -2) (by decide) dX7_unknown_15 ?_
      exact Ev.ireturn dX7_unknown_17 rfl (rE (by unfold CP o_unknown; (repeat rw [Int.toNat_natCast]); rw [ifP_t (by omega)]; exact ⟨rfl, hC, (fun _ _ => rfl)⟩))
    · skip
      refine Ev.iload_n dX7_unknown_10 rfl rfl ?_
      refine Ev.iload_n dX7_unknown_11 rfl rfl ?_
      refine Ev.icmp_le (tgt := 18) ⟨by omega, by omega⟩ ⟨by omega, by omega⟩ dX7_unknown_12 (by decide) (fun h12 => ?_) (fun h12 => ?_)
      · skip
        refine Ev.aload_n dX7_unknown_18 rfl rfl ?_
        refine gf_X7_25 rfl dX7_unknown_19 ltc_0 shc_0 rfc_0_7 ?_
        refine gf_X7_85 (x := ((sD s : Nat) : Int)) rfl dX7_unknown_22 ltc_4 shc_4 hk4.2.1 ?_
        refine Ev.if_le (tgt := 31) ⟨by omega, by omega⟩ dX7_unknown_25 (by decide) (fun h25 => ?_) (fun h25 => ?_)
        · skip
          refine Ev.aload_n dX7_unknown_31 rfl rfl ?_
          refine gf_X7_88 (x := ((sU s : Nat) : Int)) rfl dX7_unknown_32 ltc_0 shc_0 hk1.2.1 ?_
          refine Ev.bipush (n := 10) (by decide) dX7_unknown_35 ?_
          refine Ev.icmp_lt (tgt := 43) ⟨by omega, by omega⟩ ⟨by decide, by decide⟩ dX7_unknown_37 (by decide) (fun h37 => ?_) (fun h37 => ?_)
          · skip
            obtain ⟨ka, rfl⟩ : ∃ n_ : Nat, a = (n_ : Int) := ⟨a.toNat, by omega⟩
            obtain ⟨kb, rfl⟩ : ∃ n_ : Nat, b = (n_ : Int) := ⟨b.toNat, by omega⟩
            have hnr := new_r (show ka ≤ kb by omega) (show kb < 16 by omega)
            have hpa := pow_le16 (show ka < 16 by omega)
            refine Ev.aload_n dX7_unknown_43 rfl rfl ?_
            refine gf_X7_9 rfl dX7_unknown_44 ltc_0 shc_0 rfc_0_0 ?_
            refine Ev.aload_n dX7_unknown_47 rfl rfl ?_
            refine gf_X7_88 (x := ((sU s : Nat) : Int)) rfl dX7_unknown_48 ltc_0 shc_0 hk1.2.1 ?_
            refine Ev.iconst dX7_unknown_51 ?_
            refine Ev.iload_n dX7_unknown_52 rfl rfl ?_
            refine Ev.ishl dX7_unknown_53 ?_
            rw [show (iShl (2) (((kb : Nat) : Int))) = ((2 ^ (kb + 1) : Nat) : Int) from shl2 (by omega)]
            refine Ev.iconst dX7_unknown_54 ?_
            refine Ev.iload_n dX7_unknown_55 rfl rfl ?_
            refine Ev.ishl dX7_unknown_56 ?_
            rw [show (iShl (1) (((ka : Nat) : Int))) = ((2 ^ ka : Nat) : Int) from shl1 (by omega)]
            refine Ev.isub dX7_unknown_57 ?_
            refine Ev.iastore dX7_unknown_58 ltc_1 shc_1 (by decide) (by omega) (by omega) ?_
            refine Ev.mem (τ := upC σ 1 (sU s) (2 ^ (kb + 1) - 2 ^ ka : Nat)) (by rw [show ((2 ^ (kb + 1) : Nat) : Int) - ((2 ^ ka : Nat) : Int) = ((2 ^ (kb + 1) - 2 ^ ka : Nat) : Int) by omega]; simp only [Int.toNat_natCast]) ?_
            refine Ev.aload_n dX7_unknown_59 rfl rfl ?_
            refine Ev.dupR dX7_unknown_60 ?_
            refine gf_X7_88 (x := ((sU s : Nat) : Int)) rfl dX7_unknown_61 ltc_0 shc_0 (show (upC σ 1 (sU s) (2 ^ (kb + 1) - 2 ^ ka : Nat)) 0 2 = ((sU s : Nat) : Int) from (by (repeat (first | rw [upC_self (by omega)] | rw [upC_ne (by omega)] | rw [cpy_ne (by omega)])); exact hk1.2.1)) ?_
            refine Ev.iconst dX7_unknown_64 ?_
            refine Ev.iadd dX7_unknown_65 ?_
            refine pf_X7_88 rfl dX7_unknown_66 ltc_0 shc_0 ?_
            refine Ev.mem (τ := upC (upC σ 1 (sU s) (2 ^ (kb + 1) - 2 ^ ka : Nat)) 0 2 ((sU s + 1 : Nat) : Int)) rfl ?_
            refine Ev.aload_n dX7_unknown_69 rfl rfl ?_
            refine Ev.callV_V (M2 := mX7_letRangesBeAsTold) (args2 := []) (rcv := 0) (q := (RX7, TX7, 20)) (ci := 7) dX7_unknown_70 okX7_letRangesBeAsTold lk_X7_91 ovX7_letRangesBeAsTold.1.1 ovX7_letRangesBeAsTold.1.2 ovX7_letRangesBeAsTold.2 (by decide) rfl rfl ltc_0 shc_0 rfl (Nat.le_of_ble_eq_true rfl) (Nat.le_of_ble_eq_true rfl) (s7_asTold (upC (upC σ 1 (sU s) (2 ^ (kb + 1) - 2 ^ ka : Nat)) 0 2 ((sU s + 1 : Nat) : Int))) ?_ rfl
            refine Ev.aload_n dX7_unknown_73 rfl rfl ?_
            refine gf_X7_88 (x := (((sU s + 1) : Nat) : Int)) rfl dX7_unknown_74 ltc_0 shc_0 (show (cpy (upC (upC σ 1 (sU s) (2 ^ (kb + 1) - 2 ^ ka : Nat)) 0 2 ((sU s + 1 : Nat) : Int)) 1 2 0 0 10) 0 2 = _ from by rw [cpy_ne (by decide)]; exact upC_at) ?_
            refine Ev.iconst dX7_unknown_77 ?_
            refine Ev.isub dX7_unknown_78 ?_
            exact Ev.ireturn dX7_unknown_79 rfl (rE (by have hU1 : sU s + 1 ≤ 10 := (by omega); unfold CP o_unknown; (repeat rw [Int.toNat_natCast]); rw [ifP_f (by omega), ifP_f (by omega), ifP_f (by omega)]; exact ⟨(by show _ = ((sU s : Nat) : Int); omega), ⟨⟨hU1, ((congrFun (cpy_ne (by decide)) 2).trans upC_at), (told_av hU1 ((av_new hk1.2.2.1 ⟨hnr.1, hnr.2.1⟩).cg (fun x _ => congrFun (upC_ne (by decide)) x))).1, (told_av hU1 ((av_new hk1.2.2.1 ⟨hnr.1, hnr.2.1⟩).cg (fun x _ => congrFun (upC_ne (by decide)) x))).2⟩, (hk2.wr (Nat.le_succ _) hU1 ((congrFun (cpy_ne (by decide)) 4).trans ((upC_self (by decide)).trans ((congrFun (upC_ne (by decide)) 4).trans rfl))) ((congrFun (cpy_ne (by decide)) 5).trans ((upC_self (by decide)).trans ((congrFun (upC_ne (by decide)) 5).trans rfl))) (fun c q1 q2 => ((cpy_ne (Nat.ne_of_gt (Nat.lt_of_lt_of_le (show 2 < 26 by decide) q1))).trans ((upC_ne (Nat.ne_of_gt (Nat.lt_of_lt_of_le (show 0 < 26 by decide) q1))).trans ((upC_ne (Nat.ne_of_gt (Nat.lt_of_lt_of_le (show 1 < 26 by decide) q1))).trans rfl))))), (hk3.cg (fun c q1 q2 => ((cpy_ne (Nat.ne_of_gt (Nat.lt_of_lt_of_le (show 2 < 251 by decide) q1))).trans ((upC_ne (Nat.ne_of_gt (Nat.lt_of_lt_of_le (show 0 < 251 by decide) q1))).trans ((upC_ne (Nat.ne_of_gt (Nat.lt_of_lt_of_le (show 1 < 251 by decide) q1))).trans rfl))))), (no_d (k := 0) rfl hk4 (show sD s = 0 by omega) ((cpy_ne (by decide)).trans ((upC_ne (by decide)).trans ((upC_ne (by decide)).trans rfl)))), (hk5.cg ((congrFun (cpy_ne (by decide)) 9).trans ((upC_self (by decide)).trans ((congrFun (upC_ne (by decide)) 9).trans rfl))) ((cpy_ne (by decide)).trans ((upC_ne (by decide)).trans ((upC_ne (by decide)).trans rfl)))), (hk6.cg ((congrFun (cpy_ne (by decide)) 11).trans ((upC_self (by decide)).trans ((congrFun (upC_ne (by decide)) 11).trans rfl))) ((cpy_ne (by decide)).trans ((upC_ne (by decide)).trans ((upC_ne (by decide)).trans rfl)))), (hk7.wr (Nat.le_succ _) hU1 (Nat.le_refl _) ((congrFun (cpy_ne (by decide)) 14).trans ((upC_self (by decide)).trans ((congrFun (upC_ne (by decide)) 14).trans rfl))) ((cpy_ne (by decide)).trans ((upC_ne (by decide)).trans ((upC_ne (by decide)).trans rfl))) (fun c q1 q2 => ((cpy_ne (Nat.ne_of_gt (Nat.lt_of_lt_of_le (show 2 < 90 by decide) q1))).trans ((upC_ne (Nat.ne_of_gt (Nat.lt_of_lt_of_le (show 0 < 90 by decide) q1))).trans ((upC_ne (Nat.ne_of_gt (Nat.lt_of_lt_of_le (show 1 < 90 by decide) q1))).trans rfl))))), ((congrFun (cpy_ne (by decide)) 15).trans ((upC_self (by decide)).trans ((congrFun (upC_ne (by decide)) 15).trans hk8))), ((congrFun (cpy_ne (by decide)) 0).trans ((congrFun (upC_ne (by decide)) 0).trans ((congrFun (upC_ne (by decide)) 0).trans hk9)))⟩, (fun c q1 => ((cpy_ne (Nat.ne_of_gt (Nat.lt_of_lt_of_le (show 2 < 272 by decide) q1))).trans ((upC_ne (Nat.ne_of_gt (Nat.lt_of_lt_of_le (show 0 < 272 by decide) q1))).trans ((upC_ne (Nat.ne_of_gt (Nat.lt_of_lt_of_le (show 1 < 272 by decide) q1))).trans rfl))))⟩))
          · skip
            refine Ev.bipush (n := -4) (by decide) dX7_unknown_40 ?_
            exact Ev.ireturn dX7_unknown_42 rfl (rE (by unfold CP o_unknown; (repeat rw [Int.toNat_natCast]); rw [ifP_f (by omega), ifP_f (by omega), ifP_t (by omega)]; exact ⟨rfl, hC, (fun _ _ => rfl)⟩))
        · skip
          refine Ev.bipush (n := -3) (by decide) dX7_unknown_28 ?_
          exact Ev.ireturn dX7_unknown_30 rfl (rE (by unfold CP o_unknown; (repeat rw [Int.toNat_natCast]); rw [ifP_f (by omega), ifP_t (by omega)]; exact ⟨rfl, hC, (fun _ _ => rfl)⟩))
      · skip
        refine Ev.bipush (n := -2) (by decide) dX7_unknown_15 ?_
        exact Ev.ireturn dX7_unknown_17 rfl (rE (by unfold CP o_unknown; (repeat rw [Int.toNat_natCast]); rw [ifP_t (by omega)]; exact ⟨rfl, hC, (fun _ _ => rfl)⟩))

set_option maxRecDepth 100000 in
set_option maxHeartbeats 4000000 in
theorem c_hole {g : GC} (s : SS) (σ : Sg) (hC : CI s σ) (x : Int) (h_x : inR x) (v : Int) (h_v : inR v) : Ev g mX7_hole 0 [some (vR (0)), some (vI (x)), some (vI (v)), none] [] (M0 (σ)) 0 0 (retE (CP σ (o_hole s x v))) := by
  obtain ⟨hk1, hk2, hk3, hk4, hk5, hk6, hk7, hk8, hk9⟩ := id hC
  have hU := hk1.1
  have hN := hk2.1
  have hD := hk4.1
  have hM := hk7.1
  have hQ := hk5.1
  refine Ev.aload_n dX7_hole_0 rfl rfl ?_
  refine Ev.iload_n dX7_hole_1 rfl rfl ?_
  refine Ev.callV_I (M2 := mX7_isUnknown) (args2 := [vI (x)]) (rcv := 0) (q := (RX7, TX7, 20)) (ci := 7) dX7_hole_2 okX7_isUnknown lk_X7_94 ovX7_isUnknown.1.1 ovX7_isUnknown.1.2 ovX7_isUnknown.2 (by decide) rfl rfl ltc_0 shc_0 rfl (Nat.le_of_ble_eq_true rfl) (Nat.le_of_ble_eq_true rfl) (s7_isUnknown σ (sU s) hU hk1.2.1 (x) ⟨by omega, by omega⟩) ?_ rfl
  refine Ev.if_ne (tgt := 10) bI_inR dX7_hole_5 (by decide) (fun h5 => ?_) (fun h5 => ?_)
  · skip
    have q5 := bI_1.mp h5
    obtain ⟨kx, rfl⟩ : ∃ n_ : Nat, x = (n_ : Int) := ⟨x.toNat, by omega⟩
    have hxl := (hk1.2.2.1 kx (by omega)).2.2
    refine Ev.iload_n dX7_hole_10 rfl rfl ?_
    refine Ev.callS_I (M2 := mX7_isNumber) (args2 := [vI (v)]) dX7_hole_11 okX7_isNumber lk_X7_98 osX7_isNumber.1 osX7_isNumber.2 (by decide) rfl (Nat.le_of_ble_eq_true rfl) (Nat.le_of_ble_eq_true rfl) (s7_isNumber σ (v) ⟨by omega, by omega⟩) ?_ rfl
    refine Ev.if_ne (tgt := 20) bI_inR dX7_hole_14 (by decide) (fun h14 => ?_) (fun h14 => ?_)
    · skip
      have q14 := bI_1.mp h14
      obtain ⟨kv, rfl⟩ : ∃ n_ : Nat, v = (n_ : Int) := ⟨v.toNat, by omega⟩
      have hpv := pow_le16 (show kv < 16 by omega)
      have hp1 : 1 ≤ 2 ^ kv := Nat.one_le_two_pow
      refine Ev.iconst dX7_hole_20 ?_
      refine Ev.iload_n dX7_hole_21 rfl rfl ?_
      refine Ev.ishl dX7_hole_22 ?_
      rw [show (iShl (1) (((kv : Nat) : Int))) = ((2 ^ kv : Nat) : Int) from shl1 (by omega)]
      refine Ev.istore_n (pl' := [some (vR (0)), some (vI (((kx : Nat) : Int))), some (vI (((kv : Nat) : Int))), some (vI (((2 ^ kv : Nat) : Int)))]) dX7_hole_23 rfl (Nat.le_of_ble_eq_true rfl) rfl ?_
      refine Ev.aload_n dX7_hole_24 rfl rfl ?_
      refine gf_X7_25 rfl dX7_hole_25 ltc_0 shc_0 rfc_0_7 ?_
      refine gf_X7_85 (x := ((sD s : Nat) : Int)) rfl dX7_hole_28 ltc_4 shc_4 hk4.2.1 ?_
      refine Ev.if_gt (tgt := 55) ⟨by omega, by omega⟩ dX7_hole_31 (by decide) (fun h31 => ?_) (fun h31 => ?_)
      · skip
        refine Ev.bipush (n := -3) (by decide) dX7_hole_55 ?_
        exact Ev.ireturn dX7_hole_57 rfl (rE (by unfold CP o_hole; (repeat rw [Int.toNat_natCast]); rw [ifP_f (by omega), ifP_f (by omega), ifP_t (by first | exact Or.inl (by omega) | exact Or.inr (Or.inl (and_pow0.mp (by omega))) | exact Or.inr (Or.inr (by omega)))]; exact ⟨rfl, hC, (fun _ _ => rfl)⟩))
      · skip
        refine Ev.aload_n dX7_hole_34 rfl rfl ?_
        refine gf_X7_9 rfl dX7_hole_35 ltc_0 shc_0 rfc_0_0 ?_
        refine Ev.iload_n dX7_hole_38 rfl rfl ?_
        refine Ev.iaload (v := ((sG s kx : Nat) : Int)) dX7_hole_39 ltc_1 shc_1 (by decide) (by omega) (by omega) (ldx rfl (hk1.2.2.1 kx (by omega)).1) ?_
        refine Ev.iload_n dX7_hole_40 rfl rfl ?_
        refine Ev.iand dX7_hole_41 ?_
        rw [show (iAnd (((sG s kx : Nat) : Int)) (((2 ^ kv : Nat) : Int))) = ((sG s kx &&& 2 ^ kv : Nat) : Int) from iAnd_nat (by omega)]
        refine Ev.if_eq (tgt := 55) ⟨by omega, by have := @Nat.and_le_left (sG s kx) (2 ^ kv); omega⟩ dX7_hole_42 (by decide) (fun h42 => ?_) (fun h42 => ?_)
        · skip
          refine Ev.bipush (n := -3) (by decide) dX7_hole_55 ?_
          exact Ev.ireturn dX7_hole_57 rfl (rE (by unfold CP o_hole; (repeat rw [Int.toNat_natCast]); rw [ifP_f (by omega), ifP_f (by omega), ifP_t (by first | exact Or.inl (by omega) | exact Or.inr (Or.inl (and_pow0.mp (by omega))) | exact Or.inr (Or.inr (by omega)))]; exact ⟨rfl, hC, (fun _ _ => rfl)⟩))
        · skip
          have hbt : (sG s kx).testBit kv = true := by cases hb : (sG s kx).testBit kv with | true => rfl | false => exact absurd (and_pow0.mpr hb) (by omega)
          have hal : andN (sG s kx) (2 ^ kv) < 65536 := andN_lt hxl
          refine Ev.aload_n dX7_hole_45 rfl rfl ?_
          refine gf_X7_9 rfl dX7_hole_46 ltc_0 shc_0 rfc_0_0 ?_
          refine Ev.iload_n dX7_hole_49 rfl rfl ?_
          refine Ev.iaload (v := ((sG s kx : Nat) : Int)) dX7_hole_50 ltc_1 shc_1 (by decide) (by omega) (by omega) (ldx rfl (hk1.2.2.1 kx (by omega)).1) ?_
          refine Ev.iload_n dX7_hole_51 rfl rfl ?_
          refine Ev.icmp_ne (tgt := 58) ⟨by omega, by omega⟩ ⟨by omega, by omega⟩ dX7_hole_52 (by decide) (fun h52 => ?_) (fun h52 => ?_)
          · skip
            refine Ev.aload_n dX7_hole_58 rfl rfl ?_
            refine gf_X7_9 rfl dX7_hole_59 ltc_0 shc_0 rfc_0_0 ?_
            refine Ev.iload_n dX7_hole_62 rfl rfl ?_
            refine Ev.dup2RI dX7_hole_63 ?_
            refine Ev.iaload (v := ((sG s kx : Nat) : Int)) dX7_hole_64 ltc_1 shc_1 (by decide) (by omega) (by omega) (ldx rfl (hk1.2.2.1 kx (by omega)).1) ?_
            refine Ev.iload_n dX7_hole_65 rfl rfl ?_
            refine Ev.iconst dX7_hole_66 ?_
            refine Ev.ixor dX7_hole_67 ?_
            rw [show (iXor (((2 ^ kv : Nat) : Int)) (-1)) = (-((2 ^ kv : Nat) : Int) - 1) from iXor_m1 (by omega)]
            refine Ev.iand dX7_hole_68 ?_
            rw [show (iAnd (((sG s kx : Nat) : Int)) ((-((2 ^ kv : Nat) : Int) - 1))) = ((andN (sG s kx) (2 ^ kv) : Nat) : Int) from iAnd_not (by omega)]
            refine Ev.iastore dX7_hole_69 ltc_1 shc_1 (by decide) (by omega) (by omega) ?_
            refine Ev.mem (τ := upC σ 1 kx (andN (sG s kx) (2 ^ kv) : Int)) (by simp only [Int.toNat_natCast]) ?_
            refine Ev.aload_n dX7_hole_70 rfl rfl ?_
            refine Ev.callV_V (M2 := mX7_letRangesBeAsTold) (args2 := []) (rcv := 0) (q := (RX7, TX7, 20)) (ci := 7) dX7_hole_71 okX7_letRangesBeAsTold lk_X7_91 ovX7_letRangesBeAsTold.1.1 ovX7_letRangesBeAsTold.1.2 ovX7_letRangesBeAsTold.2 (by decide) rfl rfl ltc_0 shc_0 rfl (Nat.le_of_ble_eq_true rfl) (Nat.le_of_ble_eq_true rfl) (s7_asTold (upC σ 1 kx (andN (sG s kx) (2 ^ kv) : Int))) ?_ rfl
            refine Ev.aload_n dX7_hole_74 rfl rfl ?_
            refine gf_X7_9 rfl dX7_hole_75 ltc_0 shc_0 rfc_0_0 ?_
            refine Ev.iload_n dX7_hole_78 rfl rfl ?_
            refine Ev.iaload (v := ((andN (sG s kx) (2 ^ kv) : Nat) : Int)) dX7_hole_79 ltc_1 shc_1 (by decide) (by omega) (by omega) (show (cpy (upC σ 1 kx (andN (sG s kx) (2 ^ kv) : Int)) 1 2 0 0 10) 1 (((kx : Nat) : Int)).toNat = ((andN (sG s kx) (2 ^ kv) : Nat) : Int) from (ldx rfl (show (cpy (upC σ 1 kx (andN (sG s kx) (2 ^ kv) : Int)) 1 2 0 0 10) 1 kx = _ from by rw [cpy_ne (by decide)]; exact upC_at))) ?_
            refine Ev.callS_I (M2 := mJ6_bitCount_0f7a4) (args2 := [vI (((andN (sG s kx) (2 ^ kv) : Nat) : Int))]) dX7_hole_80 okJ6_bitCount_0f7a4 lk_X7_101 osJ6_bitCount_0f7a4.1 osJ6_bitCount_0f7a4.2 (by decide) rfl (Nat.le_of_ble_eq_true rfl) (Nat.le_of_ble_eq_true rfl) (sJ_bitCount (cpy (upC σ 1 kx (andN (sG s kx) (2 ^ kv) : Int)) 1 2 0 0 10) (andN (sG s kx) (2 ^ kv)) hal) ?_ rfl
            exact Ev.ireturn dX7_hole_83 rfl (rE (by unfold CP o_hole; (repeat rw [Int.toNat_natCast]); rw [ifP_f (by omega), ifP_f (by omega), ifP_f (by rintro (z | z | z); omega; (rw [hbt] at z; cases z); omega)]; exact ⟨rfl, ⟨⟨hU, ((congrFun (cpy_ne (by decide)) 2).trans ((congrFun (upC_ne (by decide)) 2).trans hk1.2.1)), (told_av hU (av_set hk1.2.2.1 ⟨andN_ne hbt (by omega), andN_lt hxl⟩)).1, (told_av hU (av_set hk1.2.2.1 ⟨andN_ne hbt (by omega), andN_lt hxl⟩)).2⟩, (hk2.cg ((congrFun (cpy_ne (by decide)) 4).trans ((congrFun (upC_ne (by decide)) 4).trans rfl)) ((congrFun (cpy_ne (by decide)) 5).trans ((congrFun (upC_ne (by decide)) 5).trans rfl)) (fun c q1 q2 => ((cpy_ne (Nat.ne_of_gt (Nat.lt_of_lt_of_le (show 2 < 26 by decide) q1))).trans ((upC_ne (Nat.ne_of_gt (Nat.lt_of_lt_of_le (show 1 < 26 by decide) q1))).trans rfl)))), (hk3.cg (fun c q1 q2 => ((cpy_ne (Nat.ne_of_gt (Nat.lt_of_lt_of_le (show 2 < 251 by decide) q1))).trans ((upC_ne (Nat.ne_of_gt (Nat.lt_of_lt_of_le (show 1 < 251 by decide) q1))).trans rfl)))), (hk4.cg (fun c q1 q2 _ => ((cpy_ne (Nat.ne_of_gt (Nat.lt_of_lt_of_le (show 2 < 4 by decide) q1))).trans ((upC_ne (Nat.ne_of_gt (Nat.lt_of_lt_of_le (show 1 < 4 by decide) q1))).trans rfl)))), (hk5.cg ((congrFun (cpy_ne (by decide)) 9).trans ((congrFun (upC_ne (by decide)) 9).trans rfl)) ((cpy_ne (by decide)).trans ((upC_ne (by decide)).trans rfl))), (hk6.cg ((congrFun (cpy_ne (by decide)) 11).trans ((congrFun (upC_ne (by decide)) 11).trans rfl)) ((cpy_ne (by decide)).trans ((upC_ne (by decide)).trans rfl))), (hk7.cg ((congrFun (cpy_ne (by decide)) 14).trans ((congrFun (upC_ne (by decide)) 14).trans rfl)) ((cpy_ne (by decide)).trans ((upC_ne (by decide)).trans rfl)) (fun c q1 q2 => ((cpy_ne (Nat.ne_of_gt (Nat.lt_of_lt_of_le (show 2 < 90 by decide) q1))).trans ((upC_ne (Nat.ne_of_gt (Nat.lt_of_lt_of_le (show 1 < 90 by decide) q1))).trans rfl)))), ((congrFun (cpy_ne (by decide)) 15).trans ((congrFun (upC_ne (by decide)) 15).trans hk8)), ((congrFun (cpy_ne (by decide)) 0).trans ((congrFun (upC_ne (by decide)) 0).trans hk9))⟩, (fun c q1 => ((cpy_ne (Nat.ne_of_gt (Nat.lt_of_lt_of_le (show 2 < 272 by decide) q1))).trans ((upC_ne (Nat.ne_of_gt (Nat.lt_of_lt_of_le (show 1 < 272 by decide) q1))).trans rfl)))⟩))
          · skip
            refine Ev.bipush (n := -3) (by decide) dX7_hole_55 ?_
            exact Ev.ireturn dX7_hole_57 rfl (rE (by unfold CP o_hole; (repeat rw [Int.toNat_natCast]); rw [ifP_f (by omega), ifP_f (by omega), ifP_t (by first | exact Or.inl (by omega) | exact Or.inr (Or.inl (and_pow0.mp (by omega))) | exact Or.inr (Or.inr (by omega)))]; exact ⟨rfl, hC, (fun _ _ => rfl)⟩))
    · skip
      have q14 := bI_0.mp h14
      refine Ev.bipush (n := -2) (by decide) dX7_hole_17 ?_
      exact Ev.ireturn dX7_hole_19 rfl (rE (by unfold CP o_hole; (repeat rw [Int.toNat_natCast]); rw [ifP_f (by omega), ifP_t (by omega)]; exact ⟨rfl, hC, (fun _ _ => rfl)⟩))
  · skip
    have q5 := bI_0.mp h5
    refine Ev.iconst dX7_hole_8 ?_
    exact Ev.ireturn dX7_hole_9 rfl (rE (by unfold CP o_hole; (repeat rw [Int.toNat_natCast]); rw [ifP_t (by omega)]; exact ⟨rfl, hC, (fun _ _ => rfl)⟩))

