/-! THE REFERENCE: line, says, forge, total -/
theorem u7_new {σ τ : Sg} {U n m : Nat} {L : Nat → RC} {f : Nat → Int} {r : Int} (h : u7 σ U n m L f) (hU : U ≤ 10) (hm : m < 40) (hr : r = -9 ∨ (0 ≤ r ∧ r < n)) (e14 : τ 272 19 = ((m + 1 : Nat) : Int)) (e0 : ∀ i, τ 288 i = upC σ 288 m r 288 i) (e1 : ∀ i, τ 289 i = upC σ 289 m 0 289 i) (e : ∀ c, 290 ≤ c → c ≤ 291 → τ c = σ c) : u7 τ U n (m + 1) (updF L m (nR 5 0 0)) (updF f m r) := by
  obtain ⟨a1, a2, a3⟩ := h
  refine ⟨by omega, e14, fun l hl => ?_⟩
  rw [e0 l]
  by_cases el : l = m
  · subst el
    rw [updF_at, updF_at, upC_at]
    exact ⟨⟨by rw [e1, upC_at]; rfl, fun k hk => absurd hk (by show ¬ k < 0; omega)⟩, WR.new hU (by decide) ⟨fun z => absurd z (by decide), fun z => absurd z (by decide), fun z => absurd z (by decide)⟩, rfl, rfl, hr⟩
  · rw [updF_ne el, updF_ne el, upC_self el]
    obtain ⟨b1, b2, b3, b4, b5⟩ := a3 l (by omega)
    exact ⟨⟨by rw [e1, upC_self el]; exact b1.1, fun k hk => by rw [e 290 (by decide) (by decide), e 291 (by decide) (by decide)]; exact b1.2 k hk⟩, b2, b3, b4, b5⟩
theorem u7_add {σ τ : Sg} {U n m l x : Nat} {L : Nat → RC} {f : Nat → Int} {a : Int} (h : u7 σ U n m L f) (hl : l < m) (hW : WR U (addP (L l) x a 0)) (e14 : τ 272 19 = σ 272 19) (e0 : τ 288 = σ 288) (e1 : ∀ i, τ 289 i = upC σ 289 l ((rN (L l) + 1 : Nat) : Int) 289 i) (e2 : ∀ i, τ 290 i = upC σ 290 (6 * l + rN (L l)) (x : Int) 290 i) (e3 : ∀ i, τ 291 i = upC σ 291 (6 * l + rN (L l)) a 291 i) : u7 τ U n m (updF L l (addP (L l) x a 0)) f := by
  obtain ⟨a1, a2, a3⟩ := h
  refine ⟨a1, e14.trans a2, fun q hq => ?_⟩
  rw [e0]
  by_cases er : q = l
  · subst er
    rw [updF_at]
    obtain ⟨b1, b2, b3, b4, b5⟩ := a3 q hl
    refine ⟨⟨by rw [e1, upC_at]; rfl, fun k hk => ?_⟩, hW, b3, b4, b5⟩
    rw [addP_o, addP_a, e2, e3]
    by_cases ej : k = rN (L q)
    · rw [ej, upC_at, upC_at, if_pos rfl, if_pos rfl]; exact ⟨rfl, rfl⟩
    · rw [if_neg ej, if_neg ej, upC_self (by omega), upC_self (by omega)]
      exact b1.2 k (by have : k < rN (L q) + 1 := hk
                       omega)
  · rw [updF_ne er]
    obtain ⟨b1, b2, b3, b4, b5⟩ := a3 q hq
    have h6 := (a3 l hl).2.1.1.2.1
    have h7 := b2.1.2.1
    have h8 : rN (L l) + 1 ≤ 6 := hW.1.2.1
    refine ⟨⟨by rw [e1, upC_self er]; exact b1.1, fun k hk => ?_⟩, b2, b3, b4, b5⟩
    rw [e2, e3, upC_self (by omega), upC_self (by omega)]
    exact b1.2 k hk
theorem u7_set {σ τ : Sg} {U n m l j : Nat} {L : Nat → RC} {f : Nat → Int} {a : Int} (h : u7 σ U n m L f) (hl : l < m) (hj : j < rN (L l)) (ha : 0 ≤ a ∧ a < 65536) (e14 : τ 272 19 = σ 272 19) (e : ∀ c, 288 ≤ c → c ≤ 290 → τ c = σ c) (e3 : ∀ i, τ 291 i = upC σ 291 (6 * l + j) a 291 i) : u7 τ U n m (updF L l (setP (L l) j a)) f := by
  obtain ⟨a1, a2, a3⟩ := h
  refine ⟨a1, e14.trans a2, fun q hq => ?_⟩
  rw [e 288 (by decide) (by decide)]
  by_cases er : q = l
  · subst er
    rw [updF_at]
    obtain ⟨b1, b2, b3, b4, b5⟩ := a3 q hl
    refine ⟨⟨by rw [e 289 (by decide) (by decide)]; exact b1.1, fun k hk => ?_⟩, b2.set b3 ha, b3, b4, b5⟩
    rw [e 290 (by decide) (by decide), e3]
    refine ⟨(b1.2 k hk).1, ?_⟩
    show upC σ 291 (6 * q + j) a 291 (6 * q + k) = updF (rA (L q)) j a k
    by_cases ej : k = j
    · rw [ej, upC_at, updF_at]
    · rw [upC_self (by omega), updF_ne ej]; exact (b1.2 k hk).2
  · rw [updF_ne er]
    obtain ⟨b1, b2, b3, b4, b5⟩ := a3 q hq
    have h6 := (a3 l hl).2.1.1.2.1
    have h7 := b2.1.2.1
    refine ⟨⟨by rw [e 289 (by decide) (by decide)]; exact b1.1, fun k hk => ?_⟩, b2, b3, b4, b5⟩
    rw [e 290 (by decide) (by decide), e3, upC_self (by omega)]
    exact b1.2 k hk
set_option maxRecDepth 100000 in
set_option maxHeartbeats 4000000 in
theorem r_line {g : GC} (s : SS) (σ : Sg) (hM : MI s σ) (r : Int) (h_r : inR r) : Ev g mX8_line 0 [some (vR (272)), some (vI (r))] [] (M0 (σ)) 0 0 (retE (MP σ (o_line s r))) := by
  refine Ev.aload_n dX8_line_0 rfl rfl ?_
  refine Ev.iconst dX8_line_1 ?_
  refine pf_X8_90 rfl dX8_line_2 ltc_272 shc_272 ?_
  obtain ⟨σ1, hs1⟩ : ∃ ρ : Sg, ρ = upC σ 272 0 0 := ⟨_, rfl⟩
  refine Ev.mem (τ := σ1) hs1.symm ?_
  have hM1 : MI s σ1 := by rw [hs1]; exact hM.th
  have hk0 : ∀ c, c < 272 → σ1 c = σ c := fun c hc => by rw [hs1]; exact upC_ne (by omega)
  obtain ⟨hu1, hu2, hu3, hu4, hu5, hu6, hu7, hu8⟩ := id hM1
  have hU := hu1.1
  have hN := hu2.1
  have hD := hu4.1
  have hMl := hu7.1
  have hQ := hu5.1
  refine Ev.iload_n dX8_line_5 rfl rfl ?_
  refine Ev.bipush (n := -9) (by decide) dX8_line_6 ?_
  refine Ev.icmp_eq (tgt := 21) ⟨by omega, by omega⟩ ⟨by decide, by decide⟩ dX8_line_8 (by decide) (fun h8 => ?_) (fun h8 => ?_)
  · skip
    have hrr : r = -9 ∨ (0 ≤ r ∧ r < (sN s : Int)) := by omega
    refine Ev.aload_n dX8_line_21 rfl rfl ?_
    refine gf_X8_275 (x := ((sM s : Nat) : Int)) rfl dX8_line_22 ltc_272 shc_272 hu7.2.1 ?_
    refine Ev.bipush (n := 40) (by decide) dX8_line_25 ?_
    refine Ev.icmp_ne (tgt := 33) ⟨by omega, by omega⟩ ⟨by decide, by decide⟩ dX8_line_27 (by decide) (fun h27 => ?_) (fun h27 => ?_)
    · skip
      refine Ev.aload_n dX8_line_33 rfl rfl ?_
      refine gf_X8_56 rfl dX8_line_34 ltc_272 shc_272 rfc_272_20 ?_
      refine Ev.aload_n dX8_line_37 rfl rfl ?_
      refine gf_X8_275 (x := ((sM s : Nat) : Int)) rfl dX8_line_38 ltc_272 shc_272 hu7.2.1 ?_
      refine Ev.iload_n dX8_line_41 rfl rfl ?_
      refine Ev.iastore dX8_line_42 ltc_288 shc_288 (by decide) (by omega) (by omega) ?_
      refine Ev.mem (τ := upC σ1 288 (sM s) r) (upi rfl rfl) ?_
      refine Ev.aload_n dX8_line_43 rfl rfl ?_
      refine gf_X8_59 rfl dX8_line_44 ltc_272 shc_272 rfc_272_21 ?_
      refine Ev.aload_n dX8_line_47 rfl rfl ?_
      refine gf_X8_275 (x := ((sM s : Nat) : Int)) rfl dX8_line_48 ltc_272 shc_272 (show (upC σ1 288 (sM s) r) 272 19 = ((sM s : Nat) : Int) from ((congrFun (upC_ne (by decide)) 19).trans hu7.2.1)) ?_
      refine Ev.iconst dX8_line_51 ?_
      refine Ev.iastore dX8_line_52 ltc_289 shc_289 (by decide) (by omega) (by omega) ?_
      refine Ev.mem (τ := upC (upC σ1 288 (sM s) r) 289 (sM s) 0) (upi rfl rfl) ?_
      refine Ev.aload_n dX8_line_53 rfl rfl ?_
      refine Ev.dupR dX8_line_54 ?_
      refine gf_X8_275 (x := ((sM s : Nat) : Int)) rfl dX8_line_55 ltc_272 shc_272 (show (upC (upC σ1 288 (sM s) r) 289 (sM s) 0) 272 19 = ((sM s : Nat) : Int) from ((congrFun (upC_ne (by decide)) 19).trans ((congrFun (upC_ne (by decide)) 19).trans hu7.2.1))) ?_
      refine Ev.iconst dX8_line_58 ?_
      refine Ev.iadd dX8_line_59 ?_
      refine pf_X8_275 rfl dX8_line_60 ltc_272 shc_272 ?_
      refine Ev.mem (τ := upC (upC (upC σ1 288 (sM s) r) 289 (sM s) 0) 272 19 ((sM s + 1 : Nat) : Int)) (by rw [show ((sM s : Nat) : Int) + 1 = ((sM s + 1 : Nat) : Int) by omega]) ?_
      refine Ev.aload_n dX8_line_63 rfl rfl ?_
      refine gf_X8_275 (x := (((sM s + 1) : Nat) : Int)) rfl dX8_line_64 ltc_272 shc_272 (show (upC (upC (upC σ1 288 (sM s) r) 289 (sM s) 0) 272 19 ((sM s + 1 : Nat) : Int)) 272 19 = (((sM s + 1) : Nat) : Int) from upC_at) ?_
      refine Ev.iconst dX8_line_67 ?_
      refine Ev.isub dX8_line_68 ?_
      exact Ev.ireturn dX8_line_69 rfl (rE (by unfold MP o_line; (repeat rw [Int.toNat_natCast]); rw [ifP_f (fun z => z hrr), ifP_f (by omega)]; exact ⟨(by show _ = ((sM s : Nat) : Int); omega), ⟨(hu1.cg ((upC_self (by decide)).trans ((congrFun (upC_ne (by decide)) 1).trans ((congrFun (upC_ne (by decide)) 1).trans ((congrFun (Eq.refl _) 1).trans rfl)))) ((upC_ne (by decide)).trans ((upC_ne (by decide)).trans ((upC_ne (by decide)).trans (Eq.refl _)))) ((upC_ne (by decide)).trans ((upC_ne (by decide)).trans ((upC_ne (by decide)).trans (Eq.refl _))))), (hu2.cg ((upC_self (by decide)).trans ((congrFun (upC_ne (by decide)) 8).trans ((congrFun (upC_ne (by decide)) 8).trans ((congrFun (Eq.refl _) 8).trans rfl)))) (fun c q1 q2 => ((upC_ne (Nat.ne_of_gt (Nat.lt_of_lt_of_le (show 272 < 278 by decide) q1))).trans ((upC_ne (Nat.ne_of_lt (Nat.lt_of_lt_of_le (Nat.lt_succ_of_le q2) (show 286 ≤ 289 by decide)))).trans ((upC_ne (Nat.ne_of_lt (Nat.lt_of_lt_of_le (Nat.lt_succ_of_le q2) (show 286 ≤ 288 by decide)))).trans (Eq.refl _)))))), (hu3.cg (fun c i q1 q2 => congrFun ((upC_ne (Nat.ne_of_gt (Nat.lt_of_lt_of_le (show 272 < 286 by decide) q1))).trans ((upC_ne (Nat.ne_of_lt (Nat.lt_of_lt_of_le (Nat.lt_succ_of_le q2) (show 288 ≤ 289 by decide)))).trans ((upC_ne (Nat.ne_of_lt (Nat.lt_of_lt_of_le (Nat.lt_succ_of_le q2) (show 288 ≤ 288 by decide)))).trans (Eq.refl _)))) i)), (hu4.cg ((upC_self (by decide)).trans ((congrFun (upC_ne (by decide)) 4).trans ((congrFun (upC_ne (by decide)) 4).trans ((congrFun (Eq.refl _) 4).trans rfl)))) (fun c q1 q2 => ((upC_ne (Nat.ne_of_gt (Nat.lt_of_lt_of_le (show 272 < 275 by decide) q1))).trans ((upC_ne (Nat.ne_of_lt (Nat.lt_of_lt_of_le (Nat.lt_succ_of_le q2) (show 278 ≤ 289 by decide)))).trans ((upC_ne (Nat.ne_of_lt (Nat.lt_of_lt_of_le (Nat.lt_succ_of_le q2) (show 278 ≤ 288 by decide)))).trans (Eq.refl _)))))), (hu5.cg ((upC_self (by decide)).trans ((congrFun (upC_ne (by decide)) 25).trans ((congrFun (upC_ne (by decide)) 25).trans ((congrFun (Eq.refl _) 25).trans rfl)))) ((upC_ne (by decide)).trans ((upC_ne (by decide)).trans ((upC_ne (by decide)).trans (Eq.refl _))))), (hu6.cg ((upC_self (by decide)).trans ((congrFun (upC_ne (by decide)) 27).trans ((congrFun (upC_ne (by decide)) 27).trans ((congrFun (Eq.refl _) 27).trans rfl)))) ((upC_ne (by decide)).trans ((upC_ne (by decide)).trans ((upC_ne (by decide)).trans (Eq.refl _))))), (u7_new hu7 hU (by omega) hrr upC_at (fun i => congrFun ((upC_ne (by decide)).trans (upC_ne (by decide))) i) (fun i => (congrFun (upC_ne (by decide)) i).trans (upC_cong (congrFun (upC_ne (by decide)) i))) (fun c q1 q2 => (upC_ne (by omega)).trans ((upC_ne (by omega)).trans (upC_ne (by omega))))), ((upC_self (by decide)).trans ((congrFun (upC_ne (by decide)) 24).trans ((congrFun (upC_ne (by decide)) 24).trans ((congrFun (Eq.refl _) 24).trans hu8))))⟩, (fun c q2 => ((upC_ne (Nat.ne_of_lt (Nat.lt_of_lt_of_le q2 (show 272 ≤ 272 by decide)))).trans ((upC_ne (Nat.ne_of_lt (Nat.lt_of_lt_of_le q2 (show 272 ≤ 289 by decide)))).trans ((upC_ne (Nat.ne_of_lt (Nat.lt_of_lt_of_le q2 (show 272 ≤ 288 by decide)))).trans ((Eq.refl _).trans (hk0 c q2))))))⟩))
    · skip
      refine Ev.bipush (n := -4) (by decide) dX8_line_30 ?_
      exact Ev.ireturn dX8_line_32 rfl (rE (by unfold MP o_line; (repeat rw [Int.toNat_natCast]); rw [ifP_f (fun z => z hrr), ifP_t (by omega)]; exact ⟨rfl, hM1, hk0⟩))
  · skip
    refine Ev.aload_n dX8_line_11 rfl rfl ?_
    refine Ev.iload_n dX8_line_12 rfl rfl ?_
    refine Ev.callV_I (M2 := mX8_noRule) (args2 := [vI (r)]) (rcv := 272) (q := (RX8, TX8, 34)) (ci := 8) dX8_line_13 okX8_noRule lk_X8_137 ovX8_noRule.1.1 ovX8_noRule.1.2 ovX8_noRule.2 (by decide) rfl rfl ltc_272 shc_272 rfl (Nat.le_of_ble_eq_true rfl) (Nat.le_of_ble_eq_true rfl) (sM_noRule σ1 (sN s) hN hu2.2.1 (r) ⟨by omega, by omega⟩) ?_ rfl
    refine Ev.if_eq (tgt := 21) bI_inR dX8_line_16 (by decide) (fun h16 => ?_) (fun h16 => ?_)
    · skip
      have q16 := bI_0.mp h16
      have hrr : r = -9 ∨ (0 ≤ r ∧ r < (sN s : Int)) := by omega
      refine Ev.aload_n dX8_line_21 rfl rfl ?_
      refine gf_X8_275 (x := ((sM s : Nat) : Int)) rfl dX8_line_22 ltc_272 shc_272 hu7.2.1 ?_
      refine Ev.bipush (n := 40) (by decide) dX8_line_25 ?_
      refine Ev.icmp_ne (tgt := 33) ⟨by omega, by omega⟩ ⟨by decide, by decide⟩ dX8_line_27 (by decide) (fun h27 => ?_) (fun h27 => ?_)
      · skip
        refine Ev.aload_n dX8_line_33 rfl rfl ?_
        refine gf_X8_56 rfl dX8_line_34 ltc_272 shc_272 rfc_272_20 ?_
        refine Ev.aload_n dX8_line_37 rfl rfl ?_
        refine gf_X8_275 (x := ((sM s : Nat) : Int)) rfl dX8_line_38 ltc_272 shc_272 hu7.2.1 ?_
        refine Ev.iload_n dX8_line_41 rfl rfl ?_
        refine Ev.iastore dX8_line_42 ltc_288 shc_288 (by decide) (by omega) (by omega) ?_
        refine Ev.mem (τ := upC σ1 288 (sM s) r) (upi rfl rfl) ?_
        refine Ev.aload_n dX8_line_43 rfl rfl ?_
        refine gf_X8_59 rfl dX8_line_44 ltc_272 shc_272 rfc_272_21 ?_
        refine Ev.aload_n dX8_line_47 rfl rfl ?_
        refine gf_X8_275 (x := ((sM s : Nat) : Int)) rfl dX8_line_48 ltc_272 shc_272 (show (upC σ1 288 (sM s) r) 272 19 = ((sM s : Nat) : Int) from ((congrFun (upC_ne (by decide)) 19).trans hu7.2.1)) ?_
        refine Ev.iconst dX8_line_51 ?_
        refine Ev.iastore dX8_line_52 ltc_289 shc_289 (by decide) (by omega) (by omega) ?_
        refine Ev.mem (τ := upC (upC σ1 288 (sM s) r) 289 (sM s) 0) (upi rfl rfl) ?_
        refine Ev.aload_n dX8_line_53 rfl rfl ?_
        refine Ev.dupR dX8_line_54 ?_
        refine gf_X8_275 (x := ((sM s : Nat) : Int)) rfl dX8_line_55 ltc_272 shc_272 (show (upC (upC σ1 288 (sM s) r) 289 (sM s) 0) 272 19 = ((sM s : Nat) : Int) from ((congrFun (upC_ne (by decide)) 19).trans ((congrFun (upC_ne (by decide)) 19).trans hu7.2.1))) ?_
        refine Ev.iconst dX8_line_58 ?_
        refine Ev.iadd dX8_line_59 ?_
        refine pf_X8_275 rfl dX8_line_60 ltc_272 shc_272 ?_
        refine Ev.mem (τ := upC (upC (upC σ1 288 (sM s) r) 289 (sM s) 0) 272 19 ((sM s + 1 : Nat) : Int)) (by rw [show ((sM s : Nat) : Int) + 1 = ((sM s + 1 : Nat) : Int) by omega]) ?_
        refine Ev.aload_n dX8_line_63 rfl rfl ?_
        refine gf_X8_275 (x := (((sM s + 1) : Nat) : Int)) rfl dX8_line_64 ltc_272 shc_272 (show (upC (upC (upC σ1 288 (sM s) r) 289 (sM s) 0) 272 19 ((sM s + 1 : Nat) : Int)) 272 19 = (((sM s + 1) : Nat) : Int) from upC_at) ?_
        refine Ev.iconst dX8_line_67 ?_
        refine Ev.isub dX8_line_68 ?_
        exact Ev.ireturn dX8_line_69 rfl (rE (by unfold MP o_line; (repeat rw [Int.toNat_natCast]); rw [ifP_f (fun z => z hrr), ifP_f (by omega)]; exact ⟨(by show _ = ((sM s : Nat) : Int); omega), ⟨(hu1.cg ((upC_self (by decide)).trans ((congrFun (upC_ne (by decide)) 1).trans ((congrFun (upC_ne (by decide)) 1).trans ((congrFun (Eq.refl _) 1).trans rfl)))) ((upC_ne (by decide)).trans ((upC_ne (by decide)).trans ((upC_ne (by decide)).trans (Eq.refl _)))) ((upC_ne (by decide)).trans ((upC_ne (by decide)).trans ((upC_ne (by decide)).trans (Eq.refl _))))), (hu2.cg ((upC_self (by decide)).trans ((congrFun (upC_ne (by decide)) 8).trans ((congrFun (upC_ne (by decide)) 8).trans ((congrFun (Eq.refl _) 8).trans rfl)))) (fun c q1 q2 => ((upC_ne (Nat.ne_of_gt (Nat.lt_of_lt_of_le (show 272 < 278 by decide) q1))).trans ((upC_ne (Nat.ne_of_lt (Nat.lt_of_lt_of_le (Nat.lt_succ_of_le q2) (show 286 ≤ 289 by decide)))).trans ((upC_ne (Nat.ne_of_lt (Nat.lt_of_lt_of_le (Nat.lt_succ_of_le q2) (show 286 ≤ 288 by decide)))).trans (Eq.refl _)))))), (hu3.cg (fun c i q1 q2 => congrFun ((upC_ne (Nat.ne_of_gt (Nat.lt_of_lt_of_le (show 272 < 286 by decide) q1))).trans ((upC_ne (Nat.ne_of_lt (Nat.lt_of_lt_of_le (Nat.lt_succ_of_le q2) (show 288 ≤ 289 by decide)))).trans ((upC_ne (Nat.ne_of_lt (Nat.lt_of_lt_of_le (Nat.lt_succ_of_le q2) (show 288 ≤ 288 by decide)))).trans (Eq.refl _)))) i)), (hu4.cg ((upC_self (by decide)).trans ((congrFun (upC_ne (by decide)) 4).trans ((congrFun (upC_ne (by decide)) 4).trans ((congrFun (Eq.refl _) 4).trans rfl)))) (fun c q1 q2 => ((upC_ne (Nat.ne_of_gt (Nat.lt_of_lt_of_le (show 272 < 275 by decide) q1))).trans ((upC_ne (Nat.ne_of_lt (Nat.lt_of_lt_of_le (Nat.lt_succ_of_le q2) (show 278 ≤ 289 by decide)))).trans ((upC_ne (Nat.ne_of_lt (Nat.lt_of_lt_of_le (Nat.lt_succ_of_le q2) (show 278 ≤ 288 by decide)))).trans (Eq.refl _)))))), (hu5.cg ((upC_self (by decide)).trans ((congrFun (upC_ne (by decide)) 25).trans ((congrFun (upC_ne (by decide)) 25).trans ((congrFun (Eq.refl _) 25).trans rfl)))) ((upC_ne (by decide)).trans ((upC_ne (by decide)).trans ((upC_ne (by decide)).trans (Eq.refl _))))), (hu6.cg ((upC_self (by decide)).trans ((congrFun (upC_ne (by decide)) 27).trans ((congrFun (upC_ne (by decide)) 27).trans ((congrFun (Eq.refl _) 27).trans rfl)))) ((upC_ne (by decide)).trans ((upC_ne (by decide)).trans ((upC_ne (by decide)).trans (Eq.refl _))))), (u7_new hu7 hU (by omega) hrr upC_at (fun i => congrFun ((upC_ne (by decide)).trans (upC_ne (by decide))) i) (fun i => (congrFun (upC_ne (by decide)) i).trans (upC_cong (congrFun (upC_ne (by decide)) i))) (fun c q1 q2 => (upC_ne (by omega)).trans ((upC_ne (by omega)).trans (upC_ne (by omega))))), ((upC_self (by decide)).trans ((congrFun (upC_ne (by decide)) 24).trans ((congrFun (upC_ne (by decide)) 24).trans ((congrFun (Eq.refl _) 24).trans hu8))))⟩, (fun c q2 => ((upC_ne (Nat.ne_of_lt (Nat.lt_of_lt_of_le q2 (show 272 ≤ 272 by decide)))).trans ((upC_ne (Nat.ne_of_lt (Nat.lt_of_lt_of_le q2 (show 272 ≤ 289 by decide)))).trans ((upC_ne (Nat.ne_of_lt (Nat.lt_of_lt_of_le q2 (show 272 ≤ 288 by decide)))).trans ((Eq.refl _).trans (hk0 c q2))))))⟩))
      · skip
        refine Ev.bipush (n := -4) (by decide) dX8_line_30 ?_
        exact Ev.ireturn dX8_line_32 rfl (rE (by unfold MP o_line; (repeat rw [Int.toNat_natCast]); rw [ifP_f (fun z => z hrr), ifP_t (by omega)]; exact ⟨rfl, hM1, hk0⟩))
    · skip
      have q16 := bI_1.mp h16
      refine Ev.iconst dX8_line_19 ?_
      exact Ev.ireturn dX8_line_20 rfl (rE (by unfold MP o_line; (repeat rw [Int.toNat_natCast]); rw [ifP_t (by omega)]; exact ⟨rfl, hM1, hk0⟩))

set_option maxRecDepth 100000 in
set_option maxHeartbeats 4000000 in
theorem r_says {g : GC} (s : SS) (σ : Sg) (hM : MI s σ) (l : Int) (h_l : inR l) (x : Int) (h_x : inR x) (k : Int) (h_k : inR k) (v : Int) (h_v : inR v) : Ev g mX8_says 0 [some (vR (272)), some (vI (l)), some (vI (x)), some (vI (k)), some (vI (v))] [] (M0 (σ)) 0 0 (retE (MP σ (o_says s l x k v))) := by
  refine Ev.aload_n dX8_says_0 rfl rfl ?_
  refine Ev.iconst dX8_says_1 ?_
  refine pf_X8_90 rfl dX8_says_2 ltc_272 shc_272 ?_
  obtain ⟨σ1, hs1⟩ : ∃ ρ : Sg, ρ = upC σ 272 0 0 := ⟨_, rfl⟩
  refine Ev.mem (τ := σ1) hs1.symm ?_
  have hM1 : MI s σ1 := by rw [hs1]; exact hM.th
  have hk0 : ∀ c, c < 272 → σ1 c = σ c := fun c hc => by rw [hs1]; exact upC_ne (by omega)
  obtain ⟨hu1, hu2, hu3, hu4, hu5, hu6, hu7, hu8⟩ := id hM1
  have hU := hu1.1
  have hN := hu2.1
  have hD := hu4.1
  have hMl := hu7.1
  have hQ := hu5.1
  refine Ev.aload_n dX8_says_5 rfl rfl ?_
  refine Ev.iload_n dX8_says_6 rfl rfl ?_
  refine Ev.callV_I (M2 := mX8_noLine) (args2 := [vI (l)]) (rcv := 272) (q := (RX8, TX8, 34)) (ci := 8) dX8_says_7 okX8_noLine lk_X8_278 ovX8_noLine.1.1 ovX8_noLine.1.2 ovX8_noLine.2 (by decide) rfl rfl ltc_272 shc_272 rfl (Nat.le_of_ble_eq_true rfl) (Nat.le_of_ble_eq_true rfl) (sM_noLine σ1 (sM s) hMl hu7.2.1 (l) ⟨by omega, by omega⟩) ?_ rfl
  refine Ev.if_ne (tgt := 21) bI_inR dX8_says_10 (by decide) (fun h10 => ?_) (fun h10 => ?_)
  · skip
    have q10 := bI_1.mp h10
    refine Ev.iconst dX8_says_21 ?_
    exact Ev.ireturn dX8_says_22 rfl (rE (by unfold MP o_says; (repeat rw [Int.toNat_natCast]); rw [ifP_t (by first | exact fun z => absurd z.1 (by omega) | exact fun z => absurd z.2 (by omega))]; exact ⟨rfl, hM1, hk0⟩))
  · skip
    have q10 := bI_0.mp h10
    refine Ev.aload_n dX8_says_13 rfl rfl ?_
    refine Ev.iload_n dX8_says_14 rfl rfl ?_
    refine Ev.callV_I (M2 := mX8_noUnknown) (args2 := [vI (x)]) (rcv := 272) (q := (RX8, TX8, 34)) (ci := 8) dX8_says_15 okX8_noUnknown lk_X8_119 ovX8_noUnknown.1.1 ovX8_noUnknown.1.2 ovX8_noUnknown.2 (by decide) rfl rfl ltc_272 shc_272 rfl (Nat.le_of_ble_eq_true rfl) (Nat.le_of_ble_eq_true rfl) (sM_noUnknown σ1 (sU s) hU hu1.2.1 (x) ⟨by omega, by omega⟩) ?_ rfl
    refine Ev.if_eq (tgt := 23) bI_inR dX8_says_18 (by decide) (fun h18 => ?_) (fun h18 => ?_)
    · skip
      have q18 := bI_0.mp h18
      obtain ⟨kl, rfl⟩ : ∃ n_ : Nat, l = (n_ : Int) := ⟨l.toNat, by omega⟩
      obtain ⟨kx, rfl⟩ : ∃ n_ : Nat, x = (n_ : Int) := ⟨x.toNat, by omega⟩
      have hLk := hu7.2.2 kl (by omega)
      have hn6 := hLk.2.1.1.2.1
      have hk5L := hLk.2.2.1
      refine Ev.iload_n dX8_says_23 rfl rfl ?_
      refine Ev.i2l ⟨by omega, by omega⟩ dX8_says_24 ?_
      refine Ev.lconst 0 rfl dX8_says_25 ?_
      refine Ev.ldc2 (n := 3) (tbl_i 851 (by decide +kernel)) dX8_says_26 ?_
      refine Ev.callS_I (M2 := mX8_in) (args2 := [vL (k), vL (0), vL (3)]) dX8_says_29 okX8_in lk_X8_96 osX8_in.1 osX8_in.2 (by decide) rfl (Nat.le_of_ble_eq_true rfl) (Nat.le_of_ble_eq_true rfl) (sM_in σ1 (k) (0) (3) ⟨by omega, by omega⟩ ⟨by omega, by omega⟩ ⟨by omega, by omega⟩) ?_ rfl
      refine Ev.if_eq (tgt := 48) bI_inR dX8_says_32 (by decide) (fun h32 => ?_) (fun h32 => ?_)
      · skip
        have q32 := bI_0.mp h32
        refine Ev.bipush (n := -2) (by decide) dX8_says_48 ?_
        exact Ev.ireturn dX8_says_50 rfl (rE (by unfold MP o_says; (repeat rw [Int.toNat_natCast]); rw [ifP_f (fun z => z ⟨⟨by omega, by omega⟩, ⟨by omega, by omega⟩⟩), ifP_t (by first | exact fun z => absurd z.1 (by omega) | exact fun z => absurd z.2 (by omega))]; exact ⟨rfl, hM1, hk0⟩))
      · skip
        have q32 := bI_1.mp h32
        refine Ev.iload dX8_says_35 rfl ?_
        refine Ev.i2l ⟨by omega, by omega⟩ dX8_says_37 ?_
        refine Ev.lconst 0 rfl dX8_says_38 ?_
        refine Ev.ldc2 (n := 15) (tbl_i 796 (by decide +kernel)) dX8_says_39 ?_
        refine Ev.callS_I (M2 := mX8_in) (args2 := [vL (v), vL (0), vL (15)]) dX8_says_42 okX8_in lk_X8_96 osX8_in.1 osX8_in.2 (by decide) rfl (Nat.le_of_ble_eq_true rfl) (Nat.le_of_ble_eq_true rfl) (sM_in σ1 (v) (0) (15) ⟨by omega, by omega⟩ ⟨by omega, by omega⟩ ⟨by omega, by omega⟩) ?_ rfl
        refine Ev.if_ne (tgt := 51) bI_inR dX8_says_45 (by decide) (fun h45 => ?_) (fun h45 => ?_)
        · skip
          have q45 := bI_1.mp h45
          obtain ⟨kv, rfl⟩ : ∃ n_ : Nat, v = (n_ : Int) := ⟨v.toNat, by omega⟩
          have hnl : nS k kv < 65536 := nS_lt (by omega)
          refine Ev.aload_n dX8_says_51 rfl rfl ?_
          refine gf_X8_59 rfl dX8_says_52 ltc_272 shc_272 rfc_272_21 ?_
          refine Ev.iload_n dX8_says_55 rfl rfl ?_
          refine Ev.iaload (v := ((rN (sL s kl) : Nat) : Int)) dX8_says_56 ltc_289 shc_289 (by decide) (by omega) (by omega) (ldx rfl hLk.1.1) ?_
          refine Ev.bipush (n := 6) (by decide) dX8_says_57 ?_
          refine Ev.icmp_ne (tgt := 65) ⟨by omega, by omega⟩ ⟨by decide, by decide⟩ dX8_says_59 (by decide) (fun h59 => ?_) (fun h59 => ?_)
          · skip
            refine Ev.aload_n dX8_says_65 rfl rfl ?_
            refine gf_X8_62 rfl dX8_says_66 ltc_272 shc_272 rfc_272_22 ?_
            refine Ev.bipush (n := 6) (by decide) dX8_says_69 ?_
            refine Ev.iload_n dX8_says_71 rfl rfl ?_
            refine Ev.imul dX8_says_72 ?_
            refine Ev.aload_n dX8_says_73 rfl rfl ?_
            refine gf_X8_59 rfl dX8_says_74 ltc_272 shc_272 rfc_272_21 ?_
            refine Ev.iload_n dX8_says_77 rfl rfl ?_
            refine Ev.iaload (v := ((rN (sL s kl) : Nat) : Int)) dX8_says_78 ltc_289 shc_289 (by decide) (by omega) (by omega) (ldx rfl hLk.1.1) ?_
            refine Ev.iadd dX8_says_79 ?_
            refine Ev.iload_n dX8_says_80 rfl rfl ?_
            refine Ev.iastore dX8_says_81 ltc_290 shc_290 (by decide) (by omega) (by omega) ?_
            refine Ev.mem (τ := upC σ1 290 (6 * kl + rN (sL s kl)) (kx : Int)) (upi (by omega) rfl) ?_
            refine Ev.aload_n dX8_says_82 rfl rfl ?_
            refine gf_X8_65 rfl dX8_says_83 ltc_272 shc_272 rfc_272_23 ?_
            refine Ev.bipush (n := 6) (by decide) dX8_says_86 ?_
            refine Ev.iload_n dX8_says_88 rfl rfl ?_
            refine Ev.imul dX8_says_89 ?_
            refine Ev.aload_n dX8_says_90 rfl rfl ?_
            refine gf_X8_59 rfl dX8_says_91 ltc_272 shc_272 rfc_272_21 ?_
            refine Ev.iload_n dX8_says_94 rfl rfl ?_
            refine Ev.iaload (v := ((rN (sL s kl) : Nat) : Int)) dX8_says_95 ltc_289 shc_289 (by decide) (by omega) (by omega) (show (upC σ1 290 (6 * kl + rN (sL s kl)) (kx : Int)) 289 (((kl : Nat) : Int)).toNat = ((rN (sL s kl) : Nat) : Int) from (ldx rfl ((congrFun (upC_ne (by decide)) kl).trans hLk.1.1))) ?_
            refine Ev.iadd dX8_says_96 ?_
            refine Ev.iload_n dX8_says_97 rfl rfl ?_
            refine Ev.iload dX8_says_98 rfl ?_
            refine Ev.callS_I (M2 := mX8_bits) (args2 := [vI (k), vI (((kv : Nat) : Int))]) dX8_says_100 okX8_bits lk_X8_112 osX8_bits.1 osX8_bits.2 (by decide) rfl (Nat.le_of_ble_eq_true rfl) (Nat.le_of_ble_eq_true rfl) (sM_bits (upC σ1 290 (6 * kl + rN (sL s kl)) (kx : Int)) (k) kv (by omega) (by omega)) ?_ rfl
            refine Ev.iastore dX8_says_103 ltc_291 shc_291 (by decide) (by omega) (by omega) ?_
            refine Ev.mem (τ := upC (upC σ1 290 (6 * kl + rN (sL s kl)) (kx : Int)) 291 (6 * kl + rN (sL s kl)) (nS k kv : Int)) (upi (by omega) rfl) ?_
            refine Ev.aload_n dX8_says_104 rfl rfl ?_
            refine gf_X8_59 rfl dX8_says_105 ltc_272 shc_272 rfc_272_21 ?_
            refine Ev.iload_n dX8_says_108 rfl rfl ?_
            refine Ev.dup2RI dX8_says_109 ?_
            refine Ev.iaload (v := ((rN (sL s kl) : Nat) : Int)) dX8_says_110 ltc_289 shc_289 (by decide) (by omega) (by omega) (show (upC (upC σ1 290 (6 * kl + rN (sL s kl)) (kx : Int)) 291 (6 * kl + rN (sL s kl)) (nS k kv : Int)) 289 (((kl : Nat) : Int)).toNat = ((rN (sL s kl) : Nat) : Int) from (ldx rfl ((congrFun (upC_ne (by decide)) kl).trans ((congrFun (upC_ne (by decide)) kl).trans hLk.1.1)))) ?_
            refine Ev.iconst dX8_says_111 ?_
            refine Ev.iadd dX8_says_112 ?_
            refine Ev.iastore dX8_says_113 ltc_289 shc_289 (by decide) (by omega) (by omega) ?_
            refine Ev.mem (τ := upC (upC (upC σ1 290 (6 * kl + rN (sL s kl)) (kx : Int)) 291 (6 * kl + rN (sL s kl)) (nS k kv : Int)) 289 kl ((rN (sL s kl) + 1 : Nat) : Int)) (upi rfl (by omega)) ?_
            refine Ev.aload_n dX8_says_114 rfl rfl ?_
            refine gf_X8_59 rfl dX8_says_115 ltc_272 shc_272 rfc_272_21 ?_
            refine Ev.iload_n dX8_says_118 rfl rfl ?_
            refine Ev.iaload (v := (((rN (sL s kl) + 1) : Nat) : Int)) dX8_says_119 ltc_289 shc_289 (by decide) (by omega) (by omega) (show (upC (upC (upC σ1 290 (6 * kl + rN (sL s kl)) (kx : Int)) 291 (6 * kl + rN (sL s kl)) (nS k kv : Int)) 289 kl ((rN (sL s kl) + 1 : Nat) : Int)) 289 (((kl : Nat) : Int)).toNat = (((rN (sL s kl) + 1) : Nat) : Int) from (ldx rfl upC_at)) ?_
            exact Ev.ireturn dX8_says_120 rfl (rE (by unfold MP o_says; (repeat rw [Int.toNat_natCast]); rw [ifP_f (fun z => z ⟨⟨by omega, by omega⟩, ⟨by omega, by omega⟩⟩), ifP_f (fun z => z ⟨⟨by omega, by omega⟩, ⟨by omega, by omega⟩⟩), ifP_f (by show ¬ 6 ≤ rN (sL s kl); omega)]; exact ⟨(by show _ = ((rN (sL s kl) : Nat) : Int) + 1; omega), ⟨(hu1.cg ((congrFun (upC_ne (by decide)) 1).trans ((congrFun (upC_ne (by decide)) 1).trans ((congrFun (upC_ne (by decide)) 1).trans ((congrFun (Eq.refl _) 1).trans rfl)))) ((upC_ne (by decide)).trans ((upC_ne (by decide)).trans ((upC_ne (by decide)).trans (Eq.refl _)))) ((upC_ne (by decide)).trans ((upC_ne (by decide)).trans ((upC_ne (by decide)).trans (Eq.refl _))))), (hu2.cg ((congrFun (upC_ne (by decide)) 8).trans ((congrFun (upC_ne (by decide)) 8).trans ((congrFun (upC_ne (by decide)) 8).trans ((congrFun (Eq.refl _) 8).trans rfl)))) (fun c q1 q2 => ((upC_ne (Nat.ne_of_lt (Nat.lt_of_lt_of_le (Nat.lt_succ_of_le q2) (show 286 ≤ 289 by decide)))).trans ((upC_ne (Nat.ne_of_lt (Nat.lt_of_lt_of_le (Nat.lt_succ_of_le q2) (show 286 ≤ 291 by decide)))).trans ((upC_ne (Nat.ne_of_lt (Nat.lt_of_lt_of_le (Nat.lt_succ_of_le q2) (show 286 ≤ 290 by decide)))).trans (Eq.refl _)))))), (hu3.cg (fun c i q1 q2 => congrFun ((upC_ne (Nat.ne_of_lt (Nat.lt_of_lt_of_le (Nat.lt_succ_of_le q2) (show 288 ≤ 289 by decide)))).trans ((upC_ne (Nat.ne_of_lt (Nat.lt_of_lt_of_le (Nat.lt_succ_of_le q2) (show 288 ≤ 291 by decide)))).trans ((upC_ne (Nat.ne_of_lt (Nat.lt_of_lt_of_le (Nat.lt_succ_of_le q2) (show 288 ≤ 290 by decide)))).trans (Eq.refl _)))) i)), (hu4.cg ((congrFun (upC_ne (by decide)) 4).trans ((congrFun (upC_ne (by decide)) 4).trans ((congrFun (upC_ne (by decide)) 4).trans ((congrFun (Eq.refl _) 4).trans rfl)))) (fun c q1 q2 => ((upC_ne (Nat.ne_of_lt (Nat.lt_of_lt_of_le (Nat.lt_succ_of_le q2) (show 278 ≤ 289 by decide)))).trans ((upC_ne (Nat.ne_of_lt (Nat.lt_of_lt_of_le (Nat.lt_succ_of_le q2) (show 278 ≤ 291 by decide)))).trans ((upC_ne (Nat.ne_of_lt (Nat.lt_of_lt_of_le (Nat.lt_succ_of_le q2) (show 278 ≤ 290 by decide)))).trans (Eq.refl _)))))), (hu5.cg ((congrFun (upC_ne (by decide)) 25).trans ((congrFun (upC_ne (by decide)) 25).trans ((congrFun (upC_ne (by decide)) 25).trans ((congrFun (Eq.refl _) 25).trans rfl)))) ((upC_ne (by decide)).trans ((upC_ne (by decide)).trans ((upC_ne (by decide)).trans (Eq.refl _))))), (hu6.cg ((congrFun (upC_ne (by decide)) 27).trans ((congrFun (upC_ne (by decide)) 27).trans ((congrFun (upC_ne (by decide)) 27).trans ((congrFun (Eq.refl _) 27).trans rfl)))) ((upC_ne (by decide)).trans ((upC_ne (by decide)).trans ((upC_ne (by decide)).trans (Eq.refl _))))), (u7_add hu7 (show kl < sM s by omega) (hLk.2.1.add (by omega) (by omega) ⟨fun z => by omega, fun z => by omega, fun z => ⟨by omega, by have := nS_lt (k := k) (show kv < 16 by omega); omega⟩⟩ (fun z => by omega)) ((congrFun (upC_ne (by decide)) 19).trans ((congrFun (upC_ne (by decide)) 19).trans ((congrFun (upC_ne (by decide)) 19).trans rfl))) ((upC_ne (by decide)).trans ((upC_ne (by decide)).trans ((upC_ne (by decide)).trans rfl))) (fun i => upC_cong (congrFun ((upC_ne (by decide)).trans (upC_ne (by decide))) i)) (fun i => congrFun ((upC_ne (by decide)).trans (upC_ne (by decide))) i) (fun i => (congrFun (upC_ne (by decide)) i).trans (upC_cong (congrFun (upC_ne (by decide)) i)))), ((congrFun (upC_ne (by decide)) 24).trans ((congrFun (upC_ne (by decide)) 24).trans ((congrFun (upC_ne (by decide)) 24).trans ((congrFun (Eq.refl _) 24).trans hu8))))⟩, (fun c q2 => ((upC_ne (Nat.ne_of_lt (Nat.lt_of_lt_of_le q2 (show 272 ≤ 289 by decide)))).trans ((upC_ne (Nat.ne_of_lt (Nat.lt_of_lt_of_le q2 (show 272 ≤ 291 by decide)))).trans ((upC_ne (Nat.ne_of_lt (Nat.lt_of_lt_of_le q2 (show 272 ≤ 290 by decide)))).trans ((Eq.refl _).trans (hk0 c q2))))))⟩))
          · skip
            refine Ev.bipush (n := -4) (by decide) dX8_says_62 ?_
            exact Ev.ireturn dX8_says_64 rfl (rE (by unfold MP o_says; (repeat rw [Int.toNat_natCast]); rw [ifP_f (fun z => z ⟨⟨by omega, by omega⟩, ⟨by omega, by omega⟩⟩), ifP_f (fun z => z ⟨⟨by omega, by omega⟩, ⟨by omega, by omega⟩⟩), ifP_t (by show 6 ≤ rN (sL s kl); omega)]; exact ⟨rfl, hM1, hk0⟩))
        · skip
          have q45 := bI_0.mp h45
          refine Ev.bipush (n := -2) (by decide) dX8_says_48 ?_
          exact Ev.ireturn dX8_says_50 rfl (rE (by unfold MP o_says; (repeat rw [Int.toNat_natCast]); rw [ifP_f (fun z => z ⟨⟨by omega, by omega⟩, ⟨by omega, by omega⟩⟩), ifP_t (by first | exact fun z => absurd z.1 (by omega) | exact fun z => absurd z.2 (by omega))]; exact ⟨rfl, hM1, hk0⟩))
    · skip
      have q18 := bI_1.mp h18
      refine Ev.iconst dX8_says_21 ?_
      exact Ev.ireturn dX8_says_22 rfl (rE (by unfold MP o_says; (repeat rw [Int.toNat_natCast]); rw [ifP_t (by first | exact fun z => absurd z.1 (by omega) | exact fun z => absurd z.2 (by omega))]; exact ⟨rfl, hM1, hk0⟩))

set_option maxRecDepth 100000 in
set_option maxHeartbeats 4000000 in
theorem r_forge {g : GC} (s : SS) (σ : Sg) (hM : MI s σ) (l : Int) (h_l : inR l) (j : Int) (h_j : inR j) (k : Int) (h_k : inR k) (v : Int) (h_v : inR v) : Ev g mX8_forge 0 [some (vR (272)), some (vI (l)), some (vI (j)), some (vI (k)), some (vI (v))] [] (M0 (σ)) 0 0 (retE (MP σ (o_forge s l j k v))) := by
  refine Ev.aload_n dX8_forge_0 rfl rfl ?_
  refine Ev.iconst dX8_forge_1 ?_
  refine pf_X8_90 rfl dX8_forge_2 ltc_272 shc_272 ?_
  obtain ⟨σ1, hs1⟩ : ∃ ρ : Sg, ρ = upC σ 272 0 0 := ⟨_, rfl⟩
  refine Ev.mem (τ := σ1) hs1.symm ?_
  have hM1 : MI s σ1 := by rw [hs1]; exact hM.th
  have hk0 : ∀ c, c < 272 → σ1 c = σ c := fun c hc => by rw [hs1]; exact upC_ne (by omega)
  obtain ⟨hu1, hu2, hu3, hu4, hu5, hu6, hu7, hu8⟩ := id hM1
  have hU := hu1.1
  have hN := hu2.1
  have hD := hu4.1
  have hMl := hu7.1
  have hQ := hu5.1
  refine Ev.aload_n dX8_forge_5 rfl rfl ?_
  refine Ev.iload_n dX8_forge_6 rfl rfl ?_
  refine Ev.callV_I (M2 := mX8_noLine) (args2 := [vI (l)]) (rcv := 272) (q := (RX8, TX8, 34)) (ci := 8) dX8_forge_7 okX8_noLine lk_X8_278 ovX8_noLine.1.1 ovX8_noLine.1.2 ovX8_noLine.2 (by decide) rfl rfl ltc_272 shc_272 rfl (Nat.le_of_ble_eq_true rfl) (Nat.le_of_ble_eq_true rfl) (sM_noLine σ1 (sM s) hMl hu7.2.1 (l) ⟨by omega, by omega⟩) ?_ rfl
  refine Ev.if_ne (tgt := 31) bI_inR dX8_forge_10 (by decide) (fun h10 => ?_) (fun h10 => ?_)
  · skip
    have q10 := bI_1.mp h10
    refine Ev.iconst dX8_forge_31 ?_
    exact Ev.ireturn dX8_forge_32 rfl (rE (by unfold MP o_forge; (repeat rw [Int.toNat_natCast]); rw [ifP_t (by first | exact fun z => absurd z.1 (by omega) | exact fun z => absurd z.2.1 (by omega) | exact fun z => absurd z.2.2 (by show ¬ (_ : Int) < ((rN (sL s kl) : Nat) : Int); omega))]; exact ⟨rfl, hM1, hk0⟩))
  · skip
    have q10 := bI_0.mp h10
    obtain ⟨kl, rfl⟩ : ∃ n_ : Nat, l = (n_ : Int) := ⟨l.toNat, by omega⟩
    have hLk := hu7.2.2 kl (by omega)
    have hn6 := hLk.2.1.1.2.1
    refine Ev.iload_n dX8_forge_13 rfl rfl ?_
    refine Ev.i2l ⟨by omega, by omega⟩ dX8_forge_14 ?_
    refine Ev.lconst 0 rfl dX8_forge_15 ?_
    refine Ev.aload_n dX8_forge_16 rfl rfl ?_
    refine gf_X8_59 rfl dX8_forge_17 ltc_272 shc_272 rfc_272_21 ?_
    refine Ev.iload_n dX8_forge_20 rfl rfl ?_
    refine Ev.iaload (v := ((rN (sL s kl) : Nat) : Int)) dX8_forge_21 ltc_289 shc_289 (by decide) (by omega) (by omega) (ldx rfl hLk.1.1) ?_
    refine Ev.iconst dX8_forge_22 ?_
    refine Ev.isub dX8_forge_23 ?_
    refine Ev.i2l ⟨by omega, by omega⟩ dX8_forge_24 ?_
    refine Ev.callS_I (M2 := mX8_in) (args2 := [vL (j), vL (0), vL ((((rN (sL s kl) : Nat) : Int) - 1))]) dX8_forge_25 okX8_in lk_X8_96 osX8_in.1 osX8_in.2 (by decide) rfl (Nat.le_of_ble_eq_true rfl) (Nat.le_of_ble_eq_true rfl) (sM_in σ1 (j) (0) ((((rN (sL s kl) : Nat) : Int) - 1)) ⟨by omega, by omega⟩ ⟨by omega, by omega⟩ ⟨by omega, by omega⟩) ?_ rfl
    refine Ev.if_ne (tgt := 33) bI_inR dX8_forge_28 (by decide) (fun h28 => ?_) (fun h28 => ?_)
    · skip
      have q28 := bI_1.mp h28
      obtain ⟨kj, rfl⟩ : ∃ n_ : Nat, j = (n_ : Int) := ⟨j.toNat, by omega⟩
      refine Ev.iload_n dX8_forge_33 rfl rfl ?_
      refine Ev.i2l ⟨by omega, by omega⟩ dX8_forge_34 ?_
      refine Ev.lconst 0 rfl dX8_forge_35 ?_
      refine Ev.ldc2 (n := 3) (tbl_i 851 (by decide +kernel)) dX8_forge_36 ?_
      refine Ev.callS_I (M2 := mX8_in) (args2 := [vL (k), vL (0), vL (3)]) dX8_forge_39 okX8_in lk_X8_96 osX8_in.1 osX8_in.2 (by decide) rfl (Nat.le_of_ble_eq_true rfl) (Nat.le_of_ble_eq_true rfl) (sM_in σ1 (k) (0) (3) ⟨by omega, by omega⟩ ⟨by omega, by omega⟩ ⟨by omega, by omega⟩) ?_ rfl
      refine Ev.if_eq (tgt := 58) bI_inR dX8_forge_42 (by decide) (fun h42 => ?_) (fun h42 => ?_)
      · skip
        have q42 := bI_0.mp h42
        refine Ev.bipush (n := -2) (by decide) dX8_forge_58 ?_
        exact Ev.ireturn dX8_forge_60 rfl (rE (by unfold MP o_forge; (repeat rw [Int.toNat_natCast]); rw [ifP_f (fun z => z ⟨⟨by omega, by omega⟩, by omega, by omega⟩), ifP_t (by first | exact fun z => absurd z.1 (by omega) | exact fun z => absurd z.2 (by omega))]; exact ⟨rfl, hM1, hk0⟩))
      · skip
        have q42 := bI_1.mp h42
        refine Ev.iload dX8_forge_45 rfl ?_
        refine Ev.i2l ⟨by omega, by omega⟩ dX8_forge_47 ?_
        refine Ev.lconst 0 rfl dX8_forge_48 ?_
        refine Ev.ldc2 (n := 15) (tbl_i 796 (by decide +kernel)) dX8_forge_49 ?_
        refine Ev.callS_I (M2 := mX8_in) (args2 := [vL (v), vL (0), vL (15)]) dX8_forge_52 okX8_in lk_X8_96 osX8_in.1 osX8_in.2 (by decide) rfl (Nat.le_of_ble_eq_true rfl) (Nat.le_of_ble_eq_true rfl) (sM_in σ1 (v) (0) (15) ⟨by omega, by omega⟩ ⟨by omega, by omega⟩ ⟨by omega, by omega⟩) ?_ rfl
        refine Ev.if_ne (tgt := 61) bI_inR dX8_forge_55 (by decide) (fun h55 => ?_) (fun h55 => ?_)
        · skip
          have q55 := bI_1.mp h55
          obtain ⟨kv, rfl⟩ : ∃ n_ : Nat, v = (n_ : Int) := ⟨v.toNat, by omega⟩
          have hnl : nS k kv < 65536 := nS_lt (by omega)
          refine Ev.aload_n dX8_forge_61 rfl rfl ?_
          refine gf_X8_65 rfl dX8_forge_62 ltc_272 shc_272 rfc_272_23 ?_
          refine Ev.bipush (n := 6) (by decide) dX8_forge_65 ?_
          refine Ev.iload_n dX8_forge_67 rfl rfl ?_
          refine Ev.imul dX8_forge_68 ?_
          refine Ev.iload_n dX8_forge_69 rfl rfl ?_
          refine Ev.iadd dX8_forge_70 ?_
          refine Ev.iload_n dX8_forge_71 rfl rfl ?_
          refine Ev.iload dX8_forge_72 rfl ?_
          refine Ev.callS_I (M2 := mX8_bits) (args2 := [vI (k), vI (((kv : Nat) : Int))]) dX8_forge_74 okX8_bits lk_X8_112 osX8_bits.1 osX8_bits.2 (by decide) rfl (Nat.le_of_ble_eq_true rfl) (Nat.le_of_ble_eq_true rfl) (sM_bits σ1 (k) kv (by omega) (by omega)) ?_ rfl
          refine Ev.iastore dX8_forge_77 ltc_291 shc_291 (by decide) (by omega) (by omega) ?_
          refine Ev.mem (τ := upC σ1 291 (6 * kl + kj) (nS k kv : Int)) (upi (by omega) rfl) ?_
          refine Ev.iconst dX8_forge_78 ?_
          exact Ev.ireturn dX8_forge_79 rfl (rE (by unfold MP o_forge; (repeat rw [Int.toNat_natCast]); rw [ifP_f (fun z => z ⟨⟨by omega, by omega⟩, by omega, by omega⟩), ifP_f (fun z => z ⟨⟨by omega, by omega⟩, ⟨by omega, by omega⟩⟩)]; exact ⟨rfl, ⟨(hu1.cg ((congrFun (upC_ne (by decide)) 1).trans ((congrFun (Eq.refl _) 1).trans rfl)) ((upC_ne (by decide)).trans (Eq.refl _)) ((upC_ne (by decide)).trans (Eq.refl _))), (hu2.cg ((congrFun (upC_ne (by decide)) 8).trans ((congrFun (Eq.refl _) 8).trans rfl)) (fun c q1 q2 => ((upC_ne (Nat.ne_of_lt (Nat.lt_of_lt_of_le (Nat.lt_succ_of_le q2) (show 286 ≤ 291 by decide)))).trans (Eq.refl _)))), (hu3.cg (fun c i q1 q2 => congrFun ((upC_ne (Nat.ne_of_lt (Nat.lt_of_lt_of_le (Nat.lt_succ_of_le q2) (show 288 ≤ 291 by decide)))).trans (Eq.refl _)) i)), (hu4.cg ((congrFun (upC_ne (by decide)) 4).trans ((congrFun (Eq.refl _) 4).trans rfl)) (fun c q1 q2 => ((upC_ne (Nat.ne_of_lt (Nat.lt_of_lt_of_le (Nat.lt_succ_of_le q2) (show 278 ≤ 291 by decide)))).trans (Eq.refl _)))), (hu5.cg ((congrFun (upC_ne (by decide)) 25).trans ((congrFun (Eq.refl _) 25).trans rfl)) ((upC_ne (by decide)).trans (Eq.refl _))), (hu6.cg ((congrFun (upC_ne (by decide)) 27).trans ((congrFun (Eq.refl _) 27).trans rfl)) ((upC_ne (by decide)).trans (Eq.refl _))), (u7_set hu7 (show kl < sM s by omega) (show kj < rN (sL s kl) by omega) ⟨by omega, by omega⟩ ((congrFun (upC_ne (by decide)) 19).trans rfl) (fun c q1 q2 => upC_ne (by omega)) (fun i => rfl)), ((congrFun (upC_ne (by decide)) 24).trans ((congrFun (Eq.refl _) 24).trans hu8))⟩, (fun c q2 => ((upC_ne (Nat.ne_of_lt (Nat.lt_of_lt_of_le q2 (show 272 ≤ 291 by decide)))).trans ((Eq.refl _).trans (hk0 c q2))))⟩))
        · skip
          have q55 := bI_0.mp h55
          refine Ev.bipush (n := -2) (by decide) dX8_forge_58 ?_
          exact Ev.ireturn dX8_forge_60 rfl (rE (by unfold MP o_forge; (repeat rw [Int.toNat_natCast]); rw [ifP_f (fun z => z ⟨⟨by omega, by omega⟩, by omega, by omega⟩), ifP_t (by first | exact fun z => absurd z.1 (by omega) | exact fun z => absurd z.2 (by omega))]; exact ⟨rfl, hM1, hk0⟩))
    · skip
      have q28 := bI_0.mp h28
      refine Ev.iconst dX8_forge_31 ?_
      exact Ev.ireturn dX8_forge_32 rfl (rE (by unfold MP o_forge; (repeat rw [Int.toNat_natCast]); rw [ifP_t (by first | exact fun z => absurd z.1 (by omega) | exact fun z => absurd z.2.1 (by omega) | exact fun z => absurd z.2.2 (by show ¬ (_ : Int) < ((rN (sL s kl) : Nat) : Int); omega))]; exact ⟨rfl, hM1, hk0⟩))

theorem tbC_le {T : Tb} {n : Nat} : tbC T n ≤ n := by
  induction n with
  | zero => exact Nat.le_refl _
  | succ n ih => simp only [tbC]; split <;> omega
set_option maxRecDepth 100000 in
set_option maxHeartbeats 4000000 in
theorem r_total_l {g : GC} (s : SS) (σ σ1 : Sg) (hM1 : MI s σ1) (hk0 : ∀ c, c < 272 → σ1 c = σ c) : ∀ j t : Nat, t + j = 6 → Ev g mX8_total 73 [some (vR (272)), some (vI (5)), some (vI (((tbC (sB s) t : Nat) : Int))), some (vI (((t : Nat) : Int)))] [] (M0 (σ1)) 0 0 (retE (MP σ (o_total s 5))) := by
  intro j
  induction j with
  | zero =>
    intro t hij
    obtain ⟨hu1, hu2, hu3, hu4, hu5, hu6, hu7, hu8⟩ := id hM1
    have hU := hu1.1
    have hN := hu2.1
    have hD := hu4.1
    have hMl := hu7.1
    have hQ := hu5.1
    have htl : tbC (sB s) t ≤ t := tbC_le
    refine Ev.iload_n dX8_total_73 rfl rfl ?_
    refine Ev.bipush (n := 6) (by decide) dX8_total_74 ?_
    refine Ev.icmp_ge (tgt := 102) ⟨by omega, by omega⟩ ⟨by decide, by decide⟩ dX8_total_76 (by decide) (fun h76 => ?_) (fun h76 => ?_)
    · skip
      refine Ev.iload_n dX8_total_102 rfl rfl ?_
      exact Ev.ireturn dX8_total_103 rfl (rE (by unfold MP o_total; exact ⟨by show _ = ifP _ _ _; rw [ifP_f (by omega), ifP_f (by omega), ifP_f (by omega), ifP_f (by omega), ifP_f (by omega), ifP_t (by omega), show (6 : Nat) = t by omega], hM1, hk0⟩))
    · exact absurd h76 (by omega)
  | succ j ih =>
    intro t hij
    obtain ⟨hu1, hu2, hu3, hu4, hu5, hu6, hu7, hu8⟩ := id hM1
    have hU := hu1.1
    have hN := hu2.1
    have hD := hu4.1
    have hMl := hu7.1
    have hQ := hu5.1
    have htl : tbC (sB s) t ≤ t := tbC_le
    have ht : tbC (sB s) (t + 1) = tbC (sB s) t + (if (sB s).1 t = -1 then 0 else 1) := rfl
    have hzb := (hu3 t (by omega)).2.1
    refine Ev.iload_n dX8_total_73 rfl rfl ?_
    refine Ev.bipush (n := 6) (by decide) dX8_total_74 ?_
    refine Ev.icmp_ge (tgt := 102) ⟨by omega, by omega⟩ ⟨by decide, by decide⟩ dX8_total_76 (by decide) (fun h76 => ?_) (fun h76 => ?_)
    · exact absurd h76 (by omega)
    · skip
      refine Ev.iload_n dX8_total_79 rfl rfl ?_
      refine Ev.aload_n dX8_total_80 rfl rfl ?_
      refine gf_X8_50 rfl dX8_total_81 ltc_272 shc_272 rfc_272_17 ?_
      refine Ev.iload_n dX8_total_84 rfl rfl ?_
      refine Ev.iaload (v := (sB s).1 t) dX8_total_85 ltc_286 shc_286 (by decide) (by omega) (by omega) (ldx rfl (hu3 t (by omega)).1) ?_
      refine Ev.if_lt (tgt := 93) ⟨by omega, by omega⟩ dX8_total_86 (by decide) (fun h86 => ?_) (fun h86 => ?_)
      · skip
        refine Ev.iconst dX8_total_93 ?_
        refine Ev.iadd dX8_total_94 ?_
        refine Ev.istore_n (pl' := [some (vR (272)), some (vI (5)), some (vI ((((tbC (sB s) t : Nat) : Int) + 0))), some (vI (((t : Nat) : Int)))]) dX8_total_95 rfl (Nat.le_of_ble_eq_true rfl) rfl ?_
        refine Ev.iinc (pl' := [some (vR (272)), some (vI (5)), some (vI ((((tbC (sB s) t : Nat) : Int) + 0))), some (vI (((t : Nat) : Int) + 1))]) dX8_total_96 rfl (Nat.le_of_ble_eq_true rfl) rfl ?_
        refine Ev.goto (tgt := 73) dX8_total_99 (by decide) ?_
        refine Ev.wk (pl' := [some (vR (272)), some (vI (5)), some (vI (((tbC (sB s) (t + 1) : Nat) : Int))), some (vI ((((t + 1) : Nat) : Int)))]) ⟨rfl, ⟨rfl, ⟨vIe (by rw [ht]; first | (rw [if_pos (show (sB s).1 t = -1 by omega)]; omega) | (rw [if_neg (show ¬ (sB s).1 t = -1 by omega)]; omega)), ⟨vIe (by omega), trivial⟩⟩⟩⟩ ?_
        exact ih (t + 1) (by omega)
      · skip
        refine Ev.iconst dX8_total_89 ?_
        refine Ev.goto (tgt := 94) dX8_total_90 (by decide) ?_
        refine Ev.iadd dX8_total_94 ?_
        refine Ev.istore_n (pl' := [some (vR (272)), some (vI (5)), some (vI ((((tbC (sB s) t : Nat) : Int) + 1))), some (vI (((t : Nat) : Int)))]) dX8_total_95 rfl (Nat.le_of_ble_eq_true rfl) rfl ?_
        refine Ev.iinc (pl' := [some (vR (272)), some (vI (5)), some (vI ((((tbC (sB s) t : Nat) : Int) + 1))), some (vI (((t : Nat) : Int) + 1))]) dX8_total_96 rfl (Nat.le_of_ble_eq_true rfl) rfl ?_
        refine Ev.goto (tgt := 73) dX8_total_99 (by decide) ?_
        refine Ev.wk (pl' := [some (vR (272)), some (vI (5)), some (vI (((tbC (sB s) (t + 1) : Nat) : Int))), some (vI ((((t + 1) : Nat) : Int)))]) ⟨rfl, ⟨rfl, ⟨vIe (by rw [ht]; first | (rw [if_pos (show (sB s).1 t = -1 by omega)]; omega) | (rw [if_neg (show ¬ (sB s).1 t = -1 by omega)]; omega)), ⟨vIe (by omega), trivial⟩⟩⟩⟩ ?_
        exact ih (t + 1) (by omega)

set_option maxRecDepth 100000 in
set_option maxHeartbeats 4000000 in
theorem r_total {g : GC} (s : SS) (σ : Sg) (hM : MI s σ) (w : Int) (h_w : inR w) : Ev g mX8_total 0 [some (vR (272)), some (vI (w)), none, none] [] (M0 (σ)) 0 0 (retE (MP σ (o_total s w))) := by
  refine Ev.aload_n dX8_total_0 rfl rfl ?_
  refine Ev.iconst dX8_total_1 ?_
  refine pf_X8_90 rfl dX8_total_2 ltc_272 shc_272 ?_
  obtain ⟨σ1, hs1⟩ : ∃ ρ : Sg, ρ = upC σ 272 0 0 := ⟨_, rfl⟩
  refine Ev.mem (τ := σ1) hs1.symm ?_
  have hM1 : MI s σ1 := by rw [hs1]; exact hM.th
  have hk0 : ∀ c, c < 272 → σ1 c = σ c := fun c hc => by rw [hs1]; exact upC_ne (by omega)
  obtain ⟨hu1, hu2, hu3, hu4, hu5, hu6, hu7, hu8⟩ := id hM1
  have hU := hu1.1
  have hN := hu2.1
  have hD := hu4.1
  have hMl := hu7.1
  have hQ := hu5.1
  refine Ev.iload_n dX8_total_5 rfl rfl ?_
  have hcs : w = 0 ∨ w = 1 ∨ w = 2 ∨ w = 3 ∨ w = 4 ∨ w = 5 ∨ (w < 0 ∨ 5 < w) := by omega
  rcases hcs with hk | hk | hk | hk | hk | hk | hk
  · skip
    subst hk
    refine Ev.tableIn (tgt := 44) dX8_total_6 ⟨by decide, by decide⟩ (by decide) (by decide) rfl (by decide) ?_
    refine Ev.aload_n dX8_total_44 rfl rfl ?_
    refine gf_X8_93 (x := ((sU s : Nat) : Int)) rfl dX8_total_45 ltc_272 shc_272 hu1.2.1 ?_
    exact Ev.ireturn dX8_total_48 rfl (rE (by unfold MP o_total; exact ⟨by show _ = ifP _ _ _; rw [ifP_t (by omega)], hM1, hk0⟩))
  · skip
    subst hk
    refine Ev.tableIn (tgt := 49) dX8_total_6 ⟨by decide, by decide⟩ (by decide) (by decide) rfl (by decide) ?_
    refine Ev.aload_n dX8_total_49 rfl rfl ?_
    refine gf_X8_100 (x := ((sN s : Nat) : Int)) rfl dX8_total_50 ltc_272 shc_272 hu2.2.1 ?_
    exact Ev.ireturn dX8_total_53 rfl (rE (by unfold MP o_total; exact ⟨by show _ = ifP _ _ _; rw [ifP_f (by omega)]; rw [ifP_t (by omega)], hM1, hk0⟩))
  · skip
    subst hk
    refine Ev.tableIn (tgt := 54) dX8_total_6 ⟨by decide, by decide⟩ (by decide) (by decide) rfl (by decide) ?_
    refine Ev.aload_n dX8_total_54 rfl rfl ?_
    refine gf_X8_109 (x := ((sD s : Nat) : Int)) rfl dX8_total_55 ltc_272 shc_272 hu4.2.1 ?_
    exact Ev.ireturn dX8_total_58 rfl (rE (by unfold MP o_total; exact ⟨by show _ = ifP _ _ _; rw [ifP_f (by omega)]; rw [ifP_f (by omega)]; rw [ifP_t (by omega)], hM1, hk0⟩))
  · skip
    subst hk
    refine Ev.tableIn (tgt := 59) dX8_total_6 ⟨by decide, by decide⟩ (by decide) (by decide) rfl (by decide) ?_
    refine Ev.aload_n dX8_total_59 rfl rfl ?_
    refine gf_X8_275 (x := ((sM s : Nat) : Int)) rfl dX8_total_60 ltc_272 shc_272 hu7.2.1 ?_
    exact Ev.ireturn dX8_total_63 rfl (rE (by unfold MP o_total; exact ⟨by show _ = ifP _ _ _; rw [ifP_f (by omega)]; rw [ifP_f (by omega)]; rw [ifP_f (by omega)]; rw [ifP_t (by omega)], hM1, hk0⟩))
  · skip
    subst hk
    refine Ev.tableIn (tgt := 64) dX8_total_6 ⟨by decide, by decide⟩ (by decide) (by decide) rfl (by decide) ?_
    refine Ev.aload_n dX8_total_64 rfl rfl ?_
    refine gf_X8_103 (x := sF s) rfl dX8_total_65 ltc_272 shc_272 hu8 ?_
    exact Ev.ireturn dX8_total_68 rfl (rE (by unfold MP o_total; exact ⟨by show _ = ifP _ _ _; rw [ifP_f (by omega)]; rw [ifP_f (by omega)]; rw [ifP_f (by omega)]; rw [ifP_f (by omega)]; rw [ifP_t (by omega)], hM1, hk0⟩))
  · skip
    subst hk
    refine Ev.tableIn (tgt := 69) dX8_total_6 ⟨by decide, by decide⟩ (by decide) (by decide) rfl (by decide) ?_
    refine Ev.iconst dX8_total_69 ?_
    refine Ev.istore_n (pl' := [some (vR (272)), some (vI (5)), some (vI (0)), none]) dX8_total_70 rfl (Nat.le_of_ble_eq_true rfl) rfl ?_
    refine Ev.iconst dX8_total_71 ?_
    refine Ev.istore_n (pl' := [some (vR (272)), some (vI (5)), some (vI (0)), some (vI (0))]) dX8_total_72 rfl (Nat.le_of_ble_eq_true rfl) rfl ?_
    refine Ev.wk (pl' := [some (vR (272)), some (vI (5)), some (vI (((tbC (sB s) 0 : Nat) : Int))), some (vI (((0 : Nat) : Int)))]) ⟨rfl, ⟨rfl, ⟨vIe rfl, ⟨vIe rfl, trivial⟩⟩⟩⟩ ?_
    exact r_total_l s σ σ1 hM1 hk0 6 0 (by omega)
  · skip
    refine Ev.tableOut (tgt := 104) dX8_total_6 ⟨by omega, by omega⟩ hk (by decide) ?_
    refine Ev.bipush (n := -2) (by decide) dX8_total_104 ?_
    exact Ev.ireturn dX8_total_106 rfl (rE (by unfold MP o_total; exact ⟨by show _ = ifP _ _ _; rw [ifP_f (by omega)]; rw [ifP_f (by omega)]; rw [ifP_f (by omega)]; rw [ifP_f (by omega)]; rw [ifP_f (by omega)]; rw [ifP_f (by omega)], hM1, hk0⟩))

