/-! THE REFERENCE: unknown, hole, rule, part, literal, stand -/
theorem upC_cong {f h : Sg} {c i j : Nat} {v : Int} (e : f c j = h c j) : upC f c i v c j = upC h c i v c j := by unfold upC; rw [e]
theorem u2.wr {σ τ : Sg} {U n w U' : Nat} {Rf : Nat → RC} (h : u2 σ U n Rf w) (hU : U ≤ U') (hU' : U' ≤ 10) (e8 : τ 272 8 = σ 272 8) (e : ∀ c, 278 ≤ c → c ≤ 285 → τ c = σ c) : u2 τ U' n Rf w := by
  obtain ⟨a1, a2, a3, a4⟩ := h.cg e8 e
  exact ⟨a1, a2, a3, fun r hr => ⟨(a4 r hr).1, (a4 r hr).2.1.up hU hU', (a4 r hr).2.2⟩⟩
theorem u7.wr {σ τ : Sg} {U n m U' n' : Nat} {L : Nat → RC} {f : Nat → Int} (h : u7 σ U n m L f) (hU : U ≤ U') (hU' : U' ≤ 10) (hn : n ≤ n') (e14 : τ 272 19 = σ 272 19) (e : ∀ c, 288 ≤ c → c ≤ 291 → τ c = σ c) : u7 τ U' n' m L f := by
  obtain ⟨a1, a2, a3⟩ := h.cg e14 e
  refine ⟨a1, a2, fun l hl => ?_⟩
  obtain ⟨q1, q2, q3, q4, q5⟩ := a3 l hl
  exact ⟨q1, q2.up hU hU', q3, q4, by omega⟩
theorem u4_no {σ τ : Sg} {U U' d : Nat} {o p : Nat → Nat} {h : Nat → Rg} (hk : u4 σ U d o p h) (hd : d = 0) (e : τ 272 4 = σ 272 4) : u4 τ U' d o p h := ⟨hk.1, e.trans hk.2.1, fun j hj => absurd hj (by omega)⟩
theorem u2_new {σ τ : Sg} {U n w : Nat} {Rf : Nat → RC} {k a b : Int} (h : u2 σ U n Rf w) (hU : U ≤ 10) (hn : n < 16) (hk : 0 ≤ k ∧ k ≤ 5) (hok : okSet k a b) (e8 : τ 272 8 = ((n + 1 : Nat) : Int)) (e : ∀ c, 283 ≤ c → c ≤ 285 → τ c = σ c) (e0 : ∀ i, τ 278 i = upC σ 278 n k 278 i) (e1 : ∀ i, τ 279 i = upC σ 279 n a 279 i) (e2 : ∀ i, τ 280 i = upC σ 280 n b 280 i) (e3 : ∀ i, τ 281 i = upC σ 281 n 1 281 i) (e4 : ∀ i, τ 282 i = upC σ 282 n 0 282 i) : u2 τ U (n + 1) (updF Rf n (nR k a b)) (w ||| 2 ^ n) := by
  obtain ⟨a1, a2, a3, a4⟩ := h
  refine ⟨by omega, e8, w_or a3, fun r hr => ?_⟩
  by_cases er : r = n
  · subst er
    rw [updF_at]
    refine ⟨⟨?_, ?_, ?_, ?_, fun j hj => absurd hj (by show ¬ j < 0; omega)⟩, WR.new hU hk hok, ?_⟩
    · rw [e0, upC_at]; show k = (k.toNat : Int); omega
    · rw [e1, upC_at]; rfl
    · rw [e2, upC_at]; rfl
    · rw [e4, upC_at]; rfl
    · rw [e3, upC_at, Nat.testBit_or, Nat.testBit_two_pow]; simp [b2]
  · rw [updF_ne er]
    obtain ⟨⟨m1, m2, m3, m4, m5⟩, q2, q3⟩ := a4 r (by omega)
    refine ⟨⟨?_, ?_, ?_, ?_, fun j hj => ?_⟩, q2, ?_⟩
    · rw [e0, upC_self er]; exact m1
    · rw [e1, upC_self er]; exact m2
    · rw [e2, upC_self er]; exact m3
    · rw [e4, upC_self er]; exact m4
    · rw [e 283 (by decide) (by decide), e 284 (by decide) (by decide), e 285 (by decide) (by decide)]; exact m5 j hj
    · have hne : ¬ n = r := fun z => er z.symm
      rw [e3, upC_self er, Nat.testBit_or, Nat.testBit_two_pow]; simp [hne]; exact q3
theorem u2_add {σ τ : Sg} {U n w r x : Nat} {Rf : Nat → RC} {a b : Int} (h : u2 σ U n Rf w) (hr : r < n) (hW : WR U (addP (Rf r) x a b)) (hn6 : rN (Rf r) < 6) (e8 : τ 272 8 = σ 272 8) (e : ∀ c, 278 ≤ c → c ≤ 281 → τ c = σ c) (e2 : ∀ i, τ 282 i = upC σ 282 r ((rN (Rf r) + 1 : Nat) : Int) 282 i) (e3 : ∀ i, τ 283 i = upC σ 283 (6 * r + rN (Rf r)) (x : Int) 283 i) (e4 : ∀ i, τ 284 i = upC σ 284 (6 * r + rN (Rf r)) a 284 i) (e5 : ∀ i, τ 285 i = upC σ 285 (6 * r + rN (Rf r)) b 285 i) : u2 τ U n (updF Rf r (addP (Rf r) x a b)) w := by
  obtain ⟨a1, a2, a3, a4⟩ := h
  refine ⟨a1, e8.trans a2, a3, fun q hq => ?_⟩
  obtain ⟨⟨m1, m2, m3, m4, m5⟩, q2, q3⟩ := a4 q hq
  by_cases er : q = r
  · subst er
    rw [updF_at]
    refine ⟨⟨by rw [e 278 (by decide) (by decide)]; exact m1, by rw [e 279 (by decide) (by decide)]; exact m2, by rw [e 280 (by decide) (by decide)]; exact m3, by rw [e2, upC_at]; rfl, fun j hj => ?_⟩, hW, by rw [e 281 (by decide) (by decide)]; exact q3⟩
    rw [addP_o, addP_a, addP_z, e3, e4, e5]
    by_cases ej : j = rN (Rf q)
    · rw [ej, upC_at, upC_at, upC_at, if_pos rfl, if_pos rfl, if_pos rfl]; exact ⟨rfl, rfl, rfl⟩
    · rw [if_neg ej, if_neg ej, if_neg ej, upC_self (by omega), upC_self (by omega), upC_self (by omega)]
      exact m5 j (by have : j < rN (Rf q) + 1 := hj
                     omega)
  · rw [updF_ne er]
    refine ⟨⟨by rw [e 278 (by decide) (by decide)]; exact m1, by rw [e 279 (by decide) (by decide)]; exact m2, by rw [e 280 (by decide) (by decide)]; exact m3, by rw [e2, upC_self er]; exact m4, fun j hj => ?_⟩, q2, by rw [e 281 (by decide) (by decide)]; exact q3⟩
    have := q2.1.2.1
    rw [e3, e4, e5, upC_self (by omega), upC_self (by omega), upC_self (by omega)]
    exact m5 j hj
theorem rng_bits : ∀ b, b < 16 → ∀ a, a ≤ b → (2 ^ (b + 1) - 1) &&& (65536 - 2 ^ a) = 2 ^ (b + 1) - 2 ^ a := by decide +kernel
theorem rng_nS {a b : Nat} (hab : a ≤ b) (hb : b < 16) : nS 0 b &&& nS 1 a = 2 ^ (b + 1) - 2 ^ a := rng_bits b hb a hab
set_option maxRecDepth 100000 in
set_option maxHeartbeats 4000000 in
theorem r_unknown {g : GC} (s : SS) (σ : Sg) (hM : MI s σ) (a : Int) (h_a : inR a) (b : Int) (h_b : inR b) : Ev g mX8_unknown 0 [some (vR (272)), some (vI (a)), some (vI (b))] [] (M0 (σ)) 0 0 (retE (MP σ (o_unknown s a b))) := by
  refine Ev.aload_n dX8_unknown_0 rfl rfl ?_
  refine Ev.iconst dX8_unknown_1 ?_
  refine pf_X8_90 rfl dX8_unknown_2 ltc_272 shc_272 ?_
  obtain ⟨σ1, hs1⟩ : ∃ ρ : Sg, ρ = upC σ 272 0 0 := ⟨_, rfl⟩
  refine Ev.mem (τ := σ1) hs1.symm ?_
  have hM1 : MI s σ1 := by rw [hs1]; exact hM.th
  have hk0 : ∀ c, c < 272 → σ1 c = σ c := fun c hc => by rw [hs1]; exact upC_ne (by omega)
  obtain ⟨hu1, hu2, hu3, hu4, hu5, hu6, hu7, hu8⟩ := id hM1
  have hU := hu1.1
  have hN := hu2.1
  have hD := hu4.1
  have hMl := hu7.1
  have hQ := hu5.1
  refine Ev.iload_n dX8_unknown_5 rfl rfl ?_
  refine Ev.i2l ⟨by omega, by omega⟩ dX8_unknown_6 ?_
  refine Ev.lconst 0 rfl dX8_unknown_7 ?_
  refine Ev.ldc2 (n := 15) (tbl_i 796 (by decide +kernel)) dX8_unknown_8 ?_
  refine Ev.callS_I (M2 := mX8_in) (args2 := [vL (a), vL (0), vL (15)]) dX8_unknown_11 okX8_in lk_X8_96 osX8_in.1 osX8_in.2 (by decide) rfl (Nat.le_of_ble_eq_true rfl) (Nat.le_of_ble_eq_true rfl) (sM_in σ1 (a) (0) (15) ⟨by omega, by omega⟩ ⟨by omega, by omega⟩ ⟨by omega, by omega⟩) ?_ rfl
  refine Ev.if_eq (tgt := 34) bI_inR dX8_unknown_14 (by decide) (fun h14 => ?_) (fun h14 => ?_)
  · skip
    have q14 := bI_0.mp h14
    refine Ev.bipush (n := -2) (by decide) dX8_unknown_34 ?_
    exact Ev.ireturn dX8_unknown_36 rfl (rE (by unfold MP o_unknown; (repeat rw [Int.toNat_natCast]); rw [ifP_t (by omega)]; exact ⟨rfl, hM1, hk0⟩))
  · skip
    have q14 := bI_1.mp h14
    refine Ev.iload_n dX8_unknown_17 rfl rfl ?_
    refine Ev.i2l ⟨by omega, by omega⟩ dX8_unknown_18 ?_
    refine Ev.lconst 0 rfl dX8_unknown_19 ?_
    refine Ev.ldc2 (n := 15) (tbl_i 796 (by decide +kernel)) dX8_unknown_20 ?_
    refine Ev.callS_I (M2 := mX8_in) (args2 := [vL (b), vL (0), vL (15)]) dX8_unknown_23 okX8_in lk_X8_96 osX8_in.1 osX8_in.2 (by decide) rfl (Nat.le_of_ble_eq_true rfl) (Nat.le_of_ble_eq_true rfl) (sM_in σ1 (b) (0) (15) ⟨by omega, by omega⟩ ⟨by omega, by omega⟩ ⟨by omega, by omega⟩) ?_ rfl
    refine Ev.if_eq (tgt := 34) bI_inR dX8_unknown_26 (by decide) (fun h26 => ?_) (fun h26 => ?_)
    · skip
      have q26 := bI_0.mp h26
      refine Ev.bipush (n := -2) (by decide) dX8_unknown_34 ?_
      exact Ev.ireturn dX8_unknown_36 rfl (rE (by unfold MP o_unknown; (repeat rw [Int.toNat_natCast]); rw [ifP_t (by omega)]; exact ⟨rfl, hM1, hk0⟩))
    · skip
      have q26 := bI_1.mp h26
      refine Ev.iload_n dX8_unknown_29 rfl rfl ?_
      refine Ev.iload_n dX8_unknown_30 rfl rfl ?_
      refine Ev.icmp_le (tgt := 37) ⟨by omega, by omega⟩ ⟨by omega, by omega⟩ dX8_unknown_31 (by decide) (fun h31 => ?_) (fun h31 => ?_)
      · skip
        obtain ⟨ka, rfl⟩ : ∃ n_ : Nat, a = (n_ : Int) := ⟨a.toNat, by omega⟩
        obtain ⟨kb, rfl⟩ : ∃ n_ : Nat, b = (n_ : Int) := ⟨b.toNat, by omega⟩
        have hnr := new_r (show ka ≤ kb by omega) (show kb < 16 by omega)
        have hrb := rng_nS (show ka ≤ kb by omega) (show kb < 16 by omega)
        have hn0 : nS 0 kb < 65536 := nS_lt (by omega)
        refine Ev.aload_n dX8_unknown_37 rfl rfl ?_
        refine gf_X8_109 (x := ((sD s : Nat) : Int)) rfl dX8_unknown_38 ltc_272 shc_272 hu4.2.1 ?_
        refine Ev.if_le (tgt := 47) ⟨by omega, by omega⟩ dX8_unknown_41 (by decide) (fun h41 => ?_) (fun h41 => ?_)
        · skip
          refine Ev.aload_n dX8_unknown_47 rfl rfl ?_
          refine gf_X8_93 (x := ((sU s : Nat) : Int)) rfl dX8_unknown_48 ltc_272 shc_272 hu1.2.1 ?_
          refine Ev.bipush (n := 10) (by decide) dX8_unknown_51 ?_
          refine Ev.icmp_ne (tgt := 59) ⟨by omega, by omega⟩ ⟨by decide, by decide⟩ dX8_unknown_53 (by decide) (fun h53 => ?_) (fun h53 => ?_)
          · skip
            refine Ev.aload_n dX8_unknown_59 rfl rfl ?_
            refine gf_X8_7 rfl dX8_unknown_60 ltc_272 shc_272 rfc_272_2 ?_
            refine Ev.aload_n dX8_unknown_63 rfl rfl ?_
            refine gf_X8_93 (x := ((sU s : Nat) : Int)) rfl dX8_unknown_64 ltc_272 shc_272 hu1.2.1 ?_
            refine Ev.iconst dX8_unknown_67 ?_
            refine Ev.iload_n dX8_unknown_68 rfl rfl ?_
            refine Ev.callS_I (M2 := mX8_bits) (args2 := [vI (0), vI (((kb : Nat) : Int))]) dX8_unknown_69 okX8_bits lk_X8_112 osX8_bits.1 osX8_bits.2 (by decide) rfl (Nat.le_of_ble_eq_true rfl) (Nat.le_of_ble_eq_true rfl) (sM_bits σ1 (0) kb (by omega) (by omega)) ?_ rfl
            refine Ev.iconst dX8_unknown_72 ?_
            refine Ev.iload_n dX8_unknown_73 rfl rfl ?_
            refine Ev.callS_I (M2 := mX8_bits) (args2 := [vI (1), vI (((ka : Nat) : Int))]) dX8_unknown_74 okX8_bits lk_X8_112 osX8_bits.1 osX8_bits.2 (by decide) rfl (Nat.le_of_ble_eq_true rfl) (Nat.le_of_ble_eq_true rfl) (sM_bits σ1 (1) ka (by omega) (by omega)) ?_ rfl
            refine Ev.iand dX8_unknown_77 ?_
            rw [show (iAnd (((nS (0) kb : Nat) : Int)) (((nS (1) ka : Nat) : Int))) = (((2 ^ (kb + 1) - 2 ^ ka) : Nat) : Int) from by rw [iAnd_nat (by omega), hrb]]
            refine Ev.iastore dX8_unknown_78 ltc_273 shc_273 (by decide) (by omega) (by omega) ?_
            refine Ev.mem (τ := upC σ1 273 (sU s) ((2 ^ (kb + 1) - 2 ^ ka) : Nat)) (by simp only [Int.toNat_natCast]) ?_
            refine Ev.aload_n dX8_unknown_79 rfl rfl ?_
            refine Ev.dupR dX8_unknown_80 ?_
            refine gf_X8_93 (x := ((sU s : Nat) : Int)) rfl dX8_unknown_81 ltc_272 shc_272 (show (upC σ1 273 (sU s) ((2 ^ (kb + 1) - 2 ^ ka) : Nat)) 272 1 = ((sU s : Nat) : Int) from ((congrFun (upC_ne (by decide)) 1).trans hu1.2.1)) ?_
            refine Ev.iconst dX8_unknown_84 ?_
            refine Ev.iadd dX8_unknown_85 ?_
            refine pf_X8_93 rfl dX8_unknown_86 ltc_272 shc_272 ?_
            refine Ev.mem (τ := upC (upC σ1 273 (sU s) ((2 ^ (kb + 1) - 2 ^ ka) : Nat)) 272 1 ((sU s + 1 : Nat) : Int)) (by rw [show ((sU s : Nat) : Int) + 1 = ((sU s + 1 : Nat) : Int) by omega]) ?_
            have hU1 : sU s + 1 ≤ 10 := by omega
            have hav : ∀ x, x < sU s + 1 → (upC (upC σ1 273 (sU s) ((2 ^ (kb + 1) - 2 ^ ka) : Nat)) 272 1 ((sU s + 1 : Nat) : Int)) 273 x = ((upY (sG s) (sU s) (2 ^ (kb + 1) - 2 ^ ka)) x : Int) ∧ (upY (sG s) (sU s) (2 ^ (kb + 1) - 2 ^ ka)) x ≠ 0 ∧ (upY (sG s) (sU s) (2 ^ (kb + 1) - 2 ^ ka)) x < 65536 := fun x hx => by rw [upC_ne (by decide)]; by_cases e : x = sU s; (rw [e, upC_at, upY_at]; exact ⟨rfl, hnr.1, hnr.2.1⟩); (rw [upC_self e, upY_ne e]; exact hu1.2.2.1 x (by omega))
            refine Ev.aload_n dX8_unknown_89 rfl rfl ?_
            refine Ev.callV_G (M2 := mX8_asTold) (args2 := []) (rcv := 272) (q := (RX8, TX8, 34)) (ci := 8) dX8_unknown_90 okX8_asTold lk_X8_116 ovX8_asTold.1.1 ovX8_asTold.1.2 ovX8_asTold.2 (by decide) rfl rfl ltc_272 shc_272 rfl (Nat.le_of_ble_eq_true rfl) (Nat.le_of_ble_eq_true rfl) (sM_asTold (upC (upC σ1 273 (sU s) ((2 ^ (kb + 1) - 2 ^ ka) : Nat)) 272 1 ((sU s + 1 : Nat) : Int)) (sU s + 1) hU1 upC_at ((upY (sG s) (sU s) (2 ^ (kb + 1) - 2 ^ ka))) (fun x hx => (hav x hx).1)) (fun v_ m_ hp_ => ?_) rfl
            obtain ⟨τ, rfl, rfl, hF, hG⟩ := hp_
            show Ev g mX8_unknown 93 [some (vR (272)), some (vI (((ka : Nat) : Int))), some (vI (((kb : Nat) : Int)))] [] (M0 (τ)) 0 0 _
            refine Ev.aload_n dX8_unknown_93 rfl rfl ?_
            refine gf_X8_93 (x := (((sU s + 1) : Nat) : Int)) rfl dX8_unknown_94 ltc_272 shc_272 ((congrFun (hF 272 (by decide)) 1).trans upC_at) ?_
            refine Ev.iconst dX8_unknown_97 ?_
            refine Ev.isub dX8_unknown_98 ?_
            exact Ev.ireturn dX8_unknown_99 rfl (rE (by unfold MP o_unknown; (repeat rw [Int.toNat_natCast]); rw [ifP_f (by omega), ifP_f (by omega), ifP_f (by omega)]; exact ⟨(by show _ = ((sU s : Nat) : Int); omega), ⟨⟨hU1, ((congrFun (hF 272 (by decide)) 1).trans upC_at), (fun x hx => ⟨(congrFun (hF 273 (by decide)) x).trans (hav x hx).1, (hav x hx).2⟩), (fun x hx => ⟨hG x hx, (hav x hx).2⟩)⟩, (hu2.wr (Nat.le_succ _) hU1 ((congrFun (hF 272 (by decide)) 8).trans ((upC_self (by decide)).trans ((congrFun (upC_ne (by decide)) 8).trans rfl))) (fun c q1 q2 => ((hF c (by simp; omega)).trans ((upC_ne (Nat.ne_of_gt (Nat.lt_of_lt_of_le (show 272 < 278 by decide) q1))).trans ((upC_ne (Nat.ne_of_gt (Nat.lt_of_lt_of_le (show 273 < 278 by decide) q1))).trans rfl))))), (hu3.cg (fun c i q1 q2 => congrFun ((hF c (by simp; omega)).trans ((upC_ne (Nat.ne_of_gt (Nat.lt_of_lt_of_le (show 272 < 286 by decide) q1))).trans ((upC_ne (Nat.ne_of_gt (Nat.lt_of_lt_of_le (show 273 < 286 by decide) q1))).trans rfl))) i)), (u4_no hu4 (show sD s = 0 by omega) ((congrFun (hF 272 (by decide)) 4).trans ((upC_self (by decide)).trans ((congrFun (upC_ne (by decide)) 4).trans rfl)))), (hu5.cg ((congrFun (hF 272 (by decide)) 25).trans ((upC_self (by decide)).trans ((congrFun (upC_ne (by decide)) 25).trans rfl))) ((hF 292 (by decide)).trans ((upC_ne (by decide)).trans ((upC_ne (by decide)).trans rfl)))), (hu6.cg ((congrFun (hF 272 (by decide)) 27).trans ((upC_self (by decide)).trans ((congrFun (upC_ne (by decide)) 27).trans rfl))) ((hF 293 (by decide)).trans ((upC_ne (by decide)).trans ((upC_ne (by decide)).trans rfl)))), (hu7.wr (Nat.le_succ _) hU1 (Nat.le_refl _) ((congrFun (hF 272 (by decide)) 19).trans ((upC_self (by decide)).trans ((congrFun (upC_ne (by decide)) 19).trans rfl))) (fun c q1 q2 => ((hF c (by simp; omega)).trans ((upC_ne (Nat.ne_of_gt (Nat.lt_of_lt_of_le (show 272 < 288 by decide) q1))).trans ((upC_ne (Nat.ne_of_gt (Nat.lt_of_lt_of_le (show 273 < 288 by decide) q1))).trans rfl))))), ((congrFun (hF 272 (by decide)) 24).trans ((upC_self (by decide)).trans ((congrFun (upC_ne (by decide)) 24).trans hu8)))⟩, (fun c q2 => (hF c (by simp; omega)).trans (((upC_ne (Nat.ne_of_lt (Nat.lt_of_lt_of_le q2 (show 272 ≤ 272 by decide)))).trans ((upC_ne (Nat.ne_of_lt (Nat.lt_of_lt_of_le q2 (show 272 ≤ 273 by decide)))).trans (hk0 c q2)))))⟩))
          · skip
            refine Ev.bipush (n := -4) (by decide) dX8_unknown_56 ?_
            exact Ev.ireturn dX8_unknown_58 rfl (rE (by unfold MP o_unknown; (repeat rw [Int.toNat_natCast]); rw [ifP_f (by omega), ifP_f (by omega), ifP_t (by omega)]; exact ⟨rfl, hM1, hk0⟩))
        · skip
          refine Ev.bipush (n := -3) (by decide) dX8_unknown_44 ?_
          exact Ev.ireturn dX8_unknown_46 rfl (rE (by unfold MP o_unknown; (repeat rw [Int.toNat_natCast]); rw [ifP_f (by omega), ifP_t (by omega)]; exact ⟨rfl, hM1, hk0⟩))
      · skip
        refine Ev.bipush (n := -2) (by decide) dX8_unknown_34 ?_
        exact Ev.ireturn dX8_unknown_36 rfl (rE (by unfold MP o_unknown; (repeat rw [Int.toNat_natCast]); rw [ifP_t (by omega)]; exact ⟨rfl, hM1, hk0⟩))

set_option maxRecDepth 100000 in
set_option maxHeartbeats 4000000 in
theorem r_hole {g : GC} (s : SS) (σ : Sg) (hM : MI s σ) (x : Int) (h_x : inR x) (v : Int) (h_v : inR v) : Ev g mX8_hole 0 [some (vR (272)), some (vI (x)), some (vI (v))] [] (M0 (σ)) 0 0 (retE (MP σ (o_hole s x v))) := by
  refine Ev.aload_n dX8_hole_0 rfl rfl ?_
  refine Ev.iconst dX8_hole_1 ?_
  refine pf_X8_90 rfl dX8_hole_2 ltc_272 shc_272 ?_
  obtain ⟨σ1, hs1⟩ : ∃ ρ : Sg, ρ = upC σ 272 0 0 := ⟨_, rfl⟩
  refine Ev.mem (τ := σ1) hs1.symm ?_
  have hM1 : MI s σ1 := by rw [hs1]; exact hM.th
  have hk0 : ∀ c, c < 272 → σ1 c = σ c := fun c hc => by rw [hs1]; exact upC_ne (by omega)
  obtain ⟨hu1, hu2, hu3, hu4, hu5, hu6, hu7, hu8⟩ := id hM1
  have hU := hu1.1
  have hN := hu2.1
  have hD := hu4.1
  have hMl := hu7.1
  have hQ := hu5.1
  refine Ev.aload_n dX8_hole_5 rfl rfl ?_
  refine Ev.iload_n dX8_hole_6 rfl rfl ?_
  refine Ev.callV_I (M2 := mX8_noUnknown) (args2 := [vI (x)]) (rcv := 272) (q := (RX8, TX8, 34)) (ci := 8) dX8_hole_7 okX8_noUnknown lk_X8_119 ovX8_noUnknown.1.1 ovX8_noUnknown.1.2 ovX8_noUnknown.2 (by decide) rfl rfl ltc_272 shc_272 rfl (Nat.le_of_ble_eq_true rfl) (Nat.le_of_ble_eq_true rfl) (sM_noUnknown σ1 (sU s) hU hu1.2.1 (x) ⟨by omega, by omega⟩) ?_ rfl
  refine Ev.if_eq (tgt := 15) bI_inR dX8_hole_10 (by decide) (fun h10 => ?_) (fun h10 => ?_)
  · skip
    have q10 := bI_0.mp h10
    obtain ⟨kx, rfl⟩ : ∃ n_ : Nat, x = (n_ : Int) := ⟨x.toNat, by omega⟩
    have hxl := (hu1.2.2.1 kx (by omega)).2.2
    refine Ev.iload_n dX8_hole_15 rfl rfl ?_
    refine Ev.i2l ⟨by omega, by omega⟩ dX8_hole_16 ?_
    refine Ev.lconst 0 rfl dX8_hole_17 ?_
    refine Ev.ldc2 (n := 15) (tbl_i 796 (by decide +kernel)) dX8_hole_18 ?_
    refine Ev.callS_I (M2 := mX8_in) (args2 := [vL (v), vL (0), vL (15)]) dX8_hole_21 okX8_in lk_X8_96 osX8_in.1 osX8_in.2 (by decide) rfl (Nat.le_of_ble_eq_true rfl) (Nat.le_of_ble_eq_true rfl) (sM_in σ1 (v) (0) (15) ⟨by omega, by omega⟩ ⟨by omega, by omega⟩ ⟨by omega, by omega⟩) ?_ rfl
    refine Ev.if_ne (tgt := 30) bI_inR dX8_hole_24 (by decide) (fun h24 => ?_) (fun h24 => ?_)
    · skip
      have q24 := bI_1.mp h24
      obtain ⟨kv, rfl⟩ : ∃ n_ : Nat, v = (n_ : Int) := ⟨v.toNat, by omega⟩
      have hpv := pow_le16 (show kv < 16 by omega)
      have hp1 : 1 ≤ 2 ^ kv := Nat.one_le_two_pow
      refine Ev.aload_n dX8_hole_30 rfl rfl ?_
      refine gf_X8_109 (x := ((sD s : Nat) : Int)) rfl dX8_hole_31 ltc_272 shc_272 hu4.2.1 ?_
      refine Ev.if_gt (tgt := 62) ⟨by omega, by omega⟩ dX8_hole_34 (by decide) (fun h34 => ?_) (fun h34 => ?_)
      · skip
        refine Ev.bipush (n := -3) (by decide) dX8_hole_62 ?_
        exact Ev.ireturn dX8_hole_64 rfl (rE (by unfold MP o_hole; (repeat rw [Int.toNat_natCast]); rw [ifP_f (by omega), ifP_f (by omega), ifP_t (by first | exact Or.inl (by omega) | exact Or.inr (Or.inl (b2_0.mp (by omega))) | exact Or.inr (Or.inr (by omega)))]; exact ⟨rfl, hM1, hk0⟩))
      · skip
        refine Ev.aload_n dX8_hole_37 rfl rfl ?_
        refine gf_X8_7 rfl dX8_hole_38 ltc_272 shc_272 rfc_272_2 ?_
        refine Ev.iload_n dX8_hole_41 rfl rfl ?_
        refine Ev.iaload (v := ((sG s kx : Nat) : Int)) dX8_hole_42 ltc_273 shc_273 (by decide) (by omega) (by omega) (ldx rfl (hu1.2.2.1 kx (by omega)).1) ?_
        refine Ev.iload_n dX8_hole_43 rfl rfl ?_
        refine Ev.ishr dX8_hole_44 ?_
        refine Ev.iconst dX8_hole_45 ?_
        refine Ev.iand dX8_hole_46 ?_
        rw [show (iAnd ((iShr (((sG s kx : Nat) : Int)) (((kv : Nat) : Int)))) (1)) = (((b2 ((sG s kx).testBit kv)) : Nat) : Int) from bit_nat (by omega) (by omega)]
        refine Ev.if_eq (tgt := 62) b2_inR dX8_hole_47 (by decide) (fun h47 => ?_) (fun h47 => ?_)
        · skip
          refine Ev.bipush (n := -3) (by decide) dX8_hole_62 ?_
          exact Ev.ireturn dX8_hole_64 rfl (rE (by unfold MP o_hole; (repeat rw [Int.toNat_natCast]); rw [ifP_f (by omega), ifP_f (by omega), ifP_t (by first | exact Or.inl (by omega) | exact Or.inr (Or.inl (b2_0.mp (by omega))) | exact Or.inr (Or.inr (by omega)))]; exact ⟨rfl, hM1, hk0⟩))
        · skip
          have hbt : (sG s kx).testBit kv = true := b2_ne.mp (by omega)
          have hal : (andN (sG s kx) (2 ^ kv)) < 65536 := andN_lt hxl
          refine Ev.aload_n dX8_hole_50 rfl rfl ?_
          refine gf_X8_7 rfl dX8_hole_51 ltc_272 shc_272 rfc_272_2 ?_
          refine Ev.iload_n dX8_hole_54 rfl rfl ?_
          refine Ev.iaload (v := ((sG s kx : Nat) : Int)) dX8_hole_55 ltc_273 shc_273 (by decide) (by omega) (by omega) (ldx rfl (hu1.2.2.1 kx (by omega)).1) ?_
          refine Ev.iconst dX8_hole_56 ?_
          refine Ev.iload_n dX8_hole_57 rfl rfl ?_
          refine Ev.ishl dX8_hole_58 ?_
          rw [show (iShl (1) (((kv : Nat) : Int))) = ((2 ^ kv : Nat) : Int) from shl1 (by omega)]
          refine Ev.icmp_ne (tgt := 65) ⟨by omega, by omega⟩ ⟨by omega, by omega⟩ dX8_hole_59 (by decide) (fun h59 => ?_) (fun h59 => ?_)
          · skip
            refine Ev.aload_n dX8_hole_65 rfl rfl ?_
            refine gf_X8_7 rfl dX8_hole_66 ltc_272 shc_272 rfc_272_2 ?_
            refine Ev.iload_n dX8_hole_69 rfl rfl ?_
            refine Ev.dup2RI dX8_hole_70 ?_
            refine Ev.iaload (v := ((sG s kx : Nat) : Int)) dX8_hole_71 ltc_273 shc_273 (by decide) (by omega) (by omega) (ldx rfl (hu1.2.2.1 kx (by omega)).1) ?_
            refine Ev.iconst dX8_hole_72 ?_
            refine Ev.iload_n dX8_hole_73 rfl rfl ?_
            refine Ev.ishl dX8_hole_74 ?_
            rw [show (iShl (1) (((kv : Nat) : Int))) = ((2 ^ kv : Nat) : Int) from shl1 (by omega)]
            refine Ev.isub dX8_hole_75 ?_
            refine Ev.iastore dX8_hole_76 ltc_273 shc_273 (by decide) (by omega) (by omega) ?_
            refine Ev.mem (τ := upC σ1 273 kx ((andN (sG s kx) (2 ^ kv)) : Int)) (by rw [show ((sG s kx : Nat) : Int) - ((2 ^ kv : Nat) : Int) = (((andN (sG s kx) (2 ^ kv)) : Nat) : Int) by rw [andN_sub hbt]; have := (sub_bit hbt).2; omega]; simp only [Int.toNat_natCast]) ?_
            have hav : ∀ x, x < sU s → (upC σ1 273 kx ((andN (sG s kx) (2 ^ kv)) : Int)) 273 x = ((upY (sG s) kx (andN (sG s kx) (2 ^ kv))) x : Int) ∧ (upY (sG s) kx (andN (sG s kx) (2 ^ kv))) x ≠ 0 ∧ (upY (sG s) kx (andN (sG s kx) (2 ^ kv))) x < 65536 := fun x hx => by by_cases e : x = kx; (rw [e, upC_at, upY_at]; exact ⟨rfl, andN_ne hbt (by omega), andN_lt hxl⟩); (rw [upC_self e, upY_ne e]; exact hu1.2.2.1 x hx)
            refine Ev.aload_n dX8_hole_77 rfl rfl ?_
            refine Ev.callV_G (M2 := mX8_asTold) (args2 := []) (rcv := 272) (q := (RX8, TX8, 34)) (ci := 8) dX8_hole_78 okX8_asTold lk_X8_116 ovX8_asTold.1.1 ovX8_asTold.1.2 ovX8_asTold.2 (by decide) rfl rfl ltc_272 shc_272 rfl (Nat.le_of_ble_eq_true rfl) (Nat.le_of_ble_eq_true rfl) (sM_asTold (upC σ1 273 kx ((andN (sG s kx) (2 ^ kv)) : Int)) (sU s) hU ((congrFun (upC_ne (by decide)) 1).trans hu1.2.1) ((upY (sG s) kx (andN (sG s kx) (2 ^ kv)))) (fun x hx => (hav x hx).1)) (fun v_ m_ hp_ => ?_) rfl
            obtain ⟨τ, rfl, rfl, hF, hG⟩ := hp_
            show Ev g mX8_hole 81 [some (vR (272)), some (vI (((kx : Nat) : Int))), some (vI (((kv : Nat) : Int)))] [] (M0 (τ)) 0 0 _
            refine Ev.aload_n dX8_hole_81 rfl rfl ?_
            refine gf_X8_7 rfl dX8_hole_82 ltc_272 shc_272 rfc_272_2 ?_
            refine Ev.iload_n dX8_hole_85 rfl rfl ?_
            refine Ev.iaload (v := (((andN (sG s kx) (2 ^ kv)) : Nat) : Int)) dX8_hole_86 ltc_273 shc_273 (by decide) (by omega) (by omega) (ldx rfl ((congrFun (hF 273 (by decide)) kx).trans upC_at)) ?_
            refine Ev.callS_I (M2 := mX8_many) (args2 := [vI ((((andN (sG s kx) (2 ^ kv)) : Nat) : Int))]) dX8_hole_87 okX8_many lk_X8_123 osX8_many.1 osX8_many.2 (by decide) rfl (Nat.le_of_ble_eq_true rfl) (Nat.le_of_ble_eq_true rfl) (sM_many τ (andN (sG s kx) (2 ^ kv)) (by omega)) ?_ rfl
            exact Ev.ireturn dX8_hole_90 rfl (rE (by unfold MP o_hole; (repeat rw [Int.toNat_natCast]); rw [ifP_f (by omega), ifP_f (by omega), ifP_f (by rintro (z | z | z); omega; (rw [hbt] at z; cases z); omega)]; exact ⟨rfl, ⟨⟨hU, ((congrFun (hF 272 (by decide)) 1).trans ((congrFun (upC_ne (by decide)) 1).trans hu1.2.1)), (fun x hx => ⟨(congrFun (hF 273 (by decide)) x).trans (hav x hx).1, (hav x hx).2⟩), (fun x hx => ⟨hG x hx, (hav x hx).2⟩)⟩, (hu2.cg ((congrFun (hF 272 (by decide)) 8).trans ((congrFun (upC_ne (by decide)) 8).trans rfl)) (fun c q1 q2 => ((hF c (by simp; omega)).trans ((upC_ne (Nat.ne_of_gt (Nat.lt_of_lt_of_le (show 273 < 278 by decide) q1))).trans rfl)))), (hu3.cg (fun c i q1 q2 => congrFun ((hF c (by simp; omega)).trans ((upC_ne (Nat.ne_of_gt (Nat.lt_of_lt_of_le (show 273 < 286 by decide) q1))).trans rfl)) i)), (hu4.cg ((congrFun (hF 272 (by decide)) 4).trans ((congrFun (upC_ne (by decide)) 4).trans rfl)) (fun c q1 q2 => ((hF c (by simp; omega)).trans ((upC_ne (Nat.ne_of_gt (Nat.lt_of_lt_of_le (show 273 < 275 by decide) q1))).trans rfl)))), (hu5.cg ((congrFun (hF 272 (by decide)) 25).trans ((congrFun (upC_ne (by decide)) 25).trans rfl)) ((hF 292 (by decide)).trans ((upC_ne (by decide)).trans rfl))), (hu6.cg ((congrFun (hF 272 (by decide)) 27).trans ((congrFun (upC_ne (by decide)) 27).trans rfl)) ((hF 293 (by decide)).trans ((upC_ne (by decide)).trans rfl))), (hu7.cg ((congrFun (hF 272 (by decide)) 19).trans ((congrFun (upC_ne (by decide)) 19).trans rfl)) (fun c q1 q2 => ((hF c (by simp; omega)).trans ((upC_ne (Nat.ne_of_gt (Nat.lt_of_lt_of_le (show 273 < 288 by decide) q1))).trans rfl)))), ((congrFun (hF 272 (by decide)) 24).trans ((congrFun (upC_ne (by decide)) 24).trans hu8))⟩, (fun c q2 => (hF c (by simp; omega)).trans (((upC_ne (Nat.ne_of_lt (Nat.lt_of_lt_of_le q2 (show 272 ≤ 273 by decide)))).trans (hk0 c q2))))⟩))
          · skip
            refine Ev.bipush (n := -3) (by decide) dX8_hole_62 ?_
            exact Ev.ireturn dX8_hole_64 rfl (rE (by unfold MP o_hole; (repeat rw [Int.toNat_natCast]); rw [ifP_f (by omega), ifP_f (by omega), ifP_t (by first | exact Or.inl (by omega) | exact Or.inr (Or.inl (b2_0.mp (by omega))) | exact Or.inr (Or.inr (by omega)))]; exact ⟨rfl, hM1, hk0⟩))
    · skip
      have q24 := bI_0.mp h24
      refine Ev.bipush (n := -2) (by decide) dX8_hole_27 ?_
      exact Ev.ireturn dX8_hole_29 rfl (rE (by unfold MP o_hole; (repeat rw [Int.toNat_natCast]); rw [ifP_f (by omega), ifP_t (by omega)]; exact ⟨rfl, hM1, hk0⟩))
  · skip
    have q10 := bI_1.mp h10
    refine Ev.iconst dX8_hole_13 ?_
    exact Ev.ireturn dX8_hole_14 rfl (rE (by unfold MP o_hole; (repeat rw [Int.toNat_natCast]); rw [ifP_t (by omega)]; exact ⟨rfl, hM1, hk0⟩))

set_option maxRecDepth 100000 in
set_option maxHeartbeats 4000000 in
theorem r_rule_b {g : GC} (s : SS) (σ σ1 : Sg) (hM1 : MI s σ1) (hk0 : ∀ c, c < 272 → σ1 c = σ c) (k a b : Int) (h_k : inR k) (h_a : inR a) (h_b : inR b) (hk : 0 ≤ k ∧ k ≤ 5) (hoks : okSet k a b) : Ev g mX8_rule 84 [some (vR (272)), some (vI (k)), some (vI (a)), some (vI (b))] [] (M0 (σ1)) 0 0 (retE (MP σ (o_rule s k a b))) := by
  obtain ⟨hu1, hu2, hu3, hu4, hu5, hu6, hu7, hu8⟩ := id hM1
  have hU := hu1.1
  have hN := hu2.1
  have hD := hu4.1
  have hMl := hu7.1
  have hQ := hu5.1
  refine Ev.aload_n dX8_rule_84 rfl rfl ?_
  refine gf_X8_109 (x := ((sD s : Nat) : Int)) rfl dX8_rule_85 ltc_272 shc_272 hu4.2.1 ?_
  refine Ev.if_le (tgt := 94) ⟨by omega, by omega⟩ dX8_rule_88 (by decide) (fun h88 => ?_) (fun h88 => ?_)
  · skip
    refine Ev.aload_n dX8_rule_94 rfl rfl ?_
    refine gf_X8_100 (x := ((sN s : Nat) : Int)) rfl dX8_rule_95 ltc_272 shc_272 hu2.2.1 ?_
    refine Ev.bipush (n := 16) (by decide) dX8_rule_98 ?_
    refine Ev.icmp_ne (tgt := 106) ⟨by omega, by omega⟩ ⟨by decide, by decide⟩ dX8_rule_100 (by decide) (fun h100 => ?_) (fun h100 => ?_)
    · skip
      refine Ev.aload_n dX8_rule_106 rfl rfl ?_
      refine gf_X8_25 rfl dX8_rule_107 ltc_272 shc_272 rfc_272_9 ?_
      refine Ev.aload_n dX8_rule_110 rfl rfl ?_
      refine gf_X8_100 (x := ((sN s : Nat) : Int)) rfl dX8_rule_111 ltc_272 shc_272 hu2.2.1 ?_
      refine Ev.iload_n dX8_rule_114 rfl rfl ?_
      refine Ev.iastore dX8_rule_115 ltc_278 shc_278 (by decide) (by omega) (by omega) ?_
      refine Ev.mem (τ := upC σ1 278 (sN s) k) (by simp only [Int.toNat_natCast]) ?_
      refine Ev.aload_n dX8_rule_116 rfl rfl ?_
      refine gf_X8_28 rfl dX8_rule_117 ltc_272 shc_272 rfc_272_10 ?_
      refine Ev.aload_n dX8_rule_120 rfl rfl ?_
      refine gf_X8_100 (x := ((sN s : Nat) : Int)) rfl dX8_rule_121 ltc_272 shc_272 (show (upC σ1 278 (sN s) k) 272 8 = _ from (by (repeat (first | rw [upC_self (by omega)] | rw [upC_ne (by omega)] | rw [cpy_ne (by omega)])); exact hu2.2.1)) ?_
      refine Ev.iload_n dX8_rule_124 rfl rfl ?_
      refine Ev.iastore dX8_rule_125 ltc_279 shc_279 (by decide) (by omega) (by omega) ?_
      refine Ev.mem (τ := upC (upC σ1 278 (sN s) k) 279 (sN s) a) (by simp only [Int.toNat_natCast]) ?_
      refine Ev.aload_n dX8_rule_126 rfl rfl ?_
      refine gf_X8_31 rfl dX8_rule_127 ltc_272 shc_272 rfc_272_11 ?_
      refine Ev.aload_n dX8_rule_130 rfl rfl ?_
      refine gf_X8_100 (x := ((sN s : Nat) : Int)) rfl dX8_rule_131 ltc_272 shc_272 (show (upC (upC σ1 278 (sN s) k) 279 (sN s) a) 272 8 = _ from (by (repeat (first | rw [upC_self (by omega)] | rw [upC_ne (by omega)] | rw [cpy_ne (by omega)])); exact hu2.2.1)) ?_
      refine Ev.iload_n dX8_rule_134 rfl rfl ?_
      refine Ev.iastore dX8_rule_135 ltc_280 shc_280 (by decide) (by omega) (by omega) ?_
      refine Ev.mem (τ := upC (upC (upC σ1 278 (sN s) k) 279 (sN s) a) 280 (sN s) b) (by simp only [Int.toNat_natCast]) ?_
      refine Ev.aload_n dX8_rule_136 rfl rfl ?_
      refine gf_X8_34 rfl dX8_rule_137 ltc_272 shc_272 rfc_272_12 ?_
      refine Ev.aload_n dX8_rule_140 rfl rfl ?_
      refine gf_X8_100 (x := ((sN s : Nat) : Int)) rfl dX8_rule_141 ltc_272 shc_272 (show (upC (upC (upC σ1 278 (sN s) k) 279 (sN s) a) 280 (sN s) b) 272 8 = _ from (by (repeat (first | rw [upC_self (by omega)] | rw [upC_ne (by omega)] | rw [cpy_ne (by omega)])); exact hu2.2.1)) ?_
      refine Ev.iconst dX8_rule_144 ?_
      refine Ev.zastore dX8_rule_145 ltc_281 shc_281 (by decide) (by omega) (by omega) (by omega) ?_
      refine Ev.mem (τ := upC (upC (upC (upC σ1 278 (sN s) k) 279 (sN s) a) 280 (sN s) b) 281 (sN s) 1) (by simp only [Int.toNat_natCast]) ?_
      refine Ev.aload_n dX8_rule_146 rfl rfl ?_
      refine gf_X8_38 rfl dX8_rule_147 ltc_272 shc_272 rfc_272_13 ?_
      refine Ev.aload_n dX8_rule_150 rfl rfl ?_
      refine gf_X8_100 (x := ((sN s : Nat) : Int)) rfl dX8_rule_151 ltc_272 shc_272 (show (upC (upC (upC (upC σ1 278 (sN s) k) 279 (sN s) a) 280 (sN s) b) 281 (sN s) 1) 272 8 = _ from (by (repeat (first | rw [upC_self (by omega)] | rw [upC_ne (by omega)] | rw [cpy_ne (by omega)])); exact hu2.2.1)) ?_
      refine Ev.iconst dX8_rule_154 ?_
      refine Ev.iastore dX8_rule_155 ltc_282 shc_282 (by decide) (by omega) (by omega) ?_
      refine Ev.mem (τ := upC (upC (upC (upC (upC σ1 278 (sN s) k) 279 (sN s) a) 280 (sN s) b) 281 (sN s) 1) 282 (sN s) 0) (by simp only [Int.toNat_natCast]) ?_
      refine Ev.aload_n dX8_rule_156 rfl rfl ?_
      refine Ev.dupR dX8_rule_157 ?_
      refine gf_X8_100 (x := ((sN s : Nat) : Int)) rfl dX8_rule_158 ltc_272 shc_272 (show (upC (upC (upC (upC (upC σ1 278 (sN s) k) 279 (sN s) a) 280 (sN s) b) 281 (sN s) 1) 282 (sN s) 0) 272 8 = _ from (by (repeat (first | rw [upC_self (by omega)] | rw [upC_ne (by omega)] | rw [cpy_ne (by omega)])); exact hu2.2.1)) ?_
      refine Ev.iconst dX8_rule_161 ?_
      refine Ev.iadd dX8_rule_162 ?_
      refine pf_X8_100 rfl dX8_rule_163 ltc_272 shc_272 ?_
      refine Ev.mem (τ := upC (upC (upC (upC (upC (upC σ1 278 (sN s) k) 279 (sN s) a) 280 (sN s) b) 281 (sN s) 1) 282 (sN s) 0) 272 8 ((sN s + 1 : Nat) : Int)) (by rw [show ((sN s : Nat) : Int) + 1 = ((sN s + 1 : Nat) : Int) by omega]) ?_
      refine Ev.aload_n dX8_rule_166 rfl rfl ?_
      refine Ev.callV_G (M2 := mX8_asTold) (args2 := []) (rcv := 272) (q := (RX8, TX8, 34)) (ci := 8) dX8_rule_167 okX8_asTold lk_X8_116 ovX8_asTold.1.1 ovX8_asTold.1.2 ovX8_asTold.2 (by decide) rfl rfl ltc_272 shc_272 rfl (Nat.le_of_ble_eq_true rfl) (Nat.le_of_ble_eq_true rfl) (sM_asTold (upC (upC (upC (upC (upC (upC σ1 278 (sN s) k) 279 (sN s) a) 280 (sN s) b) 281 (sN s) 1) 282 (sN s) 0) 272 8 ((sN s + 1 : Nat) : Int)) (sU s) hU ((upC_self (by decide)).trans ((congrFun (upC_ne (by decide)) 1).trans ((congrFun (upC_ne (by decide)) 1).trans ((congrFun (upC_ne (by decide)) 1).trans ((congrFun (upC_ne (by decide)) 1).trans ((congrFun (upC_ne (by decide)) 1).trans hu1.2.1)))))) (sG s) (fun y hy => ((congrFun (upC_ne (by decide)) y).trans ((congrFun (upC_ne (by decide)) y).trans ((congrFun (upC_ne (by decide)) y).trans ((congrFun (upC_ne (by decide)) y).trans ((congrFun (upC_ne (by decide)) y).trans ((congrFun (upC_ne (by decide)) y).trans (hu1.2.2.1 y hy).1)))))))) (fun v_ m_ hp_ => ?_) rfl
      obtain ⟨τ, rfl, rfl, hF, hG⟩ := hp_
      show Ev g mX8_rule 170 [some (vR (272)), some (vI (k)), some (vI (a)), some (vI (b))] [] (M0 (τ)) 0 0 _
      refine Ev.aload_n dX8_rule_170 rfl rfl ?_
      refine gf_X8_100 (x := (((sN s + 1) : Nat) : Int)) rfl dX8_rule_171 ltc_272 shc_272 ((congrFun (hF 272 (by decide)) 8).trans upC_at) ?_
      refine Ev.iconst dX8_rule_174 ?_
      refine Ev.isub dX8_rule_175 ?_
      exact Ev.ireturn dX8_rule_176 rfl (rE (by unfold MP o_rule; (repeat rw [Int.toNat_natCast]); rw [ifP_f (fun z => z ⟨⟨by omega, by omega⟩, hoks⟩), ifP_f (by omega), ifP_f (by omega)]; exact ⟨(by show _ = ((sN s : Nat) : Int); omega), ⟨⟨hU, ((congrFun (hF 272 (by decide)) 1).trans ((upC_self (by decide)).trans ((congrFun (upC_ne (by decide)) 1).trans ((congrFun (upC_ne (by decide)) 1).trans ((congrFun (upC_ne (by decide)) 1).trans ((congrFun (upC_ne (by decide)) 1).trans ((congrFun (upC_ne (by decide)) 1).trans hu1.2.1))))))), (hu1.2.2.1.cg (fun x _ => congrFun ((hF 273 (by decide)).trans ((upC_ne (by decide)).trans ((upC_ne (by decide)).trans ((upC_ne (by decide)).trans ((upC_ne (by decide)).trans ((upC_ne (by decide)).trans ((upC_ne (by decide)).trans rfl))))))) x)), (fun x hx => ⟨hG x hx, (hu1.2.2.1 x hx).2⟩)⟩, (u2_new hu2 hU (show sN s < 16 by omega) ⟨by omega, by omega⟩ hoks ((congrFun (hF 272 (by decide)) 8).trans upC_at) (fun c q1 q2 => ((hF c (by simp; omega)).trans ((upC_ne (Nat.ne_of_gt (Nat.lt_of_lt_of_le (show 272 < 283 by decide) q1))).trans ((upC_ne (Nat.ne_of_gt (Nat.lt_of_lt_of_le (show 282 < 283 by decide) q1))).trans ((upC_ne (Nat.ne_of_gt (Nat.lt_of_lt_of_le (show 281 < 283 by decide) q1))).trans ((upC_ne (Nat.ne_of_gt (Nat.lt_of_lt_of_le (show 280 < 283 by decide) q1))).trans ((upC_ne (Nat.ne_of_gt (Nat.lt_of_lt_of_le (show 279 < 283 by decide) q1))).trans ((upC_ne (Nat.ne_of_gt (Nat.lt_of_lt_of_le (show 278 < 283 by decide) q1))).trans rfl)))))))) (fun i => (congrFun (hF 278 (by decide)) i).trans ((congrFun (upC_ne (by decide)) i).trans ((congrFun (upC_ne (by decide)) i).trans ((congrFun (upC_ne (by decide)) i).trans ((congrFun (upC_ne (by decide)) i).trans ((congrFun (upC_ne (by decide)) i).trans (upC_cong rfl))))))) (fun i => (congrFun (hF 279 (by decide)) i).trans ((congrFun (upC_ne (by decide)) i).trans ((congrFun (upC_ne (by decide)) i).trans ((congrFun (upC_ne (by decide)) i).trans ((congrFun (upC_ne (by decide)) i).trans (upC_cong ((congrFun (upC_ne (by decide)) i).trans rfl))))))) (fun i => (congrFun (hF 280 (by decide)) i).trans ((congrFun (upC_ne (by decide)) i).trans ((congrFun (upC_ne (by decide)) i).trans ((congrFun (upC_ne (by decide)) i).trans (upC_cong ((congrFun (upC_ne (by decide)) i).trans ((congrFun (upC_ne (by decide)) i).trans rfl))))))) (fun i => (congrFun (hF 281 (by decide)) i).trans ((congrFun (upC_ne (by decide)) i).trans ((congrFun (upC_ne (by decide)) i).trans (upC_cong ((congrFun (upC_ne (by decide)) i).trans ((congrFun (upC_ne (by decide)) i).trans ((congrFun (upC_ne (by decide)) i).trans rfl))))))) (fun i => (congrFun (hF 282 (by decide)) i).trans ((congrFun (upC_ne (by decide)) i).trans (upC_cong ((congrFun (upC_ne (by decide)) i).trans ((congrFun (upC_ne (by decide)) i).trans ((congrFun (upC_ne (by decide)) i).trans ((congrFun (upC_ne (by decide)) i).trans rfl)))))))), (hu3.cg (fun c i q1 q2 => congrFun ((hF c (by simp; omega)).trans ((upC_ne (Nat.ne_of_gt (Nat.lt_of_lt_of_le (show 272 < 286 by decide) q1))).trans ((upC_ne (Nat.ne_of_gt (Nat.lt_of_lt_of_le (show 282 < 286 by decide) q1))).trans ((upC_ne (Nat.ne_of_gt (Nat.lt_of_lt_of_le (show 281 < 286 by decide) q1))).trans ((upC_ne (Nat.ne_of_gt (Nat.lt_of_lt_of_le (show 280 < 286 by decide) q1))).trans ((upC_ne (Nat.ne_of_gt (Nat.lt_of_lt_of_le (show 279 < 286 by decide) q1))).trans ((upC_ne (Nat.ne_of_gt (Nat.lt_of_lt_of_le (show 278 < 286 by decide) q1))).trans rfl))))))) i)), (hu4.cg ((congrFun (hF 272 (by decide)) 4).trans ((upC_self (by decide)).trans ((congrFun (upC_ne (by decide)) 4).trans ((congrFun (upC_ne (by decide)) 4).trans ((congrFun (upC_ne (by decide)) 4).trans ((congrFun (upC_ne (by decide)) 4).trans ((congrFun (upC_ne (by decide)) 4).trans rfl))))))) (fun c q1 q2 => ((hF c (by simp; omega)).trans ((upC_ne (Nat.ne_of_gt (Nat.lt_of_lt_of_le (show 272 < 275 by decide) q1))).trans ((upC_ne (Nat.ne_of_lt (Nat.lt_of_lt_of_le (Nat.lt_succ_of_le q2) (show 278 ≤ 282 by decide)))).trans ((upC_ne (Nat.ne_of_lt (Nat.lt_of_lt_of_le (Nat.lt_succ_of_le q2) (show 278 ≤ 281 by decide)))).trans ((upC_ne (Nat.ne_of_lt (Nat.lt_of_lt_of_le (Nat.lt_succ_of_le q2) (show 278 ≤ 280 by decide)))).trans ((upC_ne (Nat.ne_of_lt (Nat.lt_of_lt_of_le (Nat.lt_succ_of_le q2) (show 278 ≤ 279 by decide)))).trans ((upC_ne (Nat.ne_of_lt (Nat.lt_of_lt_of_le (Nat.lt_succ_of_le q2) (show 278 ≤ 278 by decide)))).trans rfl))))))))), (hu5.cg ((congrFun (hF 272 (by decide)) 25).trans ((upC_self (by decide)).trans ((congrFun (upC_ne (by decide)) 25).trans ((congrFun (upC_ne (by decide)) 25).trans ((congrFun (upC_ne (by decide)) 25).trans ((congrFun (upC_ne (by decide)) 25).trans ((congrFun (upC_ne (by decide)) 25).trans rfl))))))) ((hF 292 (by decide)).trans ((upC_ne (by decide)).trans ((upC_ne (by decide)).trans ((upC_ne (by decide)).trans ((upC_ne (by decide)).trans ((upC_ne (by decide)).trans ((upC_ne (by decide)).trans rfl)))))))), (hu6.cg ((congrFun (hF 272 (by decide)) 27).trans ((upC_self (by decide)).trans ((congrFun (upC_ne (by decide)) 27).trans ((congrFun (upC_ne (by decide)) 27).trans ((congrFun (upC_ne (by decide)) 27).trans ((congrFun (upC_ne (by decide)) 27).trans ((congrFun (upC_ne (by decide)) 27).trans rfl))))))) ((hF 293 (by decide)).trans ((upC_ne (by decide)).trans ((upC_ne (by decide)).trans ((upC_ne (by decide)).trans ((upC_ne (by decide)).trans ((upC_ne (by decide)).trans ((upC_ne (by decide)).trans rfl)))))))), (hu7.wr (Nat.le_refl _) hU (Nat.le_succ _) ((congrFun (hF 272 (by decide)) 19).trans ((upC_self (by decide)).trans ((congrFun (upC_ne (by decide)) 19).trans ((congrFun (upC_ne (by decide)) 19).trans ((congrFun (upC_ne (by decide)) 19).trans ((congrFun (upC_ne (by decide)) 19).trans ((congrFun (upC_ne (by decide)) 19).trans rfl))))))) (fun c q1 q2 => ((hF c (by simp; omega)).trans ((upC_ne (Nat.ne_of_gt (Nat.lt_of_lt_of_le (show 272 < 288 by decide) q1))).trans ((upC_ne (Nat.ne_of_gt (Nat.lt_of_lt_of_le (show 282 < 288 by decide) q1))).trans ((upC_ne (Nat.ne_of_gt (Nat.lt_of_lt_of_le (show 281 < 288 by decide) q1))).trans ((upC_ne (Nat.ne_of_gt (Nat.lt_of_lt_of_le (show 280 < 288 by decide) q1))).trans ((upC_ne (Nat.ne_of_gt (Nat.lt_of_lt_of_le (show 279 < 288 by decide) q1))).trans ((upC_ne (Nat.ne_of_gt (Nat.lt_of_lt_of_le (show 278 < 288 by decide) q1))).trans rfl))))))))), ((congrFun (hF 272 (by decide)) 24).trans ((upC_self (by decide)).trans ((congrFun (upC_ne (by decide)) 24).trans ((congrFun (upC_ne (by decide)) 24).trans ((congrFun (upC_ne (by decide)) 24).trans ((congrFun (upC_ne (by decide)) 24).trans ((congrFun (upC_ne (by decide)) 24).trans hu8)))))))⟩, (fun c q2 => (hF c (by simp; omega)).trans (((upC_ne (Nat.ne_of_lt (Nat.lt_of_lt_of_le q2 (show 272 ≤ 272 by decide)))).trans ((upC_ne (Nat.ne_of_lt (Nat.lt_of_lt_of_le q2 (show 272 ≤ 282 by decide)))).trans ((upC_ne (Nat.ne_of_lt (Nat.lt_of_lt_of_le q2 (show 272 ≤ 281 by decide)))).trans ((upC_ne (Nat.ne_of_lt (Nat.lt_of_lt_of_le q2 (show 272 ≤ 280 by decide)))).trans ((upC_ne (Nat.ne_of_lt (Nat.lt_of_lt_of_le q2 (show 272 ≤ 279 by decide)))).trans ((upC_ne (Nat.ne_of_lt (Nat.lt_of_lt_of_le q2 (show 272 ≤ 278 by decide)))).trans (hk0 c q2)))))))))⟩))
    · skip
      refine Ev.bipush (n := -4) (by decide) dX8_rule_103 ?_
      exact Ev.ireturn dX8_rule_105 rfl (rE (by unfold MP o_rule; (repeat rw [Int.toNat_natCast]); rw [ifP_f (fun z => z ⟨⟨by omega, by omega⟩, hoks⟩), ifP_f (by omega), ifP_t (by omega)]; exact ⟨rfl, hM1, hk0⟩))
  · skip
    refine Ev.bipush (n := -3) (by decide) dX8_rule_91 ?_
    exact Ev.ireturn dX8_rule_93 rfl (rE (by unfold MP o_rule; (repeat rw [Int.toNat_natCast]); rw [ifP_f (fun z => z ⟨⟨by omega, by omega⟩, hoks⟩), ifP_t (by omega)]; exact ⟨rfl, hM1, hk0⟩))

set_option maxRecDepth 100000 in
set_option maxHeartbeats 4000000 in
theorem r_rule {g : GC} (s : SS) (σ : Sg) (hM : MI s σ) (k : Int) (h_k : inR k) (a : Int) (h_a : inR a) (b : Int) (h_b : inR b) : Ev g mX8_rule 0 [some (vR (272)), some (vI (k)), some (vI (a)), some (vI (b))] [] (M0 (σ)) 0 0 (retE (MP σ (o_rule s k a b))) := by
  refine Ev.aload_n dX8_rule_0 rfl rfl ?_
  refine Ev.iconst dX8_rule_1 ?_
  refine pf_X8_90 rfl dX8_rule_2 ltc_272 shc_272 ?_
  obtain ⟨σ1, hs1⟩ : ∃ ρ : Sg, ρ = upC σ 272 0 0 := ⟨_, rfl⟩
  refine Ev.mem (τ := σ1) hs1.symm ?_
  have hM1 : MI s σ1 := by rw [hs1]; exact hM.th
  have hk0 : ∀ c, c < 272 → σ1 c = σ c := fun c hc => by rw [hs1]; exact upC_ne (by omega)
  obtain ⟨hu1, hu2, hu3, hu4, hu5, hu6, hu7, hu8⟩ := id hM1
  have hU := hu1.1
  have hN := hu2.1
  have hD := hu4.1
  have hMl := hu7.1
  have hQ := hu5.1
  refine Ev.iload_n dX8_rule_5 rfl rfl ?_
  refine Ev.i2l ⟨by omega, by omega⟩ dX8_rule_6 ?_
  refine Ev.lconst 0 rfl dX8_rule_7 ?_
  refine Ev.ldc2 (n := 5) (tbl_i 823 (by decide +kernel)) dX8_rule_8 ?_
  refine Ev.callS_I (M2 := mX8_in) (args2 := [vL (k), vL (0), vL (5)]) dX8_rule_11 okX8_in lk_X8_96 osX8_in.1 osX8_in.2 (by decide) rfl (Nat.le_of_ble_eq_true rfl) (Nat.le_of_ble_eq_true rfl) (sM_in σ1 (k) (0) (5) ⟨by omega, by omega⟩ ⟨by omega, by omega⟩ ⟨by omega, by omega⟩) ?_ rfl
  refine Ev.if_eq (tgt := 81) bI_inR dX8_rule_14 (by decide) (fun h14 => ?_) (fun h14 => ?_)
  · skip
    have q14 := bI_0.mp h14
    refine Ev.bipush (n := -2) (by decide) dX8_rule_81 ?_
    exact Ev.ireturn dX8_rule_83 rfl (rE (by unfold MP o_rule; (repeat rw [Int.toNat_natCast]); rw [ifP_t (by rintro ⟨⟨z1, z2⟩, z3, z4, z5⟩; first | omega | (have := z3 (by omega); omega) | (have := z4 (by omega); omega) | (have := z5 (by omega); omega))]; exact ⟨rfl, hM1, hk0⟩))
  · skip
    have q14 := bI_1.mp h14
    refine Ev.iload_n dX8_rule_17 rfl rfl ?_
    refine Ev.if_ne (tgt := 47) ⟨by omega, by omega⟩ dX8_rule_18 (by decide) (fun h18 => ?_) (fun h18 => ?_)
    · skip
      refine Ev.iload_n dX8_rule_47 rfl rfl ?_
      refine Ev.iconst dX8_rule_48 ?_
      refine Ev.icmp_ne (tgt := 64) ⟨by omega, by omega⟩ ⟨by decide, by decide⟩ dX8_rule_49 (by decide) (fun h49 => ?_) (fun h49 => ?_)
      · skip
        refine Ev.iload_n dX8_rule_64 rfl rfl ?_
        refine Ev.iconst dX8_rule_65 ?_
        refine Ev.icmp_ne (tgt := 84) ⟨by omega, by omega⟩ ⟨by decide, by decide⟩ dX8_rule_66 (by decide) (fun h66 => ?_) (fun h66 => ?_)
        · skip
          refine Ev.wk (pl' := [some (vR (272)), some (vI (k)), some (vI (a)), some (vI (b))]) ⟨rfl, ⟨rfl, ⟨rfl, ⟨rfl, trivial⟩⟩⟩⟩ ?_
          exact r_rule_b s σ σ1 hM1 hk0 k a b h_k h_a h_b ⟨by omega, by omega⟩ (by unfold okSet; omega)
        · skip
          refine Ev.iload_n dX8_rule_69 rfl rfl ?_
          refine Ev.i2l ⟨by omega, by omega⟩ dX8_rule_70 ?_
          refine Ev.lconst 0 rfl dX8_rule_71 ?_
          refine Ev.ldc2 (n := 100) (tbl_i 827 (by decide +kernel)) dX8_rule_72 ?_
          refine Ev.callS_I (M2 := mX8_in) (args2 := [vL (a), vL (0), vL (100)]) dX8_rule_75 okX8_in lk_X8_96 osX8_in.1 osX8_in.2 (by decide) rfl (Nat.le_of_ble_eq_true rfl) (Nat.le_of_ble_eq_true rfl) (sM_in σ1 (a) (0) (100) ⟨by omega, by omega⟩ ⟨by omega, by omega⟩ ⟨by omega, by omega⟩) ?_ rfl
          refine Ev.if_ne (tgt := 84) bI_inR dX8_rule_78 (by decide) (fun h78 => ?_) (fun h78 => ?_)
          · skip
            have q78 := bI_1.mp h78
            refine Ev.wk (pl' := [some (vR (272)), some (vI (k)), some (vI (a)), some (vI (b))]) ⟨rfl, ⟨rfl, ⟨rfl, ⟨rfl, trivial⟩⟩⟩⟩ ?_
            exact r_rule_b s σ σ1 hM1 hk0 k a b h_k h_a h_b ⟨by omega, by omega⟩ (by unfold okSet; omega)
          · skip
            have q78 := bI_0.mp h78
            refine Ev.bipush (n := -2) (by decide) dX8_rule_81 ?_
            exact Ev.ireturn dX8_rule_83 rfl (rE (by unfold MP o_rule; (repeat rw [Int.toNat_natCast]); rw [ifP_t (by rintro ⟨⟨z1, z2⟩, z3, z4, z5⟩; first | omega | (have := z3 (by omega); omega) | (have := z4 (by omega); omega) | (have := z5 (by omega); omega))]; exact ⟨rfl, hM1, hk0⟩))
      · skip
        refine Ev.iload_n dX8_rule_52 rfl rfl ?_
        refine Ev.i2l ⟨by omega, by omega⟩ dX8_rule_53 ?_
        refine Ev.lconst 0 rfl dX8_rule_54 ?_
        refine Ev.ldc2 (n := 5) (tbl_i 823 (by decide +kernel)) dX8_rule_55 ?_
        refine Ev.callS_I (M2 := mX8_in) (args2 := [vL (a), vL (0), vL (5)]) dX8_rule_58 okX8_in lk_X8_96 osX8_in.1 osX8_in.2 (by decide) rfl (Nat.le_of_ble_eq_true rfl) (Nat.le_of_ble_eq_true rfl) (sM_in σ1 (a) (0) (5) ⟨by omega, by omega⟩ ⟨by omega, by omega⟩ ⟨by omega, by omega⟩) ?_ rfl
        refine Ev.if_eq (tgt := 81) bI_inR dX8_rule_61 (by decide) (fun h61 => ?_) (fun h61 => ?_)
        · skip
          have q61 := bI_0.mp h61
          refine Ev.bipush (n := -2) (by decide) dX8_rule_81 ?_
          exact Ev.ireturn dX8_rule_83 rfl (rE (by unfold MP o_rule; (repeat rw [Int.toNat_natCast]); rw [ifP_t (by rintro ⟨⟨z1, z2⟩, z3, z4, z5⟩; first | omega | (have := z3 (by omega); omega) | (have := z4 (by omega); omega) | (have := z5 (by omega); omega))]; exact ⟨rfl, hM1, hk0⟩))
        · skip
          have q61 := bI_1.mp h61
          refine Ev.iload_n dX8_rule_64 rfl rfl ?_
          refine Ev.iconst dX8_rule_65 ?_
          refine Ev.icmp_ne (tgt := 84) ⟨by omega, by omega⟩ ⟨by decide, by decide⟩ dX8_rule_66 (by decide) (fun h66 => ?_) (fun h66 => ?_)
          · skip
            refine Ev.wk (pl' := [some (vR (272)), some (vI (k)), some (vI (a)), some (vI (b))]) ⟨rfl, ⟨rfl, ⟨rfl, ⟨rfl, trivial⟩⟩⟩⟩ ?_
            exact r_rule_b s σ σ1 hM1 hk0 k a b h_k h_a h_b ⟨by omega, by omega⟩ (by unfold okSet; omega)
          · skip
            refine Ev.iload_n dX8_rule_69 rfl rfl ?_
            refine Ev.i2l ⟨by omega, by omega⟩ dX8_rule_70 ?_
            refine Ev.lconst 0 rfl dX8_rule_71 ?_
            refine Ev.ldc2 (n := 100) (tbl_i 827 (by decide +kernel)) dX8_rule_72 ?_
            refine Ev.callS_I (M2 := mX8_in) (args2 := [vL (a), vL (0), vL (100)]) dX8_rule_75 okX8_in lk_X8_96 osX8_in.1 osX8_in.2 (by decide) rfl (Nat.le_of_ble_eq_true rfl) (Nat.le_of_ble_eq_true rfl) (sM_in σ1 (a) (0) (100) ⟨by omega, by omega⟩ ⟨by omega, by omega⟩ ⟨by omega, by omega⟩) ?_ rfl
            refine Ev.if_ne (tgt := 84) bI_inR dX8_rule_78 (by decide) (fun h78 => ?_) (fun h78 => ?_)
            · skip
              have q78 := bI_1.mp h78
              refine Ev.wk (pl' := [some (vR (272)), some (vI (k)), some (vI (a)), some (vI (b))]) ⟨rfl, ⟨rfl, ⟨rfl, ⟨rfl, trivial⟩⟩⟩⟩ ?_
              exact r_rule_b s σ σ1 hM1 hk0 k a b h_k h_a h_b ⟨by omega, by omega⟩ (by unfold okSet; omega)
            · skip
              have q78 := bI_0.mp h78
              refine Ev.bipush (n := -2) (by decide) dX8_rule_81 ?_
              exact Ev.ireturn dX8_rule_83 rfl (rE (by unfold MP o_rule; (repeat rw [Int.toNat_natCast]); rw [ifP_t (by rintro ⟨⟨z1, z2⟩, z3, z4, z5⟩; first | omega | (have := z3 (by omega); omega) | (have := z4 (by omega); omega) | (have := z5 (by omega); omega))]; exact ⟨rfl, hM1, hk0⟩))
    · skip
      refine Ev.iload_n dX8_rule_21 rfl rfl ?_
      refine Ev.i2l ⟨by omega, by omega⟩ dX8_rule_22 ?_
      refine Ev.lconst 0 rfl dX8_rule_23 ?_
      refine Ev.ldc2 (n := 2) (tbl_i 824 (by decide +kernel)) dX8_rule_24 ?_
      refine Ev.callS_I (M2 := mX8_in) (args2 := [vL (a), vL (0), vL (2)]) dX8_rule_27 okX8_in lk_X8_96 osX8_in.1 osX8_in.2 (by decide) rfl (Nat.le_of_ble_eq_true rfl) (Nat.le_of_ble_eq_true rfl) (sM_in σ1 (a) (0) (2) ⟨by omega, by omega⟩ ⟨by omega, by omega⟩ ⟨by omega, by omega⟩) ?_ rfl
      refine Ev.if_eq (tgt := 81) bI_inR dX8_rule_30 (by decide) (fun h30 => ?_) (fun h30 => ?_)
      · skip
        have q30 := bI_0.mp h30
        refine Ev.bipush (n := -2) (by decide) dX8_rule_81 ?_
        exact Ev.ireturn dX8_rule_83 rfl (rE (by unfold MP o_rule; (repeat rw [Int.toNat_natCast]); rw [ifP_t (by rintro ⟨⟨z1, z2⟩, z3, z4, z5⟩; first | omega | (have := z3 (by omega); omega) | (have := z4 (by omega); omega) | (have := z5 (by omega); omega))]; exact ⟨rfl, hM1, hk0⟩))
      · skip
        have q30 := bI_1.mp h30
        refine Ev.iload_n dX8_rule_33 rfl rfl ?_
        refine Ev.i2l ⟨by omega, by omega⟩ dX8_rule_34 ?_
        refine Ev.ldc2 (n := -1000) (tbl_i 825 (by decide +kernel)) dX8_rule_35 ?_
        refine Ev.ldc2 (n := 1000) (tbl_i 826 (by decide +kernel)) dX8_rule_38 ?_
        refine Ev.callS_I (M2 := mX8_in) (args2 := [vL (b), vL (-1000), vL (1000)]) dX8_rule_41 okX8_in lk_X8_96 osX8_in.1 osX8_in.2 (by decide) rfl (Nat.le_of_ble_eq_true rfl) (Nat.le_of_ble_eq_true rfl) (sM_in σ1 (b) (-1000) (1000) ⟨by omega, by omega⟩ ⟨by omega, by omega⟩ ⟨by omega, by omega⟩) ?_ rfl
        refine Ev.if_eq (tgt := 81) bI_inR dX8_rule_44 (by decide) (fun h44 => ?_) (fun h44 => ?_)
        · skip
          have q44 := bI_0.mp h44
          refine Ev.bipush (n := -2) (by decide) dX8_rule_81 ?_
          exact Ev.ireturn dX8_rule_83 rfl (rE (by unfold MP o_rule; (repeat rw [Int.toNat_natCast]); rw [ifP_t (by rintro ⟨⟨z1, z2⟩, z3, z4, z5⟩; first | omega | (have := z3 (by omega); omega) | (have := z4 (by omega); omega) | (have := z5 (by omega); omega))]; exact ⟨rfl, hM1, hk0⟩))
        · skip
          have q44 := bI_1.mp h44
          refine Ev.iload_n dX8_rule_47 rfl rfl ?_
          refine Ev.iconst dX8_rule_48 ?_
          refine Ev.icmp_ne (tgt := 64) ⟨by omega, by omega⟩ ⟨by decide, by decide⟩ dX8_rule_49 (by decide) (fun h49 => ?_) (fun h49 => ?_)
          · skip
            refine Ev.iload_n dX8_rule_64 rfl rfl ?_
            refine Ev.iconst dX8_rule_65 ?_
            refine Ev.icmp_ne (tgt := 84) ⟨by omega, by omega⟩ ⟨by decide, by decide⟩ dX8_rule_66 (by decide) (fun h66 => ?_) (fun h66 => ?_)
            · skip
              refine Ev.wk (pl' := [some (vR (272)), some (vI (k)), some (vI (a)), some (vI (b))]) ⟨rfl, ⟨rfl, ⟨rfl, ⟨rfl, trivial⟩⟩⟩⟩ ?_
              exact r_rule_b s σ σ1 hM1 hk0 k a b h_k h_a h_b ⟨by omega, by omega⟩ (by unfold okSet; omega)
            · skip
              refine Ev.iload_n dX8_rule_69 rfl rfl ?_
              refine Ev.i2l ⟨by omega, by omega⟩ dX8_rule_70 ?_
              refine Ev.lconst 0 rfl dX8_rule_71 ?_
              refine Ev.ldc2 (n := 100) (tbl_i 827 (by decide +kernel)) dX8_rule_72 ?_
              refine Ev.callS_I (M2 := mX8_in) (args2 := [vL (a), vL (0), vL (100)]) dX8_rule_75 okX8_in lk_X8_96 osX8_in.1 osX8_in.2 (by decide) rfl (Nat.le_of_ble_eq_true rfl) (Nat.le_of_ble_eq_true rfl) (sM_in σ1 (a) (0) (100) ⟨by omega, by omega⟩ ⟨by omega, by omega⟩ ⟨by omega, by omega⟩) ?_ rfl
              refine Ev.if_ne (tgt := 84) bI_inR dX8_rule_78 (by decide) (fun h78 => ?_) (fun h78 => ?_)
              · skip
                have q78 := bI_1.mp h78
                refine Ev.wk (pl' := [some (vR (272)), some (vI (k)), some (vI (a)), some (vI (b))]) ⟨rfl, ⟨rfl, ⟨rfl, ⟨rfl, trivial⟩⟩⟩⟩ ?_
                exact r_rule_b s σ σ1 hM1 hk0 k a b h_k h_a h_b ⟨by omega, by omega⟩ (by unfold okSet; omega)
              · skip
                have q78 := bI_0.mp h78
                refine Ev.bipush (n := -2) (by decide) dX8_rule_81 ?_
                exact Ev.ireturn dX8_rule_83 rfl (rE (by unfold MP o_rule; (repeat rw [Int.toNat_natCast]); rw [ifP_t (by rintro ⟨⟨z1, z2⟩, z3, z4, z5⟩; first | omega | (have := z3 (by omega); omega) | (have := z4 (by omega); omega) | (have := z5 (by omega); omega))]; exact ⟨rfl, hM1, hk0⟩))
          · skip
            refine Ev.iload_n dX8_rule_52 rfl rfl ?_
            refine Ev.i2l ⟨by omega, by omega⟩ dX8_rule_53 ?_
            refine Ev.lconst 0 rfl dX8_rule_54 ?_
            refine Ev.ldc2 (n := 5) (tbl_i 823 (by decide +kernel)) dX8_rule_55 ?_
            refine Ev.callS_I (M2 := mX8_in) (args2 := [vL (a), vL (0), vL (5)]) dX8_rule_58 okX8_in lk_X8_96 osX8_in.1 osX8_in.2 (by decide) rfl (Nat.le_of_ble_eq_true rfl) (Nat.le_of_ble_eq_true rfl) (sM_in σ1 (a) (0) (5) ⟨by omega, by omega⟩ ⟨by omega, by omega⟩ ⟨by omega, by omega⟩) ?_ rfl
            refine Ev.if_eq (tgt := 81) bI_inR dX8_rule_61 (by decide) (fun h61 => ?_) (fun h61 => ?_)
            · skip
              have q61 := bI_0.mp h61
              refine Ev.bipush (n := -2) (by decide) dX8_rule_81 ?_
              exact Ev.ireturn dX8_rule_83 rfl (rE (by unfold MP o_rule; (repeat rw [Int.toNat_natCast]); rw [ifP_t (by rintro ⟨⟨z1, z2⟩, z3, z4, z5⟩; first | omega | (have := z3 (by omega); omega) | (have := z4 (by omega); omega) | (have := z5 (by omega); omega))]; exact ⟨rfl, hM1, hk0⟩))
            · skip
              have q61 := bI_1.mp h61
              refine Ev.iload_n dX8_rule_64 rfl rfl ?_
              refine Ev.iconst dX8_rule_65 ?_
              refine Ev.icmp_ne (tgt := 84) ⟨by omega, by omega⟩ ⟨by decide, by decide⟩ dX8_rule_66 (by decide) (fun h66 => ?_) (fun h66 => ?_)
              · skip
                refine Ev.wk (pl' := [some (vR (272)), some (vI (k)), some (vI (a)), some (vI (b))]) ⟨rfl, ⟨rfl, ⟨rfl, ⟨rfl, trivial⟩⟩⟩⟩ ?_
                exact r_rule_b s σ σ1 hM1 hk0 k a b h_k h_a h_b ⟨by omega, by omega⟩ (by unfold okSet; omega)
              · skip
                refine Ev.iload_n dX8_rule_69 rfl rfl ?_
                refine Ev.i2l ⟨by omega, by omega⟩ dX8_rule_70 ?_
                refine Ev.lconst 0 rfl dX8_rule_71 ?_
                refine Ev.ldc2 (n := 100) (tbl_i 827 (by decide +kernel)) dX8_rule_72 ?_
                refine Ev.callS_I (M2 := mX8_in) (args2 := [vL (a), vL (0), vL (100)]) dX8_rule_75 okX8_in lk_X8_96 osX8_in.1 osX8_in.2 (by decide) rfl (Nat.le_of_ble_eq_true rfl) (Nat.le_of_ble_eq_true rfl) (sM_in σ1 (a) (0) (100) ⟨by omega, by omega⟩ ⟨by omega, by omega⟩ ⟨by omega, by omega⟩) ?_ rfl
                refine Ev.if_ne (tgt := 84) bI_inR dX8_rule_78 (by decide) (fun h78 => ?_) (fun h78 => ?_)
                · skip
                  have q78 := bI_1.mp h78
                  refine Ev.wk (pl' := [some (vR (272)), some (vI (k)), some (vI (a)), some (vI (b))]) ⟨rfl, ⟨rfl, ⟨rfl, ⟨rfl, trivial⟩⟩⟩⟩ ?_
                  exact r_rule_b s σ σ1 hM1 hk0 k a b h_k h_a h_b ⟨by omega, by omega⟩ (by unfold okSet; omega)
                · skip
                  have q78 := bI_0.mp h78
                  refine Ev.bipush (n := -2) (by decide) dX8_rule_81 ?_
                  exact Ev.ireturn dX8_rule_83 rfl (rE (by unfold MP o_rule; (repeat rw [Int.toNat_natCast]); rw [ifP_t (by rintro ⟨⟨z1, z2⟩, z3, z4, z5⟩; first | omega | (have := z3 (by omega); omega) | (have := z4 (by omega); omega) | (have := z5 (by omega); omega))]; exact ⟨rfl, hM1, hk0⟩))

set_option maxRecDepth 100000 in
set_option maxHeartbeats 4000000 in
theorem r_part_l {g : GC} (s : SS) (σ σ1 : Sg) (hM1 : MI s σ1) (hk0 : ∀ c, c < 272 → σ1 c = σ c) (kr kx : Nat) (a b : Int) (hkr : kr < sN s) (hkx : kx < sU s) (h5 : rK (sR s kr) ≠ 5) (hok : okPart (rK (sR s kr)) a b) : ∀ j K : Nat, K + j = rN (sR s kr) → Ev g mX8_part 122 [some (vR (272)), some (vI (((kr : Nat) : Int))), some (vI (((kx : Nat) : Int))), some (vI (a)), some (vI (b)), some (vI (bI (0 < sD s ∨ ∃ j, j < K ∧ rO (sR s kr) j = kx))), some (vI (((K : Nat) : Int)))] [] (M0 (σ1)) 0 0 (retE (MP σ (o_part s (kr : Int) (kx : Int) a b))) := by
  intro j
  induction j with
  | zero =>
    intro K hij
    obtain ⟨hu1, hu2, hu3, hu4, hu5, hu6, hu7, hu8⟩ := id hM1
    have hU := hu1.1
    have hN := hu2.1
    have hD := hu4.1
    have hMl := hu7.1
    have hQ := hu5.1
    have hMr := hu2.2.2.2 kr (by omega)
    have hn6 := hMr.2.1.1.2.1
    have hkd5 := hMr.2.1.1.1
    refine Ev.iload dX8_part_122 rfl ?_
    refine Ev.aload_n dX8_part_124 rfl rfl ?_
    refine gf_X8_38 rfl dX8_part_125 ltc_272 shc_272 rfc_272_13 ?_
    refine Ev.iload_n dX8_part_128 rfl rfl ?_
    refine Ev.iaload (v := ((rN (sR s kr) : Nat) : Int)) dX8_part_129 ltc_282 shc_282 (by decide) (by omega) (by omega) (ldx rfl (hu2.2.2.2 kr (by omega)).1.2.2.2.1) ?_
    refine Ev.icmp_ge (tgt := 167) ⟨by omega, by omega⟩ ⟨by omega, by omega⟩ dX8_part_130 (by decide) (fun h130 => ?_) (fun h130 => ?_)
    · skip
      refine Ev.iload dX8_part_167 rfl ?_
      refine Ev.if_eq (tgt := 177) bI_inR dX8_part_169 (by decide) (fun h169 => ?_) (fun h169 => ?_)
      · skip
        have q169 := bI_0.mp h169
        refine Ev.aload_n dX8_part_177 rfl rfl ?_
        refine Ev.iload_n dX8_part_178 rfl rfl ?_
        refine Ev.iload_n dX8_part_179 rfl rfl ?_
        refine Ev.iload_n dX8_part_180 rfl rfl ?_
        refine Ev.iload dX8_part_181 rfl ?_
        refine Ev.callV_G (M2 := mX8_added) (args2 := [vI (((kr : Nat) : Int)), vI (((kx : Nat) : Int)), vI (a), vI (b)]) (rcv := 272) (q := (RX8, TX8, 34)) (ci := 8) dX8_part_183 okX8_added lk_X8_149 ovX8_added.1.1 ovX8_added.1.2 ovX8_added.2 (by decide) rfl rfl ltc_272 shc_272 rfl (Nat.le_of_ble_eq_true rfl) (Nat.le_of_ble_eq_true rfl) (sM_added σ1 (sU s) hU hu1.2.1 (sG s) (fun x hx => (hu1.2.2.1 x hx).1) kr kx (rN (sR s kr)) (by omega) hn6 hMr.1.2.2.2.1 (a) (b)) (fun v_ m_ hp_ => ?_) rfl
        obtain ⟨v, τ, rfl, rfl, hvv⟩ := hp_
        rcases hvv with ⟨hn, rfl, he_⟩ | ⟨hn, rfl, hF, hG⟩
        · skip
          subst τ
          show Ev g mX8_part 186 [some (vR (272)), some (vI (((kr : Nat) : Int))), some (vI (((kx : Nat) : Int))), some (vI (a)), some (vI (b)), some (vI (bI (0 < sD s ∨ ∃ j, j < K ∧ rO (sR s kr) j = kx))), some (vI (((K : Nat) : Int)))] [vI (-4)] (M0 (σ1)) 0 0 _
          exact Ev.ireturn dX8_part_186 rfl (rE (by unfold MP o_part; (repeat rw [Int.toNat_natCast]); rw [ifP_f (fun z => z ⟨⟨by omega, by omega⟩, ⟨by omega, by omega⟩⟩), ifP_f (by show ¬ (rK (sR s kr) = 5); omega), ifP_f (fun z => z hok), ifP_f (fun z => q169 (by rcases z with z | ⟨j, z1, z2⟩; exact Or.inl z; exact Or.inr ⟨j, by omega, z2⟩)), ifP_t (by show 6 ≤ rN (sR s kr); omega)]; exact ⟨rfl, hM1, hk0⟩))
        · skip
          show Ev g mX8_part 186 [some (vR (272)), some (vI (((kr : Nat) : Int))), some (vI (((kx : Nat) : Int))), some (vI (a)), some (vI (b)), some (vI (bI (0 < sD s ∨ ∃ j, j < K ∧ rO (sR s kr) j = kx))), some (vI (((K : Nat) : Int)))] [vI ((((rN (sR s kr) + 1) : Nat) : Int))] (M0 (τ)) 0 0 _
          exact Ev.ireturn dX8_part_186 rfl (rE (by unfold MP o_part; (repeat rw [Int.toNat_natCast]); rw [ifP_f (fun z => z ⟨⟨by omega, by omega⟩, ⟨by omega, by omega⟩⟩), ifP_f (by show ¬ (rK (sR s kr) = 5); omega), ifP_f (fun z => z hok), ifP_f (fun z => q169 (by rcases z with z | ⟨j, z1, z2⟩; exact Or.inl z; exact Or.inr ⟨j, by omega, z2⟩)), ifP_f (by show ¬ 6 ≤ rN (sR s kr); omega)]; exact ⟨(by show _ = ((rN (sR s kr) : Nat) : Int) + 1; omega), ⟨⟨hU, ((congrFun (hF 272 (by decide)) 1).trans ((congrFun (upC_ne (by decide)) 1).trans ((congrFun (upC_ne (by decide)) 1).trans ((congrFun (upC_ne (by decide)) 1).trans ((congrFun (upC_ne (by decide)) 1).trans hu1.2.1))))), (hu1.2.2.1.cg (fun x _ => congrFun ((hF 273 (by decide)).trans ((upC_ne (by decide)).trans ((upC_ne (by decide)).trans ((upC_ne (by decide)).trans ((upC_ne (by decide)).trans rfl))))) x)), (fun x hx => ⟨hG x hx, (hu1.2.2.1 x hx).2⟩)⟩, (u2_add hu2 (show kr < sN s by omega) (hMr.2.1.add (by omega) (by omega) ⟨fun z => ⟨(hok.1 z).1, (hok.1 z).2.1⟩, fun z => hok.2 z, fun z => by omega⟩ (fun _ k hk e => q169 (Or.inr ⟨k, by omega, e⟩))) (show rN (sR s kr) < 6 by omega) ((congrFun (hF 272 (by decide)) 8).trans ((congrFun (upC_ne (by decide)) 8).trans ((congrFun (upC_ne (by decide)) 8).trans ((congrFun (upC_ne (by decide)) 8).trans ((congrFun (upC_ne (by decide)) 8).trans rfl))))) (fun c q1 q2 => ((hF c (by simp; omega)).trans ((upC_ne (Nat.ne_of_lt (Nat.lt_of_lt_of_le (Nat.lt_succ_of_le q2) (show 282 ≤ 282 by decide)))).trans ((upC_ne (Nat.ne_of_lt (Nat.lt_of_lt_of_le (Nat.lt_succ_of_le q2) (show 282 ≤ 285 by decide)))).trans ((upC_ne (Nat.ne_of_lt (Nat.lt_of_lt_of_le (Nat.lt_succ_of_le q2) (show 282 ≤ 284 by decide)))).trans ((upC_ne (Nat.ne_of_lt (Nat.lt_of_lt_of_le (Nat.lt_succ_of_le q2) (show 282 ≤ 283 by decide)))).trans rfl)))))) (fun i => (congrFun (hF 282 (by decide)) i).trans (upC_cong ((congrFun (upC_ne (by decide)) i).trans ((congrFun (upC_ne (by decide)) i).trans ((congrFun (upC_ne (by decide)) i).trans rfl))))) (fun i => (congrFun (hF 283 (by decide)) i).trans ((congrFun (upC_ne (by decide)) i).trans ((congrFun (upC_ne (by decide)) i).trans ((congrFun (upC_ne (by decide)) i).trans (upC_cong rfl))))) (fun i => (congrFun (hF 284 (by decide)) i).trans ((congrFun (upC_ne (by decide)) i).trans ((congrFun (upC_ne (by decide)) i).trans (upC_cong ((congrFun (upC_ne (by decide)) i).trans rfl))))) (fun i => (congrFun (hF 285 (by decide)) i).trans ((congrFun (upC_ne (by decide)) i).trans (upC_cong ((congrFun (upC_ne (by decide)) i).trans ((congrFun (upC_ne (by decide)) i).trans rfl)))))), (hu3.cg (fun c i q1 q2 => congrFun ((hF c (by simp; omega)).trans ((upC_ne (Nat.ne_of_gt (Nat.lt_of_lt_of_le (show 282 < 286 by decide) q1))).trans ((upC_ne (Nat.ne_of_gt (Nat.lt_of_lt_of_le (show 285 < 286 by decide) q1))).trans ((upC_ne (Nat.ne_of_gt (Nat.lt_of_lt_of_le (show 284 < 286 by decide) q1))).trans ((upC_ne (Nat.ne_of_gt (Nat.lt_of_lt_of_le (show 283 < 286 by decide) q1))).trans rfl))))) i)), (hu4.cg ((congrFun (hF 272 (by decide)) 4).trans ((congrFun (upC_ne (by decide)) 4).trans ((congrFun (upC_ne (by decide)) 4).trans ((congrFun (upC_ne (by decide)) 4).trans ((congrFun (upC_ne (by decide)) 4).trans rfl))))) (fun c q1 q2 => ((hF c (by simp; omega)).trans ((upC_ne (Nat.ne_of_lt (Nat.lt_of_lt_of_le (Nat.lt_succ_of_le q2) (show 278 ≤ 282 by decide)))).trans ((upC_ne (Nat.ne_of_lt (Nat.lt_of_lt_of_le (Nat.lt_succ_of_le q2) (show 278 ≤ 285 by decide)))).trans ((upC_ne (Nat.ne_of_lt (Nat.lt_of_lt_of_le (Nat.lt_succ_of_le q2) (show 278 ≤ 284 by decide)))).trans ((upC_ne (Nat.ne_of_lt (Nat.lt_of_lt_of_le (Nat.lt_succ_of_le q2) (show 278 ≤ 283 by decide)))).trans rfl))))))), (hu5.cg ((congrFun (hF 272 (by decide)) 25).trans ((congrFun (upC_ne (by decide)) 25).trans ((congrFun (upC_ne (by decide)) 25).trans ((congrFun (upC_ne (by decide)) 25).trans ((congrFun (upC_ne (by decide)) 25).trans rfl))))) ((hF 292 (by decide)).trans ((upC_ne (by decide)).trans ((upC_ne (by decide)).trans ((upC_ne (by decide)).trans ((upC_ne (by decide)).trans rfl)))))), (hu6.cg ((congrFun (hF 272 (by decide)) 27).trans ((congrFun (upC_ne (by decide)) 27).trans ((congrFun (upC_ne (by decide)) 27).trans ((congrFun (upC_ne (by decide)) 27).trans ((congrFun (upC_ne (by decide)) 27).trans rfl))))) ((hF 293 (by decide)).trans ((upC_ne (by decide)).trans ((upC_ne (by decide)).trans ((upC_ne (by decide)).trans ((upC_ne (by decide)).trans rfl)))))), (hu7.cg ((congrFun (hF 272 (by decide)) 19).trans ((congrFun (upC_ne (by decide)) 19).trans ((congrFun (upC_ne (by decide)) 19).trans ((congrFun (upC_ne (by decide)) 19).trans ((congrFun (upC_ne (by decide)) 19).trans rfl))))) (fun c q1 q2 => ((hF c (by simp; omega)).trans ((upC_ne (Nat.ne_of_gt (Nat.lt_of_lt_of_le (show 282 < 288 by decide) q1))).trans ((upC_ne (Nat.ne_of_gt (Nat.lt_of_lt_of_le (show 285 < 288 by decide) q1))).trans ((upC_ne (Nat.ne_of_gt (Nat.lt_of_lt_of_le (show 284 < 288 by decide) q1))).trans ((upC_ne (Nat.ne_of_gt (Nat.lt_of_lt_of_le (show 283 < 288 by decide) q1))).trans rfl))))))), ((congrFun (hF 272 (by decide)) 24).trans ((congrFun (upC_ne (by decide)) 24).trans ((congrFun (upC_ne (by decide)) 24).trans ((congrFun (upC_ne (by decide)) 24).trans ((congrFun (upC_ne (by decide)) 24).trans hu8)))))⟩, (fun c q2 => (hF c (by simp; omega)).trans (((upC_ne (Nat.ne_of_lt (Nat.lt_of_lt_of_le q2 (show 272 ≤ 282 by decide)))).trans ((upC_ne (Nat.ne_of_lt (Nat.lt_of_lt_of_le q2 (show 272 ≤ 285 by decide)))).trans ((upC_ne (Nat.ne_of_lt (Nat.lt_of_lt_of_le q2 (show 272 ≤ 284 by decide)))).trans ((upC_ne (Nat.ne_of_lt (Nat.lt_of_lt_of_le q2 (show 272 ≤ 283 by decide)))).trans (hk0 c q2)))))))⟩))
      · skip
        have q169 := bI_1.mp h169
        refine Ev.bipush (n := -3) (by decide) dX8_part_172 ?_
        refine Ev.goto (tgt := 186) dX8_part_174 (by decide) ?_
        exact Ev.ireturn dX8_part_186 rfl (rE (by unfold MP o_part; (repeat rw [Int.toNat_natCast]); rw [ifP_f (fun z => z ⟨⟨by omega, by omega⟩, ⟨by omega, by omega⟩⟩), ifP_f (by show ¬ (rK (sR s kr) = 5); omega), ifP_f (fun z => z hok), ifP_t (by rcases q169 with z | ⟨j, z1, z2⟩; exact Or.inl z; exact Or.inr ⟨j, by omega, z2⟩)]; exact ⟨rfl, hM1, hk0⟩))
    · exact absurd h130 (by omega)
  | succ j ih =>
    intro K hij
    obtain ⟨hu1, hu2, hu3, hu4, hu5, hu6, hu7, hu8⟩ := id hM1
    have hU := hu1.1
    have hN := hu2.1
    have hD := hu4.1
    have hMl := hu7.1
    have hQ := hu5.1
    have hMr := hu2.2.2.2 kr (by omega)
    have hn6 := hMr.2.1.1.2.1
    have hkd5 := hMr.2.1.1.1
    have hox := hMr.2.1.2.1 K (by omega)
    refine Ev.iload dX8_part_122 rfl ?_
    refine Ev.aload_n dX8_part_124 rfl rfl ?_
    refine gf_X8_38 rfl dX8_part_125 ltc_272 shc_272 rfc_272_13 ?_
    refine Ev.iload_n dX8_part_128 rfl rfl ?_
    refine Ev.iaload (v := ((rN (sR s kr) : Nat) : Int)) dX8_part_129 ltc_282 shc_282 (by decide) (by omega) (by omega) (ldx rfl (hu2.2.2.2 kr (by omega)).1.2.2.2.1) ?_
    refine Ev.icmp_ge (tgt := 167) ⟨by omega, by omega⟩ ⟨by omega, by omega⟩ dX8_part_130 (by decide) (fun h130 => ?_) (fun h130 => ?_)
    · exact absurd h130 (by omega)
    · skip
      refine Ev.iload dX8_part_133 rfl ?_
      refine Ev.if_ne (tgt := 154) bI_inR dX8_part_135 (by decide) (fun h135 => ?_) (fun h135 => ?_)
      · skip
        have q135 := bI_1.mp h135
        refine Ev.iconst dX8_part_154 ?_
        refine Ev.goto (tgt := 159) dX8_part_155 (by decide) ?_
        refine Ev.istore (pl' := [some (vR (272)), some (vI (((kr : Nat) : Int))), some (vI (((kx : Nat) : Int))), some (vI (a)), some (vI (b)), some (vI (1)), some (vI (((K : Nat) : Int)))]) dX8_part_159 (Nat.le_of_ble_eq_true rfl) rfl ?_
        refine Ev.iinc (pl' := [some (vR (272)), some (vI (((kr : Nat) : Int))), some (vI (((kx : Nat) : Int))), some (vI (a)), some (vI (b)), some (vI (1)), some (vI (((K : Nat) : Int) + 1))]) dX8_part_161 rfl (Nat.le_of_ble_eq_true rfl) rfl ?_
        refine Ev.goto (tgt := 122) dX8_part_164 (by decide) ?_
        refine Ev.wk (pl' := [some (vR (272)), some (vI (((kr : Nat) : Int))), some (vI (((kx : Nat) : Int))), some (vI (a)), some (vI (b)), some (vI (bI (0 < sD s ∨ ∃ j, j < (K + 1) ∧ rO (sR s kr) j = kx))), some (vI ((((K + 1) : Nat) : Int)))]) ⟨rfl, ⟨rfl, ⟨rfl, ⟨rfl, ⟨rfl, ⟨vIe (by first | exact bI_t (by first | (rcases q135 with z | ⟨j, z1, z2⟩; exact Or.inl z; exact Or.inr ⟨j, by omega, z2⟩) | exact Or.inr ⟨K, by omega, by omega⟩) | exact bI_f (fun z => q135 (by rcases z with z | ⟨j, z1, z2⟩; exact Or.inl z; exact Or.inr ⟨j, by (have : j ≠ K := fun e => by rw [e] at z2; omega); omega, z2⟩))), ⟨vIe (by omega), trivial⟩⟩⟩⟩⟩⟩⟩ ?_
        exact ih (K + 1) (by omega)
      · skip
        have q135 := bI_0.mp h135
        refine Ev.aload_n dX8_part_138 rfl rfl ?_
        refine gf_X8_41 rfl dX8_part_139 ltc_272 shc_272 rfc_272_14 ?_
        refine Ev.bipush (n := 6) (by decide) dX8_part_142 ?_
        refine Ev.iload_n dX8_part_144 rfl rfl ?_
        refine Ev.imul dX8_part_145 ?_
        refine Ev.iload dX8_part_146 rfl ?_
        refine Ev.iadd dX8_part_148 ?_
        refine Ev.iaload (v := ((rO (sR s kr) K : Nat) : Int)) dX8_part_149 ltc_283 shc_283 (by decide) (by omega) (by omega) (ldx (n := 6 * kr + K) (by omega) (hMr.1.2.2.2.2 K (by omega)).1) ?_
        refine Ev.iload_n dX8_part_150 rfl rfl ?_
        refine Ev.icmp_ne (tgt := 158) ⟨by omega, by omega⟩ ⟨by omega, by omega⟩ dX8_part_151 (by decide) (fun h151 => ?_) (fun h151 => ?_)
        · skip
          refine Ev.iconst dX8_part_158 ?_
          refine Ev.istore (pl' := [some (vR (272)), some (vI (((kr : Nat) : Int))), some (vI (((kx : Nat) : Int))), some (vI (a)), some (vI (b)), some (vI (0)), some (vI (((K : Nat) : Int)))]) dX8_part_159 (Nat.le_of_ble_eq_true rfl) rfl ?_
          refine Ev.iinc (pl' := [some (vR (272)), some (vI (((kr : Nat) : Int))), some (vI (((kx : Nat) : Int))), some (vI (a)), some (vI (b)), some (vI (0)), some (vI (((K : Nat) : Int) + 1))]) dX8_part_161 rfl (Nat.le_of_ble_eq_true rfl) rfl ?_
          refine Ev.goto (tgt := 122) dX8_part_164 (by decide) ?_
          refine Ev.wk (pl' := [some (vR (272)), some (vI (((kr : Nat) : Int))), some (vI (((kx : Nat) : Int))), some (vI (a)), some (vI (b)), some (vI (bI (0 < sD s ∨ ∃ j, j < (K + 1) ∧ rO (sR s kr) j = kx))), some (vI ((((K + 1) : Nat) : Int)))]) ⟨rfl, ⟨rfl, ⟨rfl, ⟨rfl, ⟨rfl, ⟨vIe (by first | exact bI_t (by first | (rcases q135 with z | ⟨j, z1, z2⟩; exact Or.inl z; exact Or.inr ⟨j, by omega, z2⟩) | exact Or.inr ⟨K, by omega, by omega⟩) | exact bI_f (fun z => q135 (by rcases z with z | ⟨j, z1, z2⟩; exact Or.inl z; exact Or.inr ⟨j, by (have : j ≠ K := fun e => by rw [e] at z2; omega); omega, z2⟩))), ⟨vIe (by omega), trivial⟩⟩⟩⟩⟩⟩⟩ ?_
          exact ih (K + 1) (by omega)
        · skip
          refine Ev.iconst dX8_part_154 ?_
          refine Ev.goto (tgt := 159) dX8_part_155 (by decide) ?_
          refine Ev.istore (pl' := [some (vR (272)), some (vI (((kr : Nat) : Int))), some (vI (((kx : Nat) : Int))), some (vI (a)), some (vI (b)), some (vI (1)), some (vI (((K : Nat) : Int)))]) dX8_part_159 (Nat.le_of_ble_eq_true rfl) rfl ?_
          refine Ev.iinc (pl' := [some (vR (272)), some (vI (((kr : Nat) : Int))), some (vI (((kx : Nat) : Int))), some (vI (a)), some (vI (b)), some (vI (1)), some (vI (((K : Nat) : Int) + 1))]) dX8_part_161 rfl (Nat.le_of_ble_eq_true rfl) rfl ?_
          refine Ev.goto (tgt := 122) dX8_part_164 (by decide) ?_
          refine Ev.wk (pl' := [some (vR (272)), some (vI (((kr : Nat) : Int))), some (vI (((kx : Nat) : Int))), some (vI (a)), some (vI (b)), some (vI (bI (0 < sD s ∨ ∃ j, j < (K + 1) ∧ rO (sR s kr) j = kx))), some (vI ((((K + 1) : Nat) : Int)))]) ⟨rfl, ⟨rfl, ⟨rfl, ⟨rfl, ⟨rfl, ⟨vIe (by first | exact bI_t (by first | (rcases q135 with z | ⟨j, z1, z2⟩; exact Or.inl z; exact Or.inr ⟨j, by omega, z2⟩) | exact Or.inr ⟨K, by omega, by omega⟩) | exact bI_f (fun z => q135 (by rcases z with z | ⟨j, z1, z2⟩; exact Or.inl z; exact Or.inr ⟨j, by (have : j ≠ K := fun e => by rw [e] at z2; omega); omega, z2⟩))), ⟨vIe (by omega), trivial⟩⟩⟩⟩⟩⟩⟩ ?_
          exact ih (K + 1) (by omega)

set_option maxRecDepth 100000 in
set_option maxHeartbeats 4000000 in
theorem r_part {g : GC} (s : SS) (σ : Sg) (hM : MI s σ) (r : Int) (h_r : inR r) (x : Int) (h_x : inR x) (a : Int) (h_a : inR a) (b : Int) (h_b : inR b) : Ev g mX8_part 0 [some (vR (272)), some (vI (r)), some (vI (x)), some (vI (a)), some (vI (b)), none, none] [] (M0 (σ)) 0 0 (retE (MP σ (o_part s r x a b))) := by
  refine Ev.aload_n dX8_part_0 rfl rfl ?_
  refine Ev.iconst dX8_part_1 ?_
  refine pf_X8_90 rfl dX8_part_2 ltc_272 shc_272 ?_
  obtain ⟨σ1, hs1⟩ : ∃ ρ : Sg, ρ = upC σ 272 0 0 := ⟨_, rfl⟩
  refine Ev.mem (τ := σ1) hs1.symm ?_
  have hM1 : MI s σ1 := by rw [hs1]; exact hM.th
  have hk0 : ∀ c, c < 272 → σ1 c = σ c := fun c hc => by rw [hs1]; exact upC_ne (by omega)
  obtain ⟨hu1, hu2, hu3, hu4, hu5, hu6, hu7, hu8⟩ := id hM1
  have hU := hu1.1
  have hN := hu2.1
  have hD := hu4.1
  have hMl := hu7.1
  have hQ := hu5.1
  refine Ev.aload_n dX8_part_5 rfl rfl ?_
  refine Ev.iload_n dX8_part_6 rfl rfl ?_
  refine Ev.callV_I (M2 := mX8_noRule) (args2 := [vI (r)]) (rcv := 272) (q := (RX8, TX8, 34)) (ci := 8) dX8_part_7 okX8_noRule lk_X8_137 ovX8_noRule.1.1 ovX8_noRule.1.2 ovX8_noRule.2 (by decide) rfl rfl ltc_272 shc_272 rfl (Nat.le_of_ble_eq_true rfl) (Nat.le_of_ble_eq_true rfl) (sM_noRule σ1 (sN s) hN hu2.2.1 (r) ⟨by omega, by omega⟩) ?_ rfl
  refine Ev.if_ne (tgt := 21) bI_inR dX8_part_10 (by decide) (fun h10 => ?_) (fun h10 => ?_)
  · skip
    have q10 := bI_1.mp h10
    refine Ev.iconst dX8_part_21 ?_
    exact Ev.ireturn dX8_part_22 rfl (rE (by unfold MP o_part; (repeat rw [Int.toNat_natCast]); rw [ifP_t (by first | exact fun z => absurd z.1 (by omega) | exact fun z => absurd z.2 (by omega))]; exact ⟨rfl, hM1, hk0⟩))
  · skip
    have q10 := bI_0.mp h10
    refine Ev.aload_n dX8_part_13 rfl rfl ?_
    refine Ev.iload_n dX8_part_14 rfl rfl ?_
    refine Ev.callV_I (M2 := mX8_noUnknown) (args2 := [vI (x)]) (rcv := 272) (q := (RX8, TX8, 34)) (ci := 8) dX8_part_15 okX8_noUnknown lk_X8_119 ovX8_noUnknown.1.1 ovX8_noUnknown.1.2 ovX8_noUnknown.2 (by decide) rfl rfl ltc_272 shc_272 rfl (Nat.le_of_ble_eq_true rfl) (Nat.le_of_ble_eq_true rfl) (sM_noUnknown σ1 (sU s) hU hu1.2.1 (x) ⟨by omega, by omega⟩) ?_ rfl
    refine Ev.if_eq (tgt := 23) bI_inR dX8_part_18 (by decide) (fun h18 => ?_) (fun h18 => ?_)
    · skip
      have q18 := bI_0.mp h18
      obtain ⟨kr, rfl⟩ : ∃ n_ : Nat, r = (n_ : Int) := ⟨r.toNat, by omega⟩
      obtain ⟨kx, rfl⟩ : ∃ n_ : Nat, x = (n_ : Int) := ⟨x.toNat, by omega⟩
      have hMr := hu2.2.2.2 kr (by omega)
      have hn6 := hMr.2.1.1.2.1
      have hkd5 := hMr.2.1.1.1
      refine Ev.aload_n dX8_part_23 rfl rfl ?_
      refine gf_X8_25 rfl dX8_part_24 ltc_272 shc_272 rfc_272_9 ?_
      refine Ev.iload_n dX8_part_27 rfl rfl ?_
      refine Ev.iaload (v := ((rK (sR s kr) : Nat) : Int)) dX8_part_28 ltc_278 shc_278 (by decide) (by omega) (by omega) (ldx rfl (hu2.2.2.2 kr (by omega)).1.1) ?_
      refine Ev.iconst dX8_part_29 ?_
      refine Ev.icmp_ne (tgt := 40) ⟨by omega, by omega⟩ ⟨by decide, by decide⟩ dX8_part_30 (by decide) (fun h30 => ?_) (fun h30 => ?_)
      · skip
        refine Ev.aload_n dX8_part_40 rfl rfl ?_
        refine gf_X8_25 rfl dX8_part_41 ltc_272 shc_272 rfc_272_9 ?_
        refine Ev.iload_n dX8_part_44 rfl rfl ?_
        refine Ev.iaload (v := ((rK (sR s kr) : Nat) : Int)) dX8_part_45 ltc_278 shc_278 (by decide) (by omega) (by omega) (ldx rfl (hu2.2.2.2 kr (by omega)).1.1) ?_
        refine Ev.if_ne (tgt := 67) ⟨by omega, by omega⟩ dX8_part_46 (by decide) (fun h46 => ?_) (fun h46 => ?_)
        · skip
          refine Ev.aload_n dX8_part_67 rfl rfl ?_
          refine gf_X8_25 rfl dX8_part_68 ltc_272 shc_272 rfc_272_9 ?_
          refine Ev.iload_n dX8_part_71 rfl rfl ?_
          refine Ev.iaload (v := ((rK (sR s kr) : Nat) : Int)) dX8_part_72 ltc_278 shc_278 (by decide) (by omega) (by omega) (ldx rfl (hu2.2.2.2 kr (by omega)).1.1) ?_
          refine Ev.iconst dX8_part_73 ?_
          refine Ev.icmp_ne (tgt := 105) ⟨by omega, by omega⟩ ⟨by decide, by decide⟩ dX8_part_74 (by decide) (fun h74 => ?_) (fun h74 => ?_)
          · skip
            have hok : okPart (rK (sR s kr)) a b := by unfold okPart; omega
            refine Ev.aload_n dX8_part_105 rfl rfl ?_
            refine gf_X8_109 (x := ((sD s : Nat) : Int)) rfl dX8_part_106 ltc_272 shc_272 hu4.2.1 ?_
            refine Ev.if_le (tgt := 116) ⟨by omega, by omega⟩ dX8_part_109 (by decide) (fun h109 => ?_) (fun h109 => ?_)
            · skip
              refine Ev.iconst dX8_part_116 ?_
              refine Ev.istore (pl' := [some (vR (272)), some (vI (((kr : Nat) : Int))), some (vI (((kx : Nat) : Int))), some (vI (a)), some (vI (b)), some (vI (0)), none]) dX8_part_117 (Nat.le_of_ble_eq_true rfl) rfl ?_
              refine Ev.iconst dX8_part_119 ?_
              refine Ev.istore (pl' := [some (vR (272)), some (vI (((kr : Nat) : Int))), some (vI (((kx : Nat) : Int))), some (vI (a)), some (vI (b)), some (vI (0)), some (vI (0))]) dX8_part_120 (Nat.le_of_ble_eq_true rfl) rfl ?_
              refine Ev.wk (pl' := [some (vR (272)), some (vI (((kr : Nat) : Int))), some (vI (((kx : Nat) : Int))), some (vI (a)), some (vI (b)), some (vI (bI (0 < sD s ∨ ∃ j, j < 0 ∧ rO (sR s kr) j = kx))), some (vI (((0 : Nat) : Int)))]) ⟨rfl, ⟨rfl, ⟨rfl, ⟨rfl, ⟨rfl, ⟨vIe (by first | exact bI_t (Or.inl (by omega)) | exact bI_f (by rintro (z | ⟨j, z, _⟩); omega; omega)), ⟨vIe rfl, trivial⟩⟩⟩⟩⟩⟩⟩ ?_
              exact r_part_l s σ σ1 hM1 hk0 kr kx a b (by omega) (by omega) (by omega) hok (rN (sR s kr)) 0 (by omega)
            · skip
              refine Ev.iconst dX8_part_112 ?_
              refine Ev.goto (tgt := 117) dX8_part_113 (by decide) ?_
              refine Ev.istore (pl' := [some (vR (272)), some (vI (((kr : Nat) : Int))), some (vI (((kx : Nat) : Int))), some (vI (a)), some (vI (b)), some (vI (1)), none]) dX8_part_117 (Nat.le_of_ble_eq_true rfl) rfl ?_
              refine Ev.iconst dX8_part_119 ?_
              refine Ev.istore (pl' := [some (vR (272)), some (vI (((kr : Nat) : Int))), some (vI (((kx : Nat) : Int))), some (vI (a)), some (vI (b)), some (vI (1)), some (vI (0))]) dX8_part_120 (Nat.le_of_ble_eq_true rfl) rfl ?_
              refine Ev.wk (pl' := [some (vR (272)), some (vI (((kr : Nat) : Int))), some (vI (((kx : Nat) : Int))), some (vI (a)), some (vI (b)), some (vI (bI (0 < sD s ∨ ∃ j, j < 0 ∧ rO (sR s kr) j = kx))), some (vI (((0 : Nat) : Int)))]) ⟨rfl, ⟨rfl, ⟨rfl, ⟨rfl, ⟨rfl, ⟨vIe (by first | exact bI_t (Or.inl (by omega)) | exact bI_f (by rintro (z | ⟨j, z, _⟩); omega; omega)), ⟨vIe rfl, trivial⟩⟩⟩⟩⟩⟩⟩ ?_
              exact r_part_l s σ σ1 hM1 hk0 kr kx a b (by omega) (by omega) (by omega) hok (rN (sR s kr)) 0 (by omega)
          · skip
            refine Ev.iload_n dX8_part_77 rfl rfl ?_
            refine Ev.i2l ⟨by omega, by omega⟩ dX8_part_78 ?_
            refine Ev.lconst 0 rfl dX8_part_79 ?_
            refine Ev.ldc2 (n := 15) (tbl_i 796 (by decide +kernel)) dX8_part_80 ?_
            refine Ev.callS_I (M2 := mX8_in) (args2 := [vL (a), vL (0), vL (15)]) dX8_part_83 okX8_in lk_X8_96 osX8_in.1 osX8_in.2 (by decide) rfl (Nat.le_of_ble_eq_true rfl) (Nat.le_of_ble_eq_true rfl) (sM_in σ1 (a) (0) (15) ⟨by omega, by omega⟩ ⟨by omega, by omega⟩ ⟨by omega, by omega⟩) ?_ rfl
            refine Ev.if_eq (tgt := 102) bI_inR dX8_part_86 (by decide) (fun h86 => ?_) (fun h86 => ?_)
            · skip
              have q86 := bI_0.mp h86
              refine Ev.bipush (n := -2) (by decide) dX8_part_102 ?_
              exact Ev.ireturn dX8_part_104 rfl (rE (by unfold MP o_part; (repeat rw [Int.toNat_natCast]); rw [ifP_f (fun z => z ⟨⟨by omega, by omega⟩, ⟨by omega, by omega⟩⟩), ifP_f (by show ¬ (rK (sR s kr) = 5); omega), ifP_t (by rintro ⟨z1, z2⟩; first | (have := z1 (by omega); omega) | (have := z2 (by omega); omega))]; exact ⟨rfl, hM1, hk0⟩))
            · skip
              have q86 := bI_1.mp h86
              refine Ev.iload dX8_part_89 rfl ?_
              refine Ev.i2l ⟨by omega, by omega⟩ dX8_part_91 ?_
              refine Ev.lconst 0 rfl dX8_part_92 ?_
              refine Ev.ldc2 (n := 20) (tbl_i 842 (by decide +kernel)) dX8_part_93 ?_
              refine Ev.callS_I (M2 := mX8_in) (args2 := [vL (b), vL (0), vL (20)]) dX8_part_96 okX8_in lk_X8_96 osX8_in.1 osX8_in.2 (by decide) rfl (Nat.le_of_ble_eq_true rfl) (Nat.le_of_ble_eq_true rfl) (sM_in σ1 (b) (0) (20) ⟨by omega, by omega⟩ ⟨by omega, by omega⟩ ⟨by omega, by omega⟩) ?_ rfl
              refine Ev.if_ne (tgt := 105) bI_inR dX8_part_99 (by decide) (fun h99 => ?_) (fun h99 => ?_)
              · skip
                have q99 := bI_1.mp h99
                have hok : okPart (rK (sR s kr)) a b := by unfold okPart; omega
                refine Ev.aload_n dX8_part_105 rfl rfl ?_
                refine gf_X8_109 (x := ((sD s : Nat) : Int)) rfl dX8_part_106 ltc_272 shc_272 hu4.2.1 ?_
                refine Ev.if_le (tgt := 116) ⟨by omega, by omega⟩ dX8_part_109 (by decide) (fun h109 => ?_) (fun h109 => ?_)
                · skip
                  refine Ev.iconst dX8_part_116 ?_
                  refine Ev.istore (pl' := [some (vR (272)), some (vI (((kr : Nat) : Int))), some (vI (((kx : Nat) : Int))), some (vI (a)), some (vI (b)), some (vI (0)), none]) dX8_part_117 (Nat.le_of_ble_eq_true rfl) rfl ?_
                  refine Ev.iconst dX8_part_119 ?_
                  refine Ev.istore (pl' := [some (vR (272)), some (vI (((kr : Nat) : Int))), some (vI (((kx : Nat) : Int))), some (vI (a)), some (vI (b)), some (vI (0)), some (vI (0))]) dX8_part_120 (Nat.le_of_ble_eq_true rfl) rfl ?_
                  refine Ev.wk (pl' := [some (vR (272)), some (vI (((kr : Nat) : Int))), some (vI (((kx : Nat) : Int))), some (vI (a)), some (vI (b)), some (vI (bI (0 < sD s ∨ ∃ j, j < 0 ∧ rO (sR s kr) j = kx))), some (vI (((0 : Nat) : Int)))]) ⟨rfl, ⟨rfl, ⟨rfl, ⟨rfl, ⟨rfl, ⟨vIe (by first | exact bI_t (Or.inl (by omega)) | exact bI_f (by rintro (z | ⟨j, z, _⟩); omega; omega)), ⟨vIe rfl, trivial⟩⟩⟩⟩⟩⟩⟩ ?_
                  exact r_part_l s σ σ1 hM1 hk0 kr kx a b (by omega) (by omega) (by omega) hok (rN (sR s kr)) 0 (by omega)
                · skip
                  refine Ev.iconst dX8_part_112 ?_
                  refine Ev.goto (tgt := 117) dX8_part_113 (by decide) ?_
                  refine Ev.istore (pl' := [some (vR (272)), some (vI (((kr : Nat) : Int))), some (vI (((kx : Nat) : Int))), some (vI (a)), some (vI (b)), some (vI (1)), none]) dX8_part_117 (Nat.le_of_ble_eq_true rfl) rfl ?_
                  refine Ev.iconst dX8_part_119 ?_
                  refine Ev.istore (pl' := [some (vR (272)), some (vI (((kr : Nat) : Int))), some (vI (((kx : Nat) : Int))), some (vI (a)), some (vI (b)), some (vI (1)), some (vI (0))]) dX8_part_120 (Nat.le_of_ble_eq_true rfl) rfl ?_
                  refine Ev.wk (pl' := [some (vR (272)), some (vI (((kr : Nat) : Int))), some (vI (((kx : Nat) : Int))), some (vI (a)), some (vI (b)), some (vI (bI (0 < sD s ∨ ∃ j, j < 0 ∧ rO (sR s kr) j = kx))), some (vI (((0 : Nat) : Int)))]) ⟨rfl, ⟨rfl, ⟨rfl, ⟨rfl, ⟨rfl, ⟨vIe (by first | exact bI_t (Or.inl (by omega)) | exact bI_f (by rintro (z | ⟨j, z, _⟩); omega; omega)), ⟨vIe rfl, trivial⟩⟩⟩⟩⟩⟩⟩ ?_
                  exact r_part_l s σ σ1 hM1 hk0 kr kx a b (by omega) (by omega) (by omega) hok (rN (sR s kr)) 0 (by omega)
              · skip
                have q99 := bI_0.mp h99
                refine Ev.bipush (n := -2) (by decide) dX8_part_102 ?_
                exact Ev.ireturn dX8_part_104 rfl (rE (by unfold MP o_part; (repeat rw [Int.toNat_natCast]); rw [ifP_f (fun z => z ⟨⟨by omega, by omega⟩, ⟨by omega, by omega⟩⟩), ifP_f (by show ¬ (rK (sR s kr) = 5); omega), ifP_t (by rintro ⟨z1, z2⟩; first | (have := z1 (by omega); omega) | (have := z2 (by omega); omega))]; exact ⟨rfl, hM1, hk0⟩))
        · skip
          refine Ev.iload_n dX8_part_49 rfl rfl ?_
          refine Ev.i2l ⟨by omega, by omega⟩ dX8_part_50 ?_
          refine Ev.ldc2 (n := -9) (tbl_i 840 (by decide +kernel)) dX8_part_51 ?_
          refine Ev.ldc2 (n := 9) (tbl_i 841 (by decide +kernel)) dX8_part_54 ?_
          refine Ev.callS_I (M2 := mX8_in) (args2 := [vL (a), vL (-9), vL (9)]) dX8_part_57 okX8_in lk_X8_96 osX8_in.1 osX8_in.2 (by decide) rfl (Nat.le_of_ble_eq_true rfl) (Nat.le_of_ble_eq_true rfl) (sM_in σ1 (a) (-9) (9) ⟨by omega, by omega⟩ ⟨by omega, by omega⟩ ⟨by omega, by omega⟩) ?_ rfl
          refine Ev.if_eq (tgt := 102) bI_inR dX8_part_60 (by decide) (fun h60 => ?_) (fun h60 => ?_)
          · skip
            have q60 := bI_0.mp h60
            refine Ev.bipush (n := -2) (by decide) dX8_part_102 ?_
            exact Ev.ireturn dX8_part_104 rfl (rE (by unfold MP o_part; (repeat rw [Int.toNat_natCast]); rw [ifP_f (fun z => z ⟨⟨by omega, by omega⟩, ⟨by omega, by omega⟩⟩), ifP_f (by show ¬ (rK (sR s kr) = 5); omega), ifP_t (by rintro ⟨z1, z2⟩; first | (have := z1 (by omega); omega) | (have := z2 (by omega); omega))]; exact ⟨rfl, hM1, hk0⟩))
          · skip
            have q60 := bI_1.mp h60
            refine Ev.iload_n dX8_part_63 rfl rfl ?_
            refine Ev.if_eq (tgt := 102) ⟨by omega, by omega⟩ dX8_part_64 (by decide) (fun h64 => ?_) (fun h64 => ?_)
            · skip
              refine Ev.bipush (n := -2) (by decide) dX8_part_102 ?_
              exact Ev.ireturn dX8_part_104 rfl (rE (by unfold MP o_part; (repeat rw [Int.toNat_natCast]); rw [ifP_f (fun z => z ⟨⟨by omega, by omega⟩, ⟨by omega, by omega⟩⟩), ifP_f (by show ¬ (rK (sR s kr) = 5); omega), ifP_t (by rintro ⟨z1, z2⟩; first | (have := z1 (by omega); omega) | (have := z2 (by omega); omega))]; exact ⟨rfl, hM1, hk0⟩))
            · skip
              refine Ev.aload_n dX8_part_67 rfl rfl ?_
              refine gf_X8_25 rfl dX8_part_68 ltc_272 shc_272 rfc_272_9 ?_
              refine Ev.iload_n dX8_part_71 rfl rfl ?_
              refine Ev.iaload (v := ((rK (sR s kr) : Nat) : Int)) dX8_part_72 ltc_278 shc_278 (by decide) (by omega) (by omega) (ldx rfl (hu2.2.2.2 kr (by omega)).1.1) ?_
              refine Ev.iconst dX8_part_73 ?_
              refine Ev.icmp_ne (tgt := 105) ⟨by omega, by omega⟩ ⟨by decide, by decide⟩ dX8_part_74 (by decide) (fun h74 => ?_) (fun h74 => ?_)
              · skip
                have hok : okPart (rK (sR s kr)) a b := by unfold okPart; omega
                refine Ev.aload_n dX8_part_105 rfl rfl ?_
                refine gf_X8_109 (x := ((sD s : Nat) : Int)) rfl dX8_part_106 ltc_272 shc_272 hu4.2.1 ?_
                refine Ev.if_le (tgt := 116) ⟨by omega, by omega⟩ dX8_part_109 (by decide) (fun h109 => ?_) (fun h109 => ?_)
                · skip
                  refine Ev.iconst dX8_part_116 ?_
                  refine Ev.istore (pl' := [some (vR (272)), some (vI (((kr : Nat) : Int))), some (vI (((kx : Nat) : Int))), some (vI (a)), some (vI (b)), some (vI (0)), none]) dX8_part_117 (Nat.le_of_ble_eq_true rfl) rfl ?_
                  refine Ev.iconst dX8_part_119 ?_
                  refine Ev.istore (pl' := [some (vR (272)), some (vI (((kr : Nat) : Int))), some (vI (((kx : Nat) : Int))), some (vI (a)), some (vI (b)), some (vI (0)), some (vI (0))]) dX8_part_120 (Nat.le_of_ble_eq_true rfl) rfl ?_
                  refine Ev.wk (pl' := [some (vR (272)), some (vI (((kr : Nat) : Int))), some (vI (((kx : Nat) : Int))), some (vI (a)), some (vI (b)), some (vI (bI (0 < sD s ∨ ∃ j, j < 0 ∧ rO (sR s kr) j = kx))), some (vI (((0 : Nat) : Int)))]) ⟨rfl, ⟨rfl, ⟨rfl, ⟨rfl, ⟨rfl, ⟨vIe (by first | exact bI_t (Or.inl (by omega)) | exact bI_f (by rintro (z | ⟨j, z, _⟩); omega; omega)), ⟨vIe rfl, trivial⟩⟩⟩⟩⟩⟩⟩ ?_
                  exact r_part_l s σ σ1 hM1 hk0 kr kx a b (by omega) (by omega) (by omega) hok (rN (sR s kr)) 0 (by omega)
                · skip
                  refine Ev.iconst dX8_part_112 ?_
                  refine Ev.goto (tgt := 117) dX8_part_113 (by decide) ?_
                  refine Ev.istore (pl' := [some (vR (272)), some (vI (((kr : Nat) : Int))), some (vI (((kx : Nat) : Int))), some (vI (a)), some (vI (b)), some (vI (1)), none]) dX8_part_117 (Nat.le_of_ble_eq_true rfl) rfl ?_
                  refine Ev.iconst dX8_part_119 ?_
                  refine Ev.istore (pl' := [some (vR (272)), some (vI (((kr : Nat) : Int))), some (vI (((kx : Nat) : Int))), some (vI (a)), some (vI (b)), some (vI (1)), some (vI (0))]) dX8_part_120 (Nat.le_of_ble_eq_true rfl) rfl ?_
                  refine Ev.wk (pl' := [some (vR (272)), some (vI (((kr : Nat) : Int))), some (vI (((kx : Nat) : Int))), some (vI (a)), some (vI (b)), some (vI (bI (0 < sD s ∨ ∃ j, j < 0 ∧ rO (sR s kr) j = kx))), some (vI (((0 : Nat) : Int)))]) ⟨rfl, ⟨rfl, ⟨rfl, ⟨rfl, ⟨rfl, ⟨vIe (by first | exact bI_t (Or.inl (by omega)) | exact bI_f (by rintro (z | ⟨j, z, _⟩); omega; omega)), ⟨vIe rfl, trivial⟩⟩⟩⟩⟩⟩⟩ ?_
                  exact r_part_l s σ σ1 hM1 hk0 kr kx a b (by omega) (by omega) (by omega) hok (rN (sR s kr)) 0 (by omega)
              · skip
                refine Ev.iload_n dX8_part_77 rfl rfl ?_
                refine Ev.i2l ⟨by omega, by omega⟩ dX8_part_78 ?_
                refine Ev.lconst 0 rfl dX8_part_79 ?_
                refine Ev.ldc2 (n := 15) (tbl_i 796 (by decide +kernel)) dX8_part_80 ?_
                refine Ev.callS_I (M2 := mX8_in) (args2 := [vL (a), vL (0), vL (15)]) dX8_part_83 okX8_in lk_X8_96 osX8_in.1 osX8_in.2 (by decide) rfl (Nat.le_of_ble_eq_true rfl) (Nat.le_of_ble_eq_true rfl) (sM_in σ1 (a) (0) (15) ⟨by omega, by omega⟩ ⟨by omega, by omega⟩ ⟨by omega, by omega⟩) ?_ rfl
                refine Ev.if_eq (tgt := 102) bI_inR dX8_part_86 (by decide) (fun h86 => ?_) (fun h86 => ?_)
                · skip
                  have q86 := bI_0.mp h86
                  refine Ev.bipush (n := -2) (by decide) dX8_part_102 ?_
                  exact Ev.ireturn dX8_part_104 rfl (rE (by unfold MP o_part; (repeat rw [Int.toNat_natCast]); rw [ifP_f (fun z => z ⟨⟨by omega, by omega⟩, ⟨by omega, by omega⟩⟩), ifP_f (by show ¬ (rK (sR s kr) = 5); omega), ifP_t (by rintro ⟨z1, z2⟩; first | (have := z1 (by omega); omega) | (have := z2 (by omega); omega))]; exact ⟨rfl, hM1, hk0⟩))
                · skip
                  have q86 := bI_1.mp h86
                  refine Ev.iload dX8_part_89 rfl ?_
                  refine Ev.i2l ⟨by omega, by omega⟩ dX8_part_91 ?_
                  refine Ev.lconst 0 rfl dX8_part_92 ?_
                  refine Ev.ldc2 (n := 20) (tbl_i 842 (by decide +kernel)) dX8_part_93 ?_
                  refine Ev.callS_I (M2 := mX8_in) (args2 := [vL (b), vL (0), vL (20)]) dX8_part_96 okX8_in lk_X8_96 osX8_in.1 osX8_in.2 (by decide) rfl (Nat.le_of_ble_eq_true rfl) (Nat.le_of_ble_eq_true rfl) (sM_in σ1 (b) (0) (20) ⟨by omega, by omega⟩ ⟨by omega, by omega⟩ ⟨by omega, by omega⟩) ?_ rfl
                  refine Ev.if_ne (tgt := 105) bI_inR dX8_part_99 (by decide) (fun h99 => ?_) (fun h99 => ?_)
                  · skip
                    have q99 := bI_1.mp h99
                    have hok : okPart (rK (sR s kr)) a b := by unfold okPart; omega
                    refine Ev.aload_n dX8_part_105 rfl rfl ?_
                    refine gf_X8_109 (x := ((sD s : Nat) : Int)) rfl dX8_part_106 ltc_272 shc_272 hu4.2.1 ?_
                    refine Ev.if_le (tgt := 116) ⟨by omega, by omega⟩ dX8_part_109 (by decide) (fun h109 => ?_) (fun h109 => ?_)
                    · skip
                      refine Ev.iconst dX8_part_116 ?_
                      refine Ev.istore (pl' := [some (vR (272)), some (vI (((kr : Nat) : Int))), some (vI (((kx : Nat) : Int))), some (vI (a)), some (vI (b)), some (vI (0)), none]) dX8_part_117 (Nat.le_of_ble_eq_true rfl) rfl ?_
                      refine Ev.iconst dX8_part_119 ?_
                      refine Ev.istore (pl' := [some (vR (272)), some (vI (((kr : Nat) : Int))), some (vI (((kx : Nat) : Int))), some (vI (a)), some (vI (b)), some (vI (0)), some (vI (0))]) dX8_part_120 (Nat.le_of_ble_eq_true rfl) rfl ?_
                      refine Ev.wk (pl' := [some (vR (272)), some (vI (((kr : Nat) : Int))), some (vI (((kx : Nat) : Int))), some (vI (a)), some (vI (b)), some (vI (bI (0 < sD s ∨ ∃ j, j < 0 ∧ rO (sR s kr) j = kx))), some (vI (((0 : Nat) : Int)))]) ⟨rfl, ⟨rfl, ⟨rfl, ⟨rfl, ⟨rfl, ⟨vIe (by first | exact bI_t (Or.inl (by omega)) | exact bI_f (by rintro (z | ⟨j, z, _⟩); omega; omega)), ⟨vIe rfl, trivial⟩⟩⟩⟩⟩⟩⟩ ?_
                      exact r_part_l s σ σ1 hM1 hk0 kr kx a b (by omega) (by omega) (by omega) hok (rN (sR s kr)) 0 (by omega)
                    · skip
                      refine Ev.iconst dX8_part_112 ?_
                      refine Ev.goto (tgt := 117) dX8_part_113 (by decide) ?_
                      refine Ev.istore (pl' := [some (vR (272)), some (vI (((kr : Nat) : Int))), some (vI (((kx : Nat) : Int))), some (vI (a)), some (vI (b)), some (vI (1)), none]) dX8_part_117 (Nat.le_of_ble_eq_true rfl) rfl ?_
                      refine Ev.iconst dX8_part_119 ?_
                      refine Ev.istore (pl' := [some (vR (272)), some (vI (((kr : Nat) : Int))), some (vI (((kx : Nat) : Int))), some (vI (a)), some (vI (b)), some (vI (1)), some (vI (0))]) dX8_part_120 (Nat.le_of_ble_eq_true rfl) rfl ?_
                      refine Ev.wk (pl' := [some (vR (272)), some (vI (((kr : Nat) : Int))), some (vI (((kx : Nat) : Int))), some (vI (a)), some (vI (b)), some (vI (bI (0 < sD s ∨ ∃ j, j < 0 ∧ rO (sR s kr) j = kx))), some (vI (((0 : Nat) : Int)))]) ⟨rfl, ⟨rfl, ⟨rfl, ⟨rfl, ⟨rfl, ⟨vIe (by first | exact bI_t (Or.inl (by omega)) | exact bI_f (by rintro (z | ⟨j, z, _⟩); omega; omega)), ⟨vIe rfl, trivial⟩⟩⟩⟩⟩⟩⟩ ?_
                      exact r_part_l s σ σ1 hM1 hk0 kr kx a b (by omega) (by omega) (by omega) hok (rN (sR s kr)) 0 (by omega)
                  · skip
                    have q99 := bI_0.mp h99
                    refine Ev.bipush (n := -2) (by decide) dX8_part_102 ?_
                    exact Ev.ireturn dX8_part_104 rfl (rE (by unfold MP o_part; (repeat rw [Int.toNat_natCast]); rw [ifP_f (fun z => z ⟨⟨by omega, by omega⟩, ⟨by omega, by omega⟩⟩), ifP_f (by show ¬ (rK (sR s kr) = 5); omega), ifP_t (by rintro ⟨z1, z2⟩; first | (have := z1 (by omega); omega) | (have := z2 (by omega); omega))]; exact ⟨rfl, hM1, hk0⟩))
      · skip
        refine Ev.aload_n dX8_part_33 rfl rfl ?_
        refine Ev.bipush (n := -13) (by decide) dX8_part_34 ?_
        refine Ev.callV_I (M2 := mX8_finds) (args2 := [vI (-13)]) (rcv := 272) (q := (RX8, TX8, 34)) (ci := 8) dX8_part_36 okX8_finds lk_X8_140 ovX8_finds.1.1 ovX8_finds.1.2 ovX8_finds.2 (by decide) rfl rfl ltc_272 shc_272 rfl (Nat.le_of_ble_eq_true rfl) (Nat.le_of_ble_eq_true rfl) (sM_finds σ1 (-13) (sF s) hu8) ?_ rfl
        exact Ev.ireturn dX8_part_39 rfl (rE (by unfold MP o_part; (repeat rw [Int.toNat_natCast]); rw [ifP_f (fun z => z ⟨⟨by omega, by omega⟩, ⟨by omega, by omega⟩⟩), ifP_t (by show rK (sR s kr) = 5; omega)]; exact ⟨rfl, hM1.found, (fun c hc => (upC_ne (by omega)).trans (hk0 c hc))⟩))
    · skip
      have q18 := bI_1.mp h18
      refine Ev.iconst dX8_part_21 ?_
      exact Ev.ireturn dX8_part_22 rfl (rE (by unfold MP o_part; (repeat rw [Int.toNat_natCast]); rw [ifP_t (by first | exact fun z => absurd z.1 (by omega) | exact fun z => absurd z.2 (by omega))]; exact ⟨rfl, hM1, hk0⟩))

set_option maxRecDepth 100000 in
set_option maxHeartbeats 4000000 in
theorem r_literal {g : GC} (s : SS) (σ : Sg) (hM : MI s σ) (r : Int) (h_r : inR r) (x : Int) (h_x : inR x) (k : Int) (h_k : inR k) (v : Int) (h_v : inR v) : Ev g mX8_literal 0 [some (vR (272)), some (vI (r)), some (vI (x)), some (vI (k)), some (vI (v))] [] (M0 (σ)) 0 0 (retE (MP σ (o_literal s r x k v))) := by
  refine Ev.aload_n dX8_literal_0 rfl rfl ?_
  refine Ev.iconst dX8_literal_1 ?_
  refine pf_X8_90 rfl dX8_literal_2 ltc_272 shc_272 ?_
  obtain ⟨σ1, hs1⟩ : ∃ ρ : Sg, ρ = upC σ 272 0 0 := ⟨_, rfl⟩
  refine Ev.mem (τ := σ1) hs1.symm ?_
  have hM1 : MI s σ1 := by rw [hs1]; exact hM.th
  have hk0 : ∀ c, c < 272 → σ1 c = σ c := fun c hc => by rw [hs1]; exact upC_ne (by omega)
  obtain ⟨hu1, hu2, hu3, hu4, hu5, hu6, hu7, hu8⟩ := id hM1
  have hU := hu1.1
  have hN := hu2.1
  have hD := hu4.1
  have hMl := hu7.1
  have hQ := hu5.1
  refine Ev.aload_n dX8_literal_5 rfl rfl ?_
  refine Ev.iload_n dX8_literal_6 rfl rfl ?_
  refine Ev.callV_I (M2 := mX8_noRule) (args2 := [vI (r)]) (rcv := 272) (q := (RX8, TX8, 34)) (ci := 8) dX8_literal_7 okX8_noRule lk_X8_137 ovX8_noRule.1.1 ovX8_noRule.1.2 ovX8_noRule.2 (by decide) rfl rfl ltc_272 shc_272 rfl (Nat.le_of_ble_eq_true rfl) (Nat.le_of_ble_eq_true rfl) (sM_noRule σ1 (sN s) hN hu2.2.1 (r) ⟨by omega, by omega⟩) ?_ rfl
  refine Ev.if_ne (tgt := 21) bI_inR dX8_literal_10 (by decide) (fun h10 => ?_) (fun h10 => ?_)
  · skip
    have q10 := bI_1.mp h10
    refine Ev.iconst dX8_literal_21 ?_
    exact Ev.ireturn dX8_literal_22 rfl (rE (by unfold MP o_literal; (repeat rw [Int.toNat_natCast]); rw [ifP_t (by first | exact fun z => absurd z.1 (by omega) | exact fun z => absurd z.2 (by omega))]; exact ⟨rfl, hM1, hk0⟩))
  · skip
    have q10 := bI_0.mp h10
    refine Ev.aload_n dX8_literal_13 rfl rfl ?_
    refine Ev.iload_n dX8_literal_14 rfl rfl ?_
    refine Ev.callV_I (M2 := mX8_noUnknown) (args2 := [vI (x)]) (rcv := 272) (q := (RX8, TX8, 34)) (ci := 8) dX8_literal_15 okX8_noUnknown lk_X8_119 ovX8_noUnknown.1.1 ovX8_noUnknown.1.2 ovX8_noUnknown.2 (by decide) rfl rfl ltc_272 shc_272 rfl (Nat.le_of_ble_eq_true rfl) (Nat.le_of_ble_eq_true rfl) (sM_noUnknown σ1 (sU s) hU hu1.2.1 (x) ⟨by omega, by omega⟩) ?_ rfl
    refine Ev.if_eq (tgt := 23) bI_inR dX8_literal_18 (by decide) (fun h18 => ?_) (fun h18 => ?_)
    · skip
      have q18 := bI_0.mp h18
      obtain ⟨kr, rfl⟩ : ∃ n_ : Nat, r = (n_ : Int) := ⟨r.toNat, by omega⟩
      obtain ⟨kx, rfl⟩ : ∃ n_ : Nat, x = (n_ : Int) := ⟨x.toNat, by omega⟩
      have hMr := hu2.2.2.2 kr (by omega)
      have hn6 := hMr.2.1.1.2.1
      have hkd5 := hMr.2.1.1.1
      refine Ev.aload_n dX8_literal_23 rfl rfl ?_
      refine gf_X8_25 rfl dX8_literal_24 ltc_272 shc_272 rfc_272_9 ?_
      refine Ev.iload_n dX8_literal_27 rfl rfl ?_
      refine Ev.iaload (v := ((rK (sR s kr) : Nat) : Int)) dX8_literal_28 ltc_278 shc_278 (by decide) (by omega) (by omega) (ldx rfl (hu2.2.2.2 kr (by omega)).1.1) ?_
      refine Ev.iconst dX8_literal_29 ?_
      refine Ev.icmp_eq (tgt := 40) ⟨by omega, by omega⟩ ⟨by decide, by decide⟩ dX8_literal_30 (by decide) (fun h30 => ?_) (fun h30 => ?_)
      · skip
        refine Ev.iload_n dX8_literal_40 rfl rfl ?_
        refine Ev.i2l ⟨by omega, by omega⟩ dX8_literal_41 ?_
        refine Ev.lconst 0 rfl dX8_literal_42 ?_
        refine Ev.ldc2 (n := 3) (tbl_i 851 (by decide +kernel)) dX8_literal_43 ?_
        refine Ev.callS_I (M2 := mX8_in) (args2 := [vL (k), vL (0), vL (3)]) dX8_literal_46 okX8_in lk_X8_96 osX8_in.1 osX8_in.2 (by decide) rfl (Nat.le_of_ble_eq_true rfl) (Nat.le_of_ble_eq_true rfl) (sM_in σ1 (k) (0) (3) ⟨by omega, by omega⟩ ⟨by omega, by omega⟩ ⟨by omega, by omega⟩) ?_ rfl
        refine Ev.if_eq (tgt := 65) bI_inR dX8_literal_49 (by decide) (fun h49 => ?_) (fun h49 => ?_)
        · skip
          have q49 := bI_0.mp h49
          refine Ev.bipush (n := -2) (by decide) dX8_literal_65 ?_
          exact Ev.ireturn dX8_literal_67 rfl (rE (by unfold MP o_literal; (repeat rw [Int.toNat_natCast]); rw [ifP_f (fun z => z ⟨⟨by omega, by omega⟩, ⟨by omega, by omega⟩⟩), ifP_f (by show ¬ (rK (sR s kr) ≠ 5); omega), ifP_t (by first | exact fun z => absurd z.1 (by omega) | exact fun z => absurd z.2 (by omega))]; exact ⟨rfl, hM1, hk0⟩))
        · skip
          have q49 := bI_1.mp h49
          refine Ev.iload dX8_literal_52 rfl ?_
          refine Ev.i2l ⟨by omega, by omega⟩ dX8_literal_54 ?_
          refine Ev.lconst 0 rfl dX8_literal_55 ?_
          refine Ev.ldc2 (n := 15) (tbl_i 796 (by decide +kernel)) dX8_literal_56 ?_
          refine Ev.callS_I (M2 := mX8_in) (args2 := [vL (v), vL (0), vL (15)]) dX8_literal_59 okX8_in lk_X8_96 osX8_in.1 osX8_in.2 (by decide) rfl (Nat.le_of_ble_eq_true rfl) (Nat.le_of_ble_eq_true rfl) (sM_in σ1 (v) (0) (15) ⟨by omega, by omega⟩ ⟨by omega, by omega⟩ ⟨by omega, by omega⟩) ?_ rfl
          refine Ev.if_ne (tgt := 68) bI_inR dX8_literal_62 (by decide) (fun h62 => ?_) (fun h62 => ?_)
          · skip
            have q62 := bI_1.mp h62
            obtain ⟨kv, rfl⟩ : ∃ n_ : Nat, v = (n_ : Int) := ⟨v.toNat, by omega⟩
            refine Ev.aload_n dX8_literal_68 rfl rfl ?_
            refine gf_X8_109 (x := ((sD s : Nat) : Int)) rfl dX8_literal_69 ltc_272 shc_272 hu4.2.1 ?_
            refine Ev.if_le (tgt := 80) ⟨by omega, by omega⟩ dX8_literal_72 (by decide) (fun h72 => ?_) (fun h72 => ?_)
            · skip
              refine Ev.aload_n dX8_literal_80 rfl rfl ?_
              refine Ev.iload_n dX8_literal_81 rfl rfl ?_
              refine Ev.iload_n dX8_literal_82 rfl rfl ?_
              refine Ev.iload_n dX8_literal_83 rfl rfl ?_
              refine Ev.iload dX8_literal_84 rfl ?_
              refine Ev.callS_I (M2 := mX8_bits) (args2 := [vI (k), vI (((kv : Nat) : Int))]) dX8_literal_86 okX8_bits lk_X8_112 osX8_bits.1 osX8_bits.2 (by decide) rfl (Nat.le_of_ble_eq_true rfl) (Nat.le_of_ble_eq_true rfl) (sM_bits σ1 (k) kv (by omega) (by omega)) ?_ rfl
              refine Ev.iconst dX8_literal_89 ?_
              refine Ev.callV_G (M2 := mX8_added) (args2 := [vI (((kr : Nat) : Int)), vI (((kx : Nat) : Int)), vI (((nS (k) kv : Nat) : Int)), vI (0)]) (rcv := 272) (q := (RX8, TX8, 34)) (ci := 8) dX8_literal_90 okX8_added lk_X8_149 ovX8_added.1.1 ovX8_added.1.2 ovX8_added.2 (by decide) rfl rfl ltc_272 shc_272 rfl (Nat.le_of_ble_eq_true rfl) (Nat.le_of_ble_eq_true rfl) (sM_added σ1 (sU s) hU hu1.2.1 (sG s) (fun x hx => (hu1.2.2.1 x hx).1) kr kx (rN (sR s kr)) (by omega) hn6 hMr.1.2.2.2.1 ((nS k kv : Int)) (0)) (fun v_ m_ hp_ => ?_) rfl
              obtain ⟨v, τ, rfl, rfl, hvv⟩ := hp_
              rcases hvv with ⟨hn, rfl, he_⟩ | ⟨hn, rfl, hF, hG⟩
              · skip
                subst τ
                show Ev g mX8_literal 93 [some (vR (272)), some (vI (((kr : Nat) : Int))), some (vI (((kx : Nat) : Int))), some (vI (k)), some (vI (((kv : Nat) : Int)))] [vI (-4)] (M0 (σ1)) 0 0 _
                exact Ev.ireturn dX8_literal_93 rfl (rE (by unfold MP o_literal; (repeat rw [Int.toNat_natCast]); rw [ifP_f (fun z => z ⟨⟨by omega, by omega⟩, ⟨by omega, by omega⟩⟩), ifP_f (by show ¬ (rK (sR s kr) ≠ 5); omega), ifP_f (fun z => z ⟨⟨by omega, by omega⟩, ⟨by omega, by omega⟩⟩), ifP_f (by omega), ifP_t (by show 6 ≤ rN (sR s kr); omega)]; exact ⟨rfl, hM1, hk0⟩))
              · skip
                show Ev g mX8_literal 93 [some (vR (272)), some (vI (((kr : Nat) : Int))), some (vI (((kx : Nat) : Int))), some (vI (k)), some (vI (((kv : Nat) : Int)))] [vI ((((rN (sR s kr) + 1) : Nat) : Int))] (M0 (τ)) 0 0 _
                exact Ev.ireturn dX8_literal_93 rfl (rE (by unfold MP o_literal; (repeat rw [Int.toNat_natCast]); rw [ifP_f (fun z => z ⟨⟨by omega, by omega⟩, ⟨by omega, by omega⟩⟩), ifP_f (by show ¬ (rK (sR s kr) ≠ 5); omega), ifP_f (fun z => z ⟨⟨by omega, by omega⟩, ⟨by omega, by omega⟩⟩), ifP_f (by omega), ifP_f (by show ¬ 6 ≤ rN (sR s kr); omega)]; exact ⟨(by show _ = ((rN (sR s kr) : Nat) : Int) + 1; omega), ⟨⟨hU, ((congrFun (hF 272 (by decide)) 1).trans ((congrFun (upC_ne (by decide)) 1).trans ((congrFun (upC_ne (by decide)) 1).trans ((congrFun (upC_ne (by decide)) 1).trans ((congrFun (upC_ne (by decide)) 1).trans hu1.2.1))))), (hu1.2.2.1.cg (fun x _ => congrFun ((hF 273 (by decide)).trans ((upC_ne (by decide)).trans ((upC_ne (by decide)).trans ((upC_ne (by decide)).trans ((upC_ne (by decide)).trans rfl))))) x)), (fun x hx => ⟨hG x hx, (hu1.2.2.1 x hx).2⟩)⟩, (u2_add hu2 (show kr < sN s by omega) (hMr.2.1.add (by omega) (by omega) ⟨fun z => by omega, fun z => by omega, fun z => ⟨by omega, by have := nS_lt (k := k) (show kv < 16 by omega); omega⟩⟩ (fun z => by omega)) (show rN (sR s kr) < 6 by omega) ((congrFun (hF 272 (by decide)) 8).trans ((congrFun (upC_ne (by decide)) 8).trans ((congrFun (upC_ne (by decide)) 8).trans ((congrFun (upC_ne (by decide)) 8).trans ((congrFun (upC_ne (by decide)) 8).trans rfl))))) (fun c q1 q2 => ((hF c (by simp; omega)).trans ((upC_ne (Nat.ne_of_lt (Nat.lt_of_lt_of_le (Nat.lt_succ_of_le q2) (show 282 ≤ 282 by decide)))).trans ((upC_ne (Nat.ne_of_lt (Nat.lt_of_lt_of_le (Nat.lt_succ_of_le q2) (show 282 ≤ 285 by decide)))).trans ((upC_ne (Nat.ne_of_lt (Nat.lt_of_lt_of_le (Nat.lt_succ_of_le q2) (show 282 ≤ 284 by decide)))).trans ((upC_ne (Nat.ne_of_lt (Nat.lt_of_lt_of_le (Nat.lt_succ_of_le q2) (show 282 ≤ 283 by decide)))).trans rfl)))))) (fun i => (congrFun (hF 282 (by decide)) i).trans (upC_cong ((congrFun (upC_ne (by decide)) i).trans ((congrFun (upC_ne (by decide)) i).trans ((congrFun (upC_ne (by decide)) i).trans rfl))))) (fun i => (congrFun (hF 283 (by decide)) i).trans ((congrFun (upC_ne (by decide)) i).trans ((congrFun (upC_ne (by decide)) i).trans ((congrFun (upC_ne (by decide)) i).trans (upC_cong rfl))))) (fun i => (congrFun (hF 284 (by decide)) i).trans ((congrFun (upC_ne (by decide)) i).trans ((congrFun (upC_ne (by decide)) i).trans (upC_cong ((congrFun (upC_ne (by decide)) i).trans rfl))))) (fun i => (congrFun (hF 285 (by decide)) i).trans ((congrFun (upC_ne (by decide)) i).trans (upC_cong ((congrFun (upC_ne (by decide)) i).trans ((congrFun (upC_ne (by decide)) i).trans rfl)))))), (hu3.cg (fun c i q1 q2 => congrFun ((hF c (by simp; omega)).trans ((upC_ne (Nat.ne_of_gt (Nat.lt_of_lt_of_le (show 282 < 286 by decide) q1))).trans ((upC_ne (Nat.ne_of_gt (Nat.lt_of_lt_of_le (show 285 < 286 by decide) q1))).trans ((upC_ne (Nat.ne_of_gt (Nat.lt_of_lt_of_le (show 284 < 286 by decide) q1))).trans ((upC_ne (Nat.ne_of_gt (Nat.lt_of_lt_of_le (show 283 < 286 by decide) q1))).trans rfl))))) i)), (hu4.cg ((congrFun (hF 272 (by decide)) 4).trans ((congrFun (upC_ne (by decide)) 4).trans ((congrFun (upC_ne (by decide)) 4).trans ((congrFun (upC_ne (by decide)) 4).trans ((congrFun (upC_ne (by decide)) 4).trans rfl))))) (fun c q1 q2 => ((hF c (by simp; omega)).trans ((upC_ne (Nat.ne_of_lt (Nat.lt_of_lt_of_le (Nat.lt_succ_of_le q2) (show 278 ≤ 282 by decide)))).trans ((upC_ne (Nat.ne_of_lt (Nat.lt_of_lt_of_le (Nat.lt_succ_of_le q2) (show 278 ≤ 285 by decide)))).trans ((upC_ne (Nat.ne_of_lt (Nat.lt_of_lt_of_le (Nat.lt_succ_of_le q2) (show 278 ≤ 284 by decide)))).trans ((upC_ne (Nat.ne_of_lt (Nat.lt_of_lt_of_le (Nat.lt_succ_of_le q2) (show 278 ≤ 283 by decide)))).trans rfl))))))), (hu5.cg ((congrFun (hF 272 (by decide)) 25).trans ((congrFun (upC_ne (by decide)) 25).trans ((congrFun (upC_ne (by decide)) 25).trans ((congrFun (upC_ne (by decide)) 25).trans ((congrFun (upC_ne (by decide)) 25).trans rfl))))) ((hF 292 (by decide)).trans ((upC_ne (by decide)).trans ((upC_ne (by decide)).trans ((upC_ne (by decide)).trans ((upC_ne (by decide)).trans rfl)))))), (hu6.cg ((congrFun (hF 272 (by decide)) 27).trans ((congrFun (upC_ne (by decide)) 27).trans ((congrFun (upC_ne (by decide)) 27).trans ((congrFun (upC_ne (by decide)) 27).trans ((congrFun (upC_ne (by decide)) 27).trans rfl))))) ((hF 293 (by decide)).trans ((upC_ne (by decide)).trans ((upC_ne (by decide)).trans ((upC_ne (by decide)).trans ((upC_ne (by decide)).trans rfl)))))), (hu7.cg ((congrFun (hF 272 (by decide)) 19).trans ((congrFun (upC_ne (by decide)) 19).trans ((congrFun (upC_ne (by decide)) 19).trans ((congrFun (upC_ne (by decide)) 19).trans ((congrFun (upC_ne (by decide)) 19).trans rfl))))) (fun c q1 q2 => ((hF c (by simp; omega)).trans ((upC_ne (Nat.ne_of_gt (Nat.lt_of_lt_of_le (show 282 < 288 by decide) q1))).trans ((upC_ne (Nat.ne_of_gt (Nat.lt_of_lt_of_le (show 285 < 288 by decide) q1))).trans ((upC_ne (Nat.ne_of_gt (Nat.lt_of_lt_of_le (show 284 < 288 by decide) q1))).trans ((upC_ne (Nat.ne_of_gt (Nat.lt_of_lt_of_le (show 283 < 288 by decide) q1))).trans rfl))))))), ((congrFun (hF 272 (by decide)) 24).trans ((congrFun (upC_ne (by decide)) 24).trans ((congrFun (upC_ne (by decide)) 24).trans ((congrFun (upC_ne (by decide)) 24).trans ((congrFun (upC_ne (by decide)) 24).trans hu8)))))⟩, (fun c q2 => (hF c (by simp; omega)).trans (((upC_ne (Nat.ne_of_lt (Nat.lt_of_lt_of_le q2 (show 272 ≤ 282 by decide)))).trans ((upC_ne (Nat.ne_of_lt (Nat.lt_of_lt_of_le q2 (show 272 ≤ 285 by decide)))).trans ((upC_ne (Nat.ne_of_lt (Nat.lt_of_lt_of_le q2 (show 272 ≤ 284 by decide)))).trans ((upC_ne (Nat.ne_of_lt (Nat.lt_of_lt_of_le q2 (show 272 ≤ 283 by decide)))).trans (hk0 c q2)))))))⟩))
            · skip
              refine Ev.bipush (n := -3) (by decide) dX8_literal_75 ?_
              refine Ev.goto (tgt := 93) dX8_literal_77 (by decide) ?_
              exact Ev.ireturn dX8_literal_93 rfl (rE (by unfold MP o_literal; (repeat rw [Int.toNat_natCast]); rw [ifP_f (fun z => z ⟨⟨by omega, by omega⟩, ⟨by omega, by omega⟩⟩), ifP_f (by show ¬ (rK (sR s kr) ≠ 5); omega), ifP_f (fun z => z ⟨⟨by omega, by omega⟩, ⟨by omega, by omega⟩⟩), ifP_t (by omega)]; exact ⟨rfl, hM1, hk0⟩))
          · skip
            have q62 := bI_0.mp h62
            refine Ev.bipush (n := -2) (by decide) dX8_literal_65 ?_
            exact Ev.ireturn dX8_literal_67 rfl (rE (by unfold MP o_literal; (repeat rw [Int.toNat_natCast]); rw [ifP_f (fun z => z ⟨⟨by omega, by omega⟩, ⟨by omega, by omega⟩⟩), ifP_f (by show ¬ (rK (sR s kr) ≠ 5); omega), ifP_t (by first | exact fun z => absurd z.1 (by omega) | exact fun z => absurd z.2 (by omega))]; exact ⟨rfl, hM1, hk0⟩))
      · skip
        refine Ev.aload_n dX8_literal_33 rfl rfl ?_
        refine Ev.bipush (n := -13) (by decide) dX8_literal_34 ?_
        refine Ev.callV_I (M2 := mX8_finds) (args2 := [vI (-13)]) (rcv := 272) (q := (RX8, TX8, 34)) (ci := 8) dX8_literal_36 okX8_finds lk_X8_140 ovX8_finds.1.1 ovX8_finds.1.2 ovX8_finds.2 (by decide) rfl rfl ltc_272 shc_272 rfl (Nat.le_of_ble_eq_true rfl) (Nat.le_of_ble_eq_true rfl) (sM_finds σ1 (-13) (sF s) hu8) ?_ rfl
        exact Ev.ireturn dX8_literal_39 rfl (rE (by unfold MP o_literal; (repeat rw [Int.toNat_natCast]); rw [ifP_f (fun z => z ⟨⟨by omega, by omega⟩, ⟨by omega, by omega⟩⟩), ifP_t (by show rK (sR s kr) ≠ 5; omega)]; exact ⟨rfl, hM1.found, (fun c hc => (upC_ne (by omega)).trans (hk0 c hc))⟩))
    · skip
      have q18 := bI_1.mp h18
      refine Ev.iconst dX8_literal_21 ?_
      exact Ev.ireturn dX8_literal_22 rfl (rE (by unfold MP o_literal; (repeat rw [Int.toNat_natCast]); rw [ifP_t (by first | exact fun z => absurd z.1 (by omega) | exact fun z => absurd z.2 (by omega))]; exact ⟨rfl, hM1, hk0⟩))

set_option maxRecDepth 100000 in
set_option maxHeartbeats 4000000 in
theorem r_stand {g : GC} (s : SS) (σ : Sg) (hM : MI s σ) (r : Int) (h_r : inR r) (i : Int) (h_i : inR i) (h01 : i = 0 ∨ i = 1) : Ev g mX8_stand 0 [some (vR (272)), some (vI (r)), some (vI (i)), none] [] (M0 (σ)) 0 0 (retE (MP σ (o_stand s r i))) := by
  refine Ev.aload_n dX8_stand_0 rfl rfl ?_
  refine Ev.iconst dX8_stand_1 ?_
  refine pf_X8_90 rfl dX8_stand_2 ltc_272 shc_272 ?_
  obtain ⟨σ1, hs1⟩ : ∃ ρ : Sg, ρ = upC σ 272 0 0 := ⟨_, rfl⟩
  refine Ev.mem (τ := σ1) hs1.symm ?_
  have hM1 : MI s σ1 := by rw [hs1]; exact hM.th
  have hk0 : ∀ c, c < 272 → σ1 c = σ c := fun c hc => by rw [hs1]; exact upC_ne (by omega)
  obtain ⟨hu1, hu2, hu3, hu4, hu5, hu6, hu7, hu8⟩ := id hM1
  have hU := hu1.1
  have hN := hu2.1
  have hD := hu4.1
  have hMl := hu7.1
  have hQ := hu5.1
  refine Ev.aload_n dX8_stand_5 rfl rfl ?_
  refine Ev.iload_n dX8_stand_6 rfl rfl ?_
  refine Ev.callV_I (M2 := mX8_noRule) (args2 := [vI (r)]) (rcv := 272) (q := (RX8, TX8, 34)) (ci := 8) dX8_stand_7 okX8_noRule lk_X8_137 ovX8_noRule.1.1 ovX8_noRule.1.2 ovX8_noRule.2 (by decide) rfl rfl ltc_272 shc_272 rfl (Nat.le_of_ble_eq_true rfl) (Nat.le_of_ble_eq_true rfl) (sM_noRule σ1 (sN s) hN hu2.2.1 (r) ⟨by omega, by omega⟩) ?_ rfl
  refine Ev.if_eq (tgt := 15) bI_inR dX8_stand_10 (by decide) (fun h10 => ?_) (fun h10 => ?_)
  · skip
    have q10 := bI_0.mp h10
    obtain ⟨kr, rfl⟩ : ∃ n_ : Nat, r = (n_ : Int) := ⟨r.toNat, by omega⟩
    refine Ev.aload_n dX8_stand_15 rfl rfl ?_
    refine gf_X8_109 (x := ((sD s : Nat) : Int)) rfl dX8_stand_16 ltc_272 shc_272 hu4.2.1 ?_
    refine Ev.if_le (tgt := 25) ⟨by omega, by omega⟩ dX8_stand_19 (by decide) (fun h19 => ?_) (fun h19 => ?_)
    · skip
      refine Ev.aload_n dX8_stand_25 rfl rfl ?_
      refine gf_X8_34 rfl dX8_stand_26 ltc_272 shc_272 rfc_272_12 ?_
      refine Ev.iload_n dX8_stand_29 rfl rfl ?_
      refine Ev.zaload (v := ((b2 ((sW s).testBit kr) : Nat) : Int)) dX8_stand_30 ltc_281 shc_281 (by decide) (by omega) (by omega) (ldx rfl (hu2.2.2.2 kr (by omega)).2.2) ?_
      refine Ev.if_eq (tgt := 38) b2_inR dX8_stand_31 (by decide) (fun h31 => ?_) (fun h31 => ?_)
      · skip
        refine Ev.iconst dX8_stand_38 ?_
        refine Ev.istore_n (pl' := [some (vR (272)), some (vI (((kr : Nat) : Int))), some (vI (i)), some (vI (0))]) dX8_stand_39 rfl (Nat.le_of_ble_eq_true rfl) rfl ?_
        refine Ev.aload_n dX8_stand_40 rfl rfl ?_
        refine gf_X8_34 rfl dX8_stand_41 ltc_272 shc_272 rfc_272_12 ?_
        refine Ev.iload_n dX8_stand_44 rfl rfl ?_
        refine Ev.iload_n dX8_stand_45 rfl rfl ?_
        refine Ev.zastore dX8_stand_46 ltc_281 shc_281 (by decide) (by omega) (by omega) h01 ?_
        refine Ev.mem (τ := upC σ1 281 kr i) (by simp only [Int.toNat_natCast]) ?_
        have hb2 := @b2_le ((sW s).testBit kr)
        have hww : (ifP (i = 0) (andN (sW s) (2 ^ kr)) (sW s ||| 2 ^ kr)) < 2 ^ sN s ∧ (ifP (i = 0) (andN (sW s) (2 ^ kr)) (sW s ||| 2 ^ kr)).testBit kr = (decide (i = 1)) ∧ ∀ q, q ≠ kr → (ifP (i = 0) (andN (sW s) (2 ^ kr)) (sW s ||| 2 ^ kr)).testBit q = (sW s).testBit q := by rcases h01 with e | e; (subst e; rw [ifP_t rfl]; exact ⟨andN_w hu2.2.2.1, (by rw [andN_tb, Nat.testBit_two_pow]; simp), fun q hq => (by have hne : ¬ kr = q := fun z => hq z.symm; rw [andN_tb, Nat.testBit_two_pow]; simp [hne])⟩); (subst e; rw [ifP_f (by decide)]; exact ⟨or_w hu2.2.2.1 (by omega), (by rw [Nat.testBit_or, Nat.testBit_two_pow]; simp), fun q hq => (by have hne : ¬ kr = q := fun z => hq z.symm; rw [Nat.testBit_or, Nat.testBit_two_pow]; simp [hne])⟩)
        refine Ev.aload_n dX8_stand_47 rfl rfl ?_
        refine Ev.callV_G (M2 := mX8_asTold) (args2 := []) (rcv := 272) (q := (RX8, TX8, 34)) (ci := 8) dX8_stand_48 okX8_asTold lk_X8_116 ovX8_asTold.1.1 ovX8_asTold.1.2 ovX8_asTold.2 (by decide) rfl rfl ltc_272 shc_272 rfl (Nat.le_of_ble_eq_true rfl) (Nat.le_of_ble_eq_true rfl) (sM_asTold (upC σ1 281 kr i) (sU s) hU ((congrFun (upC_ne (by decide)) 1).trans hu1.2.1) (sG s) (fun y hy => ((congrFun (upC_ne (by decide)) y).trans (hu1.2.2.1 y hy).1))) (fun v_ m_ hp_ => ?_) rfl
        obtain ⟨τ, rfl, rfl, hF, hG⟩ := hp_
        show Ev g mX8_stand 51 [some (vR (272)), some (vI (((kr : Nat) : Int))), some (vI (i)), some (vI (0))] [] (M0 (τ)) 0 0 _
        refine Ev.iload_n dX8_stand_51 rfl rfl ?_
        exact Ev.ireturn dX8_stand_52 rfl (rE (by unfold MP o_stand; (repeat rw [Int.toNat_natCast]); rw [ifP_f (by omega), ifP_f (by omega)]; exact ⟨(by show _ = ((b2 ((sW s).testBit kr) : Nat) : Int); omega), ⟨⟨hU, ((congrFun (hF 272 (by decide)) 1).trans ((congrFun (upC_ne (by decide)) 1).trans hu1.2.1)), (hu1.2.2.1.cg (fun x _ => congrFun ((hF 273 (by decide)).trans ((upC_ne (by decide)).trans rfl)) x)), (fun x hx => ⟨hG x hx, (hu1.2.2.1 x hx).2⟩)⟩, (u2_w hu2 hww.1 hww.2.1 hww.2.2 ((congrFun (hF 272 (by decide)) 8).trans ((congrFun (upC_ne (by decide)) 8).trans rfl)) (fun c q1 q2 q3 => (hF c (by simp; omega)).trans (upC_ne q3)) ((hF 281 (by decide)).trans (by rcases h01 with e | e <;> subst e <;> rfl))), (hu3.cg (fun c i q1 q2 => congrFun ((hF c (by simp; omega)).trans ((upC_ne (Nat.ne_of_gt (Nat.lt_of_lt_of_le (show 281 < 286 by decide) q1))).trans rfl)) i)), (hu4.cg ((congrFun (hF 272 (by decide)) 4).trans ((congrFun (upC_ne (by decide)) 4).trans rfl)) (fun c q1 q2 => ((hF c (by simp; omega)).trans ((upC_ne (Nat.ne_of_lt (Nat.lt_of_lt_of_le (Nat.lt_succ_of_le q2) (show 278 ≤ 281 by decide)))).trans rfl)))), (hu5.cg ((congrFun (hF 272 (by decide)) 25).trans ((congrFun (upC_ne (by decide)) 25).trans rfl)) ((hF 292 (by decide)).trans ((upC_ne (by decide)).trans rfl))), (hu6.cg ((congrFun (hF 272 (by decide)) 27).trans ((congrFun (upC_ne (by decide)) 27).trans rfl)) ((hF 293 (by decide)).trans ((upC_ne (by decide)).trans rfl))), (hu7.cg ((congrFun (hF 272 (by decide)) 19).trans ((congrFun (upC_ne (by decide)) 19).trans rfl)) (fun c q1 q2 => ((hF c (by simp; omega)).trans ((upC_ne (Nat.ne_of_gt (Nat.lt_of_lt_of_le (show 281 < 288 by decide) q1))).trans rfl)))), ((congrFun (hF 272 (by decide)) 24).trans ((congrFun (upC_ne (by decide)) 24).trans hu8))⟩, (fun c q2 => (hF c (by simp; omega)).trans (((upC_ne (Nat.ne_of_lt (Nat.lt_of_lt_of_le q2 (show 272 ≤ 281 by decide)))).trans (hk0 c q2))))⟩))
      · skip
        refine Ev.iconst dX8_stand_34 ?_
        refine Ev.goto (tgt := 39) dX8_stand_35 (by decide) ?_
        refine Ev.istore_n (pl' := [some (vR (272)), some (vI (((kr : Nat) : Int))), some (vI (i)), some (vI (1))]) dX8_stand_39 rfl (Nat.le_of_ble_eq_true rfl) rfl ?_
        refine Ev.aload_n dX8_stand_40 rfl rfl ?_
        refine gf_X8_34 rfl dX8_stand_41 ltc_272 shc_272 rfc_272_12 ?_
        refine Ev.iload_n dX8_stand_44 rfl rfl ?_
        refine Ev.iload_n dX8_stand_45 rfl rfl ?_
        refine Ev.zastore dX8_stand_46 ltc_281 shc_281 (by decide) (by omega) (by omega) h01 ?_
        refine Ev.mem (τ := upC σ1 281 kr i) (by simp only [Int.toNat_natCast]) ?_
        have hb2 := @b2_le ((sW s).testBit kr)
        have hww : (ifP (i = 0) (andN (sW s) (2 ^ kr)) (sW s ||| 2 ^ kr)) < 2 ^ sN s ∧ (ifP (i = 0) (andN (sW s) (2 ^ kr)) (sW s ||| 2 ^ kr)).testBit kr = (decide (i = 1)) ∧ ∀ q, q ≠ kr → (ifP (i = 0) (andN (sW s) (2 ^ kr)) (sW s ||| 2 ^ kr)).testBit q = (sW s).testBit q := by rcases h01 with e | e; (subst e; rw [ifP_t rfl]; exact ⟨andN_w hu2.2.2.1, (by rw [andN_tb, Nat.testBit_two_pow]; simp), fun q hq => (by have hne : ¬ kr = q := fun z => hq z.symm; rw [andN_tb, Nat.testBit_two_pow]; simp [hne])⟩); (subst e; rw [ifP_f (by decide)]; exact ⟨or_w hu2.2.2.1 (by omega), (by rw [Nat.testBit_or, Nat.testBit_two_pow]; simp), fun q hq => (by have hne : ¬ kr = q := fun z => hq z.symm; rw [Nat.testBit_or, Nat.testBit_two_pow]; simp [hne])⟩)
        refine Ev.aload_n dX8_stand_47 rfl rfl ?_
        refine Ev.callV_G (M2 := mX8_asTold) (args2 := []) (rcv := 272) (q := (RX8, TX8, 34)) (ci := 8) dX8_stand_48 okX8_asTold lk_X8_116 ovX8_asTold.1.1 ovX8_asTold.1.2 ovX8_asTold.2 (by decide) rfl rfl ltc_272 shc_272 rfl (Nat.le_of_ble_eq_true rfl) (Nat.le_of_ble_eq_true rfl) (sM_asTold (upC σ1 281 kr i) (sU s) hU ((congrFun (upC_ne (by decide)) 1).trans hu1.2.1) (sG s) (fun y hy => ((congrFun (upC_ne (by decide)) y).trans (hu1.2.2.1 y hy).1))) (fun v_ m_ hp_ => ?_) rfl
        obtain ⟨τ, rfl, rfl, hF, hG⟩ := hp_
        show Ev g mX8_stand 51 [some (vR (272)), some (vI (((kr : Nat) : Int))), some (vI (i)), some (vI (1))] [] (M0 (τ)) 0 0 _
        refine Ev.iload_n dX8_stand_51 rfl rfl ?_
        exact Ev.ireturn dX8_stand_52 rfl (rE (by unfold MP o_stand; (repeat rw [Int.toNat_natCast]); rw [ifP_f (by omega), ifP_f (by omega)]; exact ⟨(by show _ = ((b2 ((sW s).testBit kr) : Nat) : Int); omega), ⟨⟨hU, ((congrFun (hF 272 (by decide)) 1).trans ((congrFun (upC_ne (by decide)) 1).trans hu1.2.1)), (hu1.2.2.1.cg (fun x _ => congrFun ((hF 273 (by decide)).trans ((upC_ne (by decide)).trans rfl)) x)), (fun x hx => ⟨hG x hx, (hu1.2.2.1 x hx).2⟩)⟩, (u2_w hu2 hww.1 hww.2.1 hww.2.2 ((congrFun (hF 272 (by decide)) 8).trans ((congrFun (upC_ne (by decide)) 8).trans rfl)) (fun c q1 q2 q3 => (hF c (by simp; omega)).trans (upC_ne q3)) ((hF 281 (by decide)).trans (by rcases h01 with e | e <;> subst e <;> rfl))), (hu3.cg (fun c i q1 q2 => congrFun ((hF c (by simp; omega)).trans ((upC_ne (Nat.ne_of_gt (Nat.lt_of_lt_of_le (show 281 < 286 by decide) q1))).trans rfl)) i)), (hu4.cg ((congrFun (hF 272 (by decide)) 4).trans ((congrFun (upC_ne (by decide)) 4).trans rfl)) (fun c q1 q2 => ((hF c (by simp; omega)).trans ((upC_ne (Nat.ne_of_lt (Nat.lt_of_lt_of_le (Nat.lt_succ_of_le q2) (show 278 ≤ 281 by decide)))).trans rfl)))), (hu5.cg ((congrFun (hF 272 (by decide)) 25).trans ((congrFun (upC_ne (by decide)) 25).trans rfl)) ((hF 292 (by decide)).trans ((upC_ne (by decide)).trans rfl))), (hu6.cg ((congrFun (hF 272 (by decide)) 27).trans ((congrFun (upC_ne (by decide)) 27).trans rfl)) ((hF 293 (by decide)).trans ((upC_ne (by decide)).trans rfl))), (hu7.cg ((congrFun (hF 272 (by decide)) 19).trans ((congrFun (upC_ne (by decide)) 19).trans rfl)) (fun c q1 q2 => ((hF c (by simp; omega)).trans ((upC_ne (Nat.ne_of_gt (Nat.lt_of_lt_of_le (show 281 < 288 by decide) q1))).trans rfl)))), ((congrFun (hF 272 (by decide)) 24).trans ((congrFun (upC_ne (by decide)) 24).trans hu8))⟩, (fun c q2 => (hF c (by simp; omega)).trans (((upC_ne (Nat.ne_of_lt (Nat.lt_of_lt_of_le q2 (show 272 ≤ 281 by decide)))).trans (hk0 c q2))))⟩))
    · skip
      refine Ev.bipush (n := -3) (by decide) dX8_stand_22 ?_
      exact Ev.ireturn dX8_stand_24 rfl (rE (by unfold MP o_stand; (repeat rw [Int.toNat_natCast]); rw [ifP_f (by omega), ifP_t (by omega)]; exact ⟨rfl, hM1, hk0⟩))
  · skip
    have q10 := bI_1.mp h10
    refine Ev.iconst dX8_stand_13 ?_
    exact Ev.ireturn dX8_stand_14 rfl (rE (by unfold MP o_stand; (repeat rw [Int.toNat_natCast]); rw [ifP_t (by omega)]; exact ⟨rfl, hM1, hk0⟩))

