/-! THE CLASS: rule -/
set_option maxRecDepth 100000 in
set_option maxHeartbeats 4000000 in
theorem c_rule {g : GC} (s : SS) (σ : Sg) (hC : CI s σ) (k : Int) (h_k : inR k) (a : Int) (h_a : inR a) (b : Int) (h_b : inR b) : Ev g mX7_rule 0 [some (vR (0)), some (vI (k)), some (vI (a)), some (vI (b))] [] (M0 (σ)) 0 0 (retE (CP σ (o_rule s k a b))) := by
  obtain ⟨hk1, hk2, hk3, hk4, hk5, hk6, hk7, hk8, hk9⟩ := id hC
  have hU := hk1.1
  have hN := hk2.1
  have hD := hk4.1
  have hM := hk7.1
  have hQ := hk5.1
  refine Ev.iload_n dX7_rule_0 rfl rfl ?_
  refine Ev.if_lt (tgt := 18) ⟨by omega, by omega⟩ dX7_rule_1 (by decide) (fun h1 => ?_) (fun h1 => ?_)
  · skip
    refine Ev.bipush (n := -2) (by decide) dX7_rule_18 ?_
    exact Ev.ireturn dX7_rule_20 rfl (rE (by unfold CP o_rule; (repeat rw [Int.toNat_natCast]); rw [ifP_t (by first | exact fun z => absurd z.1 (by omega) | exact fun z => q15 z.2)]; exact ⟨rfl, hC, (fun _ _ => rfl)⟩))
  · skip
    refine Ev.iload_n dX7_rule_4 rfl rfl ?_
    refine Ev.iconst dX7_rule_5 ?_
    refine Ev.icmp_gt (tgt := 18) ⟨by omega, by omega⟩ ⟨by decide, by decide⟩ dX7_rule_6 (by decide) (fun h6 => ?_) (fun h6 => ?_)
    · skip
      refine Ev.bipush (n := -2) (by decide) dX7_rule_18 ?_
      exact Ev.ireturn dX7_rule_20 rfl (rE (by unfold CP o_rule; (repeat rw [Int.toNat_natCast]); rw [ifP_t (by first | exact fun z => absurd z.1 (by omega) | exact fun z => q15 z.2)]; exact ⟨rfl, hC, (fun _ _ => rfl)⟩))
    · skip
      refine Ev.iload_n dX7_rule_9 rfl rfl ?_
      refine Ev.iload_n dX7_rule_10 rfl rfl ?_
      refine Ev.iload_n dX7_rule_11 rfl rfl ?_
      refine Ev.callS_I (M2 := mX7_mayBeSet) (args2 := [vI (k), vI (a), vI (b)]) dX7_rule_12 okX7_mayBeSet lk_X7_107 osX7_mayBeSet.1 osX7_mayBeSet.2 (by decide) rfl (Nat.le_of_ble_eq_true rfl) (Nat.le_of_ble_eq_true rfl) (s7_mayBeSet σ k a b ⟨by omega, by omega⟩ h_a h_b) ?_ rfl
      refine Ev.if_ne (tgt := 21) bI_inR dX7_rule_15 (by decide) (fun h15 => ?_) (fun h15 => ?_)
      · skip
        have q15 := bI_1.mp h15
        refine Ev.aload_n dX7_rule_21 rfl rfl ?_
        refine gf_X7_25 rfl dX7_rule_22 ltc_0 shc_0 rfc_0_7 ?_
        refine gf_X7_85 (x := ((sD s : Nat) : Int)) rfl dX7_rule_25 ltc_4 shc_4 hk4.2.1 ?_
        refine Ev.if_le (tgt := 34) ⟨by omega, by omega⟩ dX7_rule_28 (by decide) (fun h28 => ?_) (fun h28 => ?_)
        · skip
          refine Ev.aload_n dX7_rule_34 rfl rfl ?_
          refine gf_X7_111 (x := ((sN s : Nat) : Int)) rfl dX7_rule_35 ltc_0 shc_0 hk2.2.1 ?_
          refine Ev.bipush (n := 16) (by decide) dX7_rule_38 ?_
          refine Ev.icmp_lt (tgt := 46) ⟨by omega, by omega⟩ ⟨by decide, by decide⟩ dX7_rule_40 (by decide) (fun h40 => ?_) (fun h40 => ?_)
          · skip
            have hwl := w16 hk2.2.2.2.1 hN
            have hp16 := pow_le16 (show sN s < 16 by omega)
            refine Ev.aload_n dX7_rule_46 rfl rfl ?_
            refine gf_X7_18 rfl dX7_rule_47 ltc_0 shc_0 rfc_0_3 ?_
            refine Ev.aload_n dX7_rule_50 rfl rfl ?_
            refine gf_X7_111 (x := ((sN s : Nat) : Int)) rfl dX7_rule_51 ltc_0 shc_0 hk2.2.1 ?_
            refine Ev.raload dX7_rule_54 ltc_3 shc_3 (by decide) (by omega) (by omega) (rf_rule (by omega)) ?_
            refine Ev.iload_n dX7_rule_55 rfl rfl ?_
            refine Ev.iload_n dX7_rule_56 rfl rfl ?_
            refine Ev.iload_n dX7_rule_57 rfl rfl ?_
            refine Ev.callV_V (M2 := mX3_begin) (args2 := [vI (k), vI (a), vI (b)]) (rcv := 26 + 4 * (sN s)) (q := (RX3, TX3, 8)) (ci := 3) dX7_rule_58 okX3_begin lk_X7_114 ovX3_begin.1.1 ovX3_begin.1.2 ovX3_begin.2 (by decide) rfl rfl (lt_rc (by omega)) (sh_rc (by omega)) rfl (Nat.le_of_ble_eq_true rfl) (Nat.le_of_ble_eq_true rfl) (s3_begin σ (sN s) (by omega) k a b) ?_ rfl
            refine Ev.aload_n dX7_rule_61 rfl rfl ?_
            refine Ev.dupR dX7_rule_62 ?_
            refine gf_X7_118 (x := ((sW s : Nat) : Int)) rfl dX7_rule_63 ltc_0 shc_0 (show (upC (upC (upC σ (26 + 4 * sN s) 0 k) (26 + 4 * sN s) 1 a) (26 + 4 * sN s) 2 b) 0 5 = _ from (by (repeat (first | rw [upC_self (by omega)] | rw [upC_ne (by omega)] | rw [cpy_ne (by omega)])); exact hk2.2.2.1)) ?_
            refine Ev.lconst 1 rfl dX7_rule_66 ?_
            refine Ev.aload_n dX7_rule_67 rfl rfl ?_
            refine gf_X7_111 (x := ((sN s : Nat) : Int)) rfl dX7_rule_68 ltc_0 shc_0 (show (upC (upC (upC σ (26 + 4 * sN s) 0 k) (26 + 4 * sN s) 1 a) (26 + 4 * sN s) 2 b) 0 4 = _ from (by (repeat (first | rw [upC_self (by omega)] | rw [upC_ne (by omega)] | rw [cpy_ne (by omega)])); exact hk2.2.1)) ?_
            refine Ev.lshl dX7_rule_71 ?_
            rw [show (lShl (1) (((sN s : Nat) : Int))) = ((2 ^ sN s : Nat) : Int) from lshl1 (by omega)]
            refine Ev.lor dX7_rule_72 ?_
            rw [show (lOr (((sW s : Nat) : Int)) (((2 ^ sN s : Nat) : Int))) = (((sW s ||| 2 ^ sN s) : Nat) : Int) from lOr_nat (by omega) (by omega)]
            refine pf_X7_118 rfl dX7_rule_73 ltc_0 shc_0 ?_
            refine Ev.mem (τ := upC (upC (upC (upC σ (26 + 4 * sN s) 0 k) (26 + 4 * sN s) 1 a) (26 + 4 * sN s) 2 b) 0 5 ((sW s ||| 2 ^ sN s : Nat) : Int)) rfl ?_
            refine Ev.aload_n dX7_rule_76 rfl rfl ?_
            refine Ev.dupR dX7_rule_77 ?_
            refine gf_X7_111 (x := ((sN s : Nat) : Int)) rfl dX7_rule_78 ltc_0 shc_0 (show (upC (upC (upC (upC σ (26 + 4 * sN s) 0 k) (26 + 4 * sN s) 1 a) (26 + 4 * sN s) 2 b) 0 5 ((sW s ||| 2 ^ sN s : Nat) : Int)) 0 4 = _ from (by (repeat (first | rw [upC_self (by omega)] | rw [upC_ne (by omega)] | rw [cpy_ne (by omega)])); exact hk2.2.1)) ?_
            refine Ev.iconst dX7_rule_81 ?_
            refine Ev.iadd dX7_rule_82 ?_
            refine pf_X7_111 rfl dX7_rule_83 ltc_0 shc_0 ?_
            refine Ev.mem (τ := upC (upC (upC (upC (upC σ (26 + 4 * sN s) 0 k) (26 + 4 * sN s) 1 a) (26 + 4 * sN s) 2 b) 0 5 ((sW s ||| 2 ^ sN s : Nat) : Int)) 0 4 ((sN s + 1 : Nat) : Int)) rfl ?_
            refine Ev.aload_n dX7_rule_86 rfl rfl ?_
            refine Ev.callV_V (M2 := mX7_letRangesBeAsTold) (args2 := []) (rcv := 0) (q := (RX7, TX7, 20)) (ci := 7) dX7_rule_87 okX7_letRangesBeAsTold lk_X7_91 ovX7_letRangesBeAsTold.1.1 ovX7_letRangesBeAsTold.1.2 ovX7_letRangesBeAsTold.2 (by decide) rfl rfl ltc_0 shc_0 rfl (Nat.le_of_ble_eq_true rfl) (Nat.le_of_ble_eq_true rfl) (s7_asTold (upC (upC (upC (upC (upC σ (26 + 4 * sN s) 0 k) (26 + 4 * sN s) 1 a) (26 + 4 * sN s) 2 b) 0 5 ((sW s ||| 2 ^ sN s : Nat) : Int)) 0 4 ((sN s + 1 : Nat) : Int))) ?_ rfl
            refine Ev.aload_n dX7_rule_90 rfl rfl ?_
            refine gf_X7_111 (x := (((sN s + 1) : Nat) : Int)) rfl dX7_rule_91 ltc_0 shc_0 (show (cpy (upC (upC (upC (upC (upC σ (26 + 4 * sN s) 0 k) (26 + 4 * sN s) 1 a) (26 + 4 * sN s) 2 b) 0 5 ((sW s ||| 2 ^ sN s : Nat) : Int)) 0 4 ((sN s + 1 : Nat) : Int)) 1 2 0 0 10) 0 4 = _ from by rw [cpy_ne (by decide)]; exact upC_at) ?_
            refine Ev.iconst dX7_rule_94 ?_
            refine Ev.isub dX7_rule_95 ?_
            exact Ev.ireturn dX7_rule_96 rfl (rE (by unfold CP o_rule; (repeat rw [Int.toNat_natCast]); rw [ifP_f (fun z => z ⟨⟨by omega, by omega⟩, q15⟩), ifP_f (by omega), ifP_f (by omega)]; exact ⟨(by show _ = ((sN s : Nat) : Int); omega), ⟨⟨hU, ((congrFun (cpy_ne (by decide)) 2).trans ((upC_self (by decide)).trans ((upC_self (by decide)).trans ((congrFun (upC_ne (by omega)) 2).trans ((congrFun (upC_ne (by omega)) 2).trans ((congrFun (upC_ne (by omega)) 2).trans hk1.2.1)))))), (told_av hU (hk1.2.2.1.cg (fun x _ => (congrFun ((upC_ne (by decide)).trans ((upC_ne (by decide)).trans ((upC_ne (by omega)).trans ((upC_ne (by omega)).trans ((upC_ne (by omega)).trans rfl))))) x)))).1, (told_av hU (hk1.2.2.1.cg (fun x _ => (congrFun ((upC_ne (by decide)).trans ((upC_ne (by decide)).trans ((upC_ne (by omega)).trans ((upC_ne (by omega)).trans ((upC_ne (by omega)).trans rfl))))) x)))).2⟩, (k2_new hk2 hU (show sN s < 16 by omega) ⟨by omega, by omega⟩ q15 ((congrFun (cpy_ne (by decide)) 4).trans upC_at) ((congrFun (cpy_ne (by decide)) 5).trans ((upC_self (by decide)).trans upC_at)) (fun c q1 q2 => ((cpy_ne (Nat.ne_of_gt (Nat.lt_of_lt_of_le (show 2 < 26 by decide) q1))).trans ((upC_ne (Nat.ne_of_gt (Nat.lt_of_lt_of_le (show 0 < 26 by decide) q1))).trans ((upC_ne (Nat.ne_of_gt (Nat.lt_of_lt_of_le (show 0 < 26 by decide) q1))).trans rfl))))), (hk3.cg (fun c q1 q2 => ((cpy_ne (Nat.ne_of_gt (Nat.lt_of_lt_of_le (show 2 < 251 by decide) q1))).trans ((upC_ne (Nat.ne_of_gt (Nat.lt_of_lt_of_le (show 0 < 251 by decide) q1))).trans ((upC_ne (Nat.ne_of_gt (Nat.lt_of_lt_of_le (show 0 < 251 by decide) q1))).trans ((upC_ne (by omega)).trans ((upC_ne (by omega)).trans ((upC_ne (by omega)).trans rfl)))))))), (hk4.cg (fun c q1 q2 _ => ((cpy_ne (Nat.ne_of_gt (Nat.lt_of_lt_of_le (show 2 < 4 by decide) q1))).trans ((upC_ne (Nat.ne_of_gt (Nat.lt_of_lt_of_le (show 0 < 4 by decide) q1))).trans ((upC_ne (Nat.ne_of_gt (Nat.lt_of_lt_of_le (show 0 < 4 by decide) q1))).trans ((upC_ne (by omega)).trans ((upC_ne (by omega)).trans ((upC_ne (by omega)).trans rfl)))))))), (hk5.cg ((congrFun (cpy_ne (by decide)) 9).trans ((upC_self (by decide)).trans ((upC_self (by decide)).trans ((congrFun (upC_ne (by omega)) 9).trans ((congrFun (upC_ne (by omega)) 9).trans ((congrFun (upC_ne (by omega)) 9).trans rfl)))))) ((cpy_ne (by decide)).trans ((upC_ne (by decide)).trans ((upC_ne (by decide)).trans ((upC_ne (by omega)).trans ((upC_ne (by omega)).trans ((upC_ne (by omega)).trans rfl))))))), (hk6.cg ((congrFun (cpy_ne (by decide)) 11).trans ((upC_self (by decide)).trans ((upC_self (by decide)).trans ((congrFun (upC_ne (by omega)) 11).trans ((congrFun (upC_ne (by omega)) 11).trans ((congrFun (upC_ne (by omega)) 11).trans rfl)))))) ((cpy_ne (by decide)).trans ((upC_ne (by decide)).trans ((upC_ne (by decide)).trans ((upC_ne (by omega)).trans ((upC_ne (by omega)).trans ((upC_ne (by omega)).trans rfl))))))), (hk7.wr (Nat.le_refl _) hU (Nat.le_succ _) ((congrFun (cpy_ne (by decide)) 14).trans ((upC_self (by decide)).trans ((upC_self (by decide)).trans ((congrFun (upC_ne (by omega)) 14).trans ((congrFun (upC_ne (by omega)) 14).trans ((congrFun (upC_ne (by omega)) 14).trans rfl)))))) ((cpy_ne (by decide)).trans ((upC_ne (by decide)).trans ((upC_ne (by decide)).trans ((upC_ne (by omega)).trans ((upC_ne (by omega)).trans ((upC_ne (by omega)).trans rfl)))))) (fun c q1 q2 => ((cpy_ne (Nat.ne_of_gt (Nat.lt_of_lt_of_le (show 2 < 90 by decide) q1))).trans ((upC_ne (Nat.ne_of_gt (Nat.lt_of_lt_of_le (show 0 < 90 by decide) q1))).trans ((upC_ne (Nat.ne_of_gt (Nat.lt_of_lt_of_le (show 0 < 90 by decide) q1))).trans ((upC_ne (by omega)).trans ((upC_ne (by omega)).trans ((upC_ne (by omega)).trans rfl)))))))), ((congrFun (cpy_ne (by decide)) 15).trans ((upC_self (by decide)).trans ((upC_self (by decide)).trans ((congrFun (upC_ne (by omega)) 15).trans ((congrFun (upC_ne (by omega)) 15).trans ((congrFun (upC_ne (by omega)) 15).trans hk8)))))), ((congrFun (cpy_ne (by decide)) 0).trans ((congrFun (upC_ne (by decide)) 0).trans ((congrFun (upC_ne (by decide)) 0).trans ((congrFun (upC_ne (by omega)) 0).trans ((congrFun (upC_ne (by omega)) 0).trans ((congrFun (upC_ne (by omega)) 0).trans hk9))))))⟩, (fun c q1 => ((cpy_ne (Nat.ne_of_gt (Nat.lt_of_lt_of_le (show 2 < 272 by decide) q1))).trans ((upC_ne (Nat.ne_of_gt (Nat.lt_of_lt_of_le (show 0 < 272 by decide) q1))).trans ((upC_ne (Nat.ne_of_gt (Nat.lt_of_lt_of_le (show 0 < 272 by decide) q1))).trans ((upC_ne (by omega)).trans ((upC_ne (by omega)).trans ((upC_ne (by omega)).trans rfl)))))))⟩))
          · skip
            refine Ev.bipush (n := -4) (by decide) dX7_rule_43 ?_
            exact Ev.ireturn dX7_rule_45 rfl (rE (by unfold CP o_rule; (repeat rw [Int.toNat_natCast]); rw [ifP_f (fun z => z ⟨⟨by omega, by omega⟩, q15⟩), ifP_f (by omega), ifP_t (by omega)]; exact ⟨rfl, hC, (fun _ _ => rfl)⟩))
        · skip
          refine Ev.bipush (n := -3) (by decide) dX7_rule_31 ?_
          exact Ev.ireturn dX7_rule_33 rfl (rE (by unfold CP o_rule; (repeat rw [Int.toNat_natCast]); rw [ifP_f (fun z => z ⟨⟨by omega, by omega⟩, q15⟩), ifP_t (by omega)]; exact ⟨rfl, hC, (fun _ _ => rfl)⟩))
      · skip
        have q15 := bI_0.mp h15
        refine Ev.bipush (n := -2) (by decide) dX7_rule_18 ?_
        exact Ev.ireturn dX7_rule_20 rfl (rE (by unfold CP o_rule; (repeat rw [Int.toNat_natCast]); rw [ifP_t (by first | exact fun z => absurd z.1 (by omega) | exact fun z => q15 z.2)]; exact ⟨rfl, hC, (fun _ _ => rfl)⟩))

