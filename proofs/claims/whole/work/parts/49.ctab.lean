/-! THE CLASS: stand, table, tear, cell, copy, get, about -/
theorem andN_w {w n r : Nat} (h : w < 2 ^ n) : andN w (2 ^ r) < 2 ^ n := andN_lt h
theorem or_w {w n r : Nat} (h : w < 2 ^ n) (hr : r < n) : w ||| 2 ^ r < 2 ^ n := Nat.or_lt_two_pow h (Nat.pow_lt_pow_right (by decide) hr)
theorem k2_w {σ τ : Sg} {U n w w' : Nat} {Rf : Nat → RC} (h : k2 σ U n Rf w) (hw : w' < 2 ^ n) (e4 : τ 0 4 = σ 0 4) (e5 : τ 0 5 = (w' : Int)) (e : ∀ c, 26 ≤ c → c < 90 → τ c = σ c) : k2 τ U n Rf w' := by
  obtain ⟨a1, a2, a3, a4, a5, a6⟩ := h
  exact ⟨a1, e4.trans a2, e5, hw, fun r hr => ⟨(a5 r hr).1.cg fun c q1 q2 => e c (by omega) (by omega), (a5 r hr).2⟩, fun r q1 q2 => by rw [e (26 + 4 * r) (by omega) (by omega)]; exact a6 r q1 q2⟩
theorem tv_tear {σ τ : Sg} {t : Nat} {T : Tb} (hT : TVc σ T) (e1 : τ 251 = upC σ 251 t (-1) 251) (e : ∀ c, 253 ≤ c → c < 259 → τ c = σ c) : TVc τ (updF T.1 t (-1), T.2) := fun u hu => by
  obtain ⟨q1, q2, q3⟩ := hT u hu
  rw [e1, e (253 + u) (by omega) (by omega)]
  by_cases eu : u = t
  · subst eu
    exact ⟨by rw [upC_at]; exact updF_at.symm, by show -1 ≤ updF T.1 u (-1) u ∧ updF T.1 u (-1) u ≤ 48; rw [updF_at]; omega, q3⟩
  · exact ⟨by rw [upC_self eu]; exact q1.trans (updF_ne eu).symm, by show -1 ≤ updF T.1 t (-1) u ∧ updF T.1 t (-1) u ≤ 48; rw [updF_ne eu]; exact q2, q3⟩
theorem tv_set {σ τ : Sg} {t : Nat} {T : Tb} {f : Nat → Nat} (hT : TVc σ T) (e1 : τ 251 = σ 251) (e : ∀ u, u < 6 → u ≠ t → τ (253 + u) = σ (253 + u)) (ef : ∀ j, j < 48 → τ (253 + t) j = (f j : Int) ∧ f j < 16) : TVc τ (T.1, updF T.2 t f) := fun u hu => by
  obtain ⟨q1, q2, q3⟩ := hT u hu
  rw [e1]
  refine ⟨q1, q2, fun j hj => ?_⟩
  show τ (253 + u) j = ((updF T.2 t f u j : Nat) : Int) ∧ updF T.2 t f u j < 16
  by_cases eu : u = t
  · subst eu
    rw [updF_at]; exact ef j hj
  · rw [updF_ne eu, e u hu eu]; exact q3 j hj
set_option maxRecDepth 100000 in
set_option maxHeartbeats 4000000 in
theorem c_stand {g : GC} (s : SS) (σ : Sg) (hC : CI s σ) (r : Int) (h_r : inR r) (i : Int) (h_i : inR i) : Ev g mX7_stand 0 [some (vR (0)), some (vI (r)), some (vI (i)), none] [] (M0 (σ)) 0 0 (retE (CP σ (o_stand s r i))) := by
  obtain ⟨hk1, hk2, hk3, hk4, hk5, hk6, hk7, hk8, hk9⟩ := id hC
  have hU := hk1.1
  have hN := hk2.1
  have hD := hk4.1
  have hM := hk7.1
  have hQ := hk5.1
  refine Ev.aload_n dX7_stand_0 rfl rfl ?_
  refine Ev.iload_n dX7_stand_1 rfl rfl ?_
  refine Ev.callV_I (M2 := mX7_isRule) (args2 := [vI (r)]) (rcv := 0) (q := (RX7, TX7, 20)) (ci := 7) dX7_stand_2 okX7_isRule lk_X7_122 ovX7_isRule.1.1 ovX7_isRule.1.2 ovX7_isRule.2 (by decide) rfl rfl ltc_0 shc_0 rfl (Nat.le_of_ble_eq_true rfl) (Nat.le_of_ble_eq_true rfl) (s7_isRule σ (sN s) hN hk2.2.1 (r) ⟨by omega, by omega⟩) ?_ rfl
  refine Ev.if_ne (tgt := 10) bI_inR dX7_stand_5 (by decide) (fun h5 => ?_) (fun h5 => ?_)
  · skip
    have q5 := bI_1.mp h5
    obtain ⟨kr, rfl⟩ : ∃ n_ : Nat, r = (n_ : Int) := ⟨r.toNat, by omega⟩
    have hwl := w16 hk2.2.2.2.1 hN
    have hp16 := pow_le16 (show kr < 16 by omega)
    refine Ev.aload_n dX7_stand_10 rfl rfl ?_
    refine gf_X7_25 rfl dX7_stand_11 ltc_0 shc_0 rfc_0_7 ?_
    refine gf_X7_85 (x := ((sD s : Nat) : Int)) rfl dX7_stand_14 ltc_4 shc_4 hk4.2.1 ?_
    refine Ev.if_le (tgt := 23) ⟨by omega, by omega⟩ dX7_stand_17 (by decide) (fun h17 => ?_) (fun h17 => ?_)
    · skip
      refine Ev.aload_n dX7_stand_23 rfl rfl ?_
      refine Ev.iload_n dX7_stand_24 rfl rfl ?_
      refine Ev.callV_I (M2 := mX7_stands) (args2 := [vI (((kr : Nat) : Int))]) (rcv := 0) (q := (RX7, TX7, 20)) (ci := 7) dX7_stand_25 okX7_stands lk_X7_151 ovX7_stands.1.1 ovX7_stands.1.2 ovX7_stands.2 (by decide) rfl rfl ltc_0 shc_0 rfl (Nat.le_of_ble_eq_true rfl) (Nat.le_of_ble_eq_true rfl) (s7_stands σ (sW s) kr hwl hk2.2.2.1 (by omega)) ?_ rfl
      refine Ev.if_eq (tgt := 35) b2_inR dX7_stand_28 (by decide) (fun h28 => ?_) (fun h28 => ?_)
      · skip
        refine Ev.iconst dX7_stand_35 ?_
        refine Ev.istore_n (pl' := [some (vR (0)), some (vI (((kr : Nat) : Int))), some (vI (i)), some (vI (0))]) dX7_stand_36 rfl (Nat.le_of_ble_eq_true rfl) rfl ?_
        refine Ev.iload_n dX7_stand_37 rfl rfl ?_
        refine Ev.if_eq (tgt := 56) ⟨by omega, by omega⟩ dX7_stand_38 (by decide) (fun h38 => ?_) (fun h38 => ?_)
        · skip
          refine Ev.aload_n dX7_stand_56 rfl rfl ?_
          refine Ev.dupR dX7_stand_57 ?_
          refine gf_X7_118 (x := ((sW s : Nat) : Int)) rfl dX7_stand_58 ltc_0 shc_0 hk2.2.2.1 ?_
          refine Ev.lconst 1 rfl dX7_stand_61 ?_
          refine Ev.iload_n dX7_stand_62 rfl rfl ?_
          refine Ev.lshl dX7_stand_63 ?_
          rw [show (lShl (1) (((kr : Nat) : Int))) = ((2 ^ kr : Nat) : Int) from lshl1 (by omega)]
          refine Ev.ldc2 (n := -1) (tbl_i 342 (by decide +kernel)) dX7_stand_64 ?_
          refine Ev.lxor dX7_stand_67 ?_
          rw [show (lXor (((2 ^ kr : Nat) : Int)) (-1)) = (-((2 ^ kr : Nat) : Int) - 1) from lXor_m1 (by omega)]
          refine Ev.land dX7_stand_68 ?_
          rw [show (lAnd (((sW s : Nat) : Int)) ((-((2 ^ kr : Nat) : Int) - 1))) = ((andN (sW s) (2 ^ kr) : Nat) : Int) from lAnd_not (by omega)]
          refine pf_X7_118 rfl dX7_stand_69 ltc_0 shc_0 ?_
          refine Ev.mem (τ := upC σ 0 5 ((andN (sW s) (2 ^ kr)) : Nat)) rfl ?_
          refine Ev.aload_n dX7_stand_72 rfl rfl ?_
          refine Ev.callV_V (M2 := mX7_letRangesBeAsTold) (args2 := []) (rcv := 0) (q := (RX7, TX7, 20)) (ci := 7) dX7_stand_73 okX7_letRangesBeAsTold lk_X7_91 ovX7_letRangesBeAsTold.1.1 ovX7_letRangesBeAsTold.1.2 ovX7_letRangesBeAsTold.2 (by decide) rfl rfl ltc_0 shc_0 rfl (Nat.le_of_ble_eq_true rfl) (Nat.le_of_ble_eq_true rfl) (s7_asTold (upC σ 0 5 ((andN (sW s) (2 ^ kr)) : Nat))) ?_ rfl
          refine Ev.iload_n dX7_stand_76 rfl rfl ?_
          exact Ev.ireturn dX7_stand_77 rfl (rE (by unfold CP o_stand; (repeat rw [Int.toNat_natCast]); rw [ifP_f (by omega), ifP_f (by omega)]; exact ⟨(by show _ = ((b2 ((sW s).testBit kr) : Nat) : Int); first | (rw [b2_ne.mp h28]; rfl) | (rw [b2_0.mp h28]; rfl)), ⟨⟨hU, ((congrFun (cpy_ne (by decide)) 2).trans ((upC_self (by decide)).trans hk1.2.1)), (told_av hU (hk1.2.2.1.cg (fun x _ => (congrFun ((upC_ne (by decide)).trans rfl) x)))).1, (told_av hU (hk1.2.2.1.cg (fun x _ => (congrFun ((upC_ne (by decide)).trans rfl) x)))).2⟩, (k2_w hk2 (by rw [ifP_t (show i = 0 by omega)]; exact andN_w hk2.2.2.2.1) ((congrFun (cpy_ne (by decide)) 4).trans ((upC_self (by decide)).trans rfl)) ((congrFun (cpy_ne (by decide)) 5).trans (upC_at.trans (by rw [ifP_t (show i = 0 by omega)]))) (fun c q1 q2 => ((cpy_ne (Nat.ne_of_gt (Nat.lt_of_lt_of_le (show 2 < 26 by decide) q1))).trans ((upC_ne (Nat.ne_of_gt (Nat.lt_of_lt_of_le (show 0 < 26 by decide) q1))).trans rfl)))), (hk3.cg (fun c q1 q2 => ((cpy_ne (Nat.ne_of_gt (Nat.lt_of_lt_of_le (show 2 < 251 by decide) q1))).trans ((upC_ne (Nat.ne_of_gt (Nat.lt_of_lt_of_le (show 0 < 251 by decide) q1))).trans rfl)))), (hk4.cg (fun c q1 q2 _ => ((cpy_ne (Nat.ne_of_gt (Nat.lt_of_lt_of_le (show 2 < 4 by decide) q1))).trans ((upC_ne (Nat.ne_of_gt (Nat.lt_of_lt_of_le (show 0 < 4 by decide) q1))).trans rfl)))), (hk5.cg ((congrFun (cpy_ne (by decide)) 9).trans ((upC_self (by decide)).trans rfl)) ((cpy_ne (by decide)).trans ((upC_ne (by decide)).trans rfl))), (hk6.cg ((congrFun (cpy_ne (by decide)) 11).trans ((upC_self (by decide)).trans rfl)) ((cpy_ne (by decide)).trans ((upC_ne (by decide)).trans rfl))), (hk7.cg ((congrFun (cpy_ne (by decide)) 14).trans ((upC_self (by decide)).trans rfl)) ((cpy_ne (by decide)).trans ((upC_ne (by decide)).trans rfl)) (fun c q1 q2 => ((cpy_ne (Nat.ne_of_gt (Nat.lt_of_lt_of_le (show 2 < 90 by decide) q1))).trans ((upC_ne (Nat.ne_of_gt (Nat.lt_of_lt_of_le (show 0 < 90 by decide) q1))).trans rfl)))), ((congrFun (cpy_ne (by decide)) 15).trans ((upC_self (by decide)).trans hk8)), ((congrFun (cpy_ne (by decide)) 0).trans ((congrFun (upC_ne (by decide)) 0).trans hk9))⟩, (fun c q1 => ((cpy_ne (Nat.ne_of_gt (Nat.lt_of_lt_of_le (show 2 < 272 by decide) q1))).trans ((upC_ne (Nat.ne_of_gt (Nat.lt_of_lt_of_le (show 0 < 272 by decide) q1))).trans rfl)))⟩))
        · skip
          refine Ev.aload_n dX7_stand_41 rfl rfl ?_
          refine Ev.dupR dX7_stand_42 ?_
          refine gf_X7_118 (x := ((sW s : Nat) : Int)) rfl dX7_stand_43 ltc_0 shc_0 hk2.2.2.1 ?_
          refine Ev.lconst 1 rfl dX7_stand_46 ?_
          refine Ev.iload_n dX7_stand_47 rfl rfl ?_
          refine Ev.lshl dX7_stand_48 ?_
          rw [show (lShl (1) (((kr : Nat) : Int))) = ((2 ^ kr : Nat) : Int) from lshl1 (by omega)]
          refine Ev.lor dX7_stand_49 ?_
          rw [show (lOr (((sW s : Nat) : Int)) (((2 ^ kr : Nat) : Int))) = (((sW s ||| 2 ^ kr) : Nat) : Int) from lOr_nat (by omega) (by omega)]
          refine pf_X7_118 rfl dX7_stand_50 ltc_0 shc_0 ?_
          refine Ev.mem (τ := upC σ 0 5 ((sW s ||| 2 ^ kr) : Nat)) rfl ?_
          refine Ev.goto (tgt := 72) dX7_stand_53 (by decide) ?_
          refine Ev.aload_n dX7_stand_72 rfl rfl ?_
          refine Ev.callV_V (M2 := mX7_letRangesBeAsTold) (args2 := []) (rcv := 0) (q := (RX7, TX7, 20)) (ci := 7) dX7_stand_73 okX7_letRangesBeAsTold lk_X7_91 ovX7_letRangesBeAsTold.1.1 ovX7_letRangesBeAsTold.1.2 ovX7_letRangesBeAsTold.2 (by decide) rfl rfl ltc_0 shc_0 rfl (Nat.le_of_ble_eq_true rfl) (Nat.le_of_ble_eq_true rfl) (s7_asTold (upC σ 0 5 ((sW s ||| 2 ^ kr) : Nat))) ?_ rfl
          refine Ev.iload_n dX7_stand_76 rfl rfl ?_
          exact Ev.ireturn dX7_stand_77 rfl (rE (by unfold CP o_stand; (repeat rw [Int.toNat_natCast]); rw [ifP_f (by omega), ifP_f (by omega)]; exact ⟨(by show _ = ((b2 ((sW s).testBit kr) : Nat) : Int); first | (rw [b2_ne.mp h28]; rfl) | (rw [b2_0.mp h28]; rfl)), ⟨⟨hU, ((congrFun (cpy_ne (by decide)) 2).trans ((upC_self (by decide)).trans hk1.2.1)), (told_av hU (hk1.2.2.1.cg (fun x _ => (congrFun ((upC_ne (by decide)).trans rfl) x)))).1, (told_av hU (hk1.2.2.1.cg (fun x _ => (congrFun ((upC_ne (by decide)).trans rfl) x)))).2⟩, (k2_w hk2 (by rw [ifP_f (show ¬ i = 0 by omega)]; exact or_w hk2.2.2.2.1 (show kr < sN s by omega)) ((congrFun (cpy_ne (by decide)) 4).trans ((upC_self (by decide)).trans rfl)) ((congrFun (cpy_ne (by decide)) 5).trans (upC_at.trans (by rw [ifP_f (show ¬ i = 0 by omega)]))) (fun c q1 q2 => ((cpy_ne (Nat.ne_of_gt (Nat.lt_of_lt_of_le (show 2 < 26 by decide) q1))).trans ((upC_ne (Nat.ne_of_gt (Nat.lt_of_lt_of_le (show 0 < 26 by decide) q1))).trans rfl)))), (hk3.cg (fun c q1 q2 => ((cpy_ne (Nat.ne_of_gt (Nat.lt_of_lt_of_le (show 2 < 251 by decide) q1))).trans ((upC_ne (Nat.ne_of_gt (Nat.lt_of_lt_of_le (show 0 < 251 by decide) q1))).trans rfl)))), (hk4.cg (fun c q1 q2 _ => ((cpy_ne (Nat.ne_of_gt (Nat.lt_of_lt_of_le (show 2 < 4 by decide) q1))).trans ((upC_ne (Nat.ne_of_gt (Nat.lt_of_lt_of_le (show 0 < 4 by decide) q1))).trans rfl)))), (hk5.cg ((congrFun (cpy_ne (by decide)) 9).trans ((upC_self (by decide)).trans rfl)) ((cpy_ne (by decide)).trans ((upC_ne (by decide)).trans rfl))), (hk6.cg ((congrFun (cpy_ne (by decide)) 11).trans ((upC_self (by decide)).trans rfl)) ((cpy_ne (by decide)).trans ((upC_ne (by decide)).trans rfl))), (hk7.cg ((congrFun (cpy_ne (by decide)) 14).trans ((upC_self (by decide)).trans rfl)) ((cpy_ne (by decide)).trans ((upC_ne (by decide)).trans rfl)) (fun c q1 q2 => ((cpy_ne (Nat.ne_of_gt (Nat.lt_of_lt_of_le (show 2 < 90 by decide) q1))).trans ((upC_ne (Nat.ne_of_gt (Nat.lt_of_lt_of_le (show 0 < 90 by decide) q1))).trans rfl)))), ((congrFun (cpy_ne (by decide)) 15).trans ((upC_self (by decide)).trans hk8)), ((congrFun (cpy_ne (by decide)) 0).trans ((congrFun (upC_ne (by decide)) 0).trans hk9))⟩, (fun c q1 => ((cpy_ne (Nat.ne_of_gt (Nat.lt_of_lt_of_le (show 2 < 272 by decide) q1))).trans ((upC_ne (Nat.ne_of_gt (Nat.lt_of_lt_of_le (show 0 < 272 by decide) q1))).trans rfl)))⟩))
      · skip
        refine Ev.iconst dX7_stand_31 ?_
        refine Ev.goto (tgt := 36) dX7_stand_32 (by decide) ?_
        refine Ev.istore_n (pl' := [some (vR (0)), some (vI (((kr : Nat) : Int))), some (vI (i)), some (vI (1))]) dX7_stand_36 rfl (Nat.le_of_ble_eq_true rfl) rfl ?_
        refine Ev.iload_n dX7_stand_37 rfl rfl ?_
        refine Ev.if_eq (tgt := 56) ⟨by omega, by omega⟩ dX7_stand_38 (by decide) (fun h38 => ?_) (fun h38 => ?_)
        · skip
          refine Ev.aload_n dX7_stand_56 rfl rfl ?_
          refine Ev.dupR dX7_stand_57 ?_
          refine gf_X7_118 (x := ((sW s : Nat) : Int)) rfl dX7_stand_58 ltc_0 shc_0 hk2.2.2.1 ?_
          refine Ev.lconst 1 rfl dX7_stand_61 ?_
          refine Ev.iload_n dX7_stand_62 rfl rfl ?_
          refine Ev.lshl dX7_stand_63 ?_
          rw [show (lShl (1) (((kr : Nat) : Int))) = ((2 ^ kr : Nat) : Int) from lshl1 (by omega)]
          refine Ev.ldc2 (n := -1) (tbl_i 342 (by decide +kernel)) dX7_stand_64 ?_
          refine Ev.lxor dX7_stand_67 ?_
          rw [show (lXor (((2 ^ kr : Nat) : Int)) (-1)) = (-((2 ^ kr : Nat) : Int) - 1) from lXor_m1 (by omega)]
          refine Ev.land dX7_stand_68 ?_
          rw [show (lAnd (((sW s : Nat) : Int)) ((-((2 ^ kr : Nat) : Int) - 1))) = ((andN (sW s) (2 ^ kr) : Nat) : Int) from lAnd_not (by omega)]
          refine pf_X7_118 rfl dX7_stand_69 ltc_0 shc_0 ?_
          refine Ev.mem (τ := upC σ 0 5 ((andN (sW s) (2 ^ kr)) : Nat)) rfl ?_
          refine Ev.aload_n dX7_stand_72 rfl rfl ?_
          refine Ev.callV_V (M2 := mX7_letRangesBeAsTold) (args2 := []) (rcv := 0) (q := (RX7, TX7, 20)) (ci := 7) dX7_stand_73 okX7_letRangesBeAsTold lk_X7_91 ovX7_letRangesBeAsTold.1.1 ovX7_letRangesBeAsTold.1.2 ovX7_letRangesBeAsTold.2 (by decide) rfl rfl ltc_0 shc_0 rfl (Nat.le_of_ble_eq_true rfl) (Nat.le_of_ble_eq_true rfl) (s7_asTold (upC σ 0 5 ((andN (sW s) (2 ^ kr)) : Nat))) ?_ rfl
          refine Ev.iload_n dX7_stand_76 rfl rfl ?_
          exact Ev.ireturn dX7_stand_77 rfl (rE (by unfold CP o_stand; (repeat rw [Int.toNat_natCast]); rw [ifP_f (by omega), ifP_f (by omega)]; exact ⟨(by show _ = ((b2 ((sW s).testBit kr) : Nat) : Int); first | (rw [b2_ne.mp h28]; rfl) | (rw [b2_0.mp h28]; rfl)), ⟨⟨hU, ((congrFun (cpy_ne (by decide)) 2).trans ((upC_self (by decide)).trans hk1.2.1)), (told_av hU (hk1.2.2.1.cg (fun x _ => (congrFun ((upC_ne (by decide)).trans rfl) x)))).1, (told_av hU (hk1.2.2.1.cg (fun x _ => (congrFun ((upC_ne (by decide)).trans rfl) x)))).2⟩, (k2_w hk2 (by rw [ifP_t (show i = 0 by omega)]; exact andN_w hk2.2.2.2.1) ((congrFun (cpy_ne (by decide)) 4).trans ((upC_self (by decide)).trans rfl)) ((congrFun (cpy_ne (by decide)) 5).trans (upC_at.trans (by rw [ifP_t (show i = 0 by omega)]))) (fun c q1 q2 => ((cpy_ne (Nat.ne_of_gt (Nat.lt_of_lt_of_le (show 2 < 26 by decide) q1))).trans ((upC_ne (Nat.ne_of_gt (Nat.lt_of_lt_of_le (show 0 < 26 by decide) q1))).trans rfl)))), (hk3.cg (fun c q1 q2 => ((cpy_ne (Nat.ne_of_gt (Nat.lt_of_lt_of_le (show 2 < 251 by decide) q1))).trans ((upC_ne (Nat.ne_of_gt (Nat.lt_of_lt_of_le (show 0 < 251 by decide) q1))).trans rfl)))), (hk4.cg (fun c q1 q2 _ => ((cpy_ne (Nat.ne_of_gt (Nat.lt_of_lt_of_le (show 2 < 4 by decide) q1))).trans ((upC_ne (Nat.ne_of_gt (Nat.lt_of_lt_of_le (show 0 < 4 by decide) q1))).trans rfl)))), (hk5.cg ((congrFun (cpy_ne (by decide)) 9).trans ((upC_self (by decide)).trans rfl)) ((cpy_ne (by decide)).trans ((upC_ne (by decide)).trans rfl))), (hk6.cg ((congrFun (cpy_ne (by decide)) 11).trans ((upC_self (by decide)).trans rfl)) ((cpy_ne (by decide)).trans ((upC_ne (by decide)).trans rfl))), (hk7.cg ((congrFun (cpy_ne (by decide)) 14).trans ((upC_self (by decide)).trans rfl)) ((cpy_ne (by decide)).trans ((upC_ne (by decide)).trans rfl)) (fun c q1 q2 => ((cpy_ne (Nat.ne_of_gt (Nat.lt_of_lt_of_le (show 2 < 90 by decide) q1))).trans ((upC_ne (Nat.ne_of_gt (Nat.lt_of_lt_of_le (show 0 < 90 by decide) q1))).trans rfl)))), ((congrFun (cpy_ne (by decide)) 15).trans ((upC_self (by decide)).trans hk8)), ((congrFun (cpy_ne (by decide)) 0).trans ((congrFun (upC_ne (by decide)) 0).trans hk9))⟩, (fun c q1 => ((cpy_ne (Nat.ne_of_gt (Nat.lt_of_lt_of_le (show 2 < 272 by decide) q1))).trans ((upC_ne (Nat.ne_of_gt (Nat.lt_of_lt_of_le (show 0 < 272 by decide) q1))).trans rfl)))⟩))
        · skip
          refine Ev.aload_n dX7_stand_41 rfl rfl ?_
          refine Ev.dupR dX7_stand_42 ?_
          refine gf_X7_118 (x := ((sW s : Nat) : Int)) rfl dX7_stand_43 ltc_0 shc_0 hk2.2.2.1 ?_
          refine Ev.lconst 1 rfl dX7_stand_46 ?_
          refine Ev.iload_n dX7_stand_47 rfl rfl ?_
          refine Ev.lshl dX7_stand_48 ?_
          rw [show (lShl (1) (((kr : Nat) : Int))) = ((2 ^ kr : Nat) : Int) from lshl1 (by omega)]
          refine Ev.lor dX7_stand_49 ?_
          rw [show (lOr (((sW s : Nat) : Int)) (((2 ^ kr : Nat) : Int))) = (((sW s ||| 2 ^ kr) : Nat) : Int) from lOr_nat (by omega) (by omega)]
          refine pf_X7_118 rfl dX7_stand_50 ltc_0 shc_0 ?_
          refine Ev.mem (τ := upC σ 0 5 ((sW s ||| 2 ^ kr) : Nat)) rfl ?_
          refine Ev.goto (tgt := 72) dX7_stand_53 (by decide) ?_
          refine Ev.aload_n dX7_stand_72 rfl rfl ?_
          refine Ev.callV_V (M2 := mX7_letRangesBeAsTold) (args2 := []) (rcv := 0) (q := (RX7, TX7, 20)) (ci := 7) dX7_stand_73 okX7_letRangesBeAsTold lk_X7_91 ovX7_letRangesBeAsTold.1.1 ovX7_letRangesBeAsTold.1.2 ovX7_letRangesBeAsTold.2 (by decide) rfl rfl ltc_0 shc_0 rfl (Nat.le_of_ble_eq_true rfl) (Nat.le_of_ble_eq_true rfl) (s7_asTold (upC σ 0 5 ((sW s ||| 2 ^ kr) : Nat))) ?_ rfl
          refine Ev.iload_n dX7_stand_76 rfl rfl ?_
          exact Ev.ireturn dX7_stand_77 rfl (rE (by unfold CP o_stand; (repeat rw [Int.toNat_natCast]); rw [ifP_f (by omega), ifP_f (by omega)]; exact ⟨(by show _ = ((b2 ((sW s).testBit kr) : Nat) : Int); first | (rw [b2_ne.mp h28]; rfl) | (rw [b2_0.mp h28]; rfl)), ⟨⟨hU, ((congrFun (cpy_ne (by decide)) 2).trans ((upC_self (by decide)).trans hk1.2.1)), (told_av hU (hk1.2.2.1.cg (fun x _ => (congrFun ((upC_ne (by decide)).trans rfl) x)))).1, (told_av hU (hk1.2.2.1.cg (fun x _ => (congrFun ((upC_ne (by decide)).trans rfl) x)))).2⟩, (k2_w hk2 (by rw [ifP_f (show ¬ i = 0 by omega)]; exact or_w hk2.2.2.2.1 (show kr < sN s by omega)) ((congrFun (cpy_ne (by decide)) 4).trans ((upC_self (by decide)).trans rfl)) ((congrFun (cpy_ne (by decide)) 5).trans (upC_at.trans (by rw [ifP_f (show ¬ i = 0 by omega)]))) (fun c q1 q2 => ((cpy_ne (Nat.ne_of_gt (Nat.lt_of_lt_of_le (show 2 < 26 by decide) q1))).trans ((upC_ne (Nat.ne_of_gt (Nat.lt_of_lt_of_le (show 0 < 26 by decide) q1))).trans rfl)))), (hk3.cg (fun c q1 q2 => ((cpy_ne (Nat.ne_of_gt (Nat.lt_of_lt_of_le (show 2 < 251 by decide) q1))).trans ((upC_ne (Nat.ne_of_gt (Nat.lt_of_lt_of_le (show 0 < 251 by decide) q1))).trans rfl)))), (hk4.cg (fun c q1 q2 _ => ((cpy_ne (Nat.ne_of_gt (Nat.lt_of_lt_of_le (show 2 < 4 by decide) q1))).trans ((upC_ne (Nat.ne_of_gt (Nat.lt_of_lt_of_le (show 0 < 4 by decide) q1))).trans rfl)))), (hk5.cg ((congrFun (cpy_ne (by decide)) 9).trans ((upC_self (by decide)).trans rfl)) ((cpy_ne (by decide)).trans ((upC_ne (by decide)).trans rfl))), (hk6.cg ((congrFun (cpy_ne (by decide)) 11).trans ((upC_self (by decide)).trans rfl)) ((cpy_ne (by decide)).trans ((upC_ne (by decide)).trans rfl))), (hk7.cg ((congrFun (cpy_ne (by decide)) 14).trans ((upC_self (by decide)).trans rfl)) ((cpy_ne (by decide)).trans ((upC_ne (by decide)).trans rfl)) (fun c q1 q2 => ((cpy_ne (Nat.ne_of_gt (Nat.lt_of_lt_of_le (show 2 < 90 by decide) q1))).trans ((upC_ne (Nat.ne_of_gt (Nat.lt_of_lt_of_le (show 0 < 90 by decide) q1))).trans rfl)))), ((congrFun (cpy_ne (by decide)) 15).trans ((upC_self (by decide)).trans hk8)), ((congrFun (cpy_ne (by decide)) 0).trans ((congrFun (upC_ne (by decide)) 0).trans hk9))⟩, (fun c q1 => ((cpy_ne (Nat.ne_of_gt (Nat.lt_of_lt_of_le (show 2 < 272 by decide) q1))).trans ((upC_ne (Nat.ne_of_gt (Nat.lt_of_lt_of_le (show 0 < 272 by decide) q1))).trans rfl)))⟩))
    · skip
      refine Ev.bipush (n := -3) (by decide) dX7_stand_20 ?_
      exact Ev.ireturn dX7_stand_22 rfl (rE (by unfold CP o_stand; (repeat rw [Int.toNat_natCast]); rw [ifP_f (by omega), ifP_t (by omega)]; exact ⟨rfl, hC, (fun _ _ => rfl)⟩))
  · skip
    have q5 := bI_0.mp h5
    refine Ev.iconst dX7_stand_8 ?_
    exact Ev.ireturn dX7_stand_9 rfl (rE (by unfold CP o_stand; (repeat rw [Int.toNat_natCast]); rw [ifP_t (by omega)]; exact ⟨rfl, hC, (fun _ _ => rfl)⟩))

set_option maxRecDepth 100000 in
set_option maxHeartbeats 4000000 in
theorem c_tear {g : GC} (s : SS) (σ : Sg) (hC : CI s σ) (t : Int) (h_t : inR t) : Ev g mX7_tear 0 [some (vR (0)), some (vI (t)), none] [] (M0 (σ)) 0 0 (retE (CP σ (o_tear s t))) := by
  obtain ⟨hk1, hk2, hk3, hk4, hk5, hk6, hk7, hk8, hk9⟩ := id hC
  have hU := hk1.1
  have hN := hk2.1
  have hD := hk4.1
  have hM := hk7.1
  have hQ := hk5.1
  refine Ev.iload_n dX7_tear_0 rfl rfl ?_
  refine Ev.callS_I (M2 := mX7_isTable) (args2 := [vI (t)]) dX7_tear_1 okX7_isTable lk_X7_156 osX7_isTable.1 osX7_isTable.2 (by decide) rfl (Nat.le_of_ble_eq_true rfl) (Nat.le_of_ble_eq_true rfl) (s7_isTable σ (t) ⟨by omega, by omega⟩) ?_ rfl
  refine Ev.if_ne (tgt := 10) bI_inR dX7_tear_4 (by decide) (fun h4 => ?_) (fun h4 => ?_)
  · skip
    have q4 := bI_1.mp h4
    obtain ⟨kt, rfl⟩ : ∃ n_ : Nat, t = (n_ : Int) := ⟨t.toNat, by omega⟩
    refine Ev.aload_n dX7_tear_10 rfl rfl ?_
    refine gf_X7_25 rfl dX7_tear_11 ltc_0 shc_0 rfc_0_7 ?_
    refine gf_X7_85 (x := ((sD s : Nat) : Int)) rfl dX7_tear_14 ltc_4 shc_4 hk4.2.1 ?_
    refine Ev.if_le (tgt := 23) ⟨by omega, by omega⟩ dX7_tear_17 (by decide) (fun h17 => ?_) (fun h17 => ?_)
    · skip
      refine Ev.aload_n dX7_tear_23 rfl rfl ?_
      refine gf_X7_60 rfl dX7_tear_24 ltc_0 shc_0 rfc_0_6 ?_
      refine Ev.iload_n dX7_tear_27 rfl rfl ?_
      refine Ev.callV_I (M2 := mX6_isMissing) (args2 := [vI (((kt : Nat) : Int))]) (rcv := 250) (q := (RX6, TX6, 2)) (ci := 6) dX7_tear_28 okX6_isMissing lk_X7_163 ovX6_isMissing.1.1 ovX6_isMissing.1.2 ovX6_isMissing.2 (by decide) rfl rfl ltc_250 shc_250 rfl (Nat.le_of_ble_eq_true rfl) (Nat.le_of_ble_eq_true rfl) (s6_isMissing σ kt (by omega) (sB s) hk3) ?_ rfl
      refine Ev.if_eq (tgt := 38) bI_inR dX7_tear_31 (by decide) (fun h31 => ?_) (fun h31 => ?_)
      · skip
        have q31 := bI_0.mp h31
        refine Ev.iconst dX7_tear_38 ?_
        refine Ev.istore_n (pl' := [some (vR (0)), some (vI (((kt : Nat) : Int))), some (vI (0))]) dX7_tear_39 rfl (Nat.le_of_ble_eq_true rfl) rfl ?_
        refine Ev.aload_n dX7_tear_40 rfl rfl ?_
        refine gf_X7_60 rfl dX7_tear_41 ltc_0 shc_0 rfc_0_6 ?_
        refine gf_X7_166 rfl dX7_tear_44 ltc_250 shc_250 rfc_250_0 ?_
        refine Ev.iload_n dX7_tear_47 rfl rfl ?_
        refine Ev.iconst dX7_tear_48 ?_
        refine Ev.iastore dX7_tear_49 ltc_251 shc_251 (by decide) (by omega) (by omega) ?_
        refine Ev.mem (τ := upC σ 251 kt (-1)) rfl ?_
        refine Ev.aload_n dX7_tear_50 rfl rfl ?_
        refine Ev.callV_V (M2 := mX7_letRangesBeAsTold) (args2 := []) (rcv := 0) (q := (RX7, TX7, 20)) (ci := 7) dX7_tear_51 okX7_letRangesBeAsTold lk_X7_91 ovX7_letRangesBeAsTold.1.1 ovX7_letRangesBeAsTold.1.2 ovX7_letRangesBeAsTold.2 (by decide) rfl rfl ltc_0 shc_0 rfl (Nat.le_of_ble_eq_true rfl) (Nat.le_of_ble_eq_true rfl) (s7_asTold (upC σ 251 kt (-1))) ?_ rfl
        refine Ev.iload_n dX7_tear_54 rfl rfl ?_
        exact Ev.ireturn dX7_tear_55 rfl (rE (by unfold CP o_tear; (repeat rw [Int.toNat_natCast]); rw [ifP_f (by omega), ifP_f (by omega)]; exact ⟨(by first | exact bI_t q31 | exact bI_f q31), ⟨⟨hU, ((congrFun (cpy_ne (by decide)) 2).trans ((congrFun (upC_ne (by decide)) 2).trans hk1.2.1)), (told_av hU (hk1.2.2.1.cg (fun x _ => (congrFun ((upC_ne (by decide)).trans rfl) x)))).1, (told_av hU (hk1.2.2.1.cg (fun x _ => (congrFun ((upC_ne (by decide)).trans rfl) x)))).2⟩, (hk2.cg ((congrFun (cpy_ne (by decide)) 4).trans ((congrFun (upC_ne (by decide)) 4).trans rfl)) ((congrFun (cpy_ne (by decide)) 5).trans ((congrFun (upC_ne (by decide)) 5).trans rfl)) (fun c q1 q2 => ((cpy_ne (Nat.ne_of_gt (Nat.lt_of_lt_of_le (show 2 < 26 by decide) q1))).trans ((upC_ne (Nat.ne_of_lt (Nat.lt_of_lt_of_le q2 (show 90 ≤ 251 by decide)))).trans rfl)))), (tv_tear hk3 (cpy_ne (by decide)) (fun c q1 q2 => (cpy_ne (by omega)).trans (upC_ne (by omega)))), (hk4.cg (fun c q1 q2 _ => ((cpy_ne (Nat.ne_of_gt (Nat.lt_of_lt_of_le (show 2 < 4 by decide) q1))).trans ((upC_ne (Nat.ne_of_lt (Nat.lt_of_lt_of_le q2 (show 20 ≤ 251 by decide)))).trans rfl)))), (hk5.cg ((congrFun (cpy_ne (by decide)) 9).trans ((congrFun (upC_ne (by decide)) 9).trans rfl)) ((cpy_ne (by decide)).trans ((upC_ne (by decide)).trans rfl))), (hk6.cg ((congrFun (cpy_ne (by decide)) 11).trans ((congrFun (upC_ne (by decide)) 11).trans rfl)) ((cpy_ne (by decide)).trans ((upC_ne (by decide)).trans rfl))), (hk7.cg ((congrFun (cpy_ne (by decide)) 14).trans ((congrFun (upC_ne (by decide)) 14).trans rfl)) ((cpy_ne (by decide)).trans ((upC_ne (by decide)).trans rfl)) (fun c q1 q2 => ((cpy_ne (Nat.ne_of_gt (Nat.lt_of_lt_of_le (show 2 < 90 by decide) q1))).trans ((upC_ne (Nat.ne_of_lt (Nat.lt_of_lt_of_le q2 (show 250 ≤ 251 by decide)))).trans rfl)))), ((congrFun (cpy_ne (by decide)) 15).trans ((congrFun (upC_ne (by decide)) 15).trans hk8)), ((congrFun (cpy_ne (by decide)) 0).trans ((congrFun (upC_ne (by decide)) 0).trans hk9))⟩, (fun c q1 => ((cpy_ne (Nat.ne_of_gt (Nat.lt_of_lt_of_le (show 2 < 272 by decide) q1))).trans ((upC_ne (Nat.ne_of_gt (Nat.lt_of_lt_of_le (show 251 < 272 by decide) q1))).trans rfl)))⟩))
      · skip
        have q31 := bI_1.mp h31
        refine Ev.iconst dX7_tear_34 ?_
        refine Ev.goto (tgt := 39) dX7_tear_35 (by decide) ?_
        refine Ev.istore_n (pl' := [some (vR (0)), some (vI (((kt : Nat) : Int))), some (vI (1))]) dX7_tear_39 rfl (Nat.le_of_ble_eq_true rfl) rfl ?_
        refine Ev.aload_n dX7_tear_40 rfl rfl ?_
        refine gf_X7_60 rfl dX7_tear_41 ltc_0 shc_0 rfc_0_6 ?_
        refine gf_X7_166 rfl dX7_tear_44 ltc_250 shc_250 rfc_250_0 ?_
        refine Ev.iload_n dX7_tear_47 rfl rfl ?_
        refine Ev.iconst dX7_tear_48 ?_
        refine Ev.iastore dX7_tear_49 ltc_251 shc_251 (by decide) (by omega) (by omega) ?_
        refine Ev.mem (τ := upC σ 251 kt (-1)) rfl ?_
        refine Ev.aload_n dX7_tear_50 rfl rfl ?_
        refine Ev.callV_V (M2 := mX7_letRangesBeAsTold) (args2 := []) (rcv := 0) (q := (RX7, TX7, 20)) (ci := 7) dX7_tear_51 okX7_letRangesBeAsTold lk_X7_91 ovX7_letRangesBeAsTold.1.1 ovX7_letRangesBeAsTold.1.2 ovX7_letRangesBeAsTold.2 (by decide) rfl rfl ltc_0 shc_0 rfl (Nat.le_of_ble_eq_true rfl) (Nat.le_of_ble_eq_true rfl) (s7_asTold (upC σ 251 kt (-1))) ?_ rfl
        refine Ev.iload_n dX7_tear_54 rfl rfl ?_
        exact Ev.ireturn dX7_tear_55 rfl (rE (by unfold CP o_tear; (repeat rw [Int.toNat_natCast]); rw [ifP_f (by omega), ifP_f (by omega)]; exact ⟨(by first | exact bI_t q31 | exact bI_f q31), ⟨⟨hU, ((congrFun (cpy_ne (by decide)) 2).trans ((congrFun (upC_ne (by decide)) 2).trans hk1.2.1)), (told_av hU (hk1.2.2.1.cg (fun x _ => (congrFun ((upC_ne (by decide)).trans rfl) x)))).1, (told_av hU (hk1.2.2.1.cg (fun x _ => (congrFun ((upC_ne (by decide)).trans rfl) x)))).2⟩, (hk2.cg ((congrFun (cpy_ne (by decide)) 4).trans ((congrFun (upC_ne (by decide)) 4).trans rfl)) ((congrFun (cpy_ne (by decide)) 5).trans ((congrFun (upC_ne (by decide)) 5).trans rfl)) (fun c q1 q2 => ((cpy_ne (Nat.ne_of_gt (Nat.lt_of_lt_of_le (show 2 < 26 by decide) q1))).trans ((upC_ne (Nat.ne_of_lt (Nat.lt_of_lt_of_le q2 (show 90 ≤ 251 by decide)))).trans rfl)))), (tv_tear hk3 (cpy_ne (by decide)) (fun c q1 q2 => (cpy_ne (by omega)).trans (upC_ne (by omega)))), (hk4.cg (fun c q1 q2 _ => ((cpy_ne (Nat.ne_of_gt (Nat.lt_of_lt_of_le (show 2 < 4 by decide) q1))).trans ((upC_ne (Nat.ne_of_lt (Nat.lt_of_lt_of_le q2 (show 20 ≤ 251 by decide)))).trans rfl)))), (hk5.cg ((congrFun (cpy_ne (by decide)) 9).trans ((congrFun (upC_ne (by decide)) 9).trans rfl)) ((cpy_ne (by decide)).trans ((upC_ne (by decide)).trans rfl))), (hk6.cg ((congrFun (cpy_ne (by decide)) 11).trans ((congrFun (upC_ne (by decide)) 11).trans rfl)) ((cpy_ne (by decide)).trans ((upC_ne (by decide)).trans rfl))), (hk7.cg ((congrFun (cpy_ne (by decide)) 14).trans ((congrFun (upC_ne (by decide)) 14).trans rfl)) ((cpy_ne (by decide)).trans ((upC_ne (by decide)).trans rfl)) (fun c q1 q2 => ((cpy_ne (Nat.ne_of_gt (Nat.lt_of_lt_of_le (show 2 < 90 by decide) q1))).trans ((upC_ne (Nat.ne_of_lt (Nat.lt_of_lt_of_le q2 (show 250 ≤ 251 by decide)))).trans rfl)))), ((congrFun (cpy_ne (by decide)) 15).trans ((congrFun (upC_ne (by decide)) 15).trans hk8)), ((congrFun (cpy_ne (by decide)) 0).trans ((congrFun (upC_ne (by decide)) 0).trans hk9))⟩, (fun c q1 => ((cpy_ne (Nat.ne_of_gt (Nat.lt_of_lt_of_le (show 2 < 272 by decide) q1))).trans ((upC_ne (Nat.ne_of_gt (Nat.lt_of_lt_of_le (show 251 < 272 by decide) q1))).trans rfl)))⟩))
    · skip
      refine Ev.bipush (n := -3) (by decide) dX7_tear_20 ?_
      exact Ev.ireturn dX7_tear_22 rfl (rE (by unfold CP o_tear; (repeat rw [Int.toNat_natCast]); rw [ifP_f (by omega), ifP_t (by omega)]; exact ⟨rfl, hC, (fun _ _ => rfl)⟩))
  · skip
    have q4 := bI_0.mp h4
    refine Ev.bipush (n := -2) (by decide) dX7_tear_7 ?_
    exact Ev.ireturn dX7_tear_9 rfl (rE (by unfold CP o_tear; (repeat rw [Int.toNat_natCast]); rw [ifP_t (by omega)]; exact ⟨rfl, hC, (fun _ _ => rfl)⟩))

set_option maxRecDepth 100000 in
set_option maxHeartbeats 4000000 in
theorem c_cell {g : GC} (s : SS) (σ : Sg) (hC : CI s σ) (t : Int) (h_t : inR t) (i : Int) (h_i : inR i) (v : Int) (h_v : inR v) : Ev g mX7_cell 0 [some (vR (0)), some (vI (t)), some (vI (i)), some (vI (v))] [] (M0 (σ)) 0 0 (retE (CP σ (o_cell s t i v))) := by
  obtain ⟨hk1, hk2, hk3, hk4, hk5, hk6, hk7, hk8, hk9⟩ := id hC
  have hU := hk1.1
  have hN := hk2.1
  have hD := hk4.1
  have hM := hk7.1
  have hQ := hk5.1
  refine Ev.iload_n dX7_cell_0 rfl rfl ?_
  refine Ev.callS_I (M2 := mX7_isTable) (args2 := [vI (t)]) dX7_cell_1 okX7_isTable lk_X7_156 osX7_isTable.1 osX7_isTable.2 (by decide) rfl (Nat.le_of_ble_eq_true rfl) (Nat.le_of_ble_eq_true rfl) (s7_isTable σ (t) ⟨by omega, by omega⟩) ?_ rfl
  refine Ev.if_eq (tgt := 14) bI_inR dX7_cell_4 (by decide) (fun h4 => ?_) (fun h4 => ?_)
  · skip
    have q4 := bI_0.mp h4
    refine Ev.bipush (n := -2) (by decide) dX7_cell_14 ?_
    exact Ev.ireturn dX7_cell_16 rfl (rE (by unfold CP o_cell; (repeat rw [Int.toNat_natCast]); rw [ifP_t (by first | exact fun z => absurd z.1 (by omega) | exact fun z => absurd z.2 (by omega))]; exact ⟨rfl, hC, (fun _ _ => rfl)⟩))
  · skip
    have q4 := bI_1.mp h4
    refine Ev.iload_n dX7_cell_7 rfl rfl ?_
    refine Ev.callS_I (M2 := mX7_isNumber) (args2 := [vI (v)]) dX7_cell_8 okX7_isNumber lk_X7_98 osX7_isNumber.1 osX7_isNumber.2 (by decide) rfl (Nat.le_of_ble_eq_true rfl) (Nat.le_of_ble_eq_true rfl) (s7_isNumber σ (v) ⟨by omega, by omega⟩) ?_ rfl
    refine Ev.if_ne (tgt := 17) bI_inR dX7_cell_11 (by decide) (fun h11 => ?_) (fun h11 => ?_)
    · skip
      have q11 := bI_1.mp h11
      obtain ⟨kt, rfl⟩ : ∃ n_ : Nat, t = (n_ : Int) := ⟨t.toNat, by omega⟩
      obtain ⟨kv, rfl⟩ : ∃ n_ : Nat, v = (n_ : Int) := ⟨v.toNat, by omega⟩
      refine Ev.aload_n dX7_cell_17 rfl rfl ?_
      refine gf_X7_25 rfl dX7_cell_18 ltc_0 shc_0 rfc_0_7 ?_
      refine gf_X7_85 (x := ((sD s : Nat) : Int)) rfl dX7_cell_21 ltc_4 shc_4 hk4.2.1 ?_
      refine Ev.if_le (tgt := 30) ⟨by omega, by omega⟩ dX7_cell_24 (by decide) (fun h24 => ?_) (fun h24 => ?_)
      · skip
        refine Ev.aload_n dX7_cell_30 rfl rfl ?_
        refine gf_X7_60 rfl dX7_cell_31 ltc_0 shc_0 rfc_0_6 ?_
        refine Ev.iload_n dX7_cell_34 rfl rfl ?_
        refine Ev.callV_I (M2 := mX6_isMissing) (args2 := [vI (((kt : Nat) : Int))]) (rcv := 250) (q := (RX6, TX6, 2)) (ci := 6) dX7_cell_35 okX6_isMissing lk_X7_163 ovX6_isMissing.1.1 ovX6_isMissing.1.2 ovX6_isMissing.2 (by decide) rfl rfl ltc_250 shc_250 rfl (Nat.le_of_ble_eq_true rfl) (Nat.le_of_ble_eq_true rfl) (s6_isMissing σ kt (by omega) (sB s) hk3) ?_ rfl
        refine Ev.if_eq (tgt := 48) bI_inR dX7_cell_38 (by decide) (fun h38 => ?_) (fun h38 => ?_)
        · skip
          have q38 := bI_0.mp h38
          refine Ev.aload_n dX7_cell_48 rfl rfl ?_
          refine gf_X7_60 rfl dX7_cell_49 ltc_0 shc_0 rfc_0_6 ?_
          refine Ev.iload_n dX7_cell_52 rfl rfl ?_
          refine Ev.iload_n dX7_cell_53 rfl rfl ?_
          refine Ev.iconst dX7_cell_54 ?_
          refine Ev.callV_I (M2 := mX6_hasCells) (args2 := [vI (((kt : Nat) : Int)), vI (i), vI (1)]) (rcv := 250) (q := (RX6, TX6, 2)) (ci := 6) dX7_cell_55 okX6_hasCells lk_X7_168 ovX6_hasCells.1.1 ovX6_hasCells.1.2 ovX6_hasCells.2 (by decide) rfl rfl ltc_250 shc_250 rfl (Nat.le_of_ble_eq_true rfl) (Nat.le_of_ble_eq_true rfl) (s6_hasCells σ kt (by omega) (sB s) hk3 (i) (1) ⟨by omega, by omega⟩ ⟨by omega, by omega⟩) ?_ rfl
          refine Ev.if_ne (tgt := 68) bI_inR dX7_cell_58 (by decide) (fun h58 => ?_) (fun h58 => ?_)
          · skip
            have q58 := bI_1.mp h58
            obtain ⟨ki, rfl⟩ : ∃ n_ : Nat, i = (n_ : Int) := ⟨i.toNat, by omega⟩
            have hzb := (hk3 kt (by omega)).2.1
            refine Ev.aload_n dX7_cell_68 rfl rfl ?_
            refine gf_X7_60 rfl dX7_cell_69 ltc_0 shc_0 rfc_0_6 ?_
            refine gf_X7_171 rfl dX7_cell_72 ltc_250 shc_250 rfc_250_1 ?_
            refine Ev.iload_n dX7_cell_75 rfl rfl ?_
            refine Ev.maload dX7_cell_76 ltc_252 shc_252 (by decide) (by omega) (by omega) (rf_tc (by omega)) ?_
            refine Ev.iload_n dX7_cell_77 rfl rfl ?_
            refine Ev.iload_n dX7_cell_78 rfl rfl ?_
            refine Ev.iastore dX7_cell_79 (lt_tc (by omega)) (sh_tc (by omega)) (by decide) (by omega) (by omega) ?_
            refine Ev.mem (τ := upC σ (253 + kt) ki (kv : Int)) (by simp only [Int.toNat_natCast]) ?_
            refine Ev.aload_n dX7_cell_80 rfl rfl ?_
            refine Ev.callV_V (M2 := mX7_letRangesBeAsTold) (args2 := []) (rcv := 0) (q := (RX7, TX7, 20)) (ci := 7) dX7_cell_81 okX7_letRangesBeAsTold lk_X7_91 ovX7_letRangesBeAsTold.1.1 ovX7_letRangesBeAsTold.1.2 ovX7_letRangesBeAsTold.2 (by decide) rfl rfl ltc_0 shc_0 rfl (Nat.le_of_ble_eq_true rfl) (Nat.le_of_ble_eq_true rfl) (s7_asTold (upC σ (253 + kt) ki (kv : Int))) ?_ rfl
            refine Ev.iconst dX7_cell_84 ?_
            exact Ev.ireturn dX7_cell_85 rfl (rE (by have hk3n : TVc (cpy (upC σ (253 + kt) ki (kv : Int)) 1 2 0 0 10) ((sB s).1, updF (sB s).2 kt (updF ((sB s).2 kt) ki kv)) := tv_set hk3 ((cpy_ne (by decide)).trans (upC_ne (by omega))) (fun u hu hne => (cpy_ne (by omega)).trans (upC_ne (by omega))) (fun j hj => by rw [cpy_ne (by omega)]; by_cases e : j = ki; (rw [e, upC_at, updF_at]; exact ⟨rfl, by omega⟩); (rw [upC_self e, updF_ne e]; exact (hk3 kt (by omega)).2.2 j hj)); unfold CP o_cell; (repeat rw [Int.toNat_natCast]); rw [ifP_f (fun z => z ⟨⟨by omega, by omega⟩, ⟨by omega, by omega⟩⟩), ifP_f (by omega), ifP_f q38, ifP_f (by omega)]; exact ⟨rfl, ⟨⟨hU, ((congrFun (cpy_ne (by decide)) 2).trans ((congrFun (upC_ne (by omega)) 2).trans hk1.2.1)), (told_av hU (hk1.2.2.1.cg (fun x _ => (congrFun ((upC_ne (by omega)).trans rfl) x)))).1, (told_av hU (hk1.2.2.1.cg (fun x _ => (congrFun ((upC_ne (by omega)).trans rfl) x)))).2⟩, (hk2.cg ((congrFun (cpy_ne (by decide)) 4).trans ((congrFun (upC_ne (by omega)) 4).trans rfl)) ((congrFun (cpy_ne (by decide)) 5).trans ((congrFun (upC_ne (by omega)) 5).trans rfl)) (fun c q1 q2 => ((cpy_ne (Nat.ne_of_gt (Nat.lt_of_lt_of_le (show 2 < 26 by decide) q1))).trans ((upC_ne (by omega)).trans rfl)))), hk3n, (hk4.cg (fun c q1 q2 _ => ((cpy_ne (Nat.ne_of_gt (Nat.lt_of_lt_of_le (show 2 < 4 by decide) q1))).trans ((upC_ne (by omega)).trans rfl)))), (hk5.cg ((congrFun (cpy_ne (by decide)) 9).trans ((congrFun (upC_ne (by omega)) 9).trans rfl)) ((cpy_ne (by decide)).trans ((upC_ne (by omega)).trans rfl))), (hk6.cg ((congrFun (cpy_ne (by decide)) 11).trans ((congrFun (upC_ne (by omega)) 11).trans rfl)) ((cpy_ne (by decide)).trans ((upC_ne (by omega)).trans rfl))), (hk7.cg ((congrFun (cpy_ne (by decide)) 14).trans ((congrFun (upC_ne (by omega)) 14).trans rfl)) ((cpy_ne (by decide)).trans ((upC_ne (by omega)).trans rfl)) (fun c q1 q2 => ((cpy_ne (Nat.ne_of_gt (Nat.lt_of_lt_of_le (show 2 < 90 by decide) q1))).trans ((upC_ne (by omega)).trans rfl)))), ((congrFun (cpy_ne (by decide)) 15).trans ((congrFun (upC_ne (by omega)) 15).trans hk8)), ((congrFun (cpy_ne (by decide)) 0).trans ((congrFun (upC_ne (by omega)) 0).trans hk9))⟩, (fun c q1 => ((cpy_ne (Nat.ne_of_gt (Nat.lt_of_lt_of_le (show 2 < 272 by decide) q1))).trans ((upC_ne (by omega)).trans rfl)))⟩))
          · skip
            have q58 := bI_0.mp h58
            refine Ev.aload_n dX7_cell_61 rfl rfl ?_
            refine Ev.bipush (n := -12) (by decide) dX7_cell_62 ?_
            refine Ev.callV_I (M2 := mX7_found) (args2 := [vI (-12)]) (rcv := 0) (q := (RX7, TX7, 20)) (ci := 7) dX7_cell_64 okX7_found lk_X7_128 ovX7_found.1.1 ovX7_found.1.2 ovX7_found.2 (by decide) rfl rfl ltc_0 shc_0 rfl (Nat.le_of_ble_eq_true rfl) (Nat.le_of_ble_eq_true rfl) (s7_found σ (-12) (sF s) hk8) ?_ rfl
            exact Ev.ireturn dX7_cell_67 rfl (rE (by unfold CP o_cell; (repeat rw [Int.toNat_natCast]); rw [ifP_f (fun z => z ⟨⟨by omega, by omega⟩, ⟨by omega, by omega⟩⟩), ifP_f (by omega), ifP_f q38, ifP_t (by omega)]; exact ⟨rfl, hC.found, (fun c hc => upC_ne (by omega))⟩))
        · skip
          have q38 := bI_1.mp h38
          refine Ev.aload_n dX7_cell_41 rfl rfl ?_
          refine Ev.bipush (n := -11) (by decide) dX7_cell_42 ?_
          refine Ev.callV_I (M2 := mX7_found) (args2 := [vI (-11)]) (rcv := 0) (q := (RX7, TX7, 20)) (ci := 7) dX7_cell_44 okX7_found lk_X7_128 ovX7_found.1.1 ovX7_found.1.2 ovX7_found.2 (by decide) rfl rfl ltc_0 shc_0 rfl (Nat.le_of_ble_eq_true rfl) (Nat.le_of_ble_eq_true rfl) (s7_found σ (-11) (sF s) hk8) ?_ rfl
          exact Ev.ireturn dX7_cell_47 rfl (rE (by unfold CP o_cell; (repeat rw [Int.toNat_natCast]); rw [ifP_f (fun z => z ⟨⟨by omega, by omega⟩, ⟨by omega, by omega⟩⟩), ifP_f (by omega), ifP_t q38]; exact ⟨rfl, hC.found, (fun c hc => upC_ne (by omega))⟩))
      · skip
        refine Ev.bipush (n := -3) (by decide) dX7_cell_27 ?_
        exact Ev.ireturn dX7_cell_29 rfl (rE (by unfold CP o_cell; (repeat rw [Int.toNat_natCast]); rw [ifP_f (fun z => z ⟨⟨by omega, by omega⟩, ⟨by omega, by omega⟩⟩), ifP_t (by omega)]; exact ⟨rfl, hC, (fun _ _ => rfl)⟩))
    · skip
      have q11 := bI_0.mp h11
      refine Ev.bipush (n := -2) (by decide) dX7_cell_14 ?_
      exact Ev.ireturn dX7_cell_16 rfl (rE (by unfold CP o_cell; (repeat rw [Int.toNat_natCast]); rw [ifP_t (by first | exact fun z => absurd z.1 (by omega) | exact fun z => absurd z.2 (by omega))]; exact ⟨rfl, hC, (fun _ _ => rfl)⟩))

set_option maxRecDepth 100000 in
set_option maxHeartbeats 4000000 in
theorem c_get {g : GC} (s : SS) (σ : Sg) (hC : CI s σ) (t : Int) (h_t : inR t) (i : Int) (h_i : inR i) : Ev g mX7_get 0 [some (vR (0)), some (vI (t)), some (vI (i))] [] (M0 (σ)) 0 0 (retE (CP σ (o_get s t i))) := by
  obtain ⟨hk1, hk2, hk3, hk4, hk5, hk6, hk7, hk8, hk9⟩ := id hC
  have hU := hk1.1
  have hN := hk2.1
  have hD := hk4.1
  have hM := hk7.1
  have hQ := hk5.1
  refine Ev.iload_n dX7_get_0 rfl rfl ?_
  refine Ev.callS_I (M2 := mX7_isTable) (args2 := [vI (t)]) dX7_get_1 okX7_isTable lk_X7_156 osX7_isTable.1 osX7_isTable.2 (by decide) rfl (Nat.le_of_ble_eq_true rfl) (Nat.le_of_ble_eq_true rfl) (s7_isTable σ (t) ⟨by omega, by omega⟩) ?_ rfl
  refine Ev.if_ne (tgt := 10) bI_inR dX7_get_4 (by decide) (fun h4 => ?_) (fun h4 => ?_)
  · skip
    have q4 := bI_1.mp h4
    obtain ⟨kt, rfl⟩ : ∃ n_ : Nat, t = (n_ : Int) := ⟨t.toNat, by omega⟩
    refine Ev.aload_n dX7_get_10 rfl rfl ?_
    refine gf_X7_60 rfl dX7_get_11 ltc_0 shc_0 rfc_0_6 ?_
    refine Ev.iload_n dX7_get_14 rfl rfl ?_
    refine Ev.callV_I (M2 := mX6_isMissing) (args2 := [vI (((kt : Nat) : Int))]) (rcv := 250) (q := (RX6, TX6, 2)) (ci := 6) dX7_get_15 okX6_isMissing lk_X7_163 ovX6_isMissing.1.1 ovX6_isMissing.1.2 ovX6_isMissing.2 (by decide) rfl rfl ltc_250 shc_250 rfl (Nat.le_of_ble_eq_true rfl) (Nat.le_of_ble_eq_true rfl) (s6_isMissing σ kt (by omega) (sB s) hk3) ?_ rfl
    refine Ev.if_eq (tgt := 28) bI_inR dX7_get_18 (by decide) (fun h18 => ?_) (fun h18 => ?_)
    · skip
      have q18 := bI_0.mp h18
      refine Ev.aload_n dX7_get_28 rfl rfl ?_
      refine gf_X7_60 rfl dX7_get_29 ltc_0 shc_0 rfc_0_6 ?_
      refine Ev.iload_n dX7_get_32 rfl rfl ?_
      refine Ev.iload_n dX7_get_33 rfl rfl ?_
      refine Ev.iconst dX7_get_34 ?_
      refine Ev.callV_I (M2 := mX6_hasCells) (args2 := [vI (((kt : Nat) : Int)), vI (i), vI (1)]) (rcv := 250) (q := (RX6, TX6, 2)) (ci := 6) dX7_get_35 okX6_hasCells lk_X7_168 ovX6_hasCells.1.1 ovX6_hasCells.1.2 ovX6_hasCells.2 (by decide) rfl rfl ltc_250 shc_250 rfl (Nat.le_of_ble_eq_true rfl) (Nat.le_of_ble_eq_true rfl) (s6_hasCells σ kt (by omega) (sB s) hk3 (i) (1) ⟨by omega, by omega⟩ ⟨by omega, by omega⟩) ?_ rfl
      refine Ev.if_ne (tgt := 48) bI_inR dX7_get_38 (by decide) (fun h38 => ?_) (fun h38 => ?_)
      · skip
        have q38 := bI_1.mp h38
        obtain ⟨ki, rfl⟩ : ∃ n_ : Nat, i = (n_ : Int) := ⟨i.toNat, by omega⟩
        have hzb := (hk3 kt (by omega)).2.1
        refine Ev.aload_n dX7_get_48 rfl rfl ?_
        refine gf_X7_60 rfl dX7_get_49 ltc_0 shc_0 rfc_0_6 ?_
        refine gf_X7_171 rfl dX7_get_52 ltc_250 shc_250 rfc_250_1 ?_
        refine Ev.iload_n dX7_get_55 rfl rfl ?_
        refine Ev.maload dX7_get_56 ltc_252 shc_252 (by decide) (by omega) (by omega) (rf_tc (by omega)) ?_
        refine Ev.iload_n dX7_get_57 rfl rfl ?_
        refine Ev.iaload (v := (((sB s).2 kt ki : Nat) : Int)) dX7_get_58 (lt_tc (by omega)) (sh_tc (by omega)) (by decide) (by omega) (by omega) (ldx rfl ((hk3 kt (by omega)).2.2 ki (by omega)).1) ?_
        exact Ev.ireturn dX7_get_59 rfl (rE (by unfold CP o_get; (repeat rw [Int.toNat_natCast]); rw [ifP_f (by omega), ifP_f q18, ifP_f (by omega)]; exact ⟨rfl, hC, (fun _ _ => rfl)⟩))
      · skip
        have q38 := bI_0.mp h38
        refine Ev.aload_n dX7_get_41 rfl rfl ?_
        refine Ev.bipush (n := -12) (by decide) dX7_get_42 ?_
        refine Ev.callV_I (M2 := mX7_found) (args2 := [vI (-12)]) (rcv := 0) (q := (RX7, TX7, 20)) (ci := 7) dX7_get_44 okX7_found lk_X7_128 ovX7_found.1.1 ovX7_found.1.2 ovX7_found.2 (by decide) rfl rfl ltc_0 shc_0 rfl (Nat.le_of_ble_eq_true rfl) (Nat.le_of_ble_eq_true rfl) (s7_found σ (-12) (sF s) hk8) ?_ rfl
        exact Ev.ireturn dX7_get_47 rfl (rE (by unfold CP o_get; (repeat rw [Int.toNat_natCast]); rw [ifP_f (by omega), ifP_f q18, ifP_t (by omega)]; exact ⟨rfl, hC.found, (fun c hc => upC_ne (by omega))⟩))
    · skip
      have q18 := bI_1.mp h18
      refine Ev.aload_n dX7_get_21 rfl rfl ?_
      refine Ev.bipush (n := -11) (by decide) dX7_get_22 ?_
      refine Ev.callV_I (M2 := mX7_found) (args2 := [vI (-11)]) (rcv := 0) (q := (RX7, TX7, 20)) (ci := 7) dX7_get_24 okX7_found lk_X7_128 ovX7_found.1.1 ovX7_found.1.2 ovX7_found.2 (by decide) rfl rfl ltc_0 shc_0 rfl (Nat.le_of_ble_eq_true rfl) (Nat.le_of_ble_eq_true rfl) (s7_found σ (-11) (sF s) hk8) ?_ rfl
      exact Ev.ireturn dX7_get_27 rfl (rE (by unfold CP o_get; (repeat rw [Int.toNat_natCast]); rw [ifP_f (by omega), ifP_t q18]; exact ⟨rfl, hC.found, (fun c hc => upC_ne (by omega))⟩))
  · skip
    have q4 := bI_0.mp h4
    refine Ev.bipush (n := -2) (by decide) dX7_get_7 ?_
    exact Ev.ireturn dX7_get_9 rfl (rE (by unfold CP o_get; (repeat rw [Int.toNat_natCast]); rw [ifP_t (by omega)]; exact ⟨rfl, hC, (fun _ _ => rfl)⟩))

set_option maxRecDepth 100000 in
set_option maxHeartbeats 4000000 in
theorem c_about {g : GC} (s : SS) (σ : Sg) (hC : CI s σ) (r : Int) (h_r : inR r) (w : Int) (h_w : inR w) : Ev g mX7_about 0 [some (vR (0)), some (vI (r)), some (vI (w)), none] [] (M0 (σ)) 0 0 (retE (CP σ (o_about s r w))) := by
  obtain ⟨hk1, hk2, hk3, hk4, hk5, hk6, hk7, hk8, hk9⟩ := id hC
  have hU := hk1.1
  have hN := hk2.1
  have hD := hk4.1
  have hM := hk7.1
  have hQ := hk5.1
  refine Ev.aload_n dX7_about_0 rfl rfl ?_
  refine Ev.iload_n dX7_about_1 rfl rfl ?_
  refine Ev.callV_I (M2 := mX7_isRule) (args2 := [vI (r)]) (rcv := 0) (q := (RX7, TX7, 20)) (ci := 7) dX7_about_2 okX7_isRule lk_X7_122 ovX7_isRule.1.1 ovX7_isRule.1.2 ovX7_isRule.2 (by decide) rfl rfl ltc_0 shc_0 rfl (Nat.le_of_ble_eq_true rfl) (Nat.le_of_ble_eq_true rfl) (s7_isRule σ (sN s) hN hk2.2.1 (r) ⟨by omega, by omega⟩) ?_ rfl
  refine Ev.if_ne (tgt := 10) bI_inR dX7_about_5 (by decide) (fun h5 => ?_) (fun h5 => ?_)
  · skip
    have q5 := bI_1.mp h5
    obtain ⟨kr, rfl⟩ : ∃ n_ : Nat, r = (n_ : Int) := ⟨r.toNat, by omega⟩
    have hRk := hk2.2.2.2.2.1 kr (by omega)
    have hkd5 := hRk.2.1.1
    refine Ev.aload_n dX7_about_10 rfl rfl ?_
    refine gf_X7_18 rfl dX7_about_11 ltc_0 shc_0 rfc_0_3 ?_
    refine Ev.iload_n dX7_about_14 rfl rfl ?_
    refine Ev.raload dX7_about_15 ltc_3 shc_3 (by decide) (by omega) (by omega) (rf_rule (by omega)) ?_
    refine Ev.astore_n (pl' := [some (vR (0)), some (vI (((kr : Nat) : Int))), some (vI (w)), some (vR (26 + 4 * kr))]) dX7_about_16 rfl (Nat.le_of_ble_eq_true rfl) rfl ?_
    refine Ev.iload_n dX7_about_17 rfl rfl ?_
    have hcs : w = 0 ∨ w = 1 ∨ w = 2 ∨ (w < 0 ∨ 2 < w) := by omega
    rcases hcs with hk | hk | hk | hk
    · skip
      subst hk
      refine Ev.tableIn (tgt := 44) dX7_about_18 ⟨by decide, by decide⟩ (by decide) (by decide) rfl (by decide) ?_
      refine Ev.aload_n dX7_about_44 rfl rfl ?_
      refine gf_X7_125 (x := ((rK (sR s kr) : Nat) : Int)) rfl dX7_about_45 (lt_rc (by omega)) (sh_rc (by omega)) (hk2.2.2.2.2.1 kr (by omega)).1.1 ?_
      refine Ev.if_ne (tgt := 58) ⟨by omega, by omega⟩ dX7_about_48 (by decide) (fun h48 => ?_) (fun h48 => ?_)
      · skip
        refine Ev.aload_n dX7_about_58 rfl rfl ?_
        refine Ev.bipush (n := -13) (by decide) dX7_about_59 ?_
        refine Ev.callV_I (M2 := mX7_found) (args2 := [vI (-13)]) (rcv := 0) (q := (RX7, TX7, 20)) (ci := 7) dX7_about_61 okX7_found lk_X7_128 ovX7_found.1.1 ovX7_found.1.2 ovX7_found.2 (by decide) rfl rfl ltc_0 shc_0 rfl (Nat.le_of_ble_eq_true rfl) (Nat.le_of_ble_eq_true rfl) (s7_found σ (-13) (sF s) hk8) ?_ rfl
        exact Ev.ireturn dX7_about_64 rfl (rE (by unfold CP o_about; (repeat rw [Int.toNat_natCast]); rw [ifP_f (fun z => z ⟨by omega, by omega⟩), ifP_f (fun z => z ⟨by decide, by decide⟩), ifP_t rfl, ifP_f (show ¬ (rK (sR s kr) = 0) by omega)]; exact ⟨rfl, hC.found, (fun c hc => upC_ne (by omega))⟩))
      · skip
        refine Ev.aload_n dX7_about_51 rfl rfl ?_
        refine gf_X7_181 (x := rB (sR s kr)) rfl dX7_about_52 (lt_rc (by omega)) (sh_rc (by omega)) (hk2.2.2.2.2.1 kr (by omega)).1.2.2.1 ?_
        refine Ev.goto (tgt := 64) dX7_about_55 (by decide) ?_
        exact Ev.ireturn dX7_about_64 rfl (rE (by unfold CP o_about; (repeat rw [Int.toNat_natCast]); rw [ifP_f (fun z => z ⟨by omega, by omega⟩), ifP_f (fun z => z ⟨by decide, by decide⟩), ifP_t rfl, ifP_t (show rK (sR s kr) = 0 by omega)]; exact ⟨rfl, hC, (fun _ _ => rfl)⟩))
    · skip
      subst hk
      refine Ev.tableIn (tgt := 65) dX7_about_18 ⟨by decide, by decide⟩ (by decide) (by decide) rfl (by decide) ?_
      refine Ev.aload_n dX7_about_65 rfl rfl ?_
      refine gf_X7_125 (x := ((rK (sR s kr) : Nat) : Int)) rfl dX7_about_66 (lt_rc (by omega)) (sh_rc (by omega)) (hk2.2.2.2.2.1 kr (by omega)).1.1 ?_
      refine Ev.iconst dX7_about_69 ?_
      refine Ev.icmp_ne (tgt := 80) ⟨by omega, by omega⟩ ⟨by decide, by decide⟩ dX7_about_70 (by decide) (fun h70 => ?_) (fun h70 => ?_)
      · skip
        refine Ev.aload_n dX7_about_80 rfl rfl ?_
        refine Ev.bipush (n := -13) (by decide) dX7_about_81 ?_
        refine Ev.callV_I (M2 := mX7_found) (args2 := [vI (-13)]) (rcv := 0) (q := (RX7, TX7, 20)) (ci := 7) dX7_about_83 okX7_found lk_X7_128 ovX7_found.1.1 ovX7_found.1.2 ovX7_found.2 (by decide) rfl rfl ltc_0 shc_0 rfl (Nat.le_of_ble_eq_true rfl) (Nat.le_of_ble_eq_true rfl) (s7_found σ (-13) (sF s) hk8) ?_ rfl
        exact Ev.ireturn dX7_about_86 rfl (rE (by unfold CP o_about; (repeat rw [Int.toNat_natCast]); rw [ifP_f (fun z => z ⟨by omega, by omega⟩), ifP_f (fun z => z ⟨by decide, by decide⟩), ifP_f (by decide), ifP_t rfl, ifP_f (show ¬ (rK (sR s kr) = 3) by omega)]; exact ⟨rfl, hC.found, (fun c hc => upC_ne (by omega))⟩))
      · skip
        refine Ev.aload_n dX7_about_73 rfl rfl ?_
        refine gf_X7_184 (x := rS (sR s kr)) rfl dX7_about_74 (lt_rc (by omega)) (sh_rc (by omega)) (hk2.2.2.2.2.1 kr (by omega)).1.2.1 ?_
        refine Ev.goto (tgt := 86) dX7_about_77 (by decide) ?_
        exact Ev.ireturn dX7_about_86 rfl (rE (by unfold CP o_about; (repeat rw [Int.toNat_natCast]); rw [ifP_f (fun z => z ⟨by omega, by omega⟩), ifP_f (fun z => z ⟨by decide, by decide⟩), ifP_f (by decide), ifP_t rfl, ifP_t (show rK (sR s kr) = 3 by omega)]; exact ⟨rfl, hC, (fun _ _ => rfl)⟩))
    · skip
      subst hk
      refine Ev.tableIn (tgt := 87) dX7_about_18 ⟨by decide, by decide⟩ (by decide) (by decide) rfl (by decide) ?_
      refine Ev.aload_n dX7_about_87 rfl rfl ?_
      refine gf_X7_125 (x := ((rK (sR s kr) : Nat) : Int)) rfl dX7_about_88 (lt_rc (by omega)) (sh_rc (by omega)) (hk2.2.2.2.2.1 kr (by omega)).1.1 ?_
      refine Ev.iconst dX7_about_91 ?_
      refine Ev.icmp_ne (tgt := 102) ⟨by omega, by omega⟩ ⟨by decide, by decide⟩ dX7_about_92 (by decide) (fun h92 => ?_) (fun h92 => ?_)
      · skip
        refine Ev.aload_n dX7_about_102 rfl rfl ?_
        refine Ev.bipush (n := -13) (by decide) dX7_about_103 ?_
        refine Ev.callV_I (M2 := mX7_found) (args2 := [vI (-13)]) (rcv := 0) (q := (RX7, TX7, 20)) (ci := 7) dX7_about_105 okX7_found lk_X7_128 ovX7_found.1.1 ovX7_found.1.2 ovX7_found.2 (by decide) rfl rfl ltc_0 shc_0 rfl (Nat.le_of_ble_eq_true rfl) (Nat.le_of_ble_eq_true rfl) (s7_found σ (-13) (sF s) hk8) ?_ rfl
        exact Ev.ireturn dX7_about_108 rfl (rE (by unfold CP o_about; (repeat rw [Int.toNat_natCast]); rw [ifP_f (fun z => z ⟨by omega, by omega⟩), ifP_f (fun z => z ⟨by decide, by decide⟩), ifP_f (by decide), ifP_f (by decide), ifP_f (show ¬ (rK (sR s kr) = 2) by omega)]; exact ⟨rfl, hC.found, (fun c hc => upC_ne (by omega))⟩))
      · skip
        refine Ev.aload_n dX7_about_95 rfl rfl ?_
        refine gf_X7_184 (x := rS (sR s kr)) rfl dX7_about_96 (lt_rc (by omega)) (sh_rc (by omega)) (hk2.2.2.2.2.1 kr (by omega)).1.2.1 ?_
        refine Ev.goto (tgt := 108) dX7_about_99 (by decide) ?_
        exact Ev.ireturn dX7_about_108 rfl (rE (by unfold CP o_about; (repeat rw [Int.toNat_natCast]); rw [ifP_f (fun z => z ⟨by omega, by omega⟩), ifP_f (fun z => z ⟨by decide, by decide⟩), ifP_f (by decide), ifP_f (by decide), ifP_t (show rK (sR s kr) = 2 by omega)]; exact ⟨rfl, hC, (fun _ _ => rfl)⟩))
    · skip
      refine Ev.tableOut (tgt := 109) dX7_about_18 ⟨by omega, by omega⟩ hk (by decide) ?_
      refine Ev.bipush (n := -2) (by decide) dX7_about_109 ?_
      exact Ev.ireturn dX7_about_111 rfl (rE (by unfold CP o_about; (repeat rw [Int.toNat_natCast]); rw [ifP_f (fun z => z ⟨by omega, by omega⟩), ifP_t (by omega)]; exact ⟨rfl, hC, (fun _ _ => rfl)⟩))
  · skip
    have q5 := bI_0.mp h5
    refine Ev.iconst dX7_about_8 ?_
    exact Ev.ireturn dX7_about_9 rfl (rE (by unfold CP o_about; (repeat rw [Int.toNat_natCast]); rw [ifP_t (by omega)]; exact ⟨rfl, hC, (fun _ _ => rfl)⟩))

