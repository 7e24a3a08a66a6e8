/-! THE REFERENCE: stand, tear, get, about -/
theorem u2_w {σ τ : Sg} {U n w w' r : Nat} {Rf : Nat → RC} {b : Bool} (h : u2 σ U n Rf w) (hw : w' < 2 ^ n) (hwr : w'.testBit r = b) (hwo : ∀ q, q ≠ r → w'.testBit q = w.testBit q) (e8 : τ 272 8 = σ 272 8) (e : ∀ c, 278 ≤ c → c ≤ 285 → c ≠ 281 → τ c = σ c) (e1 : τ 281 = upC σ 281 r (b2 b : Int) 281) : u2 τ U n Rf w' := by
  obtain ⟨a1, a2, a3, a4⟩ := h
  refine ⟨a1, e8.trans a2, hw, fun q hq => ?_⟩
  obtain ⟨q1, q2, q3⟩ := a4 q hq
  have hm : MR τ q (Rf q) := by
    obtain ⟨m1, m2, m3, m4, m5⟩ := q1
    refine ⟨by rw [e 278 (by decide) (by decide) (by decide)]; exact m1, by rw [e 279 (by decide) (by decide) (by decide)]; exact m2, by rw [e 280 (by decide) (by decide) (by decide)]; exact m3, by rw [e 282 (by decide) (by decide) (by decide)]; exact m4, fun k hk => ?_⟩
    rw [e 283 (by decide) (by decide) (by decide), e 284 (by decide) (by decide) (by decide), e 285 (by decide) (by decide) (by decide)]
    exact m5 k hk
  refine ⟨hm, q2, ?_⟩
  rw [e1]
  by_cases eq : q = r
  · subst eq; rw [upC_at, hwr]
  · rw [upC_self eq, hwo q eq]; exact q3
theorem tvm_tear {σ τ : Sg} {t : Nat} {T : Tb} (hT : TVm σ T) (e1 : τ 286 = upC σ 286 t (-1) 286) (e : τ 287 = σ 287) : TVm τ (updF T.1 t (-1), T.2) := fun u hu => by
  obtain ⟨q1, q2, q3⟩ := hT u hu
  rw [e1, e]
  by_cases eu : u = t
  · subst eu
    exact ⟨by rw [upC_at]; exact updF_at.symm, by show -1 ≤ updF T.1 u (-1) u ∧ updF T.1 u (-1) u ≤ 48; rw [updF_at]; omega, q3⟩
  · exact ⟨by rw [upC_self eu]; exact q1.trans (updF_ne eu).symm, by show -1 ≤ updF T.1 t (-1) u ∧ updF T.1 t (-1) u ≤ 48; rw [updF_ne eu]; exact q2, q3⟩
set_option maxRecDepth 100000 in
set_option maxHeartbeats 4000000 in
theorem r_tear {g : GC} (s : SS) (σ : Sg) (hM : MI s σ) (t : Int) (h_t : inR t) : Ev g mX8_tear 0 [some (vR (272)), some (vI (t)), none] [] (M0 (σ)) 0 0 (retE (MP σ (o_tear s t))) := by
  refine Ev.aload_n dX8_tear_0 rfl rfl ?_
  refine Ev.iconst dX8_tear_1 ?_
  refine pf_X8_90 rfl dX8_tear_2 ltc_272 shc_272 ?_
  obtain ⟨σ1, hs1⟩ : ∃ ρ : Sg, ρ = upC σ 272 0 0 := ⟨_, rfl⟩
  refine Ev.mem (τ := σ1) hs1.symm ?_
  have hM1 : MI s σ1 := by rw [hs1]; exact hM.th
  have hk0 : ∀ c, c < 272 → σ1 c = σ c := fun c hc => by rw [hs1]; exact upC_ne (by omega)
  obtain ⟨hu1, hu2, hu3, hu4, hu5, hu6, hu7, hu8⟩ := id hM1
  have hU := hu1.1
  have hN := hu2.1
  have hD := hu4.1
  have hMl := hu7.1
  have hQ := hu5.1
  refine Ev.iload_n dX8_tear_5 rfl rfl ?_
  refine Ev.i2l ⟨by omega, by omega⟩ dX8_tear_6 ?_
  refine Ev.lconst 0 rfl dX8_tear_7 ?_
  refine Ev.ldc2 (n := 5) (tbl_i 823 (by decide +kernel)) dX8_tear_8 ?_
  refine Ev.callS_I (M2 := mX8_in) (args2 := [vL (t), vL (0), vL (5)]) dX8_tear_11 okX8_in lk_X8_96 osX8_in.1 osX8_in.2 (by decide) rfl (Nat.le_of_ble_eq_true rfl) (Nat.le_of_ble_eq_true rfl) (sM_in σ1 (t) (0) (5) ⟨by omega, by omega⟩ ⟨by omega, by omega⟩ ⟨by omega, by omega⟩) ?_ rfl
  refine Ev.if_ne (tgt := 20) bI_inR dX8_tear_14 (by decide) (fun h14 => ?_) (fun h14 => ?_)
  · skip
    have q14 := bI_1.mp h14
    obtain ⟨kt, rfl⟩ : ∃ n_ : Nat, t = (n_ : Int) := ⟨t.toNat, by omega⟩
    have hzb := (hu3 kt (by omega)).2.1
    refine Ev.aload_n dX8_tear_20 rfl rfl ?_
    refine gf_X8_109 (x := ((sD s : Nat) : Int)) rfl dX8_tear_21 ltc_272 shc_272 hu4.2.1 ?_
    refine Ev.if_le (tgt := 30) ⟨by omega, by omega⟩ dX8_tear_24 (by decide) (fun h24 => ?_) (fun h24 => ?_)
    · skip
      refine Ev.aload_n dX8_tear_30 rfl rfl ?_
      refine gf_X8_50 rfl dX8_tear_31 ltc_272 shc_272 rfc_272_17 ?_
      refine Ev.iload_n dX8_tear_34 rfl rfl ?_
      refine Ev.iaload (v := (sB s).1 kt) dX8_tear_35 ltc_286 shc_286 (by decide) (by omega) (by omega) (ldx rfl (hu3 kt (by omega)).1) ?_
      refine Ev.if_ge (tgt := 43) ⟨by omega, by omega⟩ dX8_tear_36 (by decide) (fun h36 => ?_) (fun h36 => ?_)
      · skip
        refine Ev.iconst dX8_tear_43 ?_
        refine Ev.istore_n (pl' := [some (vR (272)), some (vI (((kt : Nat) : Int))), some (vI (0))]) dX8_tear_44 rfl (Nat.le_of_ble_eq_true rfl) rfl ?_
        refine Ev.aload_n dX8_tear_45 rfl rfl ?_
        refine gf_X8_50 rfl dX8_tear_46 ltc_272 shc_272 rfc_272_17 ?_
        refine Ev.iload_n dX8_tear_49 rfl rfl ?_
        refine Ev.iconst dX8_tear_50 ?_
        refine Ev.iastore dX8_tear_51 ltc_286 shc_286 (by decide) (by omega) (by omega) ?_
        refine Ev.mem (τ := upC σ1 286 kt (-1)) rfl ?_
        refine Ev.aload_n dX8_tear_52 rfl rfl ?_
        refine Ev.callV_G (M2 := mX8_asTold) (args2 := []) (rcv := 272) (q := (RX8, TX8, 34)) (ci := 8) dX8_tear_53 okX8_asTold lk_X8_116 ovX8_asTold.1.1 ovX8_asTold.1.2 ovX8_asTold.2 (by decide) rfl rfl ltc_272 shc_272 rfl (Nat.le_of_ble_eq_true rfl) (Nat.le_of_ble_eq_true rfl) (sM_asTold (upC σ1 286 kt (-1)) (sU s) hU ((congrFun (upC_ne (by decide)) 1).trans hu1.2.1) (sG s) (fun y hy => ((congrFun (upC_ne (by decide)) y).trans (hu1.2.2.1 y hy).1))) (fun v_ m_ hp_ => ?_) rfl
        obtain ⟨τ, rfl, rfl, hF, hG⟩ := hp_
        show Ev g mX8_tear 56 [some (vR (272)), some (vI (((kt : Nat) : Int))), some (vI (0))] [] (M0 (τ)) 0 0 _
        refine Ev.iload_n dX8_tear_56 rfl rfl ?_
        exact Ev.ireturn dX8_tear_57 rfl (rE (by unfold MP o_tear; (repeat rw [Int.toNat_natCast]); rw [ifP_f (by omega), ifP_f (by omega)]; exact ⟨(by first | exact bI_t (by omega) | exact bI_f (by omega)), ⟨⟨hU, ((congrFun (hF 272 (by decide)) 1).trans ((congrFun (upC_ne (by decide)) 1).trans hu1.2.1)), (hu1.2.2.1.cg (fun x _ => congrFun ((hF 273 (by decide)).trans ((upC_ne (by decide)).trans rfl)) x)), (fun x hx => ⟨hG x hx, (hu1.2.2.1 x hx).2⟩)⟩, (hu2.cg ((congrFun (hF 272 (by decide)) 8).trans ((congrFun (upC_ne (by decide)) 8).trans rfl)) (fun c q1 q2 => ((hF c (by simp; omega)).trans ((upC_ne (Nat.ne_of_lt (Nat.lt_of_lt_of_le (Nat.lt_succ_of_le q2) (show 286 ≤ 286 by decide)))).trans rfl)))), (tvm_tear hu3 (hF 286 (by decide)) ((hF 287 (by decide)).trans (upC_ne (by decide)))), (hu4.cg ((congrFun (hF 272 (by decide)) 4).trans ((congrFun (upC_ne (by decide)) 4).trans rfl)) (fun c q1 q2 => ((hF c (by simp; omega)).trans ((upC_ne (Nat.ne_of_lt (Nat.lt_of_lt_of_le (Nat.lt_succ_of_le q2) (show 278 ≤ 286 by decide)))).trans rfl)))), (hu5.cg ((congrFun (hF 272 (by decide)) 25).trans ((congrFun (upC_ne (by decide)) 25).trans rfl)) ((hF 292 (by decide)).trans ((upC_ne (by decide)).trans rfl))), (hu6.cg ((congrFun (hF 272 (by decide)) 27).trans ((congrFun (upC_ne (by decide)) 27).trans rfl)) ((hF 293 (by decide)).trans ((upC_ne (by decide)).trans rfl))), (hu7.cg ((congrFun (hF 272 (by decide)) 19).trans ((congrFun (upC_ne (by decide)) 19).trans rfl)) (fun c q1 q2 => ((hF c (by simp; omega)).trans ((upC_ne (Nat.ne_of_gt (Nat.lt_of_lt_of_le (show 286 < 288 by decide) q1))).trans rfl)))), ((congrFun (hF 272 (by decide)) 24).trans ((congrFun (upC_ne (by decide)) 24).trans hu8))⟩, (fun c q2 => (hF c (by simp; omega)).trans (((upC_ne (Nat.ne_of_lt (Nat.lt_of_lt_of_le q2 (show 272 ≤ 286 by decide)))).trans (hk0 c q2))))⟩))
      · skip
        refine Ev.iconst dX8_tear_39 ?_
        refine Ev.goto (tgt := 44) dX8_tear_40 (by decide) ?_
        refine Ev.istore_n (pl' := [some (vR (272)), some (vI (((kt : Nat) : Int))), some (vI (1))]) dX8_tear_44 rfl (Nat.le_of_ble_eq_true rfl) rfl ?_
        refine Ev.aload_n dX8_tear_45 rfl rfl ?_
        refine gf_X8_50 rfl dX8_tear_46 ltc_272 shc_272 rfc_272_17 ?_
        refine Ev.iload_n dX8_tear_49 rfl rfl ?_
        refine Ev.iconst dX8_tear_50 ?_
        refine Ev.iastore dX8_tear_51 ltc_286 shc_286 (by decide) (by omega) (by omega) ?_
        refine Ev.mem (τ := upC σ1 286 kt (-1)) rfl ?_
        refine Ev.aload_n dX8_tear_52 rfl rfl ?_
        refine Ev.callV_G (M2 := mX8_asTold) (args2 := []) (rcv := 272) (q := (RX8, TX8, 34)) (ci := 8) dX8_tear_53 okX8_asTold lk_X8_116 ovX8_asTold.1.1 ovX8_asTold.1.2 ovX8_asTold.2 (by decide) rfl rfl ltc_272 shc_272 rfl (Nat.le_of_ble_eq_true rfl) (Nat.le_of_ble_eq_true rfl) (sM_asTold (upC σ1 286 kt (-1)) (sU s) hU ((congrFun (upC_ne (by decide)) 1).trans hu1.2.1) (sG s) (fun y hy => ((congrFun (upC_ne (by decide)) y).trans (hu1.2.2.1 y hy).1))) (fun v_ m_ hp_ => ?_) rfl
        obtain ⟨τ, rfl, rfl, hF, hG⟩ := hp_
        show Ev g mX8_tear 56 [some (vR (272)), some (vI (((kt : Nat) : Int))), some (vI (1))] [] (M0 (τ)) 0 0 _
        refine Ev.iload_n dX8_tear_56 rfl rfl ?_
        exact Ev.ireturn dX8_tear_57 rfl (rE (by unfold MP o_tear; (repeat rw [Int.toNat_natCast]); rw [ifP_f (by omega), ifP_f (by omega)]; exact ⟨(by first | exact bI_t (by omega) | exact bI_f (by omega)), ⟨⟨hU, ((congrFun (hF 272 (by decide)) 1).trans ((congrFun (upC_ne (by decide)) 1).trans hu1.2.1)), (hu1.2.2.1.cg (fun x _ => congrFun ((hF 273 (by decide)).trans ((upC_ne (by decide)).trans rfl)) x)), (fun x hx => ⟨hG x hx, (hu1.2.2.1 x hx).2⟩)⟩, (hu2.cg ((congrFun (hF 272 (by decide)) 8).trans ((congrFun (upC_ne (by decide)) 8).trans rfl)) (fun c q1 q2 => ((hF c (by simp; omega)).trans ((upC_ne (Nat.ne_of_lt (Nat.lt_of_lt_of_le (Nat.lt_succ_of_le q2) (show 286 ≤ 286 by decide)))).trans rfl)))), (tvm_tear hu3 (hF 286 (by decide)) ((hF 287 (by decide)).trans (upC_ne (by decide)))), (hu4.cg ((congrFun (hF 272 (by decide)) 4).trans ((congrFun (upC_ne (by decide)) 4).trans rfl)) (fun c q1 q2 => ((hF c (by simp; omega)).trans ((upC_ne (Nat.ne_of_lt (Nat.lt_of_lt_of_le (Nat.lt_succ_of_le q2) (show 278 ≤ 286 by decide)))).trans rfl)))), (hu5.cg ((congrFun (hF 272 (by decide)) 25).trans ((congrFun (upC_ne (by decide)) 25).trans rfl)) ((hF 292 (by decide)).trans ((upC_ne (by decide)).trans rfl))), (hu6.cg ((congrFun (hF 272 (by decide)) 27).trans ((congrFun (upC_ne (by decide)) 27).trans rfl)) ((hF 293 (by decide)).trans ((upC_ne (by decide)).trans rfl))), (hu7.cg ((congrFun (hF 272 (by decide)) 19).trans ((congrFun (upC_ne (by decide)) 19).trans rfl)) (fun c q1 q2 => ((hF c (by simp; omega)).trans ((upC_ne (Nat.ne_of_gt (Nat.lt_of_lt_of_le (show 286 < 288 by decide) q1))).trans rfl)))), ((congrFun (hF 272 (by decide)) 24).trans ((congrFun (upC_ne (by decide)) 24).trans hu8))⟩, (fun c q2 => (hF c (by simp; omega)).trans (((upC_ne (Nat.ne_of_lt (Nat.lt_of_lt_of_le q2 (show 272 ≤ 286 by decide)))).trans (hk0 c q2))))⟩))
    · skip
      refine Ev.bipush (n := -3) (by decide) dX8_tear_27 ?_
      exact Ev.ireturn dX8_tear_29 rfl (rE (by unfold MP o_tear; (repeat rw [Int.toNat_natCast]); rw [ifP_f (by omega), ifP_t (by omega)]; exact ⟨rfl, hM1, hk0⟩))
  · skip
    have q14 := bI_0.mp h14
    refine Ev.bipush (n := -2) (by decide) dX8_tear_17 ?_
    exact Ev.ireturn dX8_tear_19 rfl (rE (by unfold MP o_tear; (repeat rw [Int.toNat_natCast]); rw [ifP_t (by omega)]; exact ⟨rfl, hM1, hk0⟩))

set_option maxRecDepth 100000 in
set_option maxHeartbeats 4000000 in
theorem r_get {g : GC} (s : SS) (σ : Sg) (hM : MI s σ) (t : Int) (h_t : inR t) (i : Int) (h_i : inR i) : Ev g mX8_get 0 [some (vR (272)), some (vI (t)), some (vI (i))] [] (M0 (σ)) 0 0 (retE (MP σ (o_get s t i))) := by
  refine Ev.aload_n dX8_get_0 rfl rfl ?_
  refine Ev.iconst dX8_get_1 ?_
  refine pf_X8_90 rfl dX8_get_2 ltc_272 shc_272 ?_
  obtain ⟨σ1, hs1⟩ : ∃ ρ : Sg, ρ = upC σ 272 0 0 := ⟨_, rfl⟩
  refine Ev.mem (τ := σ1) hs1.symm ?_
  have hM1 : MI s σ1 := by rw [hs1]; exact hM.th
  have hk0 : ∀ c, c < 272 → σ1 c = σ c := fun c hc => by rw [hs1]; exact upC_ne (by omega)
  obtain ⟨hu1, hu2, hu3, hu4, hu5, hu6, hu7, hu8⟩ := id hM1
  have hU := hu1.1
  have hN := hu2.1
  have hD := hu4.1
  have hMl := hu7.1
  have hQ := hu5.1
  refine Ev.iload_n dX8_get_5 rfl rfl ?_
  refine Ev.i2l ⟨by omega, by omega⟩ dX8_get_6 ?_
  refine Ev.lconst 0 rfl dX8_get_7 ?_
  refine Ev.ldc2 (n := 5) (tbl_i 823 (by decide +kernel)) dX8_get_8 ?_
  refine Ev.callS_I (M2 := mX8_in) (args2 := [vL (t), vL (0), vL (5)]) dX8_get_11 okX8_in lk_X8_96 osX8_in.1 osX8_in.2 (by decide) rfl (Nat.le_of_ble_eq_true rfl) (Nat.le_of_ble_eq_true rfl) (sM_in σ1 (t) (0) (5) ⟨by omega, by omega⟩ ⟨by omega, by omega⟩ ⟨by omega, by omega⟩) ?_ rfl
  refine Ev.if_ne (tgt := 20) bI_inR dX8_get_14 (by decide) (fun h14 => ?_) (fun h14 => ?_)
  · skip
    have q14 := bI_1.mp h14
    obtain ⟨kt, rfl⟩ : ∃ n_ : Nat, t = (n_ : Int) := ⟨t.toNat, by omega⟩
    have hzb := (hu3 kt (by omega)).2.1
    refine Ev.aload_n dX8_get_20 rfl rfl ?_
    refine gf_X8_50 rfl dX8_get_21 ltc_272 shc_272 rfc_272_17 ?_
    refine Ev.iload_n dX8_get_24 rfl rfl ?_
    refine Ev.iaload (v := (sB s).1 kt) dX8_get_25 ltc_286 shc_286 (by decide) (by omega) (by omega) (ldx rfl (hu3 kt (by omega)).1) ?_
    refine Ev.if_ge (tgt := 36) ⟨by omega, by omega⟩ dX8_get_26 (by decide) (fun h26 => ?_) (fun h26 => ?_)
    · skip
      refine Ev.iload_n dX8_get_36 rfl rfl ?_
      refine Ev.i2l ⟨by omega, by omega⟩ dX8_get_37 ?_
      refine Ev.lconst 0 rfl dX8_get_38 ?_
      refine Ev.aload_n dX8_get_39 rfl rfl ?_
      refine gf_X8_50 rfl dX8_get_40 ltc_272 shc_272 rfc_272_17 ?_
      refine Ev.iload_n dX8_get_43 rfl rfl ?_
      refine Ev.iaload (v := (sB s).1 kt) dX8_get_44 ltc_286 shc_286 (by decide) (by omega) (by omega) (ldx rfl (hu3 kt (by omega)).1) ?_
      refine Ev.iconst dX8_get_45 ?_
      refine Ev.isub dX8_get_46 ?_
      refine Ev.i2l ⟨by omega, by omega⟩ dX8_get_47 ?_
      refine Ev.callS_I (M2 := mX8_in) (args2 := [vL (i), vL (0), vL (((sB s).1 kt - 1))]) dX8_get_48 okX8_in lk_X8_96 osX8_in.1 osX8_in.2 (by decide) rfl (Nat.le_of_ble_eq_true rfl) (Nat.le_of_ble_eq_true rfl) (sM_in σ1 (i) (0) (((sB s).1 kt - 1)) ⟨by omega, by omega⟩ ⟨by omega, by omega⟩ ⟨by omega, by omega⟩) ?_ rfl
      refine Ev.if_eq (tgt := 68) bI_inR dX8_get_51 (by decide) (fun h51 => ?_) (fun h51 => ?_)
      · skip
        have q51 := bI_0.mp h51
        refine Ev.aload_n dX8_get_68 rfl rfl ?_
        refine Ev.bipush (n := -12) (by decide) dX8_get_69 ?_
        refine Ev.callV_I (M2 := mX8_finds) (args2 := [vI (-12)]) (rcv := 272) (q := (RX8, TX8, 34)) (ci := 8) dX8_get_71 okX8_finds lk_X8_140 ovX8_finds.1.1 ovX8_finds.1.2 ovX8_finds.2 (by decide) rfl rfl ltc_272 shc_272 rfl (Nat.le_of_ble_eq_true rfl) (Nat.le_of_ble_eq_true rfl) (sM_finds σ1 (-12) (sF s) hu8) ?_ rfl
        exact Ev.ireturn dX8_get_74 rfl (rE (by unfold MP o_get; (repeat rw [Int.toNat_natCast]); rw [ifP_f (by omega), ifP_f (by omega), ifP_t (by omega)]; exact ⟨rfl, hM1.found, (fun c hc => (upC_ne (by omega)).trans (hk0 c hc))⟩))
      · skip
        have q51 := bI_1.mp h51
        obtain ⟨ki, rfl⟩ : ∃ n_ : Nat, i = (n_ : Int) := ⟨i.toNat, by omega⟩
        refine Ev.aload_n dX8_get_54 rfl rfl ?_
        refine gf_X8_53 rfl dX8_get_55 ltc_272 shc_272 rfc_272_18 ?_
        refine Ev.bipush (n := 48) (by decide) dX8_get_58 ?_
        refine Ev.iload_n dX8_get_60 rfl rfl ?_
        refine Ev.imul dX8_get_61 ?_
        refine Ev.iload_n dX8_get_62 rfl rfl ?_
        refine Ev.iadd dX8_get_63 ?_
        refine Ev.iaload (v := (((sB s).2 kt ki : Nat) : Int)) dX8_get_64 ltc_287 shc_287 (by decide) (by omega) (by omega) (ldx (n := 48 * kt + ki) (by omega) ((hu3 kt (by omega)).2.2 ki (by omega)).1) ?_
        refine Ev.goto (tgt := 74) dX8_get_65 (by decide) ?_
        exact Ev.ireturn dX8_get_74 rfl (rE (by unfold MP o_get; (repeat rw [Int.toNat_natCast]); rw [ifP_f (by omega), ifP_f (by omega), ifP_f (by omega)]; exact ⟨rfl, hM1, hk0⟩))
    · skip
      refine Ev.aload_n dX8_get_29 rfl rfl ?_
      refine Ev.bipush (n := -11) (by decide) dX8_get_30 ?_
      refine Ev.callV_I (M2 := mX8_finds) (args2 := [vI (-11)]) (rcv := 272) (q := (RX8, TX8, 34)) (ci := 8) dX8_get_32 okX8_finds lk_X8_140 ovX8_finds.1.1 ovX8_finds.1.2 ovX8_finds.2 (by decide) rfl rfl ltc_272 shc_272 rfl (Nat.le_of_ble_eq_true rfl) (Nat.le_of_ble_eq_true rfl) (sM_finds σ1 (-11) (sF s) hu8) ?_ rfl
      exact Ev.ireturn dX8_get_35 rfl (rE (by unfold MP o_get; (repeat rw [Int.toNat_natCast]); rw [ifP_f (by omega), ifP_t (by omega)]; exact ⟨rfl, hM1.found, (fun c hc => (upC_ne (by omega)).trans (hk0 c hc))⟩))
  · skip
    have q14 := bI_0.mp h14
    refine Ev.bipush (n := -2) (by decide) dX8_get_17 ?_
    exact Ev.ireturn dX8_get_19 rfl (rE (by unfold MP o_get; (repeat rw [Int.toNat_natCast]); rw [ifP_t (by omega)]; exact ⟨rfl, hM1, hk0⟩))

