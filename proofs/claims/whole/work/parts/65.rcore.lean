/-! THE REFERENCE: hasAnswer, core -/
set_option maxRecDepth 100000 in
set_option maxHeartbeats 4000000 in
theorem rM_ha_l {g : GC} (s : SS) (σ1 : Sg) (hM1 : MI s σ1) (kp : Nat) (hal : AL s (cutT s kp)) : ∀ j K : Nat, K + j = 16 ^ sU s → ∀ (τ : Sg) (A : An), MI s τ → ScM σ1 τ → AV τ 294 (sU s) (NX s (cutT s kp)) → InR (sU s) (NX s (cutT s kp)) A → (∀ x, x < sU s → τ 297 x = (A x : Int)) → K ≤ kod (sU s) A → (∀ B, ansP s (cutT s kp) B → kod (sU s) A ≤ kod (sU s) B) → Ev g mX8_hasAnswer 26 [some (vR (272)), none, some (vI (1))] [] (M0 (τ)) 0 0 (retE (fun r τ => r = bI (hasA s kp) ∧ ScM σ1 τ)) := by
  intro j
  induction j with
  | zero =>
    intro K hij τ A hMt hS hX hI hA hKA hno
    exact absurd (kod_lt (InR.lt (fun x hx => (hX x hx).2.2) hI)) (by omega)
  | succ j ih =>
    intro K hij τ A hMt hS hX hI hA hKA hno
    have hu1 : u1 τ (sU s) (sG s) (sX s) := (hMt).1
    have hu2 : u2 τ (sU s) (sN s) (sR s) (sW s) := (hMt).2.1
    have hu3 : TVm τ (sB s) := (hMt).2.2.1
    have hu4 : u4 τ (sU s) (sD s) (sO s) (sP s) (sH s) := (hMt).2.2.2.1
    have hu7 : u7 τ (sU s) (sN s) (sM s) (sL s) (sK s) := (hMt).2.2.2.2.2.2.1
    have hU := hu1.1
    have hN := hu2.1
    have hD := hu4.1
    have hMl := hu7.1
    have hXl := fun x (hx : x < sU s) => (hX x hx).2.2
    have hl16 := InR.lt hXl hI
    have hsy : SyOk (sU s) (sS s) := MI.sy hMt
    refine Ev.iload_n dX8_hasAnswer_26 rfl rfl ?_
    refine Ev.if_eq (tgt := 47) ⟨by decide, by decide⟩ dX8_hasAnswer_27 (by decide) (fun h27 => ?_) (fun h27 => ?_)
    · exact absurd h27 (by decide)
    · skip
      refine Ev.aload_n dX8_hasAnswer_30 rfl rfl ?_
      refine Ev.callV_I (M2 := mX8_fitsAll) (args2 := []) (rcv := 272) (q := (RX8, TX8, 34)) (ci := 8) dX8_hasAnswer_31 okX8_fitsAll lk_X8_260 ovX8_fitsAll.1.1 ovX8_fitsAll.1.2 ovX8_fitsAll.2 (by decide) rfl rfl ltc_272 shc_272 rfl (Nat.le_of_ble_eq_true rfl) (Nat.le_of_ble_eq_true rfl) (sM_fitsAll τ (sU s) (sN s) hN hu2.2.1 (sB s) hu3 (sR s) (sW s) hu2.2.2.1 (fun r hr => ⟨(hu2.2.2.2 r hr).1, (hu2.2.2.2 r hr).2.1⟩) (fun r hr => (hu2.2.2.2 r hr).2.2) A (fun x hx => ⟨hA x hx, hl16 x hx⟩)) ?_ rfl
      refine Ev.if_eq (tgt := 39) bI_inR dX8_hasAnswer_34 (by decide) (fun h34 => ?_) (fun h34 => ?_)
      · skip
        have q34 := bI_0.mp h34
        refine Ev.aload_n dX8_hasAnswer_39 rfl rfl ?_
        refine Ev.callV_G (M2 := mX8_goesOn) (args2 := []) (rcv := 272) (q := (RX8, TX8, 34)) (ci := 8) dX8_hasAnswer_40 okX8_goesOn lk_X8_266 ovX8_goesOn.1.1 ovX8_goesOn.1.2 ovX8_goesOn.2 (by decide) rfl rfl ltc_272 shc_272 rfl (Nat.le_of_ble_eq_true rfl) (Nat.le_of_ble_eq_true rfl) (sM_goesOn τ (sU s) hU hu1.2.1 (NX s (cutT s kp)) hX.az hX.ne A hI hA) (fun v_ m_ hp_ => ?_) rfl
        obtain ⟨v9, τ2, rfl, rfl, hF2, hvv⟩ := hp_
        rcases hvv with ⟨rfl, A2, hI2, hA2, hk2, hb2⟩ | ⟨rfl, hz2⟩
        · skip
          show Ev g mX8_hasAnswer 43 [some (vR (272)), none, some (vI (1))] [vI (1)] (M0 (τ2)) 0 0 _
          refine Ev.istore_n (pl' := [some (vR (272)), none, some (vI (1))]) dX8_hasAnswer_43 rfl (Nat.le_of_ble_eq_true rfl) rfl ?_
          refine Ev.goto (tgt := 26) dX8_hasAnswer_44 (by decide) ?_
          refine Ev.wk (pl' := [some (vR (272)), none, some (vI (1))]) ⟨rfl, ⟨rfl, trivial⟩⟩ ?_
          exact ih (K + 1) (by omega) τ2 A2 (hMt.scr (S297 hF2)) (hS.tr (S297 hF2)) (hX.same hF2 (by decide)) hI2 hA2 (by omega) (srch_step (P := (ansP s (cutT s kp))) (fun A B h z => ansP_cong hsy h z) (fun B z => z.2.1) hXl hI (fun z => q34 z.2.2) hno hb2)
        · skip
          show Ev g mX8_hasAnswer 43 [some (vR (272)), none, some (vI (1))] [vI (0)] (M0 (τ2)) 0 0 _
          refine Ev.istore_n (pl' := [some (vR (272)), none, some (vI (0))]) dX8_hasAnswer_43 rfl (Nat.le_of_ble_eq_true rfl) rfl ?_
          refine Ev.goto (tgt := 26) dX8_hasAnswer_44 (by decide) ?_
          refine Ev.iload_n dX8_hasAnswer_26 rfl rfl ?_
          refine Ev.if_eq (tgt := 47) ⟨by decide, by decide⟩ dX8_hasAnswer_27 (by decide) (fun h27 => ?_) (fun h27 => ?_)
          · skip
            refine Ev.iconst dX8_hasAnswer_47 ?_
            exact Ev.zreturn dX8_hasAnswer_48 rfl (Or.inl rfl) (rE ⟨bI_f (srch_end (P := (ansP s (cutT s kp))) (fun A B h z => ansP_cong hsy h z) (fun B z => z.2.1) hXl hI (fun z => q34 z.2.2) hno hz2), hS.tr (S297 hF2)⟩)
          · exact absurd h27 (by decide)
      · skip
        have q34 := bI_1.mp h34
        refine Ev.iconst dX8_hasAnswer_37 ?_
        exact Ev.zreturn dX8_hasAnswer_38 rfl (Or.inr rfl) (rE ⟨bI_t ⟨A, hal, hI, q34⟩, hS⟩)

set_option maxRecDepth 100000 in
set_option maxHeartbeats 4000000 in
theorem rM_hasAnswer {g : GC} (s : SS) (σ1 : Sg) (hM1 : MI s σ1) (kp : Nat) (hkp : kp < 4096) : Ev g mX8_hasAnswer 0 [some (vR (272)), some (vI (((kp : Nat) : Int))), none] [] (M0 (σ1)) 0 0 (retE (fun r τ => r = bI (hasA s kp) ∧ ScM σ1 τ)) := by
  have hM1_ := hM1
  have hS : ScM σ1 σ1 := fun _ _ _ _ _ _ => rfl
  obtain ⟨hu1, hu2, hu3, hu4, hu5, hu6, hu7, hu8⟩ := id hM1
  have hU := hu1.1
  have hN := hu2.1
  have hD := hu4.1
  have hMl := hu7.1
  have hQ := hu5.1
  refine Ev.aload_n dX8_hasAnswer_0 rfl rfl ?_
  refine Ev.iload_n dX8_hasAnswer_1 rfl rfl ?_
  refine Ev.callV_G (M2 := mX8_asideCut) (args2 := [vI (((kp : Nat) : Int))]) (rcv := 272) (q := (RX8, TX8, 34)) (ci := 8) dX8_hasAnswer_2 okX8_asideCut lk_X8_214 ovX8_asideCut.1.1 ovX8_asideCut.1.2 ovX8_asideCut.2 (by decide) rfl rfl ltc_272 shc_272 rfl (Nat.le_of_ble_eq_true rfl) (Nat.le_of_ble_eq_true rfl) (rM_cut s σ1 hM1 kp (by omega)) (fun v_ m_ hp_ => ?_) rfl
  obtain ⟨τ, rfl, rfl, hF, hA⟩ := hp_
  have hS := hS.tr (S294 hF)
  have hM1 := hM1.scr (S294 hF)
  obtain ⟨hu1, hu2, hu3, hu4, hu5, hu6, hu7, hu8⟩ := id hM1
  have hU := hu1.1
  have hN := hu2.1
  have hD := hu4.1
  have hMl := hu7.1
  have hQ := hu5.1
  show Ev g mX8_hasAnswer 5 [some (vR (272)), some (vI (((kp : Nat) : Int))), none] [] (M0 (τ)) 0 0 _
  refine Ev.aload_n dX8_hasAnswer_5 rfl rfl ?_
  refine Ev.callV_G (M2 := mX8_narrowAside) (args2 := []) (rcv := 272) (q := (RX8, TX8, 34)) (ci := 8) dX8_hasAnswer_6 okX8_narrowAside lk_X8_211 ovX8_narrowAside.1.1 ovX8_narrowAside.1.2 ovX8_narrowAside.2 (by decide) rfl rfl ltc_272 shc_272 rfl (Nat.le_of_ble_eq_true rfl) (Nat.le_of_ble_eq_true rfl) (r_nar hM1 (cutT s kp) hA) (fun v_ m_ hp_ => ?_) rfl
  obtain ⟨τ2, rfl, rfl, hNP⟩ := hp_
  have hd := hNP.2.1
  have hXw := hNP.2.2.1
  obtain ⟨Yw, hYw⟩ := hNP.2.2.2
  have hS := hS.tr (hNP.scr)
  have hM1 := hM1.scr (hNP.scr)
  obtain ⟨hu1, hu2, hu3, hu4, hu5, hu6, hu7, hu8⟩ := id hM1
  have hU := hu1.1
  have hN := hu2.1
  have hD := hu4.1
  have hMl := hu7.1
  have hQ := hu5.1
  show Ev g mX8_hasAnswer 9 [some (vR (272)), some (vI (((kp : Nat) : Int))), none] [] (M0 (τ2)) 0 0 _
  refine Ev.aload_n dX8_hasAnswer_9 rfl rfl ?_
  refine gf_X8_197 (x := bI (¬ AL s (cutT s kp))) rfl dX8_hasAnswer_10 ltc_272 shc_272 hd ?_
  refine Ev.if_ne (tgt := 20) bI_inR dX8_hasAnswer_13 (by decide) (fun h13 => ?_) (fun h13 => ?_)
  · skip
    have q13 := bI_1.mp h13
    refine Ev.iconst dX8_hasAnswer_20 ?_
    refine Ev.istore_n (pl' := [some (vR (272)), some (vI (((kp : Nat) : Int))), some (vI (0))]) dX8_hasAnswer_21 rfl (Nat.le_of_ble_eq_true rfl) rfl ?_
    refine Ev.aload_n dX8_hasAnswer_22 rfl rfl ?_
    refine Ev.callV_G (M2 := mX8_first) (args2 := []) (rcv := 272) (q := (RX8, TX8, 34)) (ci := 8) dX8_hasAnswer_23 okX8_first lk_X8_257 ovX8_first.1.1 ovX8_first.1.2 ovX8_first.2 (by decide) rfl rfl ltc_272 shc_272 rfl (Nat.le_of_ble_eq_true rfl) (Nat.le_of_ble_eq_true rfl) (sM_first τ2 (sU s) hU hu1.2.1 Yw hYw) (fun v_ m_ hp_ => ?_) rfl
    obtain ⟨τ3, rfl, rfl, hF, hG⟩ := hp_
    have hM1 := hM1.scr (S297 hF)
    have hS := hS.tr (S297 hF)
    show Ev g mX8_hasAnswer 26 [some (vR (272)), some (vI (((kp : Nat) : Int))), some (vI (0))] [] (M0 (τ3)) 0 0 _
    refine Ev.iload_n dX8_hasAnswer_26 rfl rfl ?_
    refine Ev.if_eq (tgt := 47) ⟨by decide, by decide⟩ dX8_hasAnswer_27 (by decide) (fun h27 => ?_) (fun h27 => ?_)
    · skip
      refine Ev.iconst dX8_hasAnswer_47 ?_
      exact Ev.zreturn dX8_hasAnswer_48 rfl (Or.inl rfl) (rE ⟨bI_f (fun ⟨B, z⟩ => q13 z.1), hS⟩)
    · exact absurd h27 (by decide)
  · skip
    have q13 := bI_0.mp h13
    have hal : AL s (cutT s kp) := Classical.byContradiction q13
    refine Ev.iconst dX8_hasAnswer_16 ?_
    refine Ev.goto (tgt := 21) dX8_hasAnswer_17 (by decide) ?_
    refine Ev.istore_n (pl' := [some (vR (272)), some (vI (((kp : Nat) : Int))), some (vI (1))]) dX8_hasAnswer_21 rfl (Nat.le_of_ble_eq_true rfl) rfl ?_
    refine Ev.aload_n dX8_hasAnswer_22 rfl rfl ?_
    refine Ev.callV_G (M2 := mX8_first) (args2 := []) (rcv := 272) (q := (RX8, TX8, 34)) (ci := 8) dX8_hasAnswer_23 okX8_first lk_X8_257 ovX8_first.1.1 ovX8_first.1.2 ovX8_first.2 (by decide) rfl rfl ltc_272 shc_272 rfl (Nat.le_of_ble_eq_true rfl) (Nat.le_of_ble_eq_true rfl) (sM_first τ2 (sU s) hU hu1.2.1 (NX s (cutT s kp)) (hXw hal).az) (fun v_ m_ hp_ => ?_) rfl
    obtain ⟨τ3, rfl, rfl, hF, hG⟩ := hp_
    have hM1 := hM1.scr (S297 hF)
    have hS := hS.tr (S297 hF)
    show Ev g mX8_hasAnswer 26 [some (vR (272)), some (vI (((kp : Nat) : Int))), some (vI (1))] [] (M0 (τ3)) 0 0 _
    refine Ev.wk (pl' := [some (vR (272)), none, some (vI (1))]) ⟨rfl, ⟨rfl, trivial⟩⟩ ?_
    exact rM_ha_l s σ1 hM1_ kp hal (16 ^ sU s) 0 (by omega) τ3 _ hM1 hS ((hXw hal).same hF (by decide)) (lo_in (hXw hal).ne) hG (Nat.zero_le _) (srch_0 (P := (ansP s (cutT s kp))) (fun B z => z.2.1))

set_option maxRecDepth 100000 in
set_option maxHeartbeats 4000000 in
theorem r_core_l {g : GC} (s : SS) (σ : Sg) (h0 : AL s (sG s)) (hw : ¬ 20000 < wys (NX s (sG s)) (sU s)) (hn : ¬ hasA s (2 ^ sD s - 1)) : ∀ j K : Nat, K + j = sD s → ∀ τ : Sg, MI s τ → (∀ c, c < 272 → τ c = σ c) → Ev g mX8_core 64 [some (vR (272)), some (vI (((lessS (fun kp => ¬ hasA s kp) (2 ^ sD s - 1) K : Nat) : Int))), some (vI (((K : Nat) : Int)))] [] (M0 (τ)) 0 0 (retE (MP σ (o_core s))) := by
  intro j
  induction j with
  | zero =>
    intro K hij τ hM1 hk0
    obtain ⟨hu1, hu2, hu3, hu4, hu5, hu6, hu7, hu8⟩ := id hM1
    have hU := hu1.1
    have hN := hu2.1
    have hD := hu4.1
    have hMl := hu7.1
    have hQ := hu5.1
    have hdl := dlt hD
    have hle := lessS_le (fun kp => ¬ hasA s kp) (2 ^ sD s - 1) K
    refine Ev.iload_n dX8_core_64 rfl rfl ?_
    refine Ev.aload_n dX8_core_65 rfl rfl ?_
    refine gf_X8_109 (x := ((sD s : Nat) : Int)) rfl dX8_core_66 ltc_272 shc_272 hu4.2.1 ?_
    refine Ev.icmp_ge (tgt := 100) ⟨by omega, by omega⟩ ⟨by omega, by omega⟩ dX8_core_69 (by decide) (fun h69 => ?_) (fun h69 => ?_)
    · skip
      refine Ev.aload_n dX8_core_100 rfl rfl ?_
      refine Ev.iload_n dX8_core_101 rfl rfl ?_
      refine Ev.callV_G (M2 := mX8_reasoned) (args2 := [vI (((lessS (fun kp => ¬ hasA s kp) (2 ^ sD s - 1) K : Nat) : Int))]) (rcv := 272) (q := (RX8, TX8, 34)) (ci := 8) dX8_core_102 okX8_reasoned lk_X8_224 ovX8_reasoned.1.1 ovX8_reasoned.1.2 ovX8_reasoned.2 (by decide) rfl rfl ltc_272 shc_272 rfl (Nat.le_of_ble_eq_true rfl) (Nat.le_of_ble_eq_true rfl) (rM_reasoned s τ hM1 (lessS (fun kp => ¬ hasA s kp) (2 ^ sD s - 1) K) (by omega) (by omega)) (fun v_ m_ hp_ => ?_) rfl
      obtain ⟨_, ρ, rfl, rfl, rfl, hMq, hkq⟩ := hp_
      show Ev g mX8_core 105 [some (vR (272)), some (vI (((lessS (fun kp => ¬ hasA s kp) (2 ^ sD s - 1) K : Nat) : Int))), some (vI (((K : Nat) : Int)))] [vI (((popN (sD s) (lessS (fun kp => ¬ hasA s kp) (2 ^ sD s - 1) K) : Nat) : Int))] (M0 (ρ)) 0 0 _
      exact Ev.ireturn dX8_core_105 rfl (rE (by unfold MP o_core; (repeat rw [Int.toNat_natCast]); rw [ifP_f (fun z => z h0), ifP_f hw, ifP_f hn]; exact ⟨(by rw [show K = sD s by omega]; rfl), (show MI (wS s (corS s)) ρ from by unfold corS; rw [show sD s = K by omega] at hMq ⊢; exact hMq), (fun c q1 => (hkq c q1).trans (hk0 c q1))⟩))
    · exact absurd h69 (by omega)
  | succ j ih =>
    intro K hij τ hM1 hk0
    obtain ⟨hu1, hu2, hu3, hu4, hu5, hu6, hu7, hu8⟩ := id hM1
    have hU := hu1.1
    have hN := hu2.1
    have hD := hu4.1
    have hMl := hu7.1
    have hQ := hu5.1
    have hdl := dlt hD
    have hle := lessS_le (fun kp => ¬ hasA s kp) (2 ^ sD s - 1) K
    have hpd := pw12 (show K < 12 by omega)
    have hp1 : 1 ≤ 2 ^ K := Nat.one_le_two_pow
    have hfs := less_sub (P := fun kp => ¬ hasA s kp) (show K < sD s by omega)
    refine Ev.iload_n dX8_core_64 rfl rfl ?_
    refine Ev.aload_n dX8_core_65 rfl rfl ?_
    refine gf_X8_109 (x := ((sD s : Nat) : Int)) rfl dX8_core_66 ltc_272 shc_272 hu4.2.1 ?_
    refine Ev.icmp_ge (tgt := 100) ⟨by omega, by omega⟩ ⟨by omega, by omega⟩ dX8_core_69 (by decide) (fun h69 => ?_) (fun h69 => ?_)
    · exact absurd h69 (by omega)
    · skip
      refine Ev.iload_n dX8_core_72 rfl rfl ?_
      refine Ev.aload_n dX8_core_73 rfl rfl ?_
      refine Ev.iload_n dX8_core_74 rfl rfl ?_
      refine Ev.iconst dX8_core_75 ?_
      refine Ev.iload_n dX8_core_76 rfl rfl ?_
      refine Ev.ishl dX8_core_77 ?_
      rw [show (iShl (1) (((K : Nat) : Int))) = ((2 ^ K : Nat) : Int) from shl1 (by omega)]
      refine Ev.isub dX8_core_78 ?_
      rw [show (((lessS (fun kp => ¬ hasA s kp) (2 ^ sD s - 1) K : Nat) : Int) - ((2 ^ K : Nat) : Int)) = (((andN (lessS (fun kp => ¬ hasA s kp) (2 ^ sD s - 1) K) (2 ^ K)) : Nat) : Int) from by rw [hfs.1]; omega]
      refine Ev.callV_G (M2 := mX8_hasAnswer) (args2 := [vI ((((andN (lessS (fun kp => ¬ hasA s kp) (2 ^ sD s - 1) K) (2 ^ K)) : Nat) : Int))]) (rcv := 272) (q := (RX8, TX8, 34)) (ci := 8) dX8_core_79 okX8_hasAnswer lk_X8_272 ovX8_hasAnswer.1.1 ovX8_hasAnswer.1.2 ovX8_hasAnswer.2 (by decide) rfl rfl ltc_272 shc_272 rfl (Nat.le_of_ble_eq_true rfl) (Nat.le_of_ble_eq_true rfl) (rM_hasAnswer s τ hM1 ((andN (lessS (fun kp => ¬ hasA s kp) (2 ^ sD s - 1) K) (2 ^ K))) (by omega)) (fun v_ m_ hp_ => ?_) rfl
      obtain ⟨_, τ2, rfl, rfl, rfl, hS1⟩ := hp_
      have hk0 := fun c (h : c < 272) => (hS1.lo c h).trans (hk0 c h)
      have hM1 := hM1.scr hS1
      obtain ⟨hu1, hu2, hu3, hu4, hu5, hu6, hu7, hu8⟩ := id hM1
      have hU := hu1.1
      have hN := hu2.1
      have hD := hu4.1
      have hMl := hu7.1
      have hQ := hu5.1
      show Ev g mX8_core 82 [some (vR (272)), some (vI (((lessS (fun kp => ¬ hasA s kp) (2 ^ sD s - 1) K : Nat) : Int))), some (vI (((K : Nat) : Int)))] [vI (bI (hasA s ((andN (lessS (fun kp => ¬ hasA s kp) (2 ^ sD s - 1) K) (2 ^ K))))), vI (((lessS (fun kp => ¬ hasA s kp) (2 ^ sD s - 1) K : Nat) : Int))] (M0 (τ2)) 0 0 _
      refine Ev.if_eq (tgt := 89) bI_inR dX8_core_82 (by decide) (fun h82 => ?_) (fun h82 => ?_)
      · skip
        have q82 := bI_0.mp h82
        refine Ev.iconst dX8_core_89 ?_
        refine Ev.iload_n dX8_core_90 rfl rfl ?_
        refine Ev.ishl dX8_core_91 ?_
        rw [show (iShl (1) (((K : Nat) : Int))) = ((2 ^ K : Nat) : Int) from shl1 (by omega)]
        refine Ev.isub dX8_core_92 ?_
        refine Ev.istore_n (pl' := [some (vR (272)), some (vI ((((lessS (fun kp => ¬ hasA s kp) (2 ^ sD s - 1) K : Nat) : Int) - ((2 ^ K : Nat) : Int)))), some (vI (((K : Nat) : Int)))]) dX8_core_93 rfl (Nat.le_of_ble_eq_true rfl) rfl ?_
        refine Ev.iinc (pl' := [some (vR (272)), some (vI ((((lessS (fun kp => ¬ hasA s kp) (2 ^ sD s - 1) K : Nat) : Int) - ((2 ^ K : Nat) : Int)))), some (vI (((K : Nat) : Int) + 1))]) dX8_core_94 rfl (Nat.le_of_ble_eq_true rfl) rfl ?_
        refine Ev.goto (tgt := 64) dX8_core_97 (by decide) ?_
        refine Ev.wk (pl' := [some (vR (272)), some (vI (((lessS (fun kp => ¬ hasA s kp) (2 ^ sD s - 1) (K + 1) : Nat) : Int))), some (vI ((((K + 1) : Nat) : Int)))]) ⟨rfl, ⟨vIe (by first | (rw [lessS_y (P := fun kp => ¬ hasA s kp) q82]; omega) | (rw [lessS_n (P := fun kp => ¬ hasA s kp) (fun z => z q82)]; omega)), ⟨vIe (by omega), trivial⟩⟩⟩ ?_
        exact ih (K + 1) (by omega) τ2 hM1 hk0
      · skip
        have q82 := bI_1.mp h82
        refine Ev.iconst dX8_core_85 ?_
        refine Ev.goto (tgt := 92) dX8_core_86 (by decide) ?_
        refine Ev.isub dX8_core_92 ?_
        refine Ev.istore_n (pl' := [some (vR (272)), some (vI ((((lessS (fun kp => ¬ hasA s kp) (2 ^ sD s - 1) K : Nat) : Int) - 0))), some (vI (((K : Nat) : Int)))]) dX8_core_93 rfl (Nat.le_of_ble_eq_true rfl) rfl ?_
        refine Ev.iinc (pl' := [some (vR (272)), some (vI ((((lessS (fun kp => ¬ hasA s kp) (2 ^ sD s - 1) K : Nat) : Int) - 0))), some (vI (((K : Nat) : Int) + 1))]) dX8_core_94 rfl (Nat.le_of_ble_eq_true rfl) rfl ?_
        refine Ev.goto (tgt := 64) dX8_core_97 (by decide) ?_
        refine Ev.wk (pl' := [some (vR (272)), some (vI (((lessS (fun kp => ¬ hasA s kp) (2 ^ sD s - 1) (K + 1) : Nat) : Int))), some (vI ((((K + 1) : Nat) : Int)))]) ⟨rfl, ⟨vIe (by first | (rw [lessS_y (P := fun kp => ¬ hasA s kp) q82]; omega) | (rw [lessS_n (P := fun kp => ¬ hasA s kp) (fun z => z q82)]; omega)), ⟨vIe (by omega), trivial⟩⟩⟩ ?_
        exact ih (K + 1) (by omega) τ2 hM1 hk0

theorem MI.rs0 {s : SS} {σ : Sg} (h : MI s σ) : MI (wS s 0) (upC σ 272 25 0) := h.rsn Nat.one_le_two_pow ⟨(fun c i hc hi => by by_cases e : c = 272; (subst e; exact upC_self (hi rfl)); (rw [upC_ne e])), (by rw [upC_at, popN_0]; rfl), fun k hk => absurd hk (by rw [popN_0]; omega)⟩
set_option maxRecDepth 100000 in
set_option maxHeartbeats 4000000 in
theorem r_core {g : GC} (s : SS) (σ : Sg) (hM : MI s σ) : Ev g mX8_core 0 [some (vR (272)), none, none] [] (M0 (σ)) 0 0 (retE (MP σ (o_core s))) := by
  refine Ev.aload_n dX8_core_0 rfl rfl ?_
  refine Ev.iconst dX8_core_1 ?_
  refine pf_X8_90 rfl dX8_core_2 ltc_272 shc_272 ?_
  obtain ⟨σ1, hs1⟩ : ∃ ρ : Sg, ρ = upC σ 272 0 0 := ⟨_, rfl⟩
  refine Ev.mem (τ := σ1) hs1.symm ?_
  have hM1 : MI s σ1 := by rw [hs1]; exact hM.th
  have hk0 : ∀ c, c < 272 → σ1 c = σ c := fun c hc => by rw [hs1]; exact upC_ne (by omega)
  obtain ⟨hu1, hu2, hu3, hu4, hu5, hu6, hu7, hu8⟩ := id hM1
  have hU := hu1.1
  have hN := hu2.1
  have hD := hu4.1
  have hMl := hu7.1
  have hQ := hu5.1
  refine Ev.aload_n dX8_core_5 rfl rfl ?_
  refine Ev.iconst dX8_core_6 ?_
  refine Ev.callV_G (M2 := mX8_asideAs) (args2 := [vI (1)]) (rcv := 272) (q := (RX8, TX8, 34)) (ci := 8) dX8_core_7 okX8_asideAs lk_X8_207 ovX8_asideAs.1.1 ovX8_asideAs.1.2 ovX8_asideAs.2 (by decide) rfl rfl ltc_272 shc_272 rfl (Nat.le_of_ble_eq_true rfl) (Nat.le_of_ble_eq_true rfl) (sM_asT σ1 (sU s) hU hu1.2.1 (sG s) (sX s) (fun x hx => ⟨(hu1.2.2.1 x hx).1, (hu1.2.2.1 x hx).2.2⟩) (fun x hx => ⟨(hu1.2.2.2 x hx).1, (hu1.2.2.2 x hx).2.2⟩)) (fun v_ m_ hp_ => ?_) rfl
  obtain ⟨τ, rfl, rfl, hF, hA⟩ := hp_
  have hk0 := fun c (h : c < 272) => ((S294 hF).lo c h).trans (hk0 c h)
  have hM1 := hM1.scr (S294 hF)
  obtain ⟨hu1, hu2, hu3, hu4, hu5, hu6, hu7, hu8⟩ := id hM1
  have hU := hu1.1
  have hN := hu2.1
  have hD := hu4.1
  have hMl := hu7.1
  have hQ := hu5.1
  show Ev g mX8_core 10 [some (vR (272)), none, none] [] (M0 (τ)) 0 0 _
  refine Ev.aload_n dX8_core_10 rfl rfl ?_
  refine Ev.callV_G (M2 := mX8_narrowAside) (args2 := []) (rcv := 272) (q := (RX8, TX8, 34)) (ci := 8) dX8_core_11 okX8_narrowAside lk_X8_211 ovX8_narrowAside.1.1 ovX8_narrowAside.1.2 ovX8_narrowAside.2 (by decide) rfl rfl ltc_272 shc_272 rfl (Nat.le_of_ble_eq_true rfl) (Nat.le_of_ble_eq_true rfl) (r_nar hM1 (sG s) hA) (fun v_ m_ hp_ => ?_) rfl
  obtain ⟨τ2, rfl, rfl, hNP⟩ := hp_
  have hd := hNP.2.1
  have hXw := hNP.2.2.1
  obtain ⟨Yw, hYw⟩ := hNP.2.2.2
  have hk0 := fun c (h : c < 272) => ((hNP.scr).lo c h).trans (hk0 c h)
  have hM1 := hM1.scr (hNP.scr)
  obtain ⟨hu1, hu2, hu3, hu4, hu5, hu6, hu7, hu8⟩ := id hM1
  have hU := hu1.1
  have hN := hu2.1
  have hD := hu4.1
  have hMl := hu7.1
  have hQ := hu5.1
  show Ev g mX8_core 14 [some (vR (272)), none, none] [] (M0 (τ2)) 0 0 _
  refine Ev.aload_n dX8_core_14 rfl rfl ?_
  refine gf_X8_197 (x := bI (¬ AL s (sG s))) rfl dX8_core_15 ltc_272 shc_272 hd ?_
  refine Ev.if_eq (tgt := 27) bI_inR dX8_core_18 (by decide) (fun h18 => ?_) (fun h18 => ?_)
  · skip
    have q18 := bI_0.mp h18
    have hal : AL s (sG s) := Classical.byContradiction q18
    have hdl := dlt hD
    refine Ev.aload_n dX8_core_27 rfl rfl ?_
    refine Ev.callV_I (M2 := mX8_isFar) (args2 := []) (rcv := 272) (q := (RX8, TX8, 34)) (ci := 8) dX8_core_28 okX8_isFar lk_X8_250 ovX8_isFar.1.1 ovX8_isFar.1.2 ovX8_isFar.2 (by decide) rfl rfl ltc_272 shc_272 rfl (Nat.le_of_ble_eq_true rfl) (Nat.le_of_ble_eq_true rfl) (sM_isFar τ2 (sU s) hU hu1.2.1 (NX s (sG s)) (hXw hal).az (hXw hal).ne) ?_ rfl
    refine Ev.if_eq (tgt := 37) bI_inR dX8_core_31 (by decide) (fun h31 => ?_) (fun h31 => ?_)
    · skip
      have q31 := bI_0.mp h31
      refine Ev.iconst dX8_core_37 ?_
      refine Ev.aload_n dX8_core_38 rfl rfl ?_
      refine gf_X8_109 (x := ((sD s : Nat) : Int)) rfl dX8_core_39 ltc_272 shc_272 hu4.2.1 ?_
      refine Ev.ishl dX8_core_42 ?_
      rw [show (iShl (1) (((sD s : Nat) : Int))) = ((2 ^ sD s : Nat) : Int) from shl1 (by omega)]
      refine Ev.iconst dX8_core_43 ?_
      refine Ev.isub dX8_core_44 ?_
      rw [show (((2 ^ sD s : Nat) : Int) - 1) = (((2 ^ sD s - 1) : Nat) : Int) from by omega]
      refine Ev.istore_n (pl' := [some (vR (272)), some (vI ((((2 ^ sD s - 1) : Nat) : Int))), none]) dX8_core_45 rfl (Nat.le_of_ble_eq_true rfl) rfl ?_
      refine Ev.aload_n dX8_core_46 rfl rfl ?_
      refine Ev.iload_n dX8_core_47 rfl rfl ?_
      refine Ev.callV_G (M2 := mX8_hasAnswer) (args2 := [vI ((((2 ^ sD s - 1) : Nat) : Int))]) (rcv := 272) (q := (RX8, TX8, 34)) (ci := 8) dX8_core_48 okX8_hasAnswer lk_X8_272 ovX8_hasAnswer.1.1 ovX8_hasAnswer.1.2 ovX8_hasAnswer.2 (by decide) rfl rfl ltc_272 shc_272 rfl (Nat.le_of_ble_eq_true rfl) (Nat.le_of_ble_eq_true rfl) (rM_hasAnswer s τ2 hM1 ((2 ^ sD s - 1)) (by omega)) (fun v_ m_ hp_ => ?_) rfl
      obtain ⟨_, τ3, rfl, rfl, rfl, hS1⟩ := hp_
      have hk0 := fun c (h : c < 272) => (hS1.lo c h).trans (hk0 c h)
      have hM1 := hM1.scr hS1
      obtain ⟨hu1, hu2, hu3, hu4, hu5, hu6, hu7, hu8⟩ := id hM1
      have hU := hu1.1
      have hN := hu2.1
      have hD := hu4.1
      have hMl := hu7.1
      have hQ := hu5.1
      show Ev g mX8_core 51 [some (vR (272)), some (vI ((((2 ^ sD s - 1) : Nat) : Int))), none] [vI (bI (hasA s ((2 ^ sD s - 1))))] (M0 (τ3)) 0 0 _
      refine Ev.if_eq (tgt := 62) bI_inR dX8_core_51 (by decide) (fun h51 => ?_) (fun h51 => ?_)
      · skip
        have q51 := bI_0.mp h51
        refine Ev.iconst dX8_core_62 ?_
        refine Ev.istore_n (pl' := [some (vR (272)), some (vI ((((2 ^ sD s - 1) : Nat) : Int))), some (vI (0))]) dX8_core_63 rfl (Nat.le_of_ble_eq_true rfl) rfl ?_
        refine Ev.wk (pl' := [some (vR (272)), some (vI (((lessS (fun kp => ¬ hasA s kp) (2 ^ sD s - 1) 0 : Nat) : Int))), some (vI (((0 : Nat) : Int)))]) ⟨rfl, ⟨vIe rfl, ⟨vIe rfl, trivial⟩⟩⟩ ?_
        exact r_core_l s σ hal q31 q51 (sD s) 0 (by omega) τ3 hM1 hk0
      · skip
        have q51 := bI_1.mp h51
        refine Ev.aload_n dX8_core_54 rfl rfl ?_
        refine Ev.iconst dX8_core_55 ?_
        refine pf_X8_218 rfl dX8_core_56 ltc_272 shc_272 ?_
        refine Ev.mem (τ := upC τ3 272 25 0) (rfl) ?_
        refine Ev.bipush (n := -9) (by decide) dX8_core_59 ?_
        exact Ev.ireturn dX8_core_61 rfl (rE (by unfold MP o_core; (repeat rw [Int.toNat_natCast]); rw [ifP_f (fun z => z hal), ifP_f q31, ifP_t q51]; exact ⟨rfl, hM1.rs0, (fun c h => (upC_ne (by omega)).trans (hk0 c h))⟩))
    · skip
      have q31 := bI_1.mp h31
      refine Ev.bipush (n := -5) (by decide) dX8_core_34 ?_
      exact Ev.ireturn dX8_core_36 rfl (rE (by unfold MP o_core; (repeat rw [Int.toNat_natCast]); rw [ifP_f (fun z => z hal), ifP_t q31]; exact ⟨rfl, hM1, hk0⟩))
  · skip
    have q18 := bI_1.mp h18
    refine Ev.aload_n dX8_core_21 rfl rfl ?_
    refine Ev.iconst dX8_core_22 ?_
    refine Ev.callV_G (M2 := mX8_reasoned) (args2 := [vI (0)]) (rcv := 272) (q := (RX8, TX8, 34)) (ci := 8) dX8_core_23 okX8_reasoned lk_X8_224 ovX8_reasoned.1.1 ovX8_reasoned.1.2 ovX8_reasoned.2 (by decide) rfl rfl ltc_272 shc_272 rfl (Nat.le_of_ble_eq_true rfl) (Nat.le_of_ble_eq_true rfl) (rM_reasoned s τ2 hM1 0 Nat.one_le_two_pow (by decide)) (fun v_ m_ hp_ => ?_) rfl
    obtain ⟨_, ρ, rfl, rfl, rfl, hMq, hkq⟩ := hp_
    show Ev g mX8_core 26 [some (vR (272)), none, none] [vI (((popN (sD s) 0 : Nat) : Int))] (M0 (ρ)) 0 0 _
    exact Ev.ireturn dX8_core_26 rfl (rE (by unfold MP o_core; (repeat rw [Int.toNat_natCast]); rw [ifP_t q18]; exact ⟨(by rw [popN_0]; rfl), hMq, (fun c q1 => (hkq c q1).trans (hk0 c q1))⟩))

