/-! THE REFERENCE: begun, solve, next, answer -/
theorem srch_step {U : Nat} {X : Rg} {P : An → Prop} {A A2 : An} (hc : ∀ A B, (∀ x, x < U → A x = B x) → P A → P B) (hI : ∀ B, P B → InR U X B) (hX : ∀ x, x < U → X x < 65536) (hA : InR U X A) (hn : ¬ P A) (hno : ∀ B, P B → kod U A ≤ kod U B) (hb : ∀ B, InR U X B → kod U B < kod U A2 → kod U B ≤ kod U A) : ∀ B, P B → kod U A2 ≤ kod U B := fun B hB => by
  rcases Nat.lt_or_ge (kod U B) (kod U A2) with h | h
  · have h1 := hb B (hI B hB) h
    have h2 := hno B hB
    have e := kod_inj (InR.lt hX hA) (InR.lt hX (hI B hB)) (by omega)
    exact absurd (hc B A (fun x hx => (e x hx).symm) hB) hn
  · exact h
theorem srch_end {U : Nat} {X : Rg} {P : An → Prop} {A : An} (hc : ∀ A B, (∀ x, x < U → A x = B x) → P A → P B) (hI : ∀ B, P B → InR U X B) (hX : ∀ x, x < U → X x < 65536) (hA : InR U X A) (hn : ¬ P A) (hno : ∀ B, P B → kod U A ≤ kod U B) (hz : ∀ B, InR U X B → kod U B ≤ kod U A) : ¬ ∃ B, P B := fun ⟨B, hB⟩ => by
  have h1 := hz B (hI B hB)
  have h2 := hno B hB
  have e := kod_inj (InR.lt hX hA) (InR.lt hX (hI B hB)) (by omega)
  exact hn (hc B A (fun x hx => (e x hx).symm) hB)
theorem srch_0 {U : Nat} {X : Rg} {P : An → Prop} (hI : ∀ B, P B → InR U X B) : ∀ B, P B → kod U (fun x => lo (X x)) ≤ kod U B := fun B hB => kod_mono fun x hx => lo_min (hI B hB x hx)
theorem lo_in {U : Nat} {X : Rg} (h : NEm U X) : InR U X (fun x => lo (X x)) := fun x hx => lo_tb (h x hx).2 (h x hx).1
theorem u6_27 {σ : Sg} {a : Int} {v : An} (h : u6 σ a v) : (a = -1 ∧ σ 272 27 = -9) ∨ (a ≠ -1 ∧ σ 272 27 = a) := by
  by_cases e : a = -1
  · exact Or.inl ⟨e, h.2.1.trans (if_pos e)⟩
  · exact Or.inr ⟨e, h.2.1.trans (if_neg e)⟩
theorem MI.unans {s : SS} {σ : Sg} (h : MI s σ) : MI (wA s (-1) (sV s)) (upC σ 272 27 (-9)) := by
  obtain ⟨hu1, hu2, hu3, hu4, hu5, hu6, hu7, hu8⟩ := h
  exact ⟨(hu1.cg ((upC_self (by decide)).trans ((congrFun (Eq.refl _) 1).trans rfl)) ((upC_ne (by decide)).trans (Eq.refl _)) ((upC_ne (by decide)).trans (Eq.refl _))), (hu2.cg ((upC_self (by decide)).trans ((congrFun (Eq.refl _) 8).trans rfl)) (fun c q1 q2 => ((upC_ne (Nat.ne_of_gt (Nat.lt_of_lt_of_le (show 272 < 278 by decide) q1))).trans (Eq.refl _)))), (hu3.cg (fun c i q1 q2 => congrFun ((upC_ne (Nat.ne_of_gt (Nat.lt_of_lt_of_le (show 272 < 286 by decide) q1))).trans (Eq.refl _)) i)), (hu4.cg ((upC_self (by decide)).trans ((congrFun (Eq.refl _) 4).trans rfl)) (fun c q1 q2 => ((upC_ne (Nat.ne_of_gt (Nat.lt_of_lt_of_le (show 272 < 275 by decide) q1))).trans (Eq.refl _)))), (hu5.cg ((upC_self (by decide)).trans ((congrFun (Eq.refl _) 25).trans rfl)) ((upC_ne (by decide)).trans (Eq.refl _))), ⟨⟨(by show (-1 : Int) ≤ -1; decide), (by show (-1 : Int) ≤ 10; decide)⟩, upC_at.trans (if_pos rfl).symm, fun x hx => absurd hx (by show ¬ (x : Int) < -1; omega)⟩, (hu7.cg ((upC_self (by decide)).trans ((congrFun (Eq.refl _) 19).trans rfl)) (fun c q1 q2 => ((upC_ne (Nat.ne_of_gt (Nat.lt_of_lt_of_le (show 272 < 288 by decide) q1))).trans (Eq.refl _)))), ((upC_self (by decide)).trans ((congrFun (Eq.refl _) 24).trans hu8))⟩
theorem kpF {σ τ : Sg} (h : ∀ c i, c ≠ 293 → (c = 272 → i ≠ 27) → τ c i = σ c i) : ∀ c, c < 272 → τ c = σ c := fun c hc => by
  funext i
  exact h c i (by omega) (fun z => by omega)
theorem MI.kept {s : SS} {σ τ : Sg} {C : An} {a : Int} {v : An} (h : MI (wA s a v) σ) (hF : ∀ c i, c ≠ 293 → (c = 272 → i ≠ 27) → τ c i = σ c i) (e27 : τ 272 27 = (sU s : Int)) (hC : ∀ x, x < sU s → τ 293 x = (C x : Int) ∧ C x < 16) : MI (wA s (sU s) C) τ := by
  obtain ⟨hu1, hu2, hu3, hu4, hu5, hu6, hu7, hu8⟩ := h
  have hU : sU s ≤ 10 := hu1.1
  have e0 : ∀ i, i ≠ 27 → τ 272 i = σ 272 i := fun i hi => hF 272 i (by decide) (fun _ => hi)
  have e : ∀ c, c ≠ 272 → c ≠ 293 → τ c = σ c := fun c h0 h1 => by
    funext i
    exact hF c i h1 (fun z => absurd z h0)
  exact ⟨hu1.cg (e0 1 (by decide)) (e 273 (by decide) (by decide)) (e 274 (by decide) (by decide)), hu2.cg (e0 8 (by decide)) (fun c _ _ => e c (by omega) (by omega)), hu3.cg (fun c i _ _ => by rw [e c (by omega) (by omega)]), hu4.cg (e0 4 (by decide)) (fun c _ _ => e c (by omega) (by omega)), hu5.cg (e0 25 (by decide)) (e 292 (by decide) (by decide)), ⟨⟨by show -1 ≤ ((sU s : Nat) : Int); omega, by show ((sU s : Nat) : Int) ≤ 10; omega⟩, e27.trans (if_neg (by show ¬ ((sU s : Nat) : Int) = -1; omega)).symm, fun x hx => hC x (by have : (x : Int) < ((sU s : Nat) : Int) := hx; omega)⟩, hu7.cg (e0 19 (by decide)) (fun c _ _ => e c (by omega) (by omega)), (e0 24 (by decide)).trans hu8⟩
/-- how the calls about answers begin -/
def BgP (s : SS) (σ : Sg) (v : Int) (τ : Sg) : Prop := ScM σ τ ∧ ((v = -5 ∧ farP s (sX s)) ∨ (v = 0 ∧ ¬ farP s (sX s) ∧ τ 272 31 = bI (¬ AL s (sX s)) ∧ (AL s (sX s) → AV τ 294 (sU s) (NX s (sX s))) ∧ ∃ Y, AW τ (sU s) Y))
theorem AV.up27 {σ : Sg} {c U : Nat} {X : Rg} {v : Int} (hc : c ≠ 272) (h : AV σ c U X) : AV (upC σ 272 27 v) c U X := fun x hx => by rw [upC_ne hc]; exact h x hx
theorem nxP_cong {s : SS} {A B : An} (hS : SyOk (sU s) (sS s)) (h : ∀ x, x < sU s → A x = B x) (hA : nxP s A) : nxP s B := ⟨ansP_cong hS h hA.1, by rw [← kod_cong h]; exact hA.2⟩
set_option maxRecDepth 100000 in
set_option maxHeartbeats 4000000 in
theorem rM_begun {g : GC} (s : SS) (σ1 : Sg) (hM1 : MI s σ1) : Ev g mX8_begun 0 [some (vR (272))] [] (M0 (σ1)) 0 0 (retE (BgP s σ1)) := by
  have hS : ScM σ1 σ1 := fun _ _ _ _ _ _ => rfl
  obtain ⟨hu1, hu2, hu3, hu4, hu5, hu6, hu7, hu8⟩ := id hM1
  have hU := hu1.1
  have hN := hu2.1
  have hD := hu4.1
  have hMl := hu7.1
  have hQ := hu5.1
  refine Ev.aload_n dX8_begun_0 rfl rfl ?_
  refine Ev.iconst dX8_begun_1 ?_
  refine Ev.callV_G (M2 := mX8_asideAs) (args2 := [vI (0)]) (rcv := 272) (q := (RX8, TX8, 34)) (ci := 8) dX8_begun_2 okX8_asideAs lk_X8_207 ovX8_asideAs.1.1 ovX8_asideAs.1.2 ovX8_asideAs.2 (by decide) rfl rfl ltc_272 shc_272 rfl (Nat.le_of_ble_eq_true rfl) (Nat.le_of_ble_eq_true rfl) (sM_asN σ1 (sU s) hU hu1.2.1 (sG s) (sX s) (fun x hx => ⟨(hu1.2.2.1 x hx).1, (hu1.2.2.1 x hx).2.2⟩) (fun x hx => ⟨(hu1.2.2.2 x hx).1, (hu1.2.2.2 x hx).2.2⟩)) (fun v_ m_ hp_ => ?_) rfl
  obtain ⟨τ, rfl, rfl, hF, hA⟩ := hp_
  have hS := hS.tr (S294 hF)
  have hM1 := hM1.scr (S294 hF)
  obtain ⟨hu1, hu2, hu3, hu4, hu5, hu6, hu7, hu8⟩ := id hM1
  have hU := hu1.1
  have hN := hu2.1
  have hD := hu4.1
  have hMl := hu7.1
  have hQ := hu5.1
  show Ev g mX8_begun 5 [some (vR (272))] [] (M0 (τ)) 0 0 _
  refine Ev.aload_n dX8_begun_5 rfl rfl ?_
  refine Ev.callV_G (M2 := mX8_narrowAside) (args2 := []) (rcv := 272) (q := (RX8, TX8, 34)) (ci := 8) dX8_begun_6 okX8_narrowAside lk_X8_211 ovX8_narrowAside.1.1 ovX8_narrowAside.1.2 ovX8_narrowAside.2 (by decide) rfl rfl ltc_272 shc_272 rfl (Nat.le_of_ble_eq_true rfl) (Nat.le_of_ble_eq_true rfl) (r_nar hM1 (sX s) hA) (fun v_ m_ hp_ => ?_) rfl
  obtain ⟨τ2, rfl, rfl, hNP⟩ := hp_
  have hd := hNP.2.1
  have hXw := hNP.2.2.1
  obtain ⟨Yw, hYw⟩ := hNP.2.2.2
  have hS := hS.tr (hNP.scr)
  have hM1 := hM1.scr (hNP.scr)
  obtain ⟨hu1, hu2, hu3, hu4, hu5, hu6, hu7, hu8⟩ := id hM1
  have hU := hu1.1
  have hN := hu2.1
  have hD := hu4.1
  have hMl := hu7.1
  have hQ := hu5.1
  show Ev g mX8_begun 9 [some (vR (272))] [] (M0 (τ2)) 0 0 _
  refine Ev.aload_n dX8_begun_9 rfl rfl ?_
  refine gf_X8_197 (x := bI (¬ AL s (sX s))) rfl dX8_begun_10 ltc_272 shc_272 hd ?_
  refine Ev.if_ne (tgt := 28) bI_inR dX8_begun_13 (by decide) (fun h13 => ?_) (fun h13 => ?_)
  · skip
    have q13 := bI_1.mp h13
    refine Ev.iconst dX8_begun_28 ?_
    exact Ev.ireturn dX8_begun_29 rfl (rE ⟨hS, Or.inr ⟨rfl, by first | exact (fun z => q13 z.1) | exact (fun z => q20 z.2), hd, hXw, _, hYw⟩⟩)
  · skip
    have q13 := bI_0.mp h13
    have hal : AL s (sX s) := Classical.byContradiction q13
    refine Ev.aload_n dX8_begun_16 rfl rfl ?_
    refine Ev.callV_I (M2 := mX8_isFar) (args2 := []) (rcv := 272) (q := (RX8, TX8, 34)) (ci := 8) dX8_begun_17 okX8_isFar lk_X8_250 ovX8_isFar.1.1 ovX8_isFar.1.2 ovX8_isFar.2 (by decide) rfl rfl ltc_272 shc_272 rfl (Nat.le_of_ble_eq_true rfl) (Nat.le_of_ble_eq_true rfl) (sM_isFar τ2 (sU s) hU hu1.2.1 (NX s (sX s)) (hXw hal).az (hXw hal).ne) ?_ rfl
    refine Ev.if_eq (tgt := 28) bI_inR dX8_begun_20 (by decide) (fun h20 => ?_) (fun h20 => ?_)
    · skip
      have q20 := bI_0.mp h20
      refine Ev.iconst dX8_begun_28 ?_
      exact Ev.ireturn dX8_begun_29 rfl (rE ⟨hS, Or.inr ⟨rfl, by first | exact (fun z => q13 z.1) | exact (fun z => q20 z.2), hd, hXw, _, hYw⟩⟩)
    · skip
      have q20 := bI_1.mp h20
      refine Ev.bipush (n := -5) (by decide) dX8_begun_23 ?_
      refine Ev.goto (tgt := 29) dX8_begun_25 (by decide) ?_
      exact Ev.ireturn dX8_begun_29 rfl (rE ⟨hS, Or.inl ⟨rfl, hal, q20⟩⟩)

set_option maxRecDepth 100000 in
set_option maxHeartbeats 4000000 in
theorem r_solve_l {g : GC} (s : SS) (σ : Sg) (hal : AL s (sX s)) (hfar : ¬ farP s (sX s)) : ∀ j K : Nat, K + j = 16 ^ sU s → ∀ (τ : Sg) (A : An), MI (wA s (-1) (sV s)) τ → (∀ c, c < 272 → τ c = σ c) → AV τ 294 (sU s) (NX s (sX s)) → InR (sU s) (NX s (sX s)) A → (∀ x, x < sU s → τ 297 x = (A x : Int)) → K ≤ kod (sU s) A → (∀ B, ansP s (sX s) B → kod (sU s) A ≤ kod (sU s) B) → Ev g mX8_solve 36 [some (vR (272)), some (vI (1))] [] (M0 (τ)) 0 0 (retE (MP σ (o_solve s))) := by
  intro j
  induction j with
  | zero =>
    intro K hij τ A hM2 hk0 hX hI hA hKA hno
    exact absurd (kod_lt (InR.lt (fun x hx => (hX x hx).2.2) hI)) (by omega)
  | succ j ih =>
    intro K hij τ A hM2 hk0 hX hI hA hKA hno
    have hu1 : u1 τ (sU s) (sG s) (sX s) := (hM2).1
    have hu2 : u2 τ (sU s) (sN s) (sR s) (sW s) := (hM2).2.1
    have hu3 : TVm τ (sB s) := (hM2).2.2.1
    have hu4 : u4 τ (sU s) (sD s) (sO s) (sP s) (sH s) := (hM2).2.2.2.1
    have hu7 : u7 τ (sU s) (sN s) (sM s) (sL s) (sK s) := (hM2).2.2.2.2.2.2.1
    have hU := hu1.1
    have hN := hu2.1
    have hD := hu4.1
    have hMl := hu7.1
    have hXl := fun x (hx : x < sU s) => (hX x hx).2.2
    have hl16 := InR.lt hXl hI
    have hsy : SyOk (sU s) (sS s) := by have h := hM2.sy; exact h
    refine Ev.iload_n dX8_solve_36 rfl rfl ?_
    refine Ev.if_eq (tgt := 61) ⟨by decide, by decide⟩ dX8_solve_37 (by decide) (fun h37 => ?_) (fun h37 => ?_)
    · exact absurd h37 (by decide)
    · skip
      refine Ev.aload_n dX8_solve_40 rfl rfl ?_
      refine Ev.callV_I (M2 := mX8_fitsAll) (args2 := []) (rcv := 272) (q := (RX8, TX8, 34)) (ci := 8) dX8_solve_41 okX8_fitsAll lk_X8_260 ovX8_fitsAll.1.1 ovX8_fitsAll.1.2 ovX8_fitsAll.2 (by decide) rfl rfl ltc_272 shc_272 rfl (Nat.le_of_ble_eq_true rfl) (Nat.le_of_ble_eq_true rfl) (sM_fitsAll τ (sU s) (sN s) hN hu2.2.1 (sB s) hu3 (sR s) (sW s) hu2.2.2.1 (fun r hr => ⟨(hu2.2.2.2 r hr).1, (hu2.2.2.2 r hr).2.1⟩) (fun r hr => (hu2.2.2.2 r hr).2.2) A (fun x hx => ⟨hA x hx, hl16 x hx⟩)) ?_ rfl
      refine Ev.if_eq (tgt := 53) bI_inR dX8_solve_44 (by decide) (fun h44 => ?_) (fun h44 => ?_)
      · skip
        have q44 := bI_0.mp h44
        refine Ev.aload_n dX8_solve_53 rfl rfl ?_
        refine Ev.callV_G (M2 := mX8_goesOn) (args2 := []) (rcv := 272) (q := (RX8, TX8, 34)) (ci := 8) dX8_solve_54 okX8_goesOn lk_X8_266 ovX8_goesOn.1.1 ovX8_goesOn.1.2 ovX8_goesOn.2 (by decide) rfl rfl ltc_272 shc_272 rfl (Nat.le_of_ble_eq_true rfl) (Nat.le_of_ble_eq_true rfl) (sM_goesOn τ (sU s) hU hu1.2.1 (NX s (sX s)) hX.az hX.ne A hI hA) (fun v_ m_ hp_ => ?_) rfl
        obtain ⟨v9, τ2, rfl, rfl, hF2, hvv⟩ := hp_
        rcases hvv with ⟨rfl, A2, hI2, hA2, hk2, hb2⟩ | ⟨rfl, hz2⟩
        · skip
          show Ev g mX8_solve 57 [some (vR (272)), some (vI (1))] [vI (1)] (M0 (τ2)) 0 0 _
          refine Ev.istore_n (pl' := [some (vR (272)), some (vI (1))]) dX8_solve_57 rfl (Nat.le_of_ble_eq_true rfl) rfl ?_
          refine Ev.goto (tgt := 36) dX8_solve_58 (by decide) ?_
          refine Ev.wk (pl' := [some (vR (272)), some (vI (1))]) ⟨rfl, ⟨rfl, trivial⟩⟩ ?_
          exact ih (K + 1) (by omega) τ2 A2 (hM2.scr (S297 hF2)) (fun c h => ((S297 hF2).lo c h).trans (hk0 c h)) (hX.same hF2 (by decide)) hI2 hA2 (by omega) (srch_step (P := (ansP s (sX s))) (fun A B h z => ansP_cong hsy h z) (fun B z => z.2.1) hXl hI (fun z => q44 z.2.2) hno hb2)
        · skip
          have hM2 := hM2.scr (S297 hF2)
          have hk0 := fun c (h : c < 272) => ((S297 hF2).lo c h).trans (hk0 c h)
          show Ev g mX8_solve 57 [some (vR (272)), some (vI (1))] [vI (0)] (M0 (τ2)) 0 0 _
          refine Ev.istore_n (pl' := [some (vR (272)), some (vI (0))]) dX8_solve_57 rfl (Nat.le_of_ble_eq_true rfl) rfl ?_
          refine Ev.goto (tgt := 36) dX8_solve_58 (by decide) ?_
          refine Ev.iload_n dX8_solve_36 rfl rfl ?_
          refine Ev.if_eq (tgt := 61) ⟨by decide, by decide⟩ dX8_solve_37 (by decide) (fun h37 => ?_) (fun h37 => ?_)
          · skip
            refine Ev.iconst dX8_solve_61 ?_
            exact Ev.ireturn dX8_solve_62 rfl (rE (by unfold MP o_solve; (repeat rw [Int.toNat_natCast]); rw [ifP_f hfar, ifP_f (srch_end (P := (ansP s (sX s))) (fun A B h z => ansP_cong hsy h z) (fun B z => z.2.1) hXl hI (fun z => q44 z.2.2) hno hz2)]; exact ⟨rfl, hM2, hk0⟩))
          · exact absurd h37 (by decide)
      · skip
        have q44 := bI_1.mp h44
        refine Ev.aload_n dX8_solve_47 rfl rfl ?_
        refine Ev.callV_G (M2 := mX8_keep) (args2 := []) (rcv := 272) (q := (RX8, TX8, 34)) (ci := 8) dX8_solve_48 okX8_keep lk_X8_263 ovX8_keep.1.1 ovX8_keep.1.2 ovX8_keep.2 (by decide) rfl rfl ltc_272 shc_272 rfl (Nat.le_of_ble_eq_true rfl) (Nat.le_of_ble_eq_true rfl) (sM_keep τ (sU s) hU hu1.2.1 A hA) (fun v_ m_ hp_ => ?_) rfl
        obtain ⟨τ2, rfl, rfl, hkF, hk27, hk293⟩ := hp_
        show Ev g mX8_solve 51 [some (vR (272)), some (vI (1))] [] (M0 (τ2)) 0 0 _
        refine Ev.iconst dX8_solve_51 ?_
        exact Ev.ireturn dX8_solve_52 rfl (rE (by have hls := lstA_eq (U := sU s) (P := (ansP s (sX s))) (fun B z => ansP_lt z) ⟨⟨hal, hI, q44⟩, hno⟩; unfold MP o_solve; (repeat rw [Int.toNat_natCast]); rw [ifP_f hfar, ifP_t ⟨A, hal, hI, q44⟩]; exact ⟨rfl, (hM2.kept hkF hk27 (fun x hx => by rw [hls x hx]; exact ⟨hk293 x hx, hl16 x hx⟩)), (fun c h => (kpF hkF c h).trans (hk0 c h))⟩))

set_option maxRecDepth 100000 in
set_option maxHeartbeats 4000000 in
theorem r_solve {g : GC} (s : SS) (σ : Sg) (hM : MI s σ) : Ev g mX8_solve 0 [some (vR (272)), none] [] (M0 (σ)) 0 0 (retE (MP σ (o_solve s))) := by
  refine Ev.aload_n dX8_solve_0 rfl rfl ?_
  refine Ev.iconst dX8_solve_1 ?_
  refine pf_X8_90 rfl dX8_solve_2 ltc_272 shc_272 ?_
  obtain ⟨σ1, hs1⟩ : ∃ ρ : Sg, ρ = upC σ 272 0 0 := ⟨_, rfl⟩
  refine Ev.mem (τ := σ1) hs1.symm ?_
  have hM1 : MI s σ1 := by rw [hs1]; exact hM.th
  have hk0 : ∀ c, c < 272 → σ1 c = σ c := fun c hc => by rw [hs1]; exact upC_ne (by omega)
  obtain ⟨hu1, hu2, hu3, hu4, hu5, hu6, hu7, hu8⟩ := id hM1
  have hU := hu1.1
  have hN := hu2.1
  have hD := hu4.1
  have hMl := hu7.1
  have hQ := hu5.1
  refine Ev.aload_n dX8_solve_5 rfl rfl ?_
  refine Ev.callV_G (M2 := mX8_begun) (args2 := []) (rcv := 272) (q := (RX8, TX8, 34)) (ci := 8) dX8_solve_6 okX8_begun lk_X8_253 ovX8_begun.1.1 ovX8_begun.1.2 ovX8_begun.2 (by decide) rfl rfl ltc_272 shc_272 rfl (Nat.le_of_ble_eq_true rfl) (Nat.le_of_ble_eq_true rfl) (rM_begun s σ1 hM1) (fun v_ m_ hp_ => ?_) rfl
  obtain ⟨v, τ, rfl, rfl, hS1, hvv⟩ := hp_
  have hk0 := fun c (h : c < 272) => (hS1.lo c h).trans (hk0 c h)
  have hM1 := hM1.scr hS1
  obtain ⟨hu1, hu2, hu3, hu4, hu5, hu6, hu7, hu8⟩ := id hM1
  have hU := hu1.1
  have hN := hu2.1
  have hD := hu4.1
  have hMl := hu7.1
  have hQ := hu5.1
  rcases hvv with ⟨rfl, hfar⟩ | ⟨rfl, hfar, hd, hXw, Yw, hYw⟩
  · skip
    show Ev g mX8_solve 9 [some (vR (272)), none] [vI (-5)] (M0 (τ)) 0 0 _
    refine Ev.if_eq (tgt := 15) ⟨by decide, by decide⟩ dX8_solve_9 (by decide) (fun h9 => ?_) (fun h9 => ?_)
    · exact absurd h9 (by decide)
    · skip
      refine Ev.bipush (n := -5) (by decide) dX8_solve_12 ?_
      exact Ev.ireturn dX8_solve_14 rfl (rE (by unfold MP o_solve; (repeat rw [Int.toNat_natCast]); rw [ifP_t hfar]; exact ⟨rfl, hM1, hk0⟩))
  · skip
    show Ev g mX8_solve 9 [some (vR (272)), none] [vI (0)] (M0 (τ)) 0 0 _
    refine Ev.if_eq (tgt := 15) ⟨by decide, by decide⟩ dX8_solve_9 (by decide) (fun h9 => ?_) (fun h9 => ?_)
    · skip
      refine Ev.aload_n dX8_solve_15 rfl rfl ?_
      refine Ev.bipush (n := -9) (by decide) dX8_solve_16 ?_
      refine pf_X8_71 rfl dX8_solve_18 ltc_272 shc_272 ?_
      obtain ⟨ρ, hρ⟩ : ∃ ρ : Sg, ρ = upC (τ) 272 27 (-9) := ⟨_, rfl⟩
      refine Ev.mem (τ := ρ) hρ.symm ?_
      have hM2 : MI (wA s (-1) (sV s)) ρ := by rw [hρ]; exact hM1.unans
      have hk0 : ∀ c, c < 272 → ρ c = σ c := fun c h => by rw [hρ]; exact (upC_ne (by omega)).trans (hk0 c h)
      have hd : ρ 272 31 = bI (¬ AL s (sX s)) := by rw [hρ]; exact (upC_self (by decide)).trans hd
      have hXw : AL s (sX s) → AV ρ 294 (sU s) (NX s (sX s)) := fun z => by rw [hρ]; exact (hXw z).up27 (by decide)
      have hYw : AW ρ (sU s) Yw := fun x hx => by rw [hρ, upC_ne (by decide)]; exact hYw x hx
      have hu1 : u1 ρ (sU s) (sG s) (sX s) := (hM2).1
      have hu2 : u2 ρ (sU s) (sN s) (sR s) (sW s) := (hM2).2.1
      have hu3 : TVm ρ (sB s) := (hM2).2.2.1
      have hu4 : u4 ρ (sU s) (sD s) (sO s) (sP s) (sH s) := (hM2).2.2.2.1
      have hu7 : u7 ρ (sU s) (sN s) (sM s) (sL s) (sK s) := (hM2).2.2.2.2.2.2.1
      have hU := hu1.1
      have hN := hu2.1
      have hD := hu4.1
      have hMl := hu7.1
      refine Ev.aload_n dX8_solve_21 rfl rfl ?_
      refine gf_X8_197 (x := bI (¬ AL s (sX s))) rfl dX8_solve_22 ltc_272 shc_272 hd ?_
      refine Ev.if_eq (tgt := 30) bI_inR dX8_solve_25 (by decide) (fun h25 => ?_) (fun h25 => ?_)
      · skip
        have q25 := bI_0.mp h25
        have hal : AL s (sX s) := Classical.byContradiction q25
        refine Ev.aload_n dX8_solve_30 rfl rfl ?_
        refine Ev.callV_G (M2 := mX8_first) (args2 := []) (rcv := 272) (q := (RX8, TX8, 34)) (ci := 8) dX8_solve_31 okX8_first lk_X8_257 ovX8_first.1.1 ovX8_first.1.2 ovX8_first.2 (by decide) rfl rfl ltc_272 shc_272 rfl (Nat.le_of_ble_eq_true rfl) (Nat.le_of_ble_eq_true rfl) (sM_first ρ (sU s) hU hu1.2.1 (NX s (sX s)) (hXw hal).az) (fun v_ m_ hp_ => ?_) rfl
        obtain ⟨τ2, rfl, rfl, hF, hG⟩ := hp_
        show Ev g mX8_solve 34 [some (vR (272)), none] [] (M0 (τ2)) 0 0 _
        refine Ev.iconst dX8_solve_34 ?_
        refine Ev.istore_n (pl' := [some (vR (272)), some (vI (1))]) dX8_solve_35 rfl (Nat.le_of_ble_eq_true rfl) rfl ?_
        refine Ev.wk (pl' := [some (vR (272)), some (vI (1))]) ⟨rfl, ⟨rfl, trivial⟩⟩ ?_
        exact r_solve_l s σ hal hfar (16 ^ sU s) 0 (by omega) τ2 _ (hM2.scr (S297 hF)) (fun c h => ((S297 hF).lo c h).trans (hk0 c h)) ((hXw hal).same hF (by decide)) (lo_in (hXw hal).ne) hG (Nat.zero_le _) (srch_0 (P := (ansP s (sX s))) (fun B z => z.2.1))
      · skip
        have q25 := bI_1.mp h25
        refine Ev.iconst dX8_solve_28 ?_
        exact Ev.ireturn dX8_solve_29 rfl (rE (by unfold MP o_solve; (repeat rw [Int.toNat_natCast]); rw [ifP_f hfar, ifP_f (ansP_no q25)]; exact ⟨rfl, hM2, hk0⟩))
    · exact absurd h9 (by decide)

set_option maxRecDepth 100000 in
set_option maxHeartbeats 4000000 in
theorem r_next_l {g : GC} (s : SS) (σ : Sg) (hal : AL s (sX s)) (hfar : ¬ farP s (sX s)) (hsa : sA s = (sU s : Int)) : ∀ j K : Nat, K + j = 16 ^ sU s → ∀ (τ : Sg) (A : An), MI s τ → (∀ c, c < 272 → τ c = σ c) → AV τ 294 (sU s) (NX s (sX s)) → InR (sU s) (NX s (sX s)) A → (∀ x, x < sU s → τ 297 x = (A x : Int)) → K ≤ kod (sU s) A → (∀ B, nxP s B → kod (sU s) A ≤ kod (sU s) B) → Ev g mX8_next 44 [some (vR (272)), some (vI (1))] [] (M0 (τ)) 0 0 (retE (MP σ (o_next s))) := by
  intro j
  induction j with
  | zero =>
    intro K hij τ A hM1 hk0 hX hI hA hKA hno
    exact absurd (kod_lt (InR.lt (fun x hx => (hX x hx).2.2) hI)) (by omega)
  | succ j ih =>
    intro K hij τ A hM1 hk0 hX hI hA hKA hno
    obtain ⟨hu1, hu2, hu3, hu4, hu5, hu6, hu7, hu8⟩ := id hM1
    have hU := hu1.1
    have hN := hu2.1
    have hD := hu4.1
    have hMl := hu7.1
    have hQ := hu5.1
    have hXl := fun x (hx : x < sU s) => (hX x hx).2.2
    have hl16 := InR.lt hXl hI
    have hsy : SyOk (sU s) (sS s) := MI.sy hM1
    refine Ev.iload_n dX8_next_44 rfl rfl ?_
    refine Ev.if_eq (tgt := 76) ⟨by decide, by decide⟩ dX8_next_45 (by decide) (fun h45 => ?_) (fun h45 => ?_)
    · exact absurd h45 (by decide)
    · skip
      refine Ev.aload_n dX8_next_48 rfl rfl ?_
      refine Ev.callV_I (M2 := mX8_isAbove) (args2 := []) (rcv := 272) (q := (RX8, TX8, 34)) (ci := 8) dX8_next_49 okX8_isAbove lk_X8_269 ovX8_isAbove.1.1 ovX8_isAbove.1.2 ovX8_isAbove.2 (by decide) rfl rfl ltc_272 shc_272 rfl (Nat.le_of_ble_eq_true rfl) (Nat.le_of_ble_eq_true rfl) (sM_above τ (sU s) hU hu1.2.1 A (sV s) (fun x hx => ⟨hA x hx, hl16 x hx⟩) (fun x hx => hu6.2.2 x (by omega))) ?_ rfl
      refine Ev.if_eq (tgt := 68) bI_inR dX8_next_52 (by decide) (fun h52 => ?_) (fun h52 => ?_)
      · skip
        have q52 := bI_0.mp h52
        refine Ev.aload_n dX8_next_68 rfl rfl ?_
        refine Ev.callV_G (M2 := mX8_goesOn) (args2 := []) (rcv := 272) (q := (RX8, TX8, 34)) (ci := 8) dX8_next_69 okX8_goesOn lk_X8_266 ovX8_goesOn.1.1 ovX8_goesOn.1.2 ovX8_goesOn.2 (by decide) rfl rfl ltc_272 shc_272 rfl (Nat.le_of_ble_eq_true rfl) (Nat.le_of_ble_eq_true rfl) (sM_goesOn τ (sU s) hU hu1.2.1 (NX s (sX s)) hX.az hX.ne A hI hA) (fun v_ m_ hp_ => ?_) rfl
        obtain ⟨v9, τ2, rfl, rfl, hF2, hvv⟩ := hp_
        rcases hvv with ⟨rfl, A2, hI2, hA2, hk2, hb2⟩ | ⟨rfl, hz2⟩
        · skip
          show Ev g mX8_next 72 [some (vR (272)), some (vI (1))] [vI (1)] (M0 (τ2)) 0 0 _
          refine Ev.istore_n (pl' := [some (vR (272)), some (vI (1))]) dX8_next_72 rfl (Nat.le_of_ble_eq_true rfl) rfl ?_
          refine Ev.goto (tgt := 44) dX8_next_73 (by decide) ?_
          refine Ev.wk (pl' := [some (vR (272)), some (vI (1))]) ⟨rfl, ⟨rfl, trivial⟩⟩ ?_
          exact ih (K + 1) (by omega) τ2 A2 (hM1.scr (S297 hF2)) (fun c h => ((S297 hF2).lo c h).trans (hk0 c h)) (hX.same hF2 (by decide)) hI2 hA2 (by omega) (srch_step (P := (nxP s)) (fun A B h z => nxP_cong hsy h z) (fun B z => z.1.2.1) hXl hI (by first | exact (fun z => q52 z.2) | exact (fun z => q59 z.1.2.2)) hno hb2)
        · skip
          have hM1 := hM1.scr (S297 hF2)
          have hk0 := fun c (h : c < 272) => ((S297 hF2).lo c h).trans (hk0 c h)
          show Ev g mX8_next 72 [some (vR (272)), some (vI (1))] [vI (0)] (M0 (τ2)) 0 0 _
          refine Ev.istore_n (pl' := [some (vR (272)), some (vI (0))]) dX8_next_72 rfl (Nat.le_of_ble_eq_true rfl) rfl ?_
          refine Ev.goto (tgt := 44) dX8_next_73 (by decide) ?_
          refine Ev.iload_n dX8_next_44 rfl rfl ?_
          refine Ev.if_eq (tgt := 76) ⟨by decide, by decide⟩ dX8_next_45 (by decide) (fun h45 => ?_) (fun h45 => ?_)
          · skip
            refine Ev.iconst dX8_next_76 ?_
            exact Ev.ireturn dX8_next_77 rfl (rE (by unfold MP o_next; (repeat rw [Int.toNat_natCast]); rw [ifP_f (by omega), ifP_f hfar, ifP_f (srch_end (P := (nxP s)) (fun A B h z => nxP_cong hsy h z) (fun B z => z.1.2.1) hXl hI (by first | exact (fun z => q52 z.2) | exact (fun z => q59 z.1.2.2)) hno hz2)]; exact ⟨rfl, hM1, hk0⟩))
          · exact absurd h45 (by decide)
      · skip
        have q52 := bI_1.mp h52
        refine Ev.aload_n dX8_next_55 rfl rfl ?_
        refine Ev.callV_I (M2 := mX8_fitsAll) (args2 := []) (rcv := 272) (q := (RX8, TX8, 34)) (ci := 8) dX8_next_56 okX8_fitsAll lk_X8_260 ovX8_fitsAll.1.1 ovX8_fitsAll.1.2 ovX8_fitsAll.2 (by decide) rfl rfl ltc_272 shc_272 rfl (Nat.le_of_ble_eq_true rfl) (Nat.le_of_ble_eq_true rfl) (sM_fitsAll τ (sU s) (sN s) hN hu2.2.1 (sB s) hu3 (sR s) (sW s) hu2.2.2.1 (fun r hr => ⟨(hu2.2.2.2 r hr).1, (hu2.2.2.2 r hr).2.1⟩) (fun r hr => (hu2.2.2.2 r hr).2.2) A (fun x hx => ⟨hA x hx, hl16 x hx⟩)) ?_ rfl
        refine Ev.if_eq (tgt := 68) bI_inR dX8_next_59 (by decide) (fun h59 => ?_) (fun h59 => ?_)
        · skip
          have q59 := bI_0.mp h59
          refine Ev.aload_n dX8_next_68 rfl rfl ?_
          refine Ev.callV_G (M2 := mX8_goesOn) (args2 := []) (rcv := 272) (q := (RX8, TX8, 34)) (ci := 8) dX8_next_69 okX8_goesOn lk_X8_266 ovX8_goesOn.1.1 ovX8_goesOn.1.2 ovX8_goesOn.2 (by decide) rfl rfl ltc_272 shc_272 rfl (Nat.le_of_ble_eq_true rfl) (Nat.le_of_ble_eq_true rfl) (sM_goesOn τ (sU s) hU hu1.2.1 (NX s (sX s)) hX.az hX.ne A hI hA) (fun v_ m_ hp_ => ?_) rfl
          obtain ⟨v9, τ2, rfl, rfl, hF2, hvv⟩ := hp_
          rcases hvv with ⟨rfl, A2, hI2, hA2, hk2, hb2⟩ | ⟨rfl, hz2⟩
          · skip
            show Ev g mX8_next 72 [some (vR (272)), some (vI (1))] [vI (1)] (M0 (τ2)) 0 0 _
            refine Ev.istore_n (pl' := [some (vR (272)), some (vI (1))]) dX8_next_72 rfl (Nat.le_of_ble_eq_true rfl) rfl ?_
            refine Ev.goto (tgt := 44) dX8_next_73 (by decide) ?_
            refine Ev.wk (pl' := [some (vR (272)), some (vI (1))]) ⟨rfl, ⟨rfl, trivial⟩⟩ ?_
            exact ih (K + 1) (by omega) τ2 A2 (hM1.scr (S297 hF2)) (fun c h => ((S297 hF2).lo c h).trans (hk0 c h)) (hX.same hF2 (by decide)) hI2 hA2 (by omega) (srch_step (P := (nxP s)) (fun A B h z => nxP_cong hsy h z) (fun B z => z.1.2.1) hXl hI (by first | exact (fun z => q52 z.2) | exact (fun z => q59 z.1.2.2)) hno hb2)
          · skip
            have hM1 := hM1.scr (S297 hF2)
            have hk0 := fun c (h : c < 272) => ((S297 hF2).lo c h).trans (hk0 c h)
            show Ev g mX8_next 72 [some (vR (272)), some (vI (1))] [vI (0)] (M0 (τ2)) 0 0 _
            refine Ev.istore_n (pl' := [some (vR (272)), some (vI (0))]) dX8_next_72 rfl (Nat.le_of_ble_eq_true rfl) rfl ?_
            refine Ev.goto (tgt := 44) dX8_next_73 (by decide) ?_
            refine Ev.iload_n dX8_next_44 rfl rfl ?_
            refine Ev.if_eq (tgt := 76) ⟨by decide, by decide⟩ dX8_next_45 (by decide) (fun h45 => ?_) (fun h45 => ?_)
            · skip
              refine Ev.iconst dX8_next_76 ?_
              exact Ev.ireturn dX8_next_77 rfl (rE (by unfold MP o_next; (repeat rw [Int.toNat_natCast]); rw [ifP_f (by omega), ifP_f hfar, ifP_f (srch_end (P := (nxP s)) (fun A B h z => nxP_cong hsy h z) (fun B z => z.1.2.1) hXl hI (by first | exact (fun z => q52 z.2) | exact (fun z => q59 z.1.2.2)) hno hz2)]; exact ⟨rfl, hM1, hk0⟩))
            · exact absurd h45 (by decide)
        · skip
          have q59 := bI_1.mp h59
          refine Ev.aload_n dX8_next_62 rfl rfl ?_
          refine Ev.callV_G (M2 := mX8_keep) (args2 := []) (rcv := 272) (q := (RX8, TX8, 34)) (ci := 8) dX8_next_63 okX8_keep lk_X8_263 ovX8_keep.1.1 ovX8_keep.1.2 ovX8_keep.2 (by decide) rfl rfl ltc_272 shc_272 rfl (Nat.le_of_ble_eq_true rfl) (Nat.le_of_ble_eq_true rfl) (sM_keep τ (sU s) hU hu1.2.1 A hA) (fun v_ m_ hp_ => ?_) rfl
          obtain ⟨τ2, rfl, rfl, hkF, hk27, hk293⟩ := hp_
          show Ev g mX8_next 66 [some (vR (272)), some (vI (1))] [] (M0 (τ2)) 0 0 _
          refine Ev.iconst dX8_next_66 ?_
          exact Ev.ireturn dX8_next_67 rfl (rE (by have hls := lstA_eq (U := sU s) (P := (nxP s)) (fun B z => ansP_lt z.1) ⟨⟨⟨hal, hI, q59⟩, q52⟩, hno⟩; unfold MP o_next; (repeat rw [Int.toNat_natCast]); rw [ifP_f (by omega), ifP_f hfar, ifP_t ⟨A, ⟨hal, hI, q59⟩, q52⟩]; exact ⟨rfl, ((show MI (wA s (sA s) (sV s)) τ from hM1).kept hkF hk27 (fun x hx => by rw [hls x hx]; exact ⟨hk293 x hx, hl16 x hx⟩)), (fun c h => (kpF hkF c h).trans (hk0 c h))⟩))

set_option maxRecDepth 100000 in
set_option maxHeartbeats 4000000 in
theorem r_next {g : GC} (s : SS) (σ : Sg) (hM : MI s σ) : Ev g mX8_next 0 [some (vR (272)), none] [] (M0 (σ)) 0 0 (retE (MP σ (o_next s))) := by
  refine Ev.aload_n dX8_next_0 rfl rfl ?_
  refine Ev.iconst dX8_next_1 ?_
  refine pf_X8_90 rfl dX8_next_2 ltc_272 shc_272 ?_
  obtain ⟨σ1, hs1⟩ : ∃ ρ : Sg, ρ = upC σ 272 0 0 := ⟨_, rfl⟩
  refine Ev.mem (τ := σ1) hs1.symm ?_
  have hM1 : MI s σ1 := by rw [hs1]; exact hM.th
  have hk0 : ∀ c, c < 272 → σ1 c = σ c := fun c hc => by rw [hs1]; exact upC_ne (by omega)
  obtain ⟨hu1, hu2, hu3, hu4, hu5, hu6, hu7, hu8⟩ := id hM1
  have hU := hu1.1
  have hN := hu2.1
  have hD := hu4.1
  have hMl := hu7.1
  have hQ := hu5.1
  have h27 := u6_27 hu6
  have hA6 := hu6.1
  refine Ev.aload_n dX8_next_5 rfl rfl ?_
  refine gf_X8_71 (x := (σ1 272 27)) rfl dX8_next_6 ltc_272 shc_272 rfl ?_
  refine Ev.aload_n dX8_next_9 rfl rfl ?_
  refine gf_X8_93 (x := ((sU s : Nat) : Int)) rfl dX8_next_10 ltc_272 shc_272 hu1.2.1 ?_
  refine Ev.icmp_eq (tgt := 19) ⟨by omega, by omega⟩ ⟨by omega, by omega⟩ dX8_next_13 (by decide) (fun h13 => ?_) (fun h13 => ?_)
  · skip
    refine Ev.aload_n dX8_next_19 rfl rfl ?_
    refine Ev.callV_G (M2 := mX8_begun) (args2 := []) (rcv := 272) (q := (RX8, TX8, 34)) (ci := 8) dX8_next_20 okX8_begun lk_X8_253 ovX8_begun.1.1 ovX8_begun.1.2 ovX8_begun.2 (by decide) rfl rfl ltc_272 shc_272 rfl (Nat.le_of_ble_eq_true rfl) (Nat.le_of_ble_eq_true rfl) (rM_begun s σ1 hM1) (fun v_ m_ hp_ => ?_) rfl
    obtain ⟨v, τ, rfl, rfl, hS1, hvv⟩ := hp_
    have hk0 := fun c (h : c < 272) => (hS1.lo c h).trans (hk0 c h)
    have hM1 := hM1.scr hS1
    obtain ⟨hu1, hu2, hu3, hu4, hu5, hu6, hu7, hu8⟩ := id hM1
    have hU := hu1.1
    have hN := hu2.1
    have hD := hu4.1
    have hMl := hu7.1
    have hQ := hu5.1
    rcases hvv with ⟨rfl, hfar⟩ | ⟨rfl, hfar, hd, hXw, Yw, hYw⟩
    · skip
      show Ev g mX8_next 23 [some (vR (272)), none] [vI (-5)] (M0 (τ)) 0 0 _
      refine Ev.if_eq (tgt := 29) ⟨by decide, by decide⟩ dX8_next_23 (by decide) (fun h23 => ?_) (fun h23 => ?_)
      · exact absurd h23 (by decide)
      · skip
        refine Ev.bipush (n := -5) (by decide) dX8_next_26 ?_
        exact Ev.ireturn dX8_next_28 rfl (rE (by unfold MP o_next; (repeat rw [Int.toNat_natCast]); rw [ifP_f (by omega), ifP_t hfar]; exact ⟨rfl, hM1, hk0⟩))
    · skip
      show Ev g mX8_next 23 [some (vR (272)), none] [vI (0)] (M0 (τ)) 0 0 _
      refine Ev.if_eq (tgt := 29) ⟨by decide, by decide⟩ dX8_next_23 (by decide) (fun h23 => ?_) (fun h23 => ?_)
      · skip
        refine Ev.aload_n dX8_next_29 rfl rfl ?_
        refine gf_X8_197 (x := bI (¬ AL s (sX s))) rfl dX8_next_30 ltc_272 shc_272 hd ?_
        refine Ev.if_eq (tgt := 38) bI_inR dX8_next_33 (by decide) (fun h33 => ?_) (fun h33 => ?_)
        · skip
          have q33 := bI_0.mp h33
          have hal : AL s (sX s) := Classical.byContradiction q33
          refine Ev.aload_n dX8_next_38 rfl rfl ?_
          refine Ev.callV_G (M2 := mX8_first) (args2 := []) (rcv := 272) (q := (RX8, TX8, 34)) (ci := 8) dX8_next_39 okX8_first lk_X8_257 ovX8_first.1.1 ovX8_first.1.2 ovX8_first.2 (by decide) rfl rfl ltc_272 shc_272 rfl (Nat.le_of_ble_eq_true rfl) (Nat.le_of_ble_eq_true rfl) (sM_first τ (sU s) hU hu1.2.1 (NX s (sX s)) (hXw hal).az) (fun v_ m_ hp_ => ?_) rfl
          obtain ⟨τ2, rfl, rfl, hF, hG⟩ := hp_
          show Ev g mX8_next 42 [some (vR (272)), none] [] (M0 (τ2)) 0 0 _
          refine Ev.iconst dX8_next_42 ?_
          refine Ev.istore_n (pl' := [some (vR (272)), some (vI (1))]) dX8_next_43 rfl (Nat.le_of_ble_eq_true rfl) rfl ?_
          refine Ev.wk (pl' := [some (vR (272)), some (vI (1))]) ⟨rfl, ⟨rfl, trivial⟩⟩ ?_
          exact r_next_l s σ hal hfar (by omega) (16 ^ sU s) 0 (by omega) τ2 _ (hM1.scr (S297 hF)) (fun c h => ((S297 hF).lo c h).trans (hk0 c h)) ((hXw hal).same hF (by decide)) (lo_in (hXw hal).ne) hG (Nat.zero_le _) (srch_0 (P := (nxP s)) (fun B z => z.1.2.1))
        · skip
          have q33 := bI_1.mp h33
          refine Ev.iconst dX8_next_36 ?_
          exact Ev.ireturn dX8_next_37 rfl (rE (by unfold MP o_next; (repeat rw [Int.toNat_natCast]); rw [ifP_f (by omega), ifP_f hfar, ifP_f (fun ⟨B, z⟩ => q33 z.1.1)]; exact ⟨rfl, hM1, hk0⟩))
      · exact absurd h23 (by decide)
  · skip
    refine Ev.bipush (n := -3) (by decide) dX8_next_16 ?_
    exact Ev.ireturn dX8_next_18 rfl (rE (by unfold MP o_next; (repeat rw [Int.toNat_natCast]); rw [ifP_t (by omega)]; exact ⟨rfl, hM1, hk0⟩))

set_option maxRecDepth 100000 in
set_option maxHeartbeats 4000000 in
theorem r_answer {g : GC} (s : SS) (σ : Sg) (hM : MI s σ) (x : Int) (h_x : inR x) : Ev g mX8_answer 0 [some (vR (272)), some (vI (x))] [] (M0 (σ)) 0 0 (retE (MP σ (o_answer s x))) := by
  refine Ev.aload_n dX8_answer_0 rfl rfl ?_
  refine Ev.iconst dX8_answer_1 ?_
  refine pf_X8_90 rfl dX8_answer_2 ltc_272 shc_272 ?_
  obtain ⟨σ1, hs1⟩ : ∃ ρ : Sg, ρ = upC σ 272 0 0 := ⟨_, rfl⟩
  refine Ev.mem (τ := σ1) hs1.symm ?_
  have hM1 : MI s σ1 := by rw [hs1]; exact hM.th
  have hk0 : ∀ c, c < 272 → σ1 c = σ c := fun c hc => by rw [hs1]; exact upC_ne (by omega)
  obtain ⟨hu1, hu2, hu3, hu4, hu5, hu6, hu7, hu8⟩ := id hM1
  have hU := hu1.1
  have hN := hu2.1
  have hD := hu4.1
  have hMl := hu7.1
  have hQ := hu5.1
  have h27 := u6_27 hu6
  have hA6 := hu6.1
  refine Ev.aload_n dX8_answer_5 rfl rfl ?_
  refine Ev.iload_n dX8_answer_6 rfl rfl ?_
  refine Ev.callV_I (M2 := mX8_noUnknown) (args2 := [vI (x)]) (rcv := 272) (q := (RX8, TX8, 34)) (ci := 8) dX8_answer_7 okX8_noUnknown lk_X8_119 ovX8_noUnknown.1.1 ovX8_noUnknown.1.2 ovX8_noUnknown.2 (by decide) rfl rfl ltc_272 shc_272 rfl (Nat.le_of_ble_eq_true rfl) (Nat.le_of_ble_eq_true rfl) (sM_noUnknown σ1 (sU s) hU hu1.2.1 (x) ⟨by omega, by omega⟩) ?_ rfl
  refine Ev.if_eq (tgt := 15) bI_inR dX8_answer_10 (by decide) (fun h10 => ?_) (fun h10 => ?_)
  · skip
    have q10 := bI_0.mp h10
    obtain ⟨kx, rfl⟩ : ∃ n_ : Nat, x = (n_ : Int) := ⟨x.toNat, by omega⟩
    refine Ev.iload_n dX8_answer_15 rfl rfl ?_
    refine Ev.aload_n dX8_answer_16 rfl rfl ?_
    refine gf_X8_71 (x := (σ1 272 27)) rfl dX8_answer_17 ltc_272 shc_272 rfl ?_
    refine Ev.icmp_ge (tgt := 32) ⟨by omega, by omega⟩ ⟨by omega, by omega⟩ dX8_answer_20 (by decide) (fun h20 => ?_) (fun h20 => ?_)
    · skip
      refine Ev.bipush (n := -3) (by decide) dX8_answer_32 ?_
      exact Ev.ireturn dX8_answer_34 rfl (rE (by unfold MP o_answer; (repeat rw [Int.toNat_natCast]); rw [ifP_f (by omega)]; exact ⟨(by show _ = ifP _ _ _; rw [ifP_f (by omega)]), hM1, hk0⟩))
    · skip
      refine Ev.aload_n dX8_answer_23 rfl rfl ?_
      refine gf_X8_75 rfl dX8_answer_24 ltc_272 shc_272 rfc_272_28 ?_
      refine Ev.iload_n dX8_answer_27 rfl rfl ?_
      refine Ev.iaload (v := ((sV s kx : Nat) : Int)) dX8_answer_28 ltc_293 shc_293 (by decide) (by omega) (by omega) (ldx rfl (hu6.2.2 kx (by omega)).1) ?_
      refine Ev.goto (tgt := 34) dX8_answer_29 (by decide) ?_
      exact Ev.ireturn dX8_answer_34 rfl (rE (by unfold MP o_answer; (repeat rw [Int.toNat_natCast]); rw [ifP_f (by omega)]; exact ⟨(by show _ = ifP _ _ _; rw [ifP_t (by omega)]), hM1, hk0⟩))
  · skip
    have q10 := bI_1.mp h10
    refine Ev.iconst dX8_answer_13 ?_
    exact Ev.ireturn dX8_answer_14 rfl (rE (by unfold MP o_answer; (repeat rw [Int.toNat_natCast]); rw [ifP_t (by omega)]; exact ⟨rfl, hM1, hk0⟩))

