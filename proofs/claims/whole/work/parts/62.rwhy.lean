/-! THE REFERENCE: why, reason -/
/-- the reasons kept -/
def RsM (σ : Sg) (Q d : Nat) (τ : Sg) : Prop := (∀ c i, c ≠ 292 → (c = 272 → i ≠ 25) → τ c i = σ c i) ∧ τ 272 25 = (popN d Q : Int) ∧ ∀ k, k < popN d Q → τ 292 k = (rsL Q d k : Int)
theorem RsM.y {σ τ : Sg} {Q d : Nat} (h : RsM σ Q d τ) (hb : Q.testBit d = true) : RsM σ Q (d + 1) (upC (upC τ 292 (popN d Q) (d : Int)) 272 25 ((popN d Q + 1 : Nat) : Int)) := by
  obtain ⟨h1, h2, h3⟩ := h
  refine ⟨fun c i hc hi => ?_, by rw [upC_at, popN_t hb], fun k hk => ?_⟩
  · by_cases e : c = 272
    · subst e; rw [upC_self (hi rfl), upC_ne hc]; exact h1 272 i hc hi
    · rw [upC_ne e, upC_ne hc]; exact h1 c i hc hi
  · rw [upC_ne (by decide), rsL_t hb]
    rw [popN_t hb] at hk
    by_cases e : k = popN d Q
    · rw [e, upC_at, updF_at]
    · rw [upC_self e, updF_ne e]; exact h3 k (by omega)
theorem RsM.n {σ τ : Sg} {Q d : Nat} (h : RsM σ Q d τ) (hb : Q.testBit d = false) : RsM σ Q (d + 1) τ := ⟨h.1, by rw [popN_f hb]; exact h.2.1, fun k hk => by rw [rsL_f hb]; rw [popN_f hb] at hk; exact h.2.2 k hk⟩
theorem MI.rsn {s : SS} {σ τ : Sg} {Q : Nat} (h : MI s σ) (hQ : Q < 2 ^ sD s) (hR : RsM σ Q 12 τ) : MI (wS s Q) τ := by
  obtain ⟨hu1, hu2, hu3, hu4, hu5, hu6, hu7, hu8⟩ := h
  obtain ⟨r1, r2, r3⟩ := hR
  have hd : 12 = sD s + (12 - sD s) := by have := hu4.1; omega
  rw [hd, popN_ext hQ] at r2 r3
  rw [rsL_ext hQ] at r3
  have e0 : ∀ i, i ≠ 25 → τ 272 i = σ 272 i := fun i hi => r1 272 i (by decide) (fun _ => hi)
  have e : ∀ c, c ≠ 272 → c ≠ 292 → τ c = σ c := fun c h0 h20 => by
    funext i
    exact r1 c i h20 (fun z => absurd z h0)
  exact ⟨hu1.cg (e0 1 (by decide)) (e 273 (by decide) (by decide)) (e 274 (by decide) (by decide)), hu2.cg (e0 8 (by decide)) (fun c _ _ => e c (by omega) (by omega)), hu3.cg (fun c i _ _ => by rw [e c (by omega) (by omega)]), hu4.cg (e0 4 (by decide)) (fun c _ _ => e c (by omega) (by omega)), ⟨Nat.le_trans (popN_le _ _) hu4.1, r2, r3⟩, hu6.cg (e0 27 (by decide)) (e 293 (by decide) (by decide)), hu7.cg (e0 19 (by decide)) (fun c _ _ => e c (by omega) (by omega)), (e0 24 (by decide)).trans hu8⟩
theorem RsM.kp {σ τ : Sg} {Q d : Nat} (h : RsM σ Q d τ) : ∀ c, c < 272 → τ c = σ c := fun c hc => by
  funext i
  exact h.1 c i (by omega) (fun z => by omega)
theorem bit_all {d k : Nat} (h : k < d) : (2 ^ d - 1).testBit k = true := by rw [Nat.testBit_two_pow_sub_one]; exact decide_eq_true h
theorem less_sub {P : Nat → Prop} {d k : Nat} (h : k < d) : andN (lessS P (2 ^ d - 1) k) (2 ^ k) = lessS P (2 ^ d - 1) k - 2 ^ k ∧ 2 ^ k ≤ lessS P (2 ^ d - 1) k := by
  have hb : (lessS P (2 ^ d - 1) k).testBit k = true := by rw [lessS_tb (Nat.le_refl _)]; exact bit_all h
  exact ⟨andN_sub hb, (sub_bit hb).2⟩
set_option maxRecDepth 100000 in
set_option maxHeartbeats 4000000 in
theorem rM_rs_l {g : GC} (s : SS) (σ1 : Sg) (hM1 : MI s σ1) (Q : Nat) (hQb : Q < 2 ^ sD s) (hQ2 : Q < 4096) : ∀ j d : Nat, d + j = 12 → ∀ τ : Sg, RsM σ1 Q d τ → Ev g mX8_reasoned 7 [some (vR (272)), some (vI (((Q : Nat) : Int))), some (vI (((d : Nat) : Int)))] [] (M0 (τ)) 0 0 (retE (fun v τ => v = (popN (sD s) Q : Int) ∧ MI (wS s Q) τ ∧ ∀ c, c < 272 → τ c = σ1 c)) := by
  intro j
  induction j with
  | zero =>
    intro d hij τ hR
    obtain ⟨hu1, hu2, hu3, hu4, hu5, hu6, hu7, hu8⟩ := id hM1
    have hU := hu1.1
    have hN := hu2.1
    have hD := hu4.1
    have hMl := hu7.1
    have hQ := hu5.1
    refine Ev.iload_n dX8_reasoned_7 rfl rfl ?_
    refine Ev.bipush (n := 12) (by decide) dX8_reasoned_8 ?_
    refine Ev.icmp_ge (tgt := 48) ⟨by omega, by omega⟩ ⟨by decide, by decide⟩ dX8_reasoned_10 (by decide) (fun h10 => ?_) (fun h10 => ?_)
    · skip
      have hv12 : τ 272 25 = (popN (sD s) Q : Int) := by have h2 := hR.2.1; rw [show d = sD s + (12 - sD s) by omega, popN_ext hQb] at h2; exact h2
      refine Ev.aload_n dX8_reasoned_48 rfl rfl ?_
      refine gf_X8_218 (x := ((popN (sD s) Q : Nat) : Int)) rfl dX8_reasoned_49 ltc_272 shc_272 hv12 ?_
      exact Ev.ireturn dX8_reasoned_52 rfl (rE ⟨rfl, hM1.rsn hQb (by rw [show 12 = d by omega]; exact hR), hR.kp⟩)
    · exact absurd h10 (by omega)
  | succ j ih =>
    intro d hij τ hR
    obtain ⟨hu1, hu2, hu3, hu4, hu5, hu6, hu7, hu8⟩ := id hM1
    have hU := hu1.1
    have hN := hu2.1
    have hD := hu4.1
    have hMl := hu7.1
    have hQ := hu5.1
    have hpl := popN_le d Q
    refine Ev.iload_n dX8_reasoned_7 rfl rfl ?_
    refine Ev.bipush (n := 12) (by decide) dX8_reasoned_8 ?_
    refine Ev.icmp_ge (tgt := 48) ⟨by omega, by omega⟩ ⟨by decide, by decide⟩ dX8_reasoned_10 (by decide) (fun h10 => ?_) (fun h10 => ?_)
    · exact absurd h10 (by omega)
    · skip
      refine Ev.iload_n dX8_reasoned_13 rfl rfl ?_
      refine Ev.iload_n dX8_reasoned_14 rfl rfl ?_
      refine Ev.ishr dX8_reasoned_15 ?_
      refine Ev.iconst dX8_reasoned_16 ?_
      refine Ev.iand dX8_reasoned_17 ?_
      rw [show (iAnd ((iShr (((Q : Nat) : Int)) (((d : Nat) : Int)))) (1)) = (((b2 (Q.testBit d)) : Nat) : Int) from bit_nat (by omega) (by omega)]
      refine Ev.iconst dX8_reasoned_18 ?_
      refine Ev.icmp_ne (tgt := 42) b2_inR ⟨by decide, by decide⟩ dX8_reasoned_19 (by decide) (fun h19 => ?_) (fun h19 => ?_)
      · skip
        refine Ev.iinc (pl' := [some (vR (272)), some (vI (((Q : Nat) : Int))), some (vI (((d : Nat) : Int) + 1))]) dX8_reasoned_42 rfl (Nat.le_of_ble_eq_true rfl) rfl ?_
        refine Ev.goto (tgt := 7) dX8_reasoned_45 (by decide) ?_
        refine Ev.wk (pl' := [some (vR (272)), some (vI (((Q : Nat) : Int))), some (vI ((((d + 1) : Nat) : Int)))]) ⟨rfl, ⟨rfl, ⟨vIe (by omega), trivial⟩⟩⟩ ?_
        exact ih (d + 1) (by omega) _ (hR.n (b2_0.mp (by have := @b2_le (Q.testBit d); omega)))
      · skip
        refine Ev.aload_n dX8_reasoned_22 rfl rfl ?_
        refine gf_X8_68 rfl dX8_reasoned_23 ltc_272 shc_272 rfc_272_26 ?_
        refine Ev.aload_n dX8_reasoned_26 rfl rfl ?_
        refine gf_X8_218 (x := ((popN d Q : Nat) : Int)) rfl dX8_reasoned_27 ltc_272 shc_272 hR.2.1 ?_
        refine Ev.iload_n dX8_reasoned_30 rfl rfl ?_
        refine Ev.iastore dX8_reasoned_31 ltc_292 shc_292 (by decide) (by omega) (by omega) ?_
        refine Ev.mem (τ := upC τ 292 (popN d Q) (d : Int)) (upi rfl rfl) ?_
        refine Ev.aload_n dX8_reasoned_32 rfl rfl ?_
        refine Ev.dupR dX8_reasoned_33 ?_
        refine gf_X8_218 (x := ((popN d Q : Nat) : Int)) rfl dX8_reasoned_34 ltc_272 shc_272 (show (upC τ 292 (popN d Q) (d : Int)) 272 25 = ((popN d Q : Nat) : Int) from ((congrFun (upC_ne (by decide)) 25).trans hR.2.1)) ?_
        refine Ev.iconst dX8_reasoned_37 ?_
        refine Ev.iadd dX8_reasoned_38 ?_
        refine pf_X8_218 rfl dX8_reasoned_39 ltc_272 shc_272 ?_
        refine Ev.iinc (pl' := [some (vR (272)), some (vI (((Q : Nat) : Int))), some (vI (((d : Nat) : Int) + 1))]) dX8_reasoned_42 rfl (Nat.le_of_ble_eq_true rfl) rfl ?_
        refine Ev.goto (tgt := 7) dX8_reasoned_45 (by decide) ?_
        refine Ev.mem (τ := upC (upC τ 292 (popN d Q) (d : Int)) 272 25 ((popN d Q + 1 : Nat) : Int)) (by rw [show ((popN d Q : Nat) : Int) + 1 = ((popN d Q + 1 : Nat) : Int) by omega]) ?_
        refine Ev.wk (pl' := [some (vR (272)), some (vI (((Q : Nat) : Int))), some (vI ((((d + 1) : Nat) : Int)))]) ⟨rfl, ⟨rfl, ⟨vIe (by omega), trivial⟩⟩⟩ ?_
        exact ih (d + 1) (by omega) _ (hR.y (b2_ne.mp (by omega)))

set_option maxRecDepth 100000 in
set_option maxHeartbeats 4000000 in
theorem rM_reasoned {g : GC} (s : SS) (σ1 : Sg) (hM1 : MI s σ1) (Q : Nat) (hQb : Q < 2 ^ sD s) (hQ2 : Q < 4096) : Ev g mX8_reasoned 0 [some (vR (272)), some (vI (((Q : Nat) : Int))), none] [] (M0 (σ1)) 0 0 (retE (fun v τ => v = (popN (sD s) Q : Int) ∧ MI (wS s Q) τ ∧ ∀ c, c < 272 → τ c = σ1 c)) := by
  refine Ev.aload_n dX8_reasoned_0 rfl rfl ?_
  refine Ev.iconst dX8_reasoned_1 ?_
  refine pf_X8_218 rfl dX8_reasoned_2 ltc_272 shc_272 ?_
  refine Ev.iconst dX8_reasoned_5 ?_
  refine Ev.istore_n (pl' := [some (vR (272)), some (vI (((Q : Nat) : Int))), some (vI (0))]) dX8_reasoned_6 rfl (Nat.le_of_ble_eq_true rfl) rfl ?_
  refine Ev.wk (pl' := [some (vR (272)), some (vI (((Q : Nat) : Int))), some (vI (((0 : Nat) : Int)))]) ⟨rfl, ⟨rfl, ⟨vIe rfl, trivial⟩⟩⟩ ?_
  exact rM_rs_l s σ1 hM1 Q hQb hQ2 12 0 (by omega) _ ⟨(fun c i hc hi => by by_cases e : c = 272; (subst e; exact upC_self (hi rfl)); (rw [upC_ne e])), upC_at, fun k hk => absurd hk (by show ¬ k < 0; omega)⟩

set_option maxRecDepth 100000 in
set_option maxHeartbeats 4000000 in
theorem rM_cut_l {g : GC} (s : SS) (σ1 : Sg) (hM1 : MI s σ1) (kp : Nat) (hkp : kp < 4096) : ∀ j K : Nat, K + j = sD s → ∀ ρ : Sg, Same [294] σ1 ρ → AW ρ (sU s) (cutS s kp K) → Ev g mX8_asideCut 7 [some (vR (272)), some (vI (((kp : Nat) : Int))), some (vI (((K : Nat) : Int)))] [] (M0 (ρ)) 0 0 (retW (fun τ => Same [294] σ1 τ ∧ AW τ (sU s) (cutT s kp))) := by
  intro j
  induction j with
  | zero =>
    intro K hij ρ hF hY
    obtain ⟨hu1, hu2, hu3, hu4, hu5, hu6, hu7, hu8⟩ := id hM1
    have hU := hu1.1
    have hN := hu2.1
    have hD := hu4.1
    have hMl := hu7.1
    have hQ := hu5.1
    refine Ev.iload_n dX8_asideCut_7 rfl rfl ?_
    refine Ev.aload_n dX8_asideCut_8 rfl rfl ?_
    refine gf_X8_109 (x := ((sD s : Nat) : Int)) rfl dX8_asideCut_9 ltc_272 shc_272 ((congrFun (hF 272 (by decide)) 4).trans hu4.2.1) ?_
    refine Ev.icmp_ge (tgt := 50) ⟨by omega, by omega⟩ ⟨by omega, by omega⟩ dX8_asideCut_12 (by decide) (fun h12 => ?_) (fun h12 => ?_)
    · skip
      exact Ev.vreturn dX8_asideCut_50 rfl (rW ⟨hF, by show AW _ (sU s) (cutS s kp (sD s)); rw [show sD s = K by omega]; exact hY⟩)
    · exact absurd h12 (by omega)
  | succ j ih =>
    intro K hij ρ hF hY
    obtain ⟨hu1, hu2, hu3, hu4, hu5, hu6, hu7, hu8⟩ := id hM1
    have hU := hu1.1
    have hN := hu2.1
    have hD := hu4.1
    have hMl := hu7.1
    have hQ := hu5.1
    have hst := hu4.2.2 K (by omega)
    have hcl := (hY (sO s K) hst.2.1).2
    refine Ev.iload_n dX8_asideCut_7 rfl rfl ?_
    refine Ev.aload_n dX8_asideCut_8 rfl rfl ?_
    refine gf_X8_109 (x := ((sD s : Nat) : Int)) rfl dX8_asideCut_9 ltc_272 shc_272 ((congrFun (hF 272 (by decide)) 4).trans hu4.2.1) ?_
    refine Ev.icmp_ge (tgt := 50) ⟨by omega, by omega⟩ ⟨by omega, by omega⟩ dX8_asideCut_12 (by decide) (fun h12 => ?_) (fun h12 => ?_)
    · exact absurd h12 (by omega)
    · skip
      refine Ev.iload_n dX8_asideCut_15 rfl rfl ?_
      refine Ev.iload_n dX8_asideCut_16 rfl rfl ?_
      refine Ev.ishr dX8_asideCut_17 ?_
      refine Ev.iconst dX8_asideCut_18 ?_
      refine Ev.iand dX8_asideCut_19 ?_
      rw [show (iAnd ((iShr (((kp : Nat) : Int)) (((K : Nat) : Int)))) (1)) = (((b2 (kp.testBit K)) : Nat) : Int) from bit_nat (by omega) (by omega)]
      refine Ev.iconst dX8_asideCut_20 ?_
      refine Ev.icmp_ne (tgt := 44) b2_inR ⟨by decide, by decide⟩ dX8_asideCut_21 (by decide) (fun h21 => ?_) (fun h21 => ?_)
      · skip
        refine Ev.iinc (pl' := [some (vR (272)), some (vI (((kp : Nat) : Int))), some (vI (((K : Nat) : Int) + 1))]) dX8_asideCut_44 rfl (Nat.le_of_ble_eq_true rfl) rfl ?_
        refine Ev.goto (tgt := 7) dX8_asideCut_47 (by decide) ?_
        refine Ev.wk (pl' := [some (vR (272)), some (vI (((kp : Nat) : Int))), some (vI ((((K + 1) : Nat) : Int)))]) ⟨rfl, ⟨rfl, ⟨vIe (by omega), trivial⟩⟩⟩ ?_
        exact ih (K + 1) (by omega) ρ hF (by rw [cutS_f (b2_0.mp (by have := @b2_le (kp.testBit K); omega))]; exact hY)
      · skip
        refine Ev.aload_n dX8_asideCut_24 rfl rfl ?_
        refine gf_X8_78 rfl dX8_asideCut_25 ltc_272 shc_272 rfc_272_29 ?_
        refine Ev.aload_n dX8_asideCut_28 rfl rfl ?_
        refine gf_X8_16 rfl dX8_asideCut_29 ltc_272 shc_272 rfc_272_5 ?_
        refine Ev.iload_n dX8_asideCut_32 rfl rfl ?_
        refine Ev.iaload (v := ((sO s K : Nat) : Int)) dX8_asideCut_33 ltc_275 shc_275 (by decide) (by omega) (by omega) (ldx rfl ((congrFun (hF 275 (by decide)) K).trans hst.1)) ?_
        refine Ev.dup2RI dX8_asideCut_34 ?_
        refine Ev.iaload (v := (((cutS s kp K) (sO s K) : Nat) : Int)) dX8_asideCut_35 ltc_294 shc_294 (by decide) (by omega) (Int.ofNat_lt.mpr (Nat.lt_of_lt_of_le hst.2.1 hU)) (ldx rfl (hY _ hst.2.1).1) ?_
        refine Ev.aload_n dX8_asideCut_36 rfl rfl ?_
        refine gf_X8_19 rfl dX8_asideCut_37 ltc_272 shc_272 rfc_272_6 ?_
        refine Ev.iload_n dX8_asideCut_40 rfl rfl ?_
        refine Ev.iaload (v := ((sP s K : Nat) : Int)) dX8_asideCut_41 ltc_276 shc_276 (by decide) (by omega) (by omega) (ldx rfl ((congrFun (hF 276 (by decide)) K).trans hst.2.2.1)) ?_
        refine Ev.iand dX8_asideCut_42 ?_
        rw [show (iAnd ((((cutS s kp K) (sO s K) : Nat) : Int)) (((sP s K : Nat) : Int))) = ((((cutS s kp K) (sO s K) &&& sP s K) : Nat) : Int) from iAnd_nat (by omega)]
        refine Ev.iastore dX8_asideCut_43 ltc_294 shc_294 (by decide) (by omega) (Int.ofNat_lt.mpr (Nat.lt_of_lt_of_le hst.2.1 hU)) ?_
        refine Ev.iinc (pl' := [some (vR (272)), some (vI (((kp : Nat) : Int))), some (vI (((K : Nat) : Int) + 1))]) dX8_asideCut_44 rfl (Nat.le_of_ble_eq_true rfl) rfl ?_
        refine Ev.goto (tgt := 7) dX8_asideCut_47 (by decide) ?_
        refine Ev.mem (τ := upC ρ 294 (sO s K) (((cutS s kp K) (sO s K) &&& sP s K : Nat) : Int)) (upi rfl rfl) ?_
        refine Ev.wk (pl' := [some (vR (272)), some (vI (((kp : Nat) : Int))), some (vI ((((K + 1) : Nat) : Int)))]) ⟨rfl, ⟨rfl, ⟨vIe (by omega), trivial⟩⟩⟩ ?_
        exact ih (K + 1) (by omega) _ (hF.up (by decide)) (by rw [cutS_t (b2_ne.mp (by omega))]; exact AZ.up (c := 294) (and_ltN hcl) hY)

set_option maxRecDepth 100000 in
set_option maxHeartbeats 4000000 in
theorem rM_cut {g : GC} (s : SS) (σ1 : Sg) (hM1 : MI s σ1) (kp : Nat) (hkp : kp < 4096) : Ev g mX8_asideCut 0 [some (vR (272)), some (vI (((kp : Nat) : Int))), none] [] (M0 (σ1)) 0 0 (retW (fun τ => Same [294] σ1 τ ∧ AW τ (sU s) (cutT s kp))) := by
  obtain ⟨hu1, hu2, hu3, hu4, hu5, hu6, hu7, hu8⟩ := id hM1
  have hU := hu1.1
  have hN := hu2.1
  have hD := hu4.1
  have hMl := hu7.1
  have hQ := hu5.1
  refine Ev.aload_n dX8_asideCut_0 rfl rfl ?_
  refine Ev.iconst dX8_asideCut_1 ?_
  refine Ev.callV_G (M2 := mX8_asideAs) (args2 := [vI (1)]) (rcv := 272) (q := (RX8, TX8, 34)) (ci := 8) dX8_asideCut_2 okX8_asideAs lk_X8_207 ovX8_asideAs.1.1 ovX8_asideAs.1.2 ovX8_asideAs.2 (by decide) rfl rfl ltc_272 shc_272 rfl (Nat.le_of_ble_eq_true rfl) (Nat.le_of_ble_eq_true rfl) (sM_asT σ1 (sU s) hU hu1.2.1 (sG s) (sX s) (fun x hx => ⟨(hu1.2.2.1 x hx).1, (hu1.2.2.1 x hx).2.2⟩) (fun x hx => ⟨(hu1.2.2.2 x hx).1, (hu1.2.2.2 x hx).2.2⟩)) (fun v_ m_ hp_ => ?_) rfl
  obtain ⟨τ, rfl, rfl, hF, hA⟩ := hp_
  show Ev g mX8_asideCut 5 [some (vR (272)), some (vI (((kp : Nat) : Int))), none] [] (M0 (τ)) 0 0 _
  refine Ev.iconst dX8_asideCut_5 ?_
  refine Ev.istore_n (pl' := [some (vR (272)), some (vI (((kp : Nat) : Int))), some (vI (0))]) dX8_asideCut_6 rfl (Nat.le_of_ble_eq_true rfl) rfl ?_
  refine Ev.wk (pl' := [some (vR (272)), some (vI (((kp : Nat) : Int))), some (vI (((0 : Nat) : Int)))]) ⟨rfl, ⟨rfl, ⟨vIe rfl, trivial⟩⟩⟩ ?_
  exact rM_cut_l s σ1 hM1 kp hkp (sD s) 0 (by omega) τ hF hA

set_option maxRecDepth 100000 in
set_option maxHeartbeats 4000000 in
theorem rM_lck {g : GC} (s : SS) (σ1 : Sg) (hM1 : MI s σ1) (kp x v : Nat) (hkp : kp < 4096) (hx : x < sU s) (hv : v < 16) : Ev g mX8_isLacked 0 [some (vR (272)), some (vI (((kp : Nat) : Int))), some (vI (((x : Nat) : Int))), some (vI (((v : Nat) : Int)))] [] (M0 (σ1)) 0 0 (retE (fun r τ => r = bI (LKd s x v kp) ∧ ScM σ1 τ)) := by
  have hS : ScM σ1 σ1 := fun _ _ _ _ _ _ => rfl
  obtain ⟨hu1, hu2, hu3, hu4, hu5, hu6, hu7, hu8⟩ := id hM1
  have hU := hu1.1
  have hN := hu2.1
  have hD := hu4.1
  have hMl := hu7.1
  have hQ := hu5.1
  refine Ev.aload_n dX8_isLacked_0 rfl rfl ?_
  refine Ev.iload_n dX8_isLacked_1 rfl rfl ?_
  refine Ev.callV_G (M2 := mX8_asideCut) (args2 := [vI (((kp : Nat) : Int))]) (rcv := 272) (q := (RX8, TX8, 34)) (ci := 8) dX8_isLacked_2 okX8_asideCut lk_X8_214 ovX8_asideCut.1.1 ovX8_asideCut.1.2 ovX8_asideCut.2 (by decide) rfl rfl ltc_272 shc_272 rfl (Nat.le_of_ble_eq_true rfl) (Nat.le_of_ble_eq_true rfl) (rM_cut s σ1 hM1 kp (by omega)) (fun v_ m_ hp_ => ?_) rfl
  obtain ⟨τ, rfl, rfl, hF, hA⟩ := hp_
  have hS := hS.tr (S294 hF)
  have hM1 := hM1.scr (S294 hF)
  obtain ⟨hu1, hu2, hu3, hu4, hu5, hu6, hu7, hu8⟩ := id hM1
  have hU := hu1.1
  have hN := hu2.1
  have hD := hu4.1
  have hMl := hu7.1
  have hQ := hu5.1
  show Ev g mX8_isLacked 5 [some (vR (272)), some (vI (((kp : Nat) : Int))), some (vI (((x : Nat) : Int))), some (vI (((v : Nat) : Int)))] [] (M0 (τ)) 0 0 _
  refine Ev.aload_n dX8_isLacked_5 rfl rfl ?_
  refine Ev.callV_G (M2 := mX8_narrowAside) (args2 := []) (rcv := 272) (q := (RX8, TX8, 34)) (ci := 8) dX8_isLacked_6 okX8_narrowAside lk_X8_211 ovX8_narrowAside.1.1 ovX8_narrowAside.1.2 ovX8_narrowAside.2 (by decide) rfl rfl ltc_272 shc_272 rfl (Nat.le_of_ble_eq_true rfl) (Nat.le_of_ble_eq_true rfl) (r_nar hM1 (cutT s kp) hA) (fun v_ m_ hp_ => ?_) rfl
  obtain ⟨τ2, rfl, rfl, hNP⟩ := hp_
  have hd := hNP.2.1
  have hXw := hNP.2.2.1
  obtain ⟨Yw, hYw⟩ := hNP.2.2.2
  have hS := hS.tr (hNP.scr)
  have hM1 := hM1.scr (hNP.scr)
  obtain ⟨hu1, hu2, hu3, hu4, hu5, hu6, hu7, hu8⟩ := id hM1
  have hU := hu1.1
  have hN := hu2.1
  have hD := hu4.1
  have hMl := hu7.1
  have hQ := hu5.1
  show Ev g mX8_isLacked 9 [some (vR (272)), some (vI (((kp : Nat) : Int))), some (vI (((x : Nat) : Int))), some (vI (((v : Nat) : Int)))] [] (M0 (τ2)) 0 0 _
  refine Ev.aload_n dX8_isLacked_9 rfl rfl ?_
  refine gf_X8_197 (x := bI (¬ AL s (cutT s kp))) rfl dX8_isLacked_10 ltc_272 shc_272 hd ?_
  refine Ev.if_ne (tgt := 29) bI_inR dX8_isLacked_13 (by decide) (fun h13 => ?_) (fun h13 => ?_)
  · skip
    have q13 := bI_1.mp h13
    refine Ev.iconst dX8_isLacked_29 ?_
    refine Ev.goto (tgt := 34) dX8_isLacked_30 (by decide) ?_
    exact Ev.zreturn dX8_isLacked_34 rfl (Or.inr rfl) (rE ⟨bI_t (by first | exact Or.inl q13 | exact Or.inr (b2_0.mp (by omega))), hS⟩)
  · skip
    have q13 := bI_0.mp h13
    have hal : AL s (cutT s kp) := Classical.byContradiction q13
    have hxl : NX s (cutT s kp) x < 65536 := (hXw hal x (by omega)).2.2
    refine Ev.aload_n dX8_isLacked_16 rfl rfl ?_
    refine gf_X8_78 rfl dX8_isLacked_17 ltc_272 shc_272 rfc_272_29 ?_
    refine Ev.iload_n dX8_isLacked_20 rfl rfl ?_
    refine Ev.iaload (v := ((NX s (cutT s kp) x : Nat) : Int)) dX8_isLacked_21 ltc_294 shc_294 (by decide) (by omega) (by omega) (ldx rfl (hXw hal x (by omega)).1) ?_
    refine Ev.iload_n dX8_isLacked_22 rfl rfl ?_
    refine Ev.ishr dX8_isLacked_23 ?_
    refine Ev.iconst dX8_isLacked_24 ?_
    refine Ev.iand dX8_isLacked_25 ?_
    rw [show (iAnd ((iShr (((NX s (cutT s kp) x : Nat) : Int)) (((v : Nat) : Int)))) (1)) = (((b2 ((NX s (cutT s kp) x).testBit v)) : Nat) : Int) from bit_nat (by omega) (by omega)]
    refine Ev.if_ne (tgt := 33) b2_inR dX8_isLacked_26 (by decide) (fun h26 => ?_) (fun h26 => ?_)
    · skip
      refine Ev.iconst dX8_isLacked_33 ?_
      exact Ev.zreturn dX8_isLacked_34 rfl (Or.inl rfl) (rE ⟨bI_f (fun z => z.elim (fun y => y hal) (fun y => by rw [b2_ne.mp h26] at y; cases y)), hS⟩)
    · skip
      refine Ev.iconst dX8_isLacked_29 ?_
      refine Ev.goto (tgt := 34) dX8_isLacked_30 (by decide) ?_
      exact Ev.zreturn dX8_isLacked_34 rfl (Or.inr rfl) (rE ⟨bI_t (by first | exact Or.inl q13 | exact Or.inr (b2_0.mp (by omega))), hS⟩)

set_option maxRecDepth 100000 in
set_option maxHeartbeats 4000000 in
theorem r_why_l {g : GC} (s : SS) (σ : Sg) (kx kv : Nat) (hx : kx < sU s) (hv : kv < 16) (hb : (sG s kx).testBit kv = true) (hl : LKd s kx kv (2 ^ sD s - 1)) : ∀ j K : Nat, K + j = sD s → ∀ τ : Sg, MI s τ → (∀ c, c < 272 → τ c = σ c) → Ev g mX8_why 68 [some (vR (272)), some (vI (((kx : Nat) : Int))), some (vI (((kv : Nat) : Int))), some (vI (((lessS (LKd s kx kv) (2 ^ sD s - 1) K : Nat) : Int))), some (vI (((K : Nat) : Int)))] [] (M0 (τ)) 0 0 (retE (MP σ (o_why s (kx : Int) (kv : Int)))) := by
  intro j
  induction j with
  | zero =>
    intro K hij τ hM1 hk0
    obtain ⟨hu1, hu2, hu3, hu4, hu5, hu6, hu7, hu8⟩ := id hM1
    have hU := hu1.1
    have hN := hu2.1
    have hD := hu4.1
    have hMl := hu7.1
    have hQ := hu5.1
    have hdl := dlt hD
    have hle := lessS_le (LKd s kx kv) (2 ^ sD s - 1) K
    refine Ev.iload dX8_why_68 rfl ?_
    refine Ev.aload_n dX8_why_70 rfl rfl ?_
    refine gf_X8_109 (x := ((sD s : Nat) : Int)) rfl dX8_why_71 ltc_272 shc_272 hu4.2.1 ?_
    refine Ev.icmp_ge (tgt := 109) ⟨by omega, by omega⟩ ⟨by omega, by omega⟩ dX8_why_74 (by decide) (fun h74 => ?_) (fun h74 => ?_)
    · skip
      refine Ev.aload_n dX8_why_109 rfl rfl ?_
      refine Ev.iload_n dX8_why_110 rfl rfl ?_
      refine Ev.callV_G (M2 := mX8_reasoned) (args2 := [vI (((lessS (LKd s kx kv) (2 ^ sD s - 1) K : Nat) : Int))]) (rcv := 272) (q := (RX8, TX8, 34)) (ci := 8) dX8_why_111 okX8_reasoned lk_X8_224 ovX8_reasoned.1.1 ovX8_reasoned.1.2 ovX8_reasoned.2 (by decide) rfl rfl ltc_272 shc_272 rfl (Nat.le_of_ble_eq_true rfl) (Nat.le_of_ble_eq_true rfl) (rM_reasoned s τ hM1 (lessS (LKd s kx kv) (2 ^ sD s - 1) K) (by omega) (by omega)) (fun v_ m_ hp_ => ?_) rfl
      obtain ⟨_, ρ, rfl, rfl, rfl, hMq, hkq⟩ := hp_
      show Ev g mX8_why 114 [some (vR (272)), some (vI (((kx : Nat) : Int))), some (vI (((kv : Nat) : Int))), some (vI (((lessS (LKd s kx kv) (2 ^ sD s - 1) K : Nat) : Int))), some (vI (((K : Nat) : Int)))] [vI (((popN (sD s) (lessS (LKd s kx kv) (2 ^ sD s - 1) K) : Nat) : Int))] (M0 (ρ)) 0 0 _
      exact Ev.ireturn dX8_why_114 rfl (rE (by unfold MP o_why; (repeat rw [Int.toNat_natCast]); rw [ifP_f (by omega), ifP_f (by omega), ifP_f (fun z => z.elim (fun y => by rw [hb] at y; cases y) (fun y => y hl))]; exact ⟨(by rw [show K = sD s by omega]; rfl), (show MI (wS s (whyS s kx kv)) ρ from by unfold whyS; rw [show sD s = K by omega] at hMq ⊢; exact hMq), (fun c q1 => (hkq c q1).trans (hk0 c q1))⟩))
    · exact absurd h74 (by omega)
  | succ j ih =>
    intro K hij τ hM1 hk0
    obtain ⟨hu1, hu2, hu3, hu4, hu5, hu6, hu7, hu8⟩ := id hM1
    have hU := hu1.1
    have hN := hu2.1
    have hD := hu4.1
    have hMl := hu7.1
    have hQ := hu5.1
    have hdl := dlt hD
    have hle := lessS_le (LKd s kx kv) (2 ^ sD s - 1) K
    have hpd := pw12 (show K < 12 by omega)
    have hp1 : 1 ≤ 2 ^ K := Nat.one_le_two_pow
    have hfs := less_sub (P := LKd s kx kv) (show K < sD s by omega)
    refine Ev.iload dX8_why_68 rfl ?_
    refine Ev.aload_n dX8_why_70 rfl rfl ?_
    refine gf_X8_109 (x := ((sD s : Nat) : Int)) rfl dX8_why_71 ltc_272 shc_272 hu4.2.1 ?_
    refine Ev.icmp_ge (tgt := 109) ⟨by omega, by omega⟩ ⟨by omega, by omega⟩ dX8_why_74 (by decide) (fun h74 => ?_) (fun h74 => ?_)
    · exact absurd h74 (by omega)
    · skip
      refine Ev.iload_n dX8_why_77 rfl rfl ?_
      refine Ev.aload_n dX8_why_78 rfl rfl ?_
      refine Ev.iload_n dX8_why_79 rfl rfl ?_
      refine Ev.iconst dX8_why_80 ?_
      refine Ev.iload dX8_why_81 rfl ?_
      refine Ev.ishl dX8_why_83 ?_
      rw [show (iShl (1) (((K : Nat) : Int))) = ((2 ^ K : Nat) : Int) from shl1 (by omega)]
      refine Ev.isub dX8_why_84 ?_
      rw [show (((lessS (LKd s kx kv) (2 ^ sD s - 1) K : Nat) : Int) - ((2 ^ K : Nat) : Int)) = (((andN (lessS (LKd s kx kv) (2 ^ sD s - 1) K) (2 ^ K)) : Nat) : Int) from by rw [hfs.1]; omega]
      refine Ev.iload_n dX8_why_85 rfl rfl ?_
      refine Ev.iload_n dX8_why_86 rfl rfl ?_
      refine Ev.callV_G (M2 := mX8_isLacked) (args2 := [vI ((((andN (lessS (LKd s kx kv) (2 ^ sD s - 1) K) (2 ^ K)) : Nat) : Int)), vI (((kx : Nat) : Int)), vI (((kv : Nat) : Int))]) (rcv := 272) (q := (RX8, TX8, 34)) (ci := 8) dX8_why_87 okX8_isLacked lk_X8_221 ovX8_isLacked.1.1 ovX8_isLacked.1.2 ovX8_isLacked.2 (by decide) rfl rfl ltc_272 shc_272 rfl (Nat.le_of_ble_eq_true rfl) (Nat.le_of_ble_eq_true rfl) (rM_lck s τ hM1 ((andN (lessS (LKd s kx kv) (2 ^ sD s - 1) K) (2 ^ K))) kx kv (by omega) (by omega) (by omega)) (fun v_ m_ hp_ => ?_) rfl
      obtain ⟨_, τ2, rfl, rfl, rfl, hS1⟩ := hp_
      have hk0 := fun c (h : c < 272) => (hS1.lo c h).trans (hk0 c h)
      have hM1 := hM1.scr hS1
      obtain ⟨hu1, hu2, hu3, hu4, hu5, hu6, hu7, hu8⟩ := id hM1
      have hU := hu1.1
      have hN := hu2.1
      have hD := hu4.1
      have hMl := hu7.1
      have hQ := hu5.1
      show Ev g mX8_why 90 [some (vR (272)), some (vI (((kx : Nat) : Int))), some (vI (((kv : Nat) : Int))), some (vI (((lessS (LKd s kx kv) (2 ^ sD s - 1) K : Nat) : Int))), some (vI (((K : Nat) : Int)))] [vI (bI (LKd s kx kv ((andN (lessS (LKd s kx kv) (2 ^ sD s - 1) K) (2 ^ K))))), vI (((lessS (LKd s kx kv) (2 ^ sD s - 1) K : Nat) : Int))] (M0 (τ2)) 0 0 _
      refine Ev.if_eq (tgt := 100) bI_inR dX8_why_90 (by decide) (fun h90 => ?_) (fun h90 => ?_)
      · skip
        have q90 := bI_0.mp h90
        refine Ev.iconst dX8_why_100 ?_
        refine Ev.isub dX8_why_101 ?_
        refine Ev.istore_n (pl' := [some (vR (272)), some (vI (((kx : Nat) : Int))), some (vI (((kv : Nat) : Int))), some (vI ((((lessS (LKd s kx kv) (2 ^ sD s - 1) K : Nat) : Int) - 0))), some (vI (((K : Nat) : Int)))]) dX8_why_102 rfl (Nat.le_of_ble_eq_true rfl) rfl ?_
        refine Ev.iinc (pl' := [some (vR (272)), some (vI (((kx : Nat) : Int))), some (vI (((kv : Nat) : Int))), some (vI ((((lessS (LKd s kx kv) (2 ^ sD s - 1) K : Nat) : Int) - 0))), some (vI (((K : Nat) : Int) + 1))]) dX8_why_103 rfl (Nat.le_of_ble_eq_true rfl) rfl ?_
        refine Ev.goto (tgt := 68) dX8_why_106 (by decide) ?_
        refine Ev.wk (pl' := [some (vR (272)), some (vI (((kx : Nat) : Int))), some (vI (((kv : Nat) : Int))), some (vI (((lessS (LKd s kx kv) (2 ^ sD s - 1) (K + 1) : Nat) : Int))), some (vI ((((K + 1) : Nat) : Int)))]) ⟨rfl, ⟨rfl, ⟨rfl, ⟨vIe (by first | (rw [lessS_y q90]; omega) | (rw [lessS_n q90]; omega)), ⟨vIe (by omega), trivial⟩⟩⟩⟩⟩ ?_
        exact ih (K + 1) (by omega) τ2 hM1 hk0
      · skip
        have q90 := bI_1.mp h90
        refine Ev.iconst dX8_why_93 ?_
        refine Ev.iload dX8_why_94 rfl ?_
        refine Ev.ishl dX8_why_96 ?_
        rw [show (iShl (1) (((K : Nat) : Int))) = ((2 ^ K : Nat) : Int) from shl1 (by omega)]
        refine Ev.goto (tgt := 101) dX8_why_97 (by decide) ?_
        refine Ev.isub dX8_why_101 ?_
        refine Ev.istore_n (pl' := [some (vR (272)), some (vI (((kx : Nat) : Int))), some (vI (((kv : Nat) : Int))), some (vI ((((lessS (LKd s kx kv) (2 ^ sD s - 1) K : Nat) : Int) - ((2 ^ K : Nat) : Int)))), some (vI (((K : Nat) : Int)))]) dX8_why_102 rfl (Nat.le_of_ble_eq_true rfl) rfl ?_
        refine Ev.iinc (pl' := [some (vR (272)), some (vI (((kx : Nat) : Int))), some (vI (((kv : Nat) : Int))), some (vI ((((lessS (LKd s kx kv) (2 ^ sD s - 1) K : Nat) : Int) - ((2 ^ K : Nat) : Int)))), some (vI (((K : Nat) : Int) + 1))]) dX8_why_103 rfl (Nat.le_of_ble_eq_true rfl) rfl ?_
        refine Ev.goto (tgt := 68) dX8_why_106 (by decide) ?_
        refine Ev.wk (pl' := [some (vR (272)), some (vI (((kx : Nat) : Int))), some (vI (((kv : Nat) : Int))), some (vI (((lessS (LKd s kx kv) (2 ^ sD s - 1) (K + 1) : Nat) : Int))), some (vI ((((K + 1) : Nat) : Int)))]) ⟨rfl, ⟨rfl, ⟨rfl, ⟨vIe (by first | (rw [lessS_y q90]; omega) | (rw [lessS_n q90]; omega)), ⟨vIe (by omega), trivial⟩⟩⟩⟩⟩ ?_
        exact ih (K + 1) (by omega) τ2 hM1 hk0

set_option maxRecDepth 100000 in
set_option maxHeartbeats 4000000 in
theorem r_why {g : GC} (s : SS) (σ : Sg) (hM : MI s σ) (x : Int) (h_x : inR x) (v : Int) (h_v : inR v) : Ev g mX8_why 0 [some (vR (272)), some (vI (x)), some (vI (v)), none, none] [] (M0 (σ)) 0 0 (retE (MP σ (o_why s x v))) := by
  refine Ev.aload_n dX8_why_0 rfl rfl ?_
  refine Ev.iconst dX8_why_1 ?_
  refine pf_X8_90 rfl dX8_why_2 ltc_272 shc_272 ?_
  obtain ⟨σ1, hs1⟩ : ∃ ρ : Sg, ρ = upC σ 272 0 0 := ⟨_, rfl⟩
  refine Ev.mem (τ := σ1) hs1.symm ?_
  have hM1 : MI s σ1 := by rw [hs1]; exact hM.th
  have hk0 : ∀ c, c < 272 → σ1 c = σ c := fun c hc => by rw [hs1]; exact upC_ne (by omega)
  obtain ⟨hu1, hu2, hu3, hu4, hu5, hu6, hu7, hu8⟩ := id hM1
  have hU := hu1.1
  have hN := hu2.1
  have hD := hu4.1
  have hMl := hu7.1
  have hQ := hu5.1
  refine Ev.aload_n dX8_why_5 rfl rfl ?_
  refine Ev.iload_n dX8_why_6 rfl rfl ?_
  refine Ev.callV_I (M2 := mX8_noUnknown) (args2 := [vI (x)]) (rcv := 272) (q := (RX8, TX8, 34)) (ci := 8) dX8_why_7 okX8_noUnknown lk_X8_119 ovX8_noUnknown.1.1 ovX8_noUnknown.1.2 ovX8_noUnknown.2 (by decide) rfl rfl ltc_272 shc_272 rfl (Nat.le_of_ble_eq_true rfl) (Nat.le_of_ble_eq_true rfl) (sM_noUnknown σ1 (sU s) hU hu1.2.1 (x) ⟨by omega, by omega⟩) ?_ rfl
  refine Ev.if_eq (tgt := 15) bI_inR dX8_why_10 (by decide) (fun h10 => ?_) (fun h10 => ?_)
  · skip
    have q10 := bI_0.mp h10
    obtain ⟨kx, rfl⟩ : ∃ n_ : Nat, x = (n_ : Int) := ⟨x.toNat, by omega⟩
    have hxl := (hu1.2.2.1 kx (by omega)).2.2
    have hdl := dlt hD
    refine Ev.iload_n dX8_why_15 rfl rfl ?_
    refine Ev.i2l ⟨by omega, by omega⟩ dX8_why_16 ?_
    refine Ev.lconst 0 rfl dX8_why_17 ?_
    refine Ev.ldc2 (n := 15) (tbl_i 796 (by decide +kernel)) dX8_why_18 ?_
    refine Ev.callS_I (M2 := mX8_in) (args2 := [vL (v), vL (0), vL (15)]) dX8_why_21 okX8_in lk_X8_96 osX8_in.1 osX8_in.2 (by decide) rfl (Nat.le_of_ble_eq_true rfl) (Nat.le_of_ble_eq_true rfl) (sM_in σ1 (v) (0) (15) ⟨by omega, by omega⟩ ⟨by omega, by omega⟩ ⟨by omega, by omega⟩) ?_ rfl
    refine Ev.if_ne (tgt := 30) bI_inR dX8_why_24 (by decide) (fun h24 => ?_) (fun h24 => ?_)
    · skip
      have q24 := bI_1.mp h24
      obtain ⟨kv, rfl⟩ : ∃ n_ : Nat, v = (n_ : Int) := ⟨v.toNat, by omega⟩
      refine Ev.iconst dX8_why_30 ?_
      refine Ev.aload_n dX8_why_31 rfl rfl ?_
      refine gf_X8_109 (x := ((sD s : Nat) : Int)) rfl dX8_why_32 ltc_272 shc_272 hu4.2.1 ?_
      refine Ev.ishl dX8_why_35 ?_
      rw [show (iShl (1) (((sD s : Nat) : Int))) = ((2 ^ sD s : Nat) : Int) from shl1 (by omega)]
      refine Ev.iconst dX8_why_36 ?_
      refine Ev.isub dX8_why_37 ?_
      rw [show (((2 ^ sD s : Nat) : Int) - 1) = (((2 ^ sD s - 1) : Nat) : Int) from by omega]
      refine Ev.istore_n (pl' := [some (vR (272)), some (vI (((kx : Nat) : Int))), some (vI (((kv : Nat) : Int))), some (vI ((((2 ^ sD s - 1) : Nat) : Int))), none]) dX8_why_38 rfl (Nat.le_of_ble_eq_true rfl) rfl ?_
      refine Ev.aload_n dX8_why_39 rfl rfl ?_
      refine gf_X8_7 rfl dX8_why_40 ltc_272 shc_272 rfc_272_2 ?_
      refine Ev.iload_n dX8_why_43 rfl rfl ?_
      refine Ev.iaload (v := ((sG s kx : Nat) : Int)) dX8_why_44 ltc_273 shc_273 (by decide) (by omega) (by omega) (ldx rfl (hu1.2.2.1 kx (by omega)).1) ?_
      refine Ev.iload_n dX8_why_45 rfl rfl ?_
      refine Ev.ishr dX8_why_46 ?_
      refine Ev.iconst dX8_why_47 ?_
      refine Ev.iand dX8_why_48 ?_
      rw [show (iAnd ((iShr (((sG s kx : Nat) : Int)) (((kv : Nat) : Int)))) (1)) = (((b2 ((sG s kx).testBit kv)) : Nat) : Int) from bit_nat (by omega) (by omega)]
      refine Ev.if_eq (tgt := 62) b2_inR dX8_why_49 (by decide) (fun h49 => ?_) (fun h49 => ?_)
      · skip
        refine Ev.bipush (n := -3) (by decide) dX8_why_62 ?_
        exact Ev.ireturn dX8_why_64 rfl (rE (by unfold MP o_why; (repeat rw [Int.toNat_natCast]); rw [ifP_f (by omega), ifP_f (by omega), ifP_t (by first | exact Or.inr q59 | exact Or.inl (b2_0.mp (by omega)))]; exact ⟨rfl, hM1, hk0⟩))
      · skip
        refine Ev.aload_n dX8_why_52 rfl rfl ?_
        refine Ev.iload_n dX8_why_53 rfl rfl ?_
        refine Ev.iload_n dX8_why_54 rfl rfl ?_
        refine Ev.iload_n dX8_why_55 rfl rfl ?_
        refine Ev.callV_G (M2 := mX8_isLacked) (args2 := [vI ((((2 ^ sD s - 1) : Nat) : Int)), vI (((kx : Nat) : Int)), vI (((kv : Nat) : Int))]) (rcv := 272) (q := (RX8, TX8, 34)) (ci := 8) dX8_why_56 okX8_isLacked lk_X8_221 ovX8_isLacked.1.1 ovX8_isLacked.1.2 ovX8_isLacked.2 (by decide) rfl rfl ltc_272 shc_272 rfl (Nat.le_of_ble_eq_true rfl) (Nat.le_of_ble_eq_true rfl) (rM_lck s σ1 hM1 ((2 ^ sD s - 1)) kx kv (by omega) (by omega) (by omega)) (fun v_ m_ hp_ => ?_) rfl
        obtain ⟨_, τ, rfl, rfl, rfl, hS1⟩ := hp_
        have hk0 := fun c (h : c < 272) => (hS1.lo c h).trans (hk0 c h)
        have hM1 := hM1.scr hS1
        obtain ⟨hu1, hu2, hu3, hu4, hu5, hu6, hu7, hu8⟩ := id hM1
        have hU := hu1.1
        have hN := hu2.1
        have hD := hu4.1
        have hMl := hu7.1
        have hQ := hu5.1
        show Ev g mX8_why 59 [some (vR (272)), some (vI (((kx : Nat) : Int))), some (vI (((kv : Nat) : Int))), some (vI ((((2 ^ sD s - 1) : Nat) : Int))), none] [vI (bI (LKd s kx kv ((2 ^ sD s - 1))))] (M0 (τ)) 0 0 _
        refine Ev.if_ne (tgt := 65) bI_inR dX8_why_59 (by decide) (fun h59 => ?_) (fun h59 => ?_)
        · skip
          have q59 := bI_1.mp h59
          refine Ev.iconst dX8_why_65 ?_
          refine Ev.istore (pl' := [some (vR (272)), some (vI (((kx : Nat) : Int))), some (vI (((kv : Nat) : Int))), some (vI ((((2 ^ sD s - 1) : Nat) : Int))), some (vI (0))]) dX8_why_66 (Nat.le_of_ble_eq_true rfl) rfl ?_
          refine Ev.wk (pl' := [some (vR (272)), some (vI (((kx : Nat) : Int))), some (vI (((kv : Nat) : Int))), some (vI (((lessS (LKd s kx kv) (2 ^ sD s - 1) 0 : Nat) : Int))), some (vI (((0 : Nat) : Int)))]) ⟨rfl, ⟨rfl, ⟨rfl, ⟨vIe rfl, ⟨vIe rfl, trivial⟩⟩⟩⟩⟩ ?_
          exact r_why_l s σ kx kv (by omega) (by omega) (b2_ne.mp h49) q59 (sD s) 0 (by omega) τ hM1 hk0
        · skip
          have q59 := bI_0.mp h59
          refine Ev.bipush (n := -3) (by decide) dX8_why_62 ?_
          exact Ev.ireturn dX8_why_64 rfl (rE (by unfold MP o_why; (repeat rw [Int.toNat_natCast]); rw [ifP_f (by omega), ifP_f (by omega), ifP_t (by first | exact Or.inr q59 | exact Or.inl (b2_0.mp (by omega)))]; exact ⟨rfl, hM1, hk0⟩))
    · skip
      have q24 := bI_0.mp h24
      refine Ev.bipush (n := -2) (by decide) dX8_why_27 ?_
      exact Ev.ireturn dX8_why_29 rfl (rE (by unfold MP o_why; (repeat rw [Int.toNat_natCast]); rw [ifP_f (by omega), ifP_t (by omega)]; exact ⟨rfl, hM1, hk0⟩))
  · skip
    have q10 := bI_1.mp h10
    refine Ev.iconst dX8_why_13 ?_
    exact Ev.ireturn dX8_why_14 rfl (rE (by unfold MP o_why; (repeat rw [Int.toNat_natCast]); rw [ifP_t (by omega)]; exact ⟨rfl, hM1, hk0⟩))

set_option maxRecDepth 100000 in
set_option maxHeartbeats 4000000 in
theorem r_reason {g : GC} (s : SS) (σ : Sg) (hM : MI s σ) (k : Int) (h_k : inR k) : Ev g mX8_reason 0 [some (vR (272)), some (vI (k))] [] (M0 (σ)) 0 0 (retE (MP σ (o_reason s k))) := by
  refine Ev.aload_n dX8_reason_0 rfl rfl ?_
  refine Ev.iconst dX8_reason_1 ?_
  refine pf_X8_90 rfl dX8_reason_2 ltc_272 shc_272 ?_
  obtain ⟨σ1, hs1⟩ : ∃ ρ : Sg, ρ = upC σ 272 0 0 := ⟨_, rfl⟩
  refine Ev.mem (τ := σ1) hs1.symm ?_
  have hM1 : MI s σ1 := by rw [hs1]; exact hM.th
  have hk0 : ∀ c, c < 272 → σ1 c = σ c := fun c hc => by rw [hs1]; exact upC_ne (by omega)
  obtain ⟨hu1, hu2, hu3, hu4, hu5, hu6, hu7, hu8⟩ := id hM1
  have hU := hu1.1
  have hN := hu2.1
  have hD := hu4.1
  have hMl := hu7.1
  have hQ := hu5.1
  refine Ev.iload_n dX8_reason_5 rfl rfl ?_
  refine Ev.i2l ⟨by omega, by omega⟩ dX8_reason_6 ?_
  refine Ev.lconst 0 rfl dX8_reason_7 ?_
  refine Ev.aload_n dX8_reason_8 rfl rfl ?_
  refine gf_X8_218 (x := ((sQ s : Nat) : Int)) rfl dX8_reason_9 ltc_272 shc_272 hu5.2.1 ?_
  refine Ev.iconst dX8_reason_12 ?_
  refine Ev.isub dX8_reason_13 ?_
  refine Ev.i2l ⟨by omega, by omega⟩ dX8_reason_14 ?_
  refine Ev.callS_I (M2 := mX8_in) (args2 := [vL (k), vL (0), vL ((((sQ s : Nat) : Int) - 1))]) dX8_reason_15 okX8_in lk_X8_96 osX8_in.1 osX8_in.2 (by decide) rfl (Nat.le_of_ble_eq_true rfl) (Nat.le_of_ble_eq_true rfl) (sM_in σ1 (k) (0) ((((sQ s : Nat) : Int) - 1)) ⟨by omega, by omega⟩ ⟨by omega, by omega⟩ ⟨by omega, by omega⟩) ?_ rfl
  refine Ev.if_eq (tgt := 30) bI_inR dX8_reason_18 (by decide) (fun h18 => ?_) (fun h18 => ?_)
  · skip
    have q18 := bI_0.mp h18
    refine Ev.bipush (n := -9) (by decide) dX8_reason_30 ?_
    exact Ev.ireturn dX8_reason_32 rfl (rE (by unfold MP o_reason; (repeat rw [Int.toNat_natCast]); exact ⟨(by show _ = ifP _ _ _; rw [ifP_f (by omega)]), hM1, hk0⟩))
  · skip
    have q18 := bI_1.mp h18
    obtain ⟨kk, rfl⟩ : ∃ n_ : Nat, k = (n_ : Int) := ⟨k.toNat, by omega⟩
    refine Ev.aload_n dX8_reason_21 rfl rfl ?_
    refine gf_X8_68 rfl dX8_reason_22 ltc_272 shc_272 rfc_272_26 ?_
    refine Ev.iload_n dX8_reason_25 rfl rfl ?_
    refine Ev.iaload (v := ((sI s kk : Nat) : Int)) dX8_reason_26 ltc_292 shc_292 (by decide) (by omega) (by omega) (ldx rfl (hu5.2.2 kk (by omega))) ?_
    refine Ev.goto (tgt := 32) dX8_reason_27 (by decide) ?_
    exact Ev.ireturn dX8_reason_32 rfl (rE (by unfold MP o_reason; (repeat rw [Int.toNat_natCast]); exact ⟨(by show _ = ifP _ _ _; rw [ifP_t (by omega)]), hM1, hk0⟩))

