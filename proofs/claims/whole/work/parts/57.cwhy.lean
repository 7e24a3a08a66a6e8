/-! THE CLASS: why, reason, core -/
/-- the reasons kept -/
def RsF (σ : Sg) (Q d : Nat) (τ : Sg) : Prop := (∀ c i, c ≠ 20 → (c = 0 → i ≠ 9) → τ c i = σ c i) ∧ τ 0 9 = (popN d Q : Int) ∧ ∀ k, k < popN d Q → τ 20 k = (rsL Q d k : Int)
theorem RsF.y {σ τ : Sg} {Q d : Nat} (h : RsF σ Q d τ) (hb : Q.testBit d = true) : RsF σ Q (d + 1) (upC (upC τ 20 (popN d Q) (d : Int)) 0 9 ((popN d Q + 1 : Nat) : Int)) := by
  obtain ⟨h1, h2, h3⟩ := h
  refine ⟨fun c i hc hi => ?_, by rw [upC_at, popN_t hb], fun k hk => ?_⟩
  · by_cases e : c = 0
    · subst e; rw [upC_self (hi rfl), upC_ne hc]; exact h1 0 i hc hi
    · rw [upC_ne e, upC_ne hc]; exact h1 c i hc hi
  · rw [upC_ne (by decide), rsL_t hb]
    rw [popN_t hb] at hk
    by_cases e : k = popN d Q
    · rw [e, upC_at, updF_at]
    · rw [upC_self e, updF_ne e]; exact h3 k (by omega)
theorem RsF.n {σ τ : Sg} {Q d : Nat} (h : RsF σ Q d τ) (hb : Q.testBit d = false) : RsF σ Q (d + 1) τ := ⟨h.1, by rw [popN_f hb]; exact h.2.1, fun k hk => by rw [rsL_f hb]; rw [popN_f hb] at hk; exact h.2.2 k hk⟩
theorem CI.rsn {s : SS} {σ τ : Sg} {Q : Nat} (h : CI s σ) (hR : RsF σ Q (sD s) τ) : CI (wS s Q) τ := by
  obtain ⟨hk1, hk2, hk3, hk4, hk5, hk6, hk7, hk8, hk9⟩ := h
  obtain ⟨r1, r2, r3⟩ := hR
  have e0 : ∀ i, i ≠ 9 → τ 0 i = σ 0 i := fun i hi => r1 0 i (by decide) (fun _ => hi)
  have e : ∀ c, c ≠ 0 → c ≠ 20 → τ c = σ c := fun c h0 h20 => by
    funext i
    exact r1 c i h20 (fun z => absurd z h0)
  exact ⟨hk1.cg (e0 2 (by decide)) (fun c _ _ => e c (by omega) (by omega)), hk2.cg (e0 4 (by decide)) (e0 5 (by decide)) (fun c _ _ => e c (by omega) (by omega)), hk3.cg (fun c _ _ => e c (by omega) (by omega)), hk4.cg (fun c _ _ _ => e c (by omega) (by omega)), ⟨Nat.le_trans (popN_le _ _) hk4.1, r2, r3⟩, hk6.cg (e0 11 (by decide)) (e 21 (by decide) (by decide)), hk7.cg (e0 14 (by decide)) (e 23 (by decide) (by decide)) (fun c _ _ => e c (by omega) (by omega)), (e0 15 (by decide)).trans hk8, (congrFun (e 263 (by decide) (by decide)) 0).trans hk9⟩
theorem RsF.kp {σ τ : Sg} {Q d : Nat} (h : RsF σ Q d τ) : ∀ c, 272 ≤ c → τ c = σ c := fun c hc => by
  funext i
  exact h.1 c i (by omega) (fun z => by omega)
/-- the work row has the ranges told, cut by steps, narrowed -/
def NtP (s : SS) (σ : Sg) (kp : Nat) (v : Int) (τ : Sg) : Prop := v = bI (AL s (cutT s kp)) ∧ Same SC σ τ ∧ τ 263 0 = 0 ∧ (AL s (cutT s kp) → AV τ 24 (sU s) (NX s (cutT s kp)))
theorem AZ.up {τ : Sg} {c U x l : Nat} {Y : Rg} (hl : l < 65536) (h : AZ τ c U Y) : AZ (upC τ c x (l : Int)) c U (upY Y x l) := fun y hy => by
  by_cases e : y = x
  · rw [e, upC_at, upY_at]; exact ⟨rfl, hl⟩
  · rw [upC_self e, upY_ne e]; exact h y hy
theorem dlt {d : Nat} (h : d ≤ 12) : 2 ^ d - 1 < 4096 ∧ 1 ≤ 2 ^ d := by
  have h1 := Nat.pow_le_pow_right (show 0 < 2 by decide) h
  have h2 : 1 ≤ 2 ^ d := Nat.one_le_two_pow
  omega
theorem pw12 {d : Nat} (h : d < 12) : 2 ^ d ≤ 2048 := by
  have h1 := Nat.pow_le_pow_right (show 0 < 2 by decide) (show d ≤ 11 by omega)
  omega
theorem hasA_wys {s : SS} {kp : Nat} (h0 : AL s (sG s)) (hw : wys (NX s (sG s)) (sU s) ≤ 20000) (h : AL s (cutT s kp)) : wys (NX s (cutT s kp)) (sU s) ≤ 20000 := Nat.le_trans (wys_sub (nar_mono h h0 (fun x _ => cutS_sub s kp (sD s) x)) (Nat.le_refl _)) hw
set_option maxRecDepth 100000 in
set_option maxHeartbeats 4000000 in
theorem s7_kr_l {g : GC} (s : SS) (σ : Sg) (hC : CI s σ) (Q : Nat) (hQl : Q < 4096) : ∀ j d : Nat, d + j = sD s → ∀ τ : Sg, RsF σ Q d τ → Ev g mX7_keepReasons 7 [some (vR (0)), some (vI (((Q : Nat) : Int))), some (vI (((d : Nat) : Int)))] [] (M0 (τ)) 0 0 (retE (fun v τ => v = (popN (sD s) Q : Int) ∧ RsF σ Q (sD s) τ)) := by
  intro j
  induction j with
  | zero =>
    intro d hij τ hR
    obtain ⟨hk1, hk2, hk3, hk4, hk5, hk6, hk7, hk8, hk9⟩ := id hC
    have hU := hk1.1
    have hN := hk2.1
    have hD := hk4.1
    have hM := hk7.1
    have hQ := hk5.1
    refine Ev.iload_n dX7_keepReasons_7 rfl rfl ?_
    refine Ev.aload_n dX7_keepReasons_8 rfl rfl ?_
    refine gf_X7_25 rfl dX7_keepReasons_9 ltc_0 shc_0 rfc_0_7 ?_
    refine gf_X7_85 (x := ((sD s : Nat) : Int)) rfl dX7_keepReasons_12 ltc_4 shc_4 ((hR.1 4 0 (by decide) (fun z => absurd z (by decide))).trans hk4.2.1) ?_
    refine Ev.icmp_ge (tgt := 52) ⟨by omega, by omega⟩ ⟨by omega, by omega⟩ dX7_keepReasons_15 (by decide) (fun h15 => ?_) (fun h15 => ?_)
    · skip
      refine Ev.aload_n dX7_keepReasons_52 rfl rfl ?_
      refine gf_X7_231 (x := ((popN d Q : Nat) : Int)) rfl dX7_keepReasons_53 ltc_0 shc_0 hR.2.1 ?_
      exact Ev.ireturn dX7_keepReasons_56 rfl (rE ⟨by rw [show d = sD s by omega], by rw [show sD s = d by omega]; exact hR⟩)
    · exact absurd h15 (by omega)
  | succ j ih =>
    intro d hij τ hR
    obtain ⟨hk1, hk2, hk3, hk4, hk5, hk6, hk7, hk8, hk9⟩ := id hC
    have hU := hk1.1
    have hN := hk2.1
    have hD := hk4.1
    have hM := hk7.1
    have hQ := hk5.1
    have hpl := popN_le d Q
    refine Ev.iload_n dX7_keepReasons_7 rfl rfl ?_
    refine Ev.aload_n dX7_keepReasons_8 rfl rfl ?_
    refine gf_X7_25 rfl dX7_keepReasons_9 ltc_0 shc_0 rfc_0_7 ?_
    refine gf_X7_85 (x := ((sD s : Nat) : Int)) rfl dX7_keepReasons_12 ltc_4 shc_4 ((hR.1 4 0 (by decide) (fun z => absurd z (by decide))).trans hk4.2.1) ?_
    refine Ev.icmp_ge (tgt := 52) ⟨by omega, by omega⟩ ⟨by omega, by omega⟩ dX7_keepReasons_15 (by decide) (fun h15 => ?_) (fun h15 => ?_)
    · exact absurd h15 (by omega)
    · skip
      refine Ev.iload_n dX7_keepReasons_18 rfl rfl ?_
      refine Ev.iload_n dX7_keepReasons_19 rfl rfl ?_
      refine Ev.ishr dX7_keepReasons_20 ?_
      refine Ev.iconst dX7_keepReasons_21 ?_
      refine Ev.iand dX7_keepReasons_22 ?_
      rw [show (iAnd ((iShr (((Q : Nat) : Int)) (((d : Nat) : Int)))) (1)) = (((b2 (Q.testBit d)) : Nat) : Int) from bit_nat (by omega) (by omega)]
      refine Ev.if_eq (tgt := 46) b2_inR dX7_keepReasons_23 (by decide) (fun h23 => ?_) (fun h23 => ?_)
      · skip
        refine Ev.iinc (pl' := [some (vR (0)), some (vI (((Q : Nat) : Int))), some (vI (((d : Nat) : Int) + 1))]) dX7_keepReasons_46 rfl (Nat.le_of_ble_eq_true rfl) rfl ?_
        refine Ev.goto (tgt := 7) dX7_keepReasons_49 (by decide) ?_
        refine Ev.wk (pl' := [some (vR (0)), some (vI (((Q : Nat) : Int))), some (vI ((((d + 1) : Nat) : Int)))]) ⟨rfl, ⟨rfl, ⟨vIe (by omega), trivial⟩⟩⟩ ?_
        exact ih (d + 1) (by omega) _ (hR.n (b2_0.mp h23))
      · skip
        refine Ev.aload_n dX7_keepReasons_26 rfl rfl ?_
        refine gf_X7_29 rfl dX7_keepReasons_27 ltc_0 shc_0 rfc_0_8 ?_
        refine Ev.aload_n dX7_keepReasons_30 rfl rfl ?_
        refine gf_X7_231 (x := ((popN d Q : Nat) : Int)) rfl dX7_keepReasons_31 ltc_0 shc_0 hR.2.1 ?_
        refine Ev.iload_n dX7_keepReasons_34 rfl rfl ?_
        refine Ev.iastore dX7_keepReasons_35 ltc_20 shc_20 (by decide) (by omega) (by omega) ?_
        refine Ev.mem (τ := upC τ 20 (popN d Q) (d : Int)) (by simp only [Int.toNat_natCast]) ?_
        refine Ev.aload_n dX7_keepReasons_36 rfl rfl ?_
        refine Ev.dupR dX7_keepReasons_37 ?_
        refine gf_X7_231 (x := ((popN d Q : Nat) : Int)) rfl dX7_keepReasons_38 ltc_0 shc_0 (show (upC τ 20 (popN d Q) (d : Int)) 0 9 = ((popN d Q : Nat) : Int) from (congrFun (upC_ne (by decide)) 9).trans hR.2.1) ?_
        refine Ev.iconst dX7_keepReasons_41 ?_
        refine Ev.iadd dX7_keepReasons_42 ?_
        refine pf_X7_231 rfl dX7_keepReasons_43 ltc_0 shc_0 ?_
        refine Ev.iinc (pl' := [some (vR (0)), some (vI (((Q : Nat) : Int))), some (vI (((d : Nat) : Int) + 1))]) dX7_keepReasons_46 rfl (Nat.le_of_ble_eq_true rfl) rfl ?_
        refine Ev.goto (tgt := 7) dX7_keepReasons_49 (by decide) ?_
        refine Ev.mem (τ := upC (upC τ 20 (popN d Q) (d : Int)) 0 9 ((popN d Q + 1 : Nat) : Int)) (rfl) ?_
        refine Ev.wk (pl' := [some (vR (0)), some (vI (((Q : Nat) : Int))), some (vI ((((d + 1) : Nat) : Int)))]) ⟨rfl, ⟨rfl, ⟨vIe (by omega), trivial⟩⟩⟩ ?_
        exact ih (d + 1) (by omega) _ (hR.y (b2_ne.mp h23))

set_option maxRecDepth 100000 in
set_option maxHeartbeats 4000000 in
theorem s7_keepReasons {g : GC} (s : SS) (σ : Sg) (hC : CI s σ) (Q : Nat) (hQl : Q < 4096) : Ev g mX7_keepReasons 0 [some (vR (0)), some (vI (((Q : Nat) : Int))), none] [] (M0 (σ)) 0 0 (retE (fun v τ => v = (popN (sD s) Q : Int) ∧ RsF σ Q (sD s) τ)) := by
  obtain ⟨hk1, hk2, hk3, hk4, hk5, hk6, hk7, hk8, hk9⟩ := id hC
  have hU := hk1.1
  have hN := hk2.1
  have hD := hk4.1
  have hM := hk7.1
  have hQ := hk5.1
  refine Ev.aload_n dX7_keepReasons_0 rfl rfl ?_
  refine Ev.iconst dX7_keepReasons_1 ?_
  refine pf_X7_231 rfl dX7_keepReasons_2 ltc_0 shc_0 ?_
  refine Ev.iconst dX7_keepReasons_5 ?_
  refine Ev.istore_n (pl' := [some (vR (0)), some (vI (((Q : Nat) : Int))), some (vI (0))]) dX7_keepReasons_6 rfl (Nat.le_of_ble_eq_true rfl) rfl ?_
  refine Ev.wk (pl' := [some (vR (0)), some (vI (((Q : Nat) : Int))), some (vI (((0 : Nat) : Int)))]) ⟨rfl, ⟨rfl, ⟨vIe rfl, trivial⟩⟩⟩ ?_
  exact s7_kr_l s σ hC Q hQl (sD s) 0 (by omega) _ ⟨(fun c i hc hi => by by_cases e : c = 0; (subst e; exact upC_self (hi rfl)); (rw [upC_ne e])), upC_at, fun k hk => absurd hk (by show ¬ k < 0; omega)⟩

set_option maxRecDepth 100000 in
set_option maxHeartbeats 4000000 in
theorem s7_nt_l {g : GC} (s : SS) (σ : Sg) (hC : CI s σ) (kp : Nat) (hkp : kp < 4096) : ∀ j d : Nat, d + j = sD s → ∀ τ : Sg, Same [24] σ τ → AZ τ 24 (sU s) (cutS s kp d) → Ev g mX7_narrowToldBySteps 13 [some (vR (0)), some (vI (((kp : Nat) : Int))), some (vI (((d : Nat) : Int)))] [] (M0 (τ)) 0 0 (retE (NtP s σ kp)) := by
  intro j
  induction j with
  | zero =>
    intro d hij τ hF hY
    obtain ⟨hk1, hk2, hk3, hk4, hk5, hk6, hk7, hk8, hk9⟩ := id hC
    have hU := hk1.1
    have hN := hk2.1
    have hD := hk4.1
    have hM := hk7.1
    have hQ := hk5.1
    have hSt : Same SC σ τ := hF.wide fun c hc => by simp at hc; subst hc; decide
    have hJt : τ 263 0 = 0 := (congrFun (hF 263 (by decide)) 0).trans hk9
    have hCt := hC.scr hSt hJt
    refine Ev.iload_n dX7_narrowToldBySteps_13 rfl rfl ?_
    refine Ev.aload_n dX7_narrowToldBySteps_14 rfl rfl ?_
    refine gf_X7_25 rfl dX7_narrowToldBySteps_15 ltc_0 shc_0 rfc_0_7 ?_
    refine gf_X7_85 (x := ((sD s : Nat) : Int)) rfl dX7_narrowToldBySteps_18 ltc_4 shc_4 ((congrFun (hF 4 (by decide)) 0).trans hk4.2.1) ?_
    refine Ev.icmp_ge (tgt := 64) ⟨by omega, by omega⟩ ⟨by omega, by omega⟩ dX7_narrowToldBySteps_21 (by decide) (fun h21 => ?_) (fun h21 => ?_)
    · skip
      have hde : (cutS s kp d) = cutT s kp := by rw [show d = sD s by omega]
      refine Ev.aload_n dX7_narrowToldBySteps_64 rfl rfl ?_
      refine Ev.aload_n dX7_narrowToldBySteps_65 rfl rfl ?_
      refine gf_X7_45 rfl dX7_narrowToldBySteps_66 ltc_0 shc_0 rfc_0_18 ?_
      refine Ev.callV_I (M2 := mX7_noneIsEmpty) (args2 := [vR (24)]) (rcv := 0) (q := (RX7, TX7, 20)) (ci := 7) dX7_narrowToldBySteps_69 okX7_noneIsEmpty lk_X7_227 ovX7_noneIsEmpty.1.1 ovX7_noneIsEmpty.1.2 ovX7_noneIsEmpty.2 (by decide) rfl rfl ltc_0 shc_0 rfl (Nat.le_of_ble_eq_true rfl) (Nat.le_of_ble_eq_true rfl) (s7_noneIsEmpty τ (sU s) hU ((congrFun (hF 0 (by decide)) 2).trans hk1.2.1) (cutS s kp d) 24 ltc_24 shc_24 hY) ?_ rfl
      refine Ev.if_eq (tgt := 101) bI_inR dX7_narrowToldBySteps_72 (by decide) (fun h72 => ?_) (fun h72 => ?_)
      · skip
        have q72 := bI_0.mp h72
        refine Ev.iconst dX7_narrowToldBySteps_101 ?_
        exact Ev.zreturn dX7_narrowToldBySteps_102 rfl (Or.inl rfl) (rE ⟨bI_f (by rw [← hde]; exact not_em q72), hSt, hJt, fun z => absurd z (by rw [← hde]; exact not_em q72)⟩)
      · skip
        have q72 := bI_1.mp h72
        refine Ev.aload_n dX7_narrowToldBySteps_75 rfl rfl ?_
        refine gf_X7_72 rfl dX7_narrowToldBySteps_76 ltc_0 shc_0 rfc_0_16 ?_
        refine Ev.aload_n dX7_narrowToldBySteps_79 rfl rfl ?_
        refine gf_X7_45 rfl dX7_narrowToldBySteps_80 ltc_0 shc_0 rfc_0_18 ?_
        refine Ev.aload_n dX7_narrowToldBySteps_83 rfl rfl ?_
        refine gf_X7_18 rfl dX7_narrowToldBySteps_84 ltc_0 shc_0 rfc_0_3 ?_
        refine Ev.aload_n dX7_narrowToldBySteps_87 rfl rfl ?_
        refine gf_X7_118 (x := ((sW s : Nat) : Int)) rfl dX7_narrowToldBySteps_88 ltc_0 shc_0 ((congrFun (hF 0 (by decide)) 5).trans hk2.2.2.1) ?_
        refine Ev.callV_G (M2 := mX2_run) (args2 := [vR (24), vR (3), vL (((sW s : Nat) : Int))]) (rcv := 260) (q := (RX2, TX2, 2)) (ci := 2) dX7_narrowToldBySteps_91 okX2_run lk_X7_191 ovX2_run.1.1 ovX2_run.1.2 ovX2_run.2 (by decide) rfl rfl ltc_260 shc_260 rfl (Nat.le_of_ble_eq_true rfl) (Nat.le_of_ble_eq_true rfl) (c_run hCt (cutS s kp d) (hY.av q72)) (fun v_ m_ hp_ => ?_) rfl
        obtain ⟨_, τ2, rfl, rfl, rfl, hF1, hJ1, hX1⟩ := hp_
        show Ev g mX7_narrowToldBySteps 94 [some (vR (0)), some (vI (((kp : Nat) : Int))), some (vI (((d : Nat) : Int)))] [vI (bI (AL s (cutS s kp d)))] (M0 (τ2)) 0 0 _
        refine Ev.if_eq (tgt := 101) bI_inR dX7_narrowToldBySteps_94 (by decide) (fun h94 => ?_) (fun h94 => ?_)
        · skip
          have q94 := bI_0.mp h94
          refine Ev.iconst dX7_narrowToldBySteps_101 ?_
          exact Ev.zreturn dX7_narrowToldBySteps_102 rfl (Or.inl rfl) (rE ⟨bI_f (by rw [← hde]; exact q94), hSt.tr (WK_SC hF1), hJ1, fun z => by rw [← hde] at z ⊢; exact hX1 z⟩)
        · skip
          have q94 := bI_1.mp h94
          refine Ev.iconst dX7_narrowToldBySteps_97 ?_
          refine Ev.goto (tgt := 102) dX7_narrowToldBySteps_98 (by decide) ?_
          exact Ev.zreturn dX7_narrowToldBySteps_102 rfl (Or.inr rfl) (rE ⟨bI_t (by rw [← hde]; exact q94), hSt.tr (WK_SC hF1), hJ1, fun z => by rw [← hde] at z ⊢; exact hX1 z⟩)
    · exact absurd h21 (by omega)
  | succ j ih =>
    intro d hij τ hF hY
    obtain ⟨hk1, hk2, hk3, hk4, hk5, hk6, hk7, hk8, hk9⟩ := id hC
    have hU := hk1.1
    have hN := hk2.1
    have hD := hk4.1
    have hM := hk7.1
    have hQ := hk5.1
    have hSt : Same SC σ τ := hF.wide fun c hc => by simp at hc; subst hc; decide
    have hJt : τ 263 0 = 0 := (congrFun (hF 263 (by decide)) 0).trans hk9
    have hCt := hC.scr hSt hJt
    have hst := hk4.2.2 d (by omega)
    have hcl := (hY (sO s d) hst.2.1).2
    refine Ev.iload_n dX7_narrowToldBySteps_13 rfl rfl ?_
    refine Ev.aload_n dX7_narrowToldBySteps_14 rfl rfl ?_
    refine gf_X7_25 rfl dX7_narrowToldBySteps_15 ltc_0 shc_0 rfc_0_7 ?_
    refine gf_X7_85 (x := ((sD s : Nat) : Int)) rfl dX7_narrowToldBySteps_18 ltc_4 shc_4 ((congrFun (hF 4 (by decide)) 0).trans hk4.2.1) ?_
    refine Ev.icmp_ge (tgt := 64) ⟨by omega, by omega⟩ ⟨by omega, by omega⟩ dX7_narrowToldBySteps_21 (by decide) (fun h21 => ?_) (fun h21 => ?_)
    · exact absurd h21 (by omega)
    · skip
      refine Ev.iload_n dX7_narrowToldBySteps_24 rfl rfl ?_
      refine Ev.iload_n dX7_narrowToldBySteps_25 rfl rfl ?_
      refine Ev.ishr dX7_narrowToldBySteps_26 ?_
      refine Ev.iconst dX7_narrowToldBySteps_27 ?_
      refine Ev.iand dX7_narrowToldBySteps_28 ?_
      rw [show (iAnd ((iShr (((kp : Nat) : Int)) (((d : Nat) : Int)))) (1)) = (((b2 (kp.testBit d)) : Nat) : Int) from bit_nat (by omega) (by omega)]
      refine Ev.if_eq (tgt := 58) b2_inR dX7_narrowToldBySteps_29 (by decide) (fun h29 => ?_) (fun h29 => ?_)
      · skip
        refine Ev.iinc (pl' := [some (vR (0)), some (vI (((kp : Nat) : Int))), some (vI (((d : Nat) : Int) + 1))]) dX7_narrowToldBySteps_58 rfl (Nat.le_of_ble_eq_true rfl) rfl ?_
        refine Ev.goto (tgt := 13) dX7_narrowToldBySteps_61 (by decide) ?_
        refine Ev.wk (pl' := [some (vR (0)), some (vI (((kp : Nat) : Int))), some (vI ((((d + 1) : Nat) : Int)))]) ⟨rfl, ⟨rfl, ⟨vIe (by omega), trivial⟩⟩⟩ ?_
        exact ih (d + 1) (by omega) τ hF (by rw [cutS_f (b2_0.mp h29)]; exact hY)
      · skip
        refine Ev.aload_n dX7_narrowToldBySteps_32 rfl rfl ?_
        refine gf_X7_45 rfl dX7_narrowToldBySteps_33 ltc_0 shc_0 rfc_0_18 ?_
        refine Ev.aload_n dX7_narrowToldBySteps_36 rfl rfl ?_
        refine gf_X7_25 rfl dX7_narrowToldBySteps_37 ltc_0 shc_0 rfc_0_7 ?_
        refine gf_X7_202 rfl dX7_narrowToldBySteps_40 ltc_4 shc_4 rfc_4_1 ?_
        refine Ev.iload_n dX7_narrowToldBySteps_43 rfl rfl ?_
        refine Ev.iaload (v := ((sO s d : Nat) : Int)) dX7_narrowToldBySteps_44 ltc_5 shc_5 (by decide) (by omega) (by omega) (ldx rfl ((congrFun (hF 5 (by decide)) d).trans hst.1)) ?_
        refine Ev.dup2RI dX7_narrowToldBySteps_45 ?_
        refine Ev.iaload (v := (((cutS s kp d) (sO s d) : Nat) : Int)) dX7_narrowToldBySteps_46 ltc_24 shc_24 (by decide) (by omega) (Int.ofNat_lt.mpr (Nat.lt_of_lt_of_le hst.2.1 hU)) (ldx rfl (hY _ hst.2.1).1) ?_
        refine Ev.aload_n dX7_narrowToldBySteps_47 rfl rfl ?_
        refine gf_X7_25 rfl dX7_narrowToldBySteps_48 ltc_0 shc_0 rfc_0_7 ?_
        refine gf_X7_205 rfl dX7_narrowToldBySteps_51 ltc_4 shc_4 rfc_4_2 ?_
        refine Ev.iload_n dX7_narrowToldBySteps_54 rfl rfl ?_
        refine Ev.iaload (v := ((sP s d : Nat) : Int)) dX7_narrowToldBySteps_55 ltc_6 shc_6 (by decide) (by omega) (by omega) (ldx rfl ((congrFun (hF 6 (by decide)) d).trans hst.2.2.1)) ?_
        refine Ev.iand dX7_narrowToldBySteps_56 ?_
        rw [show (iAnd ((((cutS s kp d) (sO s d) : Nat) : Int)) (((sP s d : Nat) : Int))) = ((((cutS s kp d) (sO s d) &&& sP s d) : Nat) : Int) from iAnd_nat (by omega)]
        refine Ev.iastore dX7_narrowToldBySteps_57 ltc_24 shc_24 (by decide) (by omega) (Int.ofNat_lt.mpr (Nat.lt_of_lt_of_le hst.2.1 hU)) ?_
        refine Ev.iinc (pl' := [some (vR (0)), some (vI (((kp : Nat) : Int))), some (vI (((d : Nat) : Int) + 1))]) dX7_narrowToldBySteps_58 rfl (Nat.le_of_ble_eq_true rfl) rfl ?_
        refine Ev.goto (tgt := 13) dX7_narrowToldBySteps_61 (by decide) ?_
        refine Ev.mem (τ := upC τ 24 (sO s d) (((cutS s kp d) (sO s d) &&& sP s d : Nat) : Int)) (by simp only [Int.toNat_natCast]) ?_
        refine Ev.wk (pl' := [some (vR (0)), some (vI (((kp : Nat) : Int))), some (vI ((((d + 1) : Nat) : Int)))]) ⟨rfl, ⟨rfl, ⟨vIe (by omega), trivial⟩⟩⟩ ?_
        exact ih (d + 1) (by omega) _ (hF.up (by decide)) (by rw [cutS_t (b2_ne.mp h29)]; exact hY.up (and_ltN hcl))

set_option maxRecDepth 100000 in
set_option maxHeartbeats 4000000 in
theorem s7_narrowToldBySteps {g : GC} (s : SS) (σ : Sg) (hC : CI s σ) (kp : Nat) (hkp : kp < 4096) : Ev g mX7_narrowToldBySteps 0 [some (vR (0)), some (vI (((kp : Nat) : Int))), none] [] (M0 (σ)) 0 0 (retE (NtP s σ kp)) := by
  obtain ⟨hk1, hk2, hk3, hk4, hk5, hk6, hk7, hk8, hk9⟩ := id hC
  have hU := hk1.1
  have hN := hk2.1
  have hD := hk4.1
  have hM := hk7.1
  have hQ := hk5.1
  refine Ev.aload_n dX7_narrowToldBySteps_0 rfl rfl ?_
  refine gf_X7_9 rfl dX7_narrowToldBySteps_1 ltc_0 shc_0 rfc_0_0 ?_
  refine Ev.aload_n dX7_narrowToldBySteps_4 rfl rfl ?_
  refine gf_X7_45 rfl dX7_narrowToldBySteps_5 ltc_0 shc_0 rfc_0_18 ?_
  refine Ev.callS_V (M2 := mX7_bring) (args2 := [vR (1), vR (24)]) dX7_narrowToldBySteps_8 okX7_bring lk_X7_187 osX7_bring.1 osX7_bring.2 (by decide) rfl (Nat.le_of_ble_eq_true rfl) (Nat.le_of_ble_eq_true rfl) (s7_bring σ 1 24 ltc_1 shc_1 ltc_24 shc_24) ?_ rfl
  refine Ev.iconst dX7_narrowToldBySteps_11 ?_
  refine Ev.istore_n (pl' := [some (vR (0)), some (vI (((kp : Nat) : Int))), some (vI (0))]) dX7_narrowToldBySteps_12 rfl (Nat.le_of_ble_eq_true rfl) rfl ?_
  refine Ev.wk (pl' := [some (vR (0)), some (vI (((kp : Nat) : Int))), some (vI (((0 : Nat) : Int)))]) ⟨rfl, ⟨rfl, ⟨vIe rfl, trivial⟩⟩⟩ ?_
  exact s7_nt_l s σ hC kp hkp (sD s) 0 (by omega) _ (cpS (by decide)) (cp_av hU hk1.2.2.1).az

set_option maxRecDepth 100000 in
set_option maxHeartbeats 4000000 in
theorem s7_isLacked {g : GC} (s : SS) (σ : Sg) (hC : CI s σ) (x v kp : Nat) (hx : x < sU s) (hv : v < 16) (hkp : kp < 4096) : Ev g mX7_isLacked 0 [some (vR (0)), some (vI (((x : Nat) : Int))), some (vI (((v : Nat) : Int))), some (vI (((kp : Nat) : Int)))] [] (M0 (σ)) 0 0 (retE (fun r τ => r = bI (LKd s x v kp) ∧ Same SC σ τ ∧ τ 263 0 = 0)) := by
  obtain ⟨hk1, hk2, hk3, hk4, hk5, hk6, hk7, hk8, hk9⟩ := id hC
  have hU := hk1.1
  have hN := hk2.1
  have hD := hk4.1
  have hM := hk7.1
  have hQ := hk5.1
  refine Ev.aload_n dX7_isLacked_0 rfl rfl ?_
  refine Ev.iload_n dX7_isLacked_1 rfl rfl ?_
  refine Ev.callV_G (M2 := mX7_narrowToldBySteps) (args2 := [vI (((kp : Nat) : Int))]) (rcv := 0) (q := (RX7, TX7, 20)) (ci := 7) dX7_isLacked_2 okX7_narrowToldBySteps lk_X7_224 ovX7_narrowToldBySteps.1.1 ovX7_narrowToldBySteps.1.2 ovX7_narrowToldBySteps.2 (by decide) rfl rfl ltc_0 shc_0 rfl (Nat.le_of_ble_eq_true rfl) (Nat.le_of_ble_eq_true rfl) (s7_narrowToldBySteps s σ hC kp (by omega)) (fun v_ m_ hp_ => ?_) rfl
  obtain ⟨_, τ, rfl, rfl, rfl, hS1, hJ1, hX1⟩ := hp_
  have hC := hC.scr hS1 hJ1
  obtain ⟨hk1, hk2, hk3, hk4, hk5, hk6, hk7, hk8, hk9⟩ := id hC
  have hU := hk1.1
  have hN := hk2.1
  have hD := hk4.1
  have hM := hk7.1
  have hQ := hk5.1
  show Ev g mX7_isLacked 5 [some (vR (0)), some (vI (((x : Nat) : Int))), some (vI (((v : Nat) : Int))), some (vI (((kp : Nat) : Int)))] [vI (bI (AL s (cutT s kp)))] (M0 (τ)) 0 0 _
  refine Ev.if_eq (tgt := 21) bI_inR dX7_isLacked_5 (by decide) (fun h5 => ?_) (fun h5 => ?_)
  · skip
    have q5 := bI_0.mp h5
    refine Ev.iconst dX7_isLacked_21 ?_
    refine Ev.goto (tgt := 26) dX7_isLacked_22 (by decide) ?_
    exact Ev.zreturn dX7_isLacked_26 rfl (Or.inr rfl) (rE ⟨bI_t (by first | exact Or.inl q5 | exact Or.inr (b2_0.mp (by omega))), hS1, hJ1⟩)
  · skip
    have q5 := bI_1.mp h5
    have hxl := (hX1 q5 x (by omega)).2.2
    refine Ev.aload_n dX7_isLacked_8 rfl rfl ?_
    refine gf_X7_45 rfl dX7_isLacked_9 ltc_0 shc_0 rfc_0_18 ?_
    refine Ev.iload_n dX7_isLacked_12 rfl rfl ?_
    refine Ev.iaload (v := ((NX s (cutT s kp) x : Nat) : Int)) dX7_isLacked_13 ltc_24 shc_24 (by decide) (by omega) (by omega) (ldx rfl (hX1 q5 x (by omega)).1) ?_
    refine Ev.iload_n dX7_isLacked_14 rfl rfl ?_
    refine Ev.ishr dX7_isLacked_15 ?_
    refine Ev.iconst dX7_isLacked_16 ?_
    refine Ev.iand dX7_isLacked_17 ?_
    rw [show (iAnd ((iShr (((NX s (cutT s kp) x : Nat) : Int)) (((v : Nat) : Int)))) (1)) = (((b2 ((NX s (cutT s kp) x).testBit v)) : Nat) : Int) from bit_nat (by omega) (by omega)]
    refine Ev.if_ne (tgt := 25) b2_inR dX7_isLacked_18 (by decide) (fun h18 => ?_) (fun h18 => ?_)
    · skip
      refine Ev.iconst dX7_isLacked_25 ?_
      exact Ev.zreturn dX7_isLacked_26 rfl (Or.inl rfl) (rE ⟨bI_f (fun z => z.elim (fun y => y q5) (fun y => by rw [b2_ne.mp h18] at y; cases y)), hS1, hJ1⟩)
    · skip
      refine Ev.iconst dX7_isLacked_21 ?_
      refine Ev.goto (tgt := 26) dX7_isLacked_22 (by decide) ?_
      exact Ev.zreturn dX7_isLacked_26 rfl (Or.inr rfl) (rE ⟨bI_t (by first | exact Or.inl q5 | exact Or.inr (b2_0.mp (by omega))), hS1, hJ1⟩)

set_option maxRecDepth 100000 in
set_option maxHeartbeats 4000000 in
theorem c_why_l {g : GC} (s : SS) (σ : Sg) (kx kv : Nat) (hx : kx < sU s) (hv : kv < 16) (hb : (sG s kx).testBit kv = true) (hl : LKd s kx kv (2 ^ sD s - 1)) : ∀ j d : Nat, d + j = sD s → ∀ τ : Sg, CI s τ → (∀ c, 272 ≤ c → τ c = σ c) → Ev g mX7_why 57 [some (vR (0)), some (vI (((kx : Nat) : Int))), some (vI (((kv : Nat) : Int))), some (vI (((lessS (LKd s kx kv) (2 ^ sD s - 1) d : Nat) : Int))), some (vI (((d : Nat) : Int))), none] [] (M0 (τ)) 0 0 (retE (CP σ (o_why s (kx : Int) (kv : Int)))) := by
  intro j
  induction j with
  | zero =>
    intro d hij τ hC hK
    obtain ⟨hk1, hk2, hk3, hk4, hk5, hk6, hk7, hk8, hk9⟩ := id hC
    have hU := hk1.1
    have hN := hk2.1
    have hD := hk4.1
    have hM := hk7.1
    have hQ := hk5.1
    have hdl := dlt hD
    have hle := lessS_le (LKd s kx kv) (2 ^ sD s - 1) d
    refine Ev.iload dX7_why_57 rfl ?_
    refine Ev.aload_n dX7_why_59 rfl rfl ?_
    refine gf_X7_25 rfl dX7_why_60 ltc_0 shc_0 rfc_0_7 ?_
    refine gf_X7_85 (x := ((sD s : Nat) : Int)) rfl dX7_why_63 ltc_4 shc_4 hk4.2.1 ?_
    refine Ev.icmp_ge (tgt := 99) ⟨by omega, by omega⟩ ⟨by omega, by omega⟩ dX7_why_66 (by decide) (fun h66 => ?_) (fun h66 => ?_)
    · skip
      refine Ev.aload_n dX7_why_99 rfl rfl ?_
      refine Ev.iload_n dX7_why_100 rfl rfl ?_
      refine Ev.callV_G (M2 := mX7_keepReasons) (args2 := [vI (((lessS (LKd s kx kv) (2 ^ sD s - 1) d : Nat) : Int))]) (rcv := 0) (q := (RX7, TX7, 20)) (ci := 7) dX7_why_101 okX7_keepReasons lk_X7_221 ovX7_keepReasons.1.1 ovX7_keepReasons.1.2 ovX7_keepReasons.2 (by decide) rfl rfl ltc_0 shc_0 rfl (Nat.le_of_ble_eq_true rfl) (Nat.le_of_ble_eq_true rfl) (s7_keepReasons s τ hC (lessS (LKd s kx kv) (2 ^ sD s - 1) d) (by omega)) (fun v_ m_ hp_ => ?_) rfl
      obtain ⟨_, ρ, rfl, rfl, rfl, hR⟩ := hp_
      show Ev g mX7_why 104 [some (vR (0)), some (vI (((kx : Nat) : Int))), some (vI (((kv : Nat) : Int))), some (vI (((lessS (LKd s kx kv) (2 ^ sD s - 1) d : Nat) : Int))), some (vI (((d : Nat) : Int))), none] [vI (((popN (sD s) (lessS (LKd s kx kv) (2 ^ sD s - 1) d) : Nat) : Int))] (M0 (ρ)) 0 0 _
      exact Ev.ireturn dX7_why_104 rfl (rE (by have hQ : RsF τ (whyS s kx kv) (sD s) ρ := (by rw [show d = sD s by omega] at hR; exact hR); unfold CP o_why; (repeat rw [Int.toNat_natCast]); rw [ifP_f (by omega), ifP_f (by omega), ifP_f (fun z => z.elim (fun y => by rw [hb] at y; cases y) (fun y => y hl))]; exact ⟨(by rw [show d = sD s by omega]; rfl), (hC.rsn hQ), (fun c q1 => (hR.kp c q1).trans (hK c q1))⟩))
    · exact absurd h66 (by omega)
  | succ j ih =>
    intro d hij τ hC hK
    obtain ⟨hk1, hk2, hk3, hk4, hk5, hk6, hk7, hk8, hk9⟩ := id hC
    have hU := hk1.1
    have hN := hk2.1
    have hD := hk4.1
    have hM := hk7.1
    have hQ := hk5.1
    have hdl := dlt hD
    have hle := lessS_le (LKd s kx kv) (2 ^ sD s - 1) d
    have hpd := pw12 (show d < 12 by omega)
    have hfl : (andN (lessS (LKd s kx kv) (2 ^ sD s - 1) d) (2 ^ d)) < 4096 := andN_lt (by omega)
    refine Ev.iload dX7_why_57 rfl ?_
    refine Ev.aload_n dX7_why_59 rfl rfl ?_
    refine gf_X7_25 rfl dX7_why_60 ltc_0 shc_0 rfc_0_7 ?_
    refine gf_X7_85 (x := ((sD s : Nat) : Int)) rfl dX7_why_63 ltc_4 shc_4 hk4.2.1 ?_
    refine Ev.icmp_ge (tgt := 99) ⟨by omega, by omega⟩ ⟨by omega, by omega⟩ dX7_why_66 (by decide) (fun h66 => ?_) (fun h66 => ?_)
    · exact absurd h66 (by omega)
    · skip
      refine Ev.iload_n dX7_why_69 rfl rfl ?_
      refine Ev.iconst dX7_why_70 ?_
      refine Ev.iload dX7_why_71 rfl ?_
      refine Ev.ishl dX7_why_73 ?_
      rw [show (iShl (1) (((d : Nat) : Int))) = ((2 ^ d : Nat) : Int) from shl1 (by omega)]
      refine Ev.iconst dX7_why_74 ?_
      refine Ev.ixor dX7_why_75 ?_
      rw [show (iXor (((2 ^ d : Nat) : Int)) (-1)) = (-((2 ^ d : Nat) : Int) - 1) from iXor_m1 (by omega)]
      refine Ev.iand dX7_why_76 ?_
      rw [show (iAnd (((lessS (LKd s kx kv) (2 ^ sD s - 1) d : Nat) : Int)) ((-((2 ^ d : Nat) : Int) - 1))) = (((andN (lessS (LKd s kx kv) (2 ^ sD s - 1) d) (2 ^ d)) : Nat) : Int) from iAnd_not (by omega)]
      refine Ev.istore (pl' := [some (vR (0)), some (vI (((kx : Nat) : Int))), some (vI (((kv : Nat) : Int))), some (vI (((lessS (LKd s kx kv) (2 ^ sD s - 1) d : Nat) : Int))), some (vI (((d : Nat) : Int))), some (vI ((((andN (lessS (LKd s kx kv) (2 ^ sD s - 1) d) (2 ^ d)) : Nat) : Int)))]) dX7_why_77 (Nat.le_of_ble_eq_true rfl) rfl ?_
      refine Ev.aload_n dX7_why_79 rfl rfl ?_
      refine Ev.iload_n dX7_why_80 rfl rfl ?_
      refine Ev.iload_n dX7_why_81 rfl rfl ?_
      refine Ev.iload dX7_why_82 rfl ?_
      refine Ev.callV_G (M2 := mX7_isLacked) (args2 := [vI (((kx : Nat) : Int)), vI (((kv : Nat) : Int)), vI ((((andN (lessS (LKd s kx kv) (2 ^ sD s - 1) d) (2 ^ d)) : Nat) : Int))]) (rcv := 0) (q := (RX7, TX7, 20)) (ci := 7) dX7_why_84 okX7_isLacked lk_X7_218 ovX7_isLacked.1.1 ovX7_isLacked.1.2 ovX7_isLacked.2 (by decide) rfl rfl ltc_0 shc_0 rfl (Nat.le_of_ble_eq_true rfl) (Nat.le_of_ble_eq_true rfl) (s7_isLacked s τ hC kx kv ((andN (lessS (LKd s kx kv) (2 ^ sD s - 1) d) (2 ^ d))) (by omega) (by omega) (by omega)) (fun v_ m_ hp_ => ?_) rfl
      obtain ⟨_, τ2, rfl, rfl, rfl, hS1, hJ1⟩ := hp_
      have hC := hC.scr hS1 hJ1
      have hK := fun c (h : 272 ≤ c) => (hS1 c (nSC2 h)).trans (hK c h)
      obtain ⟨hk1, hk2, hk3, hk4, hk5, hk6, hk7, hk8, hk9⟩ := id hC
      have hU := hk1.1
      have hN := hk2.1
      have hD := hk4.1
      have hM := hk7.1
      have hQ := hk5.1
      show Ev g mX7_why 87 [some (vR (0)), some (vI (((kx : Nat) : Int))), some (vI (((kv : Nat) : Int))), some (vI (((lessS (LKd s kx kv) (2 ^ sD s - 1) d : Nat) : Int))), some (vI (((d : Nat) : Int))), some (vI ((((andN (lessS (LKd s kx kv) (2 ^ sD s - 1) d) (2 ^ d)) : Nat) : Int)))] [vI (bI (LKd s kx kv ((andN (lessS (LKd s kx kv) (2 ^ sD s - 1) d) (2 ^ d)))))] (M0 (τ2)) 0 0 _
      refine Ev.if_eq (tgt := 93) bI_inR dX7_why_87 (by decide) (fun h87 => ?_) (fun h87 => ?_)
      · skip
        have q87 := bI_0.mp h87
        refine Ev.iinc (pl' := [some (vR (0)), some (vI (((kx : Nat) : Int))), some (vI (((kv : Nat) : Int))), some (vI (((lessS (LKd s kx kv) (2 ^ sD s - 1) d : Nat) : Int))), some (vI (((d : Nat) : Int) + 1)), some (vI ((((andN (lessS (LKd s kx kv) (2 ^ sD s - 1) d) (2 ^ d)) : Nat) : Int)))]) dX7_why_93 rfl (Nat.le_of_ble_eq_true rfl) rfl ?_
        refine Ev.goto (tgt := 57) dX7_why_96 (by decide) ?_
        refine Ev.wk (pl' := [some (vR (0)), some (vI (((kx : Nat) : Int))), some (vI (((kv : Nat) : Int))), some (vI (((lessS (LKd s kx kv) (2 ^ sD s - 1) (d + 1) : Nat) : Int))), some (vI ((((d + 1) : Nat) : Int))), none]) ⟨rfl, ⟨rfl, ⟨rfl, ⟨vIe (by first | rw [lessS_y q87] | rw [lessS_n q87]), ⟨vIe (by omega), trivial⟩⟩⟩⟩⟩ ?_
        exact ih (d + 1) (by omega) τ2 hC hK
      · skip
        have q87 := bI_1.mp h87
        refine Ev.iload dX7_why_90 rfl ?_
        refine Ev.istore_n (pl' := [some (vR (0)), some (vI (((kx : Nat) : Int))), some (vI (((kv : Nat) : Int))), some (vI ((((andN (lessS (LKd s kx kv) (2 ^ sD s - 1) d) (2 ^ d)) : Nat) : Int))), some (vI (((d : Nat) : Int))), some (vI ((((andN (lessS (LKd s kx kv) (2 ^ sD s - 1) d) (2 ^ d)) : Nat) : Int)))]) dX7_why_92 rfl (Nat.le_of_ble_eq_true rfl) rfl ?_
        refine Ev.iinc (pl' := [some (vR (0)), some (vI (((kx : Nat) : Int))), some (vI (((kv : Nat) : Int))), some (vI ((((andN (lessS (LKd s kx kv) (2 ^ sD s - 1) d) (2 ^ d)) : Nat) : Int))), some (vI (((d : Nat) : Int) + 1)), some (vI ((((andN (lessS (LKd s kx kv) (2 ^ sD s - 1) d) (2 ^ d)) : Nat) : Int)))]) dX7_why_93 rfl (Nat.le_of_ble_eq_true rfl) rfl ?_
        refine Ev.goto (tgt := 57) dX7_why_96 (by decide) ?_
        refine Ev.wk (pl' := [some (vR (0)), some (vI (((kx : Nat) : Int))), some (vI (((kv : Nat) : Int))), some (vI (((lessS (LKd s kx kv) (2 ^ sD s - 1) (d + 1) : Nat) : Int))), some (vI ((((d + 1) : Nat) : Int))), none]) ⟨rfl, ⟨rfl, ⟨rfl, ⟨vIe (by first | rw [lessS_y q87] | rw [lessS_n q87]), ⟨vIe (by omega), trivial⟩⟩⟩⟩⟩ ?_
        exact ih (d + 1) (by omega) τ2 hC hK

set_option maxRecDepth 100000 in
set_option maxHeartbeats 4000000 in
theorem c_why {g : GC} (s : SS) (σ : Sg) (hC : CI s σ) (x : Int) (h_x : inR x) (v : Int) (h_v : inR v) : Ev g mX7_why 0 [some (vR (0)), some (vI (x)), some (vI (v)), none, none, none] [] (M0 (σ)) 0 0 (retE (CP σ (o_why s x v))) := by
  obtain ⟨hk1, hk2, hk3, hk4, hk5, hk6, hk7, hk8, hk9⟩ := id hC
  have hU := hk1.1
  have hN := hk2.1
  have hD := hk4.1
  have hM := hk7.1
  have hQ := hk5.1
  refine Ev.aload_n dX7_why_0 rfl rfl ?_
  refine Ev.iload_n dX7_why_1 rfl rfl ?_
  refine Ev.callV_I (M2 := mX7_isUnknown) (args2 := [vI (x)]) (rcv := 0) (q := (RX7, TX7, 20)) (ci := 7) dX7_why_2 okX7_isUnknown lk_X7_94 ovX7_isUnknown.1.1 ovX7_isUnknown.1.2 ovX7_isUnknown.2 (by decide) rfl rfl ltc_0 shc_0 rfl (Nat.le_of_ble_eq_true rfl) (Nat.le_of_ble_eq_true rfl) (s7_isUnknown σ (sU s) hU hk1.2.1 (x) ⟨by omega, by omega⟩) ?_ rfl
  refine Ev.if_ne (tgt := 10) bI_inR dX7_why_5 (by decide) (fun h5 => ?_) (fun h5 => ?_)
  · skip
    have q5 := bI_1.mp h5
    obtain ⟨kx, rfl⟩ : ∃ n_ : Nat, x = (n_ : Int) := ⟨x.toNat, by omega⟩
    have hxl := (hk1.2.2.1 kx (by omega)).2.2
    have hdl := dlt hD
    refine Ev.iload_n dX7_why_10 rfl rfl ?_
    refine Ev.callS_I (M2 := mX7_isNumber) (args2 := [vI (v)]) dX7_why_11 okX7_isNumber lk_X7_98 osX7_isNumber.1 osX7_isNumber.2 (by decide) rfl (Nat.le_of_ble_eq_true rfl) (Nat.le_of_ble_eq_true rfl) (s7_isNumber σ (v) ⟨by omega, by omega⟩) ?_ rfl
    refine Ev.if_ne (tgt := 20) bI_inR dX7_why_14 (by decide) (fun h14 => ?_) (fun h14 => ?_)
    · skip
      have q14 := bI_1.mp h14
      obtain ⟨kv, rfl⟩ : ∃ n_ : Nat, v = (n_ : Int) := ⟨v.toNat, by omega⟩
      refine Ev.aload_n dX7_why_20 rfl rfl ?_
      refine gf_X7_25 rfl dX7_why_21 ltc_0 shc_0 rfc_0_7 ?_
      refine Ev.callV_I (M2 := mX5_all) (args2 := []) (rcv := 4) (q := (RX5, TX5, 4)) (ci := 5) dX7_why_24 okX5_all lk_X7_214 ovX5_all.1.1 ovX5_all.1.2 ovX5_all.2 (by decide) rfl rfl ltc_4 shc_4 rfl (Nat.le_of_ble_eq_true rfl) (Nat.le_of_ble_eq_true rfl) (s5_all σ (sD s) hk4.2.1 hD) ?_ rfl
      refine Ev.istore_n (pl' := [some (vR (0)), some (vI (((kx : Nat) : Int))), some (vI (((kv : Nat) : Int))), some (vI ((((2 ^ sD s - 1) : Nat) : Int))), none, none]) dX7_why_27 rfl (Nat.le_of_ble_eq_true rfl) rfl ?_
      refine Ev.aload_n dX7_why_28 rfl rfl ?_
      refine gf_X7_9 rfl dX7_why_29 ltc_0 shc_0 rfc_0_0 ?_
      refine Ev.iload_n dX7_why_32 rfl rfl ?_
      refine Ev.iaload (v := ((sG s kx : Nat) : Int)) dX7_why_33 ltc_1 shc_1 (by decide) (by omega) (by omega) (ldx rfl (hk1.2.2.1 kx (by omega)).1) ?_
      refine Ev.iload_n dX7_why_34 rfl rfl ?_
      refine Ev.ishr dX7_why_35 ?_
      refine Ev.iconst dX7_why_36 ?_
      refine Ev.iand dX7_why_37 ?_
      rw [show (iAnd ((iShr (((sG s kx : Nat) : Int)) (((kv : Nat) : Int)))) (1)) = (((b2 ((sG s kx).testBit kv)) : Nat) : Int) from bit_nat (by omega) (by omega)]
      refine Ev.if_eq (tgt := 51) b2_inR dX7_why_38 (by decide) (fun h38 => ?_) (fun h38 => ?_)
      · skip
        refine Ev.bipush (n := -3) (by decide) dX7_why_51 ?_
        exact Ev.ireturn dX7_why_53 rfl (rE (by unfold CP o_why; (repeat rw [Int.toNat_natCast]); rw [ifP_f (by omega), ifP_f (by omega), ifP_t (by first | exact Or.inr q48 | exact Or.inl (b2_0.mp (by omega)))]; exact ⟨rfl, hC, (fun _ _ => rfl)⟩))
      · skip
        refine Ev.aload_n dX7_why_41 rfl rfl ?_
        refine Ev.iload_n dX7_why_42 rfl rfl ?_
        refine Ev.iload_n dX7_why_43 rfl rfl ?_
        refine Ev.iload_n dX7_why_44 rfl rfl ?_
        refine Ev.callV_G (M2 := mX7_isLacked) (args2 := [vI (((kx : Nat) : Int)), vI (((kv : Nat) : Int)), vI ((((2 ^ sD s - 1) : Nat) : Int))]) (rcv := 0) (q := (RX7, TX7, 20)) (ci := 7) dX7_why_45 okX7_isLacked lk_X7_218 ovX7_isLacked.1.1 ovX7_isLacked.1.2 ovX7_isLacked.2 (by decide) rfl rfl ltc_0 shc_0 rfl (Nat.le_of_ble_eq_true rfl) (Nat.le_of_ble_eq_true rfl) (s7_isLacked s σ hC kx kv ((2 ^ sD s - 1)) (by omega) (by omega) (by omega)) (fun v_ m_ hp_ => ?_) rfl
        obtain ⟨_, τ, rfl, rfl, rfl, hS1, hJ1⟩ := hp_
        have hC := hC.scr hS1 hJ1
        have hK := fun c (h : 272 ≤ c) => hS1 c (nSC2 h)
        obtain ⟨hk1, hk2, hk3, hk4, hk5, hk6, hk7, hk8, hk9⟩ := id hC
        have hU := hk1.1
        have hN := hk2.1
        have hD := hk4.1
        have hM := hk7.1
        have hQ := hk5.1
        show Ev g mX7_why 48 [some (vR (0)), some (vI (((kx : Nat) : Int))), some (vI (((kv : Nat) : Int))), some (vI ((((2 ^ sD s - 1) : Nat) : Int))), none, none] [vI (bI (LKd s kx kv ((2 ^ sD s - 1))))] (M0 (τ)) 0 0 _
        refine Ev.if_ne (tgt := 54) bI_inR dX7_why_48 (by decide) (fun h48 => ?_) (fun h48 => ?_)
        · skip
          have q48 := bI_1.mp h48
          refine Ev.iconst dX7_why_54 ?_
          refine Ev.istore (pl' := [some (vR (0)), some (vI (((kx : Nat) : Int))), some (vI (((kv : Nat) : Int))), some (vI ((((2 ^ sD s - 1) : Nat) : Int))), some (vI (0)), none]) dX7_why_55 (Nat.le_of_ble_eq_true rfl) rfl ?_
          refine Ev.wk (pl' := [some (vR (0)), some (vI (((kx : Nat) : Int))), some (vI (((kv : Nat) : Int))), some (vI (((lessS (LKd s kx kv) (2 ^ sD s - 1) 0 : Nat) : Int))), some (vI (((0 : Nat) : Int))), none]) ⟨rfl, ⟨rfl, ⟨rfl, ⟨vIe rfl, ⟨vIe rfl, trivial⟩⟩⟩⟩⟩ ?_
          exact c_why_l s σ kx kv (by omega) (by omega) (b2_ne.mp h38) q48 (sD s) 0 (by omega) τ hC hK
        · skip
          have q48 := bI_0.mp h48
          refine Ev.bipush (n := -3) (by decide) dX7_why_51 ?_
          exact Ev.ireturn dX7_why_53 rfl (rE (by unfold CP o_why; (repeat rw [Int.toNat_natCast]); rw [ifP_f (by omega), ifP_f (by omega), ifP_t (by first | exact Or.inr q48 | exact Or.inl (b2_0.mp (by omega)))]; exact ⟨rfl, hC, hK⟩))
    · skip
      have q14 := bI_0.mp h14
      refine Ev.bipush (n := -2) (by decide) dX7_why_17 ?_
      exact Ev.ireturn dX7_why_19 rfl (rE (by unfold CP o_why; (repeat rw [Int.toNat_natCast]); rw [ifP_f (by omega), ifP_t (by omega)]; exact ⟨rfl, hC, (fun _ _ => rfl)⟩))
  · skip
    have q5 := bI_0.mp h5
    refine Ev.iconst dX7_why_8 ?_
    exact Ev.ireturn dX7_why_9 rfl (rE (by unfold CP o_why; (repeat rw [Int.toNat_natCast]); rw [ifP_t (by omega)]; exact ⟨rfl, hC, (fun _ _ => rfl)⟩))

set_option maxRecDepth 100000 in
set_option maxHeartbeats 4000000 in
theorem c_reason {g : GC} (s : SS) (σ : Sg) (hC : CI s σ) (k : Int) (h_k : inR k) : Ev g mX7_reason 0 [some (vR (0)), some (vI (k))] [] (M0 (σ)) 0 0 (retE (CP σ (o_reason s k))) := by
  obtain ⟨hk1, hk2, hk3, hk4, hk5, hk6, hk7, hk8, hk9⟩ := id hC
  have hU := hk1.1
  have hN := hk2.1
  have hD := hk4.1
  have hM := hk7.1
  have hQ := hk5.1
  refine Ev.iload_n dX7_reason_0 rfl rfl ?_
  refine Ev.if_lt (tgt := 21) ⟨by omega, by omega⟩ dX7_reason_1 (by decide) (fun h1 => ?_) (fun h1 => ?_)
  · skip
    refine Ev.bipush (n := -9) (by decide) dX7_reason_21 ?_
    exact Ev.ireturn dX7_reason_23 rfl (rE (by unfold CP o_reason; (repeat rw [Int.toNat_natCast]); exact ⟨(by show _ = ifP _ _ _; rw [ifP_f (by omega)]), hC, (fun _ _ => rfl)⟩))
  · skip
    refine Ev.iload_n dX7_reason_4 rfl rfl ?_
    refine Ev.aload_n dX7_reason_5 rfl rfl ?_
    refine gf_X7_231 (x := ((sQ s : Nat) : Int)) rfl dX7_reason_6 ltc_0 shc_0 hk5.2.1 ?_
    refine Ev.icmp_ge (tgt := 21) ⟨by omega, by omega⟩ ⟨by omega, by omega⟩ dX7_reason_9 (by decide) (fun h9 => ?_) (fun h9 => ?_)
    · skip
      refine Ev.bipush (n := -9) (by decide) dX7_reason_21 ?_
      exact Ev.ireturn dX7_reason_23 rfl (rE (by unfold CP o_reason; (repeat rw [Int.toNat_natCast]); exact ⟨(by show _ = ifP _ _ _; rw [ifP_f (by omega)]), hC, (fun _ _ => rfl)⟩))
    · skip
      obtain ⟨kk, rfl⟩ : ∃ n_ : Nat, k = (n_ : Int) := ⟨k.toNat, by omega⟩
      refine Ev.aload_n dX7_reason_12 rfl rfl ?_
      refine gf_X7_29 rfl dX7_reason_13 ltc_0 shc_0 rfc_0_8 ?_
      refine Ev.iload_n dX7_reason_16 rfl rfl ?_
      refine Ev.iaload (v := ((sI s kk : Nat) : Int)) dX7_reason_17 ltc_20 shc_20 (by decide) (by omega) (by omega) (ldx rfl (hk5.2.2 kk (by omega))) ?_
      refine Ev.goto (tgt := 23) dX7_reason_18 (by decide) ?_
      exact Ev.ireturn dX7_reason_23 rfl (rE (by unfold CP o_reason; (repeat rw [Int.toNat_natCast]); exact ⟨(by show _ = ifP _ _ _; rw [ifP_t (by omega)]), hC, (fun _ _ => rfl)⟩))

set_option maxRecDepth 100000 in
set_option maxHeartbeats 4000000 in
theorem s7_hasAnswerBySteps {g : GC} (s : SS) (σ : Sg) (hC : CI s σ) (h0 : AL s (sG s)) (hw : wys (NX s (sG s)) (sU s) ≤ 20000) (kp : Nat) (hkp : kp < 4096) : Ev g mX7_hasAnswerBySteps 0 [some (vR (0)), some (vI (((kp : Nat) : Int)))] [] (M0 (σ)) 0 0 (retE (fun r τ => r = bI (hasA s kp) ∧ Same SC σ τ ∧ τ 263 0 = 0)) := by
  obtain ⟨hk1, hk2, hk3, hk4, hk5, hk6, hk7, hk8, hk9⟩ := id hC
  have hU := hk1.1
  have hN := hk2.1
  have hD := hk4.1
  have hM := hk7.1
  have hQ := hk5.1
  refine Ev.aload_n dX7_hasAnswerBySteps_0 rfl rfl ?_
  refine Ev.iload_n dX7_hasAnswerBySteps_1 rfl rfl ?_
  refine Ev.callV_G (M2 := mX7_narrowToldBySteps) (args2 := [vI (((kp : Nat) : Int))]) (rcv := 0) (q := (RX7, TX7, 20)) (ci := 7) dX7_hasAnswerBySteps_2 okX7_narrowToldBySteps lk_X7_224 ovX7_narrowToldBySteps.1.1 ovX7_narrowToldBySteps.1.2 ovX7_narrowToldBySteps.2 (by decide) rfl rfl ltc_0 shc_0 rfl (Nat.le_of_ble_eq_true rfl) (Nat.le_of_ble_eq_true rfl) (s7_narrowToldBySteps s σ hC kp (by omega)) (fun v_ m_ hp_ => ?_) rfl
  obtain ⟨_, τ, rfl, rfl, rfl, hS1, hJ1, hX1⟩ := hp_
  have hC := hC.scr hS1 hJ1
  obtain ⟨hk1, hk2, hk3, hk4, hk5, hk6, hk7, hk8, hk9⟩ := id hC
  have hU := hk1.1
  have hN := hk2.1
  have hD := hk4.1
  have hM := hk7.1
  have hQ := hk5.1
  show Ev g mX7_hasAnswerBySteps 5 [some (vR (0)), some (vI (((kp : Nat) : Int)))] [vI (bI (AL s (cutT s kp)))] (M0 (τ)) 0 0 _
  refine Ev.if_eq (tgt := 23) bI_inR dX7_hasAnswerBySteps_5 (by decide) (fun h5 => ?_) (fun h5 => ?_)
  · skip
    have q5 := bI_0.mp h5
    refine Ev.iconst dX7_hasAnswerBySteps_23 ?_
    exact Ev.zreturn dX7_hasAnswerBySteps_24 rfl (Or.inl rfl) (rE ⟨bI_f (fun ⟨B, z⟩ => q5 z.1), hS1, hJ1⟩)
  · skip
    have q5 := bI_1.mp h5
    refine Ev.aload_n dX7_hasAnswerBySteps_8 rfl rfl ?_
    refine Ev.aload_n dX7_hasAnswerBySteps_9 rfl rfl ?_
    refine gf_X7_45 rfl dX7_hasAnswerBySteps_10 ltc_0 shc_0 rfc_0_18 ?_
    refine Ev.callV_G (M2 := mX7_findsAnswer) (args2 := [vR (24)]) (rcv := 0) (q := (RX7, TX7, 20)) (ci := 7) dX7_hasAnswerBySteps_13 okX7_findsAnswer lk_X7_237 ovX7_findsAnswer.1.1 ovX7_findsAnswer.1.2 ovX7_findsAnswer.2 (by decide) rfl rfl ltc_0 shc_0 rfl (Nat.le_of_ble_eq_true rfl) (Nat.le_of_ble_eq_true rfl) (s7_findsAnswer s τ hC (NX s (cutT s kp)) 24 ltc_24 shc_24 (by decide) (hX1 q5).az (fun _ => hasA_wys h0 hw q5)) (fun v_ m_ hp_ => ?_) rfl
    obtain ⟨_, τ2, rfl, rfl, rfl, hF2, hG2⟩ := hp_
    show Ev g mX7_hasAnswerBySteps 16 [some (vR (0)), some (vI (((kp : Nat) : Int)))] [vI (bI (∃ B, isAns (sU s) (sB s) (sS s) (NX s (cutT s kp)) B))] (M0 (τ2)) 0 0 _
    refine Ev.if_eq (tgt := 23) bI_inR dX7_hasAnswerBySteps_16 (by decide) (fun h16 => ?_) (fun h16 => ?_)
    · skip
      have q16 := bI_0.mp h16
      refine Ev.iconst dX7_hasAnswerBySteps_23 ?_
      exact Ev.zreturn dX7_hasAnswerBySteps_24 rfl (Or.inl rfl) (rE ⟨bI_f (fun ⟨B, z⟩ => q16 ⟨B, z.2⟩), hS1.tr (SK_SC hF2), (congrFun (hF2 263 (by decide)) 0).trans hJ1⟩)
    · skip
      have q16 := bI_1.mp h16
      refine Ev.iconst dX7_hasAnswerBySteps_19 ?_
      refine Ev.goto (tgt := 24) dX7_hasAnswerBySteps_20 (by decide) ?_
      exact Ev.zreturn dX7_hasAnswerBySteps_24 rfl (Or.inr rfl) (rE ⟨bI_t (by obtain ⟨B, z⟩ := q16; exact ⟨B, q5, z⟩), hS1.tr (SK_SC hF2), (congrFun (hF2 263 (by decide)) 0).trans hJ1⟩)

set_option maxRecDepth 100000 in
set_option maxHeartbeats 4000000 in
theorem c_core_l {g : GC} (s : SS) (σ : Sg) (h0 : AL s (sG s)) (hw : wys (NX s (sG s)) (sU s) ≤ 20000) (hn : ¬ hasA s (2 ^ sD s - 1)) : ∀ j d : Nat, d + j = sD s → ∀ τ : Sg, CI s τ → (∀ c, 272 ≤ c → τ c = σ c) → Ev g mX7_core 59 [some (vR (0)), some (vI (((lessS (fun kp => ¬ hasA s kp) (2 ^ sD s - 1) d : Nat) : Int))), some (vI (((d : Nat) : Int))), none] [] (M0 (τ)) 0 0 (retE (CP σ (o_core s))) := by
  intro j
  induction j with
  | zero =>
    intro d hij τ hC hK
    obtain ⟨hk1, hk2, hk3, hk4, hk5, hk6, hk7, hk8, hk9⟩ := id hC
    have hU := hk1.1
    have hN := hk2.1
    have hD := hk4.1
    have hM := hk7.1
    have hQ := hk5.1
    have hdl := dlt hD
    have hle := lessS_le (fun kp => ¬ hasA s kp) (2 ^ sD s - 1) d
    refine Ev.iload_n dX7_core_59 rfl rfl ?_
    refine Ev.aload_n dX7_core_60 rfl rfl ?_
    refine gf_X7_25 rfl dX7_core_61 ltc_0 shc_0 rfc_0_7 ?_
    refine gf_X7_85 (x := ((sD s : Nat) : Int)) rfl dX7_core_64 ltc_4 shc_4 hk4.2.1 ?_
    refine Ev.icmp_ge (tgt := 94) ⟨by omega, by omega⟩ ⟨by omega, by omega⟩ dX7_core_67 (by decide) (fun h67 => ?_) (fun h67 => ?_)
    · skip
      refine Ev.aload_n dX7_core_94 rfl rfl ?_
      refine Ev.iload_n dX7_core_95 rfl rfl ?_
      refine Ev.callV_G (M2 := mX7_keepReasons) (args2 := [vI (((lessS (fun kp => ¬ hasA s kp) (2 ^ sD s - 1) d : Nat) : Int))]) (rcv := 0) (q := (RX7, TX7, 20)) (ci := 7) dX7_core_96 okX7_keepReasons lk_X7_221 ovX7_keepReasons.1.1 ovX7_keepReasons.1.2 ovX7_keepReasons.2 (by decide) rfl rfl ltc_0 shc_0 rfl (Nat.le_of_ble_eq_true rfl) (Nat.le_of_ble_eq_true rfl) (s7_keepReasons s τ hC (lessS (fun kp => ¬ hasA s kp) (2 ^ sD s - 1) d) (by omega)) (fun v_ m_ hp_ => ?_) rfl
      obtain ⟨_, ρ, rfl, rfl, rfl, hR⟩ := hp_
      show Ev g mX7_core 99 [some (vR (0)), some (vI (((lessS (fun kp => ¬ hasA s kp) (2 ^ sD s - 1) d : Nat) : Int))), some (vI (((d : Nat) : Int))), none] [vI (((popN (sD s) (lessS (fun kp => ¬ hasA s kp) (2 ^ sD s - 1) d) : Nat) : Int))] (M0 (ρ)) 0 0 _
      exact Ev.ireturn dX7_core_99 rfl (rE (by have hQ : RsF τ (corS s) (sD s) ρ := (by rw [show d = sD s by omega] at hR; exact hR); unfold CP o_core; (repeat rw [Int.toNat_natCast]); rw [ifP_f (fun z => z h0), ifP_f (by omega), ifP_f hn]; exact ⟨(by rw [show d = sD s by omega]; rfl), (hC.rsn hQ), (fun c q1 => (hR.kp c q1).trans (hK c q1))⟩))
    · exact absurd h67 (by omega)
  | succ j ih =>
    intro d hij τ hC hK
    obtain ⟨hk1, hk2, hk3, hk4, hk5, hk6, hk7, hk8, hk9⟩ := id hC
    have hU := hk1.1
    have hN := hk2.1
    have hD := hk4.1
    have hM := hk7.1
    have hQ := hk5.1
    have hdl := dlt hD
    have hle := lessS_le (fun kp => ¬ hasA s kp) (2 ^ sD s - 1) d
    have hpd := pw12 (show d < 12 by omega)
    have hfl : (andN (lessS (fun kp => ¬ hasA s kp) (2 ^ sD s - 1) d) (2 ^ d)) < 4096 := andN_lt (by omega)
    refine Ev.iload_n dX7_core_59 rfl rfl ?_
    refine Ev.aload_n dX7_core_60 rfl rfl ?_
    refine gf_X7_25 rfl dX7_core_61 ltc_0 shc_0 rfc_0_7 ?_
    refine gf_X7_85 (x := ((sD s : Nat) : Int)) rfl dX7_core_64 ltc_4 shc_4 hk4.2.1 ?_
    refine Ev.icmp_ge (tgt := 94) ⟨by omega, by omega⟩ ⟨by omega, by omega⟩ dX7_core_67 (by decide) (fun h67 => ?_) (fun h67 => ?_)
    · exact absurd h67 (by omega)
    · skip
      refine Ev.iload_n dX7_core_70 rfl rfl ?_
      refine Ev.iconst dX7_core_71 ?_
      refine Ev.iload_n dX7_core_72 rfl rfl ?_
      refine Ev.ishl dX7_core_73 ?_
      rw [show (iShl (1) (((d : Nat) : Int))) = ((2 ^ d : Nat) : Int) from shl1 (by omega)]
      refine Ev.iconst dX7_core_74 ?_
      refine Ev.ixor dX7_core_75 ?_
      rw [show (iXor (((2 ^ d : Nat) : Int)) (-1)) = (-((2 ^ d : Nat) : Int) - 1) from iXor_m1 (by omega)]
      refine Ev.iand dX7_core_76 ?_
      rw [show (iAnd (((lessS (fun kp => ¬ hasA s kp) (2 ^ sD s - 1) d : Nat) : Int)) ((-((2 ^ d : Nat) : Int) - 1))) = (((andN (lessS (fun kp => ¬ hasA s kp) (2 ^ sD s - 1) d) (2 ^ d)) : Nat) : Int) from iAnd_not (by omega)]
      refine Ev.istore_n (pl' := [some (vR (0)), some (vI (((lessS (fun kp => ¬ hasA s kp) (2 ^ sD s - 1) d : Nat) : Int))), some (vI (((d : Nat) : Int))), some (vI ((((andN (lessS (fun kp => ¬ hasA s kp) (2 ^ sD s - 1) d) (2 ^ d)) : Nat) : Int)))]) dX7_core_77 rfl (Nat.le_of_ble_eq_true rfl) rfl ?_
      refine Ev.aload_n dX7_core_78 rfl rfl ?_
      refine Ev.iload_n dX7_core_79 rfl rfl ?_
      refine Ev.callV_G (M2 := mX7_hasAnswerBySteps) (args2 := [vI ((((andN (lessS (fun kp => ¬ hasA s kp) (2 ^ sD s - 1) d) (2 ^ d)) : Nat) : Int))]) (rcv := 0) (q := (RX7, TX7, 20)) (ci := 7) dX7_core_80 okX7_hasAnswerBySteps lk_X7_257 ovX7_hasAnswerBySteps.1.1 ovX7_hasAnswerBySteps.1.2 ovX7_hasAnswerBySteps.2 (by decide) rfl rfl ltc_0 shc_0 rfl (Nat.le_of_ble_eq_true rfl) (Nat.le_of_ble_eq_true rfl) (s7_hasAnswerBySteps s τ hC h0 hw ((andN (lessS (fun kp => ¬ hasA s kp) (2 ^ sD s - 1) d) (2 ^ d))) (by omega)) (fun v_ m_ hp_ => ?_) rfl
      obtain ⟨_, τ2, rfl, rfl, rfl, hS1, hJ1⟩ := hp_
      have hC := hC.scr hS1 hJ1
      have hK := fun c (h : 272 ≤ c) => (hS1 c (nSC2 h)).trans (hK c h)
      obtain ⟨hk1, hk2, hk3, hk4, hk5, hk6, hk7, hk8, hk9⟩ := id hC
      have hU := hk1.1
      have hN := hk2.1
      have hD := hk4.1
      have hM := hk7.1
      have hQ := hk5.1
      show Ev g mX7_core 83 [some (vR (0)), some (vI (((lessS (fun kp => ¬ hasA s kp) (2 ^ sD s - 1) d : Nat) : Int))), some (vI (((d : Nat) : Int))), some (vI ((((andN (lessS (fun kp => ¬ hasA s kp) (2 ^ sD s - 1) d) (2 ^ d)) : Nat) : Int)))] [vI (bI (hasA s ((andN (lessS (fun kp => ¬ hasA s kp) (2 ^ sD s - 1) d) (2 ^ d)))))] (M0 (τ2)) 0 0 _
      refine Ev.if_ne (tgt := 88) bI_inR dX7_core_83 (by decide) (fun h83 => ?_) (fun h83 => ?_)
      · skip
        have q83 := bI_1.mp h83
        refine Ev.iinc (pl' := [some (vR (0)), some (vI (((lessS (fun kp => ¬ hasA s kp) (2 ^ sD s - 1) d : Nat) : Int))), some (vI (((d : Nat) : Int) + 1)), some (vI ((((andN (lessS (fun kp => ¬ hasA s kp) (2 ^ sD s - 1) d) (2 ^ d)) : Nat) : Int)))]) dX7_core_88 rfl (Nat.le_of_ble_eq_true rfl) rfl ?_
        refine Ev.goto (tgt := 59) dX7_core_91 (by decide) ?_
        refine Ev.wk (pl' := [some (vR (0)), some (vI (((lessS (fun kp => ¬ hasA s kp) (2 ^ sD s - 1) (d + 1) : Nat) : Int))), some (vI ((((d + 1) : Nat) : Int))), none]) ⟨rfl, ⟨vIe (by first | rw [lessS_y (P := fun kp => ¬ hasA s kp) q83] | rw [lessS_n (P := fun kp => ¬ hasA s kp) (fun z => z q83)]), ⟨vIe (by omega), trivial⟩⟩⟩ ?_
        exact ih (d + 1) (by omega) τ2 hC hK
      · skip
        have q83 := bI_0.mp h83
        refine Ev.iload_n dX7_core_86 rfl rfl ?_
        refine Ev.istore_n (pl' := [some (vR (0)), some (vI ((((andN (lessS (fun kp => ¬ hasA s kp) (2 ^ sD s - 1) d) (2 ^ d)) : Nat) : Int))), some (vI (((d : Nat) : Int))), some (vI ((((andN (lessS (fun kp => ¬ hasA s kp) (2 ^ sD s - 1) d) (2 ^ d)) : Nat) : Int)))]) dX7_core_87 rfl (Nat.le_of_ble_eq_true rfl) rfl ?_
        refine Ev.iinc (pl' := [some (vR (0)), some (vI ((((andN (lessS (fun kp => ¬ hasA s kp) (2 ^ sD s - 1) d) (2 ^ d)) : Nat) : Int))), some (vI (((d : Nat) : Int) + 1)), some (vI ((((andN (lessS (fun kp => ¬ hasA s kp) (2 ^ sD s - 1) d) (2 ^ d)) : Nat) : Int)))]) dX7_core_88 rfl (Nat.le_of_ble_eq_true rfl) rfl ?_
        refine Ev.goto (tgt := 59) dX7_core_91 (by decide) ?_
        refine Ev.wk (pl' := [some (vR (0)), some (vI (((lessS (fun kp => ¬ hasA s kp) (2 ^ sD s - 1) (d + 1) : Nat) : Int))), some (vI ((((d + 1) : Nat) : Int))), none]) ⟨rfl, ⟨vIe (by first | rw [lessS_y (P := fun kp => ¬ hasA s kp) q83] | rw [lessS_n (P := fun kp => ¬ hasA s kp) (fun z => z q83)]), ⟨vIe (by omega), trivial⟩⟩⟩ ?_
        exact ih (d + 1) (by omega) τ2 hC hK

set_option maxRecDepth 100000 in
set_option maxHeartbeats 4000000 in
theorem c_core {g : GC} (s : SS) (σ : Sg) (hC : CI s σ) : Ev g mX7_core 0 [some (vR (0)), none, none, none] [] (M0 (σ)) 0 0 (retE (CP σ (o_core s))) := by
  obtain ⟨hk1, hk2, hk3, hk4, hk5, hk6, hk7, hk8, hk9⟩ := id hC
  have hU := hk1.1
  have hN := hk2.1
  have hD := hk4.1
  have hM := hk7.1
  have hQ := hk5.1
  have hdl := dlt hD
  refine Ev.aload_n dX7_core_0 rfl rfl ?_
  refine Ev.iconst dX7_core_1 ?_
  refine Ev.callV_G (M2 := mX7_narrowToldBySteps) (args2 := [vI (0)]) (rcv := 0) (q := (RX7, TX7, 20)) (ci := 7) dX7_core_2 okX7_narrowToldBySteps lk_X7_224 ovX7_narrowToldBySteps.1.1 ovX7_narrowToldBySteps.1.2 ovX7_narrowToldBySteps.2 (by decide) rfl rfl ltc_0 shc_0 rfl (Nat.le_of_ble_eq_true rfl) (Nat.le_of_ble_eq_true rfl) (s7_narrowToldBySteps s σ hC 0 (by decide)) (fun v_ m_ hp_ => ?_) rfl
  obtain ⟨_, τ, rfl, rfl, rfl, hS1, hJ1, hX1⟩ := hp_
  have hc0 : cutT s 0 = sG s := cutS_0 s (sD s)
  rw [hc0] at hX1 ⊢
  have hC := hC.scr hS1 hJ1
  have hK : ∀ c, 272 ≤ c → τ c = σ c := fun c h => hS1 c (nSC2 h)
  obtain ⟨hk1, hk2, hk3, hk4, hk5, hk6, hk7, hk8, hk9⟩ := id hC
  have hU := hk1.1
  have hN := hk2.1
  have hD := hk4.1
  have hM := hk7.1
  have hQ := hk5.1
  show Ev g mX7_core 5 [some (vR (0)), none, none, none] [vI (bI (AL s (sG s)))] (M0 (τ)) 0 0 _
  refine Ev.if_ne (tgt := 14) bI_inR dX7_core_5 (by decide) (fun h5 => ?_) (fun h5 => ?_)
  · skip
    have q5 := bI_1.mp h5
    refine Ev.aload_n dX7_core_14 rfl rfl ?_
    refine Ev.aload_n dX7_core_15 rfl rfl ?_
    refine gf_X7_45 rfl dX7_core_16 ltc_0 shc_0 rfc_0_18 ?_
    refine Ev.iconst dX7_core_19 ?_
    refine Ev.callV_G (M2 := mX7_countWays) (args2 := [vR (24), vI (-1)]) (rcv := 0) (q := (RX7, TX7, 20)) (ci := 7) dX7_core_20 okX7_countWays lk_X7_253 ovX7_countWays.1.1 ovX7_countWays.1.2 ovX7_countWays.2 (by decide) rfl rfl ltc_0 shc_0 rfl (Nat.le_of_ble_eq_true rfl) (Nat.le_of_ble_eq_true rfl) (s7_countWays τ (sU s) hU hk1.2.1 (NX s (sG s)) 24 ltc_24 shc_24 (hX1 q5) (-1) (fun _ => true) m1_bits) (fun v_ m_ hp_ => ?_) rfl
    obtain ⟨_, σ_, rfl, rfl, he_, n, rfl, hn1, hn2, hn3⟩ := hp_
    subst σ_
    rw [wysB_all] at hn3
    show Ev g mX7_core 23 [some (vR (0)), none, none, none] [vI (((n : Nat) : Int))] (M0 (τ)) 0 0 _
    refine Ev.sipush (n := 20000) (by decide) dX7_core_23 ?_
    refine Ev.icmp_le (tgt := 32) ⟨by omega, by omega⟩ ⟨by decide, by decide⟩ dX7_core_26 (by decide) (fun h26 => ?_) (fun h26 => ?_)
    · skip
      refine Ev.aload_n dX7_core_32 rfl rfl ?_
      refine gf_X7_25 rfl dX7_core_33 ltc_0 shc_0 rfc_0_7 ?_
      refine Ev.callV_I (M2 := mX5_all) (args2 := []) (rcv := 4) (q := (RX5, TX5, 4)) (ci := 5) dX7_core_36 okX5_all lk_X7_214 ovX5_all.1.1 ovX5_all.1.2 ovX5_all.2 (by decide) rfl rfl ltc_4 shc_4 rfl (Nat.le_of_ble_eq_true rfl) (Nat.le_of_ble_eq_true rfl) (s5_all τ (sD s) hk4.2.1 hD) ?_ rfl
      refine Ev.istore_n (pl' := [some (vR (0)), some (vI ((((2 ^ sD s - 1) : Nat) : Int))), none, none]) dX7_core_39 rfl (Nat.le_of_ble_eq_true rfl) rfl ?_
      refine Ev.aload_n dX7_core_40 rfl rfl ?_
      refine Ev.iload_n dX7_core_41 rfl rfl ?_
      refine Ev.callV_G (M2 := mX7_hasAnswerBySteps) (args2 := [vI ((((2 ^ sD s - 1) : Nat) : Int))]) (rcv := 0) (q := (RX7, TX7, 20)) (ci := 7) dX7_core_42 okX7_hasAnswerBySteps lk_X7_257 ovX7_hasAnswerBySteps.1.1 ovX7_hasAnswerBySteps.1.2 ovX7_hasAnswerBySteps.2 (by decide) rfl rfl ltc_0 shc_0 rfl (Nat.le_of_ble_eq_true rfl) (Nat.le_of_ble_eq_true rfl) (s7_hasAnswerBySteps s τ hC q5 (by omega) ((2 ^ sD s - 1)) (by omega)) (fun v_ m_ hp_ => ?_) rfl
      obtain ⟨_, τ2, rfl, rfl, rfl, hS1, hJ1⟩ := hp_
      have hC := hC.scr hS1 hJ1
      have hK := fun c (h : 272 ≤ c) => (hS1 c (nSC2 h)).trans (hK c h)
      obtain ⟨hk1, hk2, hk3, hk4, hk5, hk6, hk7, hk8, hk9⟩ := id hC
      have hU := hk1.1
      have hN := hk2.1
      have hD := hk4.1
      have hM := hk7.1
      have hQ := hk5.1
      show Ev g mX7_core 45 [some (vR (0)), some (vI ((((2 ^ sD s - 1) : Nat) : Int))), none, none] [vI (bI (hasA s ((2 ^ sD s - 1))))] (M0 (τ2)) 0 0 _
      refine Ev.if_eq (tgt := 57) bI_inR dX7_core_45 (by decide) (fun h45 => ?_) (fun h45 => ?_)
      · skip
        have q45 := bI_0.mp h45
        refine Ev.iconst dX7_core_57 ?_
        refine Ev.istore_n (pl' := [some (vR (0)), some (vI ((((2 ^ sD s - 1) : Nat) : Int))), some (vI (0)), none]) dX7_core_58 rfl (Nat.le_of_ble_eq_true rfl) rfl ?_
        refine Ev.wk (pl' := [some (vR (0)), some (vI (((lessS (fun kp => ¬ hasA s kp) (2 ^ sD s - 1) 0 : Nat) : Int))), some (vI (((0 : Nat) : Int))), none]) ⟨rfl, ⟨vIe rfl, ⟨vIe rfl, trivial⟩⟩⟩ ?_
        exact c_core_l s σ q5 (by omega) q45 (sD s) 0 (by omega) τ2 hC hK
      · skip
        have q45 := bI_1.mp h45
        refine Ev.aload_n dX7_core_48 rfl rfl ?_
        refine Ev.iconst dX7_core_49 ?_
        refine Ev.callV_G (M2 := mX7_keepReasons) (args2 := [vI (0)]) (rcv := 0) (q := (RX7, TX7, 20)) (ci := 7) dX7_core_50 okX7_keepReasons lk_X7_221 ovX7_keepReasons.1.1 ovX7_keepReasons.1.2 ovX7_keepReasons.2 (by decide) rfl rfl ltc_0 shc_0 rfl (Nat.le_of_ble_eq_true rfl) (Nat.le_of_ble_eq_true rfl) (s7_keepReasons s τ2 hC 0 (by decide)) (fun v_ m_ hp_ => ?_) rfl
        obtain ⟨_, ρ, rfl, rfl, rfl, hR⟩ := hp_
        show Ev g mX7_core 53 [some (vR (0)), some (vI ((((2 ^ sD s - 1) : Nat) : Int))), none, none] [vI (((popN (sD s) 0 : Nat) : Int))] (M0 (ρ)) 0 0 _
        refine Ev.popI dX7_core_53 ?_
        refine Ev.bipush (n := -9) (by decide) dX7_core_54 ?_
        exact Ev.ireturn dX7_core_56 rfl (rE (by unfold CP o_core; (repeat rw [Int.toNat_natCast]); rw [ifP_f (fun z => z q5), ifP_f (by omega), ifP_t q45]; exact ⟨rfl, (hC.rsn hR), (fun c q1 => (hR.kp c q1).trans (hK c q1))⟩))
    · skip
      refine Ev.bipush (n := -5) (by decide) dX7_core_29 ?_
      exact Ev.ireturn dX7_core_31 rfl (rE (by unfold CP o_core; (repeat rw [Int.toNat_natCast]); rw [ifP_f (fun z => z q5), ifP_t (by omega)]; exact ⟨rfl, hC, hK⟩))
  · skip
    have q5 := bI_0.mp h5
    refine Ev.aload_n dX7_core_8 rfl rfl ?_
    refine Ev.iconst dX7_core_9 ?_
    refine Ev.callV_G (M2 := mX7_keepReasons) (args2 := [vI (0)]) (rcv := 0) (q := (RX7, TX7, 20)) (ci := 7) dX7_core_10 okX7_keepReasons lk_X7_221 ovX7_keepReasons.1.1 ovX7_keepReasons.1.2 ovX7_keepReasons.2 (by decide) rfl rfl ltc_0 shc_0 rfl (Nat.le_of_ble_eq_true rfl) (Nat.le_of_ble_eq_true rfl) (s7_keepReasons s τ hC 0 (by decide)) (fun v_ m_ hp_ => ?_) rfl
    obtain ⟨_, ρ, rfl, rfl, rfl, hR⟩ := hp_
    show Ev g mX7_core 13 [some (vR (0)), none, none, none] [vI (((popN (sD s) 0 : Nat) : Int))] (M0 (ρ)) 0 0 _
    exact Ev.ireturn dX7_core_13 rfl (rE (by unfold CP o_core; (repeat rw [Int.toNat_natCast]); rw [ifP_t q5]; exact ⟨(by rw [popN_0]; rfl), (hC.rsn hR), (fun c q1 => (hR.kp c q1).trans (hK c q1))⟩))

