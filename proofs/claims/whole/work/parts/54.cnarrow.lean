/-! THE CLASS: narrow, takes, step, undo, range -/
theorem nSC2 {c : Nat} (h : 272 ≤ c) : c ∉ SC := by simp [SC]; omega
theorem WK_SC {σ τ : Sg} (h : Same WK σ τ) : Same SC σ τ := h.wide fun c hc => by simp at hc; rcases hc with rfl | rfl | rfl | rfl | rfl <;> decide
theorem LK_SC {σ τ : Sg} (h : Same LK σ τ) : Same SC σ τ := h.wide fun c hc => by simp at hc; rcases hc with rfl | rfl | rfl | rfl <;> decide
theorem cpS {L : List Nat} {σ : Sg} {a b : Nat} (h : b ∈ L) : Same L σ (cpy σ a b 0 0 10) := fun c hc => cpy_ne (fun e => hc (by rw [e]; exact h))
theorem cp_at {ρ : Sg} {a b x : Nat} (h : x < 10) : cpy ρ a b 0 0 10 b x = ρ a x := by rw [cpy_in (by omega) (by omega)]; congr 1; omega
theorem cp_av {ρ : Sg} {a b U : Nat} {X : Rg} (hU : U ≤ 10) (h : AV ρ a U X) : AV (cpy ρ a b 0 0 10) b U X := fun x hx => ⟨(cp_at (by omega)).trans (h x hx).1, (h x hx).2⟩
theorem k2.on {σ : Sg} {U n w r : Nat} {Rf : Nat → RC} (h : k2 σ U n Rf w) (hb : w.testBit r = true) : CR σ r (Rf r) ∧ WR U (Rf r) := h.2.2.2.2.1 r (bit_cap h.2.2.2.1 hb)
theorem CI.sy {s : SS} {σ : Sg} (h : CI s σ) : SyOk (sU s) (sS s) := fun r _ hon => (h.2.1.on hon).2
theorem hr3 : ∀ r, r < 16 → rho0 3 r = some (26 + 4 * (0 + r)) := fun r h => by rw [Nat.zero_add]; exact rf_rule h
theorem hr22 : ∀ r, r < 40 → rho0 22 r = some (26 + 4 * (16 + r)) := fun r h => rf_line h
theorem c_run {g : GC} {s : SS} {ρ : Sg} (hC : CI s ρ) (X0 : Rg) (hX : AV ρ 24 (sU s) X0) : Ev g mX2_run 0 [some (vR (260)), some (vR (24)), some (vR (3)), some (vL (((sW s : Nat) : Int))), none, none, none, none, none, none, none, none, none] [] (M0 ρ) 0 0 (retE (RunP ρ (sU s) (sB s) (sS s) X0)) := by
  obtain ⟨hk1, hk2, hk3, _, _, _, _, _, hk9⟩ := id hC
  exact s2_run ρ (sU s) (sB s) hk3 3 0 16 ltc_3 shc_3 hr3 (by decide) (sR s) (sW s) (Nat.lt_of_lt_of_le (w16 hk2.2.2.2.1 hk2.1) (by decide)) (fun r _ hb => by rw [Nat.zero_add]; exact hk2.on hb) hk1.1 X0 hX hk9
theorem CI.cp24 {s : SS} {σ : Sg} {a : Nat} (h : CI s σ) : CI s (cpy σ a 24 0 0 10) := h.scr (cpS (by decide)) ((congrFun (cpy_ne (by decide)) 0).trans h.2.2.2.2.2.2.2.2)
theorem av_set2 {σ τ : Sg} {c U x v : Nat} {X : Rg} (h : AV σ c U X) (hv : v ≠ 0 ∧ v < 65536) (e : ∀ i, τ c i = upC σ c x (v : Int) c i) : AV τ c U (upY X x v) := fun y hy => by
  rw [e y]
  by_cases ey : y = x
  · rw [ey, upC_at, upY_at]; exact ⟨rfl, hv⟩
  · rw [upC_self ey, upY_ne ey]; exact h y hy
theorem k4_step {σ τ : Sg} {U d x z : Nat} {o p : Nat → Nat} {h : Nat → Rg} {X : Rg} (hk : k4 σ U d o p h) (hd : d < 12) (hx : x < U) (hz : z < 65536) (hX : AV σ 2 U X) (e0 : τ 4 0 = ((d + 1 : Nat) : Int)) (e5 : ∀ i, τ 5 i = upC σ 5 d (x : Int) 5 i) (e6 : ∀ i, τ 6 i = upC σ 6 d (z : Int) 6 i) (e8 : ∀ c, 8 ≤ c → c < 20 → c ≠ 8 + d → τ c = σ c) (e2 : ∀ x, x < U → τ (8 + d) x = σ 2 x) : k4 τ U (d + 1) (updF o d x) (updF p d z) (updF h d X) := by
  refine ⟨by omega, e0, fun k hk2 => ?_⟩
  rw [e5 k, e6 k]
  by_cases e : k = d
  · subst e
    rw [upC_at, upC_at, updF_at, updF_at, updF_at]
    exact ⟨rfl, hx, rfl, hz, fun y hy => ⟨(e2 y hy).trans (hX y hy).1, (hX y hy).2⟩⟩
  · rw [upC_self e, upC_self e, updF_ne e, updF_ne e, updF_ne e]
    obtain ⟨h1, h2, h3, h4, h5⟩ := hk.2.2 k (by omega)
    exact ⟨h1, h2, h3, h4, h5.cg fun y _ => by rw [e8 (8 + k) (by omega) (by omega) (by omega)]⟩
theorem k4_undo {σ τ : Sg} {U d d' : Nat} {o p : Nat → Nat} {h : Nat → Rg} (hk : k4 σ U d o p h) (hd : d' ≤ d) (e0 : τ 4 0 = (d' : Int)) (e : ∀ c, 5 ≤ c → c < 20 → c ≠ 7 → τ c = σ c) : k4 τ U d' o p h := by
  refine ⟨by have := hk.1; omega, e0, fun k hk2 => ?_⟩
  obtain ⟨h1, h2, h3, h4, h5⟩ := hk.2.2 k (by omega)
  rw [e 5 (by omega) (by omega) (by omega), e 6 (by omega) (by omega) (by omega)]
  exact ⟨h1, h2, h3, h4, h5.cg fun y _ => by rw [e (8 + k) (by omega) (by have := hk.1; omega) (by omega)]⟩
set_option maxRecDepth 100000 in
set_option maxHeartbeats 4000000 in
theorem c_narrow_l {g : GC} (s : SS) (σ : Sg) (hC : CI s σ) (σ0 : Sg) (hK : ∀ c, 272 ≤ c → σ c = σ0 c) (hal : AL s (sX s)) (hXw : AV σ 24 (sU s) (NX s (sX s))) : ∀ j x : Nat, x + j = sU s → Ev g mX7_narrow 40 [some (vR (0)), some (vI (((totP x (sX s) : Nat) : Int) - ((totP x (NX s (sX s)) : Nat) : Int))), some (vI (((x : Nat) : Int)))] [] (M0 (σ)) 0 0 (retE (CP σ0 (o_narrow s))) := by
  intro j
  induction j with
  | zero =>
    intro x hij
    obtain ⟨hk1, hk2, hk3, hk4, hk5, hk6, hk7, hk8, hk9⟩ := id hC
    have hU := hk1.1
    have hN := hk2.1
    have hD := hk4.1
    have hM := hk7.1
    have hQ := hk5.1
    refine Ev.iload_n dX7_narrow_40 rfl rfl ?_
    refine Ev.aload_n dX7_narrow_41 rfl rfl ?_
    refine gf_X7_88 (x := ((sU s : Nat) : Int)) rfl dX7_narrow_42 ltc_0 shc_0 hk1.2.1 ?_
    refine Ev.icmp_ge (tgt := 75) ⟨by omega, by omega⟩ ⟨by omega, by omega⟩ dX7_narrow_45 (by decide) (fun h45 => ?_) (fun h45 => ?_)
    · skip
      refine Ev.aload_n dX7_narrow_75 rfl rfl ?_
      refine gf_X7_45 rfl dX7_narrow_76 ltc_0 shc_0 rfc_0_18 ?_
      refine Ev.aload_n dX7_narrow_79 rfl rfl ?_
      refine gf_X7_13 rfl dX7_narrow_80 ltc_0 shc_0 rfc_0_1 ?_
      refine Ev.callS_V (M2 := mX7_bring) (args2 := [vR (24), vR (2)]) dX7_narrow_83 okX7_bring lk_X7_187 osX7_bring.1 osX7_bring.2 (by decide) rfl (Nat.le_of_ble_eq_true rfl) (Nat.le_of_ble_eq_true rfl) (s7_bring σ 24 2 ltc_24 shc_24 ltc_2 shc_2) ?_ rfl
      refine Ev.iload_n dX7_narrow_86 rfl rfl ?_
      exact Ev.ireturn dX7_narrow_87 rfl (rE (by unfold CP o_narrow; (repeat rw [Int.toNat_natCast]); rw [ifP_f (fun z => z hal)]; exact ⟨(by rw [show x = sU s by omega]), ⟨⟨hU, ((congrFun (cpy_ne (by decide)) 2).trans hk1.2.1), (hk1.2.2.1.cg (fun x _ => congrFun ((cpy_ne (by decide)).trans rfl) x)), (cp_av hU hXw)⟩, (hk2.cg ((congrFun (cpy_ne (by decide)) 4).trans rfl) ((congrFun (cpy_ne (by decide)) 5).trans rfl) (fun c q1 q2 => ((cpy_ne (Nat.ne_of_gt (Nat.lt_of_lt_of_le (show 2 < 26 by decide) q1))).trans rfl))), (hk3.cg (fun c q1 q2 => ((cpy_ne (Nat.ne_of_gt (Nat.lt_of_lt_of_le (show 2 < 251 by decide) q1))).trans rfl))), (hk4.cg (fun c q1 q2 _ => ((cpy_ne (Nat.ne_of_gt (Nat.lt_of_lt_of_le (show 2 < 4 by decide) q1))).trans rfl))), (hk5.cg ((congrFun (cpy_ne (by decide)) 9).trans rfl) ((cpy_ne (by decide)).trans rfl)), (hk6.cg ((congrFun (cpy_ne (by decide)) 11).trans rfl) ((cpy_ne (by decide)).trans rfl)), (hk7.cg ((congrFun (cpy_ne (by decide)) 14).trans rfl) ((cpy_ne (by decide)).trans rfl) (fun c q1 q2 => ((cpy_ne (Nat.ne_of_gt (Nat.lt_of_lt_of_le (show 2 < 90 by decide) q1))).trans rfl))), ((congrFun (cpy_ne (by decide)) 15).trans hk8), ((congrFun (cpy_ne (by decide)) 0).trans hk9)⟩, (fun c q1 => ((cpy_ne (Nat.ne_of_gt (Nat.lt_of_lt_of_le (show 2 < 272 by decide) q1))).trans (hK c q1)))⟩))
    · exact absurd h45 (by omega)
  | succ j ih =>
    intro x hij
    obtain ⟨hk1, hk2, hk3, hk4, hk5, hk6, hk7, hk8, hk9⟩ := id hC
    have hU := hk1.1
    have hN := hk2.1
    have hD := hk4.1
    have hM := hk7.1
    have hQ := hk5.1
    have hxl := (hk1.2.2.2 x (by omega)).2.2
    have hnl := (hXw x (by omega)).2.2
    have ht1 : totP (x + 1) (sX s) = totP x (sX s) + pop (sX s x) := rfl
    have ht2 : totP (x + 1) (NX s (sX s)) = totP x (NX s (sX s)) + pop ((NX s (sX s)) x) := rfl
    have ht3 : pop (andN (sX s x) ((NX s (sX s)) x)) + pop ((NX s (sX s)) x) = pop (sX s x) := popN_andN (hal.ok.1.2.1 x (show x < sU s by omega)) 16
    refine Ev.iload_n dX7_narrow_40 rfl rfl ?_
    refine Ev.aload_n dX7_narrow_41 rfl rfl ?_
    refine gf_X7_88 (x := ((sU s : Nat) : Int)) rfl dX7_narrow_42 ltc_0 shc_0 hk1.2.1 ?_
    refine Ev.icmp_ge (tgt := 75) ⟨by omega, by omega⟩ ⟨by omega, by omega⟩ dX7_narrow_45 (by decide) (fun h45 => ?_) (fun h45 => ?_)
    · exact absurd h45 (by omega)
    · skip
      refine Ev.iload_n dX7_narrow_48 rfl rfl ?_
      refine Ev.aload_n dX7_narrow_49 rfl rfl ?_
      refine gf_X7_13 rfl dX7_narrow_50 ltc_0 shc_0 rfc_0_1 ?_
      refine Ev.iload_n dX7_narrow_53 rfl rfl ?_
      refine Ev.iaload (v := ((sX s x : Nat) : Int)) dX7_narrow_54 ltc_2 shc_2 (by decide) (by omega) (by omega) (ldx rfl (hk1.2.2.2 x (by omega)).1) ?_
      refine Ev.aload_n dX7_narrow_55 rfl rfl ?_
      refine gf_X7_45 rfl dX7_narrow_56 ltc_0 shc_0 rfc_0_18 ?_
      refine Ev.iload_n dX7_narrow_59 rfl rfl ?_
      refine Ev.iaload (v := ((NX s (sX s) x : Nat) : Int)) dX7_narrow_60 ltc_24 shc_24 (by decide) (by omega) (by omega) (ldx rfl (hXw x (by omega)).1) ?_
      refine Ev.iconst dX7_narrow_61 ?_
      refine Ev.ixor dX7_narrow_62 ?_
      rw [show (iXor (((NX s (sX s) x : Nat) : Int)) (-1)) = (-(((NX s (sX s)) x : Nat) : Int) - 1) from iXor_m1 (by omega)]
      refine Ev.iand dX7_narrow_63 ?_
      rw [show (iAnd (((sX s x : Nat) : Int)) ((-(((NX s (sX s)) x : Nat) : Int) - 1))) = ((andN (sX s x) ((NX s (sX s)) x) : Nat) : Int) from iAnd_not (by omega)]
      refine Ev.callS_I (M2 := mJ6_bitCount_0f7a4) (args2 := [vI (((andN (sX s x) ((NX s (sX s)) x) : Nat) : Int))]) dX7_narrow_64 okJ6_bitCount_0f7a4 lk_X7_101 osJ6_bitCount_0f7a4.1 osJ6_bitCount_0f7a4.2 (by decide) rfl (Nat.le_of_ble_eq_true rfl) (Nat.le_of_ble_eq_true rfl) (sJ_bitCount σ (andN (sX s x) ((NX s (sX s)) x)) (andN_lt hxl)) ?_ rfl
      refine Ev.iadd dX7_narrow_67 ?_
      refine Ev.istore_n (pl' := [some (vR (0)), some (vI ((((totP x (sX s) : Nat) : Int) - ((totP x (NX s (sX s)) : Nat) : Int) + ((pop (andN (sX s x) ((NX s (sX s)) x)) : Nat) : Int)))), some (vI (((x : Nat) : Int)))]) dX7_narrow_68 rfl (Nat.le_of_ble_eq_true rfl) rfl ?_
      refine Ev.iinc (pl' := [some (vR (0)), some (vI ((((totP x (sX s) : Nat) : Int) - ((totP x (NX s (sX s)) : Nat) : Int) + ((pop (andN (sX s x) ((NX s (sX s)) x)) : Nat) : Int)))), some (vI (((x : Nat) : Int) + 1))]) dX7_narrow_69 rfl (Nat.le_of_ble_eq_true rfl) rfl ?_
      refine Ev.goto (tgt := 40) dX7_narrow_72 (by decide) ?_
      refine Ev.wk (pl' := [some (vR (0)), some (vI (((totP (x + 1) (sX s) : Nat) : Int) - ((totP (x + 1) (NX s (sX s)) : Nat) : Int))), some (vI ((((x + 1) : Nat) : Int)))]) ⟨rfl, ⟨vIe (by omega), ⟨vIe (by omega), trivial⟩⟩⟩ ?_
      exact ih (x + 1) (by omega)

set_option maxRecDepth 100000 in
set_option maxHeartbeats 4000000 in
theorem c_narrow {g : GC} (s : SS) (σ : Sg) (hC : CI s σ) : Ev g mX7_narrow 0 [some (vR (0)), none, none] [] (M0 (σ)) 0 0 (retE (CP σ (o_narrow s))) := by
  obtain ⟨hk1, hk2, hk3, hk4, hk5, hk6, hk7, hk8, hk9⟩ := id hC
  have hU := hk1.1
  have hN := hk2.1
  have hD := hk4.1
  have hM := hk7.1
  have hQ := hk5.1
  refine Ev.aload_n dX7_narrow_0 rfl rfl ?_
  refine gf_X7_13 rfl dX7_narrow_1 ltc_0 shc_0 rfc_0_1 ?_
  refine Ev.aload_n dX7_narrow_4 rfl rfl ?_
  refine gf_X7_45 rfl dX7_narrow_5 ltc_0 shc_0 rfc_0_18 ?_
  refine Ev.callS_V (M2 := mX7_bring) (args2 := [vR (2), vR (24)]) dX7_narrow_8 okX7_bring lk_X7_187 osX7_bring.1 osX7_bring.2 (by decide) rfl (Nat.le_of_ble_eq_true rfl) (Nat.le_of_ble_eq_true rfl) (s7_bring σ 2 24 ltc_2 shc_2 ltc_24 shc_24) ?_ rfl
  obtain ⟨ρ, hρ⟩ : ∃ ρ : Sg, ρ = cpy (σ) 2 24 0 0 10 := ⟨_, rfl⟩
  refine Ev.mem (τ := ρ) hρ.symm ?_
  have hSρ : Same SC σ ρ := by rw [hρ]; exact cpS (by decide)
  have hCρ : CI s ρ := by rw [hρ]; exact hC.cp24
  have hX24 : AV ρ 24 (sU s) (sX s) := by rw [hρ]; exact cp_av hU hk1.2.2.2
  have hC := hCρ
  obtain ⟨hk1, hk2, hk3, hk4, hk5, hk6, hk7, hk8, hk9⟩ := id hC
  have hU := hk1.1
  have hN := hk2.1
  have hD := hk4.1
  have hM := hk7.1
  have hQ := hk5.1
  refine Ev.aload_n dX7_narrow_11 rfl rfl ?_
  refine gf_X7_72 rfl dX7_narrow_12 ltc_0 shc_0 rfc_0_16 ?_
  refine Ev.aload_n dX7_narrow_15 rfl rfl ?_
  refine gf_X7_45 rfl dX7_narrow_16 ltc_0 shc_0 rfc_0_18 ?_
  refine Ev.aload_n dX7_narrow_19 rfl rfl ?_
  refine gf_X7_18 rfl dX7_narrow_20 ltc_0 shc_0 rfc_0_3 ?_
  refine Ev.aload_n dX7_narrow_23 rfl rfl ?_
  refine gf_X7_118 (x := ((sW s : Nat) : Int)) rfl dX7_narrow_24 ltc_0 shc_0 hk2.2.2.1 ?_
  refine Ev.callV_G (M2 := mX2_run) (args2 := [vR (24), vR (3), vL (((sW s : Nat) : Int))]) (rcv := 260) (q := (RX2, TX2, 2)) (ci := 2) dX7_narrow_27 okX2_run lk_X7_191 ovX2_run.1.1 ovX2_run.1.2 ovX2_run.2 (by decide) rfl rfl ltc_260 shc_260 rfl (Nat.le_of_ble_eq_true rfl) (Nat.le_of_ble_eq_true rfl) (c_run hC (sX s) hX24) (fun v_ m_ hp_ => ?_) rfl
  obtain ⟨_, τ, rfl, rfl, rfl, hF1, hJ1, hX1⟩ := hp_
  have hS1 : Same SC σ τ := hSρ.tr (WK_SC hF1)
  have hC := hC.scr (WK_SC hF1) hJ1
  have hK : ∀ c, 272 ≤ c → τ c = σ c := fun c h => hS1 c (nSC2 h)
  obtain ⟨hk1, hk2, hk3, hk4, hk5, hk6, hk7, hk8, hk9⟩ := id hC
  have hU := hk1.1
  have hN := hk2.1
  have hD := hk4.1
  have hM := hk7.1
  have hQ := hk5.1
  show Ev g mX7_narrow 30 [some (vR (0)), none, none] [vI (bI (AL s (sX s)))] (M0 (τ)) 0 0 _
  refine Ev.if_ne (tgt := 36) bI_inR dX7_narrow_30 (by decide) (fun h30 => ?_) (fun h30 => ?_)
  · skip
    have q30 := bI_1.mp h30
    refine Ev.iconst dX7_narrow_36 ?_
    refine Ev.istore_n (pl' := [some (vR (0)), some (vI (0)), none]) dX7_narrow_37 rfl (Nat.le_of_ble_eq_true rfl) rfl ?_
    refine Ev.iconst dX7_narrow_38 ?_
    refine Ev.istore_n (pl' := [some (vR (0)), some (vI (0)), some (vI (0))]) dX7_narrow_39 rfl (Nat.le_of_ble_eq_true rfl) rfl ?_
    refine Ev.wk (pl' := [some (vR (0)), some (vI (((totP 0 (sX s) : Nat) : Int) - ((totP 0 (NX s (sX s)) : Nat) : Int))), some (vI (((0 : Nat) : Int)))]) ⟨rfl, ⟨vIe rfl, ⟨vIe rfl, trivial⟩⟩⟩ ?_
    exact c_narrow_l s τ hC σ hK q30 (hX1 q30) (sU s) 0 (by omega)
  · skip
    have q30 := bI_0.mp h30
    refine Ev.bipush (n := -3) (by decide) dX7_narrow_33 ?_
    exact Ev.ireturn dX7_narrow_35 rfl (rE (by unfold CP o_narrow; (repeat rw [Int.toNat_natCast]); rw [ifP_t q30]; exact ⟨rfl, hC, hK⟩))

set_option maxRecDepth 100000 in
set_option maxHeartbeats 4000000 in
theorem s2_ct_l {g : GC} (σ : Sg) (r U : Nat) (R : RC) (hr : r < 56) (hM : CR σ r R) (hW : WR U R) (X : Rg) (rg : Nat) (hg : rg < 298) (hgs : sh0 rg = (1, 10)) (hgn : rg ∉ LK) (hX : AV σ rg U X) (T : Tb) (τ : Sg) (hL : Looked σ T R X τ) : ∀ j x : Nat, x + j = 10 → Ev g mX2_countTaken 14 [some (vR (260)), some (vR (26 + 4 * r)), some (vR (rg)), some (vI (((totP x (gU T R X (rN R)) : Nat) : Int))), some (vI (((x : Nat) : Int)))] [] (M0 (τ)) 0 0 (retE (fun v τ => v = ((totP 10 (gU T R X (rN R)) : Nat) : Int) ∧ Same LK σ τ ∧ τ 263 0 = 0)) := by
  intro j
  induction j with
  | zero =>
    intro x hij
    obtain ⟨hK, hS, hB, hN, hE, hP⟩ := id hM
    obtain ⟨⟨hk5, hn6, hU⟩, hO, -⟩ := id hW
    have hXR : ∀ k, k < rN R → X (rO R k) ≠ 0 ∧ X (rO R k) < 65536 := fun k hk => (hX _ (hO k hk)).2
    refine Ev.iload dX2_countTaken_14 rfl ?_
    refine Ev.bipush (n := 10) (by decide) dX2_countTaken_16 ?_
    refine Ev.icmp_ge (tgt := 52) ⟨by omega, by omega⟩ ⟨by decide, by decide⟩ dX2_countTaken_18 (by decide) (fun h18 => ?_) (fun h18 => ?_)
    · skip
      refine Ev.iload_n dX2_countTaken_52 rfl rfl ?_
      exact Ev.ireturn dX2_countTaken_53 rfl (rE ⟨by rw [show x = 10 by omega], hL.1, hL.2.1⟩)
    · exact absurd h18 (by omega)
  | succ j ih =>
    intro x hij
    obtain ⟨hK, hS, hB, hN, hE, hP⟩ := id hM
    obtain ⟨⟨hk5, hn6, hU⟩, hO, -⟩ := id hW
    have hXR : ∀ k, k < rN R → X (rO R k) ≠ 0 ∧ X (rO R k) < 65536 := fun k hk => (hX _ (hO k hk)).2
    have ht : totP (x + 1) (gU T R X (rN R)) = totP x (gU T R X (rN R)) + pop ((gU T R X (rN R)) x) := rfl
    have htb := totP_16 x (gU T R X (rN R))
    have hgl : (gU T R X (rN R)) x < 65536 := mk_lt _
    refine Ev.iload dX2_countTaken_14 rfl ?_
    refine Ev.bipush (n := 10) (by decide) dX2_countTaken_16 ?_
    refine Ev.icmp_ge (tgt := 52) ⟨by omega, by omega⟩ ⟨by decide, by decide⟩ dX2_countTaken_18 (by decide) (fun h18 => ?_) (fun h18 => ?_)
    · exact absurd h18 (by omega)
    · skip
      refine Ev.aload_n dX2_countTaken_21 rfl rfl ?_
      refine Ev.iload dX2_countTaken_22 rfl ?_
      refine Ev.callV_I (M2 := mX3_isOf) (args2 := [vI (((x : Nat) : Int))]) (rcv := 26 + 4 * r) (q := (RX3, TX3, 8)) (ci := 3) dX2_countTaken_24 okX3_isOf lk_X2_25 ovX3_isOf.1.1 ovX3_isOf.1.2 ovX3_isOf.2 (by decide) rfl rfl (lt_rc (by omega)) (sh_rc (by omega)) rfl (Nat.le_of_ble_eq_true rfl) (Nat.le_of_ble_eq_true rfl) (s3_isOf τ r U R hr (hM.same hL.1 (fun j hj => nLK (by omega))) hW x (by omega)) ?_ rfl
      refine Ev.if_eq (tgt := 46) bI_inR dX2_countTaken_27 (by decide) (fun h27 => ?_) (fun h27 => ?_)
      · skip
        have q27 := bI_0.mp h27
        have h0 : pop ((gU T R X (rN R)) x) = 0 := by rw [gU_no q27]; rfl
        refine Ev.iinc (pl' := [some (vR (260)), some (vR (26 + 4 * r)), some (vR (rg)), some (vI (((totP x (gU T R X (rN R)) : Nat) : Int))), some (vI (((x : Nat) : Int) + 1))]) dX2_countTaken_46 rfl (Nat.le_of_ble_eq_true rfl) rfl ?_
        refine Ev.goto (tgt := 14) dX2_countTaken_49 (by decide) ?_
        refine Ev.wk (pl' := [some (vR (260)), some (vR (26 + 4 * r)), some (vR (rg)), some (vI (((totP (x + 1) (gU T R X (rN R)) : Nat) : Int))), some (vI ((((x + 1) : Nat) : Int)))]) ⟨rfl, ⟨rfl, ⟨rfl, ⟨vIe (by omega), ⟨vIe (by omega), trivial⟩⟩⟩⟩⟩ ?_
        exact ih (x + 1) (by omega)
      · skip
        have q27 := bI_1.mp h27
        refine Ev.iload_n dX2_countTaken_30 rfl rfl ?_
        refine Ev.aload_n dX2_countTaken_31 rfl rfl ?_
        refine gf_X2_9 rfl dX2_countTaken_32 ltc_260 shc_260 rfc_260_0 ?_
        refine gf_X2_31 rfl dX2_countTaken_35 ltc_261 shc_261 rfc_261_1 ?_
        refine Ev.iload dX2_countTaken_38 rfl ?_
        refine Ev.iaload (v := (((gU T R X (rN R)) x : Nat) : Int)) dX2_countTaken_40 ltc_262 shc_262 (by decide) (by omega) (by omega) (ldx rfl (by obtain ⟨k, z1, z2⟩ := id q27; exact (congrArg (τ 262) z2.symm).trans ((hL.2.2 k z1).trans (by rw [← z2, gU_gn hW z1 (Nat.le_refl _) (hXR k z1).2])))) ?_
        refine Ev.callS_I (M2 := mJ6_bitCount_0f7a4) (args2 := [vI ((((gU T R X (rN R)) x : Nat) : Int))]) dX2_countTaken_41 okJ6_bitCount_0f7a4 lk_X2_35 osJ6_bitCount_0f7a4.1 osJ6_bitCount_0f7a4.2 (by decide) rfl (Nat.le_of_ble_eq_true rfl) (Nat.le_of_ble_eq_true rfl) (sJ_bitCount τ ((gU T R X (rN R)) x) hgl) ?_ rfl
        refine Ev.iadd dX2_countTaken_44 ?_
        refine Ev.istore_n (pl' := [some (vR (260)), some (vR (26 + 4 * r)), some (vR (rg)), some (vI ((((totP x (gU T R X (rN R)) : Nat) : Int) + ((pop ((gU T R X (rN R)) x) : Nat) : Int)))), some (vI (((x : Nat) : Int)))]) dX2_countTaken_45 rfl (Nat.le_of_ble_eq_true rfl) rfl ?_
        refine Ev.iinc (pl' := [some (vR (260)), some (vR (26 + 4 * r)), some (vR (rg)), some (vI ((((totP x (gU T R X (rN R)) : Nat) : Int) + ((pop ((gU T R X (rN R)) x) : Nat) : Int)))), some (vI (((x : Nat) : Int) + 1))]) dX2_countTaken_46 rfl (Nat.le_of_ble_eq_true rfl) rfl ?_
        refine Ev.goto (tgt := 14) dX2_countTaken_49 (by decide) ?_
        refine Ev.wk (pl' := [some (vR (260)), some (vR (26 + 4 * r)), some (vR (rg)), some (vI (((totP (x + 1) (gU T R X (rN R)) : Nat) : Int))), some (vI ((((x + 1) : Nat) : Int)))]) ⟨rfl, ⟨rfl, ⟨rfl, ⟨vIe (by omega), ⟨vIe (by omega), trivial⟩⟩⟩⟩⟩ ?_
        exact ih (x + 1) (by omega)

set_option maxRecDepth 100000 in
set_option maxHeartbeats 4000000 in
theorem s2_countTaken {g : GC} (σ : Sg) (r U : Nat) (R : RC) (hr : r < 56) (hM : CR σ r R) (hW : WR U R) (X : Rg) (rg : Nat) (hg : rg < 298) (hgs : sh0 rg = (1, 10)) (hgn : rg ∉ LK) (hX : AV σ rg U X) (T : Tb) (hT : TVc σ T) (hJ : σ 263 0 = 0) : Ev g mX2_countTaken 0 [some (vR (260)), some (vR (26 + 4 * r)), some (vR (rg)), none, none] [] (M0 (σ)) 0 0 (retE (fun v τ => v = ((totP 10 (gU T R X (rN R)) : Nat) : Int) ∧ Same LK σ τ ∧ τ 263 0 = 0)) := by
  refine Ev.aload_n dX2_countTaken_0 rfl rfl ?_
  refine gf_X2_9 rfl dX2_countTaken_1 ltc_260 shc_260 rfc_260_0 ?_
  refine Ev.aload_n dX2_countTaken_4 rfl rfl ?_
  refine Ev.aload_n dX2_countTaken_5 rfl rfl ?_
  refine Ev.callV_G (M2 := mX1_look) (args2 := [vR (26 + 4 * r), vR (rg)]) (rcv := 261) (q := (RX1, TX1, 5)) (ci := 1) dX2_countTaken_6 okX1_look lk_X2_19 ovX1_look.1.1 ovX1_look.1.2 ovX1_look.2 (by decide) rfl rfl ltc_261 shc_261 rfl (Nat.le_of_ble_eq_true rfl) (Nat.le_of_ble_eq_true rfl) (s1_look σ r U R hr hM hW X rg hg hgs hgn hX T hT hJ) (fun v_ m_ hp_ => ?_) rfl
  obtain ⟨τ, rfl, rfl, hL⟩ := hp_
  show Ev g mX2_countTaken 9 [some (vR (260)), some (vR (26 + 4 * r)), some (vR (rg)), none, none] [] (M0 (τ)) 0 0 _
  refine Ev.iconst dX2_countTaken_9 ?_
  refine Ev.istore_n (pl' := [some (vR (260)), some (vR (26 + 4 * r)), some (vR (rg)), some (vI (0)), none]) dX2_countTaken_10 rfl (Nat.le_of_ble_eq_true rfl) rfl ?_
  refine Ev.iconst dX2_countTaken_11 ?_
  refine Ev.istore (pl' := [some (vR (260)), some (vR (26 + 4 * r)), some (vR (rg)), some (vI (0)), some (vI (0))]) dX2_countTaken_12 (Nat.le_of_ble_eq_true rfl) rfl ?_
  refine Ev.wk (pl' := [some (vR (260)), some (vR (26 + 4 * r)), some (vR (rg)), some (vI (((totP 0 (gU T R X (rN R)) : Nat) : Int))), some (vI (((0 : Nat) : Int)))]) ⟨rfl, ⟨rfl, ⟨rfl, ⟨vIe rfl, ⟨vIe rfl, trivial⟩⟩⟩⟩⟩ ?_
  exact s2_ct_l σ r U R hr hM hW X rg hg hgs hgn hX T τ hL 10 0 (by omega)

set_option maxRecDepth 100000 in
set_option maxHeartbeats 4000000 in
theorem c_takes {g : GC} (s : SS) (σ : Sg) (hC : CI s σ) (r : Int) (h_r : inR r) : Ev g mX7_takes 0 [some (vR (0)), some (vI (r))] [] (M0 (σ)) 0 0 (retE (CP σ (o_takes s r))) := by
  obtain ⟨hk1, hk2, hk3, hk4, hk5, hk6, hk7, hk8, hk9⟩ := id hC
  have hU := hk1.1
  have hN := hk2.1
  have hD := hk4.1
  have hM := hk7.1
  have hQ := hk5.1
  refine Ev.aload_n dX7_takes_0 rfl rfl ?_
  refine Ev.iload_n dX7_takes_1 rfl rfl ?_
  refine Ev.callV_I (M2 := mX7_isRule) (args2 := [vI (r)]) (rcv := 0) (q := (RX7, TX7, 20)) (ci := 7) dX7_takes_2 okX7_isRule lk_X7_122 ovX7_isRule.1.1 ovX7_isRule.1.2 ovX7_isRule.2 (by decide) rfl rfl ltc_0 shc_0 rfl (Nat.le_of_ble_eq_true rfl) (Nat.le_of_ble_eq_true rfl) (s7_isRule σ (sN s) hN hk2.2.1 (r) ⟨by omega, by omega⟩) ?_ rfl
  refine Ev.if_ne (tgt := 10) bI_inR dX7_takes_5 (by decide) (fun h5 => ?_) (fun h5 => ?_)
  · skip
    have q5 := bI_1.mp h5
    obtain ⟨kr, rfl⟩ : ∃ n_ : Nat, r = (n_ : Int) := ⟨r.toNat, by omega⟩
    refine Ev.aload_n dX7_takes_10 rfl rfl ?_
    refine gf_X7_72 rfl dX7_takes_11 ltc_0 shc_0 rfc_0_16 ?_
    refine Ev.aload_n dX7_takes_14 rfl rfl ?_
    refine gf_X7_18 rfl dX7_takes_15 ltc_0 shc_0 rfc_0_3 ?_
    refine Ev.iload_n dX7_takes_18 rfl rfl ?_
    refine Ev.raload dX7_takes_19 ltc_3 shc_3 (by decide) (by omega) (by omega) (rf_rule (by omega)) ?_
    refine Ev.aload_n dX7_takes_20 rfl rfl ?_
    refine gf_X7_13 rfl dX7_takes_21 ltc_0 shc_0 rfc_0_1 ?_
    refine Ev.callV_G (M2 := mX2_countTaken) (args2 := [vR (26 + 4 * kr), vR (2)]) (rcv := 260) (q := (RX2, TX2, 2)) (ci := 2) dX7_takes_24 okX2_countTaken lk_X7_195 ovX2_countTaken.1.1 ovX2_countTaken.1.2 ovX2_countTaken.2 (by decide) rfl rfl ltc_260 shc_260 rfl (Nat.le_of_ble_eq_true rfl) (Nat.le_of_ble_eq_true rfl) (s2_countTaken σ kr (sU s) (sR s kr) (by omega) (hk2.2.2.2.2.1 kr (by omega)).1 (hk2.2.2.2.2.1 kr (by omega)).2 (sX s) 2 ltc_2 shc_2 (by decide) hk1.2.2.2 (sB s) hk3 hk9) (fun v_ m_ hp_ => ?_) rfl
    obtain ⟨_, τ, rfl, rfl, rfl, hF1, hJ1⟩ := hp_
    have hS1 := LK_SC hF1
    have hK : ∀ c, 272 ≤ c → τ c = σ c := fun c h => hS1 c (nSC2 h)
    show Ev g mX7_takes 27 [some (vR (0)), some (vI (((kr : Nat) : Int)))] [vI (((totP 10 (gU (sB s) (sR s kr) (sX s) (rN (sR s kr))) : Nat) : Int))] (M0 (τ)) 0 0 _
    exact Ev.ireturn dX7_takes_27 rfl (rE (by unfold CP o_takes; (repeat rw [Int.toNat_natCast]); rw [ifP_f (by omega)]; exact ⟨rfl, (hC.scr hS1 hJ1), hK⟩))
  · skip
    have q5 := bI_0.mp h5
    refine Ev.iconst dX7_takes_8 ?_
    exact Ev.ireturn dX7_takes_9 rfl (rE (by unfold CP o_takes; (repeat rw [Int.toNat_natCast]); rw [ifP_t (by omega)]; exact ⟨rfl, hC, (fun _ _ => rfl)⟩))

set_option maxRecDepth 100000 in
set_option maxHeartbeats 4000000 in
theorem c_step {g : GC} (s : SS) (σ : Sg) (hC : CI s σ) (x : Int) (h_x : inR x) (k : Int) (h_k : inR k) (v : Int) (h_v : inR v) : Ev g mX7_step 0 [some (vR (0)), some (vI (x)), some (vI (k)), some (vI (v)), none] [] (M0 (σ)) 0 0 (retE (CP σ (o_step s x k v))) := by
  obtain ⟨hk1, hk2, hk3, hk4, hk5, hk6, hk7, hk8, hk9⟩ := id hC
  have hU := hk1.1
  have hN := hk2.1
  have hD := hk4.1
  have hM := hk7.1
  have hQ := hk5.1
  refine Ev.aload_n dX7_step_0 rfl rfl ?_
  refine Ev.iload_n dX7_step_1 rfl rfl ?_
  refine Ev.callV_I (M2 := mX7_isUnknown) (args2 := [vI (x)]) (rcv := 0) (q := (RX7, TX7, 20)) (ci := 7) dX7_step_2 okX7_isUnknown lk_X7_94 ovX7_isUnknown.1.1 ovX7_isUnknown.1.2 ovX7_isUnknown.2 (by decide) rfl rfl ltc_0 shc_0 rfl (Nat.le_of_ble_eq_true rfl) (Nat.le_of_ble_eq_true rfl) (s7_isUnknown σ (sU s) hU hk1.2.1 (x) ⟨by omega, by omega⟩) ?_ rfl
  refine Ev.if_ne (tgt := 10) bI_inR dX7_step_5 (by decide) (fun h5 => ?_) (fun h5 => ?_)
  · skip
    have q5 := bI_1.mp h5
    obtain ⟨kx, rfl⟩ : ∃ n_ : Nat, x = (n_ : Int) := ⟨x.toNat, by omega⟩
    have hxl := (hk1.2.2.2 kx (by omega)).2.2
    refine Ev.iload_n dX7_step_10 rfl rfl ?_
    refine Ev.iload_n dX7_step_11 rfl rfl ?_
    refine Ev.callS_I (M2 := mX7_isLiteral) (args2 := [vI (k), vI (v)]) dX7_step_12 okX7_isLiteral lk_X7_143 osX7_isLiteral.1 osX7_isLiteral.2 (by decide) rfl (Nat.le_of_ble_eq_true rfl) (Nat.le_of_ble_eq_true rfl) (s7_isLiteral σ (k) (v) ⟨by omega, by omega⟩ ⟨by omega, by omega⟩) ?_ rfl
    refine Ev.if_ne (tgt := 21) bI_inR dX7_step_15 (by decide) (fun h15 => ?_) (fun h15 => ?_)
    · skip
      have q15 := bI_1.mp h15
      obtain ⟨kv, rfl⟩ : ∃ n_ : Nat, v = (n_ : Int) := ⟨v.toNat, by omega⟩
      have hnl : nS k kv < 65536 := nS_lt (by omega)
      have hzl : (sX s kx &&& nS k kv) < 65536 := and_ltN hxl
      refine Ev.iload_n dX7_step_21 rfl rfl ?_
      refine Ev.iload_n dX7_step_22 rfl rfl ?_
      refine Ev.callS_I (M2 := mX7_numbersSo) (args2 := [vI (k), vI (((kv : Nat) : Int))]) dX7_step_23 okX7_numbersSo lk_X7_147 osX7_numbersSo.1 osX7_numbersSo.2 (by decide) rfl (Nat.le_of_ble_eq_true rfl) (Nat.le_of_ble_eq_true rfl) (s7_numbersSo σ (k) kv (by omega) (by omega)) ?_ rfl
      refine Ev.istore (pl' := [some (vR (0)), some (vI (((kx : Nat) : Int))), some (vI (k)), some (vI (((kv : Nat) : Int))), some (vI (((nS (k) kv : Nat) : Int)))]) dX7_step_26 (Nat.le_of_ble_eq_true rfl) rfl ?_
      refine Ev.aload_n dX7_step_28 rfl rfl ?_
      refine gf_X7_13 rfl dX7_step_29 ltc_0 shc_0 rfc_0_1 ?_
      refine Ev.iload_n dX7_step_32 rfl rfl ?_
      refine Ev.iaload (v := ((sX s kx : Nat) : Int)) dX7_step_33 ltc_2 shc_2 (by decide) (by omega) (by omega) (ldx rfl (hk1.2.2.2 kx (by omega)).1) ?_
      refine Ev.iload dX7_step_34 rfl ?_
      refine Ev.iand dX7_step_36 ?_
      rw [show (iAnd (((sX s kx : Nat) : Int)) (((nS (k) kv : Nat) : Int))) = (((sX s kx &&& nS k kv) : Nat) : Int) from iAnd_nat (by omega)]
      refine Ev.if_ne (tgt := 43) ⟨by omega, by omega⟩ dX7_step_37 (by decide) (fun h37 => ?_) (fun h37 => ?_)
      · skip
        refine Ev.aload_n dX7_step_43 rfl rfl ?_
        refine gf_X7_25 rfl dX7_step_44 ltc_0 shc_0 rfc_0_7 ?_
        refine gf_X7_85 (x := ((sD s : Nat) : Int)) rfl dX7_step_47 ltc_4 shc_4 hk4.2.1 ?_
        refine Ev.bipush (n := 12) (by decide) dX7_step_50 ?_
        refine Ev.icmp_lt (tgt := 58) ⟨by omega, by omega⟩ ⟨by decide, by decide⟩ dX7_step_52 (by decide) (fun h52 => ?_) (fun h52 => ?_)
        · skip
          refine Ev.aload_n dX7_step_58 rfl rfl ?_
          refine gf_X7_13 rfl dX7_step_59 ltc_0 shc_0 rfc_0_1 ?_
          refine Ev.aload_n dX7_step_62 rfl rfl ?_
          refine gf_X7_25 rfl dX7_step_63 ltc_0 shc_0 rfc_0_7 ?_
          refine gf_X7_199 rfl dX7_step_66 ltc_4 shc_4 rfc_4_3 ?_
          refine Ev.aload_n dX7_step_69 rfl rfl ?_
          refine gf_X7_25 rfl dX7_step_70 ltc_0 shc_0 rfc_0_7 ?_
          refine gf_X7_85 (x := ((sD s : Nat) : Int)) rfl dX7_step_73 ltc_4 shc_4 hk4.2.1 ?_
          refine Ev.maload dX7_step_76 ltc_7 shc_7 (by decide) (by omega) (by omega) (rf_bc (by omega)) ?_
          refine Ev.callS_V (M2 := mX7_bring) (args2 := [vR (2), vR (8 + (sD s))]) dX7_step_77 okX7_bring lk_X7_187 osX7_bring.1 osX7_bring.2 (by decide) rfl (Nat.le_of_ble_eq_true rfl) (Nat.le_of_ble_eq_true rfl) (s7_bring σ 2 (8 + sD s) ltc_2 shc_2 (lt_bc (by omega)) (sh_bc (by omega))) ?_ rfl
          refine Ev.aload_n dX7_step_80 rfl rfl ?_
          refine gf_X7_25 rfl dX7_step_81 ltc_0 shc_0 rfc_0_7 ?_
          refine gf_X7_202 rfl dX7_step_84 ltc_4 shc_4 rfc_4_1 ?_
          refine Ev.aload_n dX7_step_87 rfl rfl ?_
          refine gf_X7_25 rfl dX7_step_88 ltc_0 shc_0 rfc_0_7 ?_
          refine gf_X7_85 (x := ((sD s : Nat) : Int)) rfl dX7_step_91 ltc_4 shc_4 (show (cpy σ 2 (8 + sD s) 0 0 10) 4 0 = _ from (by (repeat (first | rw [upC_self (by omega)] | rw [upC_ne (by omega)] | rw [cpy_ne (by omega)])); exact hk4.2.1)) ?_
          refine Ev.iload_n dX7_step_94 rfl rfl ?_
          refine Ev.iastore dX7_step_95 ltc_5 shc_5 (by decide) (by omega) (by omega) ?_
          refine Ev.mem (τ := upC (cpy σ 2 (8 + sD s) 0 0 10) 5 (sD s) (kx : Int)) (by simp only [Int.toNat_natCast]) ?_
          refine Ev.aload_n dX7_step_96 rfl rfl ?_
          refine gf_X7_25 rfl dX7_step_97 ltc_0 shc_0 rfc_0_7 ?_
          refine gf_X7_205 rfl dX7_step_100 ltc_4 shc_4 rfc_4_2 ?_
          refine Ev.aload_n dX7_step_103 rfl rfl ?_
          refine gf_X7_25 rfl dX7_step_104 ltc_0 shc_0 rfc_0_7 ?_
          refine gf_X7_85 (x := ((sD s : Nat) : Int)) rfl dX7_step_107 ltc_4 shc_4 (show (upC (cpy σ 2 (8 + sD s) 0 0 10) 5 (sD s) (kx : Int)) 4 0 = _ from (by (repeat (first | rw [upC_self (by omega)] | rw [upC_ne (by omega)] | rw [cpy_ne (by omega)])); exact hk4.2.1)) ?_
          refine Ev.iload dX7_step_110 rfl ?_
          refine Ev.iastore dX7_step_112 ltc_6 shc_6 (by decide) (by omega) (by omega) ?_
          refine Ev.mem (τ := upC (upC (cpy σ 2 (8 + sD s) 0 0 10) 5 (sD s) (kx : Int)) 6 (sD s) (nS k kv : Int)) (by simp only [Int.toNat_natCast]) ?_
          refine Ev.aload_n dX7_step_113 rfl rfl ?_
          refine gf_X7_25 rfl dX7_step_114 ltc_0 shc_0 rfc_0_7 ?_
          refine Ev.dupR dX7_step_117 ?_
          refine gf_X7_85 (x := ((sD s : Nat) : Int)) rfl dX7_step_118 ltc_4 shc_4 (show (upC (upC (cpy σ 2 (8 + sD s) 0 0 10) 5 (sD s) (kx : Int)) 6 (sD s) (nS k kv : Int)) 4 0 = _ from (by (repeat (first | rw [upC_self (by omega)] | rw [upC_ne (by omega)] | rw [cpy_ne (by omega)])); exact hk4.2.1)) ?_
          refine Ev.iconst dX7_step_121 ?_
          refine Ev.iadd dX7_step_122 ?_
          refine pf_X7_85 rfl dX7_step_123 ltc_4 shc_4 ?_
          refine Ev.mem (τ := upC (upC (upC (cpy σ 2 (8 + sD s) 0 0 10) 5 (sD s) (kx : Int)) 6 (sD s) (nS k kv : Int)) 4 0 ((sD s + 1 : Nat) : Int)) (by rw [show ((sD s : Nat) : Int) + 1 = ((sD s + 1 : Nat) : Int) by omega]) ?_
          refine Ev.aload_n dX7_step_126 rfl rfl ?_
          refine gf_X7_13 rfl dX7_step_127 ltc_0 shc_0 rfc_0_1 ?_
          refine Ev.iload_n dX7_step_130 rfl rfl ?_
          refine Ev.dup2RI dX7_step_131 ?_
          refine Ev.iaload (v := ((sX s kx : Nat) : Int)) dX7_step_132 ltc_2 shc_2 (by decide) (by omega) (by omega) (show (upC (upC (upC (cpy σ 2 (8 + sD s) 0 0 10) 5 (sD s) (kx : Int)) 6 (sD s) (nS k kv : Int)) 4 0 ((sD s + 1 : Nat) : Int)) 2 (((kx : Nat) : Int)).toNat = ((sX s kx : Nat) : Int) from (ldx rfl (show (upC (upC (upC (cpy σ 2 (8 + sD s) 0 0 10) 5 (sD s) (kx : Int)) 6 (sD s) (nS k kv : Int)) 4 0 ((sD s + 1 : Nat) : Int)) 2 kx = _ from (by (repeat (first | rw [upC_self (by omega)] | rw [upC_ne (by omega)] | rw [cpy_ne (by omega)])); exact (hk1.2.2.2 kx (by omega)).1)))) ?_
          refine Ev.iload dX7_step_133 rfl ?_
          refine Ev.iand dX7_step_135 ?_
          rw [show (iAnd (((sX s kx : Nat) : Int)) (((nS (k) kv : Nat) : Int))) = (((sX s kx &&& nS k kv) : Nat) : Int) from iAnd_nat (by omega)]
          refine Ev.iastore dX7_step_136 ltc_2 shc_2 (by decide) (by omega) (by omega) ?_
          refine Ev.mem (τ := upC (upC (upC (upC (cpy σ 2 (8 + sD s) 0 0 10) 5 (sD s) (kx : Int)) 6 (sD s) (nS k kv : Int)) 4 0 ((sD s + 1 : Nat) : Int)) 2 kx ((sX s kx &&& nS k kv) : Int)) (by simp only [Int.toNat_natCast]) ?_
          refine Ev.aload_n dX7_step_137 rfl rfl ?_
          refine gf_X7_25 rfl dX7_step_138 ltc_0 shc_0 rfc_0_7 ?_
          refine gf_X7_85 (x := (((sD s + 1) : Nat) : Int)) rfl dX7_step_141 ltc_4 shc_4 (show (upC (upC (upC (upC (cpy σ 2 (8 + sD s) 0 0 10) 5 (sD s) (kx : Int)) 6 (sD s) (nS k kv : Int)) 4 0 ((sD s + 1 : Nat) : Int)) 2 kx ((sX s kx &&& nS k kv) : Int)) 4 0 = _ from by rw [upC_ne (by decide)]; exact upC_at) ?_
          refine Ev.iconst dX7_step_144 ?_
          refine Ev.isub dX7_step_145 ?_
          exact Ev.ireturn dX7_step_146 rfl (rE (by unfold CP o_step; (repeat rw [Int.toNat_natCast]); rw [ifP_f (by omega), ifP_f (by omega), ifP_f (by omega), ifP_f (by omega)]; exact ⟨(by show _ = ((sD s : Nat) : Int); omega), ⟨⟨hU, ((congrFun (upC_ne (by decide)) 2).trans ((congrFun (upC_ne (by decide)) 2).trans ((congrFun (upC_ne (by decide)) 2).trans ((congrFun (upC_ne (by decide)) 2).trans ((congrFun (cpy_ne (by omega)) 2).trans hk1.2.1))))), (hk1.2.2.1.cg (fun x _ => congrFun ((upC_ne (by decide)).trans ((upC_ne (by decide)).trans ((upC_ne (by decide)).trans ((upC_ne (by decide)).trans ((cpy_ne (by omega)).trans rfl))))) x)), (av_set2 hk1.2.2.2 ⟨by omega, by omega⟩ (fun i => by by_cases e : i = kx; (rw [e, upC_at, upC_at]); (rw [upC_self e, upC_self e]; exact congrFun ((upC_ne (by decide)).trans ((upC_ne (by decide)).trans ((upC_ne (by decide)).trans ((cpy_ne (by omega)).trans rfl)))) i)))⟩, (hk2.cg ((congrFun (upC_ne (by decide)) 4).trans ((congrFun (upC_ne (by decide)) 4).trans ((congrFun (upC_ne (by decide)) 4).trans ((congrFun (upC_ne (by decide)) 4).trans ((congrFun (cpy_ne (by omega)) 4).trans rfl))))) ((congrFun (upC_ne (by decide)) 5).trans ((congrFun (upC_ne (by decide)) 5).trans ((congrFun (upC_ne (by decide)) 5).trans ((congrFun (upC_ne (by decide)) 5).trans ((congrFun (cpy_ne (by omega)) 5).trans rfl))))) (fun c q1 q2 => ((upC_ne (Nat.ne_of_gt (Nat.lt_of_lt_of_le (show 2 < 26 by decide) q1))).trans ((upC_ne (Nat.ne_of_gt (Nat.lt_of_lt_of_le (show 4 < 26 by decide) q1))).trans ((upC_ne (Nat.ne_of_gt (Nat.lt_of_lt_of_le (show 6 < 26 by decide) q1))).trans ((upC_ne (Nat.ne_of_gt (Nat.lt_of_lt_of_le (show 5 < 26 by decide) q1))).trans ((cpy_ne (by omega)).trans rfl))))))), (hk3.cg (fun c q1 q2 => ((upC_ne (Nat.ne_of_gt (Nat.lt_of_lt_of_le (show 2 < 251 by decide) q1))).trans ((upC_ne (Nat.ne_of_gt (Nat.lt_of_lt_of_le (show 4 < 251 by decide) q1))).trans ((upC_ne (Nat.ne_of_gt (Nat.lt_of_lt_of_le (show 6 < 251 by decide) q1))).trans ((upC_ne (Nat.ne_of_gt (Nat.lt_of_lt_of_le (show 5 < 251 by decide) q1))).trans ((cpy_ne (by omega)).trans rfl))))))), (k4_step hk4 (show sD s < 12 by omega) (show kx < sU s by omega) (nS_lt (by omega)) hk1.2.2.2 ((congrFun (upC_ne (by decide)) 0).trans upC_at) (fun i => (congrFun ((upC_ne (by decide)).trans ((upC_ne (by decide)).trans (upC_ne (by decide)))) i).trans (by by_cases e : i = sD s; (rw [e, upC_at, upC_at]); (rw [upC_self e, upC_self e]; exact congrFun ((cpy_ne (by omega)).trans rfl) i))) (fun i => (congrFun ((upC_ne (by decide)).trans (upC_ne (by decide))) i).trans (by by_cases e : i = sD s; (rw [e, upC_at, upC_at]); (rw [upC_self e, upC_self e]; exact congrFun ((upC_ne (by decide)).trans ((cpy_ne (by omega)).trans rfl)) i))) (fun c q1 q2 q3 => by rw [upC_ne (by omega), upC_ne (by omega), upC_ne (by omega), upC_ne (by omega), cpy_ne q3]) (fun x hx => by rw [upC_ne (by omega), upC_ne (by omega), upC_ne (by omega), upC_ne (by omega)]; exact cp_at (Nat.lt_of_lt_of_le hx hU))), (hk5.cg ((congrFun (upC_ne (by decide)) 9).trans ((congrFun (upC_ne (by decide)) 9).trans ((congrFun (upC_ne (by decide)) 9).trans ((congrFun (upC_ne (by decide)) 9).trans ((congrFun (cpy_ne (by omega)) 9).trans rfl))))) ((upC_ne (by decide)).trans ((upC_ne (by decide)).trans ((upC_ne (by decide)).trans ((upC_ne (by decide)).trans ((cpy_ne (by omega)).trans rfl)))))), (hk6.cg ((congrFun (upC_ne (by decide)) 11).trans ((congrFun (upC_ne (by decide)) 11).trans ((congrFun (upC_ne (by decide)) 11).trans ((congrFun (upC_ne (by decide)) 11).trans ((congrFun (cpy_ne (by omega)) 11).trans rfl))))) ((upC_ne (by decide)).trans ((upC_ne (by decide)).trans ((upC_ne (by decide)).trans ((upC_ne (by decide)).trans ((cpy_ne (by omega)).trans rfl)))))), (hk7.cg ((congrFun (upC_ne (by decide)) 14).trans ((congrFun (upC_ne (by decide)) 14).trans ((congrFun (upC_ne (by decide)) 14).trans ((congrFun (upC_ne (by decide)) 14).trans ((congrFun (cpy_ne (by omega)) 14).trans rfl))))) ((upC_ne (by decide)).trans ((upC_ne (by decide)).trans ((upC_ne (by decide)).trans ((upC_ne (by decide)).trans ((cpy_ne (by omega)).trans rfl))))) (fun c q1 q2 => ((upC_ne (Nat.ne_of_gt (Nat.lt_of_lt_of_le (show 2 < 90 by decide) q1))).trans ((upC_ne (Nat.ne_of_gt (Nat.lt_of_lt_of_le (show 4 < 90 by decide) q1))).trans ((upC_ne (Nat.ne_of_gt (Nat.lt_of_lt_of_le (show 6 < 90 by decide) q1))).trans ((upC_ne (Nat.ne_of_gt (Nat.lt_of_lt_of_le (show 5 < 90 by decide) q1))).trans ((cpy_ne (by omega)).trans rfl))))))), ((congrFun (upC_ne (by decide)) 15).trans ((congrFun (upC_ne (by decide)) 15).trans ((congrFun (upC_ne (by decide)) 15).trans ((congrFun (upC_ne (by decide)) 15).trans ((congrFun (cpy_ne (by omega)) 15).trans hk8))))), ((congrFun (upC_ne (by decide)) 0).trans ((congrFun (upC_ne (by decide)) 0).trans ((congrFun (upC_ne (by decide)) 0).trans ((congrFun (upC_ne (by decide)) 0).trans ((congrFun (cpy_ne (by omega)) 0).trans hk9)))))⟩, (fun c q1 => ((upC_ne (Nat.ne_of_gt (Nat.lt_of_lt_of_le (show 2 < 272 by decide) q1))).trans ((upC_ne (Nat.ne_of_gt (Nat.lt_of_lt_of_le (show 4 < 272 by decide) q1))).trans ((upC_ne (Nat.ne_of_gt (Nat.lt_of_lt_of_le (show 6 < 272 by decide) q1))).trans ((upC_ne (Nat.ne_of_gt (Nat.lt_of_lt_of_le (show 5 < 272 by decide) q1))).trans ((cpy_ne (by omega)).trans rfl))))))⟩))
        · skip
          refine Ev.bipush (n := -4) (by decide) dX7_step_55 ?_
          exact Ev.ireturn dX7_step_57 rfl (rE (by unfold CP o_step; (repeat rw [Int.toNat_natCast]); rw [ifP_f (by omega), ifP_f (by omega), ifP_f (by omega), ifP_t (by omega)]; exact ⟨rfl, hC, (fun _ _ => rfl)⟩))
      · skip
        refine Ev.bipush (n := -3) (by decide) dX7_step_40 ?_
        exact Ev.ireturn dX7_step_42 rfl (rE (by unfold CP o_step; (repeat rw [Int.toNat_natCast]); rw [ifP_f (by omega), ifP_f (by omega), ifP_t (by omega)]; exact ⟨rfl, hC, (fun _ _ => rfl)⟩))
    · skip
      have q15 := bI_0.mp h15
      refine Ev.bipush (n := -2) (by decide) dX7_step_18 ?_
      exact Ev.ireturn dX7_step_20 rfl (rE (by unfold CP o_step; (repeat rw [Int.toNat_natCast]); rw [ifP_f (by omega), ifP_t (by omega)]; exact ⟨rfl, hC, (fun _ _ => rfl)⟩))
  · skip
    have q5 := bI_0.mp h5
    refine Ev.iconst dX7_step_8 ?_
    exact Ev.ireturn dX7_step_9 rfl (rE (by unfold CP o_step; (repeat rw [Int.toNat_natCast]); rw [ifP_t (by omega)]; exact ⟨rfl, hC, (fun _ _ => rfl)⟩))

set_option maxRecDepth 100000 in
set_option maxHeartbeats 4000000 in
theorem c_undo {g : GC} (s : SS) (σ : Sg) (hC : CI s σ) (d : Int) (h_d : inR d) : Ev g mX7_undo 0 [some (vR (0)), some (vI (d)), none] [] (M0 (σ)) 0 0 (retE (CP σ (o_undo s d))) := by
  obtain ⟨hk1, hk2, hk3, hk4, hk5, hk6, hk7, hk8, hk9⟩ := id hC
  have hU := hk1.1
  have hN := hk2.1
  have hD := hk4.1
  have hM := hk7.1
  have hQ := hk5.1
  refine Ev.iload_n dX7_undo_0 rfl rfl ?_
  refine Ev.if_lt (tgt := 15) ⟨by omega, by omega⟩ dX7_undo_1 (by decide) (fun h1 => ?_) (fun h1 => ?_)
  · skip
    refine Ev.bipush (n := -2) (by decide) dX7_undo_15 ?_
    exact Ev.ireturn dX7_undo_17 rfl (rE (by unfold CP o_undo; (repeat rw [Int.toNat_natCast]); rw [ifP_t (by omega)]; exact ⟨rfl, hC, (fun _ _ => rfl)⟩))
  · skip
    refine Ev.iload_n dX7_undo_4 rfl rfl ?_
    refine Ev.aload_n dX7_undo_5 rfl rfl ?_
    refine gf_X7_25 rfl dX7_undo_6 ltc_0 shc_0 rfc_0_7 ?_
    refine gf_X7_85 (x := ((sD s : Nat) : Int)) rfl dX7_undo_9 ltc_4 shc_4 hk4.2.1 ?_
    refine Ev.icmp_le (tgt := 18) ⟨by omega, by omega⟩ ⟨by omega, by omega⟩ dX7_undo_12 (by decide) (fun h12 => ?_) (fun h12 => ?_)
    · skip
      obtain ⟨kd, rfl⟩ : ∃ n_ : Nat, d = (n_ : Int) := ⟨d.toNat, by omega⟩
      refine Ev.aload_n dX7_undo_18 rfl rfl ?_
      refine gf_X7_25 rfl dX7_undo_19 ltc_0 shc_0 rfc_0_7 ?_
      refine gf_X7_85 (x := ((sD s : Nat) : Int)) rfl dX7_undo_22 ltc_4 shc_4 hk4.2.1 ?_
      refine Ev.iload_n dX7_undo_25 rfl rfl ?_
      refine Ev.isub dX7_undo_26 ?_
      refine Ev.istore_n (pl' := [some (vR (0)), some (vI (((kd : Nat) : Int))), some (vI ((((sD s : Nat) : Int) - ((kd : Nat) : Int))))]) dX7_undo_27 rfl (Nat.le_of_ble_eq_true rfl) rfl ?_
      refine Ev.iload_n dX7_undo_28 rfl rfl ?_
      refine Ev.if_le (tgt := 56) ⟨by omega, by omega⟩ dX7_undo_29 (by decide) (fun h29 => ?_) (fun h29 => ?_)
      · skip
        refine Ev.iload_n dX7_undo_56 rfl rfl ?_
        exact Ev.ireturn dX7_undo_57 rfl (rE (by unfold CP o_undo; (repeat rw [Int.toNat_natCast]); rw [ifP_f (by omega), ifP_f (by omega)]; exact ⟨(by show _ = (0 : Int); omega), hC, (fun _ _ => rfl)⟩))
      · skip
        refine Ev.aload_n dX7_undo_32 rfl rfl ?_
        refine gf_X7_25 rfl dX7_undo_33 ltc_0 shc_0 rfc_0_7 ?_
        refine gf_X7_199 rfl dX7_undo_36 ltc_4 shc_4 rfc_4_3 ?_
        refine Ev.iload_n dX7_undo_39 rfl rfl ?_
        refine Ev.maload dX7_undo_40 ltc_7 shc_7 (by decide) (by omega) (by omega) (rf_bc (by omega)) ?_
        refine Ev.aload_n dX7_undo_41 rfl rfl ?_
        refine gf_X7_13 rfl dX7_undo_42 ltc_0 shc_0 rfc_0_1 ?_
        refine Ev.callS_V (M2 := mX7_bring) (args2 := [vR (8 + kd), vR (2)]) dX7_undo_45 okX7_bring lk_X7_187 osX7_bring.1 osX7_bring.2 (by decide) rfl (Nat.le_of_ble_eq_true rfl) (Nat.le_of_ble_eq_true rfl) (s7_bring σ (8 + kd) 2 (lt_bc (by omega)) (sh_bc (by omega)) ltc_2 shc_2) ?_ rfl
        refine Ev.aload_n dX7_undo_48 rfl rfl ?_
        refine gf_X7_25 rfl dX7_undo_49 ltc_0 shc_0 rfc_0_7 ?_
        refine Ev.iload_n dX7_undo_52 rfl rfl ?_
        refine pf_X7_85 rfl dX7_undo_53 ltc_4 shc_4 ?_
        refine Ev.mem (τ := upC (cpy σ (8 + kd) 2 0 0 10) 4 0 (kd : Int)) (rfl) ?_
        refine Ev.iload_n dX7_undo_56 rfl rfl ?_
        exact Ev.ireturn dX7_undo_57 rfl (rE (by unfold CP o_undo; (repeat rw [Int.toNat_natCast]); rw [ifP_f (by omega), ifP_t (by omega)]; exact ⟨rfl, ⟨⟨hU, ((congrFun (upC_ne (by decide)) 2).trans ((congrFun (cpy_ne (by decide)) 2).trans hk1.2.1)), (hk1.2.2.1.cg (fun x _ => congrFun ((upC_ne (by decide)).trans ((cpy_ne (by decide)).trans rfl)) x)), ((cp_av hU (hk4.2.2 kd (by omega)).2.2.2.2).cg (fun x _ => congrFun (upC_ne (by decide)) x))⟩, (hk2.cg ((congrFun (upC_ne (by decide)) 4).trans ((congrFun (cpy_ne (by decide)) 4).trans rfl)) ((congrFun (upC_ne (by decide)) 5).trans ((congrFun (cpy_ne (by decide)) 5).trans rfl)) (fun c q1 q2 => ((upC_ne (Nat.ne_of_gt (Nat.lt_of_lt_of_le (show 4 < 26 by decide) q1))).trans ((cpy_ne (Nat.ne_of_gt (Nat.lt_of_lt_of_le (show 2 < 26 by decide) q1))).trans rfl)))), (hk3.cg (fun c q1 q2 => ((upC_ne (Nat.ne_of_gt (Nat.lt_of_lt_of_le (show 4 < 251 by decide) q1))).trans ((cpy_ne (Nat.ne_of_gt (Nat.lt_of_lt_of_le (show 2 < 251 by decide) q1))).trans rfl)))), (k4_undo hk4 (show kd ≤ sD s by omega) upC_at (fun c q1 q2 _ => (upC_ne (by omega)).trans (cpy_ne (by omega)))), (hk5.cg ((congrFun (upC_ne (by decide)) 9).trans ((congrFun (cpy_ne (by decide)) 9).trans rfl)) ((upC_ne (by decide)).trans ((cpy_ne (by decide)).trans rfl))), (hk6.cg ((congrFun (upC_ne (by decide)) 11).trans ((congrFun (cpy_ne (by decide)) 11).trans rfl)) ((upC_ne (by decide)).trans ((cpy_ne (by decide)).trans rfl))), (hk7.cg ((congrFun (upC_ne (by decide)) 14).trans ((congrFun (cpy_ne (by decide)) 14).trans rfl)) ((upC_ne (by decide)).trans ((cpy_ne (by decide)).trans rfl)) (fun c q1 q2 => ((upC_ne (Nat.ne_of_gt (Nat.lt_of_lt_of_le (show 4 < 90 by decide) q1))).trans ((cpy_ne (Nat.ne_of_gt (Nat.lt_of_lt_of_le (show 2 < 90 by decide) q1))).trans rfl)))), ((congrFun (upC_ne (by decide)) 15).trans ((congrFun (cpy_ne (by decide)) 15).trans hk8)), ((congrFun (upC_ne (by decide)) 0).trans ((congrFun (cpy_ne (by decide)) 0).trans hk9))⟩, (fun c q1 => ((upC_ne (Nat.ne_of_gt (Nat.lt_of_lt_of_le (show 4 < 272 by decide) q1))).trans ((cpy_ne (Nat.ne_of_gt (Nat.lt_of_lt_of_le (show 2 < 272 by decide) q1))).trans rfl)))⟩))
    · skip
      refine Ev.bipush (n := -2) (by decide) dX7_undo_15 ?_
      exact Ev.ireturn dX7_undo_17 rfl (rE (by unfold CP o_undo; (repeat rw [Int.toNat_natCast]); rw [ifP_t (by omega)]; exact ⟨rfl, hC, (fun _ _ => rfl)⟩))

set_option maxRecDepth 100000 in
set_option maxHeartbeats 4000000 in
theorem c_range {g : GC} (s : SS) (σ : Sg) (hC : CI s σ) (x : Int) (h_x : inR x) (w : Int) (h_w : inR w) : Ev g mX7_range 0 [some (vR (0)), some (vI (x)), some (vI (w))] [] (M0 (σ)) 0 0 (retE (CP σ (o_range s x w))) := by
  obtain ⟨hk1, hk2, hk3, hk4, hk5, hk6, hk7, hk8, hk9⟩ := id hC
  have hU := hk1.1
  have hN := hk2.1
  have hD := hk4.1
  have hM := hk7.1
  have hQ := hk5.1
  refine Ev.aload_n dX7_range_0 rfl rfl ?_
  refine Ev.iload_n dX7_range_1 rfl rfl ?_
  refine Ev.callV_I (M2 := mX7_isUnknown) (args2 := [vI (x)]) (rcv := 0) (q := (RX7, TX7, 20)) (ci := 7) dX7_range_2 okX7_isUnknown lk_X7_94 ovX7_isUnknown.1.1 ovX7_isUnknown.1.2 ovX7_isUnknown.2 (by decide) rfl rfl ltc_0 shc_0 rfl (Nat.le_of_ble_eq_true rfl) (Nat.le_of_ble_eq_true rfl) (s7_isUnknown σ (sU s) hU hk1.2.1 (x) ⟨by omega, by omega⟩) ?_ rfl
  refine Ev.if_ne (tgt := 10) bI_inR dX7_range_5 (by decide) (fun h5 => ?_) (fun h5 => ?_)
  · skip
    have q5 := bI_1.mp h5
    obtain ⟨kx, rfl⟩ : ∃ n_ : Nat, x = (n_ : Int) := ⟨x.toNat, by omega⟩
    have hxl := (hk1.2.2.2 kx (by omega)).2
    refine Ev.iload_n dX7_range_10 rfl rfl ?_
    have hcs : w = 0 ∨ w = 1 ∨ w = 2 ∨ w = 3 ∨ w = 4 ∨ (w < 0 ∨ 4 < w) := by omega
    rcases hcs with hk | hk | hk | hk | hk | hk
    · skip
      subst hk
      refine Ev.tableIn (tgt := 44) dX7_range_11 ⟨by decide, by decide⟩ (by decide) (by decide) rfl (by decide) ?_
      refine Ev.aload_n dX7_range_44 rfl rfl ?_
      refine gf_X7_13 rfl dX7_range_45 ltc_0 shc_0 rfc_0_1 ?_
      refine Ev.iload_n dX7_range_48 rfl rfl ?_
      refine Ev.iaload (v := ((sX s kx : Nat) : Int)) dX7_range_49 ltc_2 shc_2 (by decide) (by omega) (by omega) (ldx rfl (hk1.2.2.2 kx (by omega)).1) ?_
      refine Ev.callS_I (M2 := mJ6_bitCount_0f7a4) (args2 := [vI (((sX s kx : Nat) : Int))]) dX7_range_50 okJ6_bitCount_0f7a4 lk_X7_101 osJ6_bitCount_0f7a4.1 osJ6_bitCount_0f7a4.2 (by decide) rfl (Nat.le_of_ble_eq_true rfl) (Nat.le_of_ble_eq_true rfl) (sJ_bitCount σ (sX s kx) hxl.2) ?_ rfl
      exact Ev.ireturn dX7_range_53 rfl (rE (by unfold CP o_range; (repeat rw [Int.toNat_natCast]); rw [ifP_f (by omega)]; exact ⟨(by show _ = _; rw [ifP_t (by omega)]), hC, (fun _ _ => rfl)⟩))
    · skip
      subst hk
      refine Ev.tableIn (tgt := 54) dX7_range_11 ⟨by decide, by decide⟩ (by decide) (by decide) rfl (by decide) ?_
      refine Ev.aload_n dX7_range_54 rfl rfl ?_
      refine gf_X7_13 rfl dX7_range_55 ltc_0 shc_0 rfc_0_1 ?_
      refine Ev.iload_n dX7_range_58 rfl rfl ?_
      refine Ev.iaload (v := ((sX s kx : Nat) : Int)) dX7_range_59 ltc_2 shc_2 (by decide) (by omega) (by omega) (ldx rfl (hk1.2.2.2 kx (by omega)).1) ?_
      refine Ev.callS_I (M2 := mX7_least) (args2 := [vI (((sX s kx : Nat) : Int))]) dX7_range_60 okX7_least lk_X7_208 osX7_least.1 osX7_least.2 (by decide) rfl (Nat.le_of_ble_eq_true rfl) (Nat.le_of_ble_eq_true rfl) (s7_least σ (sX s kx) hxl.2 hxl.1) ?_ rfl
      exact Ev.ireturn dX7_range_63 rfl (rE (by unfold CP o_range; (repeat rw [Int.toNat_natCast]); rw [ifP_f (by omega)]; exact ⟨(by show _ = _; rw [ifP_f (by omega)]; rw [ifP_t (by omega)]), hC, (fun _ _ => rfl)⟩))
    · skip
      subst hk
      refine Ev.tableIn (tgt := 64) dX7_range_11 ⟨by decide, by decide⟩ (by decide) (by decide) rfl (by decide) ?_
      refine Ev.aload_n dX7_range_64 rfl rfl ?_
      refine gf_X7_13 rfl dX7_range_65 ltc_0 shc_0 rfc_0_1 ?_
      refine Ev.iload_n dX7_range_68 rfl rfl ?_
      refine Ev.iaload (v := ((sX s kx : Nat) : Int)) dX7_range_69 ltc_2 shc_2 (by decide) (by omega) (by omega) (ldx rfl (hk1.2.2.2 kx (by omega)).1) ?_
      refine Ev.callS_I (M2 := mX7_greatest) (args2 := [vI (((sX s kx : Nat) : Int))]) dX7_range_70 okX7_greatest lk_X7_211 osX7_greatest.1 osX7_greatest.2 (by decide) rfl (Nat.le_of_ble_eq_true rfl) (Nat.le_of_ble_eq_true rfl) (s7_greatest σ (sX s kx) hxl.2 hxl.1) ?_ rfl
      exact Ev.ireturn dX7_range_73 rfl (rE (by unfold CP o_range; (repeat rw [Int.toNat_natCast]); rw [ifP_f (by omega)]; exact ⟨(by show _ = _; rw [ifP_f (by omega)]; rw [ifP_f (by omega)]; rw [ifP_t (by omega)]), hC, (fun _ _ => rfl)⟩))
    · skip
      subst hk
      refine Ev.tableIn (tgt := 74) dX7_range_11 ⟨by decide, by decide⟩ (by decide) (by decide) rfl (by decide) ?_
      refine Ev.aload_n dX7_range_74 rfl rfl ?_
      refine gf_X7_13 rfl dX7_range_75 ltc_0 shc_0 rfc_0_1 ?_
      refine Ev.iload_n dX7_range_78 rfl rfl ?_
      refine Ev.iaload (v := ((sX s kx : Nat) : Int)) dX7_range_79 ltc_2 shc_2 (by decide) (by omega) (by omega) (ldx rfl (hk1.2.2.2 kx (by omega)).1) ?_
      exact Ev.ireturn dX7_range_80 rfl (rE (by unfold CP o_range; (repeat rw [Int.toNat_natCast]); rw [ifP_f (by omega)]; exact ⟨(by show _ = _; rw [ifP_f (by omega)]; rw [ifP_f (by omega)]; rw [ifP_f (by omega)]; rw [ifP_t (by omega)]), hC, (fun _ _ => rfl)⟩))
    · skip
      subst hk
      refine Ev.tableIn (tgt := 81) dX7_range_11 ⟨by decide, by decide⟩ (by decide) (by decide) rfl (by decide) ?_
      refine Ev.aload_n dX7_range_81 rfl rfl ?_
      refine gf_X7_9 rfl dX7_range_82 ltc_0 shc_0 rfc_0_0 ?_
      refine Ev.iload_n dX7_range_85 rfl rfl ?_
      refine Ev.iaload (v := ((sG s kx : Nat) : Int)) dX7_range_86 ltc_1 shc_1 (by decide) (by omega) (by omega) (ldx rfl (hk1.2.2.1 kx (by omega)).1) ?_
      exact Ev.ireturn dX7_range_87 rfl (rE (by unfold CP o_range; (repeat rw [Int.toNat_natCast]); rw [ifP_f (by omega)]; exact ⟨(by show _ = _; rw [ifP_f (by omega)]; rw [ifP_f (by omega)]; rw [ifP_f (by omega)]; rw [ifP_f (by omega)]; rw [ifP_t (by omega)]), hC, (fun _ _ => rfl)⟩))
    · skip
      refine Ev.tableOut (tgt := 88) dX7_range_11 ⟨by omega, by omega⟩ hk (by decide) ?_
      refine Ev.bipush (n := -2) (by decide) dX7_range_88 ?_
      exact Ev.ireturn dX7_range_90 rfl (rE (by unfold CP o_range; (repeat rw [Int.toNat_natCast]); rw [ifP_f (by omega)]; exact ⟨(by show _ = _; rw [ifP_f (by omega)]; rw [ifP_f (by omega)]; rw [ifP_f (by omega)]; rw [ifP_f (by omega)]; rw [ifP_f (by omega)]), hC, (fun _ _ => rfl)⟩))
  · skip
    have q5 := bI_0.mp h5
    refine Ev.iconst dX7_range_8 ?_
    exact Ev.ireturn dX7_range_9 rfl (rE (by unfold CP o_range; (repeat rw [Int.toNat_natCast]); rw [ifP_t (by omega)]; exact ⟨rfl, hC, (fun _ _ => rfl)⟩))

