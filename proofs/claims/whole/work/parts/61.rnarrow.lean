/-! THE REFERENCE: narrow, takes, step, undo, range -/
theorem S294 {σ τ : Sg} (h : Same [294] σ τ) : ScM σ τ := fun c i a _ _ _ => congrFun (h c (by simpa using a)) i
theorem S297 {σ τ : Sg} (h : Same [297] σ τ) : ScM σ τ := fun c i _ _ a _ => congrFun (h c (by simpa using a)) i
theorem SameM.scr {σ τ : Sg} (h : SameM σ τ) : ScM σ τ := fun c i a _ _ e => h c i a (fun z => (e z).2)
theorem NarP.scr {σ τ : Sg} {U : Nat} {T : Tb} {S : Sy} {X0 : Rg} (h : NarP σ U T S X0 τ) : ScM σ τ := h.1.scr
theorem ScM.tr {σ τ ρ : Sg} (h : ScM σ τ) (h2 : ScM τ ρ) : ScM σ ρ := fun c i a b d e => (h2 c i a b d e).trans (h c i a b d e)
theorem ScM.lo {σ τ : Sg} (h : ScM σ τ) : ∀ c, c < 272 → τ c = σ c := fun c hc => by
  funext i
  exact h c i (by omega) (by omega) (by omega) (fun z => absurd z (by omega))
theorem MI.sy {s : SS} {σ : Sg} (h : MI s σ) : SyOk (sU s) (sS s) := fun r _ hon => (h.2.1.2.2.2 r (bit_cap h.2.1.2.2.1 hon)).2.1
theorem r_nar {g : GC} {s : SS} {ρ : Sg} (hM : MI s ρ) (X0 : Rg) (hX : AW ρ (sU s) X0) : Ev g mX8_narrowAside 0 [some (vR (272)), none, none, none, none, none] [] (M0 (ρ)) 0 0 (retW (NarP ρ (sU s) (sB s) (sS s) X0)) := by
  obtain ⟨hu1, hu2, hu3, _⟩ := id hM
  exact sM_narrowAside ρ (sU s) hu1.1 hu1.2.1 (sN s) hu2.1 hu2.2.1 (sB s) hu3 (sR s) (sW s) hu2.2.2.1 (fun r hr => ⟨(hu2.2.2.2 r hr).1, (hu2.2.2.2 r hr).2.1⟩) (fun r hr => (hu2.2.2.2 r hr).2.2) X0 hX
theorem u4_step {σ τ : Sg} {U d x z : Nat} {o p : Nat → Nat} {h : Nat → Rg} {X : Rg} (hU : U ≤ 10) (hk : u4 σ U d o p h) (hd : d < 12) (hx : x < U) (hz : z < 65536) (hX : AV σ 274 U X) (e0 : τ 272 4 = ((d + 1 : Nat) : Int)) (e5 : ∀ i, τ 275 i = upC σ 275 d (x : Int) 275 i) (e6 : ∀ i, τ 276 i = upC σ 276 d (z : Int) 276 i) (e7 : ∀ i, ¬ (10 * d ≤ i ∧ i < 10 * d + 10) → τ 277 i = σ 277 i) (e8 : ∀ k, k < 10 → τ 277 (10 * d + k) = σ 274 k) : u4 τ U (d + 1) (updF o d x) (updF p d z) (updF h d X) := by
  refine ⟨by omega, e0, fun k hk2 => ?_⟩
  rw [e5 k, e6 k]
  by_cases e : k = d
  · subst e
    rw [upC_at, upC_at, updF_at, updF_at, updF_at]
    exact ⟨rfl, hx, rfl, hz, fun y hy => ⟨(e8 y (by omega)).trans (hX y hy).1, (hX y hy).2⟩⟩
  · rw [upC_self e, upC_self e, updF_ne e, updF_ne e, updF_ne e]
    obtain ⟨h1, h2, h3, h4, h5⟩ := hk.2.2 k (by omega)
    exact ⟨h1, h2, h3, h4, fun y hy => ⟨(e7 _ (by omega)).trans (h5 y hy).1, (h5 y hy).2⟩⟩
theorem u4_undo {σ τ : Sg} {U d d' : Nat} {o p : Nat → Nat} {h : Nat → Rg} (hk : u4 σ U d o p h) (hd : d' ≤ d) (e0 : τ 272 4 = (d' : Int)) (e : ∀ c, 275 ≤ c → c ≤ 277 → τ c = σ c) : u4 τ U d' o p h := by
  refine ⟨by have := hk.1; omega, e0, fun k hk2 => ?_⟩
  rw [e 275 (by omega) (by omega), e 276 (by omega) (by omega), e 277 (by omega) (by omega)]
  exact hk.2.2 k (by omega)
set_option maxRecDepth 100000 in
set_option maxHeartbeats 4000000 in
theorem r_narrow_l {g : GC} (s : SS) (σ σ1 : Sg) (hM1 : MI s σ1) (hk0 : ∀ c, c < 272 → σ1 c = σ c) (hal : AL s (sX s)) (hXw : AV σ1 294 (sU s) (NX s (sX s))) : ∀ j x : Nat, x + j = sU s → ∀ ρ : Sg, (∀ c, c ≠ 274 → ρ c = σ1 c) → (∀ y, y < x → ρ 274 y = ((NX s (sX s)) y : Int)) → (∀ y, x ≤ y → ρ 274 y = σ1 274 y) → Ev g mX8_narrow 28 [some (vR (272)), some (vI (((totP x (sX s) : Nat) : Int) - ((totP x (NX s (sX s)) : Nat) : Int))), some (vI (((x : Nat) : Int)))] [] (M0 (ρ)) 0 0 (retE (MP σ (o_narrow s))) := by
  intro j
  induction j with
  | zero =>
    intro x hij ρ hLe hlo hhi
    obtain ⟨hu1, hu2, hu3, hu4, hu5, hu6, hu7, hu8⟩ := id hM1
    have hU := hu1.1
    have hN := hu2.1
    have hD := hu4.1
    have hMl := hu7.1
    have hQ := hu5.1
    refine Ev.iload_n dX8_narrow_28 rfl rfl ?_
    refine Ev.aload_n dX8_narrow_29 rfl rfl ?_
    refine gf_X8_93 (x := ((sU s : Nat) : Int)) rfl dX8_narrow_30 ltc_272 shc_272 ((congrFun (hLe 272 (by decide)) 1).trans hu1.2.1) ?_
    refine Ev.icmp_ge (tgt := 76) ⟨by omega, by omega⟩ ⟨by omega, by omega⟩ dX8_narrow_33 (by decide) (fun h33 => ?_) (fun h33 => ?_)
    · skip
      refine Ev.iload_n dX8_narrow_76 rfl rfl ?_
      exact Ev.ireturn dX8_narrow_77 rfl (rE (by unfold MP o_narrow; (repeat rw [Int.toNat_natCast]); rw [ifP_f (fun z => z hal)]; exact ⟨(by rw [show x = sU s by omega]), ⟨⟨hU, ((congrFun (hLe 272 (by decide)) 1).trans hu1.2.1), (hu1.2.2.1.cg fun y _ => congrFun (hLe 273 (by decide)) y), (fun y hy => ⟨hlo y (by have : y < sU s := hy; omega), (hXw y hy).2⟩)⟩, (hu2.cg ((congrFun (hLe 272 (by decide)) 8).trans rfl) (fun c q1 q2 => (hLe c (by omega)))), (hu3.cg (fun c i q1 q2 => congrFun (hLe c (by omega)) i)), (hu4.cg ((congrFun (hLe 272 (by decide)) 4).trans rfl) (fun c q1 q2 => (hLe c (by omega)))), (hu5.cg ((congrFun (hLe 272 (by decide)) 25).trans rfl) (hLe 292 (by decide))), (hu6.cg ((congrFun (hLe 272 (by decide)) 27).trans rfl) (hLe 293 (by decide))), (hu7.cg ((congrFun (hLe 272 (by decide)) 19).trans rfl) (fun c q1 q2 => (hLe c (by omega)))), ((congrFun (hLe 272 (by decide)) 24).trans hu8)⟩, (fun c q2 => ((hLe c (by omega)).trans (hk0 c q2)))⟩))
    · exact absurd h33 (by omega)
  | succ j ih =>
    intro x hij ρ hLe hlo hhi
    obtain ⟨hu1, hu2, hu3, hu4, hu5, hu6, hu7, hu8⟩ := id hM1
    have hU := hu1.1
    have hN := hu2.1
    have hD := hu4.1
    have hMl := hu7.1
    have hQ := hu5.1
    have hxl := (hu1.2.2.2 x (by omega)).2.2
    have hnl := (hXw x (by omega)).2.2
    have ht1 : totP (x + 1) (sX s) = totP x (sX s) + pop (sX s x) := rfl
    have ht2 : totP (x + 1) (NX s (sX s)) = totP x (NX s (sX s)) + pop ((NX s (sX s)) x) := rfl
    refine Ev.iload_n dX8_narrow_28 rfl rfl ?_
    refine Ev.aload_n dX8_narrow_29 rfl rfl ?_
    refine gf_X8_93 (x := ((sU s : Nat) : Int)) rfl dX8_narrow_30 ltc_272 shc_272 ((congrFun (hLe 272 (by decide)) 1).trans hu1.2.1) ?_
    refine Ev.icmp_ge (tgt := 76) ⟨by omega, by omega⟩ ⟨by omega, by omega⟩ dX8_narrow_33 (by decide) (fun h33 => ?_) (fun h33 => ?_)
    · exact absurd h33 (by omega)
    · skip
      refine Ev.iload_n dX8_narrow_36 rfl rfl ?_
      refine Ev.aload_n dX8_narrow_37 rfl rfl ?_
      refine gf_X8_13 rfl dX8_narrow_38 ltc_272 shc_272 rfc_272_3 ?_
      refine Ev.iload_n dX8_narrow_41 rfl rfl ?_
      refine Ev.iaload (v := ((sX s x : Nat) : Int)) dX8_narrow_42 ltc_274 shc_274 (by decide) (by omega) (by omega) (ldx rfl ((hhi x (by omega)).trans (hu1.2.2.2 x (by omega)).1)) ?_
      refine Ev.callS_I (M2 := mX8_many) (args2 := [vI (((sX s x : Nat) : Int))]) dX8_narrow_43 okX8_many lk_X8_123 osX8_many.1 osX8_many.2 (by decide) rfl (Nat.le_of_ble_eq_true rfl) (Nat.le_of_ble_eq_true rfl) (sM_many ρ (sX s x) (by omega)) ?_ rfl
      refine Ev.aload_n dX8_narrow_46 rfl rfl ?_
      refine gf_X8_78 rfl dX8_narrow_47 ltc_272 shc_272 rfc_272_29 ?_
      refine Ev.iload_n dX8_narrow_50 rfl rfl ?_
      refine Ev.iaload (v := (((NX s (sX s)) x : Nat) : Int)) dX8_narrow_51 ltc_294 shc_294 (by decide) (by omega) (by omega) (ldx rfl ((congrFun (hLe 294 (by decide)) x).trans (hXw x (by omega)).1)) ?_
      refine Ev.callS_I (M2 := mX8_many) (args2 := [vI ((((NX s (sX s)) x : Nat) : Int))]) dX8_narrow_52 okX8_many lk_X8_123 osX8_many.1 osX8_many.2 (by decide) rfl (Nat.le_of_ble_eq_true rfl) (Nat.le_of_ble_eq_true rfl) (sM_many ρ ((NX s (sX s)) x) (by omega)) ?_ rfl
      refine Ev.isub dX8_narrow_55 ?_
      refine Ev.iadd dX8_narrow_56 ?_
      refine Ev.istore_n (pl' := [some (vR (272)), some (vI ((((totP x (sX s) : Nat) : Int) - ((totP x (NX s (sX s)) : Nat) : Int) + (((pop (sX s x) : Nat) : Int) - ((pop ((NX s (sX s)) x) : Nat) : Int))))), some (vI (((x : Nat) : Int)))]) dX8_narrow_57 rfl (Nat.le_of_ble_eq_true rfl) rfl ?_
      refine Ev.aload_n dX8_narrow_58 rfl rfl ?_
      refine gf_X8_13 rfl dX8_narrow_59 ltc_272 shc_272 rfc_272_3 ?_
      refine Ev.iload_n dX8_narrow_62 rfl rfl ?_
      refine Ev.aload_n dX8_narrow_63 rfl rfl ?_
      refine gf_X8_78 rfl dX8_narrow_64 ltc_272 shc_272 rfc_272_29 ?_
      refine Ev.iload_n dX8_narrow_67 rfl rfl ?_
      refine Ev.iaload (v := (((NX s (sX s)) x : Nat) : Int)) dX8_narrow_68 ltc_294 shc_294 (by decide) (by omega) (by omega) (ldx rfl ((congrFun (hLe 294 (by decide)) x).trans (hXw x (by omega)).1)) ?_
      refine Ev.iastore dX8_narrow_69 ltc_274 shc_274 (by decide) (by omega) (by omega) ?_
      refine Ev.iinc (pl' := [some (vR (272)), some (vI ((((totP x (sX s) : Nat) : Int) - ((totP x (NX s (sX s)) : Nat) : Int) + (((pop (sX s x) : Nat) : Int) - ((pop ((NX s (sX s)) x) : Nat) : Int))))), some (vI (((x : Nat) : Int) + 1))]) dX8_narrow_70 rfl (Nat.le_of_ble_eq_true rfl) rfl ?_
      refine Ev.goto (tgt := 28) dX8_narrow_73 (by decide) ?_
      refine Ev.mem (τ := upC ρ 274 x ((NX s (sX s)) x : Int)) (upi rfl rfl) ?_
      refine Ev.wk (pl' := [some (vR (272)), some (vI (((totP (x + 1) (sX s) : Nat) : Int) - ((totP (x + 1) (NX s (sX s)) : Nat) : Int))), some (vI ((((x + 1) : Nat) : Int)))]) ⟨rfl, ⟨vIe (by omega), ⟨vIe (by omega), trivial⟩⟩⟩ ?_
      exact ih (x + 1) (by omega) _ (fun c a => (upC_ne a).trans (hLe c a)) (fun y hy => (Nat.lt_or_ge y x).elim (fun e => (upC_self (by omega)).trans (hlo y e)) (fun e => by rw [show y = x by omega]; exact upC_at)) (fun y hy => (upC_self (by omega)).trans (hhi y (by omega)))

set_option maxRecDepth 100000 in
set_option maxHeartbeats 4000000 in
theorem r_narrow {g : GC} (s : SS) (σ : Sg) (hM : MI s σ) : Ev g mX8_narrow 0 [some (vR (272)), none, none] [] (M0 (σ)) 0 0 (retE (MP σ (o_narrow s))) := by
  refine Ev.aload_n dX8_narrow_0 rfl rfl ?_
  refine Ev.iconst dX8_narrow_1 ?_
  refine pf_X8_90 rfl dX8_narrow_2 ltc_272 shc_272 ?_
  obtain ⟨σ1, hs1⟩ : ∃ ρ : Sg, ρ = upC σ 272 0 0 := ⟨_, rfl⟩
  refine Ev.mem (τ := σ1) hs1.symm ?_
  have hM1 : MI s σ1 := by rw [hs1]; exact hM.th
  have hk0 : ∀ c, c < 272 → σ1 c = σ c := fun c hc => by rw [hs1]; exact upC_ne (by omega)
  obtain ⟨hu1, hu2, hu3, hu4, hu5, hu6, hu7, hu8⟩ := id hM1
  have hU := hu1.1
  have hN := hu2.1
  have hD := hu4.1
  have hMl := hu7.1
  have hQ := hu5.1
  refine Ev.aload_n dX8_narrow_5 rfl rfl ?_
  refine Ev.iconst dX8_narrow_6 ?_
  refine Ev.callV_G (M2 := mX8_asideAs) (args2 := [vI (0)]) (rcv := 272) (q := (RX8, TX8, 34)) (ci := 8) dX8_narrow_7 okX8_asideAs lk_X8_207 ovX8_asideAs.1.1 ovX8_asideAs.1.2 ovX8_asideAs.2 (by decide) rfl rfl ltc_272 shc_272 rfl (Nat.le_of_ble_eq_true rfl) (Nat.le_of_ble_eq_true rfl) (sM_asN σ1 (sU s) hU hu1.2.1 (sG s) (sX s) (fun x hx => ⟨(hu1.2.2.1 x hx).1, (hu1.2.2.1 x hx).2.2⟩) (fun x hx => ⟨(hu1.2.2.2 x hx).1, (hu1.2.2.2 x hx).2.2⟩)) (fun v_ m_ hp_ => ?_) rfl
  obtain ⟨τ, rfl, rfl, hF, hA⟩ := hp_
  have hk0 := fun c (h : c < 272) => ((S294 hF).lo c h).trans (hk0 c h)
  have hM1 := hM1.scr (S294 hF)
  obtain ⟨hu1, hu2, hu3, hu4, hu5, hu6, hu7, hu8⟩ := id hM1
  have hU := hu1.1
  have hN := hu2.1
  have hD := hu4.1
  have hMl := hu7.1
  have hQ := hu5.1
  show Ev g mX8_narrow 10 [some (vR (272)), none, none] [] (M0 (τ)) 0 0 _
  refine Ev.aload_n dX8_narrow_10 rfl rfl ?_
  refine Ev.callV_G (M2 := mX8_narrowAside) (args2 := []) (rcv := 272) (q := (RX8, TX8, 34)) (ci := 8) dX8_narrow_11 okX8_narrowAside lk_X8_211 ovX8_narrowAside.1.1 ovX8_narrowAside.1.2 ovX8_narrowAside.2 (by decide) rfl rfl ltc_272 shc_272 rfl (Nat.le_of_ble_eq_true rfl) (Nat.le_of_ble_eq_true rfl) (r_nar hM1 (sX s) hA) (fun v_ m_ hp_ => ?_) rfl
  obtain ⟨τ2, rfl, rfl, hNP⟩ := hp_
  have hd := hNP.2.1
  have hXw := hNP.2.2.1
  obtain ⟨Yw, hYw⟩ := hNP.2.2.2
  have hk0 := fun c (h : c < 272) => ((hNP.scr).lo c h).trans (hk0 c h)
  have hM1 := hM1.scr (hNP.scr)
  obtain ⟨hu1, hu2, hu3, hu4, hu5, hu6, hu7, hu8⟩ := id hM1
  have hU := hu1.1
  have hN := hu2.1
  have hD := hu4.1
  have hMl := hu7.1
  have hQ := hu5.1
  show Ev g mX8_narrow 14 [some (vR (272)), none, none] [] (M0 (τ2)) 0 0 _
  refine Ev.aload_n dX8_narrow_14 rfl rfl ?_
  refine gf_X8_197 (x := bI (¬ AL s (sX s))) rfl dX8_narrow_15 ltc_272 shc_272 hd ?_
  refine Ev.if_eq (tgt := 24) bI_inR dX8_narrow_18 (by decide) (fun h18 => ?_) (fun h18 => ?_)
  · skip
    have q18 := bI_0.mp h18
    have hal : AL s (sX s) := Classical.byContradiction q18
    refine Ev.iconst dX8_narrow_24 ?_
    refine Ev.istore_n (pl' := [some (vR (272)), some (vI (0)), none]) dX8_narrow_25 rfl (Nat.le_of_ble_eq_true rfl) rfl ?_
    refine Ev.iconst dX8_narrow_26 ?_
    refine Ev.istore_n (pl' := [some (vR (272)), some (vI (0)), some (vI (0))]) dX8_narrow_27 rfl (Nat.le_of_ble_eq_true rfl) rfl ?_
    refine Ev.wk (pl' := [some (vR (272)), some (vI (((totP 0 (sX s) : Nat) : Int) - ((totP 0 (NX s (sX s)) : Nat) : Int))), some (vI (((0 : Nat) : Int)))]) ⟨rfl, ⟨vIe rfl, ⟨vIe rfl, trivial⟩⟩⟩ ?_
    exact r_narrow_l s σ τ2 hM1 hk0 hal (hXw hal) (sU s) 0 (by omega) τ2 (fun c _ => rfl) (fun y hy => absurd hy (by omega)) (fun y _ => rfl)
  · skip
    have q18 := bI_1.mp h18
    refine Ev.bipush (n := -3) (by decide) dX8_narrow_21 ?_
    exact Ev.ireturn dX8_narrow_23 rfl (rE (by unfold MP o_narrow; (repeat rw [Int.toNat_natCast]); rw [ifP_t q18]; exact ⟨rfl, hM1, hk0⟩))

set_option maxRecDepth 100000 in
set_option maxHeartbeats 4000000 in
theorem r_tk_in {g : GC} (s : SS) (σ σ1 : Sg) (hM1 : MI s σ1) (hk0 : ∀ c, c < 272 → σ1 c = σ c) (kr : Nat) (hkr : kr < sN s) (hXa : AV σ1 294 (sU s) (sX s)) (i : Nat) (hi : i < rN (sR s kr)) (acc : Int) {Post : Option PV → Mem → Prop} (hgo : Ev g mX8_takes 90 [some (vR (272)), some (vI (((kr : Nat) : Int))), some (vI (acc)), some (vI (((i : Nat) : Int))), some (vI (bI (∃ k, k < i ∧ rO (sR s kr) k = rO (sR s kr) i))), none] [] (M0 (σ1)) 0 0 Post) : ∀ j K : Nat, K + j = i → Ev g mX8_takes 40 [some (vR (272)), some (vI (((kr : Nat) : Int))), some (vI (acc)), some (vI (((i : Nat) : Int))), some (vI (bI (∃ k, k < K ∧ rO (sR s kr) k = rO (sR s kr) i))), some (vI (((K : Nat) : Int)))] [] (M0 (σ1)) 0 0 (Post) := by
  intro j
  induction j with
  | zero =>
    intro K hij
    obtain ⟨hu1, hu2, hu3, hu4, hu5, hu6, hu7, hu8⟩ := id hM1
    have hU := hu1.1
    have hN := hu2.1
    have hD := hu4.1
    have hMl := hu7.1
    have hQ := hu5.1
    have hMr := hu2.2.2.2 kr hkr
    have hW := hMr.2.1
    have hk16 : kr < 16 := by omega
    have hXl : ∀ x, x < sU s → sX s x < 65536 := fun x hx => (hXa x hx).2.2
    have hoi := hW.2.1 i hi
    have hn6 := hW.1.2.1
    refine Ev.iload dX8_takes_40 rfl ?_
    refine Ev.iload_n dX8_takes_42 rfl rfl ?_
    refine Ev.icmp_ge (tgt := 90) ⟨by omega, by omega⟩ ⟨by omega, by omega⟩ dX8_takes_43 (by decide) (fun h43 => ?_) (fun h43 => ?_)
    · skip
      refine Ev.wk (pl' := [some (vR (272)), some (vI (((kr : Nat) : Int))), some (vI (acc)), some (vI (((i : Nat) : Int))), some (vI (bI (∃ k, k < i ∧ rO (sR s kr) k = rO (sR s kr) i))), none]) ⟨rfl, ⟨rfl, ⟨rfl, ⟨rfl, ⟨vIe (by rw [show K = i by omega]), trivial⟩⟩⟩⟩⟩ ?_
      exact hgo
    · exact absurd h43 (by omega)
  | succ j ih =>
    intro K hij
    obtain ⟨hu1, hu2, hu3, hu4, hu5, hu6, hu7, hu8⟩ := id hM1
    have hU := hu1.1
    have hN := hu2.1
    have hD := hu4.1
    have hMl := hu7.1
    have hQ := hu5.1
    have hMr := hu2.2.2.2 kr hkr
    have hW := hMr.2.1
    have hk16 : kr < 16 := by omega
    have hXl : ∀ x, x < sU s → sX s x < 65536 := fun x hx => (hXa x hx).2.2
    have hoi := hW.2.1 i hi
    have hn6 := hW.1.2.1
    have hok := hW.2.1 K (by omega)
    refine Ev.iload dX8_takes_40 rfl ?_
    refine Ev.iload_n dX8_takes_42 rfl rfl ?_
    refine Ev.icmp_ge (tgt := 90) ⟨by omega, by omega⟩ ⟨by omega, by omega⟩ dX8_takes_43 (by decide) (fun h43 => ?_) (fun h43 => ?_)
    · exact absurd h43 (by omega)
    · skip
      refine Ev.iload dX8_takes_46 rfl ?_
      refine Ev.if_ne (tgt := 77) bI_inR dX8_takes_48 (by decide) (fun h48 => ?_) (fun h48 => ?_)
      · skip
        have q48 := bI_1.mp h48
        refine Ev.iconst dX8_takes_77 ?_
        refine Ev.goto (tgt := 82) dX8_takes_78 (by decide) ?_
        refine Ev.istore (pl' := [some (vR (272)), some (vI (((kr : Nat) : Int))), some (vI (acc)), some (vI (((i : Nat) : Int))), some (vI (1)), some (vI (((K : Nat) : Int)))]) dX8_takes_82 (Nat.le_of_ble_eq_true rfl) rfl ?_
        refine Ev.iinc (pl' := [some (vR (272)), some (vI (((kr : Nat) : Int))), some (vI (acc)), some (vI (((i : Nat) : Int))), some (vI (1)), some (vI (((K : Nat) : Int) + 1))]) dX8_takes_84 rfl (Nat.le_of_ble_eq_true rfl) rfl ?_
        refine Ev.goto (tgt := 40) dX8_takes_87 (by decide) ?_
        refine Ev.wk (pl' := [some (vR (272)), some (vI (((kr : Nat) : Int))), some (vI (acc)), some (vI (((i : Nat) : Int))), some (vI (bI (∃ k, k < (K + 1) ∧ rO (sR s kr) k = rO (sR s kr) i))), some (vI ((((K + 1) : Nat) : Int)))]) ⟨rfl, ⟨rfl, ⟨rfl, ⟨rfl, ⟨vIe (by first | exact bI_t (by obtain ⟨k, z1, z2⟩ := q48; exact ⟨k, by omega, z2⟩) | exact bI_t ⟨K, by omega, by omega⟩ | exact bI_f (fun z => q48 (by obtain ⟨j, z1, z2⟩ := z; exact ⟨j, (by have : j ≠ K := (fun e => by rw [e] at z2; omega); omega), z2⟩))), ⟨vIe (by omega), trivial⟩⟩⟩⟩⟩⟩ ?_
        exact ih (K + 1) (by omega)
      · skip
        have q48 := bI_0.mp h48
        refine Ev.aload_n dX8_takes_51 rfl rfl ?_
        refine gf_X8_41 rfl dX8_takes_52 ltc_272 shc_272 rfc_272_14 ?_
        refine Ev.bipush (n := 6) (by decide) dX8_takes_55 ?_
        refine Ev.iload_n dX8_takes_57 rfl rfl ?_
        refine Ev.imul dX8_takes_58 ?_
        refine Ev.iload dX8_takes_59 rfl ?_
        refine Ev.iadd dX8_takes_61 ?_
        refine Ev.iaload (v := ((rO (sR s kr) K : Nat) : Int)) dX8_takes_62 ltc_283 shc_283 (by decide) (by omega) (by omega) (ldx (n := 6 * kr + K) (by omega) (hMr.1.2.2.2.2 K (by omega)).1) ?_
        refine Ev.aload_n dX8_takes_63 rfl rfl ?_
        refine gf_X8_41 rfl dX8_takes_64 ltc_272 shc_272 rfc_272_14 ?_
        refine Ev.bipush (n := 6) (by decide) dX8_takes_67 ?_
        refine Ev.iload_n dX8_takes_69 rfl rfl ?_
        refine Ev.imul dX8_takes_70 ?_
        refine Ev.iload_n dX8_takes_71 rfl rfl ?_
        refine Ev.iadd dX8_takes_72 ?_
        refine Ev.iaload (v := ((rO (sR s kr) i : Nat) : Int)) dX8_takes_73 ltc_283 shc_283 (by decide) (by omega) (by omega) (ldx (n := 6 * kr + i) (by omega) (hMr.1.2.2.2.2 i (by omega)).1) ?_
        refine Ev.icmp_ne (tgt := 81) ⟨by omega, by omega⟩ ⟨by omega, by omega⟩ dX8_takes_74 (by decide) (fun h74 => ?_) (fun h74 => ?_)
        · skip
          refine Ev.iconst dX8_takes_81 ?_
          refine Ev.istore (pl' := [some (vR (272)), some (vI (((kr : Nat) : Int))), some (vI (acc)), some (vI (((i : Nat) : Int))), some (vI (0)), some (vI (((K : Nat) : Int)))]) dX8_takes_82 (Nat.le_of_ble_eq_true rfl) rfl ?_
          refine Ev.iinc (pl' := [some (vR (272)), some (vI (((kr : Nat) : Int))), some (vI (acc)), some (vI (((i : Nat) : Int))), some (vI (0)), some (vI (((K : Nat) : Int) + 1))]) dX8_takes_84 rfl (Nat.le_of_ble_eq_true rfl) rfl ?_
          refine Ev.goto (tgt := 40) dX8_takes_87 (by decide) ?_
          refine Ev.wk (pl' := [some (vR (272)), some (vI (((kr : Nat) : Int))), some (vI (acc)), some (vI (((i : Nat) : Int))), some (vI (bI (∃ k, k < (K + 1) ∧ rO (sR s kr) k = rO (sR s kr) i))), some (vI ((((K + 1) : Nat) : Int)))]) ⟨rfl, ⟨rfl, ⟨rfl, ⟨rfl, ⟨vIe (by first | exact bI_t (by obtain ⟨k, z1, z2⟩ := q48; exact ⟨k, by omega, z2⟩) | exact bI_t ⟨K, by omega, by omega⟩ | exact bI_f (fun z => q48 (by obtain ⟨j, z1, z2⟩ := z; exact ⟨j, (by have : j ≠ K := (fun e => by rw [e] at z2; omega); omega), z2⟩))), ⟨vIe (by omega), trivial⟩⟩⟩⟩⟩⟩ ?_
          exact ih (K + 1) (by omega)
        · skip
          refine Ev.iconst dX8_takes_77 ?_
          refine Ev.goto (tgt := 82) dX8_takes_78 (by decide) ?_
          refine Ev.istore (pl' := [some (vR (272)), some (vI (((kr : Nat) : Int))), some (vI (acc)), some (vI (((i : Nat) : Int))), some (vI (1)), some (vI (((K : Nat) : Int)))]) dX8_takes_82 (Nat.le_of_ble_eq_true rfl) rfl ?_
          refine Ev.iinc (pl' := [some (vR (272)), some (vI (((kr : Nat) : Int))), some (vI (acc)), some (vI (((i : Nat) : Int))), some (vI (1)), some (vI (((K : Nat) : Int) + 1))]) dX8_takes_84 rfl (Nat.le_of_ble_eq_true rfl) rfl ?_
          refine Ev.goto (tgt := 40) dX8_takes_87 (by decide) ?_
          refine Ev.wk (pl' := [some (vR (272)), some (vI (((kr : Nat) : Int))), some (vI (acc)), some (vI (((i : Nat) : Int))), some (vI (bI (∃ k, k < (K + 1) ∧ rO (sR s kr) k = rO (sR s kr) i))), some (vI ((((K + 1) : Nat) : Int)))]) ⟨rfl, ⟨rfl, ⟨rfl, ⟨rfl, ⟨vIe (by first | exact bI_t (by obtain ⟨k, z1, z2⟩ := q48; exact ⟨k, by omega, z2⟩) | exact bI_t ⟨K, by omega, by omega⟩ | exact bI_f (fun z => q48 (by obtain ⟨j, z1, z2⟩ := z; exact ⟨j, (by have : j ≠ K := (fun e => by rw [e] at z2; omega); omega), z2⟩))), ⟨vIe (by omega), trivial⟩⟩⟩⟩⟩⟩ ?_
          exact ih (K + 1) (by omega)

theorem totP_0 {n : Nat} {X : Rg} (h : ∀ x, X x = 0) : totP n X = 0 := by
  induction n with
  | zero => rfl
  | succ n ih => simp only [totP]; rw [ih, h n]; rfl
set_option maxRecDepth 100000 in
set_option maxHeartbeats 4000000 in
theorem r_tk_l {g : GC} (s : SS) (σ σ1 : Sg) (hM1 : MI s σ1) (hk0 : ∀ c, c < 272 → σ1 c = σ c) (kr : Nat) (hkr : kr < sN s) (hXa : AV σ1 294 (sU s) (sX s)) : ∀ j i : Nat, i + j = rN (sR s kr) → Ev g mX8_takes 24 [some (vR (272)), some (vI (((kr : Nat) : Int))), some (vI (((totP 10 (gU (sB s) (sR s kr) (sX s) i) : Nat) : Int))), some (vI (((i : Nat) : Int))), none, none] [] (M0 (σ1)) 0 0 (retE (MP σ (o_takes s (kr : Int)))) := by
  intro j
  induction j with
  | zero =>
    intro i hij
    obtain ⟨hu1, hu2, hu3, hu4, hu5, hu6, hu7, hu8⟩ := id hM1
    have hU := hu1.1
    have hN := hu2.1
    have hD := hu4.1
    have hMl := hu7.1
    have hQ := hu5.1
    have hMr := hu2.2.2.2 kr hkr
    have hW := hMr.2.1
    have hk16 : kr < 16 := by omega
    have hXl : ∀ x, x < sU s → sX s x < 65536 := fun x hx => (hXa x hx).2.2
    have hn6 := hW.1.2.1
    refine Ev.iload_n dX8_takes_24 rfl rfl ?_
    refine Ev.aload_n dX8_takes_25 rfl rfl ?_
    refine gf_X8_38 rfl dX8_takes_26 ltc_272 shc_272 rfc_272_13 ?_
    refine Ev.iload_n dX8_takes_29 rfl rfl ?_
    refine Ev.iaload (v := ((rN (sR s kr) : Nat) : Int)) dX8_takes_30 ltc_282 shc_282 (by decide) (by omega) (by omega) (ldx rfl (hu2.2.2.2 kr (by omega)).1.2.2.2.1) ?_
    refine Ev.icmp_ge (tgt := 127) ⟨by omega, by omega⟩ ⟨by omega, by omega⟩ dX8_takes_31 (by decide) (fun h31 => ?_) (fun h31 => ?_)
    · skip
      refine Ev.iload_n dX8_takes_127 rfl rfl ?_
      exact Ev.ireturn dX8_takes_128 rfl (rE (by unfold MP o_takes; (repeat rw [Int.toNat_natCast]); rw [ifP_f (by omega)]; exact ⟨(by rw [show rN (sR s kr) = i by omega]), hM1, hk0⟩))
    · exact absurd h31 (by omega)
  | succ j ih =>
    intro i hij
    obtain ⟨hu1, hu2, hu3, hu4, hu5, hu6, hu7, hu8⟩ := id hM1
    have hU := hu1.1
    have hN := hu2.1
    have hD := hu4.1
    have hMl := hu7.1
    have hQ := hu5.1
    have hMr := hu2.2.2.2 kr hkr
    have hW := hMr.2.1
    have hk16 : kr < 16 := by omega
    have hXl : ∀ x, x < sU s → sX s x < 65536 := fun x hx => (hXa x hx).2.2
    have hn6 := hW.1.2.1
    refine Ev.iload_n dX8_takes_24 rfl rfl ?_
    refine Ev.aload_n dX8_takes_25 rfl rfl ?_
    refine gf_X8_38 rfl dX8_takes_26 ltc_272 shc_272 rfc_272_13 ?_
    refine Ev.iload_n dX8_takes_29 rfl rfl ?_
    refine Ev.iaload (v := ((rN (sR s kr) : Nat) : Int)) dX8_takes_30 ltc_282 shc_282 (by decide) (by omega) (by omega) (ldx rfl (hu2.2.2.2 kr (by omega)).1.2.2.2.1) ?_
    refine Ev.icmp_ge (tgt := 127) ⟨by omega, by omega⟩ ⟨by omega, by omega⟩ dX8_takes_31 (by decide) (fun h31 => ?_) (fun h31 => ?_)
    · exact absurd h31 (by omega)
    · skip
      refine Ev.iconst dX8_takes_34 ?_
      refine Ev.istore (pl' := [some (vR (272)), some (vI (((kr : Nat) : Int))), some (vI (((totP 10 (gU (sB s) (sR s kr) (sX s) i) : Nat) : Int))), some (vI (((i : Nat) : Int))), some (vI (0)), none]) dX8_takes_35 (Nat.le_of_ble_eq_true rfl) rfl ?_
      refine Ev.iconst dX8_takes_37 ?_
      refine Ev.istore (pl' := [some (vR (272)), some (vI (((kr : Nat) : Int))), some (vI (((totP 10 (gU (sB s) (sR s kr) (sX s) i) : Nat) : Int))), some (vI (((i : Nat) : Int))), some (vI (0)), some (vI (0))]) dX8_takes_38 (Nat.le_of_ble_eq_true rfl) rfl ?_
      refine Ev.wk (pl' := [some (vR (272)), some (vI (((kr : Nat) : Int))), some (vI (((totP 10 (gU (sB s) (sR s kr) (sX s) i) : Nat) : Int))), some (vI (((i : Nat) : Int))), some (vI (bI (∃ k, k < 0 ∧ rO (sR s kr) k = rO (sR s kr) i))), some (vI (((0 : Nat) : Int)))]) ⟨rfl, ⟨rfl, ⟨rfl, ⟨rfl, ⟨vIe (bI_f (fun ⟨_, z, _⟩ => absurd z (by omega))), ⟨vIe rfl, trivial⟩⟩⟩⟩⟩⟩ ?_
      refine r_tk_in s σ σ1 hM1 hk0 kr hkr hXa i (by omega) _ ?_ i 0 (by omega)
      refine Ev.iload_n dX8_takes_90 rfl rfl ?_
      refine Ev.iload dX8_takes_91 rfl ?_
      refine Ev.if_eq (tgt := 100) bI_inR dX8_takes_93 (by decide) (fun h93 => ?_) (fun h93 => ?_)
      · skip
        have q93 := bI_0.mp h93
        have hXi := hXl _ (hW.2.1 i (by omega))
        have hll : lft (sB s) (sR s kr) (sX s) i < 65536 := lft_lt
        have hgl := gn_lft (T := sB s) (R := (sR s kr)) (X := sX s) (i := i) hXi
        have hfr := gU_fresh (T := sB s) hW hXl (show i < rN (sR s kr) by omega) q93
        refine Ev.aload_n dX8_takes_100 rfl rfl ?_
        refine Ev.iload_n dX8_takes_101 rfl rfl ?_
        refine Ev.iload_n dX8_takes_102 rfl rfl ?_
        refine Ev.callV_I (M2 := mX8_asideOf) (args2 := [vI (((kr : Nat) : Int)), vI (((i : Nat) : Int))]) (rcv := 272) (q := (RX8, TX8, 34)) (ci := 8) dX8_takes_103 okX8_asideOf lk_X8_155 ovX8_asideOf.1.1 ovX8_asideOf.1.2 ovX8_asideOf.2 (by decide) rfl rfl ltc_272 shc_272 rfl (Nat.le_of_ble_eq_true rfl) (Nat.le_of_ble_eq_true rfl) (sM_asideOf σ1 kr (sU s) (sR s kr) (sX s) hk16 hMr.1 hW hXa i (by omega)) ?_ rfl
        refine Ev.callS_I (M2 := mX8_many) (args2 := [vI (((sX s (rO (sR s kr) i) : Nat) : Int))]) dX8_takes_106 okX8_many lk_X8_123 osX8_many.1 osX8_many.2 (by decide) rfl (Nat.le_of_ble_eq_true rfl) (Nat.le_of_ble_eq_true rfl) (sM_many σ1 (sX s (rO (sR s kr) i)) (by omega)) ?_ rfl
        refine Ev.aload_n dX8_takes_109 rfl rfl ?_
        refine Ev.iload_n dX8_takes_110 rfl rfl ?_
        refine Ev.iload_n dX8_takes_111 rfl rfl ?_
        refine Ev.callV_I (M2 := mX8_left) (args2 := [vI (((kr : Nat) : Int)), vI (((i : Nat) : Int))]) (rcv := 272) (q := (RX8, TX8, 34)) (ci := 8) dX8_takes_112 okX8_left lk_X8_204 ovX8_left.1.1 ovX8_left.1.2 ovX8_left.2 (by decide) rfl rfl ltc_272 shc_272 rfl (Nat.le_of_ble_eq_true rfl) (Nat.le_of_ble_eq_true rfl) (sM_left σ1 kr (sU s) (sR s kr) (sX s) hk16 hMr.1 hW hXa i (by omega) (sB s) hu3) ?_ rfl
        refine Ev.callS_I (M2 := mX8_many) (args2 := [vI (((lft (sB s) (sR s kr) (sX s) i : Nat) : Int))]) dX8_takes_115 okX8_many lk_X8_123 osX8_many.1 osX8_many.2 (by decide) rfl (Nat.le_of_ble_eq_true rfl) (Nat.le_of_ble_eq_true rfl) (sM_many σ1 (lft (sB s) (sR s kr) (sX s) i) (by omega)) ?_ rfl
        refine Ev.isub dX8_takes_118 ?_
        refine Ev.iadd dX8_takes_119 ?_
        refine Ev.istore_n (pl' := [some (vR (272)), some (vI (((kr : Nat) : Int))), some (vI ((((totP 10 (gU (sB s) (sR s kr) (sX s) i) : Nat) : Int) + (((pop (sX s (rO (sR s kr) i)) : Nat) : Int) - ((pop (lft (sB s) (sR s kr) (sX s) i) : Nat) : Int))))), some (vI (((i : Nat) : Int))), some (vI (bI (∃ k, k < i ∧ rO (sR s kr) k = rO (sR s kr) i))), none]) dX8_takes_120 rfl (Nat.le_of_ble_eq_true rfl) rfl ?_
        refine Ev.iinc (pl' := [some (vR (272)), some (vI (((kr : Nat) : Int))), some (vI ((((totP 10 (gU (sB s) (sR s kr) (sX s) i) : Nat) : Int) + (((pop (sX s (rO (sR s kr) i)) : Nat) : Int) - ((pop (lft (sB s) (sR s kr) (sX s) i) : Nat) : Int))))), some (vI (((i : Nat) : Int) + 1)), some (vI (bI (∃ k, k < i ∧ rO (sR s kr) k = rO (sR s kr) i))), none]) dX8_takes_121 rfl (Nat.le_of_ble_eq_true rfl) rfl ?_
        refine Ev.goto (tgt := 24) dX8_takes_124 (by decide) ?_
        refine Ev.wk (pl' := [some (vR (272)), some (vI (((kr : Nat) : Int))), some (vI (((totP 10 (gU (sB s) (sR s kr) (sX s) (i + 1)) : Nat) : Int))), some (vI ((((i + 1) : Nat) : Int))), none, none]) ⟨rfl, ⟨rfl, ⟨vIe (by omega), ⟨vIe (by omega), trivial⟩⟩⟩⟩ ?_
        exact ih (i + 1) (by omega)
      · skip
        have q93 := bI_1.mp h93
        have hXi := hXl _ (hW.2.1 i (by omega))
        have hll : lft (sB s) (sR s kr) (sX s) i < 65536 := lft_lt
        have hgl := gn_lft (T := sB s) (R := (sR s kr)) (X := sX s) (i := i) hXi
        have hag : totP 10 (gU (sB s) (sR s kr) (sX s) (i + 1)) = totP 10 (gU (sB s) (sR s kr) (sX s) i) := by obtain ⟨k, z1, z2⟩ := q93; exact gU_again hW hXl (by omega) z1 z2
        refine Ev.iconst dX8_takes_96 ?_
        refine Ev.goto (tgt := 119) dX8_takes_97 (by decide) ?_
        refine Ev.iadd dX8_takes_119 ?_
        refine Ev.istore_n (pl' := [some (vR (272)), some (vI (((kr : Nat) : Int))), some (vI ((((totP 10 (gU (sB s) (sR s kr) (sX s) i) : Nat) : Int) + 0))), some (vI (((i : Nat) : Int))), some (vI (bI (∃ k, k < i ∧ rO (sR s kr) k = rO (sR s kr) i))), none]) dX8_takes_120 rfl (Nat.le_of_ble_eq_true rfl) rfl ?_
        refine Ev.iinc (pl' := [some (vR (272)), some (vI (((kr : Nat) : Int))), some (vI ((((totP 10 (gU (sB s) (sR s kr) (sX s) i) : Nat) : Int) + 0))), some (vI (((i : Nat) : Int) + 1)), some (vI (bI (∃ k, k < i ∧ rO (sR s kr) k = rO (sR s kr) i))), none]) dX8_takes_121 rfl (Nat.le_of_ble_eq_true rfl) rfl ?_
        refine Ev.goto (tgt := 24) dX8_takes_124 (by decide) ?_
        refine Ev.wk (pl' := [some (vR (272)), some (vI (((kr : Nat) : Int))), some (vI (((totP 10 (gU (sB s) (sR s kr) (sX s) (i + 1)) : Nat) : Int))), some (vI ((((i + 1) : Nat) : Int))), none, none]) ⟨rfl, ⟨rfl, ⟨vIe (by omega), ⟨vIe (by omega), trivial⟩⟩⟩⟩ ?_
        exact ih (i + 1) (by omega)

set_option maxRecDepth 100000 in
set_option maxHeartbeats 4000000 in
theorem r_takes {g : GC} (s : SS) (σ : Sg) (hM : MI s σ) (r : Int) (h_r : inR r) : Ev g mX8_takes 0 [some (vR (272)), some (vI (r)), none, none, none, none] [] (M0 (σ)) 0 0 (retE (MP σ (o_takes s r))) := by
  refine Ev.aload_n dX8_takes_0 rfl rfl ?_
  refine Ev.iconst dX8_takes_1 ?_
  refine pf_X8_90 rfl dX8_takes_2 ltc_272 shc_272 ?_
  obtain ⟨σ1, hs1⟩ : ∃ ρ : Sg, ρ = upC σ 272 0 0 := ⟨_, rfl⟩
  refine Ev.mem (τ := σ1) hs1.symm ?_
  have hM1 : MI s σ1 := by rw [hs1]; exact hM.th
  have hk0 : ∀ c, c < 272 → σ1 c = σ c := fun c hc => by rw [hs1]; exact upC_ne (by omega)
  obtain ⟨hu1, hu2, hu3, hu4, hu5, hu6, hu7, hu8⟩ := id hM1
  have hU := hu1.1
  have hN := hu2.1
  have hD := hu4.1
  have hMl := hu7.1
  have hQ := hu5.1
  refine Ev.aload_n dX8_takes_5 rfl rfl ?_
  refine Ev.iload_n dX8_takes_6 rfl rfl ?_
  refine Ev.callV_I (M2 := mX8_noRule) (args2 := [vI (r)]) (rcv := 272) (q := (RX8, TX8, 34)) (ci := 8) dX8_takes_7 okX8_noRule lk_X8_137 ovX8_noRule.1.1 ovX8_noRule.1.2 ovX8_noRule.2 (by decide) rfl rfl ltc_272 shc_272 rfl (Nat.le_of_ble_eq_true rfl) (Nat.le_of_ble_eq_true rfl) (sM_noRule σ1 (sN s) hN hu2.2.1 (r) ⟨by omega, by omega⟩) ?_ rfl
  refine Ev.if_eq (tgt := 15) bI_inR dX8_takes_10 (by decide) (fun h10 => ?_) (fun h10 => ?_)
  · skip
    have q10 := bI_0.mp h10
    obtain ⟨kr, rfl⟩ : ∃ n_ : Nat, r = (n_ : Int) := ⟨r.toNat, by omega⟩
    refine Ev.aload_n dX8_takes_15 rfl rfl ?_
    refine Ev.iconst dX8_takes_16 ?_
    refine Ev.callV_G (M2 := mX8_asideAs) (args2 := [vI (0)]) (rcv := 272) (q := (RX8, TX8, 34)) (ci := 8) dX8_takes_17 okX8_asideAs lk_X8_207 ovX8_asideAs.1.1 ovX8_asideAs.1.2 ovX8_asideAs.2 (by decide) rfl rfl ltc_272 shc_272 rfl (Nat.le_of_ble_eq_true rfl) (Nat.le_of_ble_eq_true rfl) (sM_asN σ1 (sU s) hU hu1.2.1 (sG s) (sX s) (fun x hx => ⟨(hu1.2.2.1 x hx).1, (hu1.2.2.1 x hx).2.2⟩) (fun x hx => ⟨(hu1.2.2.2 x hx).1, (hu1.2.2.2 x hx).2.2⟩)) (fun v_ m_ hp_ => ?_) rfl
    obtain ⟨τ, rfl, rfl, hF, hA⟩ := hp_
    have hk0 := fun c (h : c < 272) => ((S294 hF).lo c h).trans (hk0 c h)
    have hM1 := hM1.scr (S294 hF)
    obtain ⟨hu1, hu2, hu3, hu4, hu5, hu6, hu7, hu8⟩ := id hM1
    have hU := hu1.1
    have hN := hu2.1
    have hD := hu4.1
    have hMl := hu7.1
    have hQ := hu5.1
    show Ev g mX8_takes 20 [some (vR (272)), some (vI (((kr : Nat) : Int))), none, none, none, none] [] (M0 (τ)) 0 0 _
    refine Ev.iconst dX8_takes_20 ?_
    refine Ev.istore_n (pl' := [some (vR (272)), some (vI (((kr : Nat) : Int))), some (vI (0)), none, none, none]) dX8_takes_21 rfl (Nat.le_of_ble_eq_true rfl) rfl ?_
    refine Ev.iconst dX8_takes_22 ?_
    refine Ev.istore_n (pl' := [some (vR (272)), some (vI (((kr : Nat) : Int))), some (vI (0)), some (vI (0)), none, none]) dX8_takes_23 rfl (Nat.le_of_ble_eq_true rfl) rfl ?_
    refine Ev.wk (pl' := [some (vR (272)), some (vI (((kr : Nat) : Int))), some (vI (((totP 10 (gU (sB s) (sR s kr) (sX s) 0) : Nat) : Int))), some (vI (((0 : Nat) : Int))), none, none]) ⟨rfl, ⟨rfl, ⟨vIe (by rw [show totP 10 (gU (sB s) (sR s kr) (sX s) 0) = 0 from totP_0 (fun x => gU_no (fun ⟨_, z, _⟩ => absurd z (by omega)))]; rfl), ⟨vIe rfl, trivial⟩⟩⟩⟩ ?_
    exact r_tk_l s σ τ hM1 hk0 kr (by omega) (hA.av (fun x hx => (hu1.2.2.2 x hx).2)) (rN (sR s kr)) 0 (by omega)
  · skip
    have q10 := bI_1.mp h10
    refine Ev.iconst dX8_takes_13 ?_
    exact Ev.ireturn dX8_takes_14 rfl (rE (by unfold MP o_takes; (repeat rw [Int.toNat_natCast]); rw [ifP_t (by omega)]; exact ⟨rfl, hM1, hk0⟩))

set_option maxRecDepth 100000 in
set_option maxHeartbeats 4000000 in
theorem r_step_l {g : GC} (s : SS) (σ σ1 : Sg) (hM1 : MI s σ1) (hk0 : ∀ c, c < 272 → σ1 c = σ c) (kx kv : Nat) (k : Int) (hkx : kx < sU s) (hk : 0 ≤ k ∧ k ≤ 3) (hkv : kv < 16) (hz0 : (sX s kx &&& nS k kv) ≠ 0) (hD2 : sD s < 12) : ∀ j K : Nat, K + j = 10 → ∀ ρ : Sg, (∀ c, c ≠ 277 → ρ c = σ1 c) → (∀ i, ¬ (10 * sD s ≤ i ∧ i < 10 * sD s + 10) → ρ 277 i = σ1 277 i) → (∀ q, q < K → ρ 277 (10 * sD s + q) = σ1 274 q) → Ev g mX8_step 79 [some (vR (272)), some (vI (((kx : Nat) : Int))), some (vI (k)), some (vI (((kv : Nat) : Int))), some (vI (((nS k kv : Nat) : Int))), some (vI (((K : Nat) : Int)))] [] (M0 (ρ)) 0 0 (retE (MP σ (o_step s (kx : Int) k (kv : Int)))) := by
  intro j
  induction j with
  | zero =>
    intro K hij ρ hLe ho hz
    obtain ⟨hu1, hu2, hu3, hu4, hu5, hu6, hu7, hu8⟩ := id hM1
    have hU := hu1.1
    have hN := hu2.1
    have hD := hu4.1
    have hMl := hu7.1
    have hQ := hu5.1
    have hxl := (hu1.2.2.2 kx (by omega)).2.2
    have hnl : nS k kv < 65536 := nS_lt hkv
    have hzl : (sX s kx &&& nS k kv) < 65536 := and_ltN hxl
    refine Ev.iload dX8_step_79 rfl ?_
    refine Ev.bipush (n := 10) (by decide) dX8_step_81 ?_
    refine Ev.icmp_ge (tgt := 114) ⟨by omega, by omega⟩ ⟨by decide, by decide⟩ dX8_step_83 (by decide) (fun h83 => ?_) (fun h83 => ?_)
    · skip
      refine Ev.aload_n dX8_step_114 rfl rfl ?_
      refine gf_X8_16 rfl dX8_step_115 ltc_272 shc_272 rfc_272_5 ?_
      refine Ev.aload_n dX8_step_118 rfl rfl ?_
      refine gf_X8_109 (x := ((sD s : Nat) : Int)) rfl dX8_step_119 ltc_272 shc_272 ((congrFun (hLe 272 (by decide)) 4).trans hu4.2.1) ?_
      refine Ev.iload_n dX8_step_122 rfl rfl ?_
      refine Ev.iastore dX8_step_123 ltc_275 shc_275 (by decide) (by omega) (by omega) ?_
      refine Ev.mem (τ := upC ρ 275 (sD s) (kx : Int)) (upi rfl rfl) ?_
      refine Ev.aload_n dX8_step_124 rfl rfl ?_
      refine gf_X8_19 rfl dX8_step_125 ltc_272 shc_272 rfc_272_6 ?_
      refine Ev.aload_n dX8_step_128 rfl rfl ?_
      refine gf_X8_109 (x := ((sD s : Nat) : Int)) rfl dX8_step_129 ltc_272 shc_272 (show (upC ρ 275 (sD s) (kx : Int)) 272 4 = ((sD s : Nat) : Int) from ((congrFun (upC_ne (by decide)) 4).trans ((congrFun (hLe 272 (by decide)) 4).trans hu4.2.1))) ?_
      refine Ev.iload dX8_step_132 rfl ?_
      refine Ev.iastore dX8_step_134 ltc_276 shc_276 (by decide) (by omega) (by omega) ?_
      refine Ev.mem (τ := upC (upC ρ 275 (sD s) (kx : Int)) 276 (sD s) (nS k kv : Int)) (upi rfl rfl) ?_
      refine Ev.aload_n dX8_step_135 rfl rfl ?_
      refine gf_X8_13 rfl dX8_step_136 ltc_272 shc_272 rfc_272_3 ?_
      refine Ev.iload_n dX8_step_139 rfl rfl ?_
      refine Ev.dup2RI dX8_step_140 ?_
      refine Ev.iaload (v := ((sX s kx : Nat) : Int)) dX8_step_141 ltc_274 shc_274 (by decide) (by omega) (by omega) (show (upC (upC ρ 275 (sD s) (kx : Int)) 276 (sD s) (nS k kv : Int)) 274 (((kx : Nat) : Int)).toNat = ((sX s kx : Nat) : Int) from (ldx rfl ((congrFun (upC_ne (by decide)) kx).trans ((congrFun (upC_ne (by decide)) kx).trans ((congrFun (hLe 274 (by decide)) kx).trans (hu1.2.2.2 kx (by omega)).1))))) ?_
      refine Ev.iload dX8_step_142 rfl ?_
      refine Ev.iand dX8_step_144 ?_
      rw [show (iAnd (((sX s kx : Nat) : Int)) (((nS k kv : Nat) : Int))) = (((sX s kx &&& nS k kv) : Nat) : Int) from iAnd_nat (by omega)]
      refine Ev.iastore dX8_step_145 ltc_274 shc_274 (by decide) (by omega) (by omega) ?_
      refine Ev.mem (τ := upC (upC (upC ρ 275 (sD s) (kx : Int)) 276 (sD s) (nS k kv : Int)) 274 kx ((sX s kx &&& nS k kv) : Int)) (upi rfl rfl) ?_
      refine Ev.aload_n dX8_step_146 rfl rfl ?_
      refine Ev.dupR dX8_step_147 ?_
      refine gf_X8_109 (x := ((sD s : Nat) : Int)) rfl dX8_step_148 ltc_272 shc_272 (show (upC (upC (upC ρ 275 (sD s) (kx : Int)) 276 (sD s) (nS k kv : Int)) 274 kx ((sX s kx &&& nS k kv) : Int)) 272 4 = ((sD s : Nat) : Int) from ((congrFun (upC_ne (by decide)) 4).trans ((congrFun (upC_ne (by decide)) 4).trans ((congrFun (upC_ne (by decide)) 4).trans ((congrFun (hLe 272 (by decide)) 4).trans hu4.2.1))))) ?_
      refine Ev.iconst dX8_step_151 ?_
      refine Ev.iadd dX8_step_152 ?_
      refine pf_X8_109 rfl dX8_step_153 ltc_272 shc_272 ?_
      refine Ev.mem (τ := upC (upC (upC (upC ρ 275 (sD s) (kx : Int)) 276 (sD s) (nS k kv : Int)) 274 kx ((sX s kx &&& nS k kv) : Int)) 272 4 ((sD s + 1 : Nat) : Int)) (by rw [show ((sD s : Nat) : Int) + 1 = ((sD s + 1 : Nat) : Int) by omega]) ?_
      refine Ev.aload_n dX8_step_156 rfl rfl ?_
      refine gf_X8_109 (x := (((sD s + 1) : Nat) : Int)) rfl dX8_step_157 ltc_272 shc_272 (show (upC (upC (upC (upC ρ 275 (sD s) (kx : Int)) 276 (sD s) (nS k kv : Int)) 274 kx ((sX s kx &&& nS k kv) : Int)) 272 4 ((sD s + 1 : Nat) : Int)) 272 4 = (((sD s + 1) : Nat) : Int) from upC_at) ?_
      refine Ev.iconst dX8_step_160 ?_
      refine Ev.isub dX8_step_161 ?_
      exact Ev.ireturn dX8_step_162 rfl (rE (by unfold MP o_step; (repeat rw [Int.toNat_natCast]); rw [ifP_f (by omega), ifP_f (by omega), ifP_f hz0, ifP_f (by omega)]; exact ⟨(by show _ = ((sD s : Nat) : Int); omega), ⟨⟨hU, ((upC_self (by decide)).trans ((congrFun (upC_ne (by decide)) 1).trans ((congrFun (upC_ne (by decide)) 1).trans ((congrFun (upC_ne (by decide)) 1).trans ((congrFun (hLe 272 (by decide)) 1).trans hu1.2.1))))), (hu1.2.2.1.cg fun y _ => congrFun ((upC_ne (by decide)).trans ((upC_ne (by decide)).trans ((upC_ne (by decide)).trans ((upC_ne (by decide)).trans (hLe 273 (by decide)))))) y), (av_set2 hu1.2.2.2 ⟨hz0, by omega⟩ (fun i => (congrFun (upC_ne (by decide)) i).trans (upC_cong (congrFun ((upC_ne (by decide)).trans ((upC_ne (by decide)).trans (hLe 274 (by decide)))) i))))⟩, (hu2.cg ((upC_self (by decide)).trans ((congrFun (upC_ne (by decide)) 8).trans ((congrFun (upC_ne (by decide)) 8).trans ((congrFun (upC_ne (by decide)) 8).trans ((congrFun (hLe 272 (by decide)) 8).trans rfl))))) (fun c q1 q2 => ((upC_ne (Nat.ne_of_gt (Nat.lt_of_lt_of_le (show 272 < 278 by decide) q1))).trans ((upC_ne (Nat.ne_of_gt (Nat.lt_of_lt_of_le (show 274 < 278 by decide) q1))).trans ((upC_ne (Nat.ne_of_gt (Nat.lt_of_lt_of_le (show 276 < 278 by decide) q1))).trans ((upC_ne (Nat.ne_of_gt (Nat.lt_of_lt_of_le (show 275 < 278 by decide) q1))).trans (hLe c (by omega)))))))), (hu3.cg (fun c i q1 q2 => congrFun ((upC_ne (Nat.ne_of_gt (Nat.lt_of_lt_of_le (show 272 < 286 by decide) q1))).trans ((upC_ne (Nat.ne_of_gt (Nat.lt_of_lt_of_le (show 274 < 286 by decide) q1))).trans ((upC_ne (Nat.ne_of_gt (Nat.lt_of_lt_of_le (show 276 < 286 by decide) q1))).trans ((upC_ne (Nat.ne_of_gt (Nat.lt_of_lt_of_le (show 275 < 286 by decide) q1))).trans (hLe c (by omega)))))) i)), (u4_step hU hu4 (show sD s < 12 by omega) (show kx < sU s by omega) (nS_lt (by omega)) hu1.2.2.2 upC_at (fun i => (congrFun ((upC_ne (by decide)).trans ((upC_ne (by decide)).trans (upC_ne (by decide)))) i).trans (upC_cong (congrFun (hLe 275 (by decide)) i))) (fun i => (congrFun ((upC_ne (by decide)).trans (upC_ne (by decide))) i).trans (upC_cong (congrFun ((upC_ne (by decide)).trans (hLe 276 (by decide))) i))) (fun i hi => (congrFun ((upC_ne (by decide)).trans ((upC_ne (by decide)).trans ((upC_ne (by decide)).trans ((upC_ne (by decide)).trans rfl)))) i).trans (ho i hi)) (fun q hq => (congrFun ((upC_ne (by decide)).trans ((upC_ne (by decide)).trans ((upC_ne (by decide)).trans ((upC_ne (by decide)).trans rfl)))) _).trans (hz q (by omega)))), (hu5.cg ((upC_self (by decide)).trans ((congrFun (upC_ne (by decide)) 25).trans ((congrFun (upC_ne (by decide)) 25).trans ((congrFun (upC_ne (by decide)) 25).trans ((congrFun (hLe 272 (by decide)) 25).trans rfl))))) ((upC_ne (by decide)).trans ((upC_ne (by decide)).trans ((upC_ne (by decide)).trans ((upC_ne (by decide)).trans (hLe 292 (by decide))))))), (hu6.cg ((upC_self (by decide)).trans ((congrFun (upC_ne (by decide)) 27).trans ((congrFun (upC_ne (by decide)) 27).trans ((congrFun (upC_ne (by decide)) 27).trans ((congrFun (hLe 272 (by decide)) 27).trans rfl))))) ((upC_ne (by decide)).trans ((upC_ne (by decide)).trans ((upC_ne (by decide)).trans ((upC_ne (by decide)).trans (hLe 293 (by decide))))))), (hu7.cg ((upC_self (by decide)).trans ((congrFun (upC_ne (by decide)) 19).trans ((congrFun (upC_ne (by decide)) 19).trans ((congrFun (upC_ne (by decide)) 19).trans ((congrFun (hLe 272 (by decide)) 19).trans rfl))))) (fun c q1 q2 => ((upC_ne (Nat.ne_of_gt (Nat.lt_of_lt_of_le (show 272 < 288 by decide) q1))).trans ((upC_ne (Nat.ne_of_gt (Nat.lt_of_lt_of_le (show 274 < 288 by decide) q1))).trans ((upC_ne (Nat.ne_of_gt (Nat.lt_of_lt_of_le (show 276 < 288 by decide) q1))).trans ((upC_ne (Nat.ne_of_gt (Nat.lt_of_lt_of_le (show 275 < 288 by decide) q1))).trans (hLe c (by omega)))))))), ((upC_self (by decide)).trans ((congrFun (upC_ne (by decide)) 24).trans ((congrFun (upC_ne (by decide)) 24).trans ((congrFun (upC_ne (by decide)) 24).trans ((congrFun (hLe 272 (by decide)) 24).trans hu8)))))⟩, (fun c q2 => ((upC_ne (Nat.ne_of_lt (Nat.lt_of_lt_of_le q2 (show 272 ≤ 272 by decide)))).trans ((upC_ne (Nat.ne_of_lt (Nat.lt_of_lt_of_le q2 (show 272 ≤ 274 by decide)))).trans ((upC_ne (Nat.ne_of_lt (Nat.lt_of_lt_of_le q2 (show 272 ≤ 276 by decide)))).trans ((upC_ne (Nat.ne_of_lt (Nat.lt_of_lt_of_le q2 (show 272 ≤ 275 by decide)))).trans ((hLe c (by omega)).trans (hk0 c q2)))))))⟩))
    · exact absurd h83 (by omega)
  | succ j ih =>
    intro K hij ρ hLe ho hz
    obtain ⟨hu1, hu2, hu3, hu4, hu5, hu6, hu7, hu8⟩ := id hM1
    have hU := hu1.1
    have hN := hu2.1
    have hD := hu4.1
    have hMl := hu7.1
    have hQ := hu5.1
    have hxl := (hu1.2.2.2 kx (by omega)).2.2
    have hnl : nS k kv < 65536 := nS_lt hkv
    have hzl : (sX s kx &&& nS k kv) < 65536 := and_ltN hxl
    refine Ev.iload dX8_step_79 rfl ?_
    refine Ev.bipush (n := 10) (by decide) dX8_step_81 ?_
    refine Ev.icmp_ge (tgt := 114) ⟨by omega, by omega⟩ ⟨by decide, by decide⟩ dX8_step_83 (by decide) (fun h83 => ?_) (fun h83 => ?_)
    · exact absurd h83 (by omega)
    · skip
      refine Ev.aload_n dX8_step_86 rfl rfl ?_
      refine gf_X8_22 rfl dX8_step_87 ltc_272 shc_272 rfc_272_7 ?_
      refine Ev.bipush (n := 10) (by decide) dX8_step_90 ?_
      refine Ev.aload_n dX8_step_92 rfl rfl ?_
      refine gf_X8_109 (x := ((sD s : Nat) : Int)) rfl dX8_step_93 ltc_272 shc_272 ((congrFun (hLe 272 (by decide)) 4).trans hu4.2.1) ?_
      refine Ev.imul dX8_step_96 ?_
      refine Ev.iload dX8_step_97 rfl ?_
      refine Ev.iadd dX8_step_99 ?_
      refine Ev.aload_n dX8_step_100 rfl rfl ?_
      refine gf_X8_13 rfl dX8_step_101 ltc_272 shc_272 rfc_272_3 ?_
      refine Ev.iload dX8_step_104 rfl ?_
      refine Ev.iaload (v := (σ1 274 K)) dX8_step_106 ltc_274 shc_274 (by decide) (by omega) (by omega) (ldx rfl (congrFun (hLe 274 (by decide)) K)) ?_
      refine Ev.iastore dX8_step_107 ltc_277 shc_277 (by decide) (by omega) (by omega) ?_
      refine Ev.iinc (pl' := [some (vR (272)), some (vI (((kx : Nat) : Int))), some (vI (k)), some (vI (((kv : Nat) : Int))), some (vI (((nS k kv : Nat) : Int))), some (vI (((K : Nat) : Int) + 1))]) dX8_step_108 rfl (Nat.le_of_ble_eq_true rfl) rfl ?_
      refine Ev.goto (tgt := 79) dX8_step_111 (by decide) ?_
      refine Ev.mem (τ := upC ρ 277 (10 * sD s + K) (σ1 274 K)) (upi (by omega) rfl) ?_
      refine Ev.wk (pl' := [some (vR (272)), some (vI (((kx : Nat) : Int))), some (vI (k)), some (vI (((kv : Nat) : Int))), some (vI (((nS k kv : Nat) : Int))), some (vI ((((K + 1) : Nat) : Int)))]) ⟨rfl, ⟨rfl, ⟨rfl, ⟨rfl, ⟨rfl, ⟨vIe (by omega), trivial⟩⟩⟩⟩⟩⟩ ?_
      exact ih (K + 1) (by omega) _ (fun c a => (upC_ne a).trans (hLe c a)) (fun i hi => (upC_self (by omega)).trans (ho i hi)) (fun q hq => (Nat.lt_or_ge q K).elim (fun e => (upC_self (by omega)).trans (hz q e)) (fun e => by rw [show q = K by omega]; exact upC_at))

set_option maxRecDepth 100000 in
set_option maxHeartbeats 4000000 in
theorem r_step {g : GC} (s : SS) (σ : Sg) (hM : MI s σ) (x : Int) (h_x : inR x) (k : Int) (h_k : inR k) (v : Int) (h_v : inR v) : Ev g mX8_step 0 [some (vR (272)), some (vI (x)), some (vI (k)), some (vI (v)), none, none] [] (M0 (σ)) 0 0 (retE (MP σ (o_step s x k v))) := by
  refine Ev.aload_n dX8_step_0 rfl rfl ?_
  refine Ev.iconst dX8_step_1 ?_
  refine pf_X8_90 rfl dX8_step_2 ltc_272 shc_272 ?_
  obtain ⟨σ1, hs1⟩ : ∃ ρ : Sg, ρ = upC σ 272 0 0 := ⟨_, rfl⟩
  refine Ev.mem (τ := σ1) hs1.symm ?_
  have hM1 : MI s σ1 := by rw [hs1]; exact hM.th
  have hk0 : ∀ c, c < 272 → σ1 c = σ c := fun c hc => by rw [hs1]; exact upC_ne (by omega)
  obtain ⟨hu1, hu2, hu3, hu4, hu5, hu6, hu7, hu8⟩ := id hM1
  have hU := hu1.1
  have hN := hu2.1
  have hD := hu4.1
  have hMl := hu7.1
  have hQ := hu5.1
  refine Ev.aload_n dX8_step_5 rfl rfl ?_
  refine Ev.iload_n dX8_step_6 rfl rfl ?_
  refine Ev.callV_I (M2 := mX8_noUnknown) (args2 := [vI (x)]) (rcv := 272) (q := (RX8, TX8, 34)) (ci := 8) dX8_step_7 okX8_noUnknown lk_X8_119 ovX8_noUnknown.1.1 ovX8_noUnknown.1.2 ovX8_noUnknown.2 (by decide) rfl rfl ltc_272 shc_272 rfl (Nat.le_of_ble_eq_true rfl) (Nat.le_of_ble_eq_true rfl) (sM_noUnknown σ1 (sU s) hU hu1.2.1 (x) ⟨by omega, by omega⟩) ?_ rfl
  refine Ev.if_eq (tgt := 15) bI_inR dX8_step_10 (by decide) (fun h10 => ?_) (fun h10 => ?_)
  · skip
    have q10 := bI_0.mp h10
    obtain ⟨kx, rfl⟩ : ∃ n_ : Nat, x = (n_ : Int) := ⟨x.toNat, by omega⟩
    have hxl := (hu1.2.2.2 kx (by omega)).2.2
    refine Ev.iload_n dX8_step_15 rfl rfl ?_
    refine Ev.i2l ⟨by omega, by omega⟩ dX8_step_16 ?_
    refine Ev.lconst 0 rfl dX8_step_17 ?_
    refine Ev.ldc2 (n := 3) (tbl_i 851 (by decide +kernel)) dX8_step_18 ?_
    refine Ev.callS_I (M2 := mX8_in) (args2 := [vL (k), vL (0), vL (3)]) dX8_step_21 okX8_in lk_X8_96 osX8_in.1 osX8_in.2 (by decide) rfl (Nat.le_of_ble_eq_true rfl) (Nat.le_of_ble_eq_true rfl) (sM_in σ1 (k) (0) (3) ⟨by omega, by omega⟩ ⟨by omega, by omega⟩ ⟨by omega, by omega⟩) ?_ rfl
    refine Ev.if_eq (tgt := 39) bI_inR dX8_step_24 (by decide) (fun h24 => ?_) (fun h24 => ?_)
    · skip
      have q24 := bI_0.mp h24
      refine Ev.bipush (n := -2) (by decide) dX8_step_39 ?_
      exact Ev.ireturn dX8_step_41 rfl (rE (by unfold MP o_step; (repeat rw [Int.toNat_natCast]); rw [ifP_f (by omega), ifP_t (by omega)]; exact ⟨rfl, hM1, hk0⟩))
    · skip
      have q24 := bI_1.mp h24
      refine Ev.iload_n dX8_step_27 rfl rfl ?_
      refine Ev.i2l ⟨by omega, by omega⟩ dX8_step_28 ?_
      refine Ev.lconst 0 rfl dX8_step_29 ?_
      refine Ev.ldc2 (n := 15) (tbl_i 796 (by decide +kernel)) dX8_step_30 ?_
      refine Ev.callS_I (M2 := mX8_in) (args2 := [vL (v), vL (0), vL (15)]) dX8_step_33 okX8_in lk_X8_96 osX8_in.1 osX8_in.2 (by decide) rfl (Nat.le_of_ble_eq_true rfl) (Nat.le_of_ble_eq_true rfl) (sM_in σ1 (v) (0) (15) ⟨by omega, by omega⟩ ⟨by omega, by omega⟩ ⟨by omega, by omega⟩) ?_ rfl
      refine Ev.if_ne (tgt := 42) bI_inR dX8_step_36 (by decide) (fun h36 => ?_) (fun h36 => ?_)
      · skip
        have q36 := bI_1.mp h36
        obtain ⟨kv, rfl⟩ : ∃ n_ : Nat, v = (n_ : Int) := ⟨v.toNat, by omega⟩
        have hnl : nS k kv < 65536 := nS_lt (by omega)
        have hzl : (sX s kx &&& nS k kv) < 65536 := and_ltN hxl
        refine Ev.iload_n dX8_step_42 rfl rfl ?_
        refine Ev.iload_n dX8_step_43 rfl rfl ?_
        refine Ev.callS_I (M2 := mX8_bits) (args2 := [vI (k), vI (((kv : Nat) : Int))]) dX8_step_44 okX8_bits lk_X8_112 osX8_bits.1 osX8_bits.2 (by decide) rfl (Nat.le_of_ble_eq_true rfl) (Nat.le_of_ble_eq_true rfl) (sM_bits σ1 (k) kv (by omega) (by omega)) ?_ rfl
        refine Ev.istore (pl' := [some (vR (272)), some (vI (((kx : Nat) : Int))), some (vI (k)), some (vI (((kv : Nat) : Int))), some (vI (((nS (k) kv : Nat) : Int))), none]) dX8_step_47 (Nat.le_of_ble_eq_true rfl) rfl ?_
        refine Ev.aload_n dX8_step_49 rfl rfl ?_
        refine gf_X8_13 rfl dX8_step_50 ltc_272 shc_272 rfc_272_3 ?_
        refine Ev.iload_n dX8_step_53 rfl rfl ?_
        refine Ev.iaload (v := ((sX s kx : Nat) : Int)) dX8_step_54 ltc_274 shc_274 (by decide) (by omega) (by omega) (ldx rfl (hu1.2.2.2 kx (by omega)).1) ?_
        refine Ev.iload dX8_step_55 rfl ?_
        refine Ev.iand dX8_step_57 ?_
        rw [show (iAnd (((sX s kx : Nat) : Int)) (((nS (k) kv : Nat) : Int))) = (((sX s kx &&& nS k kv) : Nat) : Int) from iAnd_nat (by omega)]
        refine Ev.if_ne (tgt := 64) ⟨by omega, by omega⟩ dX8_step_58 (by decide) (fun h58 => ?_) (fun h58 => ?_)
        · skip
          refine Ev.aload_n dX8_step_64 rfl rfl ?_
          refine gf_X8_109 (x := ((sD s : Nat) : Int)) rfl dX8_step_65 ltc_272 shc_272 hu4.2.1 ?_
          refine Ev.bipush (n := 12) (by decide) dX8_step_68 ?_
          refine Ev.icmp_ne (tgt := 76) ⟨by omega, by omega⟩ ⟨by decide, by decide⟩ dX8_step_70 (by decide) (fun h70 => ?_) (fun h70 => ?_)
          · skip
            refine Ev.iconst dX8_step_76 ?_
            refine Ev.istore (pl' := [some (vR (272)), some (vI (((kx : Nat) : Int))), some (vI (k)), some (vI (((kv : Nat) : Int))), some (vI (((nS (k) kv : Nat) : Int))), some (vI (0))]) dX8_step_77 (Nat.le_of_ble_eq_true rfl) rfl ?_
            refine Ev.wk (pl' := [some (vR (272)), some (vI (((kx : Nat) : Int))), some (vI (k)), some (vI (((kv : Nat) : Int))), some (vI (((nS k kv : Nat) : Int))), some (vI (((0 : Nat) : Int)))]) ⟨rfl, ⟨rfl, ⟨rfl, ⟨rfl, ⟨vIe (by omega), ⟨vIe rfl, trivial⟩⟩⟩⟩⟩⟩ ?_
            exact r_step_l s σ σ1 hM1 hk0 kx kv k (by omega) ⟨by omega, by omega⟩ (by omega) (by omega) (by omega) 10 0 (by omega) σ1 (fun c _ => rfl) (fun i _ => rfl) (fun q hq => absurd hq (by omega))
          · skip
            refine Ev.bipush (n := -4) (by decide) dX8_step_73 ?_
            exact Ev.ireturn dX8_step_75 rfl (rE (by unfold MP o_step; (repeat rw [Int.toNat_natCast]); rw [ifP_f (by omega), ifP_f (by omega), ifP_f (by omega), ifP_t (by omega)]; exact ⟨rfl, hM1, hk0⟩))
        · skip
          refine Ev.bipush (n := -3) (by decide) dX8_step_61 ?_
          exact Ev.ireturn dX8_step_63 rfl (rE (by unfold MP o_step; (repeat rw [Int.toNat_natCast]); rw [ifP_f (by omega), ifP_f (by omega), ifP_t (by omega)]; exact ⟨rfl, hM1, hk0⟩))
      · skip
        have q36 := bI_0.mp h36
        refine Ev.bipush (n := -2) (by decide) dX8_step_39 ?_
        exact Ev.ireturn dX8_step_41 rfl (rE (by unfold MP o_step; (repeat rw [Int.toNat_natCast]); rw [ifP_f (by omega), ifP_t (by omega)]; exact ⟨rfl, hM1, hk0⟩))
  · skip
    have q10 := bI_1.mp h10
    refine Ev.iconst dX8_step_13 ?_
    exact Ev.ireturn dX8_step_14 rfl (rE (by unfold MP o_step; (repeat rw [Int.toNat_natCast]); rw [ifP_t (by omega)]; exact ⟨rfl, hM1, hk0⟩))

set_option maxRecDepth 100000 in
set_option maxHeartbeats 4000000 in
theorem r_undo_l {g : GC} (s : SS) (σ σ1 : Sg) (hM1 : MI s σ1) (hk0 : ∀ c, c < 272 → σ1 c = σ c) (kd : Nat) (hlt : kd < sD s) : ∀ j K : Nat, K + j = 10 → ∀ ρ : Sg, (∀ c, c ≠ 274 → ρ c = σ1 c) → (∀ q, q < K → ρ 274 q = σ1 277 (10 * kd + q)) → Ev g mX8_undo 31 [some (vR (272)), some (vI (((kd : Nat) : Int))), some (vI (((sD s : Nat) : Int) - ((kd : Nat) : Int))), some (vI (((K : Nat) : Int)))] [] (M0 (ρ)) 0 0 (retE (MP σ (o_undo s (kd : Int)))) := by
  intro j
  induction j with
  | zero =>
    intro K hij ρ hLe hz
    obtain ⟨hu1, hu2, hu3, hu4, hu5, hu6, hu7, hu8⟩ := id hM1
    have hU := hu1.1
    have hN := hu2.1
    have hD := hu4.1
    have hMl := hu7.1
    have hQ := hu5.1
    refine Ev.iload_n dX8_undo_31 rfl rfl ?_
    refine Ev.bipush (n := 10) (by decide) dX8_undo_32 ?_
    refine Ev.icmp_ge (tgt := 64) ⟨by omega, by omega⟩ ⟨by decide, by decide⟩ dX8_undo_34 (by decide) (fun h34 => ?_) (fun h34 => ?_)
    · skip
      refine Ev.aload_n dX8_undo_64 rfl rfl ?_
      refine Ev.iload_n dX8_undo_65 rfl rfl ?_
      refine pf_X8_109 rfl dX8_undo_66 ltc_272 shc_272 ?_
      refine Ev.iload_n dX8_undo_69 rfl rfl ?_
      exact Ev.ireturn dX8_undo_70 rfl (rE (by unfold MP o_undo; (repeat rw [Int.toNat_natCast]); rw [ifP_f (by omega), ifP_t (by omega)]; exact ⟨rfl, ⟨⟨hU, ((upC_self (by decide)).trans ((congrFun (hLe 272 (by decide)) 1).trans hu1.2.1)), (hu1.2.2.1.cg fun y _ => congrFun ((upC_ne (by decide)).trans (hLe 273 (by decide))) y), (fun y hy => ⟨(congrFun (upC_ne (by decide)) y).trans ((hz y (by have : y < sU s := hy; omega)).trans ((hu4.2.2 kd hlt).2.2.2.2 y hy).1), ((hu4.2.2 kd hlt).2.2.2.2 y hy).2⟩)⟩, (hu2.cg ((upC_self (by decide)).trans ((congrFun (hLe 272 (by decide)) 8).trans rfl)) (fun c q1 q2 => ((upC_ne (Nat.ne_of_gt (Nat.lt_of_lt_of_le (show 272 < 278 by decide) q1))).trans (hLe c (by omega))))), (hu3.cg (fun c i q1 q2 => congrFun ((upC_ne (Nat.ne_of_gt (Nat.lt_of_lt_of_le (show 272 < 286 by decide) q1))).trans (hLe c (by omega))) i)), (u4_undo hu4 (show kd ≤ sD s by omega) upC_at (fun c q1 q2 => (upC_ne (by omega)).trans (hLe c (by omega)))), (hu5.cg ((upC_self (by decide)).trans ((congrFun (hLe 272 (by decide)) 25).trans rfl)) ((upC_ne (by decide)).trans (hLe 292 (by decide)))), (hu6.cg ((upC_self (by decide)).trans ((congrFun (hLe 272 (by decide)) 27).trans rfl)) ((upC_ne (by decide)).trans (hLe 293 (by decide)))), (hu7.cg ((upC_self (by decide)).trans ((congrFun (hLe 272 (by decide)) 19).trans rfl)) (fun c q1 q2 => ((upC_ne (Nat.ne_of_gt (Nat.lt_of_lt_of_le (show 272 < 288 by decide) q1))).trans (hLe c (by omega))))), ((upC_self (by decide)).trans ((congrFun (hLe 272 (by decide)) 24).trans hu8))⟩, (fun c q2 => ((upC_ne (Nat.ne_of_lt (Nat.lt_of_lt_of_le q2 (show 272 ≤ 272 by decide)))).trans ((hLe c (by omega)).trans (hk0 c q2))))⟩))
    · exact absurd h34 (by omega)
  | succ j ih =>
    intro K hij ρ hLe hz
    obtain ⟨hu1, hu2, hu3, hu4, hu5, hu6, hu7, hu8⟩ := id hM1
    have hU := hu1.1
    have hN := hu2.1
    have hD := hu4.1
    have hMl := hu7.1
    have hQ := hu5.1
    refine Ev.iload_n dX8_undo_31 rfl rfl ?_
    refine Ev.bipush (n := 10) (by decide) dX8_undo_32 ?_
    refine Ev.icmp_ge (tgt := 64) ⟨by omega, by omega⟩ ⟨by decide, by decide⟩ dX8_undo_34 (by decide) (fun h34 => ?_) (fun h34 => ?_)
    · exact absurd h34 (by omega)
    · skip
      refine Ev.iload_n dX8_undo_37 rfl rfl ?_
      refine Ev.if_le (tgt := 64) ⟨by omega, by omega⟩ dX8_undo_38 (by decide) (fun h38 => ?_) (fun h38 => ?_)
      · exact absurd h38 (by omega)
      · skip
        refine Ev.aload_n dX8_undo_41 rfl rfl ?_
        refine gf_X8_13 rfl dX8_undo_42 ltc_272 shc_272 rfc_272_3 ?_
        refine Ev.iload_n dX8_undo_45 rfl rfl ?_
        refine Ev.aload_n dX8_undo_46 rfl rfl ?_
        refine gf_X8_22 rfl dX8_undo_47 ltc_272 shc_272 rfc_272_7 ?_
        refine Ev.bipush (n := 10) (by decide) dX8_undo_50 ?_
        refine Ev.iload_n dX8_undo_52 rfl rfl ?_
        refine Ev.imul dX8_undo_53 ?_
        refine Ev.iload_n dX8_undo_54 rfl rfl ?_
        refine Ev.iadd dX8_undo_55 ?_
        refine Ev.iaload (v := (σ1 277 (10 * kd + K))) dX8_undo_56 ltc_277 shc_277 (by decide) (by omega) (by omega) (ldx (by omega) (congrFun (hLe 277 (by decide)) (10 * kd + K))) ?_
        refine Ev.iastore dX8_undo_57 ltc_274 shc_274 (by decide) (by omega) (by omega) ?_
        refine Ev.iinc (pl' := [some (vR (272)), some (vI (((kd : Nat) : Int))), some (vI (((sD s : Nat) : Int) - ((kd : Nat) : Int))), some (vI (((K : Nat) : Int) + 1))]) dX8_undo_58 rfl (Nat.le_of_ble_eq_true rfl) rfl ?_
        refine Ev.goto (tgt := 31) dX8_undo_61 (by decide) ?_
        refine Ev.mem (τ := upC ρ 274 K (σ1 277 (10 * kd + K))) (upi rfl rfl) ?_
        refine Ev.wk (pl' := [some (vR (272)), some (vI (((kd : Nat) : Int))), some (vI (((sD s : Nat) : Int) - ((kd : Nat) : Int))), some (vI ((((K + 1) : Nat) : Int)))]) ⟨rfl, ⟨rfl, ⟨rfl, ⟨vIe (by omega), trivial⟩⟩⟩⟩ ?_
        exact ih (K + 1) (by omega) _ (fun c a => (upC_ne a).trans (hLe c a)) (fun q hq => (Nat.lt_or_ge q K).elim (fun e => (upC_self (by omega)).trans (hz q e)) (fun e => by rw [show q = K by omega]; exact upC_at))

set_option maxRecDepth 100000 in
set_option maxHeartbeats 4000000 in
theorem r_undo {g : GC} (s : SS) (σ : Sg) (hM : MI s σ) (d : Int) (h_d : inR d) : Ev g mX8_undo 0 [some (vR (272)), some (vI (d)), none, none] [] (M0 (σ)) 0 0 (retE (MP σ (o_undo s d))) := by
  refine Ev.aload_n dX8_undo_0 rfl rfl ?_
  refine Ev.iconst dX8_undo_1 ?_
  refine pf_X8_90 rfl dX8_undo_2 ltc_272 shc_272 ?_
  obtain ⟨σ1, hs1⟩ : ∃ ρ : Sg, ρ = upC σ 272 0 0 := ⟨_, rfl⟩
  refine Ev.mem (τ := σ1) hs1.symm ?_
  have hM1 : MI s σ1 := by rw [hs1]; exact hM.th
  have hk0 : ∀ c, c < 272 → σ1 c = σ c := fun c hc => by rw [hs1]; exact upC_ne (by omega)
  obtain ⟨hu1, hu2, hu3, hu4, hu5, hu6, hu7, hu8⟩ := id hM1
  have hU := hu1.1
  have hN := hu2.1
  have hD := hu4.1
  have hMl := hu7.1
  have hQ := hu5.1
  refine Ev.iload_n dX8_undo_5 rfl rfl ?_
  refine Ev.i2l ⟨by omega, by omega⟩ dX8_undo_6 ?_
  refine Ev.lconst 0 rfl dX8_undo_7 ?_
  refine Ev.aload_n dX8_undo_8 rfl rfl ?_
  refine gf_X8_109 (x := ((sD s : Nat) : Int)) rfl dX8_undo_9 ltc_272 shc_272 hu4.2.1 ?_
  refine Ev.i2l ⟨by omega, by omega⟩ dX8_undo_12 ?_
  refine Ev.callS_I (M2 := mX8_in) (args2 := [vL (d), vL (0), vL (((sD s : Nat) : Int))]) dX8_undo_13 okX8_in lk_X8_96 osX8_in.1 osX8_in.2 (by decide) rfl (Nat.le_of_ble_eq_true rfl) (Nat.le_of_ble_eq_true rfl) (sM_in σ1 (d) (0) (((sD s : Nat) : Int)) ⟨by omega, by omega⟩ ⟨by omega, by omega⟩ ⟨by omega, by omega⟩) ?_ rfl
  refine Ev.if_ne (tgt := 22) bI_inR dX8_undo_16 (by decide) (fun h16 => ?_) (fun h16 => ?_)
  · skip
    have q16 := bI_1.mp h16
    obtain ⟨kd, rfl⟩ : ∃ n_ : Nat, d = (n_ : Int) := ⟨d.toNat, by omega⟩
    refine Ev.aload_n dX8_undo_22 rfl rfl ?_
    refine gf_X8_109 (x := ((sD s : Nat) : Int)) rfl dX8_undo_23 ltc_272 shc_272 hu4.2.1 ?_
    refine Ev.iload_n dX8_undo_26 rfl rfl ?_
    refine Ev.isub dX8_undo_27 ?_
    refine Ev.istore_n (pl' := [some (vR (272)), some (vI (((kd : Nat) : Int))), some (vI ((((sD s : Nat) : Int) - ((kd : Nat) : Int)))), none]) dX8_undo_28 rfl (Nat.le_of_ble_eq_true rfl) rfl ?_
    refine Ev.iconst dX8_undo_29 ?_
    refine Ev.istore_n (pl' := [some (vR (272)), some (vI (((kd : Nat) : Int))), some (vI ((((sD s : Nat) : Int) - ((kd : Nat) : Int)))), some (vI (0))]) dX8_undo_30 rfl (Nat.le_of_ble_eq_true rfl) rfl ?_
    rcases Nat.lt_or_ge kd (sD s) with hlt | hge
    · refine Ev.wk (pl' := [some (vR (272)), some (vI (((kd : Nat) : Int))), some (vI (((sD s : Nat) : Int) - ((kd : Nat) : Int))), some (vI (((0 : Nat) : Int)))]) ⟨rfl, ⟨rfl, ⟨vIe (by omega), ⟨vIe rfl, trivial⟩⟩⟩⟩ ?_; exact r_undo_l s σ σ1 hM1 hk0 kd hlt 10 0 (by omega) σ1 (fun c _ => rfl) (fun q hq => absurd hq (by omega))
    refine Ev.iload_n dX8_undo_31 rfl rfl ?_
    refine Ev.bipush (n := 10) (by decide) dX8_undo_32 ?_
    refine Ev.icmp_ge (tgt := 64) ⟨by decide, by decide⟩ ⟨by decide, by decide⟩ dX8_undo_34 (by decide) (fun h34 => ?_) (fun h34 => ?_)
    · exact absurd h34 (by omega)
    · skip
      refine Ev.iload_n dX8_undo_37 rfl rfl ?_
      refine Ev.if_le (tgt := 64) ⟨by omega, by omega⟩ dX8_undo_38 (by decide) (fun h38 => ?_) (fun h38 => ?_)
      · skip
        refine Ev.aload_n dX8_undo_64 rfl rfl ?_
        refine Ev.iload_n dX8_undo_65 rfl rfl ?_
        refine pf_X8_109 rfl dX8_undo_66 ltc_272 shc_272 ?_
        refine Ev.iload_n dX8_undo_69 rfl rfl ?_
        exact Ev.ireturn dX8_undo_70 rfl (rE (by unfold MP o_undo; (repeat rw [Int.toNat_natCast]); rw [ifP_f (by omega), ifP_f (by omega)]; exact ⟨(by show _ = (0 : Int); omega), ⟨(hu1.cg ((upC_self (by decide)).trans ((congrFun (Eq.refl _) 1).trans rfl)) ((upC_ne (by decide)).trans (Eq.refl _)) ((upC_ne (by decide)).trans (Eq.refl _))), (hu2.cg ((upC_self (by decide)).trans ((congrFun (Eq.refl _) 8).trans rfl)) (fun c q1 q2 => ((upC_ne (Nat.ne_of_gt (Nat.lt_of_lt_of_le (show 272 < 278 by decide) q1))).trans (Eq.refl _)))), (hu3.cg (fun c i q1 q2 => congrFun ((upC_ne (Nat.ne_of_gt (Nat.lt_of_lt_of_le (show 272 < 286 by decide) q1))).trans (Eq.refl _)) i)), (u4_undo hu4 (Nat.le_refl _) (upC_at.trans (by rw [show kd = sD s by omega])) (fun c q1 q2 => upC_ne (by omega))), (hu5.cg ((upC_self (by decide)).trans ((congrFun (Eq.refl _) 25).trans rfl)) ((upC_ne (by decide)).trans (Eq.refl _))), (hu6.cg ((upC_self (by decide)).trans ((congrFun (Eq.refl _) 27).trans rfl)) ((upC_ne (by decide)).trans (Eq.refl _))), (hu7.cg ((upC_self (by decide)).trans ((congrFun (Eq.refl _) 19).trans rfl)) (fun c q1 q2 => ((upC_ne (Nat.ne_of_gt (Nat.lt_of_lt_of_le (show 272 < 288 by decide) q1))).trans (Eq.refl _)))), ((upC_self (by decide)).trans ((congrFun (Eq.refl _) 24).trans hu8))⟩, (fun c q2 => ((upC_ne (Nat.ne_of_lt (Nat.lt_of_lt_of_le q2 (show 272 ≤ 272 by decide)))).trans ((Eq.refl _).trans (hk0 c q2))))⟩))
      · exact absurd h38 (by omega)
  · skip
    have q16 := bI_0.mp h16
    refine Ev.bipush (n := -2) (by decide) dX8_undo_19 ?_
    exact Ev.ireturn dX8_undo_21 rfl (rE (by unfold MP o_undo; (repeat rw [Int.toNat_natCast]); rw [ifP_t (by omega)]; exact ⟨rfl, hM1, hk0⟩))

set_option maxRecDepth 100000 in
set_option maxHeartbeats 4000000 in
theorem r_range {g : GC} (s : SS) (σ : Sg) (hM : MI s σ) (x : Int) (h_x : inR x) (w : Int) (h_w : inR w) : Ev g mX8_range 0 [some (vR (272)), some (vI (x)), some (vI (w))] [] (M0 (σ)) 0 0 (retE (MP σ (o_range s x w))) := by
  refine Ev.aload_n dX8_range_0 rfl rfl ?_
  refine Ev.iconst dX8_range_1 ?_
  refine pf_X8_90 rfl dX8_range_2 ltc_272 shc_272 ?_
  obtain ⟨σ1, hs1⟩ : ∃ ρ : Sg, ρ = upC σ 272 0 0 := ⟨_, rfl⟩
  refine Ev.mem (τ := σ1) hs1.symm ?_
  have hM1 : MI s σ1 := by rw [hs1]; exact hM.th
  have hk0 : ∀ c, c < 272 → σ1 c = σ c := fun c hc => by rw [hs1]; exact upC_ne (by omega)
  obtain ⟨hu1, hu2, hu3, hu4, hu5, hu6, hu7, hu8⟩ := id hM1
  have hU := hu1.1
  have hN := hu2.1
  have hD := hu4.1
  have hMl := hu7.1
  have hQ := hu5.1
  refine Ev.aload_n dX8_range_5 rfl rfl ?_
  refine Ev.iload_n dX8_range_6 rfl rfl ?_
  refine Ev.callV_I (M2 := mX8_noUnknown) (args2 := [vI (x)]) (rcv := 272) (q := (RX8, TX8, 34)) (ci := 8) dX8_range_7 okX8_noUnknown lk_X8_119 ovX8_noUnknown.1.1 ovX8_noUnknown.1.2 ovX8_noUnknown.2 (by decide) rfl rfl ltc_272 shc_272 rfl (Nat.le_of_ble_eq_true rfl) (Nat.le_of_ble_eq_true rfl) (sM_noUnknown σ1 (sU s) hU hu1.2.1 (x) ⟨by omega, by omega⟩) ?_ rfl
  refine Ev.if_eq (tgt := 15) bI_inR dX8_range_10 (by decide) (fun h10 => ?_) (fun h10 => ?_)
  · skip
    have q10 := bI_0.mp h10
    obtain ⟨kx, rfl⟩ : ∃ n_ : Nat, x = (n_ : Int) := ⟨x.toNat, by omega⟩
    have hxl := (hu1.2.2.2 kx (by omega)).2
    refine Ev.iload_n dX8_range_15 rfl rfl ?_
    have hcs : w = 0 ∨ w = 1 ∨ w = 2 ∨ w = 3 ∨ w = 4 ∨ (w < 0 ∨ 4 < w) := by omega
    rcases hcs with hk | hk | hk | hk | hk | hk
    · skip
      subst hk
      refine Ev.tableIn (tgt := 52) dX8_range_16 ⟨by decide, by decide⟩ (by decide) (by decide) rfl (by decide) ?_
      refine Ev.aload_n dX8_range_52 rfl rfl ?_
      refine gf_X8_13 rfl dX8_range_53 ltc_272 shc_272 rfc_272_3 ?_
      refine Ev.iload_n dX8_range_56 rfl rfl ?_
      refine Ev.iaload (v := ((sX s kx : Nat) : Int)) dX8_range_57 ltc_274 shc_274 (by decide) (by omega) (by omega) (ldx rfl (hu1.2.2.2 kx (by omega)).1) ?_
      refine Ev.callS_I (M2 := mX8_many) (args2 := [vI (((sX s kx : Nat) : Int))]) dX8_range_58 okX8_many lk_X8_123 osX8_many.1 osX8_many.2 (by decide) rfl (Nat.le_of_ble_eq_true rfl) (Nat.le_of_ble_eq_true rfl) (sM_many σ1 (sX s kx) (by omega)) ?_ rfl
      exact Ev.ireturn dX8_range_61 rfl (rE (by unfold MP o_range; (repeat rw [Int.toNat_natCast]); rw [ifP_f (by omega)]; exact ⟨(by show _ = _; rw [ifP_t (by omega)]), hM1, hk0⟩))
    · skip
      subst hk
      refine Ev.tableIn (tgt := 62) dX8_range_16 ⟨by decide, by decide⟩ (by decide) (by decide) rfl (by decide) ?_
      refine Ev.aload_n dX8_range_62 rfl rfl ?_
      refine gf_X8_13 rfl dX8_range_63 ltc_272 shc_272 rfc_272_3 ?_
      refine Ev.iload_n dX8_range_66 rfl rfl ?_
      refine Ev.iaload (v := ((sX s kx : Nat) : Int)) dX8_range_67 ltc_274 shc_274 (by decide) (by omega) (by omega) (ldx rfl (hu1.2.2.2 kx (by omega)).1) ?_
      refine Ev.callS_I (M2 := mX8_least) (args2 := [vI (((sX s kx : Nat) : Int))]) dX8_range_68 okX8_least lk_X8_161 osX8_least.1 osX8_least.2 (by decide) rfl (Nat.le_of_ble_eq_true rfl) (Nat.le_of_ble_eq_true rfl) (sM_least σ1 (sX s kx) (by omega)) ?_ rfl
      exact Ev.ireturn dX8_range_71 rfl (rE (by unfold MP o_range; (repeat rw [Int.toNat_natCast]); rw [ifP_f (by omega)]; exact ⟨(by show _ = _; rw [ifP_f (by omega)]; rw [ifP_t (by omega)]), hM1, hk0⟩))
    · skip
      subst hk
      refine Ev.tableIn (tgt := 72) dX8_range_16 ⟨by decide, by decide⟩ (by decide) (by decide) rfl (by decide) ?_
      refine Ev.aload_n dX8_range_72 rfl rfl ?_
      refine gf_X8_13 rfl dX8_range_73 ltc_272 shc_272 rfc_272_3 ?_
      refine Ev.iload_n dX8_range_76 rfl rfl ?_
      refine Ev.iaload (v := ((sX s kx : Nat) : Int)) dX8_range_77 ltc_274 shc_274 (by decide) (by omega) (by omega) (ldx rfl (hu1.2.2.2 kx (by omega)).1) ?_
      refine Ev.callS_I (M2 := mX8_greatest) (args2 := [vI (((sX s kx : Nat) : Int))]) dX8_range_78 okX8_greatest lk_X8_158 osX8_greatest.1 osX8_greatest.2 (by decide) rfl (Nat.le_of_ble_eq_true rfl) (Nat.le_of_ble_eq_true rfl) (sM_great σ1 (sX s kx) hxl.2 hxl.1) ?_ rfl
      exact Ev.ireturn dX8_range_81 rfl (rE (by unfold MP o_range; (repeat rw [Int.toNat_natCast]); rw [ifP_f (by omega)]; exact ⟨(by show _ = _; rw [ifP_f (by omega)]; rw [ifP_f (by omega)]; rw [ifP_t (by omega)]), hM1, hk0⟩))
    · skip
      subst hk
      refine Ev.tableIn (tgt := 82) dX8_range_16 ⟨by decide, by decide⟩ (by decide) (by decide) rfl (by decide) ?_
      refine Ev.aload_n dX8_range_82 rfl rfl ?_
      refine gf_X8_13 rfl dX8_range_83 ltc_272 shc_272 rfc_272_3 ?_
      refine Ev.iload_n dX8_range_86 rfl rfl ?_
      refine Ev.iaload (v := ((sX s kx : Nat) : Int)) dX8_range_87 ltc_274 shc_274 (by decide) (by omega) (by omega) (ldx rfl (hu1.2.2.2 kx (by omega)).1) ?_
      exact Ev.ireturn dX8_range_88 rfl (rE (by unfold MP o_range; (repeat rw [Int.toNat_natCast]); rw [ifP_f (by omega)]; exact ⟨(by show _ = _; rw [ifP_f (by omega)]; rw [ifP_f (by omega)]; rw [ifP_f (by omega)]; rw [ifP_t (by omega)]), hM1, hk0⟩))
    · skip
      subst hk
      refine Ev.tableIn (tgt := 89) dX8_range_16 ⟨by decide, by decide⟩ (by decide) (by decide) rfl (by decide) ?_
      refine Ev.aload_n dX8_range_89 rfl rfl ?_
      refine gf_X8_7 rfl dX8_range_90 ltc_272 shc_272 rfc_272_2 ?_
      refine Ev.iload_n dX8_range_93 rfl rfl ?_
      refine Ev.iaload (v := ((sG s kx : Nat) : Int)) dX8_range_94 ltc_273 shc_273 (by decide) (by omega) (by omega) (ldx rfl (hu1.2.2.1 kx (by omega)).1) ?_
      exact Ev.ireturn dX8_range_95 rfl (rE (by unfold MP o_range; (repeat rw [Int.toNat_natCast]); rw [ifP_f (by omega)]; exact ⟨(by show _ = _; rw [ifP_f (by omega)]; rw [ifP_f (by omega)]; rw [ifP_f (by omega)]; rw [ifP_f (by omega)]; rw [ifP_t (by omega)]), hM1, hk0⟩))
    · skip
      refine Ev.tableOut (tgt := 96) dX8_range_16 ⟨by omega, by omega⟩ hk (by decide) ?_
      refine Ev.bipush (n := -2) (by decide) dX8_range_96 ?_
      exact Ev.ireturn dX8_range_98 rfl (rE (by unfold MP o_range; (repeat rw [Int.toNat_natCast]); rw [ifP_f (by omega)]; exact ⟨(by show _ = _; rw [ifP_f (by omega)]; rw [ifP_f (by omega)]; rw [ifP_f (by omega)]; rw [ifP_f (by omega)]; rw [ifP_f (by omega)]), hM1, hk0⟩))
  · skip
    have q10 := bI_1.mp h10
    refine Ev.iconst dX8_range_13 ?_
    exact Ev.ireturn dX8_range_14 rfl (rE (by unfold MP o_range; (repeat rw [Int.toNat_natCast]); rw [ifP_t (by omega)]; exact ⟨rfl, hM1, hk0⟩))

