/-! THE CLASS: the search: stages, what is due -/
set_option maxRecDepth 100000 in
set_option maxHeartbeats 4000000 in
theorem s4_last_l {g : GC} (σ : Sg) (r U : Nat) (R : RC) (hr : r < 56) (hM : CR σ r R) (hW : WR U R) (X : Rg) (hst : ∀ k, k < rN R → σ 270 (rO R k) = (stX X (rO R k) : Int)) : ∀ j K : Nat, K + j = rN R → Ev g mX4_lastStage 4 [some (vR (266)), some (vR (26 + 4 * r)), some (vI (((lsN X R K : Nat) : Int))), some (vI (((K : Nat) : Int)))] [] (M0 (σ)) 0 0 (retI ((lsN X R (rN R) : Nat) : Int) σ) := by
  intro j
  induction j with
  | zero =>
    intro K hij
    obtain ⟨hK, hS, hB, hN, hE, hP⟩ := id hM
    obtain ⟨⟨hk5, hn6, hU⟩, hO, -⟩ := id hW
    refine Ev.iload_n dX4_lastStage_4 rfl rfl ?_
    refine Ev.aload_n dX4_lastStage_5 rfl rfl ?_
    refine gf_X4_55 (x := ((rN R : Nat) : Int)) rfl dX4_lastStage_6 (lt_rc (by omega)) (sh_rc (by omega)) hN ?_
    refine Ev.icmp_ge (tgt := 34) ⟨by omega, by omega⟩ ⟨by omega, by omega⟩ dX4_lastStage_9 (by decide) (fun h9 => ?_) (fun h9 => ?_)
    · skip
      refine Ev.iload_n dX4_lastStage_34 rfl rfl ?_
      exact Ev.ireturn dX4_lastStage_35 rfl (rI (by rw [show K = rN R by omega]) rfl)
    · exact absurd h9 (by omega)
  | succ j ih =>
    intro K hij
    obtain ⟨hK, hS, hB, hN, hE, hP⟩ := id hM
    obtain ⟨⟨hk5, hn6, hU⟩, hO, -⟩ := id hW
    have hs1 := stX_le (X := X) (hO K (by omega))
    have hs2 := chN_le X U
    have hs3 : lsN X R K ≤ chN X U := lsN_le.mpr fun k hk => stX_le (hO k (by omega))
    refine Ev.iload_n dX4_lastStage_4 rfl rfl ?_
    refine Ev.aload_n dX4_lastStage_5 rfl rfl ?_
    refine gf_X4_55 (x := ((rN R : Nat) : Int)) rfl dX4_lastStage_6 (lt_rc (by omega)) (sh_rc (by omega)) hN ?_
    refine Ev.icmp_ge (tgt := 34) ⟨by omega, by omega⟩ ⟨by omega, by omega⟩ dX4_lastStage_9 (by decide) (fun h9 => ?_) (fun h9 => ?_)
    · exact absurd h9 (by omega)
    · skip
      refine Ev.iload_n dX4_lastStage_12 rfl rfl ?_
      refine Ev.aload_n dX4_lastStage_13 rfl rfl ?_
      refine gf_X4_21 rfl dX4_lastStage_14 ltc_266 shc_266 rfc_266_4 ?_
      refine Ev.aload_n dX4_lastStage_17 rfl rfl ?_
      refine gf_X4_61 rfl dX4_lastStage_18 (lt_rc (by omega)) (sh_rc (by omega)) (rf_rc5 (by omega)) ?_
      refine Ev.iload_n dX4_lastStage_21 rfl rfl ?_
      refine Ev.iaload (v := ((rO R K : Nat) : Int)) dX4_lastStage_22 (lt_rcf (by omega) (by decide)) (sh_rc1 (by omega)) (by decide) (by omega) (by omega) (ldx rfl (hP K (by omega)).1) ?_
      refine Ev.iaload (v := ((stX X (rO R K) : Nat) : Int)) dX4_lastStage_23 ltc_270 shc_270 (by decide) (by omega) (Int.ofNat_lt.mpr (Nat.lt_of_lt_of_le (hO _ (by omega)) hU)) (ldx rfl (hst K (by omega))) ?_
      refine Ev.imax ⟨by omega, by omega⟩ ⟨by omega, by omega⟩ dX4_lastStage_24 (tbl_i 585 (by decide +kernel)) (by decide) (Nat.le_of_ble_eq_true rfl) ?_
      rw [show (max (((lsN X R K : Nat) : Int)) (((stX X (rO R K) : Nat) : Int))) = ((lsN X R (K + 1) : Nat) : Int) from by show max _ _ = ((max _ _ : Nat) : Int); omega]
      refine Ev.istore_n (pl' := [some (vR (266)), some (vR (26 + 4 * r)), some (vI (((lsN X R (K + 1) : Nat) : Int))), some (vI (((K : Nat) : Int)))]) dX4_lastStage_27 rfl (Nat.le_of_ble_eq_true rfl) rfl ?_
      refine Ev.iinc (pl' := [some (vR (266)), some (vR (26 + 4 * r)), some (vI (((lsN X R (K + 1) : Nat) : Int))), some (vI (((K : Nat) : Int) + 1))]) dX4_lastStage_28 rfl (Nat.le_of_ble_eq_true rfl) rfl ?_
      refine Ev.goto (tgt := 4) dX4_lastStage_31 (by decide) ?_
      refine Ev.wk (pl' := [some (vR (266)), some (vR (26 + 4 * r)), some (vI (((lsN X R (K + 1) : Nat) : Int))), some (vI ((((K + 1) : Nat) : Int)))]) ⟨rfl, ⟨rfl, ⟨rfl, ⟨vIe (by omega), trivial⟩⟩⟩⟩ ?_
      exact ih (K + 1) (by omega)

set_option maxRecDepth 100000 in
set_option maxHeartbeats 4000000 in
theorem s4_lastStage {g : GC} (σ : Sg) (r U : Nat) (R : RC) (hr : r < 56) (hM : CR σ r R) (hW : WR U R) (X : Rg) (hst : ∀ k, k < rN R → σ 270 (rO R k) = (stX X (rO R k) : Int)) : Ev g mX4_lastStage 0 [some (vR (266)), some (vR (26 + 4 * r)), none, none] [] (M0 (σ)) 0 0 (retI ((lsN X R (rN R) : Nat) : Int) σ) := by
  refine Ev.iconst dX4_lastStage_0 ?_
  refine Ev.istore_n (pl' := [some (vR (266)), some (vR (26 + 4 * r)), some (vI (0)), none]) dX4_lastStage_1 rfl (Nat.le_of_ble_eq_true rfl) rfl ?_
  refine Ev.iconst dX4_lastStage_2 ?_
  refine Ev.istore_n (pl' := [some (vR (266)), some (vR (26 + 4 * r)), some (vI (0)), some (vI (0))]) dX4_lastStage_3 rfl (Nat.le_of_ble_eq_true rfl) rfl ?_
  refine Ev.wk (pl' := [some (vR (266)), some (vR (26 + 4 * r)), some (vI (((lsN X R 0 : Nat) : Int))), some (vI (((0 : Nat) : Int)))]) ⟨rfl, ⟨rfl, ⟨vIe rfl, ⟨vIe rfl, trivial⟩⟩⟩⟩ ?_
  exact s4_last_l σ r U R hr hM hW X hst (rN R) 0 (by omega)

set_option maxRecDepth 100000 in
set_option maxHeartbeats 4000000 in
theorem s4_af {g : GC} (σ : Sg) (U : Nat) (T : Tb) (hT : TVc σ T) (Rf : Nat → RC) (w : Nat) (hC : ∀ r, r < 16 → w.testBit r = true → CR σ r (Rf r) ∧ WR U (Rf r)) (A : An) (hA : ∀ x, x < U → σ 267 x = (A x : Int) ∧ A x < 16) (du : Nat) (hdu : ∀ r, du.testBit r = true → w.testBit r = true) : ∀ j q : Nat, q + j = 16 → ∀ m : Nat, m < 65536 → pop m + q ≤ 16 → (∀ r, m.testBit r = true → du.testBit r = true) → (∀ r, du.testBit r = true → m.testBit r = true ∨ fit T (Rf r) A) → Ev g mX4_allFit 6 [some (vR (266)), some (vR (3)), some (vL (((du : Nat) : Int))), none, some (vL (((m : Nat) : Int))), none, some (vI (((q : Nat) : Int)))] [] (M0 (σ)) 0 0 (retI (bI (∀ r, du.testBit r = true → fit T (Rf r) A)) σ) := by
  intro j
  induction j with
  | zero =>
    intro q hij m hm hpm hmd hdm
    have hc := lCmp_c (m : Int) 0
    refine Ev.iload dX4_allFit_6 rfl ?_
    refine Ev.aload_n dX4_allFit_8 rfl rfl ?_
    refine Ev.ralen dX4_allFit_9 ltc_3 shc_3 ?_
    refine Ev.icmp_ge (tgt := 58) ⟨by omega, by omega⟩ ⟨by decide, by decide⟩ dX4_allFit_10 (by decide) (fun h10 => ?_) (fun h10 => ?_)
    · skip
      refine Ev.iconst dX4_allFit_58 ?_
      exact Ev.zreturn dX4_allFit_59 rfl (Or.inr rfl) (rI (bI_t (fun r hr => (hdm r hr).elim (fun z => by have hz : m = 0 := (by first | omega | exact pop_0 hm (by omega)); rw [hz, Nat.zero_testBit] at z; cases z) id)) rfl)
    · exact absurd h10 (by omega)
  | succ j ih =>
    intro q hij m hm hpm hmd hdm
    have hc := lCmp_c (m : Int) 0
    refine Ev.iload dX4_allFit_6 rfl ?_
    refine Ev.aload_n dX4_allFit_8 rfl rfl ?_
    refine Ev.ralen dX4_allFit_9 ltc_3 shc_3 ?_
    refine Ev.icmp_ge (tgt := 58) ⟨by omega, by omega⟩ ⟨by decide, by decide⟩ dX4_allFit_10 (by decide) (fun h10 => ?_) (fun h10 => ?_)
    · exact absurd h10 (by omega)
    · skip
      refine Ev.lload dX4_allFit_13 rfl ?_
      refine Ev.lconst 0 rfl dX4_allFit_15 ?_
      refine Ev.lcmp ⟨by omega, by omega⟩ ⟨by decide, by decide⟩ dX4_allFit_16 ?_
      refine Ev.if_eq (tgt := 58) lCmp_inR dX4_allFit_17 (by decide) (fun h17 => ?_) (fun h17 => ?_)
      · skip
        refine Ev.iconst dX4_allFit_58 ?_
        exact Ev.zreturn dX4_allFit_59 rfl (Or.inr rfl) (rI (bI_t (fun r hr => (hdm r hr).elim (fun z => by have hz : m = 0 := (by first | omega | exact pop_0 hm (by omega)); rw [hz, Nat.zero_testBit] at z; cases z) id)) rfl)
      · skip
        have hm0 : m ≠ 0 := by omega
        have hlo := lo_lt hm hm0
        have hlb := lo_tb hm hm0
        have hCl := hC (lo m) hlo (hdu _ (hmd _ hlb))
        refine Ev.aload_n dX4_allFit_20 rfl rfl ?_
        refine gf_X4_28 rfl dX4_allFit_21 ltc_266 shc_266 rfc_266_0 ?_
        refine Ev.aload_n dX4_allFit_24 rfl rfl ?_
        refine Ev.lload dX4_allFit_25 rfl ?_
        refine Ev.callS_I (M2 := mJ13_numberOfTrailingZeros_95d88) (args2 := [vL (((m : Nat) : Int))]) dX4_allFit_27 okJ13_numberOfTrailingZeros_95d88 lk_X4_70 osJ13_numberOfTrailingZeros_95d88.1 osJ13_numberOfTrailingZeros_95d88.2 (by decide) rfl (Nat.le_of_ble_eq_true rfl) (Nat.le_of_ble_eq_true rfl) (sJ_ntzl σ m hm hm0) ?_ rfl
        refine Ev.raload dX4_allFit_30 ltc_3 shc_3 (by decide) (by omega) (by omega) (rf_rule (by omega)) ?_
        refine Ev.aload_n dX4_allFit_31 rfl rfl ?_
        refine gf_X4_9 rfl dX4_allFit_32 ltc_266 shc_266 rfc_266_1 ?_
        refine Ev.callV_I (M2 := mX0_fits) (args2 := [vR (26 + 4 * (lo m)), vR (267)]) (rcv := 259) (q := (RX0, TX0, 1)) (ci := 0) dX4_allFit_35 okX0_fits lk_X4_75 ovX0_fits.1.1 ovX0_fits.1.2 ovX0_fits.2 (by decide) rfl rfl ltc_259 shc_259 rfl (Nat.le_of_ble_eq_true rfl) (Nat.le_of_ble_eq_true rfl) (s0_fits σ (lo m) U (Rf (lo m)) (by omega) hCl.1 hCl.2 A 267 ltc_267 shc_267 (fun k hk => hA _ (hCl.2.2.1 k hk)) T hT) ?_ rfl
        refine Ev.if_ne (tgt := 43) bI_inR dX4_allFit_38 (by decide) (fun h38 => ?_) (fun h38 => ?_)
        · skip
          refine Ev.lload dX4_allFit_43 rfl ?_
          refine Ev.lload dX4_allFit_45 rfl ?_
          refine Ev.lconst 1 rfl dX4_allFit_47 ?_
          refine Ev.lsub dX4_allFit_48 ?_
          refine Ev.land dX4_allFit_49 ?_
          rw [show (lAnd (((m : Nat) : Int)) ((((m : Nat) : Int) - 1))) = ((andN m (2 ^ lo m) : Nat) : Int) from by rw [show ((m : Nat) : Int) - 1 = ((m - 1 : Nat) : Int) by omega, lAnd_nat (by omega) (by omega), clr_lo hm hm0]]
          refine Ev.lstore (pl' := [some (vR (266)), some (vR (3)), some (vL (((du : Nat) : Int))), none, some (vL (((andN m (2 ^ lo m) : Nat) : Int))), none, some (vI (((q : Nat) : Int)))]) dX4_allFit_50 (Nat.le_of_ble_eq_true rfl) rfl ?_
          refine Ev.iinc (pl' := [some (vR (266)), some (vR (3)), some (vL (((du : Nat) : Int))), none, some (vL (((andN m (2 ^ lo m) : Nat) : Int))), none, some (vI (((q : Nat) : Int) + 1))]) dX4_allFit_52 rfl (Nat.le_of_ble_eq_true rfl) rfl ?_
          refine Ev.goto (tgt := 6) dX4_allFit_55 (by decide) ?_
          refine Ev.wk (pl' := [some (vR (266)), some (vR (3)), some (vL (((du : Nat) : Int))), none, some (vL ((((andN m (2 ^ lo m)) : Nat) : Int))), none, some (vI ((((q + 1) : Nat) : Int)))]) ⟨rfl, ⟨rfl, ⟨rfl, ⟨vLe (by omega), ⟨vIe (by omega), trivial⟩⟩⟩⟩⟩ ?_
          exact ih (q + 1) (by omega) (andN m (2 ^ lo m)) (andN_lt hm) (by have h8 : pop (andN m (2 ^ lo m)) + 1 = pop m := popN_clr hlb 16 hlo; omega) (fun r hr => hmd r (sub_andN _ _ r hr)) (fun r hr => (hdm r hr).elim (fun z => by by_cases e : r = lo m; (exact Or.inr (by rw [e]; exact bI_1.mp h38)); (exact Or.inl (by rw [andN_tb, z, Nat.testBit_two_pow]; simp; omega))) Or.inr)
        · skip
          refine Ev.iconst dX4_allFit_41 ?_
          exact Ev.zreturn dX4_allFit_42 rfl (Or.inl rfl) (rI (bI_f (fun z => bI_0.mp (by assumption) (z (lo m) (hmd _ hlb)))) rfl)

set_option maxRecDepth 100000 in
set_option maxHeartbeats 4000000 in
theorem s4_allFit {g : GC} (σ : Sg) (U : Nat) (T : Tb) (hT : TVc σ T) (Rf : Nat → RC) (w : Nat) (hC : ∀ r, r < 16 → w.testBit r = true → CR σ r (Rf r) ∧ WR U (Rf r)) (A : An) (hA : ∀ x, x < U → σ 267 x = (A x : Int) ∧ A x < 16) (du : Nat) (hdu : ∀ r, du.testBit r = true → w.testBit r = true) (hdl : du < 65536) : Ev g mX4_allFit 0 [some (vR (266)), some (vR (3)), some (vL (((du : Nat) : Int))), none, none, none, none] [] (M0 (σ)) 0 0 (retI (bI (∀ r, du.testBit r = true → fit T (Rf r) A)) σ) := by
  refine Ev.lload_n dX4_allFit_0 rfl rfl ?_
  refine Ev.lstore (pl' := [some (vR (266)), some (vR (3)), some (vL (((du : Nat) : Int))), none, some (vL (((du : Nat) : Int))), none, none]) dX4_allFit_1 (Nat.le_of_ble_eq_true rfl) rfl ?_
  refine Ev.iconst dX4_allFit_3 ?_
  refine Ev.istore (pl' := [some (vR (266)), some (vR (3)), some (vL (((du : Nat) : Int))), none, some (vL (((du : Nat) : Int))), none, some (vI (0))]) dX4_allFit_4 (Nat.le_of_ble_eq_true rfl) rfl ?_
  refine Ev.wk (pl' := [some (vR (266)), some (vR (3)), some (vL (((du : Nat) : Int))), none, some (vL (((du : Nat) : Int))), none, some (vI (((0 : Nat) : Int)))]) ⟨rfl, ⟨rfl, ⟨rfl, ⟨rfl, ⟨vIe rfl, trivial⟩⟩⟩⟩⟩ ?_
  exact s4_af σ U T hT Rf w hC A hA du hdu 16 0 (by omega) du hdl (by have : pop du ≤ 16 := popN_le 16 du; omega) (fun r hr => hr) (fun r hr => Or.inl hr)

theorem rg_of {τ : Sg} {rg x i1 i2 : Nat} {v1 v2 : Int} (hgn : rg ∉ SK) (_ : 267 ∈ SK) (_ : 270 ∈ SK) : upC (upC τ 267 i1 v1) 270 i2 v2 rg x = τ rg x := by
  rw [upC_ne (fun e => hgn (by rw [e]; decide)), upC_ne (fun e => hgn (by rw [e]; decide))]
set_option maxRecDepth 100000 in
set_option maxHeartbeats 4000000 in
theorem s4_ar1 {g : GC} (σ : Sg) (U : Nat) (hU : U ≤ 10) (X : Rg) (rg : Nat) (hg : rg < 298) (hgs : sh0 rg = (1, 10)) (hgn : rg ∉ SK) (hX : AV σ rg U X) (w : Nat) {Post : Option PV → Mem → Prop} : ∀ j x : Nat, x + j = U → ∀ τ : Sg, Same SK σ τ → Arr X x τ → (∀ τ : Sg, Same SK σ τ → Arr X U τ → Ev g mX4_arrange 86 [some (vR (266)), some (vR (rg)), some (vI (((U : Nat) : Int))), some (vR (3)), some (vL (((w : Nat) : Int))), none, some (vI (((chN X U : Nat) : Int))), none] [] (M0 (τ)) 0 0 Post) → Ev g mX4_arrange 13 [some (vR (266)), some (vR (rg)), some (vI (((U : Nat) : Int))), some (vR (3)), some (vL (((w : Nat) : Int))), none, some (vI (((chN X x : Nat) : Int))), some (vI (((x : Nat) : Int)))] [] (M0 (τ)) 0 0 (Post) := by
  intro j
  induction j with
  | zero =>
    intro x hij τ hF0 hR kk
    refine Ev.iload dX4_arrange_13 rfl ?_
    refine Ev.iload_n dX4_arrange_15 rfl rfl ?_
    refine Ev.icmp_ge (tgt := 86) ⟨by omega, by omega⟩ ⟨by omega, by omega⟩ dX4_arrange_16 (by decide) (fun h16 => ?_) (fun h16 => ?_)
    · skip
      refine Ev.wk (pl' := [some (vR (266)), some (vR (rg)), some (vI (((U : Nat) : Int))), some (vR (3)), some (vL (((w : Nat) : Int))), none, some (vI (((chN X U : Nat) : Int))), none]) ⟨rfl, ⟨rfl, ⟨rfl, ⟨rfl, ⟨rfl, ⟨vIe (by rw [show x = U by omega]), trivial⟩⟩⟩⟩⟩⟩ ?_
      exact kk τ hF0 (by rw [← show x = U by omega]; exact hR)
    · exact absurd h16 (by omega)
  | succ j ih =>
    intro x hij τ hF0 hR kk
    have hxx := (hX x (by omega)).2
    have hcx := chN_le X x
    refine Ev.iload dX4_arrange_13 rfl ?_
    refine Ev.iload_n dX4_arrange_15 rfl rfl ?_
    refine Ev.icmp_ge (tgt := 86) ⟨by omega, by omega⟩ ⟨by omega, by omega⟩ dX4_arrange_16 (by decide) (fun h16 => ?_) (fun h16 => ?_)
    · exact absurd h16 (by omega)
    · skip
      refine Ev.aload_n dX4_arrange_19 rfl rfl ?_
      refine gf_X4_9 rfl dX4_arrange_20 ltc_266 shc_266 rfc_266_1 ?_
      refine Ev.iload dX4_arrange_23 rfl ?_
      refine Ev.aload_n dX4_arrange_25 rfl rfl ?_
      refine Ev.iload dX4_arrange_26 rfl ?_
      refine Ev.iaload (v := ((X x : Nat) : Int)) dX4_arrange_28 hg hgs (by decide) (by omega) (by omega) (ldx rfl (((congrFun (hF0 rg hgn) x)).trans (hX x (by omega)).1)) ?_
      refine Ev.callS_I (M2 := mJ6_numberOfTrailingZeros_0f7a4) (args2 := [vI (((X x : Nat) : Int))]) dX4_arrange_29 okJ6_numberOfTrailingZeros_0f7a4 lk_X4_41 osJ6_numberOfTrailingZeros_0f7a4.1 osJ6_numberOfTrailingZeros_0f7a4.2 (by decide) rfl (Nat.le_of_ble_eq_true rfl) (Nat.le_of_ble_eq_true rfl) (sJ_ntz τ (X x) hxx.2 hxx.1) ?_ rfl
      refine Ev.iastore dX4_arrange_32 ltc_267 shc_267 (by decide) (by omega) (by omega) ?_
      refine Ev.aload_n dX4_arrange_33 rfl rfl ?_
      refine gf_X4_21 rfl dX4_arrange_34 ltc_266 shc_266 rfc_266_4 ?_
      refine Ev.iload dX4_arrange_37 rfl ?_
      refine Ev.iconst dX4_arrange_39 ?_
      refine Ev.iastore dX4_arrange_40 ltc_270 shc_270 (by decide) (by omega) (by omega) ?_
      refine Ev.aload_n dX4_arrange_41 rfl rfl ?_
      refine Ev.iload dX4_arrange_42 rfl ?_
      refine Ev.iaload (v := ((X x : Nat) : Int)) dX4_arrange_44 hg hgs (by decide) (by omega) (by omega) (show (upC (upC (τ) 267 (((x : Nat) : Int)).toNat (((lo (X x) : Nat) : Int))) 270 (((x : Nat) : Int)).toNat (0)) rg (((x : Nat) : Int)).toNat = ((X x : Nat) : Int) from (ldx rfl (show (upC (upC (τ) 267 (((x : Nat) : Int)).toNat (((lo (X x) : Nat) : Int))) 270 (((x : Nat) : Int)).toNat (0)) rg x = _ from (rg_of hgn (by decide) (by decide)).trans ((congrFun (hF0 rg hgn) x).trans (hX x (by omega)).1)))) ?_
      refine Ev.callSN_I (M2 := mX7_isOne) (args2 := [vI (((X x : Nat) : Int))]) (host := "NarrowingKernel") dX4_arrange_45 okX7_isOne (show _ ∈ nestL from by decide) osX7_isOne.1 osX7_isOne.2 (by decide) rfl (Nat.le_of_ble_eq_true rfl) (Nat.le_of_ble_eq_true rfl) (s7_isOne (upC (upC (τ) 267 (((x : Nat) : Int)).toNat (((lo (X x) : Nat) : Int))) 270 (((x : Nat) : Int)).toNat (0)) (X x) hxx.2 hxx.1) ?_ rfl
      refine Ev.if_ne (tgt := 80) bI_inR dX4_arrange_48 (by decide) (fun h48 => ?_) (fun h48 => ?_)
      · skip
        refine Ev.iinc (pl' := [some (vR (266)), some (vR (rg)), some (vI (((U : Nat) : Int))), some (vR (3)), some (vL (((w : Nat) : Int))), none, some (vI (((chN X x : Nat) : Int))), some (vI (((x : Nat) : Int) + 1))]) dX4_arrange_80 rfl (Nat.le_of_ble_eq_true rfl) rfl ?_
        refine Ev.goto (tgt := 13) dX4_arrange_83 (by decide) ?_
        refine Ev.mem (τ := upC (upC τ 267 x (lo (X x) : Int)) 270 x 0) (by simp only [Int.toNat_natCast]) ?_
        refine Ev.wk (pl' := [some (vR (266)), some (vR (rg)), some (vI (((U : Nat) : Int))), some (vR (3)), some (vL (((w : Nat) : Int))), none, some (vI (((chN X (x + 1) : Nat) : Int))), some (vI ((((x + 1) : Nat) : Int)))]) ⟨rfl, ⟨rfl, ⟨rfl, ⟨rfl, ⟨rfl, ⟨vIe (by first | rw [chN_1 (bI_1.mp h48)] | (rw [chN_2 (bI_0.mp h48)]; omega)), ⟨vIe (by omega), trivial⟩⟩⟩⟩⟩⟩⟩ ?_
        exact ih (x + 1) (by omega) _ ((hF0.up (by decide)).up (by decide)) (hR.y1 (bI_1.mp h48)) kk
      · skip
        refine Ev.aload_n dX4_arrange_51 rfl rfl ?_
        refine gf_X4_15 rfl dX4_arrange_52 ltc_266 shc_266 rfc_266_2 ?_
        refine Ev.iload dX4_arrange_55 rfl ?_
        refine Ev.iload dX4_arrange_57 rfl ?_
        refine Ev.iastore dX4_arrange_59 ltc_268 shc_268 (by decide) (by omega) (by omega) ?_
        refine Ev.iinc (pl' := [some (vR (266)), some (vR (rg)), some (vI (((U : Nat) : Int))), some (vR (3)), some (vL (((w : Nat) : Int))), none, some (vI (((chN X x : Nat) : Int) + 1)), some (vI (((x : Nat) : Int)))]) dX4_arrange_60 rfl (Nat.le_of_ble_eq_true rfl) rfl ?_
        refine Ev.aload_n dX4_arrange_63 rfl rfl ?_
        refine gf_X4_21 rfl dX4_arrange_64 ltc_266 shc_266 rfc_266_4 ?_
        refine Ev.iload dX4_arrange_67 rfl ?_
        refine Ev.iload dX4_arrange_69 rfl ?_
        refine Ev.iastore dX4_arrange_71 ltc_270 shc_270 (by decide) (by omega) (by omega) ?_
        refine Ev.aload_n dX4_arrange_72 rfl rfl ?_
        refine gf_X4_24 rfl dX4_arrange_73 ltc_266 shc_266 rfc_266_5 ?_
        refine Ev.iload dX4_arrange_76 rfl ?_
        refine Ev.lconst 0 rfl dX4_arrange_78 ?_
        refine Ev.lastore dX4_arrange_79 ltc_271 shc_271 (by decide) (by omega) (by omega) ?_
        refine Ev.iinc (pl' := [some (vR (266)), some (vR (rg)), some (vI (((U : Nat) : Int))), some (vR (3)), some (vL (((w : Nat) : Int))), none, some (vI (((chN X x : Nat) : Int) + 1)), some (vI (((x : Nat) : Int) + 1))]) dX4_arrange_80 rfl (Nat.le_of_ble_eq_true rfl) rfl ?_
        refine Ev.goto (tgt := 13) dX4_arrange_83 (by decide) ?_
        refine Ev.mem (τ := upC (upC (upC (upC (upC τ 267 x (lo (X x) : Int)) 270 x 0) 268 (chN X x) (x : Int)) 270 x ((chN X x + 1 : Nat) : Int)) 271 (chN X x + 1) 0) (by rw [show ((chN X x : Nat) : Int) + 1 = ((chN X x + 1 : Nat) : Int) by omega]; simp only [Int.toNat_natCast]) ?_
        refine Ev.wk (pl' := [some (vR (266)), some (vR (rg)), some (vI (((U : Nat) : Int))), some (vR (3)), some (vL (((w : Nat) : Int))), none, some (vI (((chN X (x + 1) : Nat) : Int))), some (vI ((((x + 1) : Nat) : Int)))]) ⟨rfl, ⟨rfl, ⟨rfl, ⟨rfl, ⟨rfl, ⟨vIe (by first | rw [chN_1 (bI_1.mp h48)] | (rw [chN_2 (bI_0.mp h48)]; omega)), ⟨vIe (by omega), trivial⟩⟩⟩⟩⟩⟩⟩ ?_
        exact ih (x + 1) (by omega) _ (((((hF0.up (by decide)).up (by decide)).up (by decide)).up (by decide)).up (by decide)) (hR.y2 (bI_0.mp h48)) kk

set_option maxRecDepth 100000 in
set_option maxHeartbeats 4000000 in
theorem s4_ar2 {g : GC} (σ : Sg) (U : Nat) (hU : U ≤ 10) (X : Rg) (rg : Nat) (hg : rg < 298) (hgs : sh0 rg = (1, 10)) (hgn : rg ∉ SK) (hX : AV σ rg U X) (Rf : Nat → RC) (w : Nat) (hw : w < 65536) (hC : ∀ r, r < 16 → w.testBit r = true → CR σ r (Rf r) ∧ WR U (Rf r)) (τ0 : Sg) (hF0 : Same SK σ τ0) (hR : Arr X U τ0) : ∀ j r : Nat, r + j = 16 → ∀ τ : Sg, Same [271] τ0 τ → (∀ s, s ≤ chN X U → τ 271 s = (duM Rf w X r s : Int)) → Ev g mX4_arrange 89 [some (vR (266)), some (vR (rg)), some (vI (((U : Nat) : Int))), some (vR (3)), some (vL (((w : Nat) : Int))), none, some (vI (((chN X U : Nat) : Int))), some (vI (((r : Nat) : Int)))] [] (M0 (τ)) 0 0 (retE (fun v τ => v = (chN X U : Int) ∧ Same SK σ τ ∧ (∀ y, y < U → τ 267 y = (lo (X y) : Int)) ∧ (∃ op, OpOk U X op ∧ ∀ k, k < chN X U → τ 268 k = (op k : Int)) ∧ ∀ s, s ≤ chN X U → τ 271 s = (duM Rf w X 16 s : Int))) := by
  intro j
  induction j with
  | zero =>
    intro r hij τ hF hD
    refine Ev.iload dX4_arrange_89 rfl ?_
    refine Ev.aload_n dX4_arrange_91 rfl rfl ?_
    refine Ev.ralen dX4_arrange_92 ltc_3 shc_3 ?_
    refine Ev.icmp_ge (tgt := 134) ⟨by omega, by omega⟩ ⟨by decide, by decide⟩ dX4_arrange_93 (by decide) (fun h93 => ?_) (fun h93 => ?_)
    · skip
      refine Ev.iload dX4_arrange_134 rfl ?_
      exact Ev.ireturn dX4_arrange_136 rfl (rE ⟨rfl, hF0.tr (hF.wide (fun c hc => by simp at hc; subst hc; decide)), fun y hy => (congrFun (hF 267 (by decide)) y).trans (hR.1 y hy), ⟨fun k => (τ0 268 k).toNat, fun y hy hp => by show (τ0 268 (chN X y)).toNat = y; rw [hR.2.2.1 y hy hp]; rfl, fun k hk => by obtain ⟨y, z1, z2, z3⟩ := chN_sur hk; show τ 268 k = ((τ0 268 k).toNat : Int); rw [hF 268 (by decide), ← z3, hR.2.2.1 y z1 z2]; rfl⟩, fun s hs => by rw [hD s hs, show r = 16 by omega]⟩)
    · exact absurd h93 (by omega)
  | succ j ih =>
    intro r hij τ hF hD
    have hp16 := pow_le16 (show r < 16 by omega)
    have hcU := chN_le X U
    have hdl : duM Rf w X r (lsN X (Rf r) (rN (Rf r))) < 65536 := duM_lt (by omega)
    refine Ev.iload dX4_arrange_89 rfl ?_
    refine Ev.aload_n dX4_arrange_91 rfl rfl ?_
    refine Ev.ralen dX4_arrange_92 ltc_3 shc_3 ?_
    refine Ev.icmp_ge (tgt := 134) ⟨by omega, by omega⟩ ⟨by decide, by decide⟩ dX4_arrange_93 (by decide) (fun h93 => ?_) (fun h93 => ?_)
    · exact absurd h93 (by omega)
    · skip
      refine Ev.lload dX4_arrange_96 rfl ?_
      refine Ev.iload dX4_arrange_98 rfl ?_
      refine Ev.lshr dX4_arrange_100 ?_
      refine Ev.lconst 1 rfl dX4_arrange_101 ?_
      refine Ev.land dX4_arrange_102 ?_
      rw [show (lAnd ((lShr (((w : Nat) : Int)) (((r : Nat) : Int)))) (1)) = ((b2 (Nat.testBit w r) : Nat) : Int) from lbit_nat (by omega) (by omega)]
      refine Ev.lconst 0 rfl dX4_arrange_103 ?_
      refine Ev.lcmp b2_inL ⟨by decide, by decide⟩ dX4_arrange_104 ?_
      rw [show (lCmp (((b2 (Nat.testBit w r) : Nat) : Int)) (0)) = (((b2 (Nat.testBit w r)) : Nat) : Int) from lCmp_b2]
      refine Ev.if_eq (tgt := 128) b2_inR dX4_arrange_105 (by decide) (fun h105 => ?_) (fun h105 => ?_)
      · skip
        refine Ev.iinc (pl' := [some (vR (266)), some (vR (rg)), some (vI (((U : Nat) : Int))), some (vR (3)), some (vL (((w : Nat) : Int))), none, some (vI (((chN X U : Nat) : Int))), some (vI (((r : Nat) : Int) + 1))]) dX4_arrange_128 rfl (Nat.le_of_ble_eq_true rfl) rfl ?_
        refine Ev.goto (tgt := 89) dX4_arrange_131 (by decide) ?_
        refine Ev.wk (pl' := [some (vR (266)), some (vR (rg)), some (vI (((U : Nat) : Int))), some (vR (3)), some (vL (((w : Nat) : Int))), none, some (vI (((chN X U : Nat) : Int))), some (vI ((((r + 1) : Nat) : Int)))]) ⟨rfl, ⟨rfl, ⟨rfl, ⟨rfl, ⟨rfl, ⟨rfl, ⟨vIe (by omega), trivial⟩⟩⟩⟩⟩⟩⟩ ?_
        exact ih (r + 1) (by omega) τ hF (fun s hs => by rw [hD s hs, du_no (b2_0.mp h105)])
      · skip
        have hCr := hC r (by omega) (b2_ne.mp h105)
        have hlK : lsN X (Rf r) (rN (Rf r)) ≤ chN X U := lsN_le.mpr fun k hk => stX_le (hCr.2.2.1 k hk)
        refine Ev.aload_n dX4_arrange_108 rfl rfl ?_
        refine gf_X4_24 rfl dX4_arrange_109 ltc_266 shc_266 rfc_266_5 ?_
        refine Ev.aload_n dX4_arrange_112 rfl rfl ?_
        refine Ev.aload_n dX4_arrange_113 rfl rfl ?_
        refine Ev.iload dX4_arrange_114 rfl ?_
        refine Ev.raload dX4_arrange_116 ltc_3 shc_3 (by decide) (by omega) (by omega) (rf_rule (by omega)) ?_
        refine Ev.callV_I (M2 := mX4_lastStage) (args2 := [vR (26 + 4 * r)]) (rcv := 266) (q := (RX4, TX4, 6)) (ci := 4) dX4_arrange_117 okX4_lastStage lk_X4_51 ovX4_lastStage.1.1 ovX4_lastStage.1.2 ovX4_lastStage.2 (by decide) rfl rfl ltc_266 shc_266 rfl (Nat.le_of_ble_eq_true rfl) (Nat.le_of_ble_eq_true rfl) (s4_lastStage τ r U (Rf r) (by omega) (hCr.1.same (hF0.tr (hF.wide (fun c hc => by simp at hc; subst hc; decide))) (fun j hj => nSK (by omega))) hCr.2 X (fun k hk => (congrFun (hF 270 (by decide)) _).trans (hR.2.1 _ (hCr.2.2.1 k hk)))) ?_ rfl
        refine Ev.dup2RI dX4_arrange_120 ?_
        refine Ev.laload (v := ((duM Rf w X r (lsN X (Rf r) (rN (Rf r))) : Nat) : Int)) dX4_arrange_121 ltc_271 shc_271 (by decide) (by omega) (by omega) (ldx rfl (hD _ hlK)) ?_
        refine Ev.lconst 1 rfl dX4_arrange_122 ?_
        refine Ev.iload dX4_arrange_123 rfl ?_
        refine Ev.lshl dX4_arrange_125 ?_
        rw [show (lShl (1) (((r : Nat) : Int))) = ((2 ^ r : Nat) : Int) from lshl1 (by omega)]
        refine Ev.lor dX4_arrange_126 ?_
        rw [show (lOr (((duM Rf w X r (lsN X (Rf r) (rN (Rf r))) : Nat) : Int)) (((2 ^ r : Nat) : Int))) = ((duM Rf w X (r + 1) (lsN X (Rf r) (rN (Rf r))) : Nat) : Int) from by rw [lOr_nat (by omega) (by omega)]; unfold duM; rw [mkN_t ⟨b2_ne.mp h105, rfl⟩]]
        refine Ev.lastore dX4_arrange_127 ltc_271 shc_271 (by decide) (by omega) (by omega) ?_
        refine Ev.iinc (pl' := [some (vR (266)), some (vR (rg)), some (vI (((U : Nat) : Int))), some (vR (3)), some (vL (((w : Nat) : Int))), none, some (vI (((chN X U : Nat) : Int))), some (vI (((r : Nat) : Int) + 1))]) dX4_arrange_128 rfl (Nat.le_of_ble_eq_true rfl) rfl ?_
        refine Ev.goto (tgt := 89) dX4_arrange_131 (by decide) ?_
        refine Ev.wk (pl' := [some (vR (266)), some (vR (rg)), some (vI (((U : Nat) : Int))), some (vR (3)), some (vL (((w : Nat) : Int))), none, some (vI (((chN X U : Nat) : Int))), some (vI ((((r + 1) : Nat) : Int)))]) ⟨rfl, ⟨rfl, ⟨rfl, ⟨rfl, ⟨rfl, ⟨rfl, ⟨vIe (by omega), trivial⟩⟩⟩⟩⟩⟩⟩ ?_
        exact ih (r + 1) (by omega) (upC (τ) 271 (((lsN X (Rf r) (rN (Rf r)) : Nat) : Int)).toNat (((duM Rf w X (r + 1) (lsN X (Rf r) (rN (Rf r))) : Nat) : Int))) (hF.up (by decide)) (du_up (b2_ne.mp h105) rfl rfl hD)

set_option maxRecDepth 100000 in
set_option maxHeartbeats 4000000 in
theorem s4_arrange {g : GC} (σ : Sg) (U : Nat) (hU : U ≤ 10) (X : Rg) (rg : Nat) (hg : rg < 298) (hgs : sh0 rg = (1, 10)) (hgn : rg ∉ SK) (hX : AV σ rg U X) (Rf : Nat → RC) (w : Nat) (hw : w < 65536) (hC : ∀ r, r < 16 → w.testBit r = true → CR σ r (Rf r) ∧ WR U (Rf r)) : Ev g mX4_arrange 0 [some (vR (266)), some (vR (rg)), some (vI (((U : Nat) : Int))), some (vR (3)), some (vL (((w : Nat) : Int))), none, none, none] [] (M0 (σ)) 0 0 (retE (fun v τ => v = (chN X U : Int) ∧ Same SK σ τ ∧ (∀ y, y < U → τ 267 y = (lo (X y) : Int)) ∧ (∃ op, OpOk U X op ∧ ∀ k, k < chN X U → τ 268 k = (op k : Int)) ∧ ∀ s, s ≤ chN X U → τ 271 s = (duM Rf w X 16 s : Int))) := by
  refine Ev.iconst dX4_arrange_0 ?_
  refine Ev.istore (pl' := [some (vR (266)), some (vR (rg)), some (vI (((U : Nat) : Int))), some (vR (3)), some (vL (((w : Nat) : Int))), none, some (vI (0)), none]) dX4_arrange_1 (Nat.le_of_ble_eq_true rfl) rfl ?_
  refine Ev.aload_n dX4_arrange_3 rfl rfl ?_
  refine gf_X4_24 rfl dX4_arrange_4 ltc_266 shc_266 rfc_266_5 ?_
  refine Ev.iconst dX4_arrange_7 ?_
  refine Ev.lconst 0 rfl dX4_arrange_8 ?_
  refine Ev.lastore dX4_arrange_9 ltc_271 shc_271 (by decide) (by omega) (by omega) ?_
  refine Ev.mem (τ := upC σ 271 0 0) rfl ?_
  refine Ev.iconst dX4_arrange_10 ?_
  refine Ev.istore (pl' := [some (vR (266)), some (vR (rg)), some (vI (((U : Nat) : Int))), some (vR (3)), some (vL (((w : Nat) : Int))), none, some (vI (0)), some (vI (0))]) dX4_arrange_11 (Nat.le_of_ble_eq_true rfl) rfl ?_
  refine Ev.wk (pl' := [some (vR (266)), some (vR (rg)), some (vI (((U : Nat) : Int))), some (vR (3)), some (vL (((w : Nat) : Int))), none, some (vI (((0 : Nat) : Int))), some (vI (((0 : Nat) : Int)))]) ⟨rfl, ⟨rfl, ⟨rfl, ⟨rfl, ⟨rfl, ⟨vIe rfl, ⟨vIe rfl, trivial⟩⟩⟩⟩⟩⟩⟩ ?_
  refine s4_ar1 σ U hU X rg hg hgs hgn hX w U 0 (by omega) (upC σ 271 0 0) (Same.rf.up (by decide)) ⟨fun y hy => absurd hy (by omega), fun y hy => absurd hy (by omega), fun y hy => absurd hy (by omega), fun s hs => by rw [show s = 0 by have : chN X 0 = 0 := rfl; omega]; exact upC_at⟩ (fun τ0 hF0 hR => ?_)
  refine Ev.iconst dX4_arrange_86 ?_
  refine Ev.istore (pl' := [some (vR (266)), some (vR (rg)), some (vI (((U : Nat) : Int))), some (vR (3)), some (vL (((w : Nat) : Int))), none, some (vI (((chN X U : Nat) : Int))), some (vI (0))]) dX4_arrange_87 (Nat.le_of_ble_eq_true rfl) rfl ?_
  refine Ev.wk (pl' := [some (vR (266)), some (vR (rg)), some (vI (((U : Nat) : Int))), some (vR (3)), some (vL (((w : Nat) : Int))), none, some (vI (((chN X U : Nat) : Int))), some (vI (((0 : Nat) : Int)))]) ⟨rfl, ⟨rfl, ⟨rfl, ⟨rfl, ⟨rfl, ⟨rfl, ⟨vIe rfl, trivial⟩⟩⟩⟩⟩⟩⟩ ?_
  exact s4_ar2 σ U hU X rg hg hgs hgn hX Rf w hw hC τ0 hF0 hR 16 0 (by omega) τ0 Same.rf (fun s hs => by rw [hR.2.2.2 s hs]; rfl)

