/-! THE CLASS: clauses; any rule; how many are taken -/
set_option maxRecDepth 100000 in
set_option maxHeartbeats 4000000 in
theorem s1_cl0 {g : GC} (σ : Sg) (r U : Nat) (R : RC) (hr : r < 56) (hM : CR σ r R) (hW : WR U R) (X : Rg) (rg : Nat) (hg : rg < 298) (hgs : sh0 rg = (1, 10)) (hgn : rg ∉ LK) (hX : AV σ rg U X) (hk5 : rK R = 5) {Post : Option PV → Mem → Prop} : ∀ j K : Nat, K + j = rN R → ∀ τ : Sg, Same LK σ τ → τ 263 = σ 263 → (∀ k, k < K → τ 265 (rO R k) = (fun _ => (0 : Int)) (rO R k)) → (∀ τ : Sg, Same LK σ τ → τ 263 = σ 263 → (∀ k, k < rN R → τ 265 (rO R k) = 0) → Ev g mX1_lookAtClause 28 [some (vR (261)), some (vR (26 + 4 * r)), some (vR (rg)), none, none, none] [] (M0 τ) 0 0 Post) → Ev g mX1_lookAtClause 2 [some (vR (261)), some (vR (26 + 4 * r)), some (vR (rg)), some (vI (((K : Nat) : Int))), none, none] [] (M0 (τ)) 0 0 (Post) := by
  intro j
  induction j with
  | zero =>
    intro K hij τ hF hJ hG kk
    have hF0 := hF
    have hM := hM.same hF (fun j hj => nLK (by omega))
    have hX := hX.same hF hgn
    obtain ⟨hK, hS, hB, hN, hE, hP⟩ := id hM
    obtain ⟨⟨hk5_, hn6, hU⟩, hO, -⟩ := id hW
    have hXR : ∀ k, k < rN R → X (rO R k) ≠ 0 ∧ X (rO R k) < 65536 := fun k hk => (hX _ (hO k hk)).2
    have hA5 := hW.2.2.2.2.2.1 hk5
    refine Ev.iload_n dX1_lookAtClause_2 rfl rfl ?_
    refine Ev.aload_n dX1_lookAtClause_3 rfl rfl ?_
    refine gf_X1_53 (x := ((rN R : Nat) : Int)) rfl dX1_lookAtClause_4 (lt_rc (by omega)) (sh_rc (by omega)) hN ?_
    refine Ev.icmp_ge (tgt := 28) ⟨by omega, by omega⟩ ⟨by omega, by omega⟩ dX1_lookAtClause_7 (by decide) (fun h7 => ?_) (fun h7 => ?_)
    · skip
      refine Ev.wk (pl' := [some (vR (261)), some (vR (26 + 4 * r)), some (vR (rg)), none, none, none]) ⟨rfl, ⟨rfl, ⟨rfl, trivial⟩⟩⟩ ?_
      exact kk τ hF0 hJ (fun k hk => hG k (by omega))
    · exact absurd h7 (by omega)
  | succ j ih =>
    intro K hij τ hF hJ hG kk
    have hF0 := hF
    have hM := hM.same hF (fun j hj => nLK (by omega))
    have hX := hX.same hF hgn
    obtain ⟨hK, hS, hB, hN, hE, hP⟩ := id hM
    obtain ⟨⟨hk5_, hn6, hU⟩, hO, -⟩ := id hW
    have hXR : ∀ k, k < rN R → X (rO R k) ≠ 0 ∧ X (rO R k) < 65536 := fun k hk => (hX _ (hO k hk)).2
    have hA5 := hW.2.2.2.2.2.1 hk5
    refine Ev.iload_n dX1_lookAtClause_2 rfl rfl ?_
    refine Ev.aload_n dX1_lookAtClause_3 rfl rfl ?_
    refine gf_X1_53 (x := ((rN R : Nat) : Int)) rfl dX1_lookAtClause_4 (lt_rc (by omega)) (sh_rc (by omega)) hN ?_
    refine Ev.icmp_ge (tgt := 28) ⟨by omega, by omega⟩ ⟨by omega, by omega⟩ dX1_lookAtClause_7 (by decide) (fun h7 => ?_) (fun h7 => ?_)
    · exact absurd h7 (by omega)
    · skip
      refine Ev.aload_n dX1_lookAtClause_10 rfl rfl ?_
      refine gf_X1_23 rfl dX1_lookAtClause_11 ltc_261 shc_261 rfc_261_4 ?_
      refine Ev.aload_n dX1_lookAtClause_14 rfl rfl ?_
      refine gf_X1_56 rfl dX1_lookAtClause_15 (lt_rc (by omega)) (sh_rc (by omega)) (rf_rc5 (by omega)) ?_
      refine Ev.iload_n dX1_lookAtClause_18 rfl rfl ?_
      refine Ev.iaload (v := ((rO R K : Nat) : Int)) dX1_lookAtClause_19 (lt_rcf (by omega) (by decide)) (sh_rc1 (by omega)) (by decide) (by omega) (by omega) (ldx rfl (hP K (by omega)).1) ?_
      refine Ev.iconst dX1_lookAtClause_20 ?_
      refine Ev.iastore dX1_lookAtClause_21 ltc_265 shc_265 (by decide) (by omega) (Int.ofNat_lt.mpr (Nat.lt_of_lt_of_le (hO _ (by omega)) hU)) ?_
      refine Ev.iinc (pl' := [some (vR (261)), some (vR (26 + 4 * r)), some (vR (rg)), some (vI (((K : Nat) : Int) + 1)), none, none]) dX1_lookAtClause_22 rfl (Nat.le_of_ble_eq_true rfl) rfl ?_
      refine Ev.goto (tgt := 2) dX1_lookAtClause_25 (by decide) ?_
      refine Ev.wk (pl' := [some (vR (261)), some (vR (26 + 4 * r)), some (vR (rg)), some (vI ((((K + 1) : Nat) : Int))), none, none]) ⟨rfl, ⟨rfl, ⟨rfl, ⟨vIe (by omega), trivial⟩⟩⟩⟩ ?_
      exact ih (K + 1) (by omega) (upC (τ) 265 (((rO R K : Nat) : Int)).toNat (0)) (hF0.up (by decide)) (by rw [upC_ne (by decide)]; exact hJ) (up_F (F := fun _ => (0 : Int)) rfl rfl hG) kk

theorem alM_0 {R : RC} {X : Rg} : alM R X 0 = 0 := (mk_eq (by decide) (fun v _ => by
  constructor
  · intro z; rw [Nat.zero_testBit] at z; cases z
  · rintro ⟨k, hk, _⟩; exact absurd hk (by omega))).symm
theorem so_up {R : RC} {τ : Sg} {K : Nat} {j v : Int} (hj : j = (rO R K : Int)) (hv : v = (soM R (K + 1) (rO R K) : Int)) (hG : ∀ k, k < rN R → τ 265 (rO R k) = (soM R K (rO R k) : Int)) : ∀ k, k < rN R → upC τ 265 j.toNat v 265 (rO R k) = (soM R (K + 1) (rO R k) : Int) := by
  intro k hk
  subst hj
  rw [show ((rO R K : Nat) : Int).toNat = rO R K from rfl]
  by_cases e : rO R k = rO R K
  · rw [e, ← hv]; exact upC_at
  · rw [upC_self e, hG k hk]
    simp only [soM]
    rw [if_neg (fun z => e z.symm), Nat.or_zero]
set_option maxRecDepth 100000 in
set_option maxHeartbeats 4000000 in
theorem s1_cl1 {g : GC} (σ : Sg) (r U : Nat) (R : RC) (hr : r < 56) (hM : CR σ r R) (hW : WR U R) (X : Rg) (rg : Nat) (hg : rg < 298) (hgs : sh0 rg = (1, 10)) (hgn : rg ∉ LK) (hX : AV σ rg U X) (hk5 : rK R = 5) {Post : Option PV → Mem → Prop} : ∀ j K : Nat, K + j = rN R → ∀ τ : Sg, Same LK σ τ → τ 263 = σ 263 → (∀ k, k < rN R → τ 265 (rO R k) = (soM R K (rO R k) : Int)) → (∀ τ : Sg, Same LK σ τ → τ 263 = σ 263 → (∀ k, k < rN R → τ 265 (rO R k) = (soM R (rN R) (rO R k) : Int)) → Ev g mX1_lookAtClause 64 [some (vR (261)), some (vR (26 + 4 * r)), some (vR (rg)), none, none, none] [] (M0 τ) 0 0 Post) → Ev g mX1_lookAtClause 30 [some (vR (261)), some (vR (26 + 4 * r)), some (vR (rg)), some (vI (((K : Nat) : Int))), none, none] [] (M0 (τ)) 0 0 (Post) := by
  intro j
  induction j with
  | zero =>
    intro K hij τ hF hJ hG kk
    have hF0 := hF
    have hM := hM.same hF (fun j hj => nLK (by omega))
    have hX := hX.same hF hgn
    obtain ⟨hK, hS, hB, hN, hE, hP⟩ := id hM
    obtain ⟨⟨hk5_, hn6, hU⟩, hO, -⟩ := id hW
    have hXR : ∀ k, k < rN R → X (rO R k) ≠ 0 ∧ X (rO R k) < 65536 := fun k hk => (hX _ (hO k hk)).2
    have hA5 := hW.2.2.2.2.2.1 hk5
    refine Ev.iload_n dX1_lookAtClause_30 rfl rfl ?_
    refine Ev.aload_n dX1_lookAtClause_31 rfl rfl ?_
    refine gf_X1_53 (x := ((rN R : Nat) : Int)) rfl dX1_lookAtClause_32 (lt_rc (by omega)) (sh_rc (by omega)) hN ?_
    refine Ev.icmp_ge (tgt := 64) ⟨by omega, by omega⟩ ⟨by omega, by omega⟩ dX1_lookAtClause_35 (by decide) (fun h35 => ?_) (fun h35 => ?_)
    · skip
      refine Ev.wk (pl' := [some (vR (261)), some (vR (26 + 4 * r)), some (vR (rg)), none, none, none]) ⟨rfl, ⟨rfl, ⟨rfl, trivial⟩⟩⟩ ?_
      exact kk τ hF0 hJ (fun k hk => by rw [hG k hk, show K = rN R by omega])
    · exact absurd h35 (by omega)
  | succ j ih =>
    intro K hij τ hF hJ hG kk
    have hF0 := hF
    have hM := hM.same hF (fun j hj => nLK (by omega))
    have hX := hX.same hF hgn
    obtain ⟨hK, hS, hB, hN, hE, hP⟩ := id hM
    obtain ⟨⟨hk5_, hn6, hU⟩, hO, -⟩ := id hW
    have hXR : ∀ k, k < rN R → X (rO R k) ≠ 0 ∧ X (rO R k) < 65536 := fun k hk => (hX _ (hO k hk)).2
    have hA5 := hW.2.2.2.2.2.1 hk5
    have hak := hA5 K (by omega)
    have hsl := soM_lt (n := K) (R := R) (fun k hk => hA5 k (by omega)) (rO R K)
    refine Ev.iload_n dX1_lookAtClause_30 rfl rfl ?_
    refine Ev.aload_n dX1_lookAtClause_31 rfl rfl ?_
    refine gf_X1_53 (x := ((rN R : Nat) : Int)) rfl dX1_lookAtClause_32 (lt_rc (by omega)) (sh_rc (by omega)) hN ?_
    refine Ev.icmp_ge (tgt := 64) ⟨by omega, by omega⟩ ⟨by omega, by omega⟩ dX1_lookAtClause_35 (by decide) (fun h35 => ?_) (fun h35 => ?_)
    · exact absurd h35 (by omega)
    · skip
      refine Ev.aload_n dX1_lookAtClause_38 rfl rfl ?_
      refine gf_X1_23 rfl dX1_lookAtClause_39 ltc_261 shc_261 rfc_261_4 ?_
      refine Ev.aload_n dX1_lookAtClause_42 rfl rfl ?_
      refine gf_X1_56 rfl dX1_lookAtClause_43 (lt_rc (by omega)) (sh_rc (by omega)) (rf_rc5 (by omega)) ?_
      refine Ev.iload_n dX1_lookAtClause_46 rfl rfl ?_
      refine Ev.iaload (v := ((rO R K : Nat) : Int)) dX1_lookAtClause_47 (lt_rcf (by omega) (by decide)) (sh_rc1 (by omega)) (by decide) (by omega) (by omega) (ldx rfl (hP K (by omega)).1) ?_
      refine Ev.dup2RI dX1_lookAtClause_48 ?_
      refine Ev.iaload (v := ((soM R K (rO R K) : Nat) : Int)) dX1_lookAtClause_49 ltc_265 shc_265 (by decide) (by omega) (Int.ofNat_lt.mpr (Nat.lt_of_lt_of_le (hO _ (by omega)) hU)) (ldx rfl (hG K (by omega))) ?_
      refine Ev.aload_n dX1_lookAtClause_50 rfl rfl ?_
      refine gf_X1_59 rfl dX1_lookAtClause_51 (lt_rc (by omega)) (sh_rc (by omega)) (rf_rc6 (by omega)) ?_
      refine Ev.iload_n dX1_lookAtClause_54 rfl rfl ?_
      refine Ev.iaload (v := (((rA R K).toNat : Nat) : Int)) dX1_lookAtClause_55 (lt_rcf (by omega) (by decide)) (sh_rc2 (by omega)) (by decide) (by omega) (by omega) (ldx rfl ((hP K (by omega)).2.1.trans (by omega))) ?_
      refine Ev.ior dX1_lookAtClause_56 ?_
      rw [show (iOr (((soM R K (rO R K) : Nat) : Int)) ((((rA R K).toNat : Nat) : Int))) = ((soM R (K + 1) (rO R K) : Nat) : Int) from by simp only [soM]; rw [if_pos trivial]; exact iOr_nat (by omega) (by omega)]
      refine Ev.iastore dX1_lookAtClause_57 ltc_265 shc_265 (by decide) (by omega) (Int.ofNat_lt.mpr (Nat.lt_of_lt_of_le (hO _ (by omega)) hU)) ?_
      refine Ev.iinc (pl' := [some (vR (261)), some (vR (26 + 4 * r)), some (vR (rg)), some (vI (((K : Nat) : Int) + 1)), none, none]) dX1_lookAtClause_58 rfl (Nat.le_of_ble_eq_true rfl) rfl ?_
      refine Ev.goto (tgt := 30) dX1_lookAtClause_61 (by decide) ?_
      refine Ev.wk (pl' := [some (vR (261)), some (vR (26 + 4 * r)), some (vR (rg)), some (vI ((((K + 1) : Nat) : Int))), none, none]) ⟨rfl, ⟨rfl, ⟨rfl, ⟨vIe (by omega), trivial⟩⟩⟩⟩ ?_
      exact ih (K + 1) (by omega) (upC (τ) 265 (((rO R K : Nat) : Int)).toNat (((soM R (K + 1) (rO R K) : Nat) : Int))) (hF0.up (by decide)) (by rw [upC_ne (by decide)]; exact hJ) (so_up rfl rfl hG) kk

set_option maxRecDepth 100000 in
set_option maxHeartbeats 4000000 in
theorem s1_cl2 {g : GC} (σ : Sg) (r U : Nat) (R : RC) (hr : r < 56) (hM : CR σ r R) (hW : WR U R) (X : Rg) (rg : Nat) (hg : rg < 298) (hgs : sh0 rg = (1, 10)) (hgn : rg ∉ LK) (hX : AV σ rg U X) (hk5 : rK R = 5) (hso : ∀ k, k < rN R → σ 265 (rO R k) = (soM R (rN R) (rO R k) : Int)) {Post : Option PV → Mem → Prop} : ∀ j K : Nat, K + j = rN R → Ev g mX1_lookAtClause 115 [some (vR (261)), some (vR (26 + 4 * r)), some (vR (rg)), some (vI (((alM R X (rN R) : Nat) : Int))), none, none] [] (M0 (σ)) 0 0 Post → Ev g mX1_lookAtClause 69 [some (vR (261)), some (vR (26 + 4 * r)), some (vR (rg)), some (vI (((alM R X K : Nat) : Int))), some (vI (((K : Nat) : Int))), none] [] (M0 (σ)) 0 0 (Post) := by
  intro j
  induction j with
  | zero =>
    intro K hij kk
    obtain ⟨hK, hS, hB, hN, hE, hP⟩ := id hM
    obtain ⟨⟨hk5_, hn6, hU⟩, hO, -⟩ := id hW
    have hXR : ∀ k, k < rN R → X (rO R k) ≠ 0 ∧ X (rO R k) < 65536 := fun k hk => (hX _ (hO k hk)).2
    have hA5 := hW.2.2.2.2.2.1 hk5
    have hal : alM R X K < 65536 := mk_lt _
    refine Ev.iload dX1_lookAtClause_69 rfl ?_
    refine Ev.aload_n dX1_lookAtClause_71 rfl rfl ?_
    refine gf_X1_53 (x := ((rN R : Nat) : Int)) rfl dX1_lookAtClause_72 (lt_rc (by omega)) (sh_rc (by omega)) hN ?_
    refine Ev.icmp_ge (tgt := 115) ⟨by omega, by omega⟩ ⟨by omega, by omega⟩ dX1_lookAtClause_75 (by decide) (fun h75 => ?_) (fun h75 => ?_)
    · skip
      refine Ev.wk (pl' := [some (vR (261)), some (vR (26 + 4 * r)), some (vR (rg)), some (vI (((alM R X (rN R) : Nat) : Int))), none, none]) ⟨rfl, ⟨rfl, ⟨rfl, ⟨vIe (by rw [show K = rN R by omega]), trivial⟩⟩⟩⟩ ?_
      exact kk
    · exact absurd h75 (by omega)
  | succ j ih =>
    intro K hij kk
    obtain ⟨hK, hS, hB, hN, hE, hP⟩ := id hM
    obtain ⟨⟨hk5_, hn6, hU⟩, hO, -⟩ := id hW
    have hXR : ∀ k, k < rN R → X (rO R k) ≠ 0 ∧ X (rO R k) < 65536 := fun k hk => (hX _ (hO k hk)).2
    have hA5 := hW.2.2.2.2.2.1 hk5
    have hal : alM R X K < 65536 := mk_lt _
    have hxk := hXR K (by omega)
    have hOk : rO R K < 16 := by have := hO K (by omega); omega
    have hp16 := pow_le16 hOk
    have hsl := soM_lt (n := rN R) (R := R) hA5 (rO R K)
    refine Ev.iload dX1_lookAtClause_69 rfl ?_
    refine Ev.aload_n dX1_lookAtClause_71 rfl rfl ?_
    refine gf_X1_53 (x := ((rN R : Nat) : Int)) rfl dX1_lookAtClause_72 (lt_rc (by omega)) (sh_rc (by omega)) hN ?_
    refine Ev.icmp_ge (tgt := 115) ⟨by omega, by omega⟩ ⟨by omega, by omega⟩ dX1_lookAtClause_75 (by decide) (fun h75 => ?_) (fun h75 => ?_)
    · exact absurd h75 (by omega)
    · skip
      refine Ev.aload_n dX1_lookAtClause_78 rfl rfl ?_
      refine gf_X1_56 rfl dX1_lookAtClause_79 (lt_rc (by omega)) (sh_rc (by omega)) (rf_rc5 (by omega)) ?_
      refine Ev.iload dX1_lookAtClause_82 rfl ?_
      refine Ev.iaload (v := ((rO R K : Nat) : Int)) dX1_lookAtClause_84 (lt_rcf (by omega) (by decide)) (sh_rc1 (by omega)) (by decide) (by omega) (by omega) (ldx rfl (hP K (by omega)).1) ?_
      refine Ev.istore (pl' := [some (vR (261)), some (vR (26 + 4 * r)), some (vR (rg)), some (vI (((alM R X K : Nat) : Int))), some (vI (((K : Nat) : Int))), some (vI (((rO R K : Nat) : Int)))]) dX1_lookAtClause_85 (Nat.le_of_ble_eq_true rfl) rfl ?_
      refine Ev.aload_n dX1_lookAtClause_87 rfl rfl ?_
      refine Ev.iload dX1_lookAtClause_88 rfl ?_
      refine Ev.iaload (v := ((X (rO R K) : Nat) : Int)) dX1_lookAtClause_90 hg hgs (by decide) (by omega) (Int.ofNat_lt.mpr (Nat.lt_of_lt_of_le (hO _ (by omega)) hU)) (ldx rfl (hX _ (hO _ (by omega))).1) ?_
      refine Ev.aload_n dX1_lookAtClause_91 rfl rfl ?_
      refine gf_X1_23 rfl dX1_lookAtClause_92 ltc_261 shc_261 rfc_261_4 ?_
      refine Ev.iload dX1_lookAtClause_95 rfl ?_
      refine Ev.iaload (v := ((soM R (rN R) (rO R K) : Nat) : Int)) dX1_lookAtClause_97 ltc_265 shc_265 (by decide) (by omega) (Int.ofNat_lt.mpr (Nat.lt_of_lt_of_le (hO _ (by omega)) hU)) (ldx rfl (hso K (by omega))) ?_
      refine Ev.iand dX1_lookAtClause_98 ?_
      rw [show (iAnd (((X (rO R K) : Nat) : Int)) (((soM R (rN R) (rO R K) : Nat) : Int))) = (((X (rO R K) &&& soM R (rN R) (rO R K)) : Nat) : Int) from iAnd_nat (by omega)]
      refine Ev.if_eq (tgt := 109) ⟨by omega, by have := @Nat.and_le_left (X (rO R K)) (soM R (rN R) (rO R K)); omega⟩ dX1_lookAtClause_99 (by decide) (fun h99 => ?_) (fun h99 => ?_)
      · skip
        refine Ev.iinc (pl' := [some (vR (261)), some (vR (26 + 4 * r)), some (vR (rg)), some (vI (((alM R X K : Nat) : Int))), some (vI (((K : Nat) : Int) + 1)), some (vI (((rO R K : Nat) : Int)))]) dX1_lookAtClause_109 rfl (Nat.le_of_ble_eq_true rfl) rfl ?_
        refine Ev.goto (tgt := 69) dX1_lookAtClause_112 (by decide) ?_
        refine Ev.wk (pl' := [some (vR (261)), some (vR (26 + 4 * r)), some (vR (rg)), some (vI (((alM R X (K + 1) : Nat) : Int))), some (vI ((((K + 1) : Nat) : Int))), none]) ⟨rfl, ⟨rfl, ⟨rfl, ⟨vIe (by rw [al_n (by omega)]), ⟨vIe (by omega), trivial⟩⟩⟩⟩⟩ ?_
        exact ih (K + 1) (by omega) kk
      · skip
        refine Ev.iload_n dX1_lookAtClause_102 rfl rfl ?_
        refine Ev.iconst dX1_lookAtClause_103 ?_
        refine Ev.iload dX1_lookAtClause_104 rfl ?_
        refine Ev.ishl dX1_lookAtClause_106 ?_
        rw [show (iShl (1) (((rO R K : Nat) : Int))) = ((2 ^ rO R K : Nat) : Int) from shl1 (by omega)]
        refine Ev.ior dX1_lookAtClause_107 ?_
        rw [show (iOr (((alM R X K : Nat) : Int)) (((2 ^ rO R K : Nat) : Int))) = ((alM R X (K + 1) : Nat) : Int) from by rw [← al_y hOk (by omega)]; exact iOr_nat (by omega) (by omega)]
        refine Ev.istore_n (pl' := [some (vR (261)), some (vR (26 + 4 * r)), some (vR (rg)), some (vI (((alM R X (K + 1) : Nat) : Int))), some (vI (((K : Nat) : Int))), some (vI (((rO R K : Nat) : Int)))]) dX1_lookAtClause_108 rfl (Nat.le_of_ble_eq_true rfl) rfl ?_
        refine Ev.iinc (pl' := [some (vR (261)), some (vR (26 + 4 * r)), some (vR (rg)), some (vI (((alM R X (K + 1) : Nat) : Int))), some (vI (((K : Nat) : Int) + 1)), some (vI (((rO R K : Nat) : Int)))]) dX1_lookAtClause_109 rfl (Nat.le_of_ble_eq_true rfl) rfl ?_
        refine Ev.goto (tgt := 69) dX1_lookAtClause_112 (by decide) ?_
        refine Ev.wk (pl' := [some (vR (261)), some (vR (26 + 4 * r)), some (vR (rg)), some (vI (((alM R X (K + 1) : Nat) : Int))), some (vI ((((K + 1) : Nat) : Int))), none]) ⟨rfl, ⟨rfl, ⟨rfl, ⟨rfl, ⟨vIe (by omega), trivial⟩⟩⟩⟩⟩ ?_
        exact ih (K + 1) (by omega) kk

set_option maxRecDepth 100000 in
set_option maxHeartbeats 4000000 in
theorem s1_cl3 {g : GC} (σ : Sg) (r U : Nat) (R : RC) (hr : r < 56) (hM : CR σ r R) (hW : WR U R) (X : Rg) (rg : Nat) (hg : rg < 298) (hgs : sh0 rg = (1, 10)) (hgn : rg ∉ LK) (hX : AV σ rg U X) (hk5 : rK R = 5) (hso : ∀ k, k < rN R → σ 265 (rO R k) = (soM R (rN R) (rO R k) : Int)) (T : Tb) : ∀ j K : Nat, K + j = rN R → ∀ τ : Sg, Same LK σ τ → τ 263 0 = 0 → τ 265 = σ 265 → (∀ k, k < K → τ 262 (rO R k) = (fun x => (cgM R X x : Int)) (rO R k)) → Ev g mX1_lookAtClause 118 [some (vR (261)), some (vR (26 + 4 * r)), some (vR (rg)), some (vI (((alM R X (rN R) : Nat) : Int))), some (vI (((K : Nat) : Int))), none] [] (M0 (τ)) 0 0 (retW (Looked σ T R X)) := by
  intro j
  induction j with
  | zero =>
    intro K hij τ hF hJ hs5 hG
    have hF0 := hF
    have hM := hM.same hF (fun j hj => nLK (by omega))
    have hX := hX.same hF hgn
    have hso0 := hso
    rw [← hs5] at hso
    obtain ⟨hK, hS, hB, hN, hE, hP⟩ := id hM
    obtain ⟨⟨hk5_, hn6, hU⟩, hO, -⟩ := id hW
    have hXR : ∀ k, k < rN R → X (rO R k) ≠ 0 ∧ X (rO R k) < 65536 := fun k hk => (hX _ (hO k hk)).2
    have hA5 := hW.2.2.2.2.2.1 hk5
    have hal : alM R X (rN R) < 65536 := mk_lt _
    refine Ev.iload dX1_lookAtClause_118 rfl ?_
    refine Ev.aload_n dX1_lookAtClause_120 rfl rfl ?_
    refine gf_X1_53 (x := ((rN R : Nat) : Int)) rfl dX1_lookAtClause_121 (lt_rc (by omega)) (sh_rc (by omega)) hN ?_
    refine Ev.icmp_ge (tgt := 178) ⟨by omega, by omega⟩ ⟨by omega, by omega⟩ dX1_lookAtClause_124 (by decide) (fun h124 => ?_) (fun h124 => ?_)
    · skip
      exact Ev.vreturn dX1_lookAtClause_178 rfl (rW ⟨hF0, hJ, fun k hk => (hG k (by omega)).trans (congrArg (fun n : Nat => (n : Int)) (cg_end hk5 hk (fun k hk => by have := hO k hk; omega) (fun k hk => (hXR k hk).2)))⟩)
    · exact absurd h124 (by omega)
  | succ j ih =>
    intro K hij τ hF hJ hs5 hG
    have hF0 := hF
    have hM := hM.same hF (fun j hj => nLK (by omega))
    have hX := hX.same hF hgn
    have hso0 := hso
    rw [← hs5] at hso
    obtain ⟨hK, hS, hB, hN, hE, hP⟩ := id hM
    obtain ⟨⟨hk5_, hn6, hU⟩, hO, -⟩ := id hW
    have hXR : ∀ k, k < rN R → X (rO R k) ≠ 0 ∧ X (rO R k) < 65536 := fun k hk => (hX _ (hO k hk)).2
    have hA5 := hW.2.2.2.2.2.1 hk5
    have hal : alM R X (rN R) < 65536 := mk_lt _
    have hxk := hXR K (by omega)
    have hOk : rO R K < 16 := by have := hO K (by omega); omega
    have hp16 := pow_le16 hOk
    have hsl := soM_lt (n := rN R) (R := R) hA5 (rO R K)
    have hle := andN_le (alM R X (rN R)) (2 ^ rO R K)
    refine Ev.iload dX1_lookAtClause_118 rfl ?_
    refine Ev.aload_n dX1_lookAtClause_120 rfl rfl ?_
    refine gf_X1_53 (x := ((rN R : Nat) : Int)) rfl dX1_lookAtClause_121 (lt_rc (by omega)) (sh_rc (by omega)) hN ?_
    refine Ev.icmp_ge (tgt := 178) ⟨by omega, by omega⟩ ⟨by omega, by omega⟩ dX1_lookAtClause_124 (by decide) (fun h124 => ?_) (fun h124 => ?_)
    · exact absurd h124 (by omega)
    · skip
      refine Ev.aload_n dX1_lookAtClause_127 rfl rfl ?_
      refine gf_X1_56 rfl dX1_lookAtClause_128 (lt_rc (by omega)) (sh_rc (by omega)) (rf_rc5 (by omega)) ?_
      refine Ev.iload dX1_lookAtClause_131 rfl ?_
      refine Ev.iaload (v := ((rO R K : Nat) : Int)) dX1_lookAtClause_133 (lt_rcf (by omega) (by decide)) (sh_rc1 (by omega)) (by decide) (by omega) (by omega) (ldx rfl (hP K (by omega)).1) ?_
      refine Ev.istore (pl' := [some (vR (261)), some (vR (26 + 4 * r)), some (vR (rg)), some (vI (((alM R X (rN R) : Nat) : Int))), some (vI (((K : Nat) : Int))), some (vI (((rO R K : Nat) : Int)))]) dX1_lookAtClause_134 (Nat.le_of_ble_eq_true rfl) rfl ?_
      refine Ev.aload_n dX1_lookAtClause_136 rfl rfl ?_
      refine gf_X1_11 rfl dX1_lookAtClause_137 ltc_261 shc_261 rfc_261_1 ?_
      refine Ev.iload dX1_lookAtClause_140 rfl ?_
      refine Ev.iload_n dX1_lookAtClause_142 rfl rfl ?_
      refine Ev.iconst dX1_lookAtClause_143 ?_
      refine Ev.iload dX1_lookAtClause_144 rfl ?_
      refine Ev.ishl dX1_lookAtClause_146 ?_
      rw [show (iShl (1) (((rO R K : Nat) : Int))) = ((2 ^ rO R K : Nat) : Int) from shl1 (by omega)]
      refine Ev.iconst dX1_lookAtClause_147 ?_
      refine Ev.ixor dX1_lookAtClause_148 ?_
      rw [show (iXor (((2 ^ rO R K : Nat) : Int)) (-1)) = (-((2 ^ rO R K : Nat) : Int) - 1) from iXor_m1 (by omega)]
      refine Ev.iand dX1_lookAtClause_149 ?_
      rw [show (iAnd (((alM R X (rN R) : Nat) : Int)) ((-((2 ^ rO R K : Nat) : Int) - 1))) = ((andN (alM R X (rN R)) (2 ^ rO R K) : Nat) : Int) from iAnd_not (by omega)]
      refine Ev.if_ne (tgt := 170) ⟨by omega, by omega⟩ dX1_lookAtClause_150 (by decide) (fun h150 => ?_) (fun h150 => ?_)
      · skip
        refine Ev.iconst dX1_lookAtClause_170 ?_
        refine Ev.iastore dX1_lookAtClause_171 ltc_262 shc_262 (by decide) (by omega) (Int.ofNat_lt.mpr (Nat.lt_of_lt_of_le (hO _ (by omega)) hU)) ?_
        refine Ev.iinc (pl' := [some (vR (261)), some (vR (26 + 4 * r)), some (vR (rg)), some (vI (((alM R X (rN R) : Nat) : Int))), some (vI (((K : Nat) : Int) + 1)), some (vI (((rO R K : Nat) : Int)))]) dX1_lookAtClause_172 rfl (Nat.le_of_ble_eq_true rfl) rfl ?_
        refine Ev.goto (tgt := 118) dX1_lookAtClause_175 (by decide) ?_
        refine Ev.wk (pl' := [some (vR (261)), some (vR (26 + 4 * r)), some (vR (rg)), some (vI (((alM R X (rN R) : Nat) : Int))), some (vI ((((K + 1) : Nat) : Int))), none]) ⟨rfl, ⟨rfl, ⟨rfl, ⟨rfl, ⟨vIe (by omega), trivial⟩⟩⟩⟩⟩ ?_
        exact ih (K + 1) (by omega) (upC (τ) 262 (((rO R K : Nat) : Int)).toNat (0)) (hF0.up (by decide)) (by rw [upC_ne (by decide)]; exact hJ) (by rw [upC_ne (by decide)]; exact hs5) (up_F (F := fun x => (cgM R X x : Int)) rfl (by show _ = (cgM R X (rO R K) : Int); unfold cgM; first | (rw [if_pos (by omega)]; done) | (rw [if_neg (by omega)]; rfl)) hG)
      · skip
        refine Ev.aload_n dX1_lookAtClause_153 rfl rfl ?_
        refine Ev.iload dX1_lookAtClause_154 rfl ?_
        refine Ev.iaload (v := ((X (rO R K) : Nat) : Int)) dX1_lookAtClause_156 hg hgs (by decide) (by omega) (Int.ofNat_lt.mpr (Nat.lt_of_lt_of_le (hO _ (by omega)) hU)) (ldx rfl (hX _ (hO _ (by omega))).1) ?_
        refine Ev.aload_n dX1_lookAtClause_157 rfl rfl ?_
        refine gf_X1_23 rfl dX1_lookAtClause_158 ltc_261 shc_261 rfc_261_4 ?_
        refine Ev.iload dX1_lookAtClause_161 rfl ?_
        refine Ev.iaload (v := ((soM R (rN R) (rO R K) : Nat) : Int)) dX1_lookAtClause_163 ltc_265 shc_265 (by decide) (by omega) (Int.ofNat_lt.mpr (Nat.lt_of_lt_of_le (hO _ (by omega)) hU)) (ldx rfl (hso K (by omega))) ?_
        refine Ev.iconst dX1_lookAtClause_164 ?_
        refine Ev.ixor dX1_lookAtClause_165 ?_
        rw [show (iXor (((soM R (rN R) (rO R K) : Nat) : Int)) (-1)) = (-((soM R (rN R) (rO R K) : Nat) : Int) - 1) from iXor_m1 (by omega)]
        refine Ev.iand dX1_lookAtClause_166 ?_
        rw [show (iAnd (((X (rO R K) : Nat) : Int)) ((-((soM R (rN R) (rO R K) : Nat) : Int) - 1))) = ((andN (X (rO R K)) (soM R (rN R) (rO R K)) : Nat) : Int) from iAnd_not (by omega)]
        refine Ev.goto (tgt := 171) dX1_lookAtClause_167 (by decide) ?_
        refine Ev.iastore dX1_lookAtClause_171 ltc_262 shc_262 (by decide) (by omega) (Int.ofNat_lt.mpr (Nat.lt_of_lt_of_le (hO _ (by omega)) hU)) ?_
        refine Ev.iinc (pl' := [some (vR (261)), some (vR (26 + 4 * r)), some (vR (rg)), some (vI (((alM R X (rN R) : Nat) : Int))), some (vI (((K : Nat) : Int) + 1)), some (vI (((rO R K : Nat) : Int)))]) dX1_lookAtClause_172 rfl (Nat.le_of_ble_eq_true rfl) rfl ?_
        refine Ev.goto (tgt := 118) dX1_lookAtClause_175 (by decide) ?_
        refine Ev.wk (pl' := [some (vR (261)), some (vR (26 + 4 * r)), some (vR (rg)), some (vI (((alM R X (rN R) : Nat) : Int))), some (vI ((((K + 1) : Nat) : Int))), none]) ⟨rfl, ⟨rfl, ⟨rfl, ⟨rfl, ⟨vIe (by omega), trivial⟩⟩⟩⟩⟩ ?_
        exact ih (K + 1) (by omega) (upC (τ) 262 (((rO R K : Nat) : Int)).toNat (((andN (X (rO R K)) (soM R (rN R) (rO R K)) : Nat) : Int))) (hF0.up (by decide)) (by rw [upC_ne (by decide)]; exact hJ) (by rw [upC_ne (by decide)]; exact hs5) (up_F (F := fun x => (cgM R X x : Int)) rfl (by show _ = (cgM R X (rO R K) : Int); unfold cgM; first | (rw [if_pos (by omega)]; done) | (rw [if_neg (by omega)]; rfl)) hG)

set_option maxRecDepth 100000 in
set_option maxHeartbeats 4000000 in
theorem s1_lookAtClause {g : GC} (σ : Sg) (r U : Nat) (R : RC) (hr : r < 56) (hM : CR σ r R) (hW : WR U R) (X : Rg) (rg : Nat) (hg : rg < 298) (hgs : sh0 rg = (1, 10)) (hgn : rg ∉ LK) (hX : AV σ rg U X) (hk5 : rK R = 5) (T : Tb) (hJ : σ 263 0 = 0) : Ev g mX1_lookAtClause 0 [some (vR (261)), some (vR (26 + 4 * r)), some (vR (rg)), none, none, none] [] (M0 (σ)) 0 0 (retW (Looked σ T R X)) := by
  refine Ev.iconst dX1_lookAtClause_0 ?_
  refine Ev.istore_n (pl' := [some (vR (261)), some (vR (26 + 4 * r)), some (vR (rg)), some (vI (0)), none, none]) dX1_lookAtClause_1 rfl (Nat.le_of_ble_eq_true rfl) rfl ?_
  refine Ev.wk (pl' := [some (vR (261)), some (vR (26 + 4 * r)), some (vR (rg)), some (vI (((0 : Nat) : Int))), none, none]) ⟨rfl, ⟨rfl, ⟨rfl, ⟨vIe rfl, trivial⟩⟩⟩⟩ ?_
  refine s1_cl0 σ r U R hr hM hW X rg hg hgs hgn hX hk5 (rN R) 0 (by omega) σ Same.rf rfl (fun k hk => absurd hk (by omega)) (fun τ hF hJ2 hG => ?_)
  refine Ev.iconst dX1_lookAtClause_28 ?_
  refine Ev.istore_n (pl' := [some (vR (261)), some (vR (26 + 4 * r)), some (vR (rg)), some (vI (0)), none, none]) dX1_lookAtClause_29 rfl (Nat.le_of_ble_eq_true rfl) rfl ?_
  refine Ev.wk (pl' := [some (vR (261)), some (vR (26 + 4 * r)), some (vR (rg)), some (vI (((0 : Nat) : Int))), none, none]) ⟨rfl, ⟨rfl, ⟨rfl, ⟨vIe rfl, trivial⟩⟩⟩⟩ ?_
  refine s1_cl1 σ r U R hr hM hW X rg hg hgs hgn hX hk5 (rN R) 0 (by omega) τ hF hJ2 (fun k hk => by rw [hG k hk]; rfl) (fun ρ qF qJ qG => ?_)
  have hMr := hM.same qF (fun j hj => nLK (by omega))
  have hXr := hX.same qF hgn
  refine Ev.iconst dX1_lookAtClause_64 ?_
  refine Ev.istore_n (pl' := [some (vR (261)), some (vR (26 + 4 * r)), some (vR (rg)), some (vI (0)), none, none]) dX1_lookAtClause_65 rfl (Nat.le_of_ble_eq_true rfl) rfl ?_
  refine Ev.iconst dX1_lookAtClause_66 ?_
  refine Ev.istore (pl' := [some (vR (261)), some (vR (26 + 4 * r)), some (vR (rg)), some (vI (0)), some (vI (0)), none]) dX1_lookAtClause_67 (Nat.le_of_ble_eq_true rfl) rfl ?_
  refine Ev.wk (pl' := [some (vR (261)), some (vR (26 + 4 * r)), some (vR (rg)), some (vI (((alM R X 0 : Nat) : Int))), some (vI (((0 : Nat) : Int))), none]) ⟨rfl, ⟨rfl, ⟨rfl, ⟨vIe (by rw [alM_0]; rfl), ⟨vIe rfl, trivial⟩⟩⟩⟩⟩ ?_
  refine s1_cl2 ρ r U R hr hMr hW X rg hg hgs hgn hXr hk5 qG (rN R) 0 (by omega) ?_
  refine Ev.iconst dX1_lookAtClause_115 ?_
  refine Ev.istore (pl' := [some (vR (261)), some (vR (26 + 4 * r)), some (vR (rg)), some (vI (((alM R X (rN R) : Nat) : Int))), some (vI (0)), none]) dX1_lookAtClause_116 (Nat.le_of_ble_eq_true rfl) rfl ?_
  refine Ev.wk (pl' := [some (vR (261)), some (vR (26 + 4 * r)), some (vR (rg)), some (vI (((alM R X (rN R) : Nat) : Int))), some (vI (((0 : Nat) : Int))), none]) ⟨rfl, ⟨rfl, ⟨rfl, ⟨rfl, ⟨vIe rfl, trivial⟩⟩⟩⟩⟩ ?_
  exact (s1_cl3 ρ r U R hr hMr hW X rg hg hgs hgn hXr hk5 qG T (rN R) 0 (by omega) ρ Same.rf (by rw [qJ]; exact hJ) rfl (fun k hk => absurd hk (by omega))).mono (fun v m1 ⟨ρ2, h1, h2, h3, h4⟩ => ⟨ρ2, h1, h2, qF.tr h3, h4⟩)

set_option maxRecDepth 100000 in
set_option maxHeartbeats 4000000 in
theorem s1_look {g : GC} (σ : Sg) (r U : Nat) (R : RC) (hr : r < 56) (hM : CR σ r R) (hW : WR U R) (X : Rg) (rg : Nat) (hg : rg < 298) (hgs : sh0 rg = (1, 10)) (hgn : rg ∉ LK) (hX : AV σ rg U X) (T : Tb) (hT : TVc σ T) (hJ : σ 263 0 = 0) : Ev g mX1_look 0 [some (vR (261)), some (vR (26 + 4 * r)), some (vR (rg))] [] (M0 (σ)) 0 0 (retW (Looked σ T R X)) := by
  obtain ⟨hK, hS, hB, hN, hE, hP⟩ := id hM
  obtain ⟨⟨hk5, hn6, hU⟩, hO, -⟩ := id hW
  refine Ev.aload_n dX1_look_0 rfl rfl ?_
  refine gf_X1_30 (x := ((rK R : Nat) : Int)) rfl dX1_look_1 (lt_rc (by omega)) (sh_rc (by omega)) hK ?_
  have hcs : rK R = 0 ∨ rK R = 1 ∨ rK R = 2 ∨ rK R = 3 ∨ rK R = 4 ∨ rK R = 5 := by omega
  rcases hcs with hk | hk | hk | hk | hk | hk
  · rw [show ((rK R : Nat) : Int) = 0 by omega]
    refine Ev.tableIn (tgt := 40) dX1_look_4 ⟨by decide, by decide⟩ (by decide) (by decide) rfl (by decide) ?_
    refine Ev.aload_n dX1_look_40 rfl rfl ?_
    refine Ev.aload_n dX1_look_41 rfl rfl ?_
    refine Ev.aload_n dX1_look_42 rfl rfl ?_
    refine Ev.callV_G (M2 := mX1_lookAtSum) (args2 := [vR (26 + 4 * r), vR (rg)]) (rcv := 261) (q := (RX1, TX1, 5)) (ci := 1) dX1_look_43 okX1_lookAtSum lk_X1_34 ovX1_lookAtSum.1.1 ovX1_lookAtSum.1.2 ovX1_lookAtSum.2 (by decide) rfl rfl ltc_261 shc_261 rfl (Nat.le_of_ble_eq_true rfl) (Nat.le_of_ble_eq_true rfl) (s1_lookAtSum σ r U R hr hM hW X rg hg hgs hgn hX hk T hJ) (fun v_ m_ hp_ => ?_) rfl
    obtain ⟨τ, rfl, rfl, q1, q2, q3⟩ := hp_
    show Ev g mX1_look 46 [some (vR (261)), some (vR (26 + 4 * r)), some (vR (rg))] [] (M0 (τ)) 0 0 _
    refine Ev.goto (tgt := 91) dX1_look_46 (by decide) ?_
    exact Ev.vreturn dX1_look_91 rfl (rW ⟨q1, q2, q3⟩)
  · rw [show ((rK R : Nat) : Int) = 1 by omega]
    refine Ev.tableIn (tgt := 49) dX1_look_4 ⟨by decide, by decide⟩ (by decide) (by decide) rfl (by decide) ?_
    refine Ev.aload_n dX1_look_49 rfl rfl ?_
    refine Ev.aload_n dX1_look_50 rfl rfl ?_
    refine Ev.aload_n dX1_look_51 rfl rfl ?_
    refine Ev.callV_G (M2 := mX1_lookAtUnlike) (args2 := [vR (26 + 4 * r), vR (rg)]) (rcv := 261) (q := (RX1, TX1, 5)) (ci := 1) dX1_look_52 okX1_lookAtUnlike lk_X1_38 ovX1_lookAtUnlike.1.1 ovX1_lookAtUnlike.1.2 ovX1_lookAtUnlike.2 (by decide) rfl rfl ltc_261 shc_261 rfl (Nat.le_of_ble_eq_true rfl) (Nat.le_of_ble_eq_true rfl) (s1_lookAtUnlike σ r U R hr hM hW X rg hg hgs hgn hX (by omega) hJ) (fun v_ m_ hp_ => ?_) rfl
    obtain ⟨τ, rfl, rfl, q1, q2, q3⟩ := hp_
    show Ev g mX1_look 55 [some (vR (261)), some (vR (26 + 4 * r)), some (vR (rg))] [] (M0 (τ)) 0 0 _
    refine Ev.goto (tgt := 91) dX1_look_55 (by decide) ?_
    exact Ev.vreturn dX1_look_91 rfl (rW ⟨q1, q2, fun k hk2 => by rw [q3 k hk2, gn_1 hk]; rfl⟩)
  · rw [show ((rK R : Nat) : Int) = 2 by omega]
    refine Ev.tableIn (tgt := 58) dX1_look_4 ⟨by decide, by decide⟩ (by decide) (by decide) rfl (by decide) ?_
    refine Ev.aload_n dX1_look_58 rfl rfl ?_
    refine Ev.aload_n dX1_look_59 rfl rfl ?_
    refine Ev.aload_n dX1_look_60 rfl rfl ?_
    refine Ev.callV_G (M2 := mX1_lookAtTable) (args2 := [vR (26 + 4 * r), vR (rg)]) (rcv := 261) (q := (RX1, TX1, 5)) (ci := 1) dX1_look_61 okX1_lookAtTable lk_X1_41 ovX1_lookAtTable.1.1 ovX1_lookAtTable.1.2 ovX1_lookAtTable.2 (by decide) rfl rfl ltc_261 shc_261 rfl (Nat.le_of_ble_eq_true rfl) (Nat.le_of_ble_eq_true rfl) (s1_lookAtTable σ r U R hr hM hW X rg hg hgs hgn hX hk T hT (rS R).toNat (by have := hW.2.2.2.1 hk; omega) (by have := hW.2.2.2.1 hk; omega) hJ) (fun v_ m_ hp_ => ?_) rfl
    obtain ⟨τ, rfl, rfl, q1, q2, q3⟩ := hp_
    show Ev g mX1_look 64 [some (vR (261)), some (vR (26 + 4 * r)), some (vR (rg))] [] (M0 (τ)) 0 0 _
    refine Ev.goto (tgt := 91) dX1_look_64 (by decide) ?_
    exact Ev.vreturn dX1_look_91 rfl (rW ⟨q1, q2, q3⟩)
  · rw [show ((rK R : Nat) : Int) = 3 by omega]
    refine Ev.tableIn (tgt := 67) dX1_look_4 ⟨by decide, by decide⟩ (by decide) (by decide) rfl (by decide) ?_
    refine Ev.aload_n dX1_look_67 rfl rfl ?_
    refine Ev.aload_n dX1_look_68 rfl rfl ?_
    refine Ev.aload_n dX1_look_69 rfl rfl ?_
    refine Ev.callV_G (M2 := mX1_lookAtLoad) (args2 := [vR (26 + 4 * r), vR (rg)]) (rcv := 261) (q := (RX1, TX1, 5)) (ci := 1) dX1_look_70 okX1_lookAtLoad lk_X1_44 ovX1_lookAtLoad.1.1 ovX1_lookAtLoad.1.2 ovX1_lookAtLoad.2 (by decide) rfl rfl ltc_261 shc_261 rfl (Nat.le_of_ble_eq_true rfl) (Nat.le_of_ble_eq_true rfl) (s1_lookAtLoad σ r U R hr hM hW X rg hg hgs hgn hX hk T hJ) (fun v_ m_ hp_ => ?_) rfl
    obtain ⟨τ, rfl, rfl, q1, q2, q3⟩ := hp_
    show Ev g mX1_look 73 [some (vR (261)), some (vR (26 + 4 * r)), some (vR (rg))] [] (M0 (τ)) 0 0 _
    refine Ev.goto (tgt := 91) dX1_look_73 (by decide) ?_
    exact Ev.vreturn dX1_look_91 rfl (rW ⟨q1, q2, q3⟩)
  · rw [show ((rK R : Nat) : Int) = 4 by omega]
    refine Ev.tableIn (tgt := 76) dX1_look_4 ⟨by decide, by decide⟩ (by decide) (by decide) rfl (by decide) ?_
    refine Ev.aload_n dX1_look_76 rfl rfl ?_
    refine Ev.aload_n dX1_look_77 rfl rfl ?_
    refine Ev.aload_n dX1_look_78 rfl rfl ?_
    refine Ev.callV_G (M2 := mX1_lookAtRing) (args2 := [vR (26 + 4 * r), vR (rg)]) (rcv := 261) (q := (RX1, TX1, 5)) (ci := 1) dX1_look_79 okX1_lookAtRing lk_X1_47 ovX1_lookAtRing.1.1 ovX1_lookAtRing.1.2 ovX1_lookAtRing.2 (by decide) rfl rfl ltc_261 shc_261 rfl (Nat.le_of_ble_eq_true rfl) (Nat.le_of_ble_eq_true rfl) (s1_lookAtRing σ r U R hr hM hW X rg hg hgs hgn hX hk T hJ) (fun v_ m_ hp_ => ?_) rfl
    obtain ⟨τ, rfl, rfl, q1, q2, q3⟩ := hp_
    show Ev g mX1_look 82 [some (vR (261)), some (vR (26 + 4 * r)), some (vR (rg))] [] (M0 (τ)) 0 0 _
    refine Ev.goto (tgt := 91) dX1_look_82 (by decide) ?_
    exact Ev.vreturn dX1_look_91 rfl (rW ⟨q1, q2, q3⟩)
  · rw [show ((rK R : Nat) : Int) = 5 by omega]
    refine Ev.tableOut (tgt := 85) dX1_look_4 ⟨by decide, by decide⟩ (by decide) (by decide) ?_
    refine Ev.aload_n dX1_look_85 rfl rfl ?_
    refine Ev.aload_n dX1_look_86 rfl rfl ?_
    refine Ev.aload_n dX1_look_87 rfl rfl ?_
    refine Ev.callV_G (M2 := mX1_lookAtClause) (args2 := [vR (26 + 4 * r), vR (rg)]) (rcv := 261) (q := (RX1, TX1, 5)) (ci := 1) dX1_look_88 okX1_lookAtClause lk_X1_50 ovX1_lookAtClause.1.1 ovX1_lookAtClause.1.2 ovX1_lookAtClause.2 (by decide) rfl rfl ltc_261 shc_261 rfl (Nat.le_of_ble_eq_true rfl) (Nat.le_of_ble_eq_true rfl) (s1_lookAtClause σ r U R hr hM hW X rg hg hgs hgn hX hk T hJ) (fun v_ m_ hp_ => ?_) rfl
    obtain ⟨τ, rfl, rfl, q1, q2, q3⟩ := hp_
    show Ev g mX1_look 91 [some (vR (261)), some (vR (26 + 4 * r)), some (vR (rg))] [] (M0 (τ)) 0 0 _
    exact Ev.vreturn dX1_look_91 rfl (rW ⟨q1, q2, q3⟩)

