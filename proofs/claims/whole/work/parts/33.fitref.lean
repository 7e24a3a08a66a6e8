/-! THE REFERENCE: what fits a rule -/
theorem lCmp_c (x y : Int) : (lCmp x y < 0 ↔ x < y) ∧ (0 < lCmp x y ↔ y < x) ∧ (lCmp x y = 0 ↔ x = y) := by
  unfold lCmp
  split
  · omega
  · split <;> omega
theorem lCmp_inR {x y : Int} : inR (lCmp x y) := by
  unfold lCmp
  split
  · exact ⟨by decide, by decide⟩
  · split <;> exact ⟨by decide, by decide⟩
theorem inL_of {x : Int} (h : inR x) : inL x := ⟨by have := h.1; omega, by have := h.2; omega⟩
theorem fS_0 {R : RC} {A : An} (h : rN R = 0) : fS R A (rN R) = 0 := by rw [h]; rfl
theorem fLd_0 {R : RC} {A : An} {t : Nat} (n : Nat) (h : ∀ k, k < n → ¬ runs R A t k) : fLd R A t n = 0 := by
  have h4 := sumI_bd (n := n) (f := fun k => @ite Int (runs R A t k) (Classical.propDecidable _) (rZ R k) 0) (b := 0) (fun k hk => by
    try dsimp only
    rw [if_neg (h k hk)]; omega)
  unfold fLd
  omega
theorem fTab_no {T : Tb} {R : RC} {A : An} (h : rN R = 0) : ¬ fTab T R A := fun ⟨q, h1, _⟩ => by have := h1.1; omega
theorem fCl_no {R : RC} {A : An} (h : rN R = 0) : ¬ fCl R A := fun ⟨k, h1, _⟩ => by omega
theorem fLoad_0 {R : RC} {A : An} (h : rN R = 0) (hs : 0 ≤ rS R) : fLoad R A := fun t => by rw [fLd_0 (rN R) (fun k hk => by omega)]; exact hs
noncomputable def psM (R : RC) (A : An) (n : Nat) : Nat := mk (fun v => ∃ k, k < n ∧ pt R A k = v)
theorem psM_tb {R : RC} {A : An} {n v : Nat} (hv : v < 16) : (psM R A n).testBit v = true ↔ ∃ k, k < n ∧ pt R A k = v := by
  unfold psM
  rw [mkN_tb]
  exact ⟨fun z => z.2, fun z => ⟨hv, z⟩⟩
theorem psM_0 {R : RC} {A : An} : psM R A 0 = 0 := (mk_eq (by decide) (fun v _ => by
  constructor
  · intro z; rw [Nat.zero_testBit] at z; cases z
  · rintro ⟨k, hk, _⟩; exact absurd hk (by omega))).symm
theorem psM_s {R : RC} {A : An} {n : Nat} (h : pt R A n < 16) : psM R A n ||| 2 ^ pt R A n = psM R A (n + 1) := mk_eq (Nat.or_lt_two_pow (n := 16) (mk_lt _) (by have := pow_le16 h; omega)) (fun v hv => by
  rw [Nat.testBit_or, Nat.testBit_two_pow, Bool.or_eq_true, psM_tb hv]
  constructor
  · rintro (⟨k, h1, h2⟩ | z)
    · exact ⟨k, by omega, h2⟩
    · exact ⟨n, by omega, by simpa using z⟩
  · rintro ⟨k, h1, h2⟩
    rcases Nat.lt_or_ge k n with h3 | h3
    · exact Or.inl ⟨k, h3, h2⟩
    · right; rw [← h2, show k = n by omega]; simp)
def ptD (R : RC) (A : An) (n : Nat) : Prop := (∀ j, j < n → pt R A j < rN R) ∧ ∀ i j, i < j → j < n → pt R A i ≠ pt R A j
theorem ptD_s {R : RC} {A : An} {n : Nat} (h : ptD R A n) (h1 : pt R A n < rN R) (h16 : pt R A n < 16) (h2 : (psM R A n).testBit (pt R A n) = false) : ptD R A (n + 1) := by
  refine ⟨fun j hj => ?_, fun i j hij hj => ?_⟩
  · rcases Nat.lt_or_ge j n with h3 | h3
    · exact h.1 j h3
    · rw [show j = n by omega]; exact h1
  · rcases Nat.lt_or_ge j n with h3 | h3
    · exact h.2 i j hij h3
    · rw [show j = n by omega]
      intro e
      rw [(psM_tb h16).mpr ⟨i, by omega, e⟩] at h2
      cases h2
theorem fRing_y {R : RC} {A : An} (h : ptD R A (rN R)) (h0 : pt R A (rN R) = 0) : fRing R A := Or.inr ⟨h0, fun j h1 h2 => ⟨by have := h.2 0 j h1 h2; have e : pt R A 0 = 0 := rfl; omega, h.1 j h2⟩⟩
theorem fRing_n1 {R : RC} {A : An} {n : Nat} (hn : n < rN R) (h : rN R ≤ pt R A n) : ¬ fRing R A := by
  rintro (z | ⟨z1, z2⟩)
  · omega
  · have := pt_lt (by omega) z1 z2 n; omega
theorem fRing_n2 {R : RC} {A : An} {n : Nat} (hn : n < rN R) (h16 : pt R A n < 16) (h : (psM R A n).testBit (pt R A n) = true) : ¬ fRing R A := by
  obtain ⟨k, h1, h2⟩ := (psM_tb h16).mp h
  rintro (z | ⟨z1, z2⟩)
  · omega
  · exact pt_inj z1 z2 h1 hn h2
theorem fRing_n3 {R : RC} {A : An} (h0 : 0 < rN R) (h : pt R A (rN R) ≠ 0) : ¬ fRing R A := by
  rintro (z | ⟨z1, z2⟩)
  · omega
  · exact h z1
set_option maxRecDepth 100000 in
set_option maxHeartbeats 4000000 in
theorem sM_in {g : GC} (σ : Sg) (a b c : Int) (ha : inL a) (hb : inL b) (hc : inL c) : Ev g mX8_in 0 [some (vL (a)), none, some (vL (b)), none, some (vL (c)), none] [] (M0 (σ)) 0 0 (retI (bI (b ≤ a ∧ a ≤ c)) σ) := by
  have c1 := lCmp_c a b
  have c2 := lCmp_c a c
  refine Ev.lload_n dX8_in_0 rfl rfl ?_
  refine Ev.lload_n dX8_in_1 rfl rfl ?_
  refine Ev.lcmp ha hb dX8_in_2 ?_
  refine Ev.if_lt (tgt := 17) lCmp_inR dX8_in_3 (by decide) (fun h3 => ?_) (fun h3 => ?_)
  · skip
    refine Ev.iconst dX8_in_17 ?_
    exact Ev.zreturn dX8_in_18 rfl (Or.inl rfl) (rI (bI_f (by omega)) rfl)
  · skip
    refine Ev.lload_n dX8_in_6 rfl rfl ?_
    refine Ev.lload dX8_in_7 rfl ?_
    refine Ev.lcmp ha hc dX8_in_9 ?_
    refine Ev.if_gt (tgt := 17) lCmp_inR dX8_in_10 (by decide) (fun h10 => ?_) (fun h10 => ?_)
    · skip
      refine Ev.iconst dX8_in_17 ?_
      exact Ev.zreturn dX8_in_18 rfl (Or.inl rfl) (rI (bI_f (by omega)) rfl)
    · skip
      refine Ev.iconst dX8_in_13 ?_
      refine Ev.goto (tgt := 18) dX8_in_14 (by decide) ?_
      exact Ev.zreturn dX8_in_18 rfl (Or.inr rfl) (rI (bI_t (by omega)) rfl)

set_option maxRecDepth 100000 in
set_option maxHeartbeats 4000000 in
theorem sM_fsum {g : GC} (σ : Sg) (r U : Nat) (R : RC) (A : An) (hr : r < 16) (hM : MR σ r R) (hW : WR U R) (hA : ∀ k, k < rN R → σ 297 (rO R k) = (A (rO R k) : Int) ∧ A (rO R k) < 16) (hk0 : rK R = 0) {Post : Option PV → Mem → Prop} : ∀ j K : Nat, K + j = rN R → Ev g mX8_fitsSum 49 [some (vR (272)), some (vI (((r : Nat) : Int))), some (vI (fS R A (rN R))), none] [] (M0 (σ)) 0 0 Post → Ev g mX8_fitsSum 7 [some (vR (272)), some (vI (((r : Nat) : Int))), some (vI (fS R A K)), some (vI ((((6 * r + K) : Nat) : Int)))] [] (M0 (σ)) 0 0 (Post) := by
  intro j
  induction j with
  | zero =>
    intro K hij kk
    obtain ⟨hK, hS, hB, hN, hP⟩ := id hM
    obtain ⟨⟨hk5, hn6, hU⟩, hO, -⟩ := id hW
    obtain ⟨hs0, hb0, hA0⟩ := hW.2.2.1 hk0
    refine Ev.iload_n dX8_fitsSum_7 rfl rfl ?_
    refine Ev.bipush (n := 6) (by decide) dX8_fitsSum_8 ?_
    refine Ev.iload_n dX8_fitsSum_10 rfl rfl ?_
    refine Ev.imul dX8_fitsSum_11 ?_
    refine Ev.aload_n dX8_fitsSum_12 rfl rfl ?_
    refine gf_X8_38 rfl dX8_fitsSum_13 ltc_272 shc_272 rfc_272_13 ?_
    refine Ev.iload_n dX8_fitsSum_16 rfl rfl ?_
    refine Ev.iaload (v := ((rN R : Nat) : Int)) dX8_fitsSum_17 ltc_282 shc_282 (by decide) (by omega) (by omega) (ldx (by omega) hN) ?_
    refine Ev.iadd dX8_fitsSum_18 ?_
    refine Ev.icmp_ge (tgt := 49) ⟨by omega, by omega⟩ ⟨by omega, by omega⟩ dX8_fitsSum_19 (by decide) (fun h19 => ?_) (fun h19 => ?_)
    · skip
      refine Ev.wk (pl' := [some (vR (272)), some (vI (((r : Nat) : Int))), some (vI (fS R A (rN R))), none]) ⟨rfl, ⟨rfl, ⟨vIe (by rw [show K = rN R by omega]), trivial⟩⟩⟩ ?_
      exact kk
    · exact absurd h19 (by omega)
  | succ j ih =>
    intro K hij kk
    obtain ⟨hK, hS, hB, hN, hP⟩ := id hM
    obtain ⟨⟨hk5, hn6, hU⟩, hO, -⟩ := id hW
    obtain ⟨hs0, hb0, hA0⟩ := hW.2.2.1 hk0
    refine Ev.iload_n dX8_fitsSum_7 rfl rfl ?_
    refine Ev.bipush (n := 6) (by decide) dX8_fitsSum_8 ?_
    refine Ev.iload_n dX8_fitsSum_10 rfl rfl ?_
    refine Ev.imul dX8_fitsSum_11 ?_
    refine Ev.aload_n dX8_fitsSum_12 rfl rfl ?_
    refine gf_X8_38 rfl dX8_fitsSum_13 ltc_272 shc_272 rfc_272_13 ?_
    refine Ev.iload_n dX8_fitsSum_16 rfl rfl ?_
    refine Ev.iaload (v := ((rN R : Nat) : Int)) dX8_fitsSum_17 ltc_282 shc_282 (by decide) (by omega) (by omega) (ldx (by omega) hN) ?_
    refine Ev.iadd dX8_fitsSum_18 ?_
    refine Ev.icmp_ge (tgt := 49) ⟨by omega, by omega⟩ ⟨by omega, by omega⟩ dX8_fitsSum_19 (by decide) (fun h19 => ?_) (fun h19 => ?_)
    · exact absurd h19 (by omega)
    · skip
      refine Ev.iload_n dX8_fitsSum_22 rfl rfl ?_
      refine Ev.aload_n dX8_fitsSum_23 rfl rfl ?_
      refine gf_X8_44 rfl dX8_fitsSum_24 ltc_272 shc_272 rfc_272_15 ?_
      refine Ev.iload_n dX8_fitsSum_27 rfl rfl ?_
      refine Ev.iaload (v := rA R K) dX8_fitsSum_28 ltc_284 shc_284 (by decide) (by omega) (by omega) (ldx (n := 6 * r + K) (by omega) (hP K (by omega)).2.1) ?_
      refine Ev.aload_n dX8_fitsSum_29 rfl rfl ?_
      refine gf_X8_87 rfl dX8_fitsSum_30 ltc_272 shc_272 rfc_272_33 ?_
      refine Ev.aload_n dX8_fitsSum_33 rfl rfl ?_
      refine gf_X8_41 rfl dX8_fitsSum_34 ltc_272 shc_272 rfc_272_14 ?_
      refine Ev.iload_n dX8_fitsSum_37 rfl rfl ?_
      refine Ev.iaload (v := ((rO R K : Nat) : Int)) dX8_fitsSum_38 ltc_283 shc_283 (by decide) (by omega) (by omega) (ldx (n := 6 * r + K) (by omega) (hP K (by omega)).1) ?_
      refine Ev.iaload (v := ((A (rO R K) : Nat) : Int)) dX8_fitsSum_39 ltc_297 shc_297 (by decide) (by omega) (Int.ofNat_lt.mpr (Nat.lt_of_lt_of_le (hO _ (by omega)) hU)) (ldx rfl (hA K (by omega)).1) ?_
      refine Ev.imul dX8_fitsSum_40 ?_
      refine Ev.iadd dX8_fitsSum_41 ?_
      refine Ev.istore_n (pl' := [some (vR (272)), some (vI (((r : Nat) : Int))), some (vI ((fS R A K + (rA R K * ((A (rO R K) : Nat) : Int))))), some (vI ((((6 * r + K) : Nat) : Int)))]) dX8_fitsSum_42 rfl (Nat.le_of_ble_eq_true rfl) rfl ?_
      refine Ev.iinc (pl' := [some (vR (272)), some (vI (((r : Nat) : Int))), some (vI ((fS R A K + (rA R K * ((A (rO R K) : Nat) : Int))))), some (vI ((((6 * r + K) : Nat) : Int) + 1))]) dX8_fitsSum_43 rfl (Nat.le_of_ble_eq_true rfl) rfl ?_
      refine Ev.goto (tgt := 7) dX8_fitsSum_46 (by decide) ?_
      refine Ev.wk (pl' := [some (vR (272)), some (vI (((r : Nat) : Int))), some (vI (fS R A (K + 1))), some (vI ((((6 * r + (K + 1)) : Nat) : Int)))]) ⟨rfl, ⟨rfl, ⟨vIe rfl, ⟨vIe (by omega), trivial⟩⟩⟩⟩ ?_
      exact ih (K + 1) (by omega) kk

set_option maxRecDepth 100000 in
set_option maxHeartbeats 4000000 in
theorem sM_fitsSum {g : GC} (σ : Sg) (r U : Nat) (R : RC) (A : An) (hr : r < 16) (hM : MR σ r R) (hW : WR U R) (hA : ∀ k, k < rN R → σ 297 (rO R k) = (A (rO R k) : Int) ∧ A (rO R k) < 16) (hk0 : rK R = 0) : Ev g mX8_fitsSum 0 [some (vR (272)), some (vI (((r : Nat) : Int))), none, none] [] (M0 (σ)) 0 0 (retI (bI (fSum R A)) σ) := by
  obtain ⟨hK, hS, hB, hN, hP⟩ := id hM
  obtain ⟨⟨hk5, hn6, hU⟩, hO, -⟩ := id hW
  obtain ⟨hs0, hb0, hA0⟩ := hW.2.2.1 hk0
  have hbd := fS_bd (R := R) (A := A) hn6 hA0 (fun k hk => (hA k hk).2)
  refine Ev.iconst dX8_fitsSum_0 ?_
  refine Ev.istore_n (pl' := [some (vR (272)), some (vI (((r : Nat) : Int))), some (vI (0)), none]) dX8_fitsSum_1 rfl (Nat.le_of_ble_eq_true rfl) rfl ?_
  refine Ev.bipush (n := 6) (by decide) dX8_fitsSum_2 ?_
  refine Ev.iload_n dX8_fitsSum_4 rfl rfl ?_
  refine Ev.imul dX8_fitsSum_5 ?_
  refine Ev.istore_n (pl' := [some (vR (272)), some (vI (((r : Nat) : Int))), some (vI (0)), some (vI ((6 * ((r : Nat) : Int))))]) dX8_fitsSum_6 rfl (Nat.le_of_ble_eq_true rfl) rfl ?_
  refine Ev.wk (pl' := [some (vR (272)), some (vI (((r : Nat) : Int))), some (vI (fS R A 0)), some (vI ((((6 * r + 0) : Nat) : Int)))]) ⟨rfl, ⟨rfl, ⟨vIe rfl, ⟨vIe (by omega), trivial⟩⟩⟩⟩ ?_
  refine sM_fsum σ r U R A hr hM hW hA hk0 (rN R) 0 (by omega) ?_
  refine Ev.aload_n dX8_fitsSum_49 rfl rfl ?_
  refine gf_X8_28 rfl dX8_fitsSum_50 ltc_272 shc_272 rfc_272_10 ?_
  refine Ev.iload_n dX8_fitsSum_53 rfl rfl ?_
  refine Ev.iaload (v := rS R) dX8_fitsSum_54 ltc_279 shc_279 (by decide) (by omega) (by omega) (ldx (by omega) hS) ?_
  refine Ev.if_ne (tgt := 76) ⟨by omega, by omega⟩ dX8_fitsSum_55 (by decide) (fun h55 => ?_) (fun h55 => ?_)
  · skip
    refine Ev.aload_n dX8_fitsSum_76 rfl rfl ?_
    refine gf_X8_28 rfl dX8_fitsSum_77 ltc_272 shc_272 rfc_272_10 ?_
    refine Ev.iload_n dX8_fitsSum_80 rfl rfl ?_
    refine Ev.iaload (v := rS R) dX8_fitsSum_81 ltc_279 shc_279 (by decide) (by omega) (by omega) (ldx (by omega) hS) ?_
    refine Ev.iconst dX8_fitsSum_82 ?_
    refine Ev.icmp_ne (tgt := 90) ⟨by omega, by omega⟩ ⟨by decide, by decide⟩ dX8_fitsSum_83 (by decide) (fun h83 => ?_) (fun h83 => ?_)
    · skip
      refine Ev.iconst dX8_fitsSum_90 ?_
      refine Ev.iload_n dX8_fitsSum_91 rfl rfl ?_
      refine Ev.aload_n dX8_fitsSum_92 rfl rfl ?_
      refine gf_X8_31 rfl dX8_fitsSum_93 ltc_272 shc_272 rfc_272_11 ?_
      refine Ev.iload_n dX8_fitsSum_96 rfl rfl ?_
      refine Ev.iaload (v := rB R) dX8_fitsSum_97 ltc_280 shc_280 (by decide) (by omega) (by omega) (ldx (by omega) hB) ?_
      refine Ev.icmp_ne (tgt := 105) ⟨by omega, by omega⟩ ⟨by omega, by omega⟩ dX8_fitsSum_98 (by decide) (fun h98 => ?_) (fun h98 => ?_)
      · skip
        refine Ev.iconst dX8_fitsSum_105 ?_
        refine Ev.icmp_ne (tgt := 113) ⟨by decide, by decide⟩ ⟨by decide, by decide⟩ dX8_fitsSum_106 (by decide) (fun h106 => ?_) (fun h106 => ?_)
        · skip
          refine Ev.iconst dX8_fitsSum_113 ?_
          exact Ev.zreturn dX8_fitsSum_114 rfl (Or.inl rfl) (rI (bI_f (by unfold fSum; omega)) rfl)
        · skip
          refine Ev.iconst dX8_fitsSum_109 ?_
          refine Ev.goto (tgt := 114) dX8_fitsSum_110 (by decide) ?_
          exact Ev.zreturn dX8_fitsSum_114 rfl (Or.inr rfl) (rI (bI_t (by unfold fSum; omega)) rfl)
      · skip
        refine Ev.iconst dX8_fitsSum_101 ?_
        refine Ev.goto (tgt := 106) dX8_fitsSum_102 (by decide) ?_
        refine Ev.icmp_ne (tgt := 113) ⟨by decide, by decide⟩ ⟨by decide, by decide⟩ dX8_fitsSum_106 (by decide) (fun h106 => ?_) (fun h106 => ?_)
        · skip
          refine Ev.iconst dX8_fitsSum_113 ?_
          exact Ev.zreturn dX8_fitsSum_114 rfl (Or.inl rfl) (rI (bI_f (by unfold fSum; omega)) rfl)
        · skip
          refine Ev.iconst dX8_fitsSum_109 ?_
          refine Ev.goto (tgt := 114) dX8_fitsSum_110 (by decide) ?_
          exact Ev.zreturn dX8_fitsSum_114 rfl (Or.inr rfl) (rI (bI_t (by unfold fSum; omega)) rfl)
    · skip
      refine Ev.iconst dX8_fitsSum_86 ?_
      refine Ev.goto (tgt := 91) dX8_fitsSum_87 (by decide) ?_
      refine Ev.iload_n dX8_fitsSum_91 rfl rfl ?_
      refine Ev.aload_n dX8_fitsSum_92 rfl rfl ?_
      refine gf_X8_31 rfl dX8_fitsSum_93 ltc_272 shc_272 rfc_272_11 ?_
      refine Ev.iload_n dX8_fitsSum_96 rfl rfl ?_
      refine Ev.iaload (v := rB R) dX8_fitsSum_97 ltc_280 shc_280 (by decide) (by omega) (by omega) (ldx (by omega) hB) ?_
      refine Ev.icmp_ne (tgt := 105) ⟨by omega, by omega⟩ ⟨by omega, by omega⟩ dX8_fitsSum_98 (by decide) (fun h98 => ?_) (fun h98 => ?_)
      · skip
        refine Ev.iconst dX8_fitsSum_105 ?_
        refine Ev.icmp_ne (tgt := 113) ⟨by decide, by decide⟩ ⟨by decide, by decide⟩ dX8_fitsSum_106 (by decide) (fun h106 => ?_) (fun h106 => ?_)
        · skip
          refine Ev.iconst dX8_fitsSum_113 ?_
          exact Ev.zreturn dX8_fitsSum_114 rfl (Or.inl rfl) (rI (bI_f (by unfold fSum; omega)) rfl)
        · skip
          refine Ev.iconst dX8_fitsSum_109 ?_
          refine Ev.goto (tgt := 114) dX8_fitsSum_110 (by decide) ?_
          exact Ev.zreturn dX8_fitsSum_114 rfl (Or.inr rfl) (rI (bI_t (by unfold fSum; omega)) rfl)
      · skip
        refine Ev.iconst dX8_fitsSum_101 ?_
        refine Ev.goto (tgt := 106) dX8_fitsSum_102 (by decide) ?_
        refine Ev.icmp_ne (tgt := 113) ⟨by decide, by decide⟩ ⟨by decide, by decide⟩ dX8_fitsSum_106 (by decide) (fun h106 => ?_) (fun h106 => ?_)
        · skip
          refine Ev.iconst dX8_fitsSum_113 ?_
          exact Ev.zreturn dX8_fitsSum_114 rfl (Or.inl rfl) (rI (bI_f (by unfold fSum; omega)) rfl)
        · skip
          refine Ev.iconst dX8_fitsSum_109 ?_
          refine Ev.goto (tgt := 114) dX8_fitsSum_110 (by decide) ?_
          exact Ev.zreturn dX8_fitsSum_114 rfl (Or.inr rfl) (rI (bI_t (by unfold fSum; omega)) rfl)
  · skip
    refine Ev.iload_n dX8_fitsSum_58 rfl rfl ?_
    refine Ev.aload_n dX8_fitsSum_59 rfl rfl ?_
    refine gf_X8_31 rfl dX8_fitsSum_60 ltc_272 shc_272 rfc_272_11 ?_
    refine Ev.iload_n dX8_fitsSum_63 rfl rfl ?_
    refine Ev.iaload (v := rB R) dX8_fitsSum_64 ltc_280 shc_280 (by decide) (by omega) (by omega) (ldx (by omega) hB) ?_
    refine Ev.icmp_gt (tgt := 72) ⟨by omega, by omega⟩ ⟨by omega, by omega⟩ dX8_fitsSum_65 (by decide) (fun h65 => ?_) (fun h65 => ?_)
    · skip
      refine Ev.iconst dX8_fitsSum_72 ?_
      refine Ev.goto (tgt := 114) dX8_fitsSum_73 (by decide) ?_
      exact Ev.zreturn dX8_fitsSum_114 rfl (Or.inl rfl) (rI (bI_f (by unfold fSum; omega)) rfl)
    · skip
      refine Ev.iconst dX8_fitsSum_68 ?_
      refine Ev.goto (tgt := 114) dX8_fitsSum_69 (by decide) ?_
      exact Ev.zreturn dX8_fitsSum_114 rfl (Or.inr rfl) (rI (bI_t (by unfold fSum; omega)) rfl)

set_option maxRecDepth 100000 in
set_option maxHeartbeats 4000000 in
theorem sM_funl {g : GC} (σ : Sg) (r U : Nat) (R : RC) (A : An) (hr : r < 16) (hM : MR σ r R) (hW : WR U R) (hA : ∀ k, k < rN R → σ 297 (rO R k) = (A (rO R k) : Int) ∧ A (rO R k) < 16) : ∀ j K : Nat, K + j = rN R → fUnl R A K → Ev g mX8_fitsUnlike 7 [some (vR (272)), some (vI (((r : Nat) : Int))), some (vI (((snM R A K : Nat) : Int))), some (vI ((((6 * r + K) : Nat) : Int)))] [] (M0 (σ)) 0 0 (retI (bI (fUnl R A (rN R))) σ) := by
  intro j
  induction j with
  | zero =>
    intro K hij hf
    obtain ⟨hK, hS, hB, hN, hP⟩ := id hM
    obtain ⟨⟨hk5, hn6, hU⟩, hO, -⟩ := id hW
    refine Ev.iload_n dX8_fitsUnlike_7 rfl rfl ?_
    refine Ev.bipush (n := 6) (by decide) dX8_fitsUnlike_8 ?_
    refine Ev.iload_n dX8_fitsUnlike_10 rfl rfl ?_
    refine Ev.imul dX8_fitsUnlike_11 ?_
    refine Ev.aload_n dX8_fitsUnlike_12 rfl rfl ?_
    refine gf_X8_38 rfl dX8_fitsUnlike_13 ltc_272 shc_272 rfc_272_13 ?_
    refine Ev.iload_n dX8_fitsUnlike_16 rfl rfl ?_
    refine Ev.iaload (v := ((rN R : Nat) : Int)) dX8_fitsUnlike_17 ltc_282 shc_282 (by decide) (by omega) (by omega) (ldx (by omega) hN) ?_
    refine Ev.iadd dX8_fitsUnlike_18 ?_
    refine Ev.icmp_ge (tgt := 65) ⟨by omega, by omega⟩ ⟨by omega, by omega⟩ dX8_fitsUnlike_19 (by decide) (fun h19 => ?_) (fun h19 => ?_)
    · skip
      refine Ev.iconst dX8_fitsUnlike_65 ?_
      exact Ev.zreturn dX8_fitsUnlike_66 rfl (Or.inr rfl) (rI (bI_t (by rw [← show K = rN R by omega]; exact hf)) rfl)
    · exact absurd h19 (by omega)
  | succ j ih =>
    intro K hij hf
    obtain ⟨hK, hS, hB, hN, hP⟩ := id hM
    obtain ⟨⟨hk5, hn6, hU⟩, hO, -⟩ := id hW
    have hak := (hA K (by omega)).2
    have hp16 := pow_le16 hak
    have hsl : snM R A K < 65536 := mk_lt _
    refine Ev.iload_n dX8_fitsUnlike_7 rfl rfl ?_
    refine Ev.bipush (n := 6) (by decide) dX8_fitsUnlike_8 ?_
    refine Ev.iload_n dX8_fitsUnlike_10 rfl rfl ?_
    refine Ev.imul dX8_fitsUnlike_11 ?_
    refine Ev.aload_n dX8_fitsUnlike_12 rfl rfl ?_
    refine gf_X8_38 rfl dX8_fitsUnlike_13 ltc_272 shc_272 rfc_272_13 ?_
    refine Ev.iload_n dX8_fitsUnlike_16 rfl rfl ?_
    refine Ev.iaload (v := ((rN R : Nat) : Int)) dX8_fitsUnlike_17 ltc_282 shc_282 (by decide) (by omega) (by omega) (ldx (by omega) hN) ?_
    refine Ev.iadd dX8_fitsUnlike_18 ?_
    refine Ev.icmp_ge (tgt := 65) ⟨by omega, by omega⟩ ⟨by omega, by omega⟩ dX8_fitsUnlike_19 (by decide) (fun h19 => ?_) (fun h19 => ?_)
    · exact absurd h19 (by omega)
    · skip
      refine Ev.iload_n dX8_fitsUnlike_22 rfl rfl ?_
      refine Ev.aload_n dX8_fitsUnlike_23 rfl rfl ?_
      refine gf_X8_87 rfl dX8_fitsUnlike_24 ltc_272 shc_272 rfc_272_33 ?_
      refine Ev.aload_n dX8_fitsUnlike_27 rfl rfl ?_
      refine gf_X8_41 rfl dX8_fitsUnlike_28 ltc_272 shc_272 rfc_272_14 ?_
      refine Ev.iload_n dX8_fitsUnlike_31 rfl rfl ?_
      refine Ev.iaload (v := ((rO R K : Nat) : Int)) dX8_fitsUnlike_32 ltc_283 shc_283 (by decide) (by omega) (by omega) (ldx (n := 6 * r + K) (by omega) (hP K (by omega)).1) ?_
      refine Ev.iaload (v := ((A (rO R K) : Nat) : Int)) dX8_fitsUnlike_33 ltc_297 shc_297 (by decide) (by omega) (Int.ofNat_lt.mpr (Nat.lt_of_lt_of_le (hO _ (by omega)) hU)) (ldx rfl (hA K (by omega)).1) ?_
      refine Ev.ishr dX8_fitsUnlike_34 ?_
      refine Ev.iconst dX8_fitsUnlike_35 ?_
      refine Ev.iand dX8_fitsUnlike_36 ?_
      rw [show (iAnd ((iShr (((snM R A K : Nat) : Int)) (((A (rO R K) : Nat) : Int)))) (1)) = (((b2 (Nat.testBit (snM R A K) (A (rO R K)))) : Nat) : Int) from bit_nat (by omega) (by omega)]
      refine Ev.iconst dX8_fitsUnlike_37 ?_
      refine Ev.icmp_ne (tgt := 43) b2_inR ⟨by decide, by decide⟩ dX8_fitsUnlike_38 (by decide) (fun h38 => ?_) (fun h38 => ?_)
      · skip
        refine Ev.iload_n dX8_fitsUnlike_43 rfl rfl ?_
        refine Ev.iconst dX8_fitsUnlike_44 ?_
        refine Ev.aload_n dX8_fitsUnlike_45 rfl rfl ?_
        refine gf_X8_87 rfl dX8_fitsUnlike_46 ltc_272 shc_272 rfc_272_33 ?_
        refine Ev.aload_n dX8_fitsUnlike_49 rfl rfl ?_
        refine gf_X8_41 rfl dX8_fitsUnlike_50 ltc_272 shc_272 rfc_272_14 ?_
        refine Ev.iload_n dX8_fitsUnlike_53 rfl rfl ?_
        refine Ev.iaload (v := ((rO R K : Nat) : Int)) dX8_fitsUnlike_54 ltc_283 shc_283 (by decide) (by omega) (by omega) (ldx (n := 6 * r + K) (by omega) (hP K (by omega)).1) ?_
        refine Ev.iaload (v := ((A (rO R K) : Nat) : Int)) dX8_fitsUnlike_55 ltc_297 shc_297 (by decide) (by omega) (Int.ofNat_lt.mpr (Nat.lt_of_lt_of_le (hO _ (by omega)) hU)) (ldx rfl (hA K (by omega)).1) ?_
        refine Ev.ishl dX8_fitsUnlike_56 ?_
        rw [show (iShl (1) (((A (rO R K) : Nat) : Int))) = ((2 ^ A (rO R K) : Nat) : Int) from shl1 (by omega)]
        refine Ev.ior dX8_fitsUnlike_57 ?_
        rw [show (iOr (((snM R A K : Nat) : Int)) (((2 ^ A (rO R K) : Nat) : Int))) = ((snM R A (K + 1) : Nat) : Int) from by rw [← snM_s hak]; exact iOr_nat (by omega) (by omega)]
        refine Ev.istore_n (pl' := [some (vR (272)), some (vI (((r : Nat) : Int))), some (vI (((snM R A (K + 1) : Nat) : Int))), some (vI ((((6 * r + K) : Nat) : Int)))]) dX8_fitsUnlike_58 rfl (Nat.le_of_ble_eq_true rfl) rfl ?_
        refine Ev.iinc (pl' := [some (vR (272)), some (vI (((r : Nat) : Int))), some (vI (((snM R A (K + 1) : Nat) : Int))), some (vI ((((6 * r + K) : Nat) : Int) + 1))]) dX8_fitsUnlike_59 rfl (Nat.le_of_ble_eq_true rfl) rfl ?_
        refine Ev.goto (tgt := 7) dX8_fitsUnlike_62 (by decide) ?_
        refine Ev.wk (pl' := [some (vR (272)), some (vI (((r : Nat) : Int))), some (vI (((snM R A (K + 1) : Nat) : Int))), some (vI ((((6 * r + (K + 1)) : Nat) : Int)))]) ⟨rfl, ⟨rfl, ⟨rfl, ⟨vIe (by omega), trivial⟩⟩⟩⟩ ?_
        exact ih (K + 1) (by omega) (fUnl_n (hA K (by omega)).2 hf (by cases hb : (snM R A K).testBit (A (rO R K)) with | false => rfl | true => exact absurd (b2_1.mpr hb) (by assumption)))
      · skip
        refine Ev.iconst dX8_fitsUnlike_41 ?_
        exact Ev.zreturn dX8_fitsUnlike_42 rfl (Or.inl rfl) (rI (bI_f (fUnl_no (n := K) (by omega) hak (b2_1.mp (by assumption)))) rfl)

set_option maxRecDepth 100000 in
set_option maxHeartbeats 4000000 in
theorem sM_fitsUnlike {g : GC} (σ : Sg) (r U : Nat) (R : RC) (A : An) (hr : r < 16) (hM : MR σ r R) (hW : WR U R) (hA : ∀ k, k < rN R → σ 297 (rO R k) = (A (rO R k) : Int) ∧ A (rO R k) < 16) : Ev g mX8_fitsUnlike 0 [some (vR (272)), some (vI (((r : Nat) : Int))), none, none] [] (M0 (σ)) 0 0 (retI (bI (fUnl R A (rN R))) σ) := by
  refine Ev.iconst dX8_fitsUnlike_0 ?_
  refine Ev.istore_n (pl' := [some (vR (272)), some (vI (((r : Nat) : Int))), some (vI (0)), none]) dX8_fitsUnlike_1 rfl (Nat.le_of_ble_eq_true rfl) rfl ?_
  refine Ev.bipush (n := 6) (by decide) dX8_fitsUnlike_2 ?_
  refine Ev.iload_n dX8_fitsUnlike_4 rfl rfl ?_
  refine Ev.imul dX8_fitsUnlike_5 ?_
  refine Ev.istore_n (pl' := [some (vR (272)), some (vI (((r : Nat) : Int))), some (vI (0)), some (vI ((6 * ((r : Nat) : Int))))]) dX8_fitsUnlike_6 rfl (Nat.le_of_ble_eq_true rfl) rfl ?_
  refine Ev.wk (pl' := [some (vR (272)), some (vI (((r : Nat) : Int))), some (vI (((snM R A 0 : Nat) : Int))), some (vI ((((6 * r + 0) : Nat) : Int)))]) ⟨rfl, ⟨rfl, ⟨vIe (by rw [snM_0]; rfl), ⟨vIe (by omega), trivial⟩⟩⟩⟩ ?_
  exact sM_funl σ r U R A hr hM hW hA (rN R) 0 (by omega) (fun j k _ hk => absurd hk (by omega))

set_option maxRecDepth 100000 in
set_option maxHeartbeats 4000000 in
theorem sM_ftab_in {g : GC} (σ : Sg) (r U : Nat) (R : RC) (A : An) (hr : r < 16) (hM : MR σ r R) (hW : WR U R) (hA : ∀ k, k < rN R → σ 297 (rO R k) = (A (rO R k) : Int) ∧ A (rO R k) < 16) (T : Tb) (hT : TVm σ T) (hk2 : rK R = 2) (hn0 : 0 < rN R) (t : Nat) (ht : rS R = t) (ht6 : t < 6) (q : Nat) (hq : ((q + 1) * rN R : Nat) ≤ T.1 t) {Post : Option PV → Mem → Prop} : ∀ j K : Nat, K + j = rN R → Ev g mX8_fitsTable 104 [some (vR (272)), some (vI (((r : Nat) : Int))), some (vI (((t : Nat) : Int))), some (vI (((rN R : Nat) : Int))), some (vI (((q * rN R : Nat) : Int))), some (vI (bI (fRow T R A t q (rN R)))), none] [] (M0 (σ)) 0 0 Post → Ev g mX8_fitsTable 45 [some (vR (272)), some (vI (((r : Nat) : Int))), some (vI (((t : Nat) : Int))), some (vI (((rN R : Nat) : Int))), some (vI (((q * rN R : Nat) : Int))), some (vI (bI (fRow T R A t q K))), some (vI (((K : Nat) : Int)))] [] (M0 (σ)) 0 0 (Post) := by
  intro j
  induction j with
  | zero =>
    intro K hij kk
    obtain ⟨hK, hS, hB, hN, hP⟩ := id hM
    obtain ⟨⟨hk5, hn6, hU⟩, hO, -⟩ := id hW
    obtain ⟨hz, hzb, hcell⟩ := hT t ht6
    have hq1 : (q + 1) * rN R = q * rN R + rN R := Nat.succ_mul _ _
    refine Ev.iload dX8_fitsTable_45 rfl ?_
    refine Ev.iload_n dX8_fitsTable_47 rfl rfl ?_
    refine Ev.icmp_ge (tgt := 104) ⟨by omega, by omega⟩ ⟨by omega, by omega⟩ dX8_fitsTable_48 (by decide) (fun h48 => ?_) (fun h48 => ?_)
    · skip
      refine Ev.wk (pl' := [some (vR (272)), some (vI (((r : Nat) : Int))), some (vI (((t : Nat) : Int))), some (vI (((rN R : Nat) : Int))), some (vI (((q * rN R : Nat) : Int))), some (vI (bI (fRow T R A t q (rN R)))), none]) ⟨rfl, ⟨rfl, ⟨rfl, ⟨rfl, ⟨rfl, ⟨vIe (by first | (rw [show K = rN R by omega]; done) | (rw [bI_F (p := fRow T R A t q K) (bI_0.mp (by assumption)), bI_F (p := fRow T R A t q (rN R)) (fun z => (bI_0 (p := fRow T R A t q K)).mp (by assumption) (fun k hk => z k (by omega)))])), trivial⟩⟩⟩⟩⟩⟩ ?_
      exact kk
    · exact absurd h48 (by omega)
  | succ j ih =>
    intro K hij kk
    obtain ⟨hK, hS, hB, hN, hP⟩ := id hM
    obtain ⟨⟨hk5, hn6, hU⟩, hO, -⟩ := id hW
    obtain ⟨hz, hzb, hcell⟩ := hT t ht6
    have hq1 : (q + 1) * rN R = q * rN R + rN R := Nat.succ_mul _ _
    have hc16 := (hcell (q * rN R + K) (by omega)).2
    have hak := (hA K (by omega)).2
    refine Ev.iload dX8_fitsTable_45 rfl ?_
    refine Ev.iload_n dX8_fitsTable_47 rfl rfl ?_
    refine Ev.icmp_ge (tgt := 104) ⟨by omega, by omega⟩ ⟨by omega, by omega⟩ dX8_fitsTable_48 (by decide) (fun h48 => ?_) (fun h48 => ?_)
    · exact absurd h48 (by omega)
    · skip
      refine Ev.iload dX8_fitsTable_51 rfl ?_
      refine Ev.if_eq (tgt := 104) bI_inR dX8_fitsTable_53 (by decide) (fun h53 => ?_) (fun h53 => ?_)
      · skip
        refine Ev.wk (pl' := [some (vR (272)), some (vI (((r : Nat) : Int))), some (vI (((t : Nat) : Int))), some (vI (((rN R : Nat) : Int))), some (vI (((q * rN R : Nat) : Int))), some (vI (bI (fRow T R A t q (rN R)))), none]) ⟨rfl, ⟨rfl, ⟨rfl, ⟨rfl, ⟨rfl, ⟨vIe (by first | (rw [show K = rN R by omega]; done) | (rw [bI_F (p := fRow T R A t q K) (bI_0.mp (by assumption)), bI_F (p := fRow T R A t q (rN R)) (fun z => (bI_0 (p := fRow T R A t q K)).mp (by assumption) (fun k hk => z k (by omega)))])), trivial⟩⟩⟩⟩⟩⟩ ?_
        exact kk
      · skip
        refine Ev.aload_n dX8_fitsTable_56 rfl rfl ?_
        refine gf_X8_53 rfl dX8_fitsTable_57 ltc_272 shc_272 rfc_272_18 ?_
        refine Ev.bipush (n := 48) (by decide) dX8_fitsTable_60 ?_
        refine Ev.iload_n dX8_fitsTable_62 rfl rfl ?_
        refine Ev.imul dX8_fitsTable_63 ?_
        refine Ev.iload dX8_fitsTable_64 rfl ?_
        refine Ev.iadd dX8_fitsTable_66 ?_
        refine Ev.iload dX8_fitsTable_67 rfl ?_
        refine Ev.iadd dX8_fitsTable_69 ?_
        refine Ev.iaload (v := ((T.2 t (q * rN R + K) : Nat) : Int)) dX8_fitsTable_70 ltc_287 shc_287 (by decide) (by omega) (by omega) (ldx (n := 48 * t + (q * rN R + K)) (by omega) (hcell _ (by omega)).1) ?_
        refine Ev.aload_n dX8_fitsTable_71 rfl rfl ?_
        refine gf_X8_87 rfl dX8_fitsTable_72 ltc_272 shc_272 rfc_272_33 ?_
        refine Ev.aload_n dX8_fitsTable_75 rfl rfl ?_
        refine gf_X8_41 rfl dX8_fitsTable_76 ltc_272 shc_272 rfc_272_14 ?_
        refine Ev.bipush (n := 6) (by decide) dX8_fitsTable_79 ?_
        refine Ev.iload_n dX8_fitsTable_81 rfl rfl ?_
        refine Ev.imul dX8_fitsTable_82 ?_
        refine Ev.iload dX8_fitsTable_83 rfl ?_
        refine Ev.iadd dX8_fitsTable_85 ?_
        refine Ev.iaload (v := ((rO R K : Nat) : Int)) dX8_fitsTable_86 ltc_283 shc_283 (by decide) (by omega) (by omega) (ldx (n := 6 * r + K) (by omega) (hP K (by omega)).1) ?_
        refine Ev.iaload (v := ((A (rO R K) : Nat) : Int)) dX8_fitsTable_87 ltc_297 shc_297 (by decide) (by omega) (Int.ofNat_lt.mpr (Nat.lt_of_lt_of_le (hO _ (by omega)) hU)) (ldx rfl (hA K (by omega)).1) ?_
        refine Ev.icmp_ne (tgt := 95) ⟨by omega, by omega⟩ ⟨by omega, by omega⟩ dX8_fitsTable_88 (by decide) (fun h88 => ?_) (fun h88 => ?_)
        · skip
          refine Ev.iconst dX8_fitsTable_95 ?_
          refine Ev.istore (pl' := [some (vR (272)), some (vI (((r : Nat) : Int))), some (vI (((t : Nat) : Int))), some (vI (((rN R : Nat) : Int))), some (vI (((q * rN R : Nat) : Int))), some (vI (0)), some (vI (((K : Nat) : Int)))]) dX8_fitsTable_96 (Nat.le_of_ble_eq_true rfl) rfl ?_
          refine Ev.iinc (pl' := [some (vR (272)), some (vI (((r : Nat) : Int))), some (vI (((t : Nat) : Int))), some (vI (((rN R : Nat) : Int))), some (vI (((q * rN R : Nat) : Int))), some (vI (0)), some (vI (((K : Nat) : Int) + 1))]) dX8_fitsTable_98 rfl (Nat.le_of_ble_eq_true rfl) rfl ?_
          refine Ev.goto (tgt := 45) dX8_fitsTable_101 (by decide) ?_
          refine Ev.wk (pl' := [some (vR (272)), some (vI (((r : Nat) : Int))), some (vI (((t : Nat) : Int))), some (vI (((rN R : Nat) : Int))), some (vI (((q * rN R : Nat) : Int))), some (vI (bI (fRow T R A t q (K + 1)))), some (vI ((((K + 1) : Nat) : Int)))]) ⟨rfl, ⟨rfl, ⟨rfl, ⟨rfl, ⟨rfl, ⟨vIe (by first | exact bI_t (fRow_s (bI_1.mp (by assumption)) (by omega)) | exact bI_f (fun z => absurd (z K (by omega)) (by omega))), ⟨vIe (by omega), trivial⟩⟩⟩⟩⟩⟩⟩ ?_
          exact ih (K + 1) (by omega) kk
        · skip
          refine Ev.iconst dX8_fitsTable_91 ?_
          refine Ev.goto (tgt := 96) dX8_fitsTable_92 (by decide) ?_
          refine Ev.istore (pl' := [some (vR (272)), some (vI (((r : Nat) : Int))), some (vI (((t : Nat) : Int))), some (vI (((rN R : Nat) : Int))), some (vI (((q * rN R : Nat) : Int))), some (vI (1)), some (vI (((K : Nat) : Int)))]) dX8_fitsTable_96 (Nat.le_of_ble_eq_true rfl) rfl ?_
          refine Ev.iinc (pl' := [some (vR (272)), some (vI (((r : Nat) : Int))), some (vI (((t : Nat) : Int))), some (vI (((rN R : Nat) : Int))), some (vI (((q * rN R : Nat) : Int))), some (vI (1)), some (vI (((K : Nat) : Int) + 1))]) dX8_fitsTable_98 rfl (Nat.le_of_ble_eq_true rfl) rfl ?_
          refine Ev.goto (tgt := 45) dX8_fitsTable_101 (by decide) ?_
          refine Ev.wk (pl' := [some (vR (272)), some (vI (((r : Nat) : Int))), some (vI (((t : Nat) : Int))), some (vI (((rN R : Nat) : Int))), some (vI (((q * rN R : Nat) : Int))), some (vI (bI (fRow T R A t q (K + 1)))), some (vI ((((K + 1) : Nat) : Int)))]) ⟨rfl, ⟨rfl, ⟨rfl, ⟨rfl, ⟨rfl, ⟨vIe (by first | exact bI_t (fRow_s (bI_1.mp (by assumption)) (by omega)) | exact bI_f (fun z => absurd (z K (by omega)) (by omega))), ⟨vIe (by omega), trivial⟩⟩⟩⟩⟩⟩⟩ ?_
          exact ih (K + 1) (by omega) kk

set_option maxRecDepth 100000 in
set_option maxHeartbeats 4000000 in
theorem sM_ftab {g : GC} (σ : Sg) (r U : Nat) (R : RC) (A : An) (hr : r < 16) (hM : MR σ r R) (hW : WR U R) (hA : ∀ k, k < rN R → σ 297 (rO R k) = (A (rO R k) : Int) ∧ A (rO R k) < 16) (T : Tb) (hT : TVm σ T) (hk2 : rK R = 2) (hn0 : 0 < rN R) (t : Nat) (ht : rS R = t) (ht6 : t < 6) : ∀ j q : Nat, q + j = 49 → (∀ p, p < q → ¬ fRow T R A t p (rN R)) → Ev g mX8_fitsTable 17 [some (vR (272)), some (vI (((r : Nat) : Int))), some (vI (((t : Nat) : Int))), some (vI (((rN R : Nat) : Int))), some (vI (((q * rN R : Nat) : Int))), none, none] [] (M0 (σ)) 0 0 (retI (bI (fTab T R A)) σ) := by
  intro j
  induction j with
  | zero =>
    intro q hij hno
    obtain ⟨hK, hS, hB, hN, hP⟩ := id hM
    obtain ⟨⟨hk5, hn6, hU⟩, hO, -⟩ := id hW
    obtain ⟨hz, hzb, hcell⟩ := hT t ht6
    have hq1 : (q + 1) * rN R = q * rN R + rN R := Nat.succ_mul _ _
    have hqn : q ≤ q * rN R := Nat.le_mul_of_pos_right q (by omega)
    have hqb : q * rN R ≤ 49 * 6 := Nat.mul_le_mul (by omega) hn6
    refine Ev.aload_n dX8_fitsTable_17 rfl rfl ?_
    refine gf_X8_50 rfl dX8_fitsTable_18 ltc_272 shc_272 rfc_272_17 ?_
    refine Ev.iload_n dX8_fitsTable_21 rfl rfl ?_
    refine Ev.iaload (v := T.1 t) dX8_fitsTable_22 ltc_286 shc_286 (by decide) (by omega) (by omega) (ldx (by omega) hz) ?_
    refine Ev.if_lt (tgt := 120) ⟨by omega, by omega⟩ dX8_fitsTable_23 (by decide) (fun h23 => ?_) (fun h23 => ?_)
    · skip
      refine Ev.iconst dX8_fitsTable_120 ?_
      exact Ev.zreturn dX8_fitsTable_121 rfl (Or.inl rfl) (rI (bI_f (fun z => by obtain ⟨p, z1, z2⟩ := (fTab_iff ht).mp z; have z3 := (nRows_lt.mp z1).2; exact (Nat.lt_or_ge p q).elim (fun e => hno p e z2) (fun e => by have e2 := Nat.mul_le_mul_right (rN R) (show q + 1 ≤ p + 1 by omega); omega))) rfl)
    · skip
      refine Ev.iload dX8_fitsTable_26 rfl ?_
      refine Ev.iload_n dX8_fitsTable_28 rfl rfl ?_
      refine Ev.iadd dX8_fitsTable_29 ?_
      refine Ev.aload_n dX8_fitsTable_30 rfl rfl ?_
      refine gf_X8_50 rfl dX8_fitsTable_31 ltc_272 shc_272 rfc_272_17 ?_
      refine Ev.iload_n dX8_fitsTable_34 rfl rfl ?_
      refine Ev.iaload (v := T.1 t) dX8_fitsTable_35 ltc_286 shc_286 (by decide) (by omega) (by omega) (ldx (by omega) hz) ?_
      refine Ev.icmp_gt (tgt := 120) ⟨by omega, by omega⟩ ⟨by omega, by omega⟩ dX8_fitsTable_36 (by decide) (fun h36 => ?_) (fun h36 => ?_)
      · skip
        refine Ev.iconst dX8_fitsTable_120 ?_
        exact Ev.zreturn dX8_fitsTable_121 rfl (Or.inl rfl) (rI (bI_f (fun z => by obtain ⟨p, z1, z2⟩ := (fTab_iff ht).mp z; have z3 := (nRows_lt.mp z1).2; exact (Nat.lt_or_ge p q).elim (fun e => hno p e z2) (fun e => by have e2 := Nat.mul_le_mul_right (rN R) (show q + 1 ≤ p + 1 by omega); omega))) rfl)
      · exact absurd h36 (by omega)
  | succ j ih =>
    intro q hij hno
    obtain ⟨hK, hS, hB, hN, hP⟩ := id hM
    obtain ⟨⟨hk5, hn6, hU⟩, hO, -⟩ := id hW
    obtain ⟨hz, hzb, hcell⟩ := hT t ht6
    have hq1 : (q + 1) * rN R = q * rN R + rN R := Nat.succ_mul _ _
    have hqn : q ≤ q * rN R := Nat.le_mul_of_pos_right q (by omega)
    have hqb : q * rN R ≤ 49 * 6 := Nat.mul_le_mul (by omega) hn6
    refine Ev.aload_n dX8_fitsTable_17 rfl rfl ?_
    refine gf_X8_50 rfl dX8_fitsTable_18 ltc_272 shc_272 rfc_272_17 ?_
    refine Ev.iload_n dX8_fitsTable_21 rfl rfl ?_
    refine Ev.iaload (v := T.1 t) dX8_fitsTable_22 ltc_286 shc_286 (by decide) (by omega) (by omega) (ldx (by omega) hz) ?_
    refine Ev.if_lt (tgt := 120) ⟨by omega, by omega⟩ dX8_fitsTable_23 (by decide) (fun h23 => ?_) (fun h23 => ?_)
    · skip
      refine Ev.iconst dX8_fitsTable_120 ?_
      exact Ev.zreturn dX8_fitsTable_121 rfl (Or.inl rfl) (rI (bI_f (fun z => by obtain ⟨p, z1, z2⟩ := (fTab_iff ht).mp z; have z3 := (nRows_lt.mp z1).2; exact (Nat.lt_or_ge p q).elim (fun e => hno p e z2) (fun e => by have e2 := Nat.mul_le_mul_right (rN R) (show q + 1 ≤ p + 1 by omega); omega))) rfl)
    · skip
      refine Ev.iload dX8_fitsTable_26 rfl ?_
      refine Ev.iload_n dX8_fitsTable_28 rfl rfl ?_
      refine Ev.iadd dX8_fitsTable_29 ?_
      refine Ev.aload_n dX8_fitsTable_30 rfl rfl ?_
      refine gf_X8_50 rfl dX8_fitsTable_31 ltc_272 shc_272 rfc_272_17 ?_
      refine Ev.iload_n dX8_fitsTable_34 rfl rfl ?_
      refine Ev.iaload (v := T.1 t) dX8_fitsTable_35 ltc_286 shc_286 (by decide) (by omega) (by omega) (ldx (by omega) hz) ?_
      refine Ev.icmp_gt (tgt := 120) ⟨by omega, by omega⟩ ⟨by omega, by omega⟩ dX8_fitsTable_36 (by decide) (fun h36 => ?_) (fun h36 => ?_)
      · skip
        refine Ev.iconst dX8_fitsTable_120 ?_
        exact Ev.zreturn dX8_fitsTable_121 rfl (Or.inl rfl) (rI (bI_f (fun z => by obtain ⟨p, z1, z2⟩ := (fTab_iff ht).mp z; have z3 := (nRows_lt.mp z1).2; exact (Nat.lt_or_ge p q).elim (fun e => hno p e z2) (fun e => by have e2 := Nat.mul_le_mul_right (rN R) (show q + 1 ≤ p + 1 by omega); omega))) rfl)
      · skip
        refine Ev.iconst dX8_fitsTable_39 ?_
        refine Ev.istore (pl' := [some (vR (272)), some (vI (((r : Nat) : Int))), some (vI (((t : Nat) : Int))), some (vI (((rN R : Nat) : Int))), some (vI (((q * rN R : Nat) : Int))), some (vI (1)), none]) dX8_fitsTable_40 (Nat.le_of_ble_eq_true rfl) rfl ?_
        refine Ev.iconst dX8_fitsTable_42 ?_
        refine Ev.istore (pl' := [some (vR (272)), some (vI (((r : Nat) : Int))), some (vI (((t : Nat) : Int))), some (vI (((rN R : Nat) : Int))), some (vI (((q * rN R : Nat) : Int))), some (vI (1)), some (vI (0))]) dX8_fitsTable_43 (Nat.le_of_ble_eq_true rfl) rfl ?_
        refine Ev.wk (pl' := [some (vR (272)), some (vI (((r : Nat) : Int))), some (vI (((t : Nat) : Int))), some (vI (((rN R : Nat) : Int))), some (vI (((q * rN R : Nat) : Int))), some (vI (bI (fRow T R A t q 0))), some (vI (((0 : Nat) : Int)))]) ⟨rfl, ⟨rfl, ⟨rfl, ⟨rfl, ⟨rfl, ⟨vIe (bI_t (fun k hk => absurd hk (by omega))), ⟨vIe rfl, trivial⟩⟩⟩⟩⟩⟩⟩ ?_
        refine sM_ftab_in σ r U R A hr hM hW hA T hT hk2 hn0 t ht ht6 q (by omega) (rN R) 0 (by omega) ?_
        refine Ev.iload dX8_fitsTable_104 rfl ?_
        refine Ev.if_eq (tgt := 111) bI_inR dX8_fitsTable_106 (by decide) (fun h106 => ?_) (fun h106 => ?_)
        · skip
          refine Ev.iload dX8_fitsTable_111 rfl ?_
          refine Ev.iload_n dX8_fitsTable_113 rfl rfl ?_
          refine Ev.iadd dX8_fitsTable_114 ?_
          refine Ev.istore (pl' := [some (vR (272)), some (vI (((r : Nat) : Int))), some (vI (((t : Nat) : Int))), some (vI (((rN R : Nat) : Int))), some (vI ((((q * rN R : Nat) : Int) + ((rN R : Nat) : Int)))), some (vI (bI (fRow T R A t q (rN R)))), none]) dX8_fitsTable_115 (Nat.le_of_ble_eq_true rfl) rfl ?_
          refine Ev.goto (tgt := 17) dX8_fitsTable_117 (by decide) ?_
          refine Ev.wk (pl' := [some (vR (272)), some (vI (((r : Nat) : Int))), some (vI (((t : Nat) : Int))), some (vI (((rN R : Nat) : Int))), some (vI ((((q + 1) * rN R : Nat) : Int))), none, none]) ⟨rfl, ⟨rfl, ⟨rfl, ⟨rfl, ⟨vIe (by omega), trivial⟩⟩⟩⟩⟩ ?_
          exact ih (q + 1) (by omega) (fun p hp z => (Nat.lt_or_ge p q).elim (fun e => hno p e z) (fun e => bI_0.mp (by assumption) ((show p = q by omega) ▸ z)))
        · skip
          refine Ev.iconst dX8_fitsTable_109 ?_
          exact Ev.zreturn dX8_fitsTable_110 rfl (Or.inr rfl) (rI (bI_t ((fTab_iff ht).mpr ⟨q, nRows_lt.mpr ⟨hn0, by omega⟩, bI_1.mp (by assumption)⟩)) rfl)

set_option maxRecDepth 100000 in
set_option maxHeartbeats 4000000 in
theorem sM_fitsTable {g : GC} (σ : Sg) (r U : Nat) (R : RC) (A : An) (hr : r < 16) (hM : MR σ r R) (hW : WR U R) (hA : ∀ k, k < rN R → σ 297 (rO R k) = (A (rO R k) : Int) ∧ A (rO R k) < 16) (T : Tb) (hT : TVm σ T) (hk2 : rK R = 2) (hn0 : 0 < rN R) (t : Nat) (ht : rS R = t) (ht6 : t < 6) : Ev g mX8_fitsTable 0 [some (vR (272)), some (vI (((r : Nat) : Int))), none, none, none, none, none] [] (M0 (σ)) 0 0 (retI (bI (fTab T R A)) σ) := by
  obtain ⟨hK, hS, hB, hN, hP⟩ := id hM
  obtain ⟨⟨hk5, hn6, hU⟩, hO, -⟩ := id hW
  obtain ⟨hz, hzb, hcell⟩ := hT t ht6
  refine Ev.aload_n dX8_fitsTable_0 rfl rfl ?_
  refine gf_X8_28 rfl dX8_fitsTable_1 ltc_272 shc_272 rfc_272_10 ?_
  refine Ev.iload_n dX8_fitsTable_4 rfl rfl ?_
  refine Ev.iaload (v := ((t : Nat) : Int)) dX8_fitsTable_5 ltc_279 shc_279 (by decide) (by omega) (by omega) (ldx (by omega) (hS.trans ht)) ?_
  refine Ev.istore_n (pl' := [some (vR (272)), some (vI (((r : Nat) : Int))), some (vI (((t : Nat) : Int))), none, none, none, none]) dX8_fitsTable_6 rfl (Nat.le_of_ble_eq_true rfl) rfl ?_
  refine Ev.aload_n dX8_fitsTable_7 rfl rfl ?_
  refine gf_X8_38 rfl dX8_fitsTable_8 ltc_272 shc_272 rfc_272_13 ?_
  refine Ev.iload_n dX8_fitsTable_11 rfl rfl ?_
  refine Ev.iaload (v := ((rN R : Nat) : Int)) dX8_fitsTable_12 ltc_282 shc_282 (by decide) (by omega) (by omega) (ldx (by omega) hN) ?_
  refine Ev.istore_n (pl' := [some (vR (272)), some (vI (((r : Nat) : Int))), some (vI (((t : Nat) : Int))), some (vI (((rN R : Nat) : Int))), none, none, none]) dX8_fitsTable_13 rfl (Nat.le_of_ble_eq_true rfl) rfl ?_
  refine Ev.iconst dX8_fitsTable_14 ?_
  refine Ev.istore (pl' := [some (vR (272)), some (vI (((r : Nat) : Int))), some (vI (((t : Nat) : Int))), some (vI (((rN R : Nat) : Int))), some (vI (0)), none, none]) dX8_fitsTable_15 (Nat.le_of_ble_eq_true rfl) rfl ?_
  refine Ev.wk (pl' := [some (vR (272)), some (vI (((r : Nat) : Int))), some (vI (((t : Nat) : Int))), some (vI (((rN R : Nat) : Int))), some (vI (((0 * rN R : Nat) : Int))), none, none]) ⟨rfl, ⟨rfl, ⟨rfl, ⟨rfl, ⟨vIe (by omega), trivial⟩⟩⟩⟩⟩ ?_
  exact sM_ftab σ r U R A hr hM hW hA T hT hk2 hn0 t ht ht6 49 0 (by omega) (fun p hp => absurd hp (by omega))

set_option maxRecDepth 100000 in
set_option maxHeartbeats 4000000 in
theorem sM_fload_i {g : GC} (σ : Sg) (r U : Nat) (R : RC) (A : An) (hr : r < 16) (hM : MR σ r R) (hW : WR U R) (hA : ∀ k, k < rN R → σ 297 (rO R k) = (A (rO R k) : Int) ∧ A (rO R k) < 16) (hk3 : rK R = 3) (t : Nat) (ht : t < 31) {Post : Option PV → Mem → Prop} : ∀ j K : Nat, K + j = rN R → Ev g mX8_fitsLoad 86 [some (vR (272)), some (vI (((r : Nat) : Int))), some (vI (((t : Nat) : Int))), some (vI (fLd R A t (rN R))), none, none] [] (M0 (σ)) 0 0 Post → Ev g mX8_fitsLoad 16 [some (vR (272)), some (vI (((r : Nat) : Int))), some (vI (((t : Nat) : Int))), some (vI (fLd R A t K)), some (vI ((((6 * r + K) : Nat) : Int))), none] [] (M0 (σ)) 0 0 (Post) := by
  intro j
  induction j with
  | zero =>
    intro K hij kk
    obtain ⟨hK, hS, hB, hN, hP⟩ := id hM
    obtain ⟨⟨hk5, hn6, hU⟩, hO, -⟩ := id hW
    obtain ⟨hs3, hz3⟩ := hW.2.2.2.2.1 hk3
    refine Ev.iload dX8_fitsLoad_16 rfl ?_
    refine Ev.bipush (n := 6) (by decide) dX8_fitsLoad_18 ?_
    refine Ev.iload_n dX8_fitsLoad_20 rfl rfl ?_
    refine Ev.imul dX8_fitsLoad_21 ?_
    refine Ev.aload_n dX8_fitsLoad_22 rfl rfl ?_
    refine gf_X8_38 rfl dX8_fitsLoad_23 ltc_272 shc_272 rfc_272_13 ?_
    refine Ev.iload_n dX8_fitsLoad_26 rfl rfl ?_
    refine Ev.iaload (v := ((rN R : Nat) : Int)) dX8_fitsLoad_27 ltc_282 shc_282 (by decide) (by omega) (by omega) (ldx (by omega) hN) ?_
    refine Ev.iadd dX8_fitsLoad_28 ?_
    refine Ev.icmp_ge (tgt := 86) ⟨by omega, by omega⟩ ⟨by omega, by omega⟩ dX8_fitsLoad_29 (by decide) (fun h29 => ?_) (fun h29 => ?_)
    · skip
      refine Ev.wk (pl' := [some (vR (272)), some (vI (((r : Nat) : Int))), some (vI (((t : Nat) : Int))), some (vI (fLd R A t (rN R))), none, none]) ⟨rfl, ⟨rfl, ⟨rfl, ⟨vIe (by rw [show K = rN R by omega]), trivial⟩⟩⟩⟩ ?_
      exact kk
    · exact absurd h29 (by omega)
  | succ j ih =>
    intro K hij kk
    obtain ⟨hK, hS, hB, hN, hP⟩ := id hM
    obtain ⟨⟨hk5, hn6, hU⟩, hO, -⟩ := id hW
    obtain ⟨hs3, hz3⟩ := hW.2.2.2.2.1 hk3
    have hak := (hA K (by omega)).2
    have haK := (hz3 K (by omega)).1
    refine Ev.iload dX8_fitsLoad_16 rfl ?_
    refine Ev.bipush (n := 6) (by decide) dX8_fitsLoad_18 ?_
    refine Ev.iload_n dX8_fitsLoad_20 rfl rfl ?_
    refine Ev.imul dX8_fitsLoad_21 ?_
    refine Ev.aload_n dX8_fitsLoad_22 rfl rfl ?_
    refine gf_X8_38 rfl dX8_fitsLoad_23 ltc_272 shc_272 rfc_272_13 ?_
    refine Ev.iload_n dX8_fitsLoad_26 rfl rfl ?_
    refine Ev.iaload (v := ((rN R : Nat) : Int)) dX8_fitsLoad_27 ltc_282 shc_282 (by decide) (by omega) (by omega) (ldx (by omega) hN) ?_
    refine Ev.iadd dX8_fitsLoad_28 ?_
    refine Ev.icmp_ge (tgt := 86) ⟨by omega, by omega⟩ ⟨by omega, by omega⟩ dX8_fitsLoad_29 (by decide) (fun h29 => ?_) (fun h29 => ?_)
    · exact absurd h29 (by omega)
    · skip
      refine Ev.aload_n dX8_fitsLoad_32 rfl rfl ?_
      refine gf_X8_87 rfl dX8_fitsLoad_33 ltc_272 shc_272 rfc_272_33 ?_
      refine Ev.aload_n dX8_fitsLoad_36 rfl rfl ?_
      refine gf_X8_41 rfl dX8_fitsLoad_37 ltc_272 shc_272 rfc_272_14 ?_
      refine Ev.iload dX8_fitsLoad_40 rfl ?_
      refine Ev.iaload (v := ((rO R K : Nat) : Int)) dX8_fitsLoad_42 ltc_283 shc_283 (by decide) (by omega) (by omega) (ldx (n := 6 * r + K) (by omega) (hP K (by omega)).1) ?_
      refine Ev.iaload (v := ((A (rO R K) : Nat) : Int)) dX8_fitsLoad_43 ltc_297 shc_297 (by decide) (by omega) (Int.ofNat_lt.mpr (Nat.lt_of_lt_of_le (hO _ (by omega)) hU)) (ldx rfl (hA K (by omega)).1) ?_
      refine Ev.istore (pl' := [some (vR (272)), some (vI (((r : Nat) : Int))), some (vI (((t : Nat) : Int))), some (vI (fLd R A t K)), some (vI ((((6 * r + K) : Nat) : Int))), some (vI (((A (rO R K) : Nat) : Int)))]) dX8_fitsLoad_44 (Nat.le_of_ble_eq_true rfl) rfl ?_
      refine Ev.iload_n dX8_fitsLoad_46 rfl rfl ?_
      refine Ev.iload_n dX8_fitsLoad_47 rfl rfl ?_
      refine Ev.iload dX8_fitsLoad_48 rfl ?_
      refine Ev.icmp_lt (tgt := 77) ⟨by omega, by omega⟩ ⟨by omega, by omega⟩ dX8_fitsLoad_50 (by decide) (fun h50 => ?_) (fun h50 => ?_)
      · skip
        refine Ev.iconst dX8_fitsLoad_77 ?_
        refine Ev.iadd dX8_fitsLoad_78 ?_
        refine Ev.istore_n (pl' := [some (vR (272)), some (vI (((r : Nat) : Int))), some (vI (((t : Nat) : Int))), some (vI ((fLd R A t K + 0))), some (vI ((((6 * r + K) : Nat) : Int))), some (vI (((A (rO R K) : Nat) : Int)))]) dX8_fitsLoad_79 rfl (Nat.le_of_ble_eq_true rfl) rfl ?_
        refine Ev.iinc (pl' := [some (vR (272)), some (vI (((r : Nat) : Int))), some (vI (((t : Nat) : Int))), some (vI ((fLd R A t K + 0))), some (vI ((((6 * r + K) : Nat) : Int) + 1)), some (vI (((A (rO R K) : Nat) : Int)))]) dX8_fitsLoad_80 rfl (Nat.le_of_ble_eq_true rfl) rfl ?_
        refine Ev.goto (tgt := 16) dX8_fitsLoad_83 (by decide) ?_
        refine Ev.wk (pl' := [some (vR (272)), some (vI (((r : Nat) : Int))), some (vI (((t : Nat) : Int))), some (vI (fLd R A t (K + 1))), some (vI ((((6 * r + (K + 1)) : Nat) : Int))), none]) ⟨rfl, ⟨rfl, ⟨rfl, ⟨vIe (by first | rw [fLd_t (by unfold runs; omega)] | (rw [fLd_f (by unfold runs; omega)]; omega)), ⟨vIe (by omega), trivial⟩⟩⟩⟩⟩ ?_
        exact ih (K + 1) (by omega) kk
      · skip
        refine Ev.iload_n dX8_fitsLoad_53 rfl rfl ?_
        refine Ev.iload dX8_fitsLoad_54 rfl ?_
        refine Ev.aload_n dX8_fitsLoad_56 rfl rfl ?_
        refine gf_X8_44 rfl dX8_fitsLoad_57 ltc_272 shc_272 rfc_272_15 ?_
        refine Ev.iload dX8_fitsLoad_60 rfl ?_
        refine Ev.iaload (v := rA R K) dX8_fitsLoad_62 ltc_284 shc_284 (by decide) (by omega) (by omega) (ldx (n := 6 * r + K) (by omega) (hP K (by omega)).2.1) ?_
        refine Ev.iadd dX8_fitsLoad_63 ?_
        refine Ev.icmp_ge (tgt := 77) ⟨by omega, by omega⟩ ⟨by omega, by omega⟩ dX8_fitsLoad_64 (by decide) (fun h64 => ?_) (fun h64 => ?_)
        · skip
          refine Ev.iconst dX8_fitsLoad_77 ?_
          refine Ev.iadd dX8_fitsLoad_78 ?_
          refine Ev.istore_n (pl' := [some (vR (272)), some (vI (((r : Nat) : Int))), some (vI (((t : Nat) : Int))), some (vI ((fLd R A t K + 0))), some (vI ((((6 * r + K) : Nat) : Int))), some (vI (((A (rO R K) : Nat) : Int)))]) dX8_fitsLoad_79 rfl (Nat.le_of_ble_eq_true rfl) rfl ?_
          refine Ev.iinc (pl' := [some (vR (272)), some (vI (((r : Nat) : Int))), some (vI (((t : Nat) : Int))), some (vI ((fLd R A t K + 0))), some (vI ((((6 * r + K) : Nat) : Int) + 1)), some (vI (((A (rO R K) : Nat) : Int)))]) dX8_fitsLoad_80 rfl (Nat.le_of_ble_eq_true rfl) rfl ?_
          refine Ev.goto (tgt := 16) dX8_fitsLoad_83 (by decide) ?_
          refine Ev.wk (pl' := [some (vR (272)), some (vI (((r : Nat) : Int))), some (vI (((t : Nat) : Int))), some (vI (fLd R A t (K + 1))), some (vI ((((6 * r + (K + 1)) : Nat) : Int))), none]) ⟨rfl, ⟨rfl, ⟨rfl, ⟨vIe (by first | rw [fLd_t (by unfold runs; omega)] | (rw [fLd_f (by unfold runs; omega)]; omega)), ⟨vIe (by omega), trivial⟩⟩⟩⟩⟩ ?_
          exact ih (K + 1) (by omega) kk
        · skip
          refine Ev.aload_n dX8_fitsLoad_67 rfl rfl ?_
          refine gf_X8_47 rfl dX8_fitsLoad_68 ltc_272 shc_272 rfc_272_16 ?_
          refine Ev.iload dX8_fitsLoad_71 rfl ?_
          refine Ev.iaload (v := rZ R K) dX8_fitsLoad_73 ltc_285 shc_285 (by decide) (by omega) (by omega) (ldx (n := 6 * r + K) (by omega) (hP K (by omega)).2.2) ?_
          refine Ev.goto (tgt := 78) dX8_fitsLoad_74 (by decide) ?_
          refine Ev.iadd dX8_fitsLoad_78 ?_
          refine Ev.istore_n (pl' := [some (vR (272)), some (vI (((r : Nat) : Int))), some (vI (((t : Nat) : Int))), some (vI ((fLd R A t K + rZ R K))), some (vI ((((6 * r + K) : Nat) : Int))), some (vI (((A (rO R K) : Nat) : Int)))]) dX8_fitsLoad_79 rfl (Nat.le_of_ble_eq_true rfl) rfl ?_
          refine Ev.iinc (pl' := [some (vR (272)), some (vI (((r : Nat) : Int))), some (vI (((t : Nat) : Int))), some (vI ((fLd R A t K + rZ R K))), some (vI ((((6 * r + K) : Nat) : Int) + 1)), some (vI (((A (rO R K) : Nat) : Int)))]) dX8_fitsLoad_80 rfl (Nat.le_of_ble_eq_true rfl) rfl ?_
          refine Ev.goto (tgt := 16) dX8_fitsLoad_83 (by decide) ?_
          refine Ev.wk (pl' := [some (vR (272)), some (vI (((r : Nat) : Int))), some (vI (((t : Nat) : Int))), some (vI (fLd R A t (K + 1))), some (vI ((((6 * r + (K + 1)) : Nat) : Int))), none]) ⟨rfl, ⟨rfl, ⟨rfl, ⟨vIe (by first | rw [fLd_t (by unfold runs; omega)] | (rw [fLd_f (by unfold runs; omega)]; omega)), ⟨vIe (by omega), trivial⟩⟩⟩⟩⟩ ?_
          exact ih (K + 1) (by omega) kk

set_option maxRecDepth 100000 in
set_option maxHeartbeats 4000000 in
theorem sM_fload {g : GC} (σ : Sg) (r U : Nat) (R : RC) (A : An) (hr : r < 16) (hM : MR σ r R) (hW : WR U R) (hA : ∀ k, k < rN R → σ 297 (rO R k) = (A (rO R k) : Int) ∧ A (rO R k) < 16) (hk3 : rK R = 3) : ∀ j t : Nat, t + j = 31 → (∀ s, s < t → fLd R A s (rN R) ≤ rS R) → Ev g mX8_fitsLoad 2 [some (vR (272)), some (vI (((r : Nat) : Int))), some (vI (((t : Nat) : Int))), none, none, none] [] (M0 (σ)) 0 0 (retI (bI (fLoad R A)) σ) := by
  intro j
  induction j with
  | zero =>
    intro t hij hall
    obtain ⟨hK, hS, hB, hN, hP⟩ := id hM
    obtain ⟨⟨hk5, hn6, hU⟩, hO, -⟩ := id hW
    obtain ⟨hs3, hz3⟩ := hW.2.2.2.2.1 hk3
    refine Ev.iload_n dX8_fitsLoad_2 rfl rfl ?_
    refine Ev.bipush (n := 31) (by decide) dX8_fitsLoad_3 ?_
    refine Ev.icmp_ge (tgt := 104) ⟨by omega, by omega⟩ ⟨by decide, by decide⟩ dX8_fitsLoad_5 (by decide) (fun h5 => ?_) (fun h5 => ?_)
    · skip
      refine Ev.iconst dX8_fitsLoad_104 ?_
      exact Ev.zreturn dX8_fitsLoad_105 rfl (Or.inr rfl) (rI (bI_t (fun s => (Nat.lt_or_ge s t).elim (hall s) (fun e => by rw [fLd_0 (rN R) (fun k hk z => by have := (hA k hk).2; have := (hz3 k hk).1; have := z.2; omega)]; exact hs3.1))) rfl)
    · exact absurd h5 (by omega)
  | succ j ih =>
    intro t hij hall
    obtain ⟨hK, hS, hB, hN, hP⟩ := id hM
    obtain ⟨⟨hk5, hn6, hU⟩, hO, -⟩ := id hW
    obtain ⟨hs3, hz3⟩ := hW.2.2.2.2.1 hk3
    have hlb := fLd_bd (R := R) (A := A) (t := t) hn6 (fun k hk => (hz3 k hk).2)
    refine Ev.iload_n dX8_fitsLoad_2 rfl rfl ?_
    refine Ev.bipush (n := 31) (by decide) dX8_fitsLoad_3 ?_
    refine Ev.icmp_ge (tgt := 104) ⟨by omega, by omega⟩ ⟨by decide, by decide⟩ dX8_fitsLoad_5 (by decide) (fun h5 => ?_) (fun h5 => ?_)
    · exact absurd h5 (by omega)
    · skip
      refine Ev.iconst dX8_fitsLoad_8 ?_
      refine Ev.istore_n (pl' := [some (vR (272)), some (vI (((r : Nat) : Int))), some (vI (((t : Nat) : Int))), some (vI (0)), none, none]) dX8_fitsLoad_9 rfl (Nat.le_of_ble_eq_true rfl) rfl ?_
      refine Ev.bipush (n := 6) (by decide) dX8_fitsLoad_10 ?_
      refine Ev.iload_n dX8_fitsLoad_12 rfl rfl ?_
      refine Ev.imul dX8_fitsLoad_13 ?_
      refine Ev.istore (pl' := [some (vR (272)), some (vI (((r : Nat) : Int))), some (vI (((t : Nat) : Int))), some (vI (0)), some (vI ((6 * ((r : Nat) : Int)))), none]) dX8_fitsLoad_14 (Nat.le_of_ble_eq_true rfl) rfl ?_
      refine Ev.wk (pl' := [some (vR (272)), some (vI (((r : Nat) : Int))), some (vI (((t : Nat) : Int))), some (vI (fLd R A t 0)), some (vI ((((6 * r + 0) : Nat) : Int))), none]) ⟨rfl, ⟨rfl, ⟨rfl, ⟨vIe rfl, ⟨vIe (by omega), trivial⟩⟩⟩⟩⟩ ?_
      refine sM_fload_i σ r U R A hr hM hW hA hk3 t (by omega) (rN R) 0 (by omega) ?_
      refine Ev.iload_n dX8_fitsLoad_86 rfl rfl ?_
      refine Ev.aload_n dX8_fitsLoad_87 rfl rfl ?_
      refine gf_X8_28 rfl dX8_fitsLoad_88 ltc_272 shc_272 rfc_272_10 ?_
      refine Ev.iload_n dX8_fitsLoad_91 rfl rfl ?_
      refine Ev.iaload (v := rS R) dX8_fitsLoad_92 ltc_279 shc_279 (by decide) (by omega) (by omega) (ldx (by omega) hS) ?_
      refine Ev.icmp_le (tgt := 98) ⟨by omega, by omega⟩ ⟨by omega, by omega⟩ dX8_fitsLoad_93 (by decide) (fun h93 => ?_) (fun h93 => ?_)
      · skip
        refine Ev.iinc (pl' := [some (vR (272)), some (vI (((r : Nat) : Int))), some (vI (((t : Nat) : Int) + 1)), some (vI (fLd R A t (rN R))), none, none]) dX8_fitsLoad_98 rfl (Nat.le_of_ble_eq_true rfl) rfl ?_
        refine Ev.goto (tgt := 2) dX8_fitsLoad_101 (by decide) ?_
        refine Ev.wk (pl' := [some (vR (272)), some (vI (((r : Nat) : Int))), some (vI ((((t + 1) : Nat) : Int))), none, none, none]) ⟨rfl, ⟨rfl, ⟨vIe (by omega), trivial⟩⟩⟩ ?_
        exact ih (t + 1) (by omega) (fun s hs => (Nat.lt_or_ge s t).elim (hall s) (fun e => by rw [show s = t by omega]; omega))
      · skip
        refine Ev.iconst dX8_fitsLoad_96 ?_
        exact Ev.zreturn dX8_fitsLoad_97 rfl (Or.inl rfl) (rI (bI_f (fun z => by have := z t; omega)) rfl)

set_option maxRecDepth 100000 in
set_option maxHeartbeats 4000000 in
theorem sM_fitsLoad {g : GC} (σ : Sg) (r U : Nat) (R : RC) (A : An) (hr : r < 16) (hM : MR σ r R) (hW : WR U R) (hA : ∀ k, k < rN R → σ 297 (rO R k) = (A (rO R k) : Int) ∧ A (rO R k) < 16) (hk3 : rK R = 3) : Ev g mX8_fitsLoad 0 [some (vR (272)), some (vI (((r : Nat) : Int))), none, none, none, none] [] (M0 (σ)) 0 0 (retI (bI (fLoad R A)) σ) := by
  refine Ev.iconst dX8_fitsLoad_0 ?_
  refine Ev.istore_n (pl' := [some (vR (272)), some (vI (((r : Nat) : Int))), some (vI (0)), none, none, none]) dX8_fitsLoad_1 rfl (Nat.le_of_ble_eq_true rfl) rfl ?_
  refine Ev.wk (pl' := [some (vR (272)), some (vI (((r : Nat) : Int))), some (vI (((0 : Nat) : Int))), none, none, none]) ⟨rfl, ⟨rfl, ⟨vIe rfl, trivial⟩⟩⟩ ?_
  exact sM_fload σ r U R A hr hM hW hA hk3 31 0 (by omega) (fun k hk => absurd hk (by omega))

set_option maxRecDepth 100000 in
set_option maxHeartbeats 4000000 in
theorem sM_fring {g : GC} (σ : Sg) (r U : Nat) (R : RC) (A : An) (hr : r < 16) (hM : MR σ r R) (hW : WR U R) (hA : ∀ k, k < rN R → σ 297 (rO R k) = (A (rO R k) : Int) ∧ A (rO R k) < 16) (hn0 : 0 < rN R) : ∀ j q : Nat, q + j = rN R → pt R A q < 16 → ptD R A q → Ev g mX8_fitsRing 7 [some (vR (272)), some (vI (((r : Nat) : Int))), some (vI (((pt R A q : Nat) : Int))), some (vI (((psM R A q : Nat) : Int))), some (vI (((q : Nat) : Int)))] [] (M0 (σ)) 0 0 (retI (bI (fRing R A)) σ) := by
  intro j
  induction j with
  | zero =>
    intro q hij h16 hD
    obtain ⟨hK, hS, hB, hN, hP⟩ := id hM
    obtain ⟨⟨hk5, hn6, hU⟩, hO, -⟩ := id hW
    have hsl : psM R A q < 65536 := mk_lt _
    have hp16 := pow_le16 h16
    refine Ev.iload dX8_fitsRing_7 rfl ?_
    refine Ev.aload_n dX8_fitsRing_9 rfl rfl ?_
    refine gf_X8_38 rfl dX8_fitsRing_10 ltc_272 shc_272 rfc_272_13 ?_
    refine Ev.iload_n dX8_fitsRing_13 rfl rfl ?_
    refine Ev.iaload (v := ((rN R : Nat) : Int)) dX8_fitsRing_14 ltc_282 shc_282 (by decide) (by omega) (by omega) (ldx (by omega) hN) ?_
    refine Ev.icmp_ge (tgt := 76) ⟨by omega, by omega⟩ ⟨by omega, by omega⟩ dX8_fitsRing_15 (by decide) (fun h15 => ?_) (fun h15 => ?_)
    · skip
      refine Ev.iload_n dX8_fitsRing_76 rfl rfl ?_
      refine Ev.if_ne (tgt := 84) ⟨by omega, by omega⟩ dX8_fitsRing_77 (by decide) (fun h77 => ?_) (fun h77 => ?_)
      · skip
        refine Ev.iconst dX8_fitsRing_84 ?_
        exact Ev.zreturn dX8_fitsRing_85 rfl (Or.inl rfl) (rI (bI_f (by first | exact fRing_n3 hn0 (by rw [← show q = rN R by omega]; omega) | exact fRing_n2 (n := q) (by omega) h16 (b2_1.mp (by assumption)) | exact fRing_n1 (n := q) (by omega) (by have := bI_0.mp h33; omega))) rfl)
      · skip
        refine Ev.iconst dX8_fitsRing_80 ?_
        refine Ev.goto (tgt := 85) dX8_fitsRing_81 (by decide) ?_
        exact Ev.zreturn dX8_fitsRing_85 rfl (Or.inr rfl) (rI (bI_t (fRing_y (by rw [← show q = rN R by omega]; exact hD) (by rw [← show q = rN R by omega]; omega))) rfl)
    · exact absurd h15 (by omega)
  | succ j ih =>
    intro q hij h16 hD
    obtain ⟨hK, hS, hB, hN, hP⟩ := id hM
    obtain ⟨⟨hk5, hn6, hU⟩, hO, -⟩ := id hW
    have hsl : psM R A q < 65536 := mk_lt _
    have hp16 := pow_le16 h16
    refine Ev.iload dX8_fitsRing_7 rfl ?_
    refine Ev.aload_n dX8_fitsRing_9 rfl rfl ?_
    refine gf_X8_38 rfl dX8_fitsRing_10 ltc_272 shc_272 rfc_272_13 ?_
    refine Ev.iload_n dX8_fitsRing_13 rfl rfl ?_
    refine Ev.iaload (v := ((rN R : Nat) : Int)) dX8_fitsRing_14 ltc_282 shc_282 (by decide) (by omega) (by omega) (ldx (by omega) hN) ?_
    refine Ev.icmp_ge (tgt := 76) ⟨by omega, by omega⟩ ⟨by omega, by omega⟩ dX8_fitsRing_15 (by decide) (fun h15 => ?_) (fun h15 => ?_)
    · exact absurd h15 (by omega)
    · skip
      refine Ev.iload_n dX8_fitsRing_18 rfl rfl ?_
      refine Ev.i2l ⟨by omega, by omega⟩ dX8_fitsRing_19 ?_
      refine Ev.lconst 0 rfl dX8_fitsRing_20 ?_
      refine Ev.aload_n dX8_fitsRing_21 rfl rfl ?_
      refine gf_X8_38 rfl dX8_fitsRing_22 ltc_272 shc_272 rfc_272_13 ?_
      refine Ev.iload_n dX8_fitsRing_25 rfl rfl ?_
      refine Ev.iaload (v := ((rN R : Nat) : Int)) dX8_fitsRing_26 ltc_282 shc_282 (by decide) (by omega) (by omega) (ldx (by omega) hN) ?_
      refine Ev.iconst dX8_fitsRing_27 ?_
      refine Ev.isub dX8_fitsRing_28 ?_
      refine Ev.i2l ⟨by omega, by omega⟩ dX8_fitsRing_29 ?_
      refine Ev.callS_I (M2 := mX8_in) (args2 := [vL (((pt R A q : Nat) : Int)), vL (0), vL ((((rN R : Nat) : Int) - 1))]) dX8_fitsRing_30 okX8_in lk_X8_96 osX8_in.1 osX8_in.2 (by decide) rfl (Nat.le_of_ble_eq_true rfl) (Nat.le_of_ble_eq_true rfl) (sM_in σ (((pt R A q : Nat) : Int)) (0) ((((rN R : Nat) : Int) - 1)) ⟨by omega, by omega⟩ ⟨by omega, by omega⟩ ⟨by omega, by omega⟩) ?_ rfl
      refine Ev.if_eq (tgt := 45) bI_inR dX8_fitsRing_33 (by decide) (fun h33 => ?_) (fun h33 => ?_)
      · skip
        refine Ev.iconst dX8_fitsRing_45 ?_
        exact Ev.zreturn dX8_fitsRing_46 rfl (Or.inl rfl) (rI (bI_f (by first | exact fRing_n3 hn0 (by rw [← show q = rN R by omega]; omega) | exact fRing_n2 (n := q) (by omega) h16 (b2_1.mp (by assumption)) | exact fRing_n1 (n := q) (by omega) (by have := bI_0.mp h33; omega))) rfl)
      · skip
        have hin := bI_1.mp h33
        have hlt : pt R A q < rN R := by omega
        refine Ev.iload_n dX8_fitsRing_36 rfl rfl ?_
        refine Ev.iload_n dX8_fitsRing_37 rfl rfl ?_
        refine Ev.ishr dX8_fitsRing_38 ?_
        refine Ev.iconst dX8_fitsRing_39 ?_
        refine Ev.iand dX8_fitsRing_40 ?_
        rw [show (iAnd ((iShr (((psM R A q : Nat) : Int)) (((pt R A q : Nat) : Int)))) (1)) = (((b2 (Nat.testBit (psM R A q) (pt R A q))) : Nat) : Int) from bit_nat (by omega) (by omega)]
        refine Ev.iconst dX8_fitsRing_41 ?_
        refine Ev.icmp_ne (tgt := 47) b2_inR ⟨by decide, by decide⟩ dX8_fitsRing_42 (by decide) (fun h42 => ?_) (fun h42 => ?_)
        · skip
          refine Ev.iload_n dX8_fitsRing_47 rfl rfl ?_
          refine Ev.iconst dX8_fitsRing_48 ?_
          refine Ev.iload_n dX8_fitsRing_49 rfl rfl ?_
          refine Ev.ishl dX8_fitsRing_50 ?_
          rw [show (iShl (1) (((pt R A q : Nat) : Int))) = ((2 ^ pt R A q : Nat) : Int) from shl1 (by omega)]
          refine Ev.ior dX8_fitsRing_51 ?_
          rw [show (iOr (((psM R A q : Nat) : Int)) (((2 ^ pt R A q : Nat) : Int))) = ((psM R A (q + 1) : Nat) : Int) from by rw [← psM_s h16]; exact iOr_nat (by omega) (by omega)]
          refine Ev.istore_n (pl' := [some (vR (272)), some (vI (((r : Nat) : Int))), some (vI (((pt R A q : Nat) : Int))), some (vI (((psM R A (q + 1) : Nat) : Int))), some (vI (((q : Nat) : Int)))]) dX8_fitsRing_52 rfl (Nat.le_of_ble_eq_true rfl) rfl ?_
          refine Ev.aload_n dX8_fitsRing_53 rfl rfl ?_
          refine gf_X8_87 rfl dX8_fitsRing_54 ltc_272 shc_272 rfc_272_33 ?_
          refine Ev.aload_n dX8_fitsRing_57 rfl rfl ?_
          refine gf_X8_41 rfl dX8_fitsRing_58 ltc_272 shc_272 rfc_272_14 ?_
          refine Ev.bipush (n := 6) (by decide) dX8_fitsRing_61 ?_
          refine Ev.iload_n dX8_fitsRing_63 rfl rfl ?_
          refine Ev.imul dX8_fitsRing_64 ?_
          refine Ev.iload_n dX8_fitsRing_65 rfl rfl ?_
          refine Ev.iadd dX8_fitsRing_66 ?_
          refine Ev.iaload (v := ((rO R (pt R A q) : Nat) : Int)) dX8_fitsRing_67 ltc_283 shc_283 (by decide) (by omega) (by omega) (ldx (n := 6 * r + (pt R A q)) (by omega) (hP (pt R A q) (by omega)).1) ?_
          refine Ev.iaload (v := ((A (rO R (pt R A q)) : Nat) : Int)) dX8_fitsRing_68 ltc_297 shc_297 (by decide) (by omega) (Int.ofNat_lt.mpr (Nat.lt_of_lt_of_le (hO _ (by omega)) hU)) (ldx rfl (hA (pt R A q) (by omega)).1) ?_
          refine Ev.istore_n (pl' := [some (vR (272)), some (vI (((r : Nat) : Int))), some (vI (((A (rO R (pt R A q)) : Nat) : Int))), some (vI (((psM R A (q + 1) : Nat) : Int))), some (vI (((q : Nat) : Int)))]) dX8_fitsRing_69 rfl (Nat.le_of_ble_eq_true rfl) rfl ?_
          refine Ev.iinc (pl' := [some (vR (272)), some (vI (((r : Nat) : Int))), some (vI (((A (rO R (pt R A q)) : Nat) : Int))), some (vI (((psM R A (q + 1) : Nat) : Int))), some (vI (((q : Nat) : Int) + 1))]) dX8_fitsRing_70 rfl (Nat.le_of_ble_eq_true rfl) rfl ?_
          refine Ev.goto (tgt := 7) dX8_fitsRing_73 (by decide) ?_
          refine Ev.wk (pl' := [some (vR (272)), some (vI (((r : Nat) : Int))), some (vI (((pt R A (q + 1) : Nat) : Int))), some (vI (((psM R A (q + 1) : Nat) : Int))), some (vI ((((q + 1) : Nat) : Int)))]) ⟨rfl, ⟨rfl, ⟨vIe rfl, ⟨rfl, ⟨vIe (by omega), trivial⟩⟩⟩⟩⟩ ?_
          exact ih (q + 1) (by omega) (hA (pt R A q) hlt).2 (ptD_s hD hlt h16 (by cases hb : (psM R A q).testBit (pt R A q) with | false => rfl | true => exact absurd (b2_1.mpr hb) (by assumption)))
        · skip
          refine Ev.iconst dX8_fitsRing_45 ?_
          exact Ev.zreturn dX8_fitsRing_46 rfl (Or.inl rfl) (rI (bI_f (by first | exact fRing_n3 hn0 (by rw [← show q = rN R by omega]; omega) | exact fRing_n2 (n := q) (by omega) h16 (b2_1.mp (by assumption)) | exact fRing_n1 (n := q) (by omega) (by have := bI_0.mp h33; omega))) rfl)

set_option maxRecDepth 100000 in
set_option maxHeartbeats 4000000 in
theorem sM_fitsRing {g : GC} (σ : Sg) (r U : Nat) (R : RC) (A : An) (hr : r < 16) (hM : MR σ r R) (hW : WR U R) (hA : ∀ k, k < rN R → σ 297 (rO R k) = (A (rO R k) : Int) ∧ A (rO R k) < 16) (hn0 : 0 < rN R) : Ev g mX8_fitsRing 0 [some (vR (272)), some (vI (((r : Nat) : Int))), none, none, none] [] (M0 (σ)) 0 0 (retI (bI (fRing R A)) σ) := by
  refine Ev.iconst dX8_fitsRing_0 ?_
  refine Ev.istore_n (pl' := [some (vR (272)), some (vI (((r : Nat) : Int))), some (vI (0)), none, none]) dX8_fitsRing_1 rfl (Nat.le_of_ble_eq_true rfl) rfl ?_
  refine Ev.iconst dX8_fitsRing_2 ?_
  refine Ev.istore_n (pl' := [some (vR (272)), some (vI (((r : Nat) : Int))), some (vI (0)), some (vI (0)), none]) dX8_fitsRing_3 rfl (Nat.le_of_ble_eq_true rfl) rfl ?_
  refine Ev.iconst dX8_fitsRing_4 ?_
  refine Ev.istore (pl' := [some (vR (272)), some (vI (((r : Nat) : Int))), some (vI (0)), some (vI (0)), some (vI (0))]) dX8_fitsRing_5 (Nat.le_of_ble_eq_true rfl) rfl ?_
  refine Ev.wk (pl' := [some (vR (272)), some (vI (((r : Nat) : Int))), some (vI (((pt R A 0 : Nat) : Int))), some (vI (((psM R A 0 : Nat) : Int))), some (vI (((0 : Nat) : Int)))]) ⟨rfl, ⟨rfl, ⟨vIe rfl, ⟨vIe (by rw [psM_0]; rfl), ⟨vIe rfl, trivial⟩⟩⟩⟩⟩ ?_
  exact sM_fring σ r U R A hr hM hW hA hn0 (rN R) 0 (by omega) (by show 0 < 16; decide) ⟨fun j hj => absurd hj (by omega), fun i j _ hj => absurd hj (by omega)⟩

set_option maxRecDepth 100000 in
set_option maxHeartbeats 4000000 in
theorem sM_fcl {g : GC} (σ : Sg) (r U : Nat) (R : RC) (A : An) (hr : r < 16) (hM : MR σ r R) (hW : WR U R) (hA : ∀ k, k < rN R → σ 297 (rO R k) = (A (rO R k) : Int) ∧ A (rO R k) < 16) (hk5 : rK R = 5) : ∀ j K : Nat, K + j = rN R → (∀ k, k < K → (rA R k).toNat.testBit (A (rO R k)) = false) → Ev g mX8_fitsClause 5 [some (vR (272)), some (vI (((r : Nat) : Int))), some (vI ((((6 * r + K) : Nat) : Int)))] [] (M0 (σ)) 0 0 (retI (bI (fCl R A)) σ) := by
  intro j
  induction j with
  | zero =>
    intro K hij hno
    obtain ⟨hK, hS, hB, hN, hP⟩ := id hM
    obtain ⟨⟨hk5_, hn6, hU⟩, hO, -⟩ := id hW
    have hA5 := hW.2.2.2.2.2.1 hk5
    refine Ev.iload_n dX8_fitsClause_5 rfl rfl ?_
    refine Ev.bipush (n := 6) (by decide) dX8_fitsClause_6 ?_
    refine Ev.iload_n dX8_fitsClause_8 rfl rfl ?_
    refine Ev.imul dX8_fitsClause_9 ?_
    refine Ev.aload_n dX8_fitsClause_10 rfl rfl ?_
    refine gf_X8_38 rfl dX8_fitsClause_11 ltc_272 shc_272 rfc_272_13 ?_
    refine Ev.iload_n dX8_fitsClause_14 rfl rfl ?_
    refine Ev.iaload (v := ((rN R : Nat) : Int)) dX8_fitsClause_15 ltc_282 shc_282 (by decide) (by omega) (by omega) (ldx (by omega) hN) ?_
    refine Ev.iadd dX8_fitsClause_16 ?_
    refine Ev.icmp_ge (tgt := 52) ⟨by omega, by omega⟩ ⟨by omega, by omega⟩ dX8_fitsClause_17 (by decide) (fun h17 => ?_) (fun h17 => ?_)
    · skip
      refine Ev.iconst dX8_fitsClause_52 ?_
      exact Ev.zreturn dX8_fitsClause_53 rfl (Or.inl rfl) (rI (bI_f (fun ⟨k, z1, z2⟩ => by rw [hno k (by omega)] at z2; cases z2)) rfl)
    · exact absurd h17 (by omega)
  | succ j ih =>
    intro K hij hno
    obtain ⟨hK, hS, hB, hN, hP⟩ := id hM
    obtain ⟨⟨hk5_, hn6, hU⟩, hO, -⟩ := id hW
    have hA5 := hW.2.2.2.2.2.1 hk5
    have hak := (hA K (by omega)).2
    have haK := hA5 K (by omega)
    refine Ev.iload_n dX8_fitsClause_5 rfl rfl ?_
    refine Ev.bipush (n := 6) (by decide) dX8_fitsClause_6 ?_
    refine Ev.iload_n dX8_fitsClause_8 rfl rfl ?_
    refine Ev.imul dX8_fitsClause_9 ?_
    refine Ev.aload_n dX8_fitsClause_10 rfl rfl ?_
    refine gf_X8_38 rfl dX8_fitsClause_11 ltc_272 shc_272 rfc_272_13 ?_
    refine Ev.iload_n dX8_fitsClause_14 rfl rfl ?_
    refine Ev.iaload (v := ((rN R : Nat) : Int)) dX8_fitsClause_15 ltc_282 shc_282 (by decide) (by omega) (by omega) (ldx (by omega) hN) ?_
    refine Ev.iadd dX8_fitsClause_16 ?_
    refine Ev.icmp_ge (tgt := 52) ⟨by omega, by omega⟩ ⟨by omega, by omega⟩ dX8_fitsClause_17 (by decide) (fun h17 => ?_) (fun h17 => ?_)
    · exact absurd h17 (by omega)
    · skip
      refine Ev.aload_n dX8_fitsClause_20 rfl rfl ?_
      refine gf_X8_44 rfl dX8_fitsClause_21 ltc_272 shc_272 rfc_272_15 ?_
      refine Ev.iload_n dX8_fitsClause_24 rfl rfl ?_
      refine Ev.iaload (v := (((rA R K).toNat : Nat) : Int)) dX8_fitsClause_25 ltc_284 shc_284 (by decide) (by omega) (by omega) (ldx (n := 6 * r + K) (by omega) ((hP K (by omega)).2.1.trans (by omega))) ?_
      refine Ev.aload_n dX8_fitsClause_26 rfl rfl ?_
      refine gf_X8_87 rfl dX8_fitsClause_27 ltc_272 shc_272 rfc_272_33 ?_
      refine Ev.aload_n dX8_fitsClause_30 rfl rfl ?_
      refine gf_X8_41 rfl dX8_fitsClause_31 ltc_272 shc_272 rfc_272_14 ?_
      refine Ev.iload_n dX8_fitsClause_34 rfl rfl ?_
      refine Ev.iaload (v := ((rO R K : Nat) : Int)) dX8_fitsClause_35 ltc_283 shc_283 (by decide) (by omega) (by omega) (ldx (n := 6 * r + K) (by omega) (hP K (by omega)).1) ?_
      refine Ev.iaload (v := ((A (rO R K) : Nat) : Int)) dX8_fitsClause_36 ltc_297 shc_297 (by decide) (by omega) (Int.ofNat_lt.mpr (Nat.lt_of_lt_of_le (hO _ (by omega)) hU)) (ldx rfl (hA K (by omega)).1) ?_
      refine Ev.ishr dX8_fitsClause_37 ?_
      refine Ev.iconst dX8_fitsClause_38 ?_
      refine Ev.iand dX8_fitsClause_39 ?_
      rw [show (iAnd ((iShr ((((rA R K).toNat : Nat) : Int)) (((A (rO R K) : Nat) : Int)))) (1)) = (((b2 (Nat.testBit (rA R K).toNat (A (rO R K)))) : Nat) : Int) from bit_nat (by omega) (by omega)]
      refine Ev.iconst dX8_fitsClause_40 ?_
      refine Ev.icmp_ne (tgt := 46) b2_inR ⟨by decide, by decide⟩ dX8_fitsClause_41 (by decide) (fun h41 => ?_) (fun h41 => ?_)
      · skip
        refine Ev.iinc (pl' := [some (vR (272)), some (vI (((r : Nat) : Int))), some (vI ((((6 * r + K) : Nat) : Int) + 1))]) dX8_fitsClause_46 rfl (Nat.le_of_ble_eq_true rfl) rfl ?_
        refine Ev.goto (tgt := 5) dX8_fitsClause_49 (by decide) ?_
        refine Ev.wk (pl' := [some (vR (272)), some (vI (((r : Nat) : Int))), some (vI ((((6 * r + (K + 1)) : Nat) : Int)))]) ⟨rfl, ⟨rfl, ⟨vIe (by omega), trivial⟩⟩⟩ ?_
        exact ih (K + 1) (by omega) (fun k hk => (Nat.lt_or_ge k K).elim (hno k) (fun e => by rw [show k = K by omega]; cases hb : (rA R K).toNat.testBit (A (rO R K)) with | false => rfl | true => exact absurd (b2_1.mpr hb) (by assumption)))
      · skip
        refine Ev.iconst dX8_fitsClause_44 ?_
        exact Ev.zreturn dX8_fitsClause_45 rfl (Or.inr rfl) (rI (bI_t ⟨K, by omega, b2_1.mp (by assumption)⟩) rfl)

set_option maxRecDepth 100000 in
set_option maxHeartbeats 4000000 in
theorem sM_fitsClause {g : GC} (σ : Sg) (r U : Nat) (R : RC) (A : An) (hr : r < 16) (hM : MR σ r R) (hW : WR U R) (hA : ∀ k, k < rN R → σ 297 (rO R k) = (A (rO R k) : Int) ∧ A (rO R k) < 16) (hk5 : rK R = 5) : Ev g mX8_fitsClause 0 [some (vR (272)), some (vI (((r : Nat) : Int))), none] [] (M0 (σ)) 0 0 (retI (bI (fCl R A)) σ) := by
  refine Ev.bipush (n := 6) (by decide) dX8_fitsClause_0 ?_
  refine Ev.iload_n dX8_fitsClause_2 rfl rfl ?_
  refine Ev.imul dX8_fitsClause_3 ?_
  refine Ev.istore_n (pl' := [some (vR (272)), some (vI (((r : Nat) : Int))), some (vI ((6 * ((r : Nat) : Int))))]) dX8_fitsClause_4 rfl (Nat.le_of_ble_eq_true rfl) rfl ?_
  refine Ev.wk (pl' := [some (vR (272)), some (vI (((r : Nat) : Int))), some (vI ((((6 * r + 0) : Nat) : Int)))]) ⟨rfl, ⟨rfl, ⟨vIe (by omega), trivial⟩⟩⟩ ?_
  exact sM_fcl σ r U R A hr hM hW hA hk5 (rN R) 0 (by omega) (fun k hk => absurd hk (by omega))

set_option maxRecDepth 100000 in
set_option maxHeartbeats 4000000 in
theorem sM_fitsBare {g : GC} (σ : Sg) (r U : Nat) (R : RC) (A : An) (hr : r < 16) (hM : MR σ r R) (hW : WR U R) (T : Tb) (hn0 : rN R = 0) : Ev g mX8_fitsBare 0 [some (vR (272)), some (vI (((r : Nat) : Int)))] [] (M0 (σ)) 0 0 (retI (bI (fit T R A)) σ) := by
  obtain ⟨hK, hS, hB, hN, hP⟩ := id hM
  obtain ⟨⟨hk5, hn6, hU⟩, hO, -⟩ := id hW
  refine Ev.aload_n dX8_fitsBare_0 rfl rfl ?_
  refine gf_X8_25 rfl dX8_fitsBare_1 ltc_272 shc_272 rfc_272_9 ?_
  refine Ev.iload_n dX8_fitsBare_4 rfl rfl ?_
  refine Ev.iaload (v := ((rK R : Nat) : Int)) dX8_fitsBare_5 ltc_278 shc_278 (by decide) (by omega) (by omega) (ldx (by omega) hK) ?_
  have hcs : rK R = 0 ∨ rK R = 1 ∨ rK R = 2 ∨ rK R = 3 ∨ rK R = 4 ∨ rK R = 5 := by omega
  rcases hcs with hk | hk | hk | hk | hk | hk
  · rw [show ((rK R : Nat) : Int) = 0 by omega]
    refine Ev.lookup (tgt := 40) dX8_fitsBare_6 ⟨by decide, by decide⟩ rfl rfl (by decide) ?_
    have hbb := hW.2.2.1 hk
    have hf0 := fS_0 (A := A) hn0
    refine Ev.aload_n dX8_fitsBare_40 rfl rfl ?_
    refine gf_X8_28 rfl dX8_fitsBare_41 ltc_272 shc_272 rfc_272_10 ?_
    refine Ev.iload_n dX8_fitsBare_44 rfl rfl ?_
    refine Ev.iaload (v := rS R) dX8_fitsBare_45 ltc_279 shc_279 (by decide) (by omega) (by omega) (ldx (by omega) hS) ?_
    refine Ev.if_ne (tgt := 67) ⟨by omega, by omega⟩ dX8_fitsBare_46 (by decide) (fun h46 => ?_) (fun h46 => ?_)
    · skip
      refine Ev.aload_n dX8_fitsBare_67 rfl rfl ?_
      refine gf_X8_28 rfl dX8_fitsBare_68 ltc_272 shc_272 rfc_272_10 ?_
      refine Ev.iload_n dX8_fitsBare_71 rfl rfl ?_
      refine Ev.iaload (v := rS R) dX8_fitsBare_72 ltc_279 shc_279 (by decide) (by omega) (by omega) (ldx (by omega) hS) ?_
      refine Ev.iconst dX8_fitsBare_73 ?_
      refine Ev.icmp_ne (tgt := 81) ⟨by omega, by omega⟩ ⟨by decide, by decide⟩ dX8_fitsBare_74 (by decide) (fun h74 => ?_) (fun h74 => ?_)
      · skip
        refine Ev.iconst dX8_fitsBare_81 ?_
        refine Ev.aload_n dX8_fitsBare_82 rfl rfl ?_
        refine gf_X8_31 rfl dX8_fitsBare_83 ltc_272 shc_272 rfc_272_11 ?_
        refine Ev.iload_n dX8_fitsBare_86 rfl rfl ?_
        refine Ev.iaload (v := rB R) dX8_fitsBare_87 ltc_280 shc_280 (by decide) (by omega) (by omega) (ldx (by omega) hB) ?_
        refine Ev.if_ne (tgt := 95) ⟨by omega, by omega⟩ dX8_fitsBare_88 (by decide) (fun h88 => ?_) (fun h88 => ?_)
        · skip
          refine Ev.iconst dX8_fitsBare_95 ?_
          refine Ev.icmp_ne (tgt := 103) ⟨by decide, by decide⟩ ⟨by decide, by decide⟩ dX8_fitsBare_96 (by decide) (fun h96 => ?_) (fun h96 => ?_)
          · skip
            refine Ev.iconst dX8_fitsBare_103 ?_
            exact Ev.zreturn dX8_fitsBare_104 rfl (Or.inl rfl) (rI ((bI_f (by unfold fSum; omega)).trans (bI_congr (fit_0 hk).symm)) rfl)
          · skip
            refine Ev.iconst dX8_fitsBare_99 ?_
            refine Ev.goto (tgt := 104) dX8_fitsBare_100 (by decide) ?_
            exact Ev.zreturn dX8_fitsBare_104 rfl (Or.inr rfl) (rI ((bI_t (by unfold fSum; omega)).trans (bI_congr (fit_0 hk).symm)) rfl)
        · skip
          refine Ev.iconst dX8_fitsBare_91 ?_
          refine Ev.goto (tgt := 96) dX8_fitsBare_92 (by decide) ?_
          refine Ev.icmp_ne (tgt := 103) ⟨by decide, by decide⟩ ⟨by decide, by decide⟩ dX8_fitsBare_96 (by decide) (fun h96 => ?_) (fun h96 => ?_)
          · skip
            refine Ev.iconst dX8_fitsBare_103 ?_
            exact Ev.zreturn dX8_fitsBare_104 rfl (Or.inl rfl) (rI ((bI_f (by unfold fSum; omega)).trans (bI_congr (fit_0 hk).symm)) rfl)
          · skip
            refine Ev.iconst dX8_fitsBare_99 ?_
            refine Ev.goto (tgt := 104) dX8_fitsBare_100 (by decide) ?_
            exact Ev.zreturn dX8_fitsBare_104 rfl (Or.inr rfl) (rI ((bI_t (by unfold fSum; omega)).trans (bI_congr (fit_0 hk).symm)) rfl)
      · skip
        refine Ev.iconst dX8_fitsBare_77 ?_
        refine Ev.goto (tgt := 82) dX8_fitsBare_78 (by decide) ?_
        refine Ev.aload_n dX8_fitsBare_82 rfl rfl ?_
        refine gf_X8_31 rfl dX8_fitsBare_83 ltc_272 shc_272 rfc_272_11 ?_
        refine Ev.iload_n dX8_fitsBare_86 rfl rfl ?_
        refine Ev.iaload (v := rB R) dX8_fitsBare_87 ltc_280 shc_280 (by decide) (by omega) (by omega) (ldx (by omega) hB) ?_
        refine Ev.if_ne (tgt := 95) ⟨by omega, by omega⟩ dX8_fitsBare_88 (by decide) (fun h88 => ?_) (fun h88 => ?_)
        · skip
          refine Ev.iconst dX8_fitsBare_95 ?_
          refine Ev.icmp_ne (tgt := 103) ⟨by decide, by decide⟩ ⟨by decide, by decide⟩ dX8_fitsBare_96 (by decide) (fun h96 => ?_) (fun h96 => ?_)
          · skip
            refine Ev.iconst dX8_fitsBare_103 ?_
            exact Ev.zreturn dX8_fitsBare_104 rfl (Or.inl rfl) (rI ((bI_f (by unfold fSum; omega)).trans (bI_congr (fit_0 hk).symm)) rfl)
          · skip
            refine Ev.iconst dX8_fitsBare_99 ?_
            refine Ev.goto (tgt := 104) dX8_fitsBare_100 (by decide) ?_
            exact Ev.zreturn dX8_fitsBare_104 rfl (Or.inr rfl) (rI ((bI_t (by unfold fSum; omega)).trans (bI_congr (fit_0 hk).symm)) rfl)
        · skip
          refine Ev.iconst dX8_fitsBare_91 ?_
          refine Ev.goto (tgt := 96) dX8_fitsBare_92 (by decide) ?_
          refine Ev.icmp_ne (tgt := 103) ⟨by decide, by decide⟩ ⟨by decide, by decide⟩ dX8_fitsBare_96 (by decide) (fun h96 => ?_) (fun h96 => ?_)
          · skip
            refine Ev.iconst dX8_fitsBare_103 ?_
            exact Ev.zreturn dX8_fitsBare_104 rfl (Or.inl rfl) (rI ((bI_f (by unfold fSum; omega)).trans (bI_congr (fit_0 hk).symm)) rfl)
          · skip
            refine Ev.iconst dX8_fitsBare_99 ?_
            refine Ev.goto (tgt := 104) dX8_fitsBare_100 (by decide) ?_
            exact Ev.zreturn dX8_fitsBare_104 rfl (Or.inr rfl) (rI ((bI_t (by unfold fSum; omega)).trans (bI_congr (fit_0 hk).symm)) rfl)
    · skip
      refine Ev.iconst dX8_fitsBare_49 ?_
      refine Ev.aload_n dX8_fitsBare_50 rfl rfl ?_
      refine gf_X8_31 rfl dX8_fitsBare_51 ltc_272 shc_272 rfc_272_11 ?_
      refine Ev.iload_n dX8_fitsBare_54 rfl rfl ?_
      refine Ev.iaload (v := rB R) dX8_fitsBare_55 ltc_280 shc_280 (by decide) (by omega) (by omega) (ldx (by omega) hB) ?_
      refine Ev.icmp_gt (tgt := 63) ⟨by decide, by decide⟩ ⟨by omega, by omega⟩ dX8_fitsBare_56 (by decide) (fun h56 => ?_) (fun h56 => ?_)
      · skip
        refine Ev.iconst dX8_fitsBare_63 ?_
        refine Ev.goto (tgt := 104) dX8_fitsBare_64 (by decide) ?_
        exact Ev.zreturn dX8_fitsBare_104 rfl (Or.inl rfl) (rI ((bI_f (by unfold fSum; omega)).trans (bI_congr (fit_0 hk).symm)) rfl)
      · skip
        refine Ev.iconst dX8_fitsBare_59 ?_
        refine Ev.goto (tgt := 104) dX8_fitsBare_60 (by decide) ?_
        exact Ev.zreturn dX8_fitsBare_104 rfl (Or.inr rfl) (rI ((bI_t (by unfold fSum; omega)).trans (bI_congr (fit_0 hk).symm)) rfl)
  · rw [show ((rK R : Nat) : Int) = 1 by omega]
    refine Ev.lookup (tgt := 107) dX8_fitsBare_6 ⟨by decide, by decide⟩ rfl rfl (by decide) ?_
    refine Ev.iconst dX8_fitsBare_107 ?_
    exact Ev.zreturn dX8_fitsBare_108 rfl (Or.inr rfl) (rI ((bI_t (fun j k _ hk2 => absurd hk2 (by omega))).trans (bI_congr (fit_1 hk).symm)) rfl)
  · rw [show ((rK R : Nat) : Int) = 2 by omega]
    refine Ev.lookup (tgt := 105) dX8_fitsBare_6 ⟨by decide, by decide⟩ rfl rfl (by decide) ?_
    refine Ev.iconst dX8_fitsBare_105 ?_
    exact Ev.zreturn dX8_fitsBare_106 rfl (Or.inl rfl) (rI ((bI_f (fTab_no hn0)).trans (bI_congr (fit_2 hk).symm)) rfl)
  · rw [show ((rK R : Nat) : Int) = 3 by omega]
    refine Ev.lookup (tgt := 107) dX8_fitsBare_6 ⟨by decide, by decide⟩ rfl rfl (by decide) ?_
    refine Ev.iconst dX8_fitsBare_107 ?_
    exact Ev.zreturn dX8_fitsBare_108 rfl (Or.inr rfl) (rI ((bI_t (fLoad_0 hn0 (hW.2.2.2.2.1 hk).1.1)).trans (bI_congr (fit_3 hk).symm)) rfl)
  · rw [show ((rK R : Nat) : Int) = 4 by omega]
    refine Ev.lookup (tgt := 107) dX8_fitsBare_6 ⟨by decide, by decide⟩ rfl rfl (by decide) ?_
    refine Ev.iconst dX8_fitsBare_107 ?_
    exact Ev.zreturn dX8_fitsBare_108 rfl (Or.inr rfl) (rI ((bI_t (Or.inl hn0)).trans (bI_congr (fit_4 hk).symm)) rfl)
  · rw [show ((rK R : Nat) : Int) = 5 by omega]
    refine Ev.lookup (tgt := 105) dX8_fitsBare_6 ⟨by decide, by decide⟩ rfl rfl (by decide) ?_
    refine Ev.iconst dX8_fitsBare_105 ?_
    exact Ev.zreturn dX8_fitsBare_106 rfl (Or.inl rfl) (rI ((bI_f (fCl_no hn0)).trans (bI_congr (fit_5 hk).symm)) rfl)

set_option maxRecDepth 100000 in
set_option maxHeartbeats 4000000 in
theorem sM_fits {g : GC} (σ : Sg) (r U : Nat) (R : RC) (A : An) (hr : r < 16) (hM : MR σ r R) (hW : WR U R) (hA : ∀ k, k < rN R → σ 297 (rO R k) = (A (rO R k) : Int) ∧ A (rO R k) < 16) (T : Tb) (hT : TVm σ T) : Ev g mX8_fits 0 [some (vR (272)), some (vI (((r : Nat) : Int)))] [] (M0 (σ)) 0 0 (retI (bI (fit T R A)) σ) := by
  obtain ⟨hK, hS, hB, hN, hP⟩ := id hM
  obtain ⟨⟨hk5, hn6, hU⟩, hO, -⟩ := id hW
  refine Ev.aload_n dX8_fits_0 rfl rfl ?_
  refine gf_X8_38 rfl dX8_fits_1 ltc_272 shc_272 rfc_272_13 ?_
  refine Ev.iload_n dX8_fits_4 rfl rfl ?_
  refine Ev.iaload (v := ((rN R : Nat) : Int)) dX8_fits_5 ltc_282 shc_282 (by decide) (by omega) (by omega) (ldx (by omega) hN) ?_
  refine Ev.if_ne (tgt := 15) ⟨by omega, by omega⟩ dX8_fits_6 (by decide) (fun h6 => ?_) (fun h6 => ?_)
  · skip
    refine Ev.aload_n dX8_fits_15 rfl rfl ?_
    refine gf_X8_25 rfl dX8_fits_16 ltc_272 shc_272 rfc_272_9 ?_
    refine Ev.iload_n dX8_fits_19 rfl rfl ?_
    refine Ev.iaload (v := ((rK R : Nat) : Int)) dX8_fits_20 ltc_278 shc_278 (by decide) (by omega) (by omega) (ldx (by omega) hK) ?_
    have hcs : rK R = 0 ∨ rK R = 1 ∨ rK R = 2 ∨ rK R = 3 ∨ rK R = 4 ∨ rK R = 5 := by omega
    rcases hcs with hk | hk | hk | hk | hk | hk
    · rw [show ((rK R : Nat) : Int) = 0 by omega]
      refine Ev.tableIn (tgt := 56) dX8_fits_21 ⟨by decide, by decide⟩ (by decide) (by decide) rfl (by decide) ?_
      refine Ev.aload_n dX8_fits_56 rfl rfl ?_
      refine Ev.iload_n dX8_fits_57 rfl rfl ?_
      refine Ev.callV_I (M2 := mX8_fitsSum) (args2 := [vI (((r : Nat) : Int))]) (rcv := 272) (q := (RX8, TX8, 34)) (ci := 8) dX8_fits_58 okX8_fitsSum lk_X8_227 ovX8_fitsSum.1.1 ovX8_fitsSum.1.2 ovX8_fitsSum.2 (by decide) rfl rfl ltc_272 shc_272 rfl (Nat.le_of_ble_eq_true rfl) (Nat.le_of_ble_eq_true rfl) (sM_fitsSum σ r U R A hr hM hW hA hk) ?_ rfl
      exact Ev.zreturn dX8_fits_61 rfl bI_or (rI (bI_congr (fit_0 hk).symm) rfl)
    · rw [show ((rK R : Nat) : Int) = 1 by omega]
      refine Ev.tableIn (tgt := 62) dX8_fits_21 ⟨by decide, by decide⟩ (by decide) (by decide) rfl (by decide) ?_
      refine Ev.aload_n dX8_fits_62 rfl rfl ?_
      refine Ev.iload_n dX8_fits_63 rfl rfl ?_
      refine Ev.callV_I (M2 := mX8_fitsUnlike) (args2 := [vI (((r : Nat) : Int))]) (rcv := 272) (q := (RX8, TX8, 34)) (ci := 8) dX8_fits_64 okX8_fitsUnlike lk_X8_230 ovX8_fitsUnlike.1.1 ovX8_fitsUnlike.1.2 ovX8_fitsUnlike.2 (by decide) rfl rfl ltc_272 shc_272 rfl (Nat.le_of_ble_eq_true rfl) (Nat.le_of_ble_eq_true rfl) (sM_fitsUnlike σ r U R A hr hM hW hA) ?_ rfl
      exact Ev.zreturn dX8_fits_67 rfl bI_or (rI (bI_congr (fit_1 hk).symm) rfl)
    · rw [show ((rK R : Nat) : Int) = 2 by omega]
      refine Ev.tableIn (tgt := 68) dX8_fits_21 ⟨by decide, by decide⟩ (by decide) (by decide) rfl (by decide) ?_
      refine Ev.aload_n dX8_fits_68 rfl rfl ?_
      refine Ev.iload_n dX8_fits_69 rfl rfl ?_
      refine Ev.callV_I (M2 := mX8_fitsTable) (args2 := [vI (((r : Nat) : Int))]) (rcv := 272) (q := (RX8, TX8, 34)) (ci := 8) dX8_fits_70 okX8_fitsTable lk_X8_233 ovX8_fitsTable.1.1 ovX8_fitsTable.1.2 ovX8_fitsTable.2 (by decide) rfl rfl ltc_272 shc_272 rfl (Nat.le_of_ble_eq_true rfl) (Nat.le_of_ble_eq_true rfl) (sM_fitsTable σ r U R A hr hM hW hA T hT hk (by omega) (rS R).toNat (by have := hW.2.2.2.1 hk; omega) (by have := hW.2.2.2.1 hk; omega)) ?_ rfl
      exact Ev.zreturn dX8_fits_73 rfl bI_or (rI (bI_congr (fit_2 hk).symm) rfl)
    · rw [show ((rK R : Nat) : Int) = 3 by omega]
      refine Ev.tableIn (tgt := 74) dX8_fits_21 ⟨by decide, by decide⟩ (by decide) (by decide) rfl (by decide) ?_
      refine Ev.aload_n dX8_fits_74 rfl rfl ?_
      refine Ev.iload_n dX8_fits_75 rfl rfl ?_
      refine Ev.callV_I (M2 := mX8_fitsLoad) (args2 := [vI (((r : Nat) : Int))]) (rcv := 272) (q := (RX8, TX8, 34)) (ci := 8) dX8_fits_76 okX8_fitsLoad lk_X8_236 ovX8_fitsLoad.1.1 ovX8_fitsLoad.1.2 ovX8_fitsLoad.2 (by decide) rfl rfl ltc_272 shc_272 rfl (Nat.le_of_ble_eq_true rfl) (Nat.le_of_ble_eq_true rfl) (sM_fitsLoad σ r U R A hr hM hW hA hk) ?_ rfl
      exact Ev.zreturn dX8_fits_79 rfl bI_or (rI (bI_congr (fit_3 hk).symm) rfl)
    · rw [show ((rK R : Nat) : Int) = 4 by omega]
      refine Ev.tableIn (tgt := 80) dX8_fits_21 ⟨by decide, by decide⟩ (by decide) (by decide) rfl (by decide) ?_
      refine Ev.aload_n dX8_fits_80 rfl rfl ?_
      refine Ev.iload_n dX8_fits_81 rfl rfl ?_
      refine Ev.callV_I (M2 := mX8_fitsRing) (args2 := [vI (((r : Nat) : Int))]) (rcv := 272) (q := (RX8, TX8, 34)) (ci := 8) dX8_fits_82 okX8_fitsRing lk_X8_239 ovX8_fitsRing.1.1 ovX8_fitsRing.1.2 ovX8_fitsRing.2 (by decide) rfl rfl ltc_272 shc_272 rfl (Nat.le_of_ble_eq_true rfl) (Nat.le_of_ble_eq_true rfl) (sM_fitsRing σ r U R A hr hM hW hA (by omega)) ?_ rfl
      exact Ev.zreturn dX8_fits_85 rfl bI_or (rI (bI_congr (fit_4 hk).symm) rfl)
    · rw [show ((rK R : Nat) : Int) = 5 by omega]
      refine Ev.tableOut (tgt := 86) dX8_fits_21 ⟨by decide, by decide⟩ (by decide) (by decide) ?_
      refine Ev.aload_n dX8_fits_86 rfl rfl ?_
      refine Ev.iload_n dX8_fits_87 rfl rfl ?_
      refine Ev.callV_I (M2 := mX8_fitsClause) (args2 := [vI (((r : Nat) : Int))]) (rcv := 272) (q := (RX8, TX8, 34)) (ci := 8) dX8_fits_88 okX8_fitsClause lk_X8_242 ovX8_fitsClause.1.1 ovX8_fitsClause.1.2 ovX8_fitsClause.2 (by decide) rfl rfl ltc_272 shc_272 rfl (Nat.le_of_ble_eq_true rfl) (Nat.le_of_ble_eq_true rfl) (sM_fitsClause σ r U R A hr hM hW hA hk) ?_ rfl
      exact Ev.zreturn dX8_fits_91 rfl bI_or (rI (bI_congr (fit_5 hk).symm) rfl)
  · skip
    refine Ev.aload_n dX8_fits_9 rfl rfl ?_
    refine Ev.iload_n dX8_fits_10 rfl rfl ?_
    refine Ev.callV_I (M2 := mX8_fitsBare) (args2 := [vI (((r : Nat) : Int))]) (rcv := 272) (q := (RX8, TX8, 34)) (ci := 8) dX8_fits_11 okX8_fitsBare lk_X8_201 ovX8_fitsBare.1.1 ovX8_fitsBare.1.2 ovX8_fitsBare.2 (by decide) rfl rfl ltc_272 shc_272 rfl (Nat.le_of_ble_eq_true rfl) (Nat.le_of_ble_eq_true rfl) (sM_fitsBare σ r U R A hr hM hW T (by omega)) ?_ rfl
    exact Ev.zreturn dX8_fits_14 rfl bI_or (rI rfl rfl)

