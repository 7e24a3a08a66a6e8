/-! THE REFERENCE: narrowing to its end -/
/-- cells other than the ranges aside and the word 'dead' are as before -/
def SameM (σ τ : Sg) : Prop := ∀ c i, c ≠ 294 → (c = 272 → i ≠ 31) → τ c i = σ c i
theorem SameM.rf {σ : Sg} : SameM σ σ := fun _ _ _ _ => rfl
theorem SameM.tr {σ τ ρ : Sg} (h : SameM σ τ) (h2 : SameM τ ρ) : SameM σ ρ := fun c i hc hi => (h2 c i hc hi).trans (h c i hc hi)
theorem SameM.up {σ τ : Sg} {i : Nat} {v : Int} (h : SameM σ τ) : SameM σ (upC τ 294 i v) := fun c j hc hj => by
  rw [upC_ne hc]; exact h c j hc hj
theorem SameM.upd {σ τ : Sg} {v : Int} (h : SameM σ τ) : SameM σ (upC τ 272 31 v) := fun c j hc hj => by
  by_cases e : c = 272
  · subst e; rw [upC_self (hj rfl)]; exact h 272 j hc hj
  · rw [upC_ne e]; exact h c j hc hj
theorem MR.cg {σ τ : Sg} {r : Nat} {R : RC} (h : MR σ r R) (hs : ∀ c i, 278 ≤ c → c ≤ 285 → τ c i = σ c i) : MR τ r R := by
  obtain ⟨h1, h2, h3, h4, h5⟩ := h
  refine ⟨by rw [hs 278 _ (by decide) (by decide)]; exact h1, by rw [hs 279 _ (by decide) (by decide)]; exact h2, by rw [hs 280 _ (by decide) (by decide)]; exact h3, by rw [hs 282 _ (by decide) (by decide)]; exact h4, fun k hk => ?_⟩
  rw [hs 283 _ (by decide) (by decide), hs 284 _ (by decide) (by decide), hs 285 _ (by decide) (by decide)]
  exact h5 k hk
theorem TVm.cg {σ τ : Sg} {T : Tb} (h : TVm σ T) (hs : ∀ c i, 286 ≤ c → c ≤ 287 → τ c i = σ c i) : TVm τ T := fun t ht => by
  obtain ⟨h1, h2, h3⟩ := h t ht
  refine ⟨by rw [hs 286 _ (by decide) (by decide)]; exact h1, h2, fun j hj => ?_⟩
  rw [hs 287 _ (by decide) (by decide)]
  exact h3 j hj
theorem SameM.mr {σ τ : Sg} {r : Nat} {R : RC} (h : SameM σ τ) (hm : MR σ r R) : MR τ r R := hm.cg fun c i h1 h2 => h c i (by omega) (by omega)
theorem SameM.tv {σ τ : Sg} {T : Tb} (h : SameM σ τ) (hm : TVm σ T) : TVm τ T := hm.cg fun c i h1 h2 => h c i (by omega) (by omega)
/-- the ranges aside, as numbers -/
def AW (σ : Sg) (U : Nat) (X : Rg) : Prop := ∀ x, x < U → σ 294 x = (X x : Int) ∧ X x < 65536
theorem AW.av {σ : Sg} {U : Nat} {X : Rg} (h : AW σ U X) (h2 : NEm U X) : AV σ 294 U X := fun x hx => ⟨(h x hx).1, h2 x hx⟩
theorem AW.up {τ : Sg} {U x l : Nat} {Y : Rg} {j v : Int} (hj : j = (x : Int)) (hv : v = (l : Int)) (hl : l < 65536) (h : AW τ U Y) : AW (upC τ 294 j.toNat v) U (upY Y x l) := fun y hy => by
  subst hj; subst hv
  rw [show ((x : Nat) : Int).toNat = x from rfl]
  by_cases e : y = x
  · subst e
    rw [upC_at, upY_at]
    exact ⟨rfl, hl⟩
  · rw [upC_self e, upY_ne e]
    exact h y hy
theorem AW.upd {τ : Sg} {U : Nat} {X : Rg} {v : Int} (h : AW τ U X) : AW (upC τ 272 31 v) U X := fun y hy => by rw [upC_ne (by decide)]; exact h y hy
theorem upY_self {Y : Rg} {x v : Nat} (h : v = Y x) : upY Y x v = Y := by
  funext y
  unfold upY
  split
  · rename_i e; rw [h, e]
  · rfl
/-- a pass over the rules: what holds at rule r, part i; mm: something went -/
def PI (U : Nat) (T : Tb) (S : Sy) (Xr X : Rg) (mm : Bool) (r i : Nat) : Prop := SubU U X Xr ∧ (mm = true → totP U X + 1 ≤ totP U Xr) ∧ (mm = false → X = Xr ∧ (∀ q, q < r → S.2.2 q → StabR T (S.2.1 q) X) ∧ ∀ k, k < i → lft T (S.2.1 r) X k = X (rO (S.2.1 r) k))
def GS (U : Nat) (T : Tb) (S : Sy) (X0 Xr X : Rg) (mm dd : Bool) (r i : Nat) : Prop := (dd = true → ¬ Alive U T S X0) ∧ (dd = false → Mid U T S X0 X ∧ PI U T S Xr X mm r i)
theorem GS.start {U : Nat} {T : Tb} {S : Sy} {X0 X : Rg} (h : Mid U T S X0 X) : GS U T S X0 X X false false 0 0 := ⟨fun z => absurd z (by decide), fun _ => ⟨h, fun _ _ => sub_rf _, fun z => absurd z (by decide), fun _ => ⟨rfl, fun _ hq => absurd hq (by omega), fun _ hk => absurd hk (by omega)⟩⟩⟩
theorem GS.isdead {U : Nat} {T : Tb} {S : Sy} {X0 Xr X Xr' X' : Rg} {mm mm' dd : Bool} {r i r' i' : Nat} (h : GS U T S X0 Xr X mm dd r i) (hd : dd = true) : GS U T S X0 Xr' X' mm' dd r' i' := ⟨h.1, fun z => by rw [hd] at z; cases z⟩
theorem GS.die {U : Nat} {T : Tb} {S : Sy} {X0 Xr X Xr' X' : Rg} {mm mm' : Bool} {r i r' i' : Nat} (hS : SyOk U S) (hr : r < S.1) (hon : S.2.2 r) (hi : i < rN (S.2.1 r)) (h : GS U T S X0 Xr X mm false r i) (h0 : lft T (S.2.1 r) X i = 0) : GS U T S X0 Xr' X' mm' true r' i' := ⟨fun _ => Cut.gone hS hr hon (h.2 rfl).1 hi h0, fun z => absurd z (by decide)⟩
theorem GS.stepT {U : Nat} {T : Tb} {S : Sy} {X0 Xr X : Rg} {mm : Bool} {r i : Nat} (hS : SyOk U S) (hr : r < S.1) (hon : S.2.2 r) (hi : i < rN (S.2.1 r)) (h : GS U T S X0 Xr X mm false r i) (h0 : lft T (S.2.1 r) X i ≠ 0) (hm : mm = true ∨ lft T (S.2.1 r) X i ≠ X (rO (S.2.1 r) i)) : GS U T S X0 Xr (upY X (rO (S.2.1 r) i) (lft T (S.2.1 r) X i)) true false r (i + 1) := by
  obtain ⟨hM, h1, h2, h3⟩ := h.2 rfl
  have hx := (hS r hr hon).2.1 i hi
  have hs : SubU U (upY X (rO (S.2.1 r) i) (lft T (S.2.1 r) X i)) X := fun y hy => by
    by_cases e : y = rO (S.2.1 r) i
    · rw [e, upY_at]; exact lft_sub
    · rw [upY_ne e]; exact sub_rf _
  refine ⟨fun z => absurd z (by decide), fun _ => ⟨?_, fun y hy => (hs y hy).tr (h1 y hy), fun _ => ?_, fun z => absurd z (by decide)⟩⟩
  · exact hM.cut (x := rO (S.2.1 r) i) (fun y _ hne => upY_ne hne) (by rw [upY_at]; exact h0) (by rw [upY_at]; exact lft_sub) (fun Z hZ => by rw [upY_at]; exact cand_lft hS hr hon hi hM hZ)
  · rcases hm with hm | hm
    · have := h2 hm
      have := totP_le hs
      omega
    · have := totP_lt hx hs (hM.1 _ hx).2 (by rw [upY_at]; exact hm)
      have := totP_le h1
      omega
theorem GS.stepF {U : Nat} {T : Tb} {S : Sy} {X0 Xr X : Rg} {r i : Nat} (h : GS U T S X0 Xr X false false r i) (hm : lft T (S.2.1 r) X i = X (rO (S.2.1 r) i)) : GS U T S X0 Xr (upY X (rO (S.2.1 r) i) (lft T (S.2.1 r) X i)) false false r (i + 1) := by
  rw [upY_self hm]
  obtain ⟨hM, h1, h2, h3⟩ := h.2 rfl
  refine ⟨fun z => absurd z (by decide), fun _ => ⟨hM, h1, h2, fun z => ?_⟩⟩
  obtain ⟨e1, e2, e3⟩ := h3 z
  refine ⟨e1, e2, fun k hk => ?_⟩
  rcases Nat.lt_or_ge k i with h4 | h4
  · exact e3 k h4
  · rw [show k = i by omega]; exact hm
theorem GS.rule {U : Nat} {T : Tb} {S : Sy} {X0 Xr X : Rg} {mm dd : Bool} {r i : Nat} (hS : SyOk U S) (hr : r < S.1) (h : GS U T S X0 Xr X mm dd r i) (hi : S.2.2 r → rN (S.2.1 r) ≤ i) : GS U T S X0 Xr X mm dd (r + 1) 0 := by
  refine ⟨h.1, fun z => ?_⟩
  obtain ⟨hM, h1, h2, h3⟩ := h.2 z
  refine ⟨hM, h1, h2, fun z2 => ?_⟩
  obtain ⟨e1, e2, e3⟩ := h3 z2
  refine ⟨e1, fun q hq hon => ?_, fun k hk => absurd hk (by omega)⟩
  rcases Nat.lt_or_ge q r with h4 | h4
  · exact e2 q h4 hon
  · have e : q = r := by omega
    subst e
    have hW := hS q hr hon
    exact stab_lft (fun k hk => (hM.1 _ (hW.2.1 k hk)).2) fun k hk => e3 k (by have := hi hon; omega)
theorem GS.nar {U : Nat} {T : Tb} {S : Sy} {X0 Xr X : Rg} {r i : Nat} (h : GS U T S X0 Xr X false false r i) (hr : ∀ q, q < S.1 → S.2.2 q → q < r) : NarOk U T S X0 X := by
  obtain ⟨hM, h1, h2, h3⟩ := h.2 rfl
  exact ⟨hM, fun q hq hon k hk v hv => (h3 rfl).2.1 q (hr q hq hon) hon k hk v hv⟩
/-- at the head of a pass; mm: the last one took something -/
def GW (U : Nat) (T : Tb) (S : Sy) (X0 X : Rg) (mm dd : Bool) (q : Nat) : Prop := (dd = true → ¬ Alive U T S X0) ∧ (dd = false → Mid U T S X0 X ∧ (mm = true → totP U X + q ≤ 160) ∧ (mm = false → NarOk U T S X0 X))
theorem GW.nxt {U : Nat} {T : Tb} {S : Sy} {X0 Xr X : Rg} {mm dd : Bool} {r i q : Nat} (h : GS U T S X0 Xr X mm dd r i) (hr : dd = false → ∀ q, q < S.1 → S.2.2 q → q < r) (ht : totP U Xr + q ≤ 160) : GW U T S X0 X mm dd (q + 1) := by
  refine ⟨h.1, fun z => ?_⟩
  subst z
  obtain ⟨hM, h1, h2, h3⟩ := h.2 rfl
  refine ⟨hM, fun z => by have := h2 z; omega, fun z => ?_⟩
  subst z
  exact h.nar (hr rfl)
def NarP (σ : Sg) (U : Nat) (T : Tb) (S : Sy) (X0 : Rg) (τ : Sg) : Prop := SameM σ τ ∧ τ 272 31 = bI (¬ Alive U T S X0) ∧ (Alive U T S X0 → AV τ 294 U (narX U T S X0)) ∧ ∃ Y, AW τ U Y
theorem GW.end {σ τ : Sg} {U : Nat} {T : Tb} {S : Sy} {X0 X : Rg} {mm dd : Bool} {q : Nat} (hF : SameM σ τ) (hX : AW τ U X) (hd : τ 272 31 = (b2 dd : Int)) (hb : dd = false → Bare T S) (h : GW U T S X0 X mm dd q) (hq : dd = false → mm = false ∨ 161 ≤ q) : NarP σ U T S X0 τ := by
  cases dd
  · have hN : NarOk U T S X0 X := by
      obtain ⟨hM, h1, h2⟩ := h.2 rfl
      cases mm
      · exact h2 rfl
      · have := h1 rfl
        rcases hq rfl with z | z
        · cases z
        · omega
    have hA : Alive U T S X0 := ⟨hb rfl, X, hN⟩
    exact ⟨hF, hd.trans (bI_f fun z => z hA), fun _ x hx => by rw [narX_eq hN x hx]; exact (hX.av hN.1.1) x hx, X, hX⟩
  · have hA := h.1 rfl
    exact ⟨hF, hd.trans (bI_t hA), fun z => absurd z hA, X, hX⟩
/-- what makes it dead at once: an empty range, a rule without parts that none fits -/
def DD (U : Nat) (T : Tb) (S : Sy) (X0 : Rg) (r : Nat) : Prop := (∃ x, x < U ∧ X0 x = 0) ∨ ∃ q, q < r ∧ S.2.2 q ∧ rN (S.2.1 q) = 0 ∧ ¬ fit T (S.2.1 q) (fun _ => 0)
theorem DD.y {U : Nat} {T : Tb} {S : Sy} {X0 : Rg} {r : Nat} (h : DD U T S X0 r) : DD U T S X0 (r + 1) := by
  rcases h with h | ⟨q, h1, h2⟩
  · exact Or.inl h
  · exact Or.inr ⟨q, by omega, h2⟩
theorem DD.n {U : Nat} {T : Tb} {S : Sy} {X0 : Rg} {r : Nat} (h : ¬ DD U T S X0 r) (h2 : ¬ (S.2.2 r ∧ rN (S.2.1 r) = 0 ∧ ¬ fit T (S.2.1 r) (fun _ => 0))) : ¬ DD U T S X0 (r + 1) := by
  rintro (z | ⟨q, z1, z2⟩)
  · exact h (Or.inl z)
  · rcases Nat.lt_or_ge q r with h3 | h3
    · exact h (Or.inr ⟨q, h3, z2⟩)
    · have e : q = r := by omega
      subst e
      exact h2 z2
theorem DD.dead {U : Nat} {T : Tb} {S : Sy} {X0 : Rg} {r : Nat} (hr : r ≤ S.1) (h : DD U T S X0 r) : ¬ Alive U T S X0 := by
  rcases h with ⟨x, h1, h2⟩ | ⟨q, h1, h2, h3, h4⟩
  · exact dead_not (dead_em h1 h2)
  · exact fun z => h4 (z.1 q (by omega) h2 h3)
theorem DD.go {U : Nat} {T : Tb} {S : Sy} {X0 : Rg} {r : Nat} (hX : ∀ x, x < U → X0 x < 65536) (h : ¬ DD U T S X0 r) : NEm U X0 ∧ ∀ q, q < r → S.2.2 q → rN (S.2.1 q) = 0 → fit T (S.2.1 q) (fun _ => 0) := by
  refine ⟨fun x hx => ⟨fun z => h (Or.inl ⟨x, hx, z⟩), hX x hx⟩, fun q h1 h2 h3 => Classical.byContradiction fun n => h (Or.inr ⟨q, h1, h2, h3, n⟩)⟩
theorem bit_cap {w r n : Nat} (h : w < 2 ^ n) (hb : w.testBit r = true) : r < n := by
  rcases Nat.lt_or_ge r n with h1 | h1
  · exact h1
  · rw [Nat.testBit_lt_two_pow (Nat.lt_of_lt_of_le h (Nat.pow_le_pow_right (by decide) h1))] at hb; cases hb
theorem bI_b2 {p : Prop} : ∃ d : Bool, bI p = (b2 d : Int) ∧ (d = true ↔ p) := by
  rcases Classical.em p with h | h
  · exact ⟨true, bI_T h, by simp [h]⟩
  · exact ⟨false, bI_F h, by simp [h]⟩
set_option maxRecDepth 100000 in
set_option maxHeartbeats 4000000 in
theorem sM_hasNone_l {g : GC} (σ : Sg) (U : Nat) (hU : U ≤ 10) (h1 : σ 272 1 = (U : Int)) (X : Rg) (hX : AW σ U X) : ∀ j i : Nat, i + j = U → (∀ x, x < i → X x ≠ 0) → Ev g mX8_hasNone 2 [some (vR (272)), some (vI (((i : Nat) : Int)))] [] (M0 (σ)) 0 0 (retI (bI (∃ x, x < U ∧ X x = 0)) σ) := by
  intro j
  induction j with
  | zero =>
    intro i hij hno
    refine Ev.iload_n dX8_hasNone_2 rfl rfl ?_
    refine Ev.aload_n dX8_hasNone_3 rfl rfl ?_
    refine gf_X8_93 (x := ((U : Nat) : Int)) rfl dX8_hasNone_4 ltc_272 shc_272 h1 ?_
    refine Ev.icmp_ge (tgt := 27) ⟨by omega, by omega⟩ ⟨by omega, by omega⟩ dX8_hasNone_7 (by decide) (fun h7 => ?_) (fun h7 => ?_)
    · skip
      refine Ev.iconst dX8_hasNone_27 ?_
      exact Ev.zreturn dX8_hasNone_28 rfl (Or.inl rfl) (rI (bI_f (fun ⟨x, z1, z2⟩ => hno x (by omega) z2)) rfl)
    · exact absurd h7 (by omega)
  | succ j ih =>
    intro i hij hno
    have hx16 := (hX i (by omega)).2
    refine Ev.iload_n dX8_hasNone_2 rfl rfl ?_
    refine Ev.aload_n dX8_hasNone_3 rfl rfl ?_
    refine gf_X8_93 (x := ((U : Nat) : Int)) rfl dX8_hasNone_4 ltc_272 shc_272 h1 ?_
    refine Ev.icmp_ge (tgt := 27) ⟨by omega, by omega⟩ ⟨by omega, by omega⟩ dX8_hasNone_7 (by decide) (fun h7 => ?_) (fun h7 => ?_)
    · exact absurd h7 (by omega)
    · skip
      refine Ev.aload_n dX8_hasNone_10 rfl rfl ?_
      refine gf_X8_78 rfl dX8_hasNone_11 ltc_272 shc_272 rfc_272_29 ?_
      refine Ev.iload_n dX8_hasNone_14 rfl rfl ?_
      refine Ev.iaload (v := ((X i : Nat) : Int)) dX8_hasNone_15 ltc_294 shc_294 (by decide) (by omega) (by omega) (ldx rfl (hX i (by omega)).1) ?_
      refine Ev.if_ne (tgt := 21) ⟨by omega, by omega⟩ dX8_hasNone_16 (by decide) (fun h16 => ?_) (fun h16 => ?_)
      · skip
        refine Ev.iinc (pl' := [some (vR (272)), some (vI (((i : Nat) : Int) + 1))]) dX8_hasNone_21 rfl (Nat.le_of_ble_eq_true rfl) rfl ?_
        refine Ev.goto (tgt := 2) dX8_hasNone_24 (by decide) ?_
        refine Ev.wk (pl' := [some (vR (272)), some (vI ((((i + 1) : Nat) : Int)))]) ⟨rfl, ⟨vIe (by omega), trivial⟩⟩ ?_
        exact ih (i + 1) (by omega) (fun x hx => (Nat.lt_or_ge x i).elim (hno x) (fun e => by rw [show x = i by omega]; omega))
      · skip
        refine Ev.iconst dX8_hasNone_19 ?_
        exact Ev.zreturn dX8_hasNone_20 rfl (Or.inr rfl) (rI (bI_t ⟨i, by omega, by omega⟩) rfl)

set_option maxRecDepth 100000 in
set_option maxHeartbeats 4000000 in
theorem sM_hasNone {g : GC} (σ : Sg) (U : Nat) (hU : U ≤ 10) (h1 : σ 272 1 = (U : Int)) (X : Rg) (hX : AW σ U X) : Ev g mX8_hasNone 0 [some (vR (272)), none] [] (M0 (σ)) 0 0 (retI (bI (∃ x, x < U ∧ X x = 0)) σ) := by
  refine Ev.iconst dX8_hasNone_0 ?_
  refine Ev.istore_n (pl' := [some (vR (272)), some (vI (0))]) dX8_hasNone_1 rfl (Nat.le_of_ble_eq_true rfl) rfl ?_
  refine Ev.wk (pl' := [some (vR (272)), some (vI (((0 : Nat) : Int)))]) ⟨rfl, ⟨vIe rfl, trivial⟩⟩ ?_
  exact sM_hasNone_l σ U hU h1 X hX U 0 (by omega) (fun x hx => absurd hx (by omega))

set_option maxRecDepth 100000 in
set_option maxHeartbeats 4000000 in
theorem sM_nar0 {g : GC} (σ : Sg) (U : Nat) (hU : U ≤ 10) (h1 : σ 272 1 = (U : Int)) (n : Nat) (hn : n ≤ 16) (h8 : σ 272 8 = (n : Int)) (T : Tb) (hT : TVm σ T) (Rf : Nat → RC) (w : Nat) (hw : w < 2 ^ n) (hR : ∀ r, r < n → MR σ r (Rf r) ∧ WR U (Rf r)) (hon : ∀ r, r < n → σ 281 r = (b2 (w.testBit r) : Int)) (X0 : Rg) {Post : Option PV → Mem → Prop} : ∀ j r : Nat, r + j = n → ∀ (τ : Sg) (dd : Bool), SameM σ τ → AW τ U X0 → τ 272 31 = (b2 dd : Int) → (dd = true ↔ DD U T (16, Rf, fun r => w.testBit r = true) X0 r) → (∀ (τ : Sg) (dd : Bool), SameM σ τ → AW τ U X0 → τ 272 31 = (b2 dd : Int) → (dd = true ↔ DD U T (16, Rf, fun r => w.testBit r = true) X0 n) → Ev g mX8_narrowAside 66 [some (vR (272)), none, none, none, none, none] [] (M0 (τ)) 0 0 Post) → Ev g mX8_narrowAside 10 [some (vR (272)), some (vI (((r : Nat) : Int))), none, none, none, none] [] (M0 (τ)) 0 0 (Post) := by
  intro j
  induction j with
  | zero =>
    intro r hij τ dd hF hX hd hdd kk
    have h1t : τ 272 1 = (U : Int) := (hF 272 1 (by decide) (by decide)).trans h1
    have h8t : τ 272 8 = (n : Int) := (hF 272 8 (by decide) (by decide)).trans h8
    have hTt := hF.tv hT
    refine Ev.iload_n dX8_narrowAside_10 rfl rfl ?_
    refine Ev.aload_n dX8_narrowAside_11 rfl rfl ?_
    refine gf_X8_100 (x := ((n : Nat) : Int)) rfl dX8_narrowAside_12 ltc_272 shc_272 h8t ?_
    refine Ev.icmp_ge (tgt := 66) ⟨by omega, by omega⟩ ⟨by omega, by omega⟩ dX8_narrowAside_15 (by decide) (fun h15 => ?_) (fun h15 => ?_)
    · skip
      refine Ev.wk (pl' := [some (vR (272)), none, none, none, none, none]) ⟨rfl, trivial⟩ ?_
      exact kk τ dd hF hX hd (by rw [← show r = n by omega]; exact hdd)
    · exact absurd h15 (by omega)
  | succ j ih =>
    intro r hij τ dd hF hX hd hdd kk
    have h1t : τ 272 1 = (U : Int) := (hF 272 1 (by decide) (by decide)).trans h1
    have h8t : τ 272 8 = (n : Int) := (hF 272 8 (by decide) (by decide)).trans h8
    have hTt := hF.tv hT
    have hMr := hF.mr (hR r (by omega)).1
    have hWr := (hR r (by omega)).2
    have hn6 := hWr.1.2.1
    refine Ev.iload_n dX8_narrowAside_10 rfl rfl ?_
    refine Ev.aload_n dX8_narrowAside_11 rfl rfl ?_
    refine gf_X8_100 (x := ((n : Nat) : Int)) rfl dX8_narrowAside_12 ltc_272 shc_272 h8t ?_
    refine Ev.icmp_ge (tgt := 66) ⟨by omega, by omega⟩ ⟨by omega, by omega⟩ dX8_narrowAside_15 (by decide) (fun h15 => ?_) (fun h15 => ?_)
    · exact absurd h15 (by omega)
    · skip
      refine Ev.aload_n dX8_narrowAside_18 rfl rfl ?_
      refine Ev.aload_n dX8_narrowAside_19 rfl rfl ?_
      refine gf_X8_197 (x := ((b2 dd : Nat) : Int)) rfl dX8_narrowAside_20 ltc_272 shc_272 hd ?_
      refine Ev.if_ne (tgt := 52) b2_inR dX8_narrowAside_23 (by decide) (fun h23 => ?_) (fun h23 => ?_)
      · skip
        refine Ev.iconst dX8_narrowAside_52 ?_
        refine Ev.goto (tgt := 57) dX8_narrowAside_53 (by decide) ?_
        refine pf_X8_197 rfl dX8_narrowAside_57 ltc_272 shc_272 (by omega) ?_
        refine Ev.iinc (pl' := [some (vR (272)), some (vI (((r : Nat) : Int) + 1)), none, none, none, none]) dX8_narrowAside_60 rfl (Nat.le_of_ble_eq_true rfl) rfl ?_
        refine Ev.goto (tgt := 10) dX8_narrowAside_63 (by decide) ?_
        refine Ev.wk (pl' := [some (vR (272)), some (vI ((((r + 1) : Nat) : Int))), none, none, none, none]) ⟨rfl, ⟨vIe (by omega), trivial⟩⟩ ?_
        exact ih (r + 1) (by omega) (upC (τ) 272 31 (1)) true hF.upd hX.upd upC_at ⟨fun _ => by first | exact DD.y (hdd.mp (b2_ne.mp (by assumption))) | exact Or.inr ⟨r, by omega, b2_ne.mp (by assumption), by show rN (Rf r) = 0; omega, bI_0.mp (by assumption)⟩, fun _ => rfl⟩ kk
      · skip
        refine Ev.aload_n dX8_narrowAside_26 rfl rfl ?_
        refine gf_X8_34 rfl dX8_narrowAside_27 ltc_272 shc_272 rfc_272_12 ?_
        refine Ev.iload_n dX8_narrowAside_30 rfl rfl ?_
        refine Ev.zaload (v := ((b2 (Nat.testBit w r) : Nat) : Int)) dX8_narrowAside_31 ltc_281 shc_281 (by decide) (by omega) (by omega) (ldx rfl ((hF 281 r (by decide) (fun z => absurd z (by decide))).trans (hon r (by omega)))) ?_
        refine Ev.if_eq (tgt := 56) b2_inR dX8_narrowAside_32 (by decide) (fun h32 => ?_) (fun h32 => ?_)
        · skip
          refine Ev.iconst dX8_narrowAside_56 ?_
          refine pf_X8_197 rfl dX8_narrowAside_57 ltc_272 shc_272 (by omega) ?_
          refine Ev.iinc (pl' := [some (vR (272)), some (vI (((r : Nat) : Int) + 1)), none, none, none, none]) dX8_narrowAside_60 rfl (Nat.le_of_ble_eq_true rfl) rfl ?_
          refine Ev.goto (tgt := 10) dX8_narrowAside_63 (by decide) ?_
          refine Ev.wk (pl' := [some (vR (272)), some (vI ((((r + 1) : Nat) : Int))), none, none, none, none]) ⟨rfl, ⟨vIe (by omega), trivial⟩⟩ ?_
          exact ih (r + 1) (by omega) (upC (τ) 272 31 (0)) false hF.upd hX.upd upC_at ⟨fun z => absurd z (by decide), fun z => absurd z (DD.n (fun q => absurd (hdd.mpr q) (by rw [b2_0.mp h23]; decide)) (fun ⟨z1, z2, z3⟩ => by first | exact absurd (show Nat.testBit w r = true from z1) (by rw [b2_0.mp h32]; decide) | exact absurd (show rN (Rf r) = 0 from z2) (by omega) | exact z3 (bI_1.mp h49)))⟩ kk
        · skip
          refine Ev.aload_n dX8_narrowAside_35 rfl rfl ?_
          refine gf_X8_38 rfl dX8_narrowAside_36 ltc_272 shc_272 rfc_272_13 ?_
          refine Ev.iload_n dX8_narrowAside_39 rfl rfl ?_
          refine Ev.iaload (v := ((rN (Rf r) : Nat) : Int)) dX8_narrowAside_40 ltc_282 shc_282 (by decide) (by omega) (by omega) (ldx rfl hMr.2.2.2.1) ?_
          refine Ev.if_ne (tgt := 56) ⟨by omega, by omega⟩ dX8_narrowAside_41 (by decide) (fun h41 => ?_) (fun h41 => ?_)
          · skip
            refine Ev.iconst dX8_narrowAside_56 ?_
            refine pf_X8_197 rfl dX8_narrowAside_57 ltc_272 shc_272 (by omega) ?_
            refine Ev.iinc (pl' := [some (vR (272)), some (vI (((r : Nat) : Int) + 1)), none, none, none, none]) dX8_narrowAside_60 rfl (Nat.le_of_ble_eq_true rfl) rfl ?_
            refine Ev.goto (tgt := 10) dX8_narrowAside_63 (by decide) ?_
            refine Ev.wk (pl' := [some (vR (272)), some (vI ((((r + 1) : Nat) : Int))), none, none, none, none]) ⟨rfl, ⟨vIe (by omega), trivial⟩⟩ ?_
            exact ih (r + 1) (by omega) (upC (τ) 272 31 (0)) false hF.upd hX.upd upC_at ⟨fun z => absurd z (by decide), fun z => absurd z (DD.n (fun q => absurd (hdd.mpr q) (by rw [b2_0.mp h23]; decide)) (fun ⟨z1, z2, z3⟩ => by first | exact absurd (show Nat.testBit w r = true from z1) (by rw [b2_0.mp h32]; decide) | exact absurd (show rN (Rf r) = 0 from z2) (by omega) | exact z3 (bI_1.mp h49)))⟩ kk
          · skip
            refine Ev.aload_n dX8_narrowAside_44 rfl rfl ?_
            refine Ev.iload_n dX8_narrowAside_45 rfl rfl ?_
            refine Ev.callV_I (M2 := mX8_fitsBare) (args2 := [vI (((r : Nat) : Int))]) (rcv := 272) (q := (RX8, TX8, 34)) (ci := 8) dX8_narrowAside_46 okX8_fitsBare lk_X8_201 ovX8_fitsBare.1.1 ovX8_fitsBare.1.2 ovX8_fitsBare.2 (by decide) rfl rfl ltc_272 shc_272 rfl (Nat.le_of_ble_eq_true rfl) (Nat.le_of_ble_eq_true rfl) (sM_fitsBare τ r U (Rf r) (fun _ => 0) (by omega) hMr hWr T (by omega)) ?_ rfl
            refine Ev.if_ne (tgt := 56) bI_inR dX8_narrowAside_49 (by decide) (fun h49 => ?_) (fun h49 => ?_)
            · skip
              refine Ev.iconst dX8_narrowAside_56 ?_
              refine pf_X8_197 rfl dX8_narrowAside_57 ltc_272 shc_272 (by omega) ?_
              refine Ev.iinc (pl' := [some (vR (272)), some (vI (((r : Nat) : Int) + 1)), none, none, none, none]) dX8_narrowAside_60 rfl (Nat.le_of_ble_eq_true rfl) rfl ?_
              refine Ev.goto (tgt := 10) dX8_narrowAside_63 (by decide) ?_
              refine Ev.wk (pl' := [some (vR (272)), some (vI ((((r + 1) : Nat) : Int))), none, none, none, none]) ⟨rfl, ⟨vIe (by omega), trivial⟩⟩ ?_
              exact ih (r + 1) (by omega) (upC (τ) 272 31 (0)) false hF.upd hX.upd upC_at ⟨fun z => absurd z (by decide), fun z => absurd z (DD.n (fun q => absurd (hdd.mpr q) (by rw [b2_0.mp h23]; decide)) (fun ⟨z1, z2, z3⟩ => by first | exact absurd (show Nat.testBit w r = true from z1) (by rw [b2_0.mp h32]; decide) | exact absurd (show rN (Rf r) = 0 from z2) (by omega) | exact z3 (bI_1.mp h49)))⟩ kk
            · skip
              refine Ev.iconst dX8_narrowAside_52 ?_
              refine Ev.goto (tgt := 57) dX8_narrowAside_53 (by decide) ?_
              refine pf_X8_197 rfl dX8_narrowAside_57 ltc_272 shc_272 (by omega) ?_
              refine Ev.iinc (pl' := [some (vR (272)), some (vI (((r : Nat) : Int) + 1)), none, none, none, none]) dX8_narrowAside_60 rfl (Nat.le_of_ble_eq_true rfl) rfl ?_
              refine Ev.goto (tgt := 10) dX8_narrowAside_63 (by decide) ?_
              refine Ev.wk (pl' := [some (vR (272)), some (vI ((((r + 1) : Nat) : Int))), none, none, none, none]) ⟨rfl, ⟨vIe (by omega), trivial⟩⟩ ?_
              exact ih (r + 1) (by omega) (upC (τ) 272 31 (1)) true hF.upd hX.upd upC_at ⟨fun _ => by first | exact DD.y (hdd.mp (b2_ne.mp (by assumption))) | exact Or.inr ⟨r, by omega, b2_ne.mp (by assumption), by show rN (Rf r) = 0; omega, bI_0.mp (by assumption)⟩, fun _ => rfl⟩ kk

set_option maxRecDepth 100000 in
set_option maxHeartbeats 4000000 in
theorem sM_nar1 {g : GC} (σ : Sg) (U : Nat) (hU : U ≤ 10) (h1 : σ 272 1 = (U : Int)) (n : Nat) (hn : n ≤ 16) (h8 : σ 272 8 = (n : Int)) (T : Tb) (hT : TVm σ T) (Rf : Nat → RC) (w : Nat) (hw : w < 2 ^ n) (hR : ∀ r, r < n → MR σ r (Rf r) ∧ WR U (Rf r)) (hon : ∀ r, r < n → σ 281 r = (b2 (w.testBit r) : Int)) (X0 : Rg) (Xr : Rg) (r : Nat) (hr : r < n) {Post : Option PV → Mem → Prop} : ∀ j i : Nat, i + j = rN (Rf r) → ∀ (τ : Sg) (X : Rg) (mm dd : Bool), SameM σ τ → AW τ U X → τ 272 31 = (b2 dd : Int) → GS U T (16, Rf, fun r => w.testBit r = true) X0 Xr X mm dd r i → (∀ (τ : Sg) (X : Rg) (mm dd : Bool), SameM σ τ → AW τ U X → τ 272 31 = (b2 dd : Int) → GS U T (16, Rf, fun r => w.testBit r = true) X0 Xr X mm dd (r + 1) 0 → Ev g mX8_narrowAside 198 [some (vR (272)), some (vI (((b2 mm : Nat) : Int))), some (vI (((r : Nat) : Int))), none, none, none] [] (M0 (τ)) 0 0 Post) → Ev g mX8_narrowAside 100 [some (vR (272)), some (vI (((b2 mm : Nat) : Int))), some (vI (((r : Nat) : Int))), some (vI (((i : Nat) : Int))), none, none] [] (M0 (τ)) 0 0 (Post) := by
  intro j
  induction j with
  | zero =>
    intro i hij τ X mm dd hF hX hd hgs kk
    have h1t : τ 272 1 = (U : Int) := (hF 272 1 (by decide) (by decide)).trans h1
    have h8t : τ 272 8 = (n : Int) := (hF 272 8 (by decide) (by decide)).trans h8
    have hTt := hF.tv hT
    have hMr := hF.mr (hR r (by omega)).1
    have hWr := (hR r (by omega)).2
    have hn6 := hWr.1.2.1
    refine Ev.iload_n dX8_narrowAside_100 rfl rfl ?_
    refine Ev.aload_n dX8_narrowAside_101 rfl rfl ?_
    refine gf_X8_38 rfl dX8_narrowAside_102 ltc_272 shc_272 rfc_272_13 ?_
    refine Ev.iload_n dX8_narrowAside_105 rfl rfl ?_
    refine Ev.iaload (v := ((rN (Rf r) : Nat) : Int)) dX8_narrowAside_106 ltc_282 shc_282 (by decide) (by omega) (by omega) (ldx rfl hMr.2.2.2.1) ?_
    refine Ev.icmp_ge (tgt := 198) ⟨by omega, by omega⟩ ⟨by omega, by omega⟩ dX8_narrowAside_107 (by decide) (fun h107 => ?_) (fun h107 => ?_)
    · skip
      refine Ev.wk (pl' := [some (vR (272)), some (vI (((b2 mm : Nat) : Int))), some (vI (((r : Nat) : Int))), none, none, none]) ⟨rfl, ⟨rfl, ⟨rfl, trivial⟩⟩⟩ ?_
      first | exact kk τ X mm dd hF hX hd (hgs.rule (S := (16, Rf, fun r => w.testBit r = true)) (fun r hr hb => (hR r (bit_cap hw hb)).2) (show r < 16 by omega) (fun _ => show rN (Rf r) ≤ i by omega)) | exact kk τ X mm dd hF hX hd (hgs.rule (S := (16, Rf, fun r => w.testBit r = true)) (fun r hr hb => (hR r (bit_cap hw hb)).2) (show r < 16 by omega) (fun z => absurd (show Nat.testBit w r = true from z) (by rw [b2_0.mp h116]; decide))) | exact kk τ X mm dd hF hX hd (hgs.isdead (b2_ne.mp (by assumption)))
    · exact absurd h107 (by omega)
  | succ j ih =>
    intro i hij τ X mm dd hF hX hd hgs kk
    have h1t : τ 272 1 = (U : Int) := (hF 272 1 (by decide) (by decide)).trans h1
    have h8t : τ 272 8 = (n : Int) := (hF 272 8 (by decide) (by decide)).trans h8
    have hTt := hF.tv hT
    have hMr := hF.mr (hR r (by omega)).1
    have hWr := (hR r (by omega)).2
    have hn6 := hWr.1.2.1
    have hxU : rO (Rf r) i < U := hWr.2.1 i (by omega)
    have hll : lft T (Rf r) X i < 65536 := lft_lt
    have hxl := (hX _ hxU).2
    refine Ev.iload_n dX8_narrowAside_100 rfl rfl ?_
    refine Ev.aload_n dX8_narrowAside_101 rfl rfl ?_
    refine gf_X8_38 rfl dX8_narrowAside_102 ltc_272 shc_272 rfc_272_13 ?_
    refine Ev.iload_n dX8_narrowAside_105 rfl rfl ?_
    refine Ev.iaload (v := ((rN (Rf r) : Nat) : Int)) dX8_narrowAside_106 ltc_282 shc_282 (by decide) (by omega) (by omega) (ldx rfl hMr.2.2.2.1) ?_
    refine Ev.icmp_ge (tgt := 198) ⟨by omega, by omega⟩ ⟨by omega, by omega⟩ dX8_narrowAside_107 (by decide) (fun h107 => ?_) (fun h107 => ?_)
    · exact absurd h107 (by omega)
    · skip
      refine Ev.aload_n dX8_narrowAside_110 rfl rfl ?_
      refine gf_X8_34 rfl dX8_narrowAside_111 ltc_272 shc_272 rfc_272_12 ?_
      refine Ev.iload_n dX8_narrowAside_114 rfl rfl ?_
      refine Ev.zaload (v := ((b2 (Nat.testBit w r) : Nat) : Int)) dX8_narrowAside_115 ltc_281 shc_281 (by decide) (by omega) (by omega) (ldx rfl ((hF 281 r (by decide) (fun z => absurd z (by decide))).trans (hon r (by omega)))) ?_
      refine Ev.if_eq (tgt := 198) b2_inR dX8_narrowAside_116 (by decide) (fun h116 => ?_) (fun h116 => ?_)
      · skip
        refine Ev.wk (pl' := [some (vR (272)), some (vI (((b2 mm : Nat) : Int))), some (vI (((r : Nat) : Int))), none, none, none]) ⟨rfl, ⟨rfl, ⟨rfl, trivial⟩⟩⟩ ?_
        first | exact kk τ X mm dd hF hX hd (hgs.rule (S := (16, Rf, fun r => w.testBit r = true)) (fun r hr hb => (hR r (bit_cap hw hb)).2) (show r < 16 by omega) (fun _ => show rN (Rf r) ≤ i by omega)) | exact kk τ X mm dd hF hX hd (hgs.rule (S := (16, Rf, fun r => w.testBit r = true)) (fun r hr hb => (hR r (bit_cap hw hb)).2) (show r < 16 by omega) (fun z => absurd (show Nat.testBit w r = true from z) (by rw [b2_0.mp h116]; decide))) | exact kk τ X mm dd hF hX hd (hgs.isdead (b2_ne.mp (by assumption)))
      · skip
        refine Ev.aload_n dX8_narrowAside_119 rfl rfl ?_
        refine gf_X8_197 (x := ((b2 dd : Nat) : Int)) rfl dX8_narrowAside_120 ltc_272 shc_272 hd ?_
        refine Ev.if_ne (tgt := 198) b2_inR dX8_narrowAside_123 (by decide) (fun h123 => ?_) (fun h123 => ?_)
        · skip
          refine Ev.wk (pl' := [some (vR (272)), some (vI (((b2 mm : Nat) : Int))), some (vI (((r : Nat) : Int))), none, none, none]) ⟨rfl, ⟨rfl, ⟨rfl, trivial⟩⟩⟩ ?_
          first | exact kk τ X mm dd hF hX hd (hgs.rule (S := (16, Rf, fun r => w.testBit r = true)) (fun r hr hb => (hR r (bit_cap hw hb)).2) (show r < 16 by omega) (fun _ => show rN (Rf r) ≤ i by omega)) | exact kk τ X mm dd hF hX hd (hgs.rule (S := (16, Rf, fun r => w.testBit r = true)) (fun r hr hb => (hR r (bit_cap hw hb)).2) (show r < 16 by omega) (fun z => absurd (show Nat.testBit w r = true from z) (by rw [b2_0.mp h116]; decide))) | exact kk τ X mm dd hF hX hd (hgs.isdead (b2_ne.mp (by assumption)))
        · skip
          have hbit := b2_ne.mp h116
          have hd0 := b2_0.mp h123
          subst hd0
          have hAV := hX.av (hgs.2 rfl).1.1
          refine Ev.aload_n dX8_narrowAside_126 rfl rfl ?_
          refine gf_X8_41 rfl dX8_narrowAside_127 ltc_272 shc_272 rfc_272_14 ?_
          refine Ev.bipush (n := 6) (by decide) dX8_narrowAside_130 ?_
          refine Ev.iload_n dX8_narrowAside_132 rfl rfl ?_
          refine Ev.imul dX8_narrowAside_133 ?_
          refine Ev.iload_n dX8_narrowAside_134 rfl rfl ?_
          refine Ev.iadd dX8_narrowAside_135 ?_
          refine Ev.iaload (v := ((rO (Rf r) i : Nat) : Int)) dX8_narrowAside_136 ltc_283 shc_283 (by decide) (by omega) (by omega) (ldx (n := 6 * r + i) (by omega) (hMr.2.2.2.2 i (by omega)).1) ?_
          refine Ev.istore (pl' := [some (vR (272)), some (vI (((b2 mm : Nat) : Int))), some (vI (((r : Nat) : Int))), some (vI (((i : Nat) : Int))), some (vI (((rO (Rf r) i : Nat) : Int))), none]) dX8_narrowAside_137 (Nat.le_of_ble_eq_true rfl) rfl ?_
          refine Ev.aload_n dX8_narrowAside_139 rfl rfl ?_
          refine Ev.iload_n dX8_narrowAside_140 rfl rfl ?_
          refine Ev.iload_n dX8_narrowAside_141 rfl rfl ?_
          refine Ev.callV_I (M2 := mX8_left) (args2 := [vI (((r : Nat) : Int)), vI (((i : Nat) : Int))]) (rcv := 272) (q := (RX8, TX8, 34)) (ci := 8) dX8_narrowAside_142 okX8_left lk_X8_204 ovX8_left.1.1 ovX8_left.1.2 ovX8_left.2 (by decide) rfl rfl ltc_272 shc_272 rfl (Nat.le_of_ble_eq_true rfl) (Nat.le_of_ble_eq_true rfl) (sM_left τ r U (Rf r) X (by omega) hMr hWr hAV i (by omega) T hTt) ?_ rfl
          refine Ev.istore (pl' := [some (vR (272)), some (vI (((b2 mm : Nat) : Int))), some (vI (((r : Nat) : Int))), some (vI (((i : Nat) : Int))), some (vI (((rO (Rf r) i : Nat) : Int))), some (vI (((lft T (Rf r) X i : Nat) : Int)))]) dX8_narrowAside_145 (Nat.le_of_ble_eq_true rfl) rfl ?_
          refine Ev.iload_n dX8_narrowAside_147 rfl rfl ?_
          refine Ev.if_ne (tgt := 163) b2_inR dX8_narrowAside_148 (by decide) (fun h148 => ?_) (fun h148 => ?_)
          · skip
            refine Ev.iconst dX8_narrowAside_163 ?_
            refine Ev.goto (tgt := 168) dX8_narrowAside_164 (by decide) ?_
            refine Ev.istore_n (pl' := [some (vR (272)), some (vI (1)), some (vI (((r : Nat) : Int))), some (vI (((i : Nat) : Int))), some (vI (((rO (Rf r) i : Nat) : Int))), some (vI (((lft T (Rf r) X i : Nat) : Int)))]) dX8_narrowAside_168 rfl (Nat.le_of_ble_eq_true rfl) rfl ?_
            refine Ev.aload_n dX8_narrowAside_169 rfl rfl ?_
            refine gf_X8_78 rfl dX8_narrowAside_170 ltc_272 shc_272 rfc_272_29 ?_
            refine Ev.iload dX8_narrowAside_173 rfl ?_
            refine Ev.iload dX8_narrowAside_175 rfl ?_
            refine Ev.iastore dX8_narrowAside_177 ltc_294 shc_294 (by decide) (by omega) (Int.ofNat_lt.mpr (Nat.lt_of_lt_of_le hxU hU)) ?_
            refine Ev.aload_n dX8_narrowAside_178 rfl rfl ?_
            refine Ev.iload dX8_narrowAside_179 rfl ?_
            refine Ev.if_ne (tgt := 188) ⟨by omega, by omega⟩ dX8_narrowAside_181 (by decide) (fun h181 => ?_) (fun h181 => ?_)
            · skip
              refine Ev.iconst dX8_narrowAside_188 ?_
              refine pf_X8_197 rfl dX8_narrowAside_189 ltc_272 shc_272 (by omega) ?_
              refine Ev.iinc (pl' := [some (vR (272)), some (vI (1)), some (vI (((r : Nat) : Int))), some (vI (((i : Nat) : Int) + 1)), some (vI (((rO (Rf r) i : Nat) : Int))), some (vI (((lft T (Rf r) X i : Nat) : Int)))]) dX8_narrowAside_192 rfl (Nat.le_of_ble_eq_true rfl) rfl ?_
              refine Ev.goto (tgt := 100) dX8_narrowAside_195 (by decide) ?_
              refine Ev.wk (pl' := [some (vR (272)), some (vI (((b2 true : Nat) : Int))), some (vI (((r : Nat) : Int))), some (vI ((((i + 1) : Nat) : Int))), none, none]) ⟨rfl, ⟨vIe rfl, ⟨rfl, ⟨vIe (by omega), trivial⟩⟩⟩⟩ ?_
              exact ih (i + 1) (by omega) (upC (upC (τ) 294 (((rO (Rf r) i : Nat) : Int)).toNat (((lft T (Rf r) X i : Nat) : Int))) 272 31 (0)) (upY X (rO (Rf r) i) (lft T (Rf r) X i)) true false (hF.up.upd) ((hX.up rfl rfl lft_lt).upd) upC_at (hgs.stepT (S := (16, Rf, fun r => w.testBit r = true)) (fun r hr hb => (hR r (bit_cap hw hb)).2) (show r < 16 by omega) hbit (show i < rN (Rf r) by omega) (show lft T (Rf r) X i ≠ 0 by omega) (by first | exact Or.inl (b2_ne.mp (by assumption)) | exact Or.inr (show lft T (Rf r) X i ≠ X (rO (Rf r) i) by omega))) kk
            · skip
              refine Ev.iconst dX8_narrowAside_184 ?_
              refine Ev.goto (tgt := 189) dX8_narrowAside_185 (by decide) ?_
              refine pf_X8_197 rfl dX8_narrowAside_189 ltc_272 shc_272 (by omega) ?_
              refine Ev.iinc (pl' := [some (vR (272)), some (vI (1)), some (vI (((r : Nat) : Int))), some (vI (((i : Nat) : Int) + 1)), some (vI (((rO (Rf r) i : Nat) : Int))), some (vI (((lft T (Rf r) X i : Nat) : Int)))]) dX8_narrowAside_192 rfl (Nat.le_of_ble_eq_true rfl) rfl ?_
              refine Ev.goto (tgt := 100) dX8_narrowAside_195 (by decide) ?_
              refine Ev.wk (pl' := [some (vR (272)), some (vI (((b2 true : Nat) : Int))), some (vI (((r : Nat) : Int))), some (vI ((((i + 1) : Nat) : Int))), none, none]) ⟨rfl, ⟨vIe rfl, ⟨rfl, ⟨vIe (by omega), trivial⟩⟩⟩⟩ ?_
              exact ih (i + 1) (by omega) (upC (upC (τ) 294 (((rO (Rf r) i : Nat) : Int)).toNat (((lft T (Rf r) X i : Nat) : Int))) 272 31 (1)) (upY X (rO (Rf r) i) (lft T (Rf r) X i)) true true (hF.up.upd) ((hX.up rfl rfl lft_lt).upd) upC_at (hgs.die (S := (16, Rf, fun r => w.testBit r = true)) (fun r hr hb => (hR r (bit_cap hw hb)).2) (show r < 16 by omega) hbit (show i < rN (Rf r) by omega) (show lft T (Rf r) X i = 0 by omega)) kk
          · skip
            refine Ev.iload dX8_narrowAside_151 rfl ?_
            refine Ev.aload_n dX8_narrowAside_153 rfl rfl ?_
            refine gf_X8_78 rfl dX8_narrowAside_154 ltc_272 shc_272 rfc_272_29 ?_
            refine Ev.iload dX8_narrowAside_157 rfl ?_
            refine Ev.iaload (v := ((X (rO (Rf r) i) : Nat) : Int)) dX8_narrowAside_159 ltc_294 shc_294 (by decide) (by omega) (Int.ofNat_lt.mpr (Nat.lt_of_lt_of_le hxU hU)) (ldx rfl (hX _ hxU).1) ?_
            refine Ev.icmp_eq (tgt := 167) ⟨by omega, by omega⟩ ⟨by omega, by omega⟩ dX8_narrowAside_160 (by decide) (fun h160 => ?_) (fun h160 => ?_)
            · skip
              refine Ev.iconst dX8_narrowAside_167 ?_
              refine Ev.istore_n (pl' := [some (vR (272)), some (vI (0)), some (vI (((r : Nat) : Int))), some (vI (((i : Nat) : Int))), some (vI (((rO (Rf r) i : Nat) : Int))), some (vI (((lft T (Rf r) X i : Nat) : Int)))]) dX8_narrowAside_168 rfl (Nat.le_of_ble_eq_true rfl) rfl ?_
              refine Ev.aload_n dX8_narrowAside_169 rfl rfl ?_
              refine gf_X8_78 rfl dX8_narrowAside_170 ltc_272 shc_272 rfc_272_29 ?_
              refine Ev.iload dX8_narrowAside_173 rfl ?_
              refine Ev.iload dX8_narrowAside_175 rfl ?_
              refine Ev.iastore dX8_narrowAside_177 ltc_294 shc_294 (by decide) (by omega) (Int.ofNat_lt.mpr (Nat.lt_of_lt_of_le hxU hU)) ?_
              refine Ev.aload_n dX8_narrowAside_178 rfl rfl ?_
              refine Ev.iload dX8_narrowAside_179 rfl ?_
              refine Ev.if_ne (tgt := 188) ⟨by omega, by omega⟩ dX8_narrowAside_181 (by decide) (fun h181 => ?_) (fun h181 => ?_)
              · skip
                refine Ev.iconst dX8_narrowAside_188 ?_
                refine pf_X8_197 rfl dX8_narrowAside_189 ltc_272 shc_272 (by omega) ?_
                refine Ev.iinc (pl' := [some (vR (272)), some (vI (0)), some (vI (((r : Nat) : Int))), some (vI (((i : Nat) : Int) + 1)), some (vI (((rO (Rf r) i : Nat) : Int))), some (vI (((lft T (Rf r) X i : Nat) : Int)))]) dX8_narrowAside_192 rfl (Nat.le_of_ble_eq_true rfl) rfl ?_
                refine Ev.goto (tgt := 100) dX8_narrowAside_195 (by decide) ?_
                refine Ev.wk (pl' := [some (vR (272)), some (vI (((b2 false : Nat) : Int))), some (vI (((r : Nat) : Int))), some (vI ((((i + 1) : Nat) : Int))), none, none]) ⟨rfl, ⟨vIe rfl, ⟨rfl, ⟨vIe (by omega), trivial⟩⟩⟩⟩ ?_
                exact ih (i + 1) (by omega) (upC (upC (τ) 294 (((rO (Rf r) i : Nat) : Int)).toNat (((lft T (Rf r) X i : Nat) : Int))) 272 31 (0)) (upY X (rO (Rf r) i) (lft T (Rf r) X i)) false false (hF.up.upd) ((hX.up rfl rfl lft_lt).upd) upC_at (GS.stepF (S := (16, Rf, fun r => w.testBit r = true)) (by have hm0 := b2_0.mp h148; subst hm0; exact hgs) (show lft T (Rf r) X i = X (rO (Rf r) i) by omega)) kk
              · skip
                refine Ev.iconst dX8_narrowAside_184 ?_
                refine Ev.goto (tgt := 189) dX8_narrowAside_185 (by decide) ?_
                refine pf_X8_197 rfl dX8_narrowAside_189 ltc_272 shc_272 (by omega) ?_
                refine Ev.iinc (pl' := [some (vR (272)), some (vI (0)), some (vI (((r : Nat) : Int))), some (vI (((i : Nat) : Int) + 1)), some (vI (((rO (Rf r) i : Nat) : Int))), some (vI (((lft T (Rf r) X i : Nat) : Int)))]) dX8_narrowAside_192 rfl (Nat.le_of_ble_eq_true rfl) rfl ?_
                refine Ev.goto (tgt := 100) dX8_narrowAside_195 (by decide) ?_
                refine Ev.wk (pl' := [some (vR (272)), some (vI (((b2 false : Nat) : Int))), some (vI (((r : Nat) : Int))), some (vI ((((i + 1) : Nat) : Int))), none, none]) ⟨rfl, ⟨vIe rfl, ⟨rfl, ⟨vIe (by omega), trivial⟩⟩⟩⟩ ?_
                exact ih (i + 1) (by omega) (upC (upC (τ) 294 (((rO (Rf r) i : Nat) : Int)).toNat (((lft T (Rf r) X i : Nat) : Int))) 272 31 (1)) (upY X (rO (Rf r) i) (lft T (Rf r) X i)) false true (hF.up.upd) ((hX.up rfl rfl lft_lt).upd) upC_at (hgs.die (S := (16, Rf, fun r => w.testBit r = true)) (fun r hr hb => (hR r (bit_cap hw hb)).2) (show r < 16 by omega) hbit (show i < rN (Rf r) by omega) (show lft T (Rf r) X i = 0 by omega)) kk
            · skip
              refine Ev.iconst dX8_narrowAside_163 ?_
              refine Ev.goto (tgt := 168) dX8_narrowAside_164 (by decide) ?_
              refine Ev.istore_n (pl' := [some (vR (272)), some (vI (1)), some (vI (((r : Nat) : Int))), some (vI (((i : Nat) : Int))), some (vI (((rO (Rf r) i : Nat) : Int))), some (vI (((lft T (Rf r) X i : Nat) : Int)))]) dX8_narrowAside_168 rfl (Nat.le_of_ble_eq_true rfl) rfl ?_
              refine Ev.aload_n dX8_narrowAside_169 rfl rfl ?_
              refine gf_X8_78 rfl dX8_narrowAside_170 ltc_272 shc_272 rfc_272_29 ?_
              refine Ev.iload dX8_narrowAside_173 rfl ?_
              refine Ev.iload dX8_narrowAside_175 rfl ?_
              refine Ev.iastore dX8_narrowAside_177 ltc_294 shc_294 (by decide) (by omega) (Int.ofNat_lt.mpr (Nat.lt_of_lt_of_le hxU hU)) ?_
              refine Ev.aload_n dX8_narrowAside_178 rfl rfl ?_
              refine Ev.iload dX8_narrowAside_179 rfl ?_
              refine Ev.if_ne (tgt := 188) ⟨by omega, by omega⟩ dX8_narrowAside_181 (by decide) (fun h181 => ?_) (fun h181 => ?_)
              · skip
                refine Ev.iconst dX8_narrowAside_188 ?_
                refine pf_X8_197 rfl dX8_narrowAside_189 ltc_272 shc_272 (by omega) ?_
                refine Ev.iinc (pl' := [some (vR (272)), some (vI (1)), some (vI (((r : Nat) : Int))), some (vI (((i : Nat) : Int) + 1)), some (vI (((rO (Rf r) i : Nat) : Int))), some (vI (((lft T (Rf r) X i : Nat) : Int)))]) dX8_narrowAside_192 rfl (Nat.le_of_ble_eq_true rfl) rfl ?_
                refine Ev.goto (tgt := 100) dX8_narrowAside_195 (by decide) ?_
                refine Ev.wk (pl' := [some (vR (272)), some (vI (((b2 true : Nat) : Int))), some (vI (((r : Nat) : Int))), some (vI ((((i + 1) : Nat) : Int))), none, none]) ⟨rfl, ⟨vIe rfl, ⟨rfl, ⟨vIe (by omega), trivial⟩⟩⟩⟩ ?_
                exact ih (i + 1) (by omega) (upC (upC (τ) 294 (((rO (Rf r) i : Nat) : Int)).toNat (((lft T (Rf r) X i : Nat) : Int))) 272 31 (0)) (upY X (rO (Rf r) i) (lft T (Rf r) X i)) true false (hF.up.upd) ((hX.up rfl rfl lft_lt).upd) upC_at (hgs.stepT (S := (16, Rf, fun r => w.testBit r = true)) (fun r hr hb => (hR r (bit_cap hw hb)).2) (show r < 16 by omega) hbit (show i < rN (Rf r) by omega) (show lft T (Rf r) X i ≠ 0 by omega) (by first | exact Or.inl (b2_ne.mp (by assumption)) | exact Or.inr (show lft T (Rf r) X i ≠ X (rO (Rf r) i) by omega))) kk
              · skip
                refine Ev.iconst dX8_narrowAside_184 ?_
                refine Ev.goto (tgt := 189) dX8_narrowAside_185 (by decide) ?_
                refine pf_X8_197 rfl dX8_narrowAside_189 ltc_272 shc_272 (by omega) ?_
                refine Ev.iinc (pl' := [some (vR (272)), some (vI (1)), some (vI (((r : Nat) : Int))), some (vI (((i : Nat) : Int) + 1)), some (vI (((rO (Rf r) i : Nat) : Int))), some (vI (((lft T (Rf r) X i : Nat) : Int)))]) dX8_narrowAside_192 rfl (Nat.le_of_ble_eq_true rfl) rfl ?_
                refine Ev.goto (tgt := 100) dX8_narrowAside_195 (by decide) ?_
                refine Ev.wk (pl' := [some (vR (272)), some (vI (((b2 true : Nat) : Int))), some (vI (((r : Nat) : Int))), some (vI ((((i + 1) : Nat) : Int))), none, none]) ⟨rfl, ⟨vIe rfl, ⟨rfl, ⟨vIe (by omega), trivial⟩⟩⟩⟩ ?_
                exact ih (i + 1) (by omega) (upC (upC (τ) 294 (((rO (Rf r) i : Nat) : Int)).toNat (((lft T (Rf r) X i : Nat) : Int))) 272 31 (1)) (upY X (rO (Rf r) i) (lft T (Rf r) X i)) true true (hF.up.upd) ((hX.up rfl rfl lft_lt).upd) upC_at (hgs.die (S := (16, Rf, fun r => w.testBit r = true)) (fun r hr hb => (hR r (bit_cap hw hb)).2) (show r < 16 by omega) hbit (show i < rN (Rf r) by omega) (show lft T (Rf r) X i = 0 by omega)) kk

set_option maxRecDepth 100000 in
set_option maxHeartbeats 4000000 in
theorem sM_nar2 {g : GC} (σ : Sg) (U : Nat) (hU : U ≤ 10) (h1 : σ 272 1 = (U : Int)) (n : Nat) (hn : n ≤ 16) (h8 : σ 272 8 = (n : Int)) (T : Tb) (hT : TVm σ T) (Rf : Nat → RC) (w : Nat) (hw : w < 2 ^ n) (hR : ∀ r, r < n → MR σ r (Rf r) ∧ WR U (Rf r)) (hon : ∀ r, r < n → σ 281 r = (b2 (w.testBit r) : Int)) (X0 : Rg) (Xr : Rg) {Post : Option PV → Mem → Prop} : ∀ j r : Nat, r + j = n → ∀ (τ : Sg) (X : Rg) (mm dd : Bool), SameM σ τ → AW τ U X → τ 272 31 = (b2 dd : Int) → GS U T (16, Rf, fun r => w.testBit r = true) X0 Xr X mm dd r 0 → (∀ (τ : Sg) (X : Rg) (mm dd : Bool) (r : Nat), (dd = false → n ≤ r) → SameM σ τ → AW τ U X → τ 272 31 = (b2 dd : Int) → GS U T (16, Rf, fun r => w.testBit r = true) X0 Xr X mm dd r 0 → Ev g mX8_narrowAside 204 [some (vR (272)), some (vI (((b2 mm : Nat) : Int))), none, none, none, none] [] (M0 (τ)) 0 0 Post) → Ev g mX8_narrowAside 83 [some (vR (272)), some (vI (((b2 mm : Nat) : Int))), some (vI (((r : Nat) : Int))), none, none, none] [] (M0 (τ)) 0 0 (Post) := by
  intro j
  induction j with
  | zero =>
    intro r hij τ X mm dd hF hX hd hgs kk
    have h1t : τ 272 1 = (U : Int) := (hF 272 1 (by decide) (by decide)).trans h1
    have h8t : τ 272 8 = (n : Int) := (hF 272 8 (by decide) (by decide)).trans h8
    have hTt := hF.tv hT
    refine Ev.iload_n dX8_narrowAside_83 rfl rfl ?_
    refine Ev.aload_n dX8_narrowAside_84 rfl rfl ?_
    refine gf_X8_100 (x := ((n : Nat) : Int)) rfl dX8_narrowAside_85 ltc_272 shc_272 h8t ?_
    refine Ev.icmp_ge (tgt := 204) ⟨by omega, by omega⟩ ⟨by omega, by omega⟩ dX8_narrowAside_88 (by decide) (fun h88 => ?_) (fun h88 => ?_)
    · skip
      refine Ev.wk (pl' := [some (vR (272)), some (vI (((b2 mm : Nat) : Int))), none, none, none, none]) ⟨rfl, ⟨rfl, trivial⟩⟩ ?_
      exact kk τ X mm dd r (by first | exact fun _ => (by omega) | exact fun z => absurd (b2_ne.mp (by assumption)) (by rw [z]; decide)) hF hX hd hgs
    · exact absurd h88 (by omega)
  | succ j ih =>
    intro r hij τ X mm dd hF hX hd hgs kk
    have h1t : τ 272 1 = (U : Int) := (hF 272 1 (by decide) (by decide)).trans h1
    have h8t : τ 272 8 = (n : Int) := (hF 272 8 (by decide) (by decide)).trans h8
    have hTt := hF.tv hT
    refine Ev.iload_n dX8_narrowAside_83 rfl rfl ?_
    refine Ev.aload_n dX8_narrowAside_84 rfl rfl ?_
    refine gf_X8_100 (x := ((n : Nat) : Int)) rfl dX8_narrowAside_85 ltc_272 shc_272 h8t ?_
    refine Ev.icmp_ge (tgt := 204) ⟨by omega, by omega⟩ ⟨by omega, by omega⟩ dX8_narrowAside_88 (by decide) (fun h88 => ?_) (fun h88 => ?_)
    · exact absurd h88 (by omega)
    · skip
      refine Ev.aload_n dX8_narrowAside_91 rfl rfl ?_
      refine gf_X8_197 (x := ((b2 dd : Nat) : Int)) rfl dX8_narrowAside_92 ltc_272 shc_272 hd ?_
      refine Ev.if_ne (tgt := 204) b2_inR dX8_narrowAside_95 (by decide) (fun h95 => ?_) (fun h95 => ?_)
      · skip
        refine Ev.wk (pl' := [some (vR (272)), some (vI (((b2 mm : Nat) : Int))), none, none, none, none]) ⟨rfl, ⟨rfl, trivial⟩⟩ ?_
        exact kk τ X mm dd r (by first | exact fun _ => (by omega) | exact fun z => absurd (b2_ne.mp (by assumption)) (by rw [z]; decide)) hF hX hd hgs
      · skip
        refine Ev.iconst dX8_narrowAside_98 ?_
        refine Ev.istore_n (pl' := [some (vR (272)), some (vI (((b2 mm : Nat) : Int))), some (vI (((r : Nat) : Int))), some (vI (0)), none, none]) dX8_narrowAside_99 rfl (Nat.le_of_ble_eq_true rfl) rfl ?_
        refine Ev.wk (pl' := [some (vR (272)), some (vI (((b2 mm : Nat) : Int))), some (vI (((r : Nat) : Int))), some (vI (((0 : Nat) : Int))), none, none]) ⟨rfl, ⟨rfl, ⟨rfl, ⟨vIe rfl, trivial⟩⟩⟩⟩ ?_
        refine sM_nar1 σ U hU h1 n hn h8 T hT Rf w hw hR hon X0 Xr r (by omega) (rN (Rf r)) 0 (by omega) τ X mm dd hF hX hd hgs (fun τ2 X2 mm2 dd2 g1 g2 g3 g4 => ?_)
        refine Ev.iinc (pl' := [some (vR (272)), some (vI (((b2 mm2 : Nat) : Int))), some (vI (((r : Nat) : Int) + 1)), none, none, none]) dX8_narrowAside_198 rfl (Nat.le_of_ble_eq_true rfl) rfl ?_
        refine Ev.goto (tgt := 83) dX8_narrowAside_201 (by decide) ?_
        refine Ev.wk (pl' := [some (vR (272)), some (vI (((b2 mm2 : Nat) : Int))), some (vI ((((r + 1) : Nat) : Int))), none, none, none]) ⟨rfl, ⟨rfl, ⟨vIe (by omega), trivial⟩⟩⟩ ?_
        exact ih (r + 1) (by omega) τ2 X2 mm2 dd2 g1 g2 g3 g4 kk

set_option maxRecDepth 100000 in
set_option maxHeartbeats 4000000 in
theorem sM_nar3 {g : GC} (σ : Sg) (U : Nat) (hU : U ≤ 10) (h1 : σ 272 1 = (U : Int)) (n : Nat) (hn : n ≤ 16) (h8 : σ 272 8 = (n : Int)) (T : Tb) (hT : TVm σ T) (Rf : Nat → RC) (w : Nat) (hw : w < 2 ^ n) (hR : ∀ r, r < n → MR σ r (Rf r) ∧ WR U (Rf r)) (hon : ∀ r, r < n → σ 281 r = (b2 (w.testBit r) : Int)) (X0 : Rg) : ∀ j q : Nat, q + j = 161 → ∀ (τ : Sg) (X : Rg) (mm dd : Bool), SameM σ τ → AW τ U X → τ 272 31 = (b2 dd : Int) → (dd = false → Bare T (16, Rf, fun r => w.testBit r = true)) → GW U T (16, Rf, fun r => w.testBit r = true) X0 X mm dd q → Ev g mX8_narrowAside 68 [some (vR (272)), some (vI (((b2 mm : Nat) : Int))), none, none, none, none] [] (M0 (τ)) 0 0 (retW (NarP σ U T (16, Rf, fun r => w.testBit r = true) X0)) := by
  intro j
  induction j with
  | zero =>
    intro q hij τ X mm dd hF hX hd hba hgw
    have h1t : τ 272 1 = (U : Int) := (hF 272 1 (by decide) (by decide)).trans h1
    have h8t : τ 272 8 = (n : Int) := (hF 272 8 (by decide) (by decide)).trans h8
    have hTt := hF.tv hT
    refine Ev.iload_n dX8_narrowAside_68 rfl rfl ?_
    refine Ev.if_eq (tgt := 207) b2_inR dX8_narrowAside_69 (by decide) (fun h69 => ?_) (fun h69 => ?_)
    · skip
      exact Ev.vreturn dX8_narrowAside_207 rfl (rW (hgw.end hF hX hd hba (by first | exact fun _ => Or.inl (b2_0.mp (by assumption)) | exact fun z => absurd (b2_ne.mp (by assumption)) (by rw [z]; decide))))
    · skip
      refine Ev.aload_n dX8_narrowAside_72 rfl rfl ?_
      refine gf_X8_197 (x := ((b2 dd : Nat) : Int)) rfl dX8_narrowAside_73 ltc_272 shc_272 hd ?_
      refine Ev.if_ne (tgt := 207) b2_inR dX8_narrowAside_76 (by decide) (fun h76 => ?_) (fun h76 => ?_)
      · skip
        exact Ev.vreturn dX8_narrowAside_207 rfl (rW (hgw.end hF hX hd hba (by first | exact fun _ => Or.inl (b2_0.mp (by assumption)) | exact fun z => absurd (b2_ne.mp (by assumption)) (by rw [z]; decide))))
      · exact absurd ((hgw.2 (b2_0.mp h76)).2.1 (b2_ne.mp (by assumption))) (by omega)
  | succ j ih =>
    intro q hij τ X mm dd hF hX hd hba hgw
    have h1t : τ 272 1 = (U : Int) := (hF 272 1 (by decide) (by decide)).trans h1
    have h8t : τ 272 8 = (n : Int) := (hF 272 8 (by decide) (by decide)).trans h8
    have hTt := hF.tv hT
    refine Ev.iload_n dX8_narrowAside_68 rfl rfl ?_
    refine Ev.if_eq (tgt := 207) b2_inR dX8_narrowAside_69 (by decide) (fun h69 => ?_) (fun h69 => ?_)
    · skip
      exact Ev.vreturn dX8_narrowAside_207 rfl (rW (hgw.end hF hX hd hba (by first | exact fun _ => Or.inl (b2_0.mp (by assumption)) | exact fun z => absurd (b2_ne.mp (by assumption)) (by rw [z]; decide))))
    · skip
      refine Ev.aload_n dX8_narrowAside_72 rfl rfl ?_
      refine gf_X8_197 (x := ((b2 dd : Nat) : Int)) rfl dX8_narrowAside_73 ltc_272 shc_272 hd ?_
      refine Ev.if_ne (tgt := 207) b2_inR dX8_narrowAside_76 (by decide) (fun h76 => ?_) (fun h76 => ?_)
      · skip
        exact Ev.vreturn dX8_narrowAside_207 rfl (rW (hgw.end hF hX hd hba (by first | exact fun _ => Or.inl (b2_0.mp (by assumption)) | exact fun z => absurd (b2_ne.mp (by assumption)) (by rw [z]; decide))))
      · skip
        have hd0 := b2_0.mp h76
        refine Ev.iconst dX8_narrowAside_79 ?_
        refine Ev.istore_n (pl' := [some (vR (272)), some (vI (0)), none, none, none, none]) dX8_narrowAside_80 rfl (Nat.le_of_ble_eq_true rfl) rfl ?_
        refine Ev.iconst dX8_narrowAside_81 ?_
        refine Ev.istore_n (pl' := [some (vR (272)), some (vI (0)), some (vI (0)), none, none, none]) dX8_narrowAside_82 rfl (Nat.le_of_ble_eq_true rfl) rfl ?_
        refine Ev.wk (pl' := [some (vR (272)), some (vI (((b2 false : Nat) : Int))), some (vI (((0 : Nat) : Int))), none, none, none]) ⟨rfl, ⟨vIe rfl, ⟨vIe rfl, trivial⟩⟩⟩ ?_
        refine sM_nar2 σ U hU h1 n hn h8 T hT Rf w hw hR hon X0 X n 0 (by omega) τ X false dd hF hX hd (by subst hd0; exact GS.start (hgw.2 rfl).1) (fun τ2 X2 mm2 dd2 r2 hr2 g1 g2 g3 g4 => ?_)
        refine Ev.goto (tgt := 68) dX8_narrowAside_204 (by decide) ?_
        refine Ev.wk (pl' := [some (vR (272)), some (vI (((b2 mm2 : Nat) : Int))), none, none, none, none]) ⟨rfl, ⟨rfl, trivial⟩⟩ ?_
        exact ih (q + 1) (by omega) τ2 X2 mm2 dd2 g1 g2 g3 (fun _ => hba hd0) (GW.nxt (S := (16, Rf, fun r => w.testBit r = true)) g4 (fun z q hq hb => Nat.lt_of_lt_of_le (bit_cap hw hb) (hr2 z)) ((hgw.2 hd0).2.1 (b2_ne.mp (by assumption))))

set_option maxRecDepth 100000 in
set_option maxHeartbeats 4000000 in
theorem sM_narrowAside {g : GC} (σ : Sg) (U : Nat) (hU : U ≤ 10) (h1 : σ 272 1 = (U : Int)) (n : Nat) (hn : n ≤ 16) (h8 : σ 272 8 = (n : Int)) (T : Tb) (hT : TVm σ T) (Rf : Nat → RC) (w : Nat) (hw : w < 2 ^ n) (hR : ∀ r, r < n → MR σ r (Rf r) ∧ WR U (Rf r)) (hon : ∀ r, r < n → σ 281 r = (b2 (w.testBit r) : Int)) (X0 : Rg) (hX : AW σ U X0) : Ev g mX8_narrowAside 0 [some (vR (272)), none, none, none, none, none] [] (M0 (σ)) 0 0 (retW (NarP σ U T (16, Rf, fun r => w.testBit r = true) X0)) := by
  refine Ev.aload_n dX8_narrowAside_0 rfl rfl ?_
  refine Ev.aload_n dX8_narrowAside_1 rfl rfl ?_
  refine Ev.callV_I (M2 := mX8_hasNone) (args2 := []) (rcv := 272) (q := (RX8, TX8, 34)) (ci := 8) dX8_narrowAside_2 okX8_hasNone lk_X8_193 ovX8_hasNone.1.1 ovX8_hasNone.1.2 ovX8_hasNone.2 (by decide) rfl rfl ltc_272 shc_272 rfl (Nat.le_of_ble_eq_true rfl) (Nat.le_of_ble_eq_true rfl) (sM_hasNone σ U hU h1 X0 hX) ?_ rfl
  refine pf_X8_197 rfl dX8_narrowAside_5 ltc_272 shc_272 bI_or ?_
  refine Ev.iconst dX8_narrowAside_8 ?_
  refine Ev.istore_n (pl' := [some (vR (272)), some (vI (0)), none, none, none, none]) dX8_narrowAside_9 rfl (Nat.le_of_ble_eq_true rfl) rfl ?_
  obtain ⟨d0, e0, e1⟩ := bI_b2 (p := (∃ x, x < U ∧ X0 x = 0))
  refine Ev.wk (pl' := [some (vR (272)), some (vI (((0 : Nat) : Int))), none, none, none, none]) ⟨rfl, ⟨vIe rfl, trivial⟩⟩ ?_
  refine sM_nar0 σ U hU h1 n hn h8 T hT Rf w hw hR hon X0 n 0 (by omega) (upC (σ) 272 31 (bI (∃ x, x < U ∧ X0 x = 0))) d0 SameM.rf.upd hX.upd (upC_at.trans e0) (e1.trans ⟨fun z => Or.inl z, fun z => z.elim id (fun ⟨q, hq, _⟩ => absurd hq (by omega))⟩) (fun τ dd hF hXt hd hdd => ?_)
  refine Ev.iconst dX8_narrowAside_66 ?_
  refine Ev.istore_n (pl' := [some (vR (272)), some (vI (1)), none, none, none, none]) dX8_narrowAside_67 rfl (Nat.le_of_ble_eq_true rfl) rfl ?_
  refine Ev.wk (pl' := [some (vR (272)), some (vI (((b2 true : Nat) : Int))), none, none, none, none]) ⟨rfl, ⟨vIe rfl, trivial⟩⟩ ?_
  have hgo : dd = false → NEm U X0 ∧ ∀ q, q < n → w.testBit q = true → rN (Rf q) = 0 → fit T (Rf q) (fun _ => 0) := fun z => DD.go (S := (16, Rf, fun r => w.testBit r = true)) (r := n) (fun x hx => (hX x hx).2) (fun q => by rw [hdd.mpr q] at z; cases z)
  exact sM_nar3 σ U hU h1 n hn h8 T hT Rf w hw hR hon X0 161 0 (by omega) τ X0 true dd hF hXt hd (fun z r hr hb h0 => (hgo z).2 r (bit_cap hw hb) hb h0) ⟨fun z => DD.dead (S := (16, Rf, fun r => w.testBit r = true)) (show n ≤ 16 from hn) (hdd.mp z), fun z => ⟨Mid.start (hgo z).1, fun _ => by have := totP_16 U X0; omega, fun q => absurd q (by decide)⟩⟩

