/-! THE CLASS: the search -/
abbrev SK : List Nat := [267, 268, 269, 270, 271]
theorem nSK {c : Nat} (h : c < 267) : c ∉ SK := by simp [SK]; omega
theorem lshl1 {k : Nat} (h : k < 62) : lShl 1 (k : Int) = ((2 ^ k : Nat) : Int) := by
  have h1 := lShl_nat (a := 1) (k := k) (by omega) (by rw [Nat.one_mul]; exact Nat.pow_lt_pow_right (by decide) (by omega))
  rw [Nat.one_mul] at h1
  exact h1
/-- ranges read through: numbers, stages, the open ones, nothing due yet -/
def Arr (X : Rg) (x : Nat) (τ : Sg) : Prop := (∀ y, y < x → τ 267 y = (lo (X y) : Int)) ∧ (∀ y, y < x → τ 270 y = (stX X y : Int)) ∧ (∀ y, y < x → pop (X y) ≠ 1 → τ 268 (chN X y) = (y : Int)) ∧ ∀ s, s ≤ chN X x → τ 271 s = 0
theorem Arr.y1 {X : Rg} {x : Nat} {τ : Sg} (h : Arr X x τ) (hp : pop (X x) = 1) : Arr X (x + 1) (upC (upC τ 267 x (lo (X x) : Int)) 270 x 0) := by
  obtain ⟨h1, h2, h3, h4⟩ := h
  refine ⟨fun y hy => ?_, fun y hy => ?_, fun y hy hne => ?_, fun s hs => ?_⟩
  · rw [upC_ne (by decide)]
    by_cases e : y = x
    · rw [e]; exact upC_at
    · rw [upC_self e]; exact h1 y (by omega)
  · by_cases e : y = x
    · rw [e, upC_at]; unfold stX; rw [if_pos hp]; rfl
    · rw [upC_self e, upC_ne (by decide)]; exact h2 y (by omega)
  · rw [upC_ne (by decide), upC_ne (by decide)]
    exact h3 y (by have : y ≠ x := fun e => hne (by rw [e]; exact hp)
                   omega) hne
  · rw [upC_ne (by decide), upC_ne (by decide)]
    rw [chN_1 hp] at hs
    exact h4 s hs
theorem Arr.y2 {X : Rg} {x : Nat} {τ : Sg} (h : Arr X x τ) (hp : pop (X x) ≠ 1) : Arr X (x + 1) (upC (upC (upC (upC (upC τ 267 x (lo (X x) : Int)) 270 x 0) 268 (chN X x) (x : Int)) 270 x ((chN X x + 1 : Nat) : Int)) 271 (chN X x + 1) 0) := by
  obtain ⟨h1, h2, h3, h4⟩ := h
  refine ⟨fun y hy => ?_, fun y hy => ?_, fun y hy hne => ?_, fun s hs => ?_⟩
  · rw [upC_ne (by decide), upC_ne (by decide), upC_ne (by decide), upC_ne (by decide)]
    by_cases e : y = x
    · rw [e]; exact upC_at
    · rw [upC_self e]; exact h1 y (by omega)
  · rw [upC_ne (by decide)]
    by_cases e : y = x
    · rw [e, upC_at]; unfold stX; rw [if_neg hp]
    · rw [upC_self e, upC_ne (by decide), upC_self e, upC_ne (by decide)]; exact h2 y (by omega)
  · rw [upC_ne (by decide), upC_ne (by decide)]
    by_cases e : y = x
    · rw [e]; exact upC_at
    · have h5 := chN_mono (X := X) (show y + 1 ≤ x by omega)
      rw [chN_2 hne] at h5
      rw [upC_self (by omega), upC_ne (by decide), upC_ne (by decide)]
      exact h3 y (by omega) hne
  · rw [chN_2 hp] at hs
    by_cases e : s = chN X x + 1
    · rw [e]; exact upC_at
    · rw [upC_self e, upC_ne (by decide), upC_ne (by decide), upC_ne (by decide), upC_ne (by decide)]
      exact h4 s (by omega)
/-- the rules due at a stage, as bits -/
noncomputable def duM (Rf : Nat → RC) (w : Nat) (X : Rg) (n s : Nat) : Nat := mkN n (fun r => w.testBit r = true ∧ lsN X (Rf r) (rN (Rf r)) = s)
theorem duM_lt {Rf : Nat → RC} {w : Nat} {X : Rg} {n s : Nat} (hn : n ≤ 16) : duM Rf w X n s < 65536 := mkN_16 _ hn
theorem duM_tb {Rf : Nat → RC} {w : Nat} {X : Rg} {s r : Nat} : (duM Rf w X 16 s).testBit r = true ↔ r < 16 ∧ due (16, Rf, fun r => w.testBit r = true) X s r := mkN_tb 16 _ r
theorem du_up {Rf : Nat → RC} {w : Nat} {X : Rg} {r K : Nat} {τ : Sg} {j v : Int} (hb : w.testBit r = true) (hj : j = (lsN X (Rf r) (rN (Rf r)) : Int)) (hv : v = (duM Rf w X (r + 1) (lsN X (Rf r) (rN (Rf r))) : Int)) (h : ∀ s, s ≤ K → τ 271 s = (duM Rf w X r s : Int)) : ∀ s, s ≤ K → upC τ 271 j.toNat v 271 s = (duM Rf w X (r + 1) s : Int) := fun s hs => by
  subst hj
  rw [show ((lsN X (Rf r) (rN (Rf r)) : Nat) : Int).toNat = lsN X (Rf r) (rN (Rf r)) from rfl]
  by_cases e : s = lsN X (Rf r) (rN (Rf r))
  · rw [e, upC_at, hv]
  · rw [upC_self e, h s hs]
    unfold duM
    rw [mkN_f (fun z => e z.2.symm)]
theorem du_no {Rf : Nat → RC} {w : Nat} {X : Rg} {r s : Nat} (hb : w.testBit r = false) : duM Rf w X (r + 1) s = duM Rf w X r s := mkN_f fun z => by rw [hb] at z; exact absurd z.1 (by decide)
theorem Dfs.start {U : Nat} {T : Tb} {S : Sy} {X : Rg} {op : Nat → Nat} {A : An} (hX : NEm U X) (hop : OpOk U X op) (hK : 0 < chN X U) (hA : ∀ x, x < U → A x = lo (X x)) (hf : ∀ r, r < S.1 → due S X 0 r → fit T (S.2.1 r) A) : Dfs U T S X op 1 A (fun _ => X (op 0)) 0 := by
  refine ⟨hK, fun x hx => by rw [hA x hx]; exact lo_lt (hX x hx).2 (hX x hx).1, fun x hx _ => hA x hx, fun lev hl => by rw [show lev = 0 by omega]; exact sub_rf _, fun lev hl => absurd hl (by omega), fun r hr hon hs => hf r hr ⟨hon, by omega⟩, ?_⟩
  rw [Nat.zero_add]
  exact nmb_congr fun B _ => ⟨fun z => z.1, fun z => ⟨z, z.1, 0, by omega, fun k hk => absurd hk (by omega), z.1 _ (hop.at hK).1⟩⟩
theorem ans_none {U : Nat} {T : Tb} {S : Sy} {X : Rg} {op : Nat → Nat} {A : An} (hS : SyOk U S) (hX : NEm U X) (hop : OpOk U X op) (hA : ∀ x, x < U → A x = lo (X x)) (hf : ¬ ∀ r, r < S.1 → due S X 0 r → fit T (S.2.1 r) A) : nAns U T S X = 0 := nmb_0 fun B _ z => hf fun r hr hd =>
  Agr.fit (hS r hr hd.1) (s := 0) (X := X) (fun x hx hs => ((agr_of hX hop (fun x hx _ => hA x hx) z.1 (fun k hk => absurd hk (by omega))) x hx hs).symm) (by rw [hd.2]; exact Nat.le_refl _) (z.2 r hr hd.1)
theorem ans_one {U : Nat} {T : Tb} {S : Sy} {X : Rg} {A : An} (hS : SyOk U S) (hX : NEm U X) (hK : chN X U = 0) (hA : ∀ x, x < U → A x = lo (X x)) (hf : ∀ r, r < S.1 → due S X 0 r → fit T (S.2.1 r) A) : nAns U T S X = 1 ∧ isLst U (isAns U T S X) A := by
  have hp : ∀ x, x < U → pop (X x) = 1 := fun x hx => Classical.byContradiction fun n => by
    have := chN_mono (X := X) (show x + 1 ≤ U by omega)
    rw [chN_2 n] at this
    omega
  have hR : InR U X A := fun x hx => by rw [hA x hx]; exact lo_tb (hX x hx).2 (hX x hx).1
  have hu : ∀ B, InR U X B → ∀ x, x < U → B x = A x := fun B hB x hx => by rw [hA x hx]; exact one_lo (hX x hx).2 (hp x hx) (hB x hx)
  have hans : isAns U T S X A := ⟨hR, fun r hr hon => hf r hr ⟨hon, by
    have : lsN X (S.2.1 r) (rN (S.2.1 r)) ≤ 0 := lsN_le.mpr fun k hk => by
      have := stX_le (X := X) ((hS r hr hon).2.1 k hk)
      omega
    omega⟩⟩
  refine ⟨nmb_1 (A0 := A) (InR.lt (fun x hx => (hX x hx).2) hR) fun B _ => ⟨fun z => hu B z.1, fun z => hans.cong hS fun x hx => (z x hx).symm⟩, hans, fun B hB => by rw [kod_cong (hu B hB.1)]; exact Nat.le_refl _⟩
theorem Dfs.end {U : Nat} {T : Tb} {S : Sy} {X : Rg} {op : Nat → Nat} {A : An} {L : Rg} {fd : Nat} (h : Dfs U T S X op 0 A L fd) : nAns U T S X = fd := by
  rw [← h.2.2.2.2.2.2, nmb_0 (fun B _ z => by obtain ⟨_, _, lev, h1, _⟩ := z; exact absurd h1 (by omega))]
  rfl
theorem Dfs.le {U : Nat} {T : Tb} {S : Sy} {X : Rg} {op : Nat → Nat} {d : Nat} {A : An} {L : Rg} {fd : Nat} (h : Dfs U T S X op d A L fd) : fd ≤ nAns U T S X := by
  rw [← h.2.2.2.2.2.2]
  exact Nat.le_add_right _ _
theorem pop_2 {a : Nat} (ha : a < 65536) (h0 : a ≠ 0) (h : pop a ≠ 1) : 2 ≤ pop a := by
  have := pop_pos ha h0
  omega
theorem phi_start {U : Nat} {X : Rg} {op : Nat → Nat} (hX : NEm U X) (hop : OpOk U X op) (hK : 0 < chN X U) (hw : wys X U ≤ 20000) : phi X op (chN X U) (fun _ => X (op 0)) 1 + 0 ≤ 80000 := by
  have h1 := tmv_le (X := X) (op := op) (chN X U) 0 (fun k _ hk => by
    have h2 := hop.at (show k < chN X U by omega)
    exact pop_2 (hX _ h2.1).2 (hX _ h2.1).1 h2.2.1)
  have h2 := prB_F (X := X) (op := op) (chN X U) 0
  rw [Nat.zero_add, prF_w hop U (Nat.le_refl _), show prF X op 0 = 1 from rfl, Nat.one_mul] at h2
  rw [h2] at h1
  have h3 : phi X op (chN X U) (fun _ => X (op 0)) 1 = tmv X op (chN X U) 0 := by
    rw [show chN X U = (chN X U - 1) + 1 by omega]
    simp only [phi, tmv]
    rw [show chN X U - 1 + 1 - (0 + 1) = chN X U - 1 by omega]
    omega
  omega
def FindP (σ : Sg) (U : Nat) (T : Tb) (S : Sy) (X : Rg) (most : Nat) (v : Int) (τ : Sg) : Prop := v = ((min most (nAns U T S X) : Nat) : Int) ∧ Same SK σ τ ∧ (most = 1 → nAns U T S X ≠ 0 → ∀ x, x < U → τ 267 x = (lstA U (isAns U T S X) x : Int))
theorem FindP.of {σ τ : Sg} {U : Nat} {T : Tb} {S : Sy} {X : Rg} {most fd : Nat} {A : An} (hX : NEm U X) (hF : Same SK σ τ) (hA : ∀ x, x < U → τ 267 x = (A x : Int)) (h1 : fd = min most (nAns U T S X)) (h2 : most = 1 → fd ≠ 0 → isLst U (isAns U T S X) A) : FindP σ U T S X most ((fd : Nat) : Int) τ := by
  refine ⟨by rw [h1], hF, fun hm hn x hx => ?_⟩
  rw [hA x hx, lstA_eq (fun B hB => InR.lt (fun x hx => (hX x hx).2) hB.1) (h2 hm (by omega)) x hx]
theorem nv_up {τ : Sg} {U x v : Nat} {A : An} (h : ∀ y, y < U → τ 267 y = (A y : Int)) : ∀ y, y < U → upC τ 267 x (v : Int) 267 y = (upY A x v y : Int) := fun y hy => by
  by_cases e : y = x
  · rw [e, upC_at, upY_at]
  · rw [upC_self e, upY_ne e]; exact h y hy
theorem lv_up {τ : Sg} {d l v : Nat} {L : Rg} (h : ∀ k, k < d → τ 269 k = (L k : Int)) : ∀ k, k < d → upC τ 269 l (v : Int) 269 k = (upY L l v k : Int) := fun k hk => by
  by_cases e : k = l
  · rw [e, upC_at, upY_at]
  · rw [upC_self e, upY_ne e]; exact h k hk
theorem lv_push {τ : Sg} {l v : Nat} {L : Rg} (h : ∀ k, k < l + 1 → τ 269 k = (L k : Int)) : ∀ k, k < l + 2 → upC τ 269 (l + 1) (v : Int) 269 k = (upY L (l + 1) v k : Int) := fun k hk => by
  by_cases e : k = l + 1
  · rw [e, upC_at, upY_at]
  · rw [upC_self e, upY_ne e]; exact h k (by omega)
