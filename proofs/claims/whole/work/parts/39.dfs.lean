/-! THE SEARCH, depth first, in numbers -/
theorem agr_of {U : Nat} {X : Rg} {op : Nat → Nat} {A B : An} {s : Nat} (hX : NEm U X) (hop : OpOk U X op) (hA : ∀ x, x < U → pop (X x) = 1 → A x = lo (X x)) (hB : InR U X B) (h : ∀ k, k < s → B (op k) = A (op k)) : Agr U X s A B := fun x hx hs => by
  by_cases hp : pop (X x) = 1
  · rw [hA x hx hp]
    exact (one_lo (hX x hx).2 hp (hB x hx)).symm
  · unfold stX at hs
    rw [if_neg hp] at hs
    have := h (chN X x) (by omega)
    rw [hop x hx hp] at this
    exact this.symm
def Rem (U : Nat) (X : Rg) (op : Nat → Nat) (d : Nat) (A : An) (L : Rg) (B : An) : Prop := InR U X B ∧ ∃ lev, lev < d ∧ (∀ k, k < lev → B (op k) = A (op k)) ∧ (L lev).testBit (B (op lev)) = true
def Dfs (U : Nat) (T : Tb) (S : Sy) (X : Rg) (op : Nat → Nat) (d : Nat) (A : An) (L : Rg) (fd : Nat) : Prop :=
  d ≤ chN X U ∧ lt16 U A ∧ (∀ x, x < U → pop (X x) = 1 → A x = lo (X x)) ∧ (∀ lev, lev < d → sub (L lev) (X (op lev))) ∧ (∀ lev, lev + 1 < d → (X (op lev)).testBit (A (op lev)) = true ∧ ∀ j, (L lev).testBit j = true → A (op lev) < j) ∧ (∀ r, r < S.1 → S.2.2 r → lsN X (S.2.1 r) (rN (S.2.1 r)) + 1 ≤ d → fit T (S.2.1 r) A) ∧ fd + nmb U (fun B => isAns U T S X B ∧ Rem U X op d A L B) = nAns U T S X
theorem Dfs.shut {U : Nat} {T : Tb} {S : Sy} {X : Rg} {op : Nat → Nat} {l : Nat} {A : An} {L : Rg} {fd : Nat} (h : Dfs U T S X op (l + 1) A L fd) (h0 : L l = 0) : Dfs U T S X op l A L fd := by
  obtain ⟨h1, h2, h3, h4, h5, h6, h7⟩ := h
  refine ⟨by omega, h2, h3, fun lev hl => h4 lev (by omega), fun lev hl => h5 lev (by omega), fun r hr hon hs => h6 r hr hon (by omega), ?_⟩
  rw [← h7]
  congr 1
  refine nmb_congr fun B _ => ⟨fun ⟨z, z1, lev, z2, z3, z4⟩ => ⟨z, z1, lev, by omega, z3, z4⟩, fun ⟨z, z1, lev, z2, z3, z4⟩ => ⟨z, z1, lev, ?_, z3, z4⟩⟩
  rcases Nat.lt_or_ge lev l with h8 | h8
  · exact h8
  · rw [show lev = l by omega, h0, Nat.zero_testBit] at z4; cases z4
/-- the numbers and what is left behind a pick -/
def pkA (op : Nat → Nat) (l : Nat) (A : An) (L : Rg) : An := upY A (op l) (lo (L l))
def pkL (l : Nat) (L : Rg) : Rg := upY L l (andN (L l) (2 ^ lo (L l)))
def Sub (U : Nat) (X : Rg) (op : Nat → Nat) (s : Nat) (A B : An) : Prop := InR U X B ∧ ∀ k, k < s → B (op k) = A (op k)
/-- what every pick gives -/
theorem Dfs.pick {U : Nat} {T : Tb} {S : Sy} {X : Rg} {op : Nat → Nat} {l : Nat} {A : An} {L : Rg} {fd : Nat} (hS : SyOk U S) (hX : NEm U X) (hop : OpOk U X op) (h : Dfs U T S X op (l + 1) A L fd) (h0 : L l ≠ 0) :
    lt16 U (pkA op l A L) ∧ (∀ x, x < U → pop (X x) = 1 → pkA op l A L x = lo (X x)) ∧ (∀ k, k < l → pkA op l A L (op k) = A (op k)) ∧ (∀ lev, lev < l + 1 → sub (pkL l L lev) (X (op lev))) ∧
    (∀ lev, lev < l + 1 → (X (op lev)).testBit (pkA op l A L (op lev)) = true ∧ ∀ j, (pkL l L lev).testBit j = true → pkA op l A L (op lev) < j) ∧
    (∀ r, r < S.1 → S.2.2 r → lsN X (S.2.1 r) (rN (S.2.1 r)) ≤ l → fit T (S.2.1 r) (pkA op l A L)) ∧
    nmb U (fun B => isAns U T S X B ∧ Rem U X op (l + 1) A L B) = nmb U (fun B => isAns U T S X B ∧ Rem U X op (l + 1) (pkA op l A L) (pkL l L) B) + nmb U (fun B => isAns U T S X B ∧ Sub U X op (l + 1) (pkA op l A L) B) := by
  obtain ⟨h1, h2, h3, h4, h5, h6, h7⟩ := h
  have hol := hop.at (show l < chN X U by omega)
  have hLl : L l < 65536 := sub_lt (h4 l (by omega)) (hX _ hol.1).2
  have hlo := lo_tb hLl h0
  have h16 := lo_lt hLl h0
  have hne : ∀ k, k < l → op k ≠ op l := fun k hk e => by have := hop.inj (by omega) (show l < chN X U by omega) e; omega
  have hpA : ∀ k, k < l → pkA op l A L (op k) = A (op k) := fun k hk => upY_ne (hne k hk)
  have hpl : pkA op l A L (op l) = lo (L l) := upY_at
  have hqL : ∀ lev, lev ≠ l → pkL l L lev = L lev := fun lev hl => upY_ne hl
  have hql : pkL l L l = andN (L l) (2 ^ lo (L l)) := upY_at
  have hD : ∀ B, Rem U X op (l + 1) A L B ↔ (Rem U X op (l + 1) (pkA op l A L) (pkL l L) B ∨ Sub U X op (l + 1) (pkA op l A L) B) := by
    intro B
    constructor
    · rintro ⟨z1, lev, z2, z3, z4⟩
      rcases Nat.lt_or_ge lev l with h8 | h8
      · exact Or.inl ⟨z1, lev, z2, fun k hk => by rw [hpA k (by omega)]; exact z3 k hk, by rw [hqL lev (by omega)]; exact z4⟩
      · have e : lev = l := by omega
        subst e
        by_cases hb : B (op lev) = lo (L lev)
        · refine Or.inr ⟨z1, fun k hk => ?_⟩
          rcases Nat.lt_or_ge k lev with h9 | h9
          · rw [hpA k h9]; exact z3 k h9
          · rw [show k = lev by omega, hpl]; exact hb
        · refine Or.inl ⟨z1, lev, by omega, fun k hk => by rw [hpA k hk]; exact z3 k hk, ?_⟩
          rw [hql, andN_tb, z4, Nat.testBit_two_pow]
          simp
          omega
    · rintro (⟨z1, lev, z2, z3, z4⟩ | ⟨z1, z2⟩)
      · rcases Nat.lt_or_ge lev l with h8 | h8
        · exact ⟨z1, lev, z2, fun k hk => by rw [← hpA k (by omega)]; exact z3 k hk, by rw [← hqL lev (by omega)]; exact z4⟩
        · have e : lev = l := by omega
          subst e
          refine ⟨z1, lev, by omega, fun k hk => by rw [← hpA k hk]; exact z3 k hk, ?_⟩
          rw [hql] at z4
          exact sub_andN _ _ _ z4
      · exact ⟨z1, l, by omega, fun k hk => by rw [← hpA k hk]; exact z2 k (by omega), by rw [z2 l (by omega), hpl]; exact hlo⟩
  have hdis : ∀ B, ¬ (Rem U X op (l + 1) (pkA op l A L) (pkL l L) B ∧ Sub U X op (l + 1) (pkA op l A L) B) := by
    rintro B ⟨⟨z1, lev, z2, z3, z4⟩, q1, q2⟩
    have q3 := q2 lev z2
    rcases Nat.lt_or_ge lev l with h8 | h8
    · rw [hqL lev (by omega)] at z4
      have := (h5 lev (by omega)).2 _ z4
      rw [q3, hpA lev h8] at this
      omega
    · have e : lev = l := by omega
      subst e
      rw [hql, q3, hpl, andN_tb, Nat.testBit_two_pow] at z4
      simp at z4
  refine ⟨fun x hx => ?_, fun x hx hp => ?_, hpA, fun lev hl => ?_, fun lev hl => ?_, fun r hr hon hs => ?_, ?_⟩
  · by_cases e : x = op l
    · rw [e, hpl]; exact h16
    · rw [show pkA op l A L x = A x from upY_ne e]; exact h2 x hx
  · rw [show pkA op l A L x = A x from upY_ne (fun e => hol.2.1 (by rw [← e]; exact hp))]; exact h3 x hx hp
  · rcases Nat.lt_or_ge lev l with h8 | h8
    · rw [hqL lev (by omega)]; exact h4 lev hl
    · rw [show lev = l by omega, hql]; exact (sub_andN _ _).tr (h4 l (by omega))
  · rcases Nat.lt_or_ge lev l with h8 | h8
    · rw [hqL lev (by omega), hpA lev h8]; exact h5 lev (by omega)
    · rw [show lev = l by omega, hpl, hql]
      refine ⟨h4 l (by omega) _ hlo, fun j hj => ?_⟩
      rw [andN_tb, Nat.testBit_two_pow, Bool.and_eq_true] at hj
      have := lo_min hj.1
      have h9 := hj.2
      simp at h9
      omega
  · refine Agr.fit (hS r hr hon) (s := l) (X := X) (fun x hx hsx => ?_) hs (h6 r hr hon (by omega))
    by_cases e : x = op l
    · exfalso
      rw [e] at hsx
      unfold stX at hsx
      rw [if_neg hol.2.1, hol.2.2] at hsx
      omega
    · exact (upY_ne e).symm
  · rw [← nmb_or (fun B z => hdis B ⟨z.1.2, z.2.2⟩)]
    refine nmb_congr fun B _ => ?_
    rw [hD B]
    constructor
    · rintro ⟨z1, z2 | z2⟩
      · exact Or.inl ⟨z1, z2⟩
      · exact Or.inr ⟨z1, z2⟩
    · rintro (⟨z1, z2⟩ | ⟨z1, z2⟩)
      · exact ⟨z1, Or.inl z2⟩
      · exact ⟨z1, Or.inr z2⟩
/-- rules of a stage -/
def due (S : Sy) (X : Rg) (s r : Nat) : Prop := S.2.2 r ∧ lsN X (S.2.1 r) (rN (S.2.1 r)) = s
theorem Dfs.bad {U : Nat} {T : Tb} {S : Sy} {X : Rg} {op : Nat → Nat} {l : Nat} {A : An} {L : Rg} {fd : Nat} (hS : SyOk U S) (hX : NEm U X) (hop : OpOk U X op) (h : Dfs U T S X op (l + 1) A L fd) (h0 : L l ≠ 0) (hb : ¬ ∀ r, r < S.1 → due S X (l + 1) r → fit T (S.2.1 r) (pkA op l A L)) : Dfs U T S X op (l + 1) (pkA op l A L) (pkL l L) fd := by
  obtain ⟨p1, p2, p3, p4, p5, p6, p7⟩ := h.pick hS hX hop h0
  obtain ⟨h1, h2, h3, h4, h5, h6, h7⟩ := h
  refine ⟨h1, p1, p2, p4, fun lev hl => p5 lev (by omega), fun r hr hon hs => p6 r hr hon (by omega), ?_⟩
  have e : nmb U (fun B => isAns U T S X B ∧ Sub U X op (l + 1) (pkA op l A L) B) = 0 := nmb_0 fun B _ z => hb fun r hr hd =>
    Agr.fit (hS r hr hd.1) (s := l + 1) (X := X) (fun x hx hs => ((agr_of hX hop p2 z.2.1 z.2.2) x hx hs).symm) (by rw [hd.2]; exact Nat.le_refl _) (z.1.2 r hr hd.1)
  omega
theorem Dfs.good {U : Nat} {T : Tb} {S : Sy} {X : Rg} {op : Nat → Nat} {l : Nat} {A : An} {L : Rg} {fd : Nat} (hS : SyOk U S) (hX : NEm U X) (hop : OpOk U X op) (h : Dfs U T S X op (l + 1) A L fd) (h0 : L l ≠ 0) (hg : ∀ r, r < S.1 → due S X (l + 1) r → fit T (S.2.1 r) (pkA op l A L)) (hl : l + 1 < chN X U) : Dfs U T S X op (l + 2) (pkA op l A L) (upY (pkL l L) (l + 1) (X (op (l + 1)))) fd := by
  obtain ⟨p1, p2, p3, p4, p5, p6, p7⟩ := h.pick hS hX hop h0
  obtain ⟨h1, h2, h3, h4, h5, h6, h7⟩ := h
  refine ⟨by omega, p1, p2, fun lev hl2 => ?_, fun lev hl2 => ?_, fun r hr hon hs => ?_, ?_⟩
  · by_cases e : lev = l + 1
    · rw [e, upY_at]; exact sub_rf _
    · rw [upY_ne e]; exact p4 lev (by omega)
  · rw [upY_ne (by omega)]; exact p5 lev (by omega)
  · by_cases e : lsN X (S.2.1 r) (rN (S.2.1 r)) = l + 1
    · exact hg r hr ⟨hon, e⟩
    · exact p6 r hr hon (by omega)
  · rw [← h7, p7, ← nmb_or]
    · congr 1
      refine nmb_congr fun B _ => ?_
      constructor
      · rintro ⟨z, z1, lev, z2, z3, z4⟩
        by_cases e : lev = l + 1
        · subst e
          exact Or.inr ⟨z, z1, z3⟩
        · rw [upY_ne e] at z4
          exact Or.inl ⟨z, z1, lev, by omega, z3, z4⟩
      · rintro (⟨z, z1, lev, z2, z3, z4⟩ | ⟨z, z1, z2⟩)
        · exact ⟨z, z1, lev, by omega, z3, by rw [upY_ne (by omega)]; exact z4⟩
        · exact ⟨z, z1, l + 1, by omega, z2, by rw [upY_at]; exact z1 _ (hop.at hl).1⟩
    · rintro B ⟨⟨_, z1, lev, z2, z3, z4⟩, _, q1, q2⟩
      have := (p5 lev z2).2 _ z4
      rw [q2 lev z2] at this
      omega
theorem Dfs.found {U : Nat} {T : Tb} {S : Sy} {X : Rg} {op : Nat → Nat} {l : Nat} {A : An} {L : Rg} {fd : Nat} (hS : SyOk U S) (hX : NEm U X) (hop : OpOk U X op) (h : Dfs U T S X op (l + 1) A L fd) (h0 : L l ≠ 0) (hg : ∀ r, r < S.1 → due S X (l + 1) r → fit T (S.2.1 r) (pkA op l A L)) (hl : l + 1 = chN X U) :
    Dfs U T S X op (l + 1) (pkA op l A L) (pkL l L) (fd + 1) ∧ isAns U T S X (pkA op l A L) ∧ (fd = 0 → isLst U (isAns U T S X) (pkA op l A L)) := by
  obtain ⟨p1, p2, p3, p4, p5, p6, p7⟩ := h.pick hS hX hop h0
  obtain ⟨h1, h2, h3, h4, h5, h6, h7⟩ := h
  have hst : ∀ x, x < U → stX X x ≤ l + 1 := fun x hx => by rw [hl]; exact stX_le hx
  have hR : InR U X (pkA op l A L) := fun x hx => by
    by_cases hp : pop (X x) = 1
    · rw [p2 x hx hp]; exact lo_tb (hX x hx).2 (hX x hx).1
    · have h8 : chN X x < l + 1 := by
        have := hst x hx
        unfold stX at this
        rw [if_neg hp] at this
        omega
      have := (p5 _ h8).1
      rw [hop x hx hp] at this
      exact this
  have hans : isAns U T S X (pkA op l A L) := ⟨hR, fun r hr hon => by
    by_cases e : lsN X (S.2.1 r) (rN (S.2.1 r)) = l + 1
    · exact hg r hr ⟨hon, e⟩
    · have : lsN X (S.2.1 r) (rN (S.2.1 r)) ≤ l + 1 := lsN_le.mpr fun k hk => hst _ ((hS r hr hon).2.1 k hk)
      exact p6 r hr hon (by omega)⟩
  have e1 : nmb U (fun B => isAns U T S X B ∧ Sub U X op (l + 1) (pkA op l A L) B) = 1 := nmb_1 p1 fun B _ => by
    constructor
    · rintro ⟨z, z1, z2⟩ x hx
      exact ((agr_of hX hop p2 z1 z2) x hx (hst x hx)).symm
    · intro z
      refine ⟨hans.cong hS fun x hx => (z x hx).symm, hR.cong fun x hx => (z x hx).symm, fun k hk => z _ (hop.at (by omega)).1⟩
  refine ⟨⟨h1, p1, p2, p4, fun lev hl => p5 lev (by omega), fun r hr hon hs => p6 r hr hon (by omega), by omega⟩, hans, fun hf => ⟨hans, fun B hB => ?_⟩⟩
  subst hf
  have hBl : lt16 U B := InR.lt (fun x hx => (hX x hx).2) hB.1
  have hrem : Rem U X op (l + 1) A L B := by
    have := cntN_eq (n := 16 ^ U) (P := fun c => isAns U T S X (dek U c) ∧ Rem U X op (l + 1) A L (dek U c)) (Q := fun c => isAns U T S X (dek U c)) (fun c _ z => z.1) (by rw [Nat.zero_add] at h7; exact h7) (kod U B) (kod_lt hBl) (hB.cong hS fun x hx => (dek_kod hBl x hx).symm)
    obtain ⟨z1, lev, z2, z3, z4⟩ := this.2
    have hk : ∀ k, k < l + 1 → dek U (kod U B) (op k) = B (op k) := fun k hk => dek_kod hBl _ (hop.at (by omega)).1
    exact ⟨hB.1, lev, z2, fun k hk2 => by rw [← hk k (by omega)]; exact z3 k hk2, by rw [← hk lev z2]; exact z4⟩
  obtain ⟨z1, lev, z2, z3, z4⟩ := hrem
  have hpre : ∀ k, k < lev → B (op k) = pkA op l A L (op k) := fun k hk => by rw [p3 k (by omega)]; exact z3 k hk
  have hag := agr_of hX hop p2 z1 hpre
  have hlt : pkA op l A L (op lev) < B (op lev) → kod U (pkA op l A L) ≤ kod U B := fun hlt => Nat.le_of_lt ((kod_lex p1 hBl).mpr ⟨op lev, (hop.at (by omega)).1, fun y hy => hag y (by have := (hop.at (show lev < chN X U by omega)).1; omega) (by
      unfold stX
      split
      · omega
      · rename_i hp
        have hyU : y < U := by have := (hop.at (show lev < chN X U by omega)).1; omega
        have h9 := chN_mono (X := X) (show y + 1 ≤ op lev by omega)
        rw [chN_2 hp, (hop.at (show lev < chN X U by omega)).2.2] at h9
        omega), hlt⟩)
  rcases Nat.lt_or_ge lev l with h8 | h8
  · exact hlt (by rw [p3 lev h8]; exact (h5 lev (by omega)).2 _ z4)
  · have e : lev = l := by omega
    subst e
    have hpl : pkA op lev A L (op lev) = lo (L lev) := upY_at
    have h9 := lo_min z4
    by_cases e2 : B (op lev) = lo (L lev)
    · rw [kod_cong (A := pkA op lev A L) (B := B) fun x hx => ?_]
      · exact Nat.le_refl _
      · exact (agr_of hX hop p2 z1 (s := lev + 1) fun k hk => by
          rcases Nat.lt_or_ge k lev with q | q
          · exact hpre k q
          · rw [show k = lev by omega, hpl]; exact e2) x hx (hst x hx)
    · exact hlt (by rw [hpl]; omega)
/-- how many moves a search takes at most -/
def tmv (X : Rg) (op : Nat → Nat) : Nat → Nat → Nat
  | 0, _ => 0
  | n + 1, l => pop (X (op l)) * (1 + tmv X op n (l + 1)) + 1
def prB (X : Rg) (op : Nat → Nat) : Nat → Nat → Nat
  | 0, _ => 1
  | n + 1, l => pop (X (op l)) * prB X op n (l + 1)
def wys (X : Rg) : Nat → Nat
  | 0 => 1
  | n + 1 => wys X n * pop (X n)
def prF (X : Rg) (op : Nat → Nat) : Nat → Nat
  | 0 => 1
  | n + 1 => prF X op n * pop (X (op n))
theorem prB_F {X : Rg} {op : Nat → Nat} (n l : Nat) : prF X op l * prB X op n l = prF X op (l + n) := by
  induction n generalizing l with
  | zero => simp [prB]
  | succ n ih =>
    simp only [prB]
    rw [← Nat.mul_assoc, show prF X op l * pop (X (op l)) = prF X op (l + 1) from rfl, ih (l + 1)]
    congr 1
    omega
theorem prF_w {U : Nat} {X : Rg} {op : Nat → Nat} (hop : OpOk U X op) (n : Nat) (hn : n ≤ U) : prF X op (chN X n) = wys X n := by
  induction n with
  | zero => rfl
  | succ n ih =>
    by_cases hp : pop (X n) = 1
    · rw [chN_1 hp, ih (by omega), wys, hp, Nat.mul_one]
    · rw [chN_2 hp]
      simp only [prF, wys]
      rw [ih (by omega), hop n (by omega) hp]
theorem tmv_le {X : Rg} {op : Nat → Nat} (n l : Nat) (h : ∀ k, l ≤ k → k < l + n → 2 ≤ pop (X (op k))) : tmv X op n l + 3 ≤ 4 * prB X op n l := by
  induction n generalizing l with
  | zero => simp [tmv, prB]
  | succ n ih =>
    have h1 := ih (l + 1) fun k hk1 hk2 => h k (by omega) (by omega)
    have h2 := h l (by omega) (by omega)
    simp only [tmv, prB]
    generalize pop (X (op l)) = p at *
    generalize tmv X op n (l + 1) = t at *
    generalize prB X op n (l + 1) = q at *
    have h3 : p * (t + 3) ≤ p * (4 * q) := Nat.mul_le_mul_left p h1
    rw [Nat.mul_add] at h3
    rw [Nat.mul_add, Nat.mul_one]
    rw [show p * (4 * q) = 4 * (p * q) by rw [Nat.mul_left_comm]] at h3
    omega
def phi (X : Rg) (op : Nat → Nat) (K : Nat) (L : Rg) : Nat → Nat
  | 0 => 0
  | d + 1 => phi X op K L d + (pop (L d) * (1 + tmv X op (K - (d + 1)) (d + 1)) + 1)
theorem phi_cong {X : Rg} {op : Nat → Nat} {K : Nat} {L L' : Rg} {d : Nat} (h : ∀ k, k < d → L k = L' k) : phi X op K L d = phi X op K L' d := by
  induction d with
  | zero => rfl
  | succ d ih => simp only [phi]; rw [ih fun k hk => h k (by omega), h d (by omega)]
theorem phi_pop {X : Rg} {op : Nat → Nat} {K l : Nat} {L : Rg} : phi X op K L l + 1 ≤ phi X op K L (l + 1) := by
  simp only [phi]
  omega
theorem phi_bad {X : Rg} {op : Nat → Nat} {K l : Nat} {L : Rg} (hl : L l < 65536) (h0 : L l ≠ 0) : phi X op K (pkL l L) (l + 1) + (1 + tmv X op (K - (l + 1)) (l + 1)) = phi X op K L (l + 1) := by
  have e1 : phi X op K (pkL l L) l = phi X op K L l := phi_cong fun k hk => upY_ne (by omega)
  have e2 : pop (pkL l L l) + 1 = pop (L l) := by
    rw [show pkL l L l = andN (L l) (2 ^ lo (L l)) from upY_at]
    exact popN_clr (lo_tb hl h0) 16 (lo_lt hl h0)
  have e3 : phi X op K (pkL l L) (l + 1) = phi X op K (pkL l L) l + (pop (pkL l L l) * (1 + tmv X op (K - (l + 1)) (l + 1)) + 1) := rfl
  have e4 : phi X op K L (l + 1) = phi X op K L l + (pop (L l) * (1 + tmv X op (K - (l + 1)) (l + 1)) + 1) := rfl
  rw [e3, e4, e1, ← e2, Nat.add_mul, Nat.one_mul]
  omega
theorem phi_good {X : Rg} {op : Nat → Nat} {K l : Nat} {L : Rg} (hl : L l < 65536) (h0 : L l ≠ 0) (hK : l + 1 < K) : phi X op K (upY (pkL l L) (l + 1) (X (op (l + 1)))) (l + 2) + 1 = phi X op K L (l + 1) := by
  have h1 := phi_bad (X := X) (op := op) (K := K) hl h0
  have e1 : phi X op K (upY (pkL l L) (l + 1) (X (op (l + 1)))) (l + 1) = phi X op K (pkL l L) (l + 1) := phi_cong fun k hk => upY_ne (by omega)
  have e2 : phi X op K (upY (pkL l L) (l + 1) (X (op (l + 1)))) (l + 2) = phi X op K (upY (pkL l L) (l + 1) (X (op (l + 1)))) (l + 1) + (pop (upY (pkL l L) (l + 1) (X (op (l + 1))) (l + 1)) * (1 + tmv X op (K - (l + 1 + 1)) (l + 1 + 1)) + 1) := rfl
  have e3 : tmv X op (K - (l + 1)) (l + 1) = pop (X (op (l + 1))) * (1 + tmv X op (K - (l + 1 + 1)) (l + 1 + 1)) + 1 := by
    rw [show K - (l + 1) = (K - (l + 1 + 1)) + 1 by omega]
    rfl
  rw [upY_at] at e2
  omega
