/-! ANSWERS, by their numbers; how many; the least; a search, depth first -/
noncomputable def cntN : Nat → (Nat → Prop) → Nat
  | 0, _ => 0
  | n + 1, P => cntN n P + @ite Nat (P n) (Classical.propDecidable _) 1 0
theorem cntN_congr {n : Nat} {P Q : Nat → Prop} (h : ∀ c, c < n → (P c ↔ Q c)) : cntN n P = cntN n Q := by
  induction n with
  | zero => rfl
  | succ n ih =>
    simp only [cntN]
    rw [ih fun c hc => h c (by omega)]
    congr 1
    by_cases hp : P n
    · rw [if_pos hp, if_pos ((h n (by omega)).mp hp)]
    · rw [if_neg hp, if_neg (fun q => hp ((h n (by omega)).mpr q))]
theorem cntN_or {n : Nat} {P Q : Nat → Prop} (h : ∀ c, c < n → ¬ (P c ∧ Q c)) : cntN n (fun c => P c ∨ Q c) = cntN n P + cntN n Q := by
  induction n with
  | zero => rfl
  | succ n ih =>
    simp only [cntN]
    rw [ih fun c hc => h c (by omega)]
    have h2 := h n (by omega)
    by_cases hp : P n
    · rw [if_pos hp, if_pos (Or.inl hp), if_neg (fun q => h2 ⟨hp, q⟩)]; omega
    · by_cases hq : Q n
      · rw [if_neg hp, if_pos (Or.inr hq), if_pos hq]; omega
      · rw [if_neg hp, if_neg (fun z => z.elim hp hq), if_neg hq]; omega
theorem cntN_0 {n : Nat} {P : Nat → Prop} (h : ∀ c, c < n → ¬ P c) : cntN n P = 0 := by
  induction n with
  | zero => rfl
  | succ n ih => simp only [cntN]; rw [ih fun c hc => h c (by omega), if_neg (h n (by omega))]
theorem cntN_1 {n c0 : Nat} {P : Nat → Prop} (h0 : c0 < n) (h : ∀ c, c < n → (P c ↔ c = c0)) : cntN n P = 1 := by
  induction n with
  | zero => omega
  | succ n ih =>
    simp only [cntN]
    by_cases e : c0 = n
    · rw [cntN_0 (fun c hc hp => by have := (h c (by omega)).mp hp; omega), if_pos ((h n (by omega)).mpr e.symm)]
    · rw [ih (by omega) fun c hc => h c (by omega), if_neg (fun hp => e ((h n (by omega)).mp hp).symm)]
theorem cntN_le {n : Nat} {P Q : Nat → Prop} (h : ∀ c, c < n → P c → Q c) : cntN n P ≤ cntN n Q := by
  induction n with
  | zero => exact Nat.le_refl _
  | succ n ih =>
    simp only [cntN]
    have h1 := ih fun c hc => h c (by omega)
    by_cases hp : P n
    · rw [if_pos hp, if_pos (h n (by omega) hp)]; omega
    · rw [if_neg hp]; omega
theorem cntN_pos {n c : Nat} {P : Nat → Prop} (hc : c < n) (h : P c) : 1 ≤ cntN n P := by
  have h1 := cntN_le (n := n) (P := fun d => d = c) (Q := P) (fun d _ e => by rw [e]; exact h)
  rw [cntN_1 hc (fun d _ => Iff.rfl)] at h1
  exact h1
theorem cntN_eq {n : Nat} {P Q : Nat → Prop} (h : ∀ c, c < n → P c → Q c) (he : cntN n P = cntN n Q) : ∀ c, c < n → Q c → P c := by
  induction n with
  | zero => intro c hc; omega
  | succ n ih =>
    simp only [cntN] at he
    have h1 := cntN_le (n := n) fun c hc => h c (by omega)
    have key : cntN n P = cntN n Q ∧ (Q n → P n) := by
      by_cases hp : P n
      · rw [if_pos hp, if_pos (h n (by omega) hp)] at he
        exact ⟨by omega, fun _ => hp⟩
      · by_cases hq : Q n
        · rw [if_neg hp, if_pos hq] at he; omega
        · rw [if_neg hp, if_neg hq] at he
          exact ⟨by omega, fun q => absurd q hq⟩
    intro c hc hq
    rcases Nat.lt_or_ge c n with h2 | h2
    · exact ih (fun c hc => h c (by omega)) key.1 c h2 hq
    · rw [show c = n by omega] at hq ⊢; exact key.2 hq
/-- an answer's number -/
def kod : Nat → An → Nat
  | 0, _ => 0
  | n + 1, A => kod n A * 16 + A n
def dek : Nat → Nat → An
  | 0, _ => fun _ => 0
  | n + 1, c => fun x => if x = n then c % 16 else dek n (c / 16) x
def lt16 (n : Nat) (A : An) : Prop := ∀ x, x < n → A x < 16
theorem kod_lt {n : Nat} {A : An} (h : lt16 n A) : kod n A < 16 ^ n := by
  induction n with
  | zero => simp [kod]
  | succ n ih =>
    have h1 := ih fun x hx => h x (by omega)
    have h2 := h n (by omega)
    simp only [kod]
    rw [Nat.pow_succ]
    omega
theorem dek_lt (n c : Nat) : lt16 n (dek n c) := by
  induction n generalizing c with
  | zero => intro x hx; omega
  | succ n ih =>
    intro x hx
    simp only [dek]
    split
    · omega
    · exact ih (c / 16) x (by omega)
theorem dek_kod {n : Nat} {A : An} (h : lt16 n A) : ∀ x, x < n → dek n (kod n A) x = A x := by
  induction n with
  | zero => intro x hx; omega
  | succ n ih =>
    intro x hx
    have h2 := h n (by omega)
    simp only [dek, kod]
    split
    · rename_i e; rw [e]; omega
    · rw [show (kod n A * 16 + A n) / 16 = kod n A by omega]
      exact ih (fun x hx => h x (by omega)) x (by omega)
theorem kod_cong {n : Nat} {A B : An} (h : ∀ x, x < n → A x = B x) : kod n A = kod n B := by
  induction n with
  | zero => rfl
  | succ n ih => simp only [kod]; rw [ih fun x hx => h x (by omega), h n (by omega)]
theorem kod_dek (n c : Nat) (h : c < 16 ^ n) : kod n (dek n c) = c := by
  induction n generalizing c with
  | zero => simp [kod] at h ⊢; omega
  | succ n ih =>
    have e : kod n (dek (n + 1) c) = kod n (dek n (c / 16)) := kod_cong fun x hx => by simp only [dek]; rw [if_neg (by omega)]
    simp only [kod]
    rw [e, ih (c / 16) (by rw [Nat.pow_succ] at h; omega)]
    simp only [dek, if_true]
    omega
theorem kod_inj {n : Nat} {A B : An} (hA : lt16 n A) (hB : lt16 n B) (h : kod n A = kod n B) : ∀ x, x < n → A x = B x := fun x hx => by
  rw [← dek_kod hA x hx, ← dek_kod hB x hx, h]
theorem kod_lex {n : Nat} {A B : An} (hA : lt16 n A) (hB : lt16 n B) : kod n A < kod n B ↔ ∃ x, x < n ∧ (∀ y, y < x → A y = B y) ∧ A x < B x := by
  induction n with
  | zero => simp [kod]
  | succ n ih =>
    have hA' : lt16 n A := fun x hx => hA x (by omega)
    have hB' : lt16 n B := fun x hx => hB x (by omega)
    have h1 := ih hA' hB'
    have h2 := hA n (by omega)
    have h3 := hB n (by omega)
    simp only [kod]
    constructor
    · intro h
      by_cases hc : kod n A < kod n B
      · obtain ⟨x, z1, z2, z3⟩ := h1.mp hc
        exact ⟨x, by omega, z2, z3⟩
      · have e : kod n A = kod n B := by omega
        exact ⟨n, by omega, kod_inj hA' hB' e, by omega⟩
    · rintro ⟨x, z1, z2, z3⟩
      rcases Nat.lt_or_ge x n with h4 | h4
      · have := h1.mpr ⟨x, h4, z2, z3⟩
        omega
      · have e : x = n := by omega
        subst e
        rw [kod_cong z2]
        omega
/-- an answer -/
def InR (U : Nat) (X : Rg) (A : An) : Prop := ∀ x, x < U → (X x).testBit (A x) = true
def FitS (T : Tb) (S : Sy) (A : An) : Prop := ∀ r, r < S.1 → S.2.2 r → fit T (S.2.1 r) A
def isAns (U : Nat) (T : Tb) (S : Sy) (X : Rg) (A : An) : Prop := InR U X A ∧ FitS T S A
theorem InR.lt {U : Nat} {X : Rg} {A : An} (hX : ∀ x, x < U → X x < 65536) (h : InR U X A) : lt16 U A := fun x hx => tb_lt (hX x hx) (h x hx)
theorem InR.cong {U : Nat} {X : Rg} {A B : An} (h : ∀ x, x < U → A x = B x) (hA : InR U X A) : InR U X B := fun x hx => by rw [← h x hx]; exact hA x hx
theorem FitS.cong {U : Nat} {T : Tb} {S : Sy} {A B : An} (hS : SyOk U S) (h : ∀ x, x < U → A x = B x) (hA : FitS T S A) : FitS T S B := fun r hr hon => fit_cong (fun k hk => h _ ((hS r hr hon).2.1 k hk)) (hA r hr hon)
theorem isAns.cong {U : Nat} {T : Tb} {S : Sy} {X : Rg} {A B : An} (hS : SyOk U S) (h : ∀ x, x < U → A x = B x) (hA : isAns U T S X A) : isAns U T S X B := ⟨hA.1.cong h, hA.2.cong hS h⟩
/-- how many numbers' answers are so -/
noncomputable def nmb (U : Nat) (P : An → Prop) : Nat := cntN (16 ^ U) (fun c => P (dek U c))
noncomputable def nAns (U : Nat) (T : Tb) (S : Sy) (X : Rg) : Nat := nmb U (isAns U T S X)
def isLst (U : Nat) (P : An → Prop) (A : An) : Prop := P A ∧ ∀ B, P B → kod U A ≤ kod U B
theorem isLst.one {U : Nat} {P : An → Prop} {A B : An} (hl : ∀ A, P A → lt16 U A) (hA : isLst U P A) (hB : isLst U P B) : ∀ x, x < U → A x = B x :=
  kod_inj (hl A hA.1) (hl B hB.1) (Nat.le_antisymm (hA.2 B hB.1) (hB.2 A hA.1))
theorem isLst.ex {U : Nat} {P : An → Prop} (h : ∃ A, P A) : ∃ A, isLst U P A := by
  obtain ⟨A, hA⟩ := h
  have key : ∀ n A, kod U A = n → P A → ∃ A, isLst U P A := by
    intro n
    induction n using Nat.strongRecOn with
    | ind n ih =>
      intro A e hA
      by_cases hs : ∃ B, P B ∧ kod U B < n
      · obtain ⟨B, h1, h2⟩ := hs
        exact ih _ h2 B rfl h1
      · exact ⟨A, hA, fun B hB => by
          rcases Nat.lt_or_ge (kod U B) n with h1 | h1
          · exact absurd ⟨B, hB, h1⟩ hs
          · omega⟩
  exact key _ A rfl hA
theorem isLst.cong {U : Nat} {P : An → Prop} {A B : An} (hP : P B) (h : ∀ x, x < U → A x = B x) (hA : isLst U P A) : isLst U P B := ⟨hP, fun C hC => by rw [← kod_cong h]; exact hA.2 C hC⟩
theorem isLst.iff {U : Nat} {P Q : An → Prop} {A : An} (h : ∀ B, P B ↔ Q B) (hA : isLst U P A) : isLst U Q A := ⟨(h A).mp hA.1, fun C hC => hA.2 C ((h C).mpr hC)⟩
/-- the least one, as a function -/
noncomputable def lstA (U : Nat) (P : An → Prop) : An := @dite An (∃ A, isLst U P A) (Classical.propDecidable _) (fun h => Classical.choose h) (fun _ => fun _ => 0)
theorem lstA_ok {U : Nat} {P : An → Prop} (h : ∃ A, P A) : isLst U P (lstA U P) := by
  have h2 := isLst.ex (U := U) h
  unfold lstA
  rw [dif_pos h2]
  exact Classical.choose_spec h2
theorem lstA_eq {U : Nat} {P : An → Prop} {A : An} (hl : ∀ A, P A → lt16 U A) (hA : isLst U P A) : ∀ x, x < U → lstA U P x = A x := (lstA_ok ⟨A, hA.1⟩).one hl hA
theorem nmb_or {U : Nat} {P Q : An → Prop} (h : ∀ A, ¬ (P A ∧ Q A)) : nmb U (fun A => P A ∨ Q A) = nmb U P + nmb U Q := cntN_or fun c _ => h _
theorem nmb_congr {U : Nat} {P Q : An → Prop} (h : ∀ A, lt16 U A → (P A ↔ Q A)) : nmb U P = nmb U Q := cntN_congr fun c _ => h _ (dek_lt U c)
theorem nmb_0 {U : Nat} {P : An → Prop} (h : ∀ A, lt16 U A → ¬ P A) : nmb U P = 0 := cntN_0 fun c _ => h _ (dek_lt U c)
theorem nmb_le {U : Nat} {P Q : An → Prop} (h : ∀ A, lt16 U A → P A → Q A) : nmb U P ≤ nmb U Q := cntN_le fun c _ => h _ (dek_lt U c)
/-- just one, up to the numbers of the unknowns -/
theorem nmb_1 {U : Nat} {P : An → Prop} {A0 : An} (h0 : lt16 U A0) (h : ∀ A, lt16 U A → (P A ↔ ∀ x, x < U → A x = A0 x)) : nmb U P = 1 := cntN_1 (c0 := kod U A0) (kod_lt h0) fun c hc => by
  rw [h _ (dek_lt U c)]
  constructor
  · intro z; rw [← kod_dek U c hc]; exact kod_cong z
  · intro z; rw [z]; exact dek_kod h0
theorem nmb_pos {U : Nat} {P : An → Prop} {A : An} (hc : ∀ A B, (∀ x, x < U → A x = B x) → P A → P B) (hA : lt16 U A) (h : P A) : 1 ≤ nmb U P := cntN_pos (kod_lt hA) (hc A _ (fun x hx => (dek_kod hA x hx).symm) h)
theorem nmb_z {U : Nat} {P : An → Prop} (hc : ∀ A B, (∀ x, x < U → A x = B x) → P A → P B) (hl : ∀ A, P A → lt16 U A) (h : nmb U P = 0) : ∀ A, ¬ P A := fun A hA => by have := nmb_pos hc (hl A hA) hA; omega
theorem nmb_ex {U : Nat} {P : An → Prop} (h : nmb U P ≠ 0) : ∃ A, P A := Classical.byContradiction fun n => h (nmb_0 fun A _ hA => n ⟨A, hA⟩)
/-- how many ranges ahead of n have several numbers -/
def chN (X : Rg) : Nat → Nat
  | 0 => 0
  | n + 1 => chN X n + (if pop (X n) = 1 then 0 else 1)
theorem chN_1 {X : Rg} {n : Nat} (h : pop (X n) = 1) : chN X (n + 1) = chN X n := by simp only [chN]; rw [if_pos h]; omega
theorem chN_2 {X : Rg} {n : Nat} (h : pop (X n) ≠ 1) : chN X (n + 1) = chN X n + 1 := by simp only [chN]; rw [if_neg h]
theorem chN_mono {X : Rg} {a b : Nat} (h : a ≤ b) : chN X a ≤ chN X b := by
  induction b with
  | zero => rw [show a = 0 by omega]; exact Nat.le_refl _
  | succ b ih =>
    rcases Nat.lt_or_ge b a with h1 | h1
    · rw [show a = b + 1 by omega]; exact Nat.le_refl _
    · have := ih h1
      by_cases hp : pop (X b) = 1
      · rw [chN_1 hp]; exact this
      · rw [chN_2 hp]; omega
theorem chN_le (X : Rg) (n : Nat) : chN X n ≤ n := by
  induction n with
  | zero => exact Nat.le_refl _
  | succ n ih => simp only [chN]; split <;> omega
theorem chN_sur {X : Rg} {n k : Nat} (h : k < chN X n) : ∃ y, y < n ∧ pop (X y) ≠ 1 ∧ chN X y = k := by
  induction n with
  | zero => simp [chN] at h
  | succ n ih =>
    by_cases hp : pop (X n) = 1
    · rw [chN_1 hp] at h
      obtain ⟨y, h1, h2⟩ := ih h
      exact ⟨y, by omega, h2⟩
    · rw [chN_2 hp] at h
      rcases Nat.lt_or_ge k (chN X n) with h1 | h1
      · obtain ⟨y, h1, h2⟩ := ih h1
        exact ⟨y, by omega, h2⟩
      · exact ⟨n, by omega, hp, by omega⟩
def stX (X : Rg) (x : Nat) : Nat := if pop (X x) = 1 then 0 else chN X x + 1
/-- the unknowns that are open, in order -/
def OpOk (U : Nat) (X : Rg) (op : Nat → Nat) : Prop := ∀ y, y < U → pop (X y) ≠ 1 → op (chN X y) = y
theorem OpOk.at {U : Nat} {X : Rg} {op : Nat → Nat} (h : OpOk U X op) {k : Nat} (hk : k < chN X U) : op k < U ∧ pop (X (op k)) ≠ 1 ∧ chN X (op k) = k := by
  obtain ⟨y, h1, h2, h3⟩ := chN_sur hk
  have e := h y h1 h2
  rw [h3] at e
  rw [e]
  exact ⟨h1, h2, h3⟩
theorem OpOk.inj {U : Nat} {X : Rg} {op : Nat → Nat} (h : OpOk U X op) {j k : Nat} (hj : j < chN X U) (hk : k < chN X U) (e : op j = op k) : j = k := by
  have h1 := (h.at hj).2.2
  have h2 := (h.at hk).2.2
  rw [e] at h1
  omega
theorem OpOk.lt {U : Nat} {X : Rg} {op : Nat → Nat} (h : OpOk U X op) {j k : Nat} (hj : j < chN X U) (hk : k < chN X U) (e : j < k) : op j < op k := by
  rcases Nat.lt_or_ge (op j) (op k) with h1 | h1
  · exact h1
  · have h2 := chN_mono (X := X) h1
    rw [(h.at hj).2.2, (h.at hk).2.2] at h2
    omega
/-- the last stage of a rule -/
def lsN (X : Rg) (R : RC) : Nat → Nat
  | 0 => 0
  | n + 1 => max (lsN X R n) (stX X (rO R n))
theorem lsN_le {X : Rg} {R : RC} {n s : Nat} : lsN X R n ≤ s ↔ ∀ k, k < n → stX X (rO R k) ≤ s := by
  induction n with
  | zero => simp [lsN]
  | succ n ih =>
    simp only [lsN]
    rw [Nat.max_le, ih]
    constructor
    · rintro ⟨h1, h2⟩ k hk
      rcases Nat.lt_or_ge k n with h3 | h3
      · exact h1 k h3
      · rw [show k = n by omega]; exact h2
    · intro h
      exact ⟨fun k hk => h k (by omega), h n (by omega)⟩
theorem stX_le {X : Rg} {U x : Nat} (hx : x < U) : stX X x ≤ chN X U := by
  unfold stX
  split
  · omega
  · rename_i h
    have := chN_mono (X := X) (show x + 1 ≤ U by omega)
    rw [chN_2 h] at this
    exact this
/-- numbers agree where one number is, and at the first s that are open -/
def Agr (U : Nat) (X : Rg) (s : Nat) (A B : An) : Prop := ∀ x, x < U → stX X x ≤ s → A x = B x
theorem Agr.fit {U : Nat} {T : Tb} {R : RC} {X : Rg} {s : Nat} {A B : An} (hW : WR U R) (h : Agr U X s A B) (hl : lsN X R (rN R) ≤ s) (hf : fit T R A) : fit T R B :=
  fit_cong (fun k hk => h _ (hW.2.1 k hk) (lsN_le.mp hl k hk)) hf
theorem one_lo {a j : Nat} (ha : a < 65536) (h : pop a = 1) (hj : a.testBit j = true) : j = lo a := by
  have h0 := tb_ne0 hj
  rcases Nat.lt_trichotomy j (lo a) with h1 | h1 | h1
  · rw [lo_below h1] at hj; cases hj
  · exact h1
  · have h2 := popN_clr (lo_tb ha h0) 16 (lo_lt ha h0)
    have h3 : (andN a (2 ^ lo a)).testBit j = true := by rw [andN_tb, hj, Nat.testBit_two_pow]; simp; omega
    have h4 := popN_pos h3 (tb_lt ha hj)
    have h5 : popN 16 a = 1 := h
    omega
