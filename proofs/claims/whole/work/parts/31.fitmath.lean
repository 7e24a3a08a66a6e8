/-! WHAT FITS A RULE; what fits is not taken -/
abbrev An : Type := Nat → Nat
def fS (R : RC) (A : An) (n : Nat) : Int := sumI n (fun k => rA R k * (A (rO R k) : Int))
def fSum (R : RC) (A : An) : Prop := (rS R = 0 ∧ fS R A (rN R) ≤ rB R) ∨ (rS R = 1 ∧ fS R A (rN R) = rB R) ∨ (rS R ≠ 0 ∧ rS R ≠ 1 ∧ fS R A (rN R) ≠ rB R)
def fUnl (R : RC) (A : An) (n : Nat) : Prop := ∀ j k, j < k → k < n → A (rO R j) ≠ A (rO R k)
def fTab (T : Tb) (R : RC) (A : An) : Prop := ∃ q, rowOk T R q ∧ ∀ k, k < rN R → T.2 (rS R).toNat (q * rN R + k) = A (rO R k)
def runs (R : RC) (A : An) (t k : Nat) : Prop := A (rO R k) ≤ t ∧ (t : Int) < A (rO R k) + rA R k
noncomputable def fLd (R : RC) (A : An) (t n : Nat) : Int := sumI n (fun k => @ite Int (runs R A t k) (Classical.propDecidable _) (rZ R k) 0)
def fLoad (R : RC) (A : An) : Prop := ∀ t : Nat, fLd R A t (rN R) ≤ rS R
def pt (R : RC) (A : An) : Nat → Nat
  | 0 => 0
  | j + 1 => A (rO R (pt R A j))
def fRing (R : RC) (A : An) : Prop := rN R = 0 ∨ (pt R A (rN R) = 0 ∧ ∀ j, 0 < j → j < rN R → 0 < pt R A j ∧ pt R A j < rN R)
def fCl (R : RC) (A : An) : Prop := ∃ k, k < rN R ∧ (rA R k).toNat.testBit (A (rO R k)) = true
def fit (T : Tb) (R : RC) (A : An) : Prop := match rK R with
  | 0 => fSum R A
  | 1 => fUnl R A (rN R)
  | 2 => fTab T R A
  | 3 => fLoad R A
  | 4 => fRing R A
  | _ => fCl R A
theorem fit_0 {T : Tb} {R : RC} {A : An} (h : rK R = 0) : fit T R A ↔ fSum R A := by unfold fit; rw [h]; exact Iff.rfl
theorem fit_1 {T : Tb} {R : RC} {A : An} (h : rK R = 1) : fit T R A ↔ fUnl R A (rN R) := by unfold fit; rw [h]; exact Iff.rfl
theorem fit_2 {T : Tb} {R : RC} {A : An} (h : rK R = 2) : fit T R A ↔ fTab T R A := by unfold fit; rw [h]; exact Iff.rfl
theorem fit_3 {T : Tb} {R : RC} {A : An} (h : rK R = 3) : fit T R A ↔ fLoad R A := by unfold fit; rw [h]; exact Iff.rfl
theorem fit_4 {T : Tb} {R : RC} {A : An} (h : rK R = 4) : fit T R A ↔ fRing R A := by unfold fit; rw [h]; exact Iff.rfl
theorem fit_5 {T : Tb} {R : RC} {A : An} (h : rK R = 5) : fit T R A ↔ fCl R A := by unfold fit; rw [h]; exact Iff.rfl
theorem fS_bd {R : RC} {A : An} {n : Nat} (hn : n ≤ 6) (ha : ∀ k, k < n → -9 ≤ rA R k ∧ rA R k ≤ 9) (hA : ∀ k, k < n → A (rO R k) < 16) : -810 ≤ fS R A n ∧ fS R A n ≤ 810 := by
  have h1 := sumI_bd (n := n) (f := fun k => rA R k * (A (rO R k) : Int)) (b := 135) (fun k hk => by
    have := mul_bd (a := rA R k) (v := A (rO R k)) (B := 9) (C := 15) (ha k hk) (by have := hA k hk; omega) (by decide)
    omega)
  unfold fS
  omega
theorem fLd_bd {R : RC} {A : An} {t n : Nat} (hn : n ≤ 6) (h : ∀ k, k < n → 0 ≤ rZ R k ∧ rZ R k ≤ 20) : -120 ≤ fLd R A t n ∧ fLd R A t n ≤ 120 := by
  have h1 := sumI_bd (n := n) (f := fun k => @ite Int (runs R A t k) (Classical.propDecidable _) (rZ R k) 0) (b := 20) (fun k hk => by
    have := h k hk
    try dsimp only
    split <;> omega)
  unfold fLd
  omega
theorem fLd_t {R : RC} {A : An} {t n : Nat} (h : runs R A t n) : fLd R A t (n + 1) = fLd R A t n + rZ R n := by simp only [fLd, sumI]; rw [if_pos h]
theorem fLd_f {R : RC} {A : An} {t n : Nat} (h : ¬ runs R A t n) : fLd R A t (n + 1) = fLd R A t n := by simp only [fLd, sumI]; rw [if_neg h, Int.add_zero]
theorem fUnl_s {R : RC} {A : An} {n : Nat} (h : fUnl R A n) (h2 : ∀ j, j < n → A (rO R j) ≠ A (rO R n)) : fUnl R A (n + 1) := fun j k hj hk => by
  rcases Nat.lt_or_ge k n with h3 | h3
  · exact h j k hj h3
  · rw [show k = n by omega] at hj ⊢; exact h2 j hj
/-- the load is greatest where some job begins -/
theorem fLoad_at {R : RC} {A : An} (hs : 0 ≤ rS R) (hz : ∀ k, k < rN R → 0 ≤ rZ R k) (h : ∀ i, i < rN R → fLd R A (A (rO R i)) (rN R) ≤ rS R) : fLoad R A := by
  intro t
  -- the latest beginning of those that run at t, among the first n
  have key : ∀ n, n ≤ rN R → (∀ k, k < n → ¬ runs R A t k) ∨ ∃ i, i < n ∧ runs R A t i ∧ ∀ k, k < n → runs R A t k → A (rO R k) ≤ A (rO R i) := by
    intro n
    induction n with
    | zero => intro _; exact Or.inl fun k hk => absurd hk (by omega)
    | succ n ih =>
      intro hn
      by_cases hr : runs R A t n
      · rcases ih (by omega) with h1 | ⟨i, h1, h2, h3⟩
        · refine Or.inr ⟨n, by omega, hr, fun k hk hk2 => ?_⟩
          rcases Nat.lt_or_ge k n with h4 | h4
          · exact absurd hk2 (h1 k h4)
          · rw [show k = n by omega]; exact Nat.le_refl _
        · rcases Nat.lt_or_ge (A (rO R i)) (A (rO R n)) with h5 | h5
          · refine Or.inr ⟨n, by omega, hr, fun k hk hk2 => ?_⟩
            rcases Nat.lt_or_ge k n with h4 | h4
            · have := h3 k h4 hk2; omega
            · rw [show k = n by omega]; exact Nat.le_refl _
          · refine Or.inr ⟨i, by omega, h2, fun k hk hk2 => ?_⟩
            rcases Nat.lt_or_ge k n with h4 | h4
            · exact h3 k h4 hk2
            · rw [show k = n by omega]; exact h5
      · rcases ih (by omega) with h1 | ⟨i, h1, h2, h3⟩
        · refine Or.inl fun k hk => ?_
          rcases Nat.lt_or_ge k n with h4 | h4
          · exact h1 k h4
          · rw [show k = n by omega]; exact hr
        · refine Or.inr ⟨i, by omega, h2, fun k hk hk2 => ?_⟩
          rcases Nat.lt_or_ge k n with h4 | h4
          · exact h3 k h4 hk2
          · rw [show k = n by omega] at hk2; exact absurd hk2 hr
  rcases key (rN R) (Nat.le_refl _) with h1 | ⟨i, h1, h2, h3⟩
  · have e : fLd R A t (rN R) = 0 := by
      have h4 := sumI_bd (n := rN R) (f := fun k => @ite Int (runs R A t k) (Classical.propDecidable _) (rZ R k) 0) (b := 0) (fun k hk => by
        try dsimp only
        rw [if_neg (h1 k hk)]; omega)
      unfold fLd
      omega
    omega
  · have h4 : fLd R A t (rN R) ≤ fLd R A (A (rO R i)) (rN R) := sumI_le fun k hk => by
      try dsimp only
      split
      · rename_i hr
        have h5 := h3 k hk hr
        rw [if_pos ⟨h5, by have := hr.2; have := h2.1; omega⟩]; exact Int.le_refl _
      · split
        · exact hz k hk
        · exact Int.le_refl _
    have := h i h1
    omega
-- the ring's path
theorem pt_per {R : RC} {A : An} {n : Nat} (h : pt R A n = 0) (m : Nat) : pt R A (m + n) = pt R A m := by
  induction m with
  | zero => rw [Nat.zero_add, h]; rfl
  | succ m ih => rw [show m + 1 + n = (m + n) + 1 by omega]; simp only [pt]; rw [ih]
theorem pt_lt {R : RC} {A : An} {n : Nat} (hn : 0 < n) (h : pt R A n = 0) (h2 : ∀ j, 0 < j → j < n → 0 < pt R A j ∧ pt R A j < n) : ∀ m, pt R A m < n := by
  intro m
  induction m using Nat.strongRecOn with
  | ind m ih =>
    rcases Nat.lt_or_ge m n with h3 | h3
    · by_cases h0 : m = 0
      · subst h0; exact hn
      · exact (h2 m (by omega) h3).2
    · have := pt_per h (m - n)
      rw [show m - n + n = m by omega] at this
      rw [this]
      exact ih (m - n) (by omega)
theorem pt_add {R : RC} {A : An} {i j : Nat} (h : pt R A i = pt R A j) (d : Nat) : pt R A (i + d) = pt R A (j + d) := by
  induction d with
  | zero => exact h
  | succ d ih => rw [← Nat.add_assoc, ← Nat.add_assoc]; simp only [pt]; rw [ih]
theorem pt_inj {R : RC} {A : An} {n : Nat} (h : pt R A n = 0) (h2 : ∀ j, 0 < j → j < n → 0 < pt R A j ∧ pt R A j < n) {i j : Nat} (hij : i < j) (hj : j < n) : pt R A i ≠ pt R A j := fun e => by
  have h3 := pt_add e (n - j)
  rw [show j + (n - j) = n by omega, h] at h3
  have := (h2 (i + (n - j)) (by omega) (by omega)).1
  omega
theorem pt_cyc {R : RC} {A : An} {n : Nat} (h : pt R A n = 0) (h2 : ∀ j, 0 < j → j < n → 0 < pt R A j ∧ pt R A j < n) {a d : Nat} (ha : a < n) (hd : 0 < d) (hdn : d < n) : pt R A (a + d) ≠ pt R A a := fun e => by
  rcases Nat.lt_or_ge (a + d) n with h3 | h3
  · exact pt_inj h h2 (show a < a + d by omega) h3 e.symm
  · have h4 := pt_per h (a + d - n)
    rw [show a + d - n + n = a + d by omega] at h4
    exact pt_inj h h2 (show a + d - n < a by omega) ha (h4.symm.trans e)
/-- as many as there are places: every place is taken -/
theorem pig (n : Nat) : ∀ f : Nat → Nat, (∀ i, i < n → f i < n) → (∀ i j, i < j → j < n → f i ≠ f j) → ∀ a, a < n → ∃ j, j < n ∧ f j = a := by
  induction n with
  | zero => intro f _ _ a ha; omega
  | succ n ih =>
    intro f h1 h2 a ha
    have h3 := ih (fun i => if f i = n then f n else f i) (fun i hi => by
        try dsimp only
        have h4 := h1 i (by omega)
        have h5 := h1 n (by omega)
        have h6 := h2 i n hi (by omega)
        split <;> omega) (fun i j hij hj => by
        try dsimp only
        have h4 := h2 i j hij (by omega)
        have h5 := h2 i n (by omega) (by omega)
        have h6 := h2 j n (by omega) (by omega)
        split <;> split <;> omega)
    by_cases hn : f n = n
    · rcases Nat.lt_or_ge a n with h4 | h4
      · obtain ⟨j, h5, h6⟩ := h3 a h4
        try dsimp only at h6
        split at h6
        · exact ⟨n, by omega, h6⟩
        · exact ⟨j, by omega, h6⟩
      · exact ⟨n, by omega, by omega⟩
    · have h7 := h1 n (by omega)
      rcases Nat.lt_or_ge a n with h4 | h4
      · obtain ⟨j, h5, h6⟩ := h3 a h4
        try dsimp only at h6
        split at h6
        · exact ⟨n, by omega, h6⟩
        · exact ⟨j, by omega, h6⟩
      · obtain ⟨j, h5, h6⟩ := h3 (f n) (by omega)
        try dsimp only at h6
        split at h6
        · exact ⟨j, by omega, by omega⟩
        · exact absurd h6 (h2 j n h5 (by omega))
-- one number each
theorem lo_pow {a : Nat} (h : a < 16) : lo (2 ^ a) = a := (lo_eq (m := 2 ^ a) (k := a) (by rw [Nat.testBit_two_pow]; simp) (fun j hj => by rw [Nat.testBit_two_pow]; simp; omega) (by have := pow_le16 h; omega)).symm
theorem hi_pow {a : Nat} : hi (2 ^ a) = a := Nat.log2_two_pow
theorem tb_pow {a v : Nat} : (2 ^ a).testBit v = true ↔ a = v := by rw [Nat.testBit_two_pow]; simp
theorem pop_or {m a : Nat} (n : Nat) (ha : a < n) (h : m.testBit a = false) : popN n (m ||| 2 ^ a) = popN n m + 1 := by
  have h1 := popN_clr (m := m ||| 2 ^ a) (k := a) (by rw [Nat.testBit_or, Nat.testBit_two_pow]; simp) n ha
  rw [← h1]
  congr 2
  apply Nat.eq_of_testBit_eq
  intro j
  rw [andN_tb, Nat.testBit_or, Nat.testBit_two_pow]
  by_cases e : a = j
  · subst e; simp [h]
  · simp [e]
theorem popN_ext {S n : Nat} (h : S < 2 ^ n) (d : Nat) : popN (n + d) S = popN n S := by
  induction d with
  | zero => rfl
  | succ d ih =>
    rw [← Nat.add_assoc]
    simp only [popN]
    rw [ih, Nat.testBit_lt_two_pow (Nat.lt_of_lt_of_le h (Nat.pow_le_pow_right (by decide) (by omega)))]
    simp [b2]
theorem uni_one {n : Nat} {f : Nat → Nat} {S : Nat} (hf : ∀ k, k < n → f k < 16) (hd : ∀ j k, j < k → k < n → f j ≠ f k) : popN n S ≤ pop (uni n (fun k => 2 ^ f k) S) := by
  induction n with
  | zero => exact Nat.zero_le _
  | succ n ih =>
    have h1 := ih (fun k hk => hf k (by omega)) (fun j k hj hk => hd j k hj (by omega))
    have e1 : popN (n + 1) S = popN n S + b2 (S.testBit n) := rfl
    have e2 : uni (n + 1) (fun k => 2 ^ f k) S = uni n (fun k => 2 ^ f k) S ||| (if S.testBit n then 2 ^ f n else 0) := rfl
    rw [e1, e2]
    cases hS : S.testBit n with
    | false =>
      rw [if_neg (by decide), Nat.or_zero]
      exact h1
    | true =>
      rw [if_pos rfl]
      have h2 : pop (uni n (fun k => 2 ^ f k) S ||| 2 ^ f n) = pop (uni n (fun k => 2 ^ f k) S) + 1 := pop_or 16 (hf n (by omega)) (by
        cases hb : (uni n (fun k => 2 ^ f k) S).testBit (f n) with
        | false => rfl
        | true =>
          obtain ⟨k, k1, k2, k3⟩ := (uni_tb _ _ _ _).mp hb
          exact absurd (tb_pow.mp k3) (hd k n k1 (by omega)))
      rw [h2]
      exact Nat.add_le_add_right h1 1
theorem must_one {a t : Nat} {len : Int} (ha : a < 16) : must (2 ^ a) t len ↔ a ≤ t ∧ (t : Int) < a + len := by
  unfold must
  rw [hi_pow, lo_pow ha]
theorem no_unl {R : RC} {A : An} {i : Nat} (h6 : rN R ≤ 6) (hA : ∀ k, k < rN R → A (rO R k) < 16) (hf : fUnl R A (rN R)) : ¬ gUnl R (fun x => 2 ^ A x) i (A (rO R i)) := fun ⟨S, h1, h2⟩ => by
  have e : (fun k => if k = i then 2 ^ A (rO R i) else 2 ^ A (rO R k)) = fun k => 2 ^ A (rO R k) := by
    funext k
    split
    · rename_i hk; rw [hk]
    · rfl
  have h3 := uni_one (n := rN R) (f := fun k => A (rO R k)) (S := S) hA hf
  rw [show pop S = popN (rN R) S by have := popN_ext h1 (16 - rN R); rw [show rN R + (16 - rN R) = 16 by omega] at this; exact this] at h2
  rw [e] at h2
  omega
theorem fit_no {U : Nat} {T : Tb} {R : RC} {A : An} (hW : WR U R) (hA : ∀ k, k < rN R → A (rO R k) < 16) (hf : fit T R A) {i : Nat} (hi : i < rN R) : ¬ goes T R (fun x => 2 ^ A x) i (A (rO R i)) := by
  have h6 := hW.1.2.1
  have hk5 := hW.1.1
  have hcs : rK R = 0 ∨ rK R = 1 ∨ rK R = 2 ∨ rK R = 3 ∨ rK R = 4 ∨ rK R = 5 := by omega
  rcases hcs with hk | hk | hk | hk | hk | hk
  · rw [goes_0 hk]; rw [fit_0 hk] at hf
    obtain ⟨hs0, hb0, hA0⟩ := hW.2.2.1 hk
    have e1 : sLow R (fun x => 2 ^ A x) i = sumI (rN R) (fun k => if k = i then 0 else rA R k * (A (rO R k) : Int)) := sumI_congr fun k hk => by
      try dsimp only
      split
      · rfl
      · unfold mn; rw [lo_pow (hA k hk), hi_pow]; split <;> rfl
    have e2 : sHigh R (fun x => 2 ^ A x) i = sumI (rN R) (fun k => if k = i then 0 else rA R k * (A (rO R k) : Int)) := sumI_congr fun k hk => by
      try dsimp only
      split
      · rfl
      · unfold mx; rw [lo_pow (hA k hk), hi_pow]; split <;> rfl
    have e3 : fS R A (rN R) = rA R i * (A (rO R i) : Int) + sumI (rN R) (fun k => if k = i then 0 else rA R k * (A (rO R k) : Int)) := sumI_but hi
    rintro (⟨h1, h2, h3⟩ | ⟨h1, h2⟩)
    · rw [e1, ← e3] at h3
      rcases hf with hf | hf | hf
      · omega
      · omega
      · exact hf.2.2 h3
    · rw [e1, e2, ← e3] at h2
      rcases hf with hf | hf | hf
      · omega
      · omega
      · omega
  · rw [goes_1 hk]; rw [fit_1 hk] at hf
    exact no_unl h6 hA hf
  · rw [goes_2 hk]; rw [fit_2 hk] at hf
    obtain ⟨q, h1, h2⟩ := hf
    refine fun h3 => h3 ⟨q, h1, fun k hk => ?_⟩
    rw [h2 k hk]
    split
    · rename_i e; rw [e]
    · exact tb_pow.mpr rfl
  · rw [goes_3 hk]; rw [fit_3 hk] at hf
    rintro ⟨t, h1, h2, h3⟩
    have h4 := hf t
    have e1 : needAt R (fun x => 2 ^ A x) i t = sumI (rN R) (fun k => if k = i then 0 else @ite Int (runs R A t k) (Classical.propDecidable _) (rZ R k) 0) := sumI_congr fun k hk => by
      try dsimp only
      by_cases e : k = i
      · rw [if_pos e, if_neg (fun z => z.1 e)]
      · rw [if_neg e]
        by_cases hm : runs R A t k
        · rw [if_pos hm, if_pos ⟨e, (must_one (hA k hk)).mpr hm⟩]
        · rw [if_neg hm, if_neg (fun z => hm ((must_one (hA k hk)).mp z.2))]
    have e2 : fLd R A t (rN R) = (@ite Int (runs R A t i) (Classical.propDecidable _) (rZ R i) 0) + sumI (rN R) (fun k => if k = i then 0 else @ite Int (runs R A t k) (Classical.propDecidable _) (rZ R k) 0) := sumI_but hi
    rw [if_pos ⟨h1, h2⟩, ← e1] at e2
    omega
  · rw [goes_4 hk]; rw [fit_4 hk] at hf
    rcases hf with hf | ⟨hf, hf2⟩
    · omega
    have hn : 0 < rN R := by omega
    have hlt := pt_lt hn hf hf2
    have hsur := pig (rN R) (pt R A) (fun j _ => hlt j) (fun a b hab hb => pt_inj hf hf2 hab hb)
    obtain ⟨a, ha, hai⟩ := hsur i hi
    have hnx : A (rO R i) = pt R A (a + 1) := by simp only [pt]; rw [hai]
    rintro (h1 | h1 | ⟨j, h1, h2, h3⟩)
    · have := hlt (a + 1); omega
    · refine no_unl h6 hA (fun j k hjk hkn => ?_) h1
      obtain ⟨b, hb, hbj⟩ := hsur j (by omega)
      obtain ⟨c, hc, hck⟩ := hsur k hkn
      intro e
      have e2 : pt R A (b + 1) = pt R A (c + 1) := by simp only [pt]; rw [hbj, hck, e]
      have hbc : b ≠ c := fun z => by rw [z, hck] at hbj; omega
      rcases Nat.lt_or_ge (b + 1) (rN R) with q1 | q1
      · rcases Nat.lt_or_ge (c + 1) (rN R) with q2 | q2
        · rcases Nat.lt_or_ge b c with q3 | q3
          · exact pt_inj hf hf2 (show b + 1 < c + 1 by omega) q2 e2
          · exact pt_inj hf hf2 (show c + 1 < b + 1 by omega) q1 e2.symm
        · have := (hf2 (b + 1) (by omega) q1).1
          rw [e2, show c + 1 = rN R by omega, hf] at this
          omega
      · rcases Nat.lt_or_ge (c + 1) (rN R) with q2 | q2
        · have := (hf2 (c + 1) (by omega) q2).1
          rw [← e2, show b + 1 = rN R by omega, hf] at this
          omega
        · omega
    · have hp : ∀ j, pth R (fun x => 2 ^ A x) (A (rO R i)) j = pt R A (a + 1 + j) := by
        intro j
        induction j with
        | zero => exact hnx
        | succ j ih =>
          simp only [pth]
          rw [ih, lo_pow (hA _ (hlt _))]
          rfl
      rw [hp j, show a + 1 + j = a + (j + 1) by omega, ← hai] at h2
      exact pt_cyc hf hf2 ha (by omega) h1 h2
  · rw [goes_5 hk]; rw [fit_5 hk] at hf
    obtain ⟨k, h1, h2⟩ := hf
    intro h3
    have h4 := h3 k h1
    have h5 : ((2 ^ A (rO R k)) &&& (rA R k).toNat).testBit (A (rO R k)) = true := by rw [Nat.testBit_and, h2, tb_pow.mpr rfl]; rfl
    have e : (if rO R k = rO R i then 2 ^ A (rO R i) else 2 ^ A (rO R k)) = 2 ^ A (rO R k) := by
      split
      · rename_i e; rw [e]
      · rfl
    try dsimp only at h4
    rw [e] at h4
    rw [h4, Nat.zero_testBit] at h5
    cases h5
/-- what fits all rules stays -/
theorem ans_in {U : Nat} {T : Tb} {S : Sy} {X0 : Rg} {A : An} (hS : SyOk U S) (hX : ∀ x, x < U → X0 x < 65536) (hA : ∀ x, x < U → (X0 x).testBit (A x) = true) (hf : ∀ r, r < S.1 → S.2.2 r → fit T (S.2.1 r) A) : Cand U T S X0 (fun x => 2 ^ A x) := by
  have h16 : ∀ x, x < U → A x < 16 := fun x hx => tb_lt (hX x hx) (hA x hx)
  refine ⟨fun x hx => ⟨by have : 0 < 2 ^ A x := Nat.pow_pos (by decide); show 2 ^ A x ≠ 0; omega, by have := pow_le16 (h16 x hx); show 2 ^ A x < 65536; omega⟩, fun x hx j hj => ?_, fun r hr hon i hi v hv => ?_⟩
  · rw [← tb_pow.mp hj]; exact hA x hx
  · rw [← tb_pow.mp hv]
    exact fit_no (hS r hr hon) (fun k hk => h16 _ ((hS r hr hon).2.1 k hk)) (hf r hr hon) hi
/-- the numbers of the rule's unknowns alone count -/
theorem fit_cong {T : Tb} {R : RC} {A B : An} (h : ∀ k, k < rN R → A (rO R k) = B (rO R k)) (hf : fit T R A) : fit T R B := by
  unfold fit at hf ⊢
  split at hf
  · have e : fS R A (rN R) = fS R B (rN R) := sumI_congr fun k hk => by rw [h k hk]
    unfold fSum at hf ⊢
    rw [← e]; exact hf
  · intro j k hjk hk; rw [← h j (by omega), ← h k hk]; exact hf j k hjk hk
  · obtain ⟨q, h1, h2⟩ := hf
    exact ⟨q, h1, fun k hk => by rw [← h k hk]; exact h2 k hk⟩
  · intro t
    have e : fLd R A t (rN R) = fLd R B t (rN R) := sumI_congr fun k hk => by
      try dsimp only
      unfold runs
      rw [h k hk]
    rw [← e]; exact hf t
  · rcases hf with hf | ⟨hf, hf2⟩
    · exact Or.inl hf
    · by_cases hn : rN R = 0
      · exact Or.inl hn
      have e : ∀ j, pt R B j = pt R A j := by
        intro j
        induction j with
        | zero => rfl
        | succ j ih => simp only [pt]; rw [ih, h _ (pt_lt (by omega) hf hf2 j)]
      exact Or.inr ⟨by rw [e]; exact hf, fun j h1 h2 => by rw [e]; exact hf2 j h1 h2⟩
  · obtain ⟨k, h1, h2⟩ := hf
    exact ⟨k, h1, by rw [← h k h1]; exact h2⟩
theorem fit_iff {T : Tb} {R : RC} {A B : An} (h : ∀ k, k < rN R → A (rO R k) = B (rO R k)) : fit T R A ↔ fit T R B := ⟨fit_cong h, fit_cong fun k hk => (h k hk).symm⟩
