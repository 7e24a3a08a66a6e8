/-! WHAT A RULE TAKES, WHAT FITS IT: in numbers alone -/
def sumI : Nat → (Nat → Int) → Int
  | 0, _ => 0
  | n + 1, f => sumI n f + f n
theorem sumI_congr {n : Nat} {f h : Nat → Int} (e : ∀ k, k < n → f k = h k) : sumI n f = sumI n h := by
  induction n with
  | zero => rfl
  | succ n ih => simp only [sumI]; rw [ih fun k hk => e k (by omega), e n (by omega)]
theorem sumI_le {n : Nat} {f h : Nat → Int} (e : ∀ k, k < n → f k ≤ h k) : sumI n f ≤ sumI n h := by
  induction n with
  | zero => exact Int.le_refl _
  | succ n ih => simp only [sumI]; have := ih fun k hk => e k (by omega); have := e n (by omega); omega
theorem sumI_but {n i : Nat} {f : Nat → Int} (hi : i < n) : sumI n f = f i + sumI n (fun k => if k = i then 0 else f k) := by
  induction n with
  | zero => omega
  | succ n ih =>
    simp only [sumI]
    by_cases h : i = n
    · subst h
      rw [sumI_congr (h := fun k => if k = i then 0 else f k) (fun k hk => by rw [if_neg (by omega)])]
      simp; omega
    · rw [ih (by omega), if_neg (fun z => h z.symm)]
      omega
theorem sumI_bd {n : Nat} {f : Nat → Int} {b : Int} (e : ∀ k, k < n → -b ≤ f k ∧ f k ≤ b) : -(n * b) ≤ sumI n f ∧ sumI n f ≤ n * b := by
  induction n with
  | zero => simp [sumI]
  | succ n ih =>
    have h1 := ih fun k hk => e k (by omega)
    have h2 := e n (by omega)
    simp only [sumI]
    have : ((n + 1 : Nat) : Int) * b = n * b + b := by rw [Int.natCast_add]; simp [Int.add_mul]
    omega
/-- sets of numbers -/
def sub (a b : Nat) : Prop := ∀ j, a.testBit j = true → b.testBit j = true
theorem sub_rf (a : Nat) : sub a a := fun _ h => h
theorem sub.tr {a b c : Nat} (h : sub a b) (h2 : sub b c) : sub a c := fun j hj => h2 j (h j hj)
theorem sub_eq {a b : Nat} (h : sub a b) (h2 : sub b a) : a = b := by
  apply Nat.eq_of_testBit_eq
  intro i
  cases ha : a.testBit i with
  | true => exact (h i ha).symm
  | false =>
    cases hb : b.testBit i with
    | true => rw [h2 i hb] at ha; cases ha
    | false => rfl
theorem sub_0 (a : Nat) : sub 0 a := fun j h => by rw [Nat.zero_testBit] at h; cases h
theorem sub_and (a b : Nat) : sub (a &&& b) a := fun j h => by rw [Nat.testBit_and, Bool.and_eq_true] at h; exact h.1
theorem sub_andN (a b : Nat) : sub (andN a b) a := fun j h => by rw [andN_tb, Bool.and_eq_true] at h; exact h.1
theorem ne0_tb {a : Nat} (h : a ≠ 0) : ∃ j, a.testBit j = true := ⟨_, hi_tb h⟩
theorem tb_ne0 {a j : Nat} (h : a.testBit j = true) : a ≠ 0 := fun z => by rw [z, Nat.zero_testBit] at h; cases h
theorem tb_lt {a j : Nat} (ha : a < 65536) (h : a.testBit j = true) : j < 16 := by
  rcases Nat.lt_or_ge j 16 with h1 | h1
  · exact h1
  · rw [tb16 ha h1] at h; cases h
theorem sub_lt {a b : Nat} (h : sub a b) (hb : b < 65536) : a < 65536 := by
  have : a < 2 ^ 16 := by
    apply Nat.lt_pow_two_of_testBit
    intro i hi
    cases h1 : a.testBit i with
    | false => rfl
    | true => have := h i h1; rw [tb16 hb hi] at this; cases this
  simpa using this
theorem popN_mono {a b : Nat} (h : sub a b) (n : Nat) : popN n a ≤ popN n b := by
  induction n with
  | zero => exact Nat.le_refl _
  | succ n ih =>
    simp only [popN]
    cases ha : a.testBit n with
    | false => have : b2 false = 0 := rfl
               omega
    | true => rw [h n ha]; omega
theorem popN_eq {a b : Nat} (h : sub a b) (n : Nat) (he : popN n a = popN n b) : ∀ j, j < n → a.testBit j = b.testBit j := by
  induction n with
  | zero => intro j hj; omega
  | succ n ih =>
    simp only [popN] at he
    have h1 := popN_mono h n
    intro j hj
    have key : popN n a = popN n b ∧ a.testBit n = b.testBit n := by
      cases ha : a.testBit n with
      | false =>
        cases hb : b.testBit n with
        | false => rw [ha, hb] at he; exact ⟨by omega, rfl⟩
        | true => rw [ha, hb] at he; simp [b2] at he; omega
      | true => rw [h n ha] at he ⊢; rw [ha] at he; exact ⟨by omega, rfl⟩
    rcases Nat.lt_or_ge j n with h2 | h2
    · exact ih key.1 j h2
    · rw [show j = n by omega]; exact key.2
theorem popN_pos {a n j : Nat} (h : a.testBit j = true) (hj : j < n) : 1 ≤ popN n a := by
  induction n with
  | zero => omega
  | succ n ih =>
    simp only [popN]
    rcases Nat.lt_or_ge j n with h1 | h1
    · have := ih h1; omega
    · rw [← show j = n by omega, h]; simp [b2]
theorem pop_pos {a : Nat} (ha : a < 65536) (h : a ≠ 0) : 1 ≤ pop a := popN_pos (hi_tb h) (hi_lt ha h)
theorem sub_lo {a b : Nat} (h : sub a b) (ha : a < 65536) (h0 : a ≠ 0) : lo b ≤ lo a := lo_min (h _ (lo_tb ha h0))
theorem sub_hi {a b : Nat} (h : sub a b) (h0 : a ≠ 0) : hi a ≤ hi b := hi_max (h _ (hi_tb h0))
theorem lo_hi {a : Nat} (ha : a < 65536) (h0 : a ≠ 0) : lo a ≤ hi a := hi_max (lo_tb ha h0)
theorem sub_one {a b : Nat} (h : sub a b) (hb : b < 65536) (h0 : a ≠ 0) (h1 : pop b = 1) : a = b := by
  have h2 : pop a ≤ pop b := popN_mono h 16
  have h3 : 1 ≤ pop a := pop_pos (sub_lt h hb) h0
  have h5 : pop a = pop b := by omega
  have h4 := popN_eq h 16 h5
  apply Nat.eq_of_testBit_eq
  intro i
  rcases Nat.lt_or_ge i 16 with hi | hi
  · exact h4 i hi
  · rw [tb16 hb hi, tb16 (sub_lt h hb) hi]
/-- rules: kind, setting, bound, parts; for each part its unknown, a, b -/
abbrev Rg : Type := Nat → Nat
abbrev RC : Type := Nat × Int × Int × Nat × (Nat → Nat) × (Nat → Int) × (Nat → Int)
abbrev rK (R : RC) : Nat := R.1
abbrev rS (R : RC) : Int := R.2.1
abbrev rB (R : RC) : Int := R.2.2.1
abbrev rN (R : RC) : Nat := R.2.2.2.1
abbrev rO (R : RC) : Nat → Nat := R.2.2.2.2.1
abbrev rA (R : RC) : Nat → Int := R.2.2.2.2.2.1
abbrev rZ (R : RC) : Nat → Int := R.2.2.2.2.2.2
/-- tables: how many cells (-1: missing), the cells -/
abbrev Tb : Type := (Nat → Int) × (Nat → Nat → Nat)
def mn (m : Int) (S : Nat) : Int := if 0 < m then m * (lo S : Int) else m * (hi S : Int)
def mx (m : Int) (S : Nat) : Int := if 0 < m then m * (hi S : Int) else m * (lo S : Int)
def sLow (R : RC) (X : Rg) (i : Nat) : Int := sumI (rN R) (fun k => if k = i then 0 else mn (rA R k) (X (rO R k)))
def sHigh (R : RC) (X : Rg) (i : Nat) : Int := sumI (rN R) (fun k => if k = i then 0 else mx (rA R k) (X (rO R k)))
def gSum (R : RC) (X : Rg) (i v : Nat) : Prop :=
  (rS R = 2 ∧ (∀ k, k < rN R → k ≠ i → pop (X (rO R k)) = 1) ∧ rA R i * v + sLow R X i = rB R) ∨
  (rS R ≠ 2 ∧ (rA R i * v + sLow R X i > rB R ∨ (rS R = 1 ∧ rA R i * v + sHigh R X i < rB R)))
def uni : Nat → (Nat → Nat) → Nat → Nat
  | 0, _, _ => 0
  | n + 1, f, S => uni n f S ||| (if S.testBit n then f n else 0)
def gUnl (R : RC) (X : Rg) (i v : Nat) : Prop := ∃ S, S < 2 ^ rN R ∧ pop (uni (rN R) (fun k => if k = i then 2 ^ v else X (rO R k)) S) < pop S
def rowOk (T : Tb) (R : RC) (q : Nat) : Prop := 0 < rN R ∧ ((q + 1) * rN R : Nat) ≤ T.1 (rS R).toNat
def gTab (T : Tb) (R : RC) (X : Rg) (i v : Nat) : Prop := ¬ ∃ q, rowOk T R q ∧ ∀ k, k < rN R → if k = i then T.2 (rS R).toNat (q * rN R + k) = v else (X (rO R k)).testBit (T.2 (rS R).toNat (q * rN R + k)) = true
def must (S t : Nat) (len : Int) : Prop := hi S ≤ t ∧ (t : Int) < lo S + len
noncomputable def needAt (R : RC) (X : Rg) (i t : Nat) : Int := sumI (rN R) (fun k => @ite Int (k ≠ i ∧ must (X (rO R k)) t (rA R k)) (Classical.propDecidable _) (rZ R k) 0)
def gLoad (R : RC) (X : Rg) (i v : Nat) : Prop := ∃ t : Nat, v ≤ t ∧ (t : Int) < v + rA R i ∧ rZ R i + needAt R X i t > rS R
def pth (R : RC) (X : Rg) (v : Nat) : Nat → Nat
  | 0 => v
  | j + 1 => lo (X (rO R (pth R X v j)))
def gRing (R : RC) (X : Rg) (i v : Nat) : Prop := rN R ≤ v ∨ gUnl R X i v ∨ ∃ j, j + 1 < rN R ∧ pth R X v j = i ∧ ∀ j', j' < j → pop (X (rO R (pth R X v j'))) = 1 ∧ pth R X v (j' + 1) < rN R
def gCl (R : RC) (X : Rg) (i v : Nat) : Prop := ∀ k, k < rN R → (if rO R k = rO R i then 2 ^ v else X (rO R k)) &&& (rA R k).toNat = 0
def goes (T : Tb) (R : RC) (X : Rg) (i v : Nat) : Prop := match rK R with
  | 0 => gSum R X i v
  | 1 => gUnl R X i v
  | 2 => gTab T R X i v
  | 3 => gLoad R X i v
  | 4 => gRing R X i v
  | _ => gCl R X i v
/-- fewer numbers, none empty -/
def subR (R : RC) (X Y : Rg) : Prop := ∀ k, k < rN R → sub (X (rO R k)) (Y (rO R k)) ∧ X (rO R k) ≠ 0 ∧ Y (rO R k) < 65536
theorem mul_le_l {m : Int} {a b : Nat} (hm : 0 < m) (h : a ≤ b) : m * (a : Int) ≤ m * b := Int.mul_le_mul_of_nonneg_left (by omega) (by omega)
theorem mul_le_r {m : Int} {a b : Nat} (hm : ¬ 0 < m) (h : a ≤ b) : m * (b : Int) ≤ m * a := Int.mul_le_mul_of_nonpos_left (by omega) (by omega)
theorem mn_mono {m : Int} {a b : Nat} (h : sub a b) (h0 : a ≠ 0) (hb : b < 65536) : mn m b ≤ mn m a := by
  unfold mn
  split
  · exact mul_le_l (by assumption) (sub_lo h (sub_lt h hb) h0)
  · exact mul_le_r (by assumption) (sub_hi h h0)
theorem mx_mono {m : Int} {a b : Nat} (h : sub a b) (h0 : a ≠ 0) (hb : b < 65536) : mx m a ≤ mx m b := by
  unfold mx
  split
  · exact mul_le_l (by assumption) (sub_hi h h0)
  · exact mul_le_r (by assumption) (sub_lo h (sub_lt h hb) h0)
theorem uni_tb (n : Nat) (f : Nat → Nat) (S j : Nat) : (uni n f S).testBit j = true ↔ ∃ k, k < n ∧ S.testBit k = true ∧ (f k).testBit j = true := by
  induction n with
  | zero => simp [uni]
  | succ n ih =>
    simp only [uni, Nat.testBit_or, Bool.or_eq_true, ih]
    constructor
    · rintro (⟨k, h1, h2, h3⟩ | h)
      · exact ⟨k, by omega, h2, h3⟩
      · cases hS : S.testBit n with
        | true => rw [hS] at h; exact ⟨n, by omega, hS, by simpa using h⟩
        | false => rw [hS] at h; simp at h
    · rintro ⟨k, h1, h2, h3⟩
      by_cases hk : k = n
      · subst hk; right; simp [h2, h3]
      · left; exact ⟨k, by omega, h2, h3⟩
theorem uni_mono {n : Nat} {f h : Nat → Nat} {S : Nat} (e : ∀ k, k < n → sub (f k) (h k)) : sub (uni n f S) (uni n h S) := fun j hj => by
  obtain ⟨k, h1, h2, h3⟩ := (uni_tb n f S j).mp hj
  exact (uni_tb n h S j).mpr ⟨k, h1, h2, e k h1 j h3⟩
theorem gSum_mono {R : RC} {X Y : Rg} {i v : Nat} (h : subR R X Y) (hg : gSum R Y i v) : gSum R X i v := by
  have hlow : sLow R Y i ≤ sLow R X i := sumI_le fun k hk => by
    try dsimp only
    split
    · exact Int.le_refl _
    · exact mn_mono (h k hk).1 (h k hk).2.1 (h k hk).2.2
  have hhigh : sHigh R X i ≤ sHigh R Y i := sumI_le fun k hk => by
    try dsimp only
    split
    · exact Int.le_refl _
    · exact mx_mono (h k hk).1 (h k hk).2.1 (h k hk).2.2
  rcases hg with ⟨h1, h2, h3⟩ | ⟨h1, h2⟩
  · have he : ∀ k, k < rN R → k ≠ i → X (rO R k) = Y (rO R k) := fun k hk hi => sub_one (h k hk).1 (h k hk).2.2 (h k hk).2.1 (h2 k hk hi)
    refine Or.inl ⟨h1, fun k hk hi => by rw [he k hk hi]; exact h2 k hk hi, ?_⟩
    rw [← h3]
    congr 1
    exact sumI_congr fun k hk => by
      try dsimp only
      split
      · rfl
      · rw [he k hk (by assumption)]
  · refine Or.inr ⟨h1, ?_⟩
    rcases h2 with h2 | ⟨h2, h3⟩
    · left; omega
    · right; exact ⟨h2, by omega⟩
theorem gUnl_mono {R : RC} {X Y : Rg} {i v : Nat} (h : subR R X Y) (hg : gUnl R Y i v) : gUnl R X i v := by
  obtain ⟨S, h1, h2⟩ := hg
  refine ⟨S, h1, Nat.lt_of_le_of_lt (popN_mono (uni_mono fun k hk => ?_) 16) h2⟩
  try dsimp only
  split
  · exact sub_rf _
  · exact (h k hk).1
theorem gTab_mono {T : Tb} {R : RC} {X Y : Rg} {i v : Nat} (h : subR R X Y) (hg : gTab T R Y i v) : gTab T R X i v := by
  rintro ⟨q, h1, h2⟩
  refine hg ⟨q, h1, fun k hk => ?_⟩
  have := h2 k hk
  split
  · rename_i hi; rw [if_pos hi] at this; exact this
  · rename_i hi; rw [if_neg hi] at this; exact (h k hk).1 _ this
theorem must_mono {a b t : Nat} {len : Int} (h : sub a b) (h0 : a ≠ 0) (hb : b < 65536) (hm : must b t len) : must a t len := by
  have h1 := sub_lo h (sub_lt h hb) h0
  have h2 := sub_hi h h0
  exact ⟨Nat.le_trans h2 hm.1, by have := hm.2; omega⟩
theorem gLoad_mono {R : RC} {X Y : Rg} {i v : Nat} (hb : ∀ k, k < rN R → 0 ≤ rZ R k) (h : subR R X Y) (hg : gLoad R Y i v) : gLoad R X i v := by
  obtain ⟨t, h1, h2, h3⟩ := hg
  refine ⟨t, h1, h2, ?_⟩
  have : needAt R Y i t ≤ needAt R X i t := sumI_le fun k hk => by
    try dsimp only
    split
    · rename_i hy; rw [if_pos ⟨hy.1, must_mono (h k hk).1 (h k hk).2.1 (h k hk).2.2 hy.2⟩]; exact Int.le_refl _
    · split
      · exact hb k hk
      · exact Int.le_refl _
  omega
theorem gRing_mono {R : RC} {X Y : Rg} {i v : Nat} (h : subR R X Y) (hv : v < rN R → True) (hg : gRing R Y i v) : gRing R X i v := by
  rcases hg with hg | hg | ⟨j, h1, h2, h3⟩
  · exact Or.inl hg
  · exact Or.inr (Or.inl (gUnl_mono h hg))
  · by_cases hn : v < rN R
    · have hp : ∀ j', j' ≤ j → pth R X v j' = pth R Y v j' ∧ pth R Y v j' < rN R := by
        intro j'
        induction j' with
        | zero => intro _; exact ⟨rfl, hn⟩
        | succ j' ih =>
          intro hj
          obtain ⟨i1, i2⟩ := ih (by omega)
          have h4 := h3 j' (by omega)
          refine ⟨?_, h4.2⟩
          simp only [pth]
          rw [i1, sub_one (h _ i2).1 (h _ i2).2.2 (h _ i2).2.1 h4.1]
      refine Or.inr (Or.inr ⟨j, h1, by rw [(hp j (Nat.le_refl _)).1]; exact h2, fun j' hj => ?_⟩)
      have h4 := h3 j' hj
      obtain ⟨i1, i2⟩ := hp j' (by omega)
      rw [i1, (hp (j' + 1) (by omega)).1, sub_one (h _ i2).1 (h _ i2).2.2 (h _ i2).2.1 h4.1]
      exact h4
    · exact Or.inl (by omega)
theorem and_sub {a b c : Nat} (h : sub a b) (h0 : b &&& c = 0) : a &&& c = 0 := by
  apply Nat.eq_of_testBit_eq
  intro j
  rw [Nat.zero_testBit, Nat.testBit_and]
  cases ha : a.testBit j with
  | false => rfl
  | true =>
    have : (b &&& c).testBit j = false := by rw [h0, Nat.zero_testBit]
    rw [Nat.testBit_and, h j ha] at this
    simpa using this
theorem gCl_mono {R : RC} {X Y : Rg} {i v : Nat} (h : subR R X Y) (hg : gCl R Y i v) : gCl R X i v := by
  intro k hk
  have := hg k hk
  split
  · rename_i hi; rw [if_pos hi] at this; exact this
  · rename_i hi; rw [if_neg hi] at this; exact and_sub (h k hk).1 this
theorem goes_mono {T : Tb} {R : RC} {X Y : Rg} {i v : Nat} (hb : rK R = 3 → ∀ k, k < rN R → 0 ≤ rZ R k) (h : subR R X Y) (hg : goes T R Y i v) : goes T R X i v := by
  unfold goes at hg ⊢
  split at hg
  · exact gSum_mono h hg
  · exact gUnl_mono h hg
  · exact gTab_mono h hg
  · rename_i hk; exact gLoad_mono (hb hk) h hg
  · exact gRing_mono h (fun _ => trivial) hg
  · exact gCl_mono h hg
