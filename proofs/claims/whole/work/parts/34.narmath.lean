/-! NARROWING: its end as a function; one rule's whole look; rounds -/
def Bare (T : Tb) (S : Sy) : Prop := ∀ r, r < S.1 → S.2.2 r → rN (S.2.1 r) = 0 → fit T (S.2.1 r) (fun _ => 0)
def Alive (U : Nat) (T : Tb) (S : Sy) (X0 : Rg) : Prop := Bare T S ∧ ∃ X, NarOk U T S X0 X
noncomputable def narX (U : Nat) (T : Tb) (S : Sy) (X0 : Rg) : Rg := @dite Rg (∃ X, NarOk U T S X0 X) (Classical.propDecidable _) (fun h => Classical.choose h) (fun _ => X0)
theorem narX_ok {U : Nat} {T : Tb} {S : Sy} {X0 : Rg} (h : ∃ X, NarOk U T S X0 X) : NarOk U T S X0 (narX U T S X0) := by
  unfold narX
  rw [dif_pos h]
  exact Classical.choose_spec h
theorem narX_eq {U : Nat} {T : Tb} {S : Sy} {X0 X : Rg} (h : NarOk U T S X0 X) : ∀ x, x < U → narX U T S X0 x = X x := (narX_ok ⟨X, h⟩).one h
theorem Alive.ok {U : Nat} {T : Tb} {S : Sy} {X0 : Rg} (h : Alive U T S X0) : NarOk U T S X0 (narX U T S X0) := narX_ok h.2
theorem dead_not {U : Nat} {T : Tb} {S : Sy} {X0 : Rg} (h : NarDead U T S X0) : ¬ Alive U T S X0 := fun ⟨_, X, hX⟩ => hX.not h
theorem Mid.dead {U : Nat} {T : Tb} {S : Sy} {X0 X : Rg} {x : Nat} (hx : x < U) (hc : ∀ Z, Cand U T S X0 Z → sub (Z x) 0) : ¬ Alive U T S X0 := dead_not (dead_of hx hc)
theorem andN_gn {T : Tb} {R : RC} {X : Rg} {i : Nat} (hX : X (rO R i) < 65536) : andN (X (rO R i)) (gn T R X i) = lft T R X i := by
  unfold lft gn
  refine mk_eq (andN_lt hX) fun j hj => ?_
  rw [andN_tb, Bool.and_eq_true]
  constructor
  · rintro ⟨h1, h2⟩
    refine ⟨h1, fun h3 => ?_⟩
    rw [show (mk fun v => (X (rO R i)).testBit v = true ∧ goes T R X i v).testBit j = true from (mkN_tb 16 _ j).mpr ⟨hj, h1, h3⟩] at h2
    cases h2
  · rintro ⟨h1, h2⟩
    refine ⟨h1, ?_⟩
    cases hb : (mk fun v => (X (rO R i)).testBit v = true ∧ goes T R X i v).testBit j with
    | false => rfl
    | true => exact absurd ((mkN_tb 16 _ j).mp hb).2.2 h2
theorem lft_gn {T : Tb} {R : RC} {X : Rg} {i : Nat} : andN (lft T R X i) (gn T R X i) = lft T R X i := by
  apply Nat.eq_of_testBit_eq
  intro j
  rw [andN_tb]
  cases hl : (lft T R X i).testBit j with
  | false => rfl
  | true =>
    cases hb : (gn T R X i).testBit j with
    | false => rfl
    | true => exact absurd ((mkN_tb 16 _ j).mp hb).2.2 ((mkN_tb 16 _ j).mp hl).2.2
theorem lft_sub {T : Tb} {R : RC} {X : Rg} {i : Nat} : sub (lft T R X i) (X (rO R i)) := fun j hj => ((mkN_tb 16 _ j).mp hj).2.1
theorem lft_lt {T : Tb} {R : RC} {X : Rg} {i : Nat} : lft T R X i < 65536 := mk_lt _
/-- parts of one unknown: the same is left (of a clause; else there is one such part) -/
theorem lft_same {U : Nat} {T : Tb} {R : RC} {X : Rg} {i k : Nat} (hW : WR U R) (hi : i < rN R) (hk : k < rN R) (e : rO R k = rO R i) : lft T R X k = lft T R X i := by
  by_cases h5 : rK R = 5
  · unfold lft
    refine mk_congr fun j _ => ?_
    rw [goes_5 h5, goes_5 h5]
    unfold gCl
    rw [e]
  · rw [hW.2.2.2.2.2.2 h5 k i hk hi e]
/-- the first n parts have what is left of them -/
def Cut (T : Tb) (U : Nat) (R : RC) (X Y : Rg) (n : Nat) : Prop := (∀ k, k < n → Y (rO R k) = lft T R X k ∧ lft T R X k ≠ 0) ∧ ∀ x, x < U → (∀ k, k < n → rO R k ≠ x) → Y x = X x
theorem Cut.rf {T : Tb} {U : Nat} {R : RC} {X : Rg} : Cut T U R X X 0 := ⟨fun k hk => absurd hk (by omega), fun _ _ _ => rfl⟩
theorem Cut.sub {T : Tb} {U n : Nat} {R : RC} {X Y : Rg} (h : Cut T U R X Y n) : SubU U Y X := fun x hx => by
  by_cases he : ∃ k, k < n ∧ rO R k = x
  · obtain ⟨k, h1, h2⟩ := he
    rw [← h2, (h.1 k h1).1]
    exact lft_sub
  · rw [h.2 x hx fun k hk e => he ⟨k, hk, e⟩]
    exact sub_rf _
/-- what stands at the next part's unknown, less what goes -/
theorem Cut.nxt {T : Tb} {U i : Nat} {R : RC} {X Y : Rg} (hW : WR U R) (hX : X (rO R i) < 65536) (hi : i < rN R) (h : Cut T U R X Y i) : andN (Y (rO R i)) (gn T R X i) = lft T R X i := by
  by_cases he : ∃ k, k < i ∧ rO R k = rO R i
  · obtain ⟨k, h1, h2⟩ := he
    rw [← h2, (h.1 k h1).1, lft_same hW hi (by omega) h2]
    exact lft_gn
  · rw [h.2 _ (hW.2.1 i hi) fun k hk e => he ⟨k, hk, e⟩]
    exact andN_gn hX
theorem Cut.cur {T : Tb} {U i : Nat} {R : RC} {X Y : Rg} (hW : WR U R) (hi : i < rN R) (h : Cut T U R X Y i) : Y (rO R i) = X (rO R i) ∨ Y (rO R i) = lft T R X i := by
  by_cases he : ∃ k, k < i ∧ rO R k = rO R i
  · obtain ⟨k, h1, h2⟩ := he
    right
    rw [← h2, (h.1 k h1).1]
    exact lft_same hW hi (by omega) h2
  · exact Or.inl (h.2 _ (hW.2.1 i hi) fun k hk e => he ⟨k, hk, e⟩)
theorem Cut.up {T : Tb} {U i : Nat} {R : RC} {X Y Y' : Rg} (hW : WR U R) (hi : i < rN R) (h : Cut T U R X Y i) (h0 : lft T R X i ≠ 0) (h1 : Y' (rO R i) = lft T R X i) (h2 : ∀ x, x < U → x ≠ rO R i → Y' x = Y x) : Cut T U R X Y' (i + 1) := by
  refine ⟨fun k hk => ?_, fun x hx he => ?_⟩
  · rcases Nat.lt_or_ge k i with h3 | h3
    · by_cases e : rO R k = rO R i
      · rw [e, h1, lft_same hW hi (by omega) e]; exact ⟨rfl, h0⟩
      · rw [h2 _ (hW.2.1 k (by omega)) e]; exact h.1 k h3
    · rw [show k = i by omega]; exact ⟨h1, h0⟩
  · rw [h2 x hx (fun e => he i (by omega) e.symm)]
    exact h.2 x hx fun k hk => he k (by omega)
theorem Cut.mid {U : Nat} {T : Tb} {S : Sy} {X0 X Y : Rg} {r n : Nat} (hS : SyOk U S) (hr : r < S.1) (hon : S.2.2 r) (hM : Mid U T S X0 X) (hn : n ≤ rN (S.2.1 r)) (h : Cut T U (S.2.1 r) X Y n) : Mid U T S X0 Y := by
  refine ⟨fun x hx => ?_, fun x hx => (h.sub x hx).tr (hM.2.1 x hx), fun Z hZ x hx => ?_⟩
  · refine ⟨?_, sub_lt (h.sub x hx) (hM.1 x hx).2⟩
    by_cases he : ∃ k, k < n ∧ rO (S.2.1 r) k = x
    · obtain ⟨k, h1, h2⟩ := he
      rw [← h2, (h.1 k h1).1]
      exact (h.1 k h1).2
    · rw [h.2 x hx fun k hk e => he ⟨k, hk, e⟩]
      exact (hM.1 x hx).1
  · by_cases he : ∃ k, k < n ∧ rO (S.2.1 r) k = x
    · obtain ⟨k, h1, h2⟩ := he
      rw [← h2, (h.1 k h1).1]
      exact cand_lft hS hr hon (by omega) hM hZ
    · rw [h.2 x hx fun k hk e => he ⟨k, hk, e⟩]
      exact hM.2.2 Z hZ x hx
theorem Cut.gone {U : Nat} {T : Tb} {S : Sy} {X0 X : Rg} {r i : Nat} (hS : SyOk U S) (hr : r < S.1) (hon : S.2.2 r) (hM : Mid U T S X0 X) (hi : i < rN (S.2.1 r)) (h : lft T (S.2.1 r) X i = 0) : ¬ Alive U T S X0 := dead_not (dead_of ((hS r hr hon).2.1 i hi) fun Z hZ => by
  have := cand_lft hS hr hon hi hM hZ
  rw [h] at this
  exact this)
/-- nothing of the rule's unknowns changed by its look: it takes nothing -/
theorem Cut.stab {U : Nat} {T : Tb} {R : RC} {X Y : Rg} (hW : WR U R) (hX : ∀ k, k < rN R → X (rO R k) ≠ 0 ∧ X (rO R k) < 65536) (h : Cut T U R X Y (rN R)) (he : ∀ k, k < rN R → Y (rO R k) = X (rO R k)) : StabR T R Y :=
  StabR.cong hW hX (fun k hk => (he k hk).symm) (stab_lft (fun k hk => (hX k hk).2) fun i hi => by rw [← (h.1 i hi).1, he i hi])
/-- a set of unknowns, in which all stand that changed -/
def Chg (U : Nat) (c : Nat) (X Y : Rg) : Prop := (∀ x, x < U → c.testBit x = false → Y x = X x) ∧ SubU U Y X ∧ (c ≠ 0 → totP U Y + 1 ≤ totP U X)
theorem Chg.rf {U : Nat} {X : Rg} : Chg U 0 X X := ⟨fun _ _ _ => rfl, fun _ _ => sub_rf _, fun h => absurd rfl h⟩
theorem Chg.up {U c x : Nat} {Xr X Y : Rg} (hx : x < U) (h : Chg U c Xr X) (hX : X x < 65536) (hs : sub (Y x) (X x)) (hne : Y x ≠ X x) (he : ∀ y, y < U → y ≠ x → Y y = X y) : Chg U (c ||| 2 ^ x) Xr Y := by
  have hsY : SubU U Y X := fun y hy => by
    by_cases e : y = x
    · subst e; exact hs
    · rw [he y hy e]; exact sub_rf _
  refine ⟨fun y hy hb => ?_, fun y hy => (hsY y hy).tr (h.2.1 y hy), fun _ => ?_⟩
  · rw [Nat.testBit_or, Nat.testBit_two_pow, Bool.or_eq_false_iff] at hb
    rw [he y hy (by have := hb.2; simp at this; omega)]
    exact h.1 y hy hb.1
  · have h1 := totP_lt hx hsY hX hne
    have h2 := totP_le (n := U) h.2.1
    omega
/-- rules of which no unknown is in the set take nothing -/
def Cln (T : Tb) (S : Sy) (c : Nat) (X : Rg) (n : Nat) : Prop := ∀ r, r < n → S.2.2 r → (∀ k, k < rN (S.2.1 r) → c.testBit (rO (S.2.1 r) k) = false) → StabR T (S.2.1 r) X
theorem Cln.nar {U : Nat} {T : Tb} {S : Sy} {X0 X : Rg} (hM : Mid U T S X0 X) (h : Cln T S 0 X S.1) : NarOk U T S X0 X := ⟨hM, fun r hr hon i hi v hv => h r hr hon (fun k _ => Nat.zero_testBit _) i hi v hv⟩
theorem or_f {a b x : Nat} (h : (a ||| b).testBit x = false) : a.testBit x = false ∧ b.testBit x = false := by
  rw [Nat.testBit_or, Bool.or_eq_false_iff] at h
  exact h
