/-! NARROWING'S END IS ONE: whatever the order -/
/-- rules: how many, each one's data, which stand -/
abbrev Sy : Type := Nat × (Nat → RC) × (Nat → Prop)
def Stab (T : Tb) (S : Sy) (X : Rg) : Prop := ∀ r, r < S.1 → S.2.2 r → ∀ i, i < rN (S.2.1 r) → ∀ v, (X (rO (S.2.1 r) i)).testBit v = true → ¬ goes T (S.2.1 r) X i v
def NEm (U : Nat) (X : Rg) : Prop := ∀ x, x < U → X x ≠ 0 ∧ X x < 65536
def SubU (U : Nat) (X Y : Rg) : Prop := ∀ x, x < U → sub (X x) (Y x)
/-- ranges out of X0 from which nothing goes -/
def Cand (U : Nat) (T : Tb) (S : Sy) (X0 Z : Rg) : Prop := NEm U Z ∧ SubU U Z X0 ∧ Stab T S Z
/-- all such lie within X, which lies within X0 and is nowhere empty -/
def Mid (U : Nat) (T : Tb) (S : Sy) (X0 X : Rg) : Prop := NEm U X ∧ SubU U X X0 ∧ ∀ Z, Cand U T S X0 Z → SubU U Z X
def NarOk (U : Nat) (T : Tb) (S : Sy) (X0 X : Rg) : Prop := Mid U T S X0 X ∧ Stab T S X
def NarDead (U : Nat) (T : Tb) (S : Sy) (X0 : Rg) : Prop := ∀ Z, ¬ Cand U T S X0 Z
def SyOk (U : Nat) (S : Sy) : Prop := ∀ r, r < S.1 → S.2.2 r → WR U (S.2.1 r)
theorem NarOk.one {U : Nat} {T : Tb} {S : Sy} {X0 X Y : Rg} (h : NarOk U T S X0 X) (h2 : NarOk U T S X0 Y) : ∀ x, x < U → X x = Y x := fun x hx =>
  sub_eq (h2.1.2.2 X ⟨h.1.1, h.1.2.1, h.2⟩ x hx) (h.1.2.2 Y ⟨h2.1.1, h2.1.2.1, h2.2⟩ x hx)
theorem NarOk.not {U : Nat} {T : Tb} {S : Sy} {X0 X : Rg} (h : NarOk U T S X0 X) (h2 : NarDead U T S X0) : False := h2 X ⟨h.1.1, h.1.2.1, h.2⟩
theorem Mid.start {U : Nat} {T : Tb} {S : Sy} {X0 : Rg} (h : NEm U X0) : Mid U T S X0 X0 := ⟨h, fun _ _ => sub_rf _, fun _ hZ => hZ.2.1⟩
theorem subR_of {U : Nat} {R : RC} {Z X : Rg} (hW : WR U R) (hZ : NEm U Z) (hX : NEm U X) (h : SubU U Z X) : subR R Z X := fun k hk => ⟨h _ (hW.2.1 k hk), (hZ _ (hW.2.1 k hk)).1, (hX _ (hW.2.1 k hk)).2⟩
theorem lft_tb {T : Tb} {R : RC} {X : Rg} {i v : Nat} (hX : X (rO R i) < 65536) : (lft T R X i).testBit v = true ↔ (X (rO R i)).testBit v = true ∧ ¬ goes T R X i v := by
  unfold lft
  rw [mkN_tb]
  exact ⟨fun z => z.2, fun z => ⟨tb_lt hX z.1, z⟩⟩
/-- a candidate keeps within what a rule leaves -/
theorem cand_lft {U : Nat} {T : Tb} {S : Sy} {X0 X Z : Rg} {r i : Nat} (hS : SyOk U S) (hr : r < S.1) (hon : S.2.2 r) (hi : i < rN (S.2.1 r)) (hM : Mid U T S X0 X) (hZ : Cand U T S X0 Z) : sub (Z (rO (S.2.1 r) i)) (lft T (S.2.1 r) X i) := by
  intro v hv
  have hW := hS r hr hon
  have hx := hW.2.1 i hi
  rw [lft_tb (hM.1 _ hx).2]
  refine ⟨hM.2.2 Z hZ _ hx v hv, fun hg => hZ.2.2 r hr hon i hi v hv ?_⟩
  exact goes_mono (fun h3 k hk => ((hW.2.2.2.2.1 h3).2 k hk).2.1) (subR_of hW hZ.1 hM.1 (hM.2.2 Z hZ)) hg
/-- one part's range cut -/
theorem Mid.cut {U : Nat} {T : Tb} {S : Sy} {X0 X Y : Rg} {x : Nat} (hM : Mid U T S X0 X) (hY : ∀ y, y < U → y ≠ x → Y y = X y) (hx : Y x ≠ 0) (hs : sub (Y x) (X x)) (hc : ∀ Z, Cand U T S X0 Z → sub (Z x) (Y x)) : Mid U T S X0 Y := by
  refine ⟨fun y hy => ?_, fun y hy => ?_, fun Z hZ y hy => ?_⟩
  · by_cases e : y = x
    · subst e; exact ⟨hx, sub_lt hs (hM.1 y hy).2⟩
    · rw [hY y hy e]; exact hM.1 y hy
  · by_cases e : y = x
    · subst e; exact hs.tr (hM.2.1 y hy)
    · rw [hY y hy e]; exact hM.2.1 y hy
  · by_cases e : y = x
    · subst e; exact hc Z hZ
    · rw [hY y hy e]; exact hM.2.2 Z hZ y hy
theorem dead_of {U : Nat} {T : Tb} {S : Sy} {X0 : Rg} {x : Nat} (hx : x < U) (hc : ∀ Z, Cand U T S X0 Z → sub (Z x) 0) : NarDead U T S X0 := fun Z hZ => (hZ.1 x hx).1 (sub_eq (hc Z hZ) (sub_0 _))
theorem dead_em {U : Nat} {T : Tb} {S : Sy} {X0 : Rg} {x : Nat} (hx : x < U) (h0 : X0 x = 0) : NarDead U T S X0 := dead_of hx fun Z hZ => by rw [← h0]; exact hZ.2.1 x hx
/-- what goes depends on the ranges of the rule's unknowns alone -/
theorem goes_cong {T : Tb} {U : Nat} {R : RC} {X Y : Rg} {i v : Nat} (hW : WR U R) (hX : ∀ k, k < rN R → X (rO R k) ≠ 0 ∧ X (rO R k) < 65536) (h : ∀ k, k < rN R → X (rO R k) = Y (rO R k)) : goes T R X i v ↔ goes T R Y i v := by
  constructor
  · intro z
    exact goes_mono (fun h3 k hk => ((hW.2.2.2.2.1 h3).2 k hk).2.1) (fun k hk => ⟨by rw [h k hk]; exact sub_rf _, by rw [← h k hk]; exact (hX k hk).1, (hX k hk).2⟩) z
  · intro z
    exact goes_mono (fun h3 k hk => ((hW.2.2.2.2.1 h3).2 k hk).2.1) (fun k hk => ⟨by rw [h k hk]; exact sub_rf _, (hX k hk).1, by rw [← h k hk]; exact (hX k hk).2⟩) z
/-- nothing goes from a rule's parts -/
def StabR (T : Tb) (R : RC) (X : Rg) : Prop := ∀ i, i < rN R → ∀ v, (X (rO R i)).testBit v = true → ¬ goes T R X i v
theorem StabR.cong {T : Tb} {U : Nat} {R : RC} {X Y : Rg} (hW : WR U R) (hX : ∀ k, k < rN R → X (rO R k) ≠ 0 ∧ X (rO R k) < 65536) (h : ∀ k, k < rN R → X (rO R k) = Y (rO R k)) (hs : StabR T R X) : StabR T R Y := fun i hi v hv hg => hs i hi v (by rw [h i hi]; exact hv) ((goes_cong hW hX h).mpr hg)
theorem stab_lft {T : Tb} {R : RC} {X : Rg} (hX : ∀ k, k < rN R → X (rO R k) < 65536) (h : ∀ i, i < rN R → lft T R X i = X (rO R i)) : StabR T R X := fun i hi v hv => ((lft_tb (hX i hi)).mp (by rw [h i hi]; exact hv)).2
/-- all numbers of all ranges -/
def totP : Nat → Rg → Nat
  | 0, _ => 0
  | n + 1, X => totP n X + pop (X n)
theorem totP_le {n : Nat} {X Y : Rg} (h : ∀ x, x < n → sub (X x) (Y x)) : totP n X ≤ totP n Y := by
  induction n with
  | zero => exact Nat.le_refl _
  | succ n ih =>
    have h1 := ih fun x hx => h x (by omega)
    have h2 : pop (X n) ≤ pop (Y n) := popN_mono (h n (by omega)) 16
    simp only [totP]; omega
theorem totP_lt {n x : Nat} {X Y : Rg} (hx : x < n) (h : ∀ x, x < n → sub (X x) (Y x)) (hY : Y x < 65536) (hne : X x ≠ Y x) : totP n X < totP n Y := by
  induction n with
  | zero => omega
  | succ n ih =>
    simp only [totP]
    have h2 : pop (X n) ≤ pop (Y n) := popN_mono (h n (by omega)) 16
    by_cases e : x = n
    · subst e
      have h1 := totP_le (n := x) fun y hy => h y (by omega)
      have h3 : pop (X x) ≠ pop (Y x) := fun z => hne (by
        apply Nat.eq_of_testBit_eq
        intro i
        rcases Nat.lt_or_ge i 16 with hi | hi
        · exact popN_eq (h x (by omega)) 16 z i hi
        · rw [tb16 hY hi, tb16 (sub_lt (h x (by omega)) hY) hi])
      omega
    · have := ih (by omega) (fun y hy => h y (by omega))
      omega
theorem totP_16 (n : Nat) (X : Rg) : totP n X ≤ 16 * n := by
  induction n with
  | zero => exact Nat.le_refl _
  | succ n ih =>
    have : pop (X n) ≤ 16 := popN_le 16 _
    simp only [totP]; omega
