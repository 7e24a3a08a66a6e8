/-! THE CALLS IN NUMBERS: what narrowing, steps, answers, proofs answer -/
noncomputable abbrev NX (s : SS) (X : Rg) : Rg := narX (sU s) (sB s) (sS s) X
abbrev AL (s : SS) (X : Rg) : Prop := Alive (sU s) (sB s) (sS s) X
def cutS (s : SS) (kp : Nat) : Nat → Rg
  | 0 => sG s
  | n + 1 => if kp.testBit n = true then upY (cutS s kp n) (sO s n) (cutS s kp n (sO s n) &&& sP s n) else cutS s kp n
abbrev cutT (s : SS) (kp : Nat) : Rg := cutS s kp (sD s)
theorem cutS_t {s : SS} {kp n : Nat} (h : kp.testBit n = true) : cutS s kp (n + 1) = upY (cutS s kp n) (sO s n) (cutS s kp n (sO s n) &&& sP s n) := if_pos h
theorem cutS_f {s : SS} {kp n : Nat} (h : kp.testBit n = false) : cutS s kp (n + 1) = cutS s kp n := if_neg (by rw [h]; decide)
theorem cutS_sub (s : SS) (kp n : Nat) : ∀ x, sub (cutS s kp n x) (sG s x) := by
  induction n with
  | zero => exact fun x => sub_rf _
  | succ n ih =>
    intro x
    cases h : kp.testBit n with
    | true =>
      rw [cutS_t h]
      by_cases e : x = sO s n
      · rw [e, upY_at]; exact (sub_and _ _).tr (ih _)
      · rw [upY_ne e]; exact ih x
    | false => rw [cutS_f h]; exact ih x
theorem cutS_0 (s : SS) (n : Nat) : cutS s 0 n = sG s := by
  induction n with
  | zero => rfl
  | succ n ih => rw [cutS_f (Nat.zero_testBit n)]; exact ih
/-- of bits, from the first on, each is left out if a property holds without it -/
noncomputable def lessS (P : Nat → Prop) (kp : Nat) : Nat → Nat
  | 0 => kp
  | n + 1 => ifP (P (andN (lessS P kp n) (2 ^ n))) (andN (lessS P kp n) (2 ^ n)) (lessS P kp n)
theorem lessS_y {P : Nat → Prop} {kp n : Nat} (h : P (andN (lessS P kp n) (2 ^ n))) : lessS P kp (n + 1) = andN (lessS P kp n) (2 ^ n) := ifP_t h
theorem lessS_n {P : Nat → Prop} {kp n : Nat} (h : ¬ P (andN (lessS P kp n) (2 ^ n))) : lessS P kp (n + 1) = lessS P kp n := ifP_f h
theorem lessS_le (P : Nat → Prop) (kp n : Nat) : lessS P kp n ≤ kp := by
  induction n with
  | zero => exact Nat.le_refl _
  | succ n ih =>
    by_cases h : P (andN (lessS P kp n) (2 ^ n))
    · rw [lessS_y h]; exact Nat.le_trans (andN_le _ _) ih
    · rw [lessS_n h]; exact ih
theorem lessS_tb {P : Nat → Prop} {kp n j : Nat} (hj : n ≤ j) : (lessS P kp n).testBit j = kp.testBit j := by
  induction n with
  | zero => rfl
  | succ n ih =>
    have h1 := ih (by omega)
    by_cases h : P (andN (lessS P kp n) (2 ^ n))
    · rw [lessS_y h, andN_tb, h1, Nat.testBit_two_pow]
      have : ¬ n = j := by omega
      simp [this]
    · rw [lessS_n h]; exact h1
/-- the numbers of the bits, in order -/
def rsL (Q : Nat) : Nat → Nat → Nat
  | 0 => fun _ => 0
  | n + 1 => if Q.testBit n = true then updF (rsL Q n) (popN n Q) n else rsL Q n
theorem rsL_t {Q n : Nat} (h : Q.testBit n = true) : rsL Q (n + 1) = updF (rsL Q n) (popN n Q) n := if_pos h
theorem rsL_f {Q n : Nat} (h : Q.testBit n = false) : rsL Q (n + 1) = rsL Q n := if_neg (by rw [h]; decide)
theorem popN_t {Q n : Nat} (h : Q.testBit n = true) : popN (n + 1) Q = popN n Q + 1 := by simp only [popN]; rw [h]; rfl
theorem popN_f {Q n : Nat} (h : Q.testBit n = false) : popN (n + 1) Q = popN n Q := by simp only [popN]; rw [h]; rfl
theorem rsL_ext {Q n : Nat} (h : Q < 2 ^ n) (d : Nat) : rsL Q (n + d) = rsL Q n := by
  induction d with
  | zero => rfl
  | succ d ih =>
    rw [← Nat.add_assoc, rsL_f (Nat.testBit_lt_two_pow (Nat.lt_of_lt_of_le h (Nat.pow_le_pow_right (by decide) (by omega))))]
    exact ih
theorem popN_0 (n : Nat) : popN n 0 = 0 := by
  induction n with
  | zero => rfl
  | succ n ih => rw [popN_f (Nat.zero_testBit n)]; exact ih
/-! narrowing -/
theorem cand_un {U : Nat} {T : Tb} {S : Sy} {X0 : Rg} (hS : SyOk U S) (h : ∃ Z, Cand U T S X0 Z) : ∃ X, NarOk U T S X0 X := by
  have hN : NEm U (fun x => mk (fun v => ∃ Z, Cand U T S X0 Z ∧ (Z x).testBit v = true)) := fun x hx => by
    obtain ⟨Z, hZ⟩ := h
    obtain ⟨j, hj⟩ := ne0_tb (hZ.1 x hx).1
    exact ⟨tb_ne0 ((mkN_tb 16 _ j).mpr ⟨tb_lt (hZ.1 x hx).2 hj, Z, hZ, hj⟩), mk_lt _⟩
  have hG : ∀ Z, Cand U T S X0 Z → SubU U Z (fun x => mk (fun v => ∃ Z, Cand U T S X0 Z ∧ (Z x).testBit v = true)) := fun Z hZ x hx j hj => (mkN_tb 16 _ j).mpr ⟨tb_lt (hZ.1 x hx).2 hj, Z, hZ, hj⟩
  refine ⟨_, ⟨hN, fun x hx j hj => ?_, hG⟩, fun r hr hon i hi v hv hg => ?_⟩
  · obtain ⟨_, Z, hZ, hz⟩ := (mkN_tb 16 _ j).mp hj
    exact hZ.2.1 x hx j hz
  · obtain ⟨_, Z, hZ, hz⟩ := (mkN_tb 16 _ v).mp hv
    have hW := hS r hr hon
    exact hZ.2.2 r hr hon i hi v hz (goes_mono (fun h3 k hk => ((hW.2.2.2.2.1 h3).2 k hk).2.1) (subR_of hW hZ.1 hN (hG Z hZ)) hg)
theorem alive_of {U : Nat} {T : Tb} {S : Sy} {X0 Z : Rg} (hS : SyOk U S) (hb : Bare T S) (h : Cand U T S X0 Z) : Alive U T S X0 := ⟨hb, cand_un hS ⟨Z, h⟩⟩
theorem nar_mono {U : Nat} {T : Tb} {S : Sy} {X0 Y0 : Rg} (h : Alive U T S X0) (h2 : Alive U T S Y0) (hs : SubU U X0 Y0) : SubU U (narX U T S X0) (narX U T S Y0) := h2.ok.1.2.2 _ ⟨h.ok.1.1, fun x hx => (h.ok.1.2.1 x hx).tr (hs x hx), h.ok.2⟩
theorem wys_sub {U : Nat} {X Y : Rg} (h : SubU U X Y) {n : Nat} (hn : n ≤ U) : wys X n ≤ wys Y n := by
  induction n with
  | zero => exact Nat.le_refl _
  | succ n ih => simp only [wys]; exact Nat.mul_le_mul (ih (by omega)) (popN_mono (h n (by omega)) 16)
theorem not_em {U : Nat} {T : Tb} {S : Sy} {X0 : Rg} (h : ¬ ∀ x, x < U → X0 x ≠ 0) : ¬ Alive U T S X0 := fun z => h fun x hx e => dead_not (dead_em hx e) z
theorem popN_andN {a b : Nat} (h : sub b a) (n : Nat) : popN n (andN a b) + popN n b = popN n a := by
  induction n with
  | zero => rfl
  | succ n ih =>
    simp only [popN]
    rw [andN_tb]
    have h1 := h n
    cases ha : a.testBit n <;> cases hb : b.testBit n <;> simp [b2] <;> first | omega | (rw [ha, hb] at h1; exact absurd (h1 rfl) (by decide))
/-- how many numbers go of the unknowns by one look -/
noncomputable def gU (T : Tb) (R : RC) (X : Rg) (n : Nat) (x : Nat) : Nat := mk (fun v => ∃ k, k < n ∧ rO R k = x ∧ (X x).testBit v = true ∧ goes T R X k v)
theorem goes_same {U : Nat} {T : Tb} {R : RC} {X : Rg} {i k v : Nat} (hW : WR U R) (hi : i < rN R) (hk : k < rN R) (e : rO R k = rO R i) (hX : X (rO R i) < 65536) (hv : (X (rO R i)).testBit v = true) : goes T R X k v ↔ goes T R X i v := by
  have h1 := lft_same (T := T) (X := X) hW hi hk e
  have h2 := lft_tb (T := T) (R := R) (X := X) (i := i) (v := v) hX
  have h3 := lft_tb (T := T) (R := R) (X := X) (i := k) (v := v) (by rw [e]; exact hX)
  rw [h1, h2, e] at h3
  constructor
  · exact fun z => Classical.byContradiction fun n => (h3.mp ⟨hv, n⟩).2 z
  · exact fun z => Classical.byContradiction fun n => (h3.mpr ⟨hv, n⟩).2 z
theorem gU_gn {U : Nat} {T : Tb} {R : RC} {X : Rg} {k n : Nat} (hW : WR U R) (hk : k < n) (hn : n ≤ rN R) (hX : X (rO R k) < 65536) : gU T R X n (rO R k) = gn T R X k := by
  refine mk_congr fun j _ => ⟨?_, fun z => ⟨k, hk, rfl, z.1, z.2⟩⟩
  rintro ⟨i, h1, h2, h3, h4⟩
  exact ⟨h3, (goes_same hW (by omega) (by omega) h2.symm (by rw [h2]; exact hX) (by rw [h2]; exact h3)).mpr h4⟩
theorem gU_no {T : Tb} {R : RC} {X : Rg} {n x : Nat} (h : ¬ ∃ k, k < n ∧ rO R k = x) : gU T R X n x = 0 := by
  refine (mk_eq (by decide) fun j _ => ?_).symm
  rw [Nat.zero_testBit]
  exact ⟨fun z => (by cases z), fun ⟨k, h1, h2, _⟩ => absurd ⟨k, h1, h2⟩ h⟩
theorem gU_s {T : Tb} {R : RC} {X : Rg} {n x : Nat} (h : rO R n ≠ x) : gU T R X (n + 1) x = gU T R X n x := mk_congr fun j _ => by
  constructor
  · rintro ⟨k, h1, h2, h3⟩
    exact ⟨k, by have : k ≠ n := fun e => h (by rw [← e]; exact h2)
                 omega, h2, h3⟩
  · rintro ⟨k, h1, h2⟩
    exact ⟨k, by omega, h2⟩
theorem totP_cong {n : Nat} {X Y : Rg} (h : ∀ x, x < n → X x = Y x) : totP n X = totP n Y := by
  induction n with
  | zero => rfl
  | succ n ih => simp only [totP]; rw [ih fun x hx => h x (by omega), h n (by omega)]
theorem totP_add {n x : Nat} {X Y : Rg} (hx : x < n) (h : ∀ y, y < n → y ≠ x → X y = Y y) (h0 : Y x = 0) : totP n X = totP n Y + pop (X x) := by
  induction n with
  | zero => omega
  | succ n ih =>
    simp only [totP]
    by_cases e : x = n
    · subst e
      rw [totP_cong fun y hy => h y (by omega) (by omega), h0, show pop 0 = 0 from rfl]; omega
    · rw [ih (by omega) fun y hy hne => h y (by omega) hne, h n (by omega) (by omega)]; omega
theorem gU_again {U : Nat} {T : Tb} {R : RC} {X : Rg} {k i : Nat} (hW : WR U R) (hX : ∀ x, x < U → X x < 65536) (hi : i < rN R) (hk : k < i) (e : rO R k = rO R i) : totP 10 (gU T R X (i + 1)) = totP 10 (gU T R X i) := totP_cong fun x _ => by
  have hxl := hX _ (hW.2.1 i hi)
  by_cases ex : rO R i = x
  · subst ex
    rw [gU_gn hW (by omega) (by omega) hxl, ← e, gU_gn hW hk (by omega) (by rw [e]; exact hxl)]
    refine mk_congr fun j _ => ?_
    rw [e]
    constructor
    · exact fun z => ⟨z.1, (goes_same hW hi (by omega) e hxl z.1).mpr z.2⟩
    · exact fun z => ⟨z.1, (goes_same hW hi (by omega) e hxl z.1).mp z.2⟩
  · exact gU_s ex
theorem gU_fresh {U : Nat} {T : Tb} {R : RC} {X : Rg} {i : Nat} (hW : WR U R) (hX : ∀ x, x < U → X x < 65536) (hi : i < rN R) (h : ¬ ∃ k, k < i ∧ rO R k = rO R i) : totP 10 (gU T R X (i + 1)) = totP 10 (gU T R X i) + pop (gn T R X i) := by
  have hxU := hW.2.1 i hi
  rw [totP_add (x := rO R i) (by have := hW.1.2.2; omega) (fun y _ hne => gU_s (fun e => hne e.symm)) (gU_no h), gU_gn hW (by omega) (by omega) (hX _ hxU)]
theorem gn_lft {T : Tb} {R : RC} {X : Rg} {i : Nat} (hX : X (rO R i) < 65536) : (pop (gn T R X i) : Int) = (pop (X (rO R i)) : Int) - pop (lft T R X i) := by
  have h1 : sub (gn T R X i) (X (rO R i)) := fun j hj => ((mkN_tb 16 _ j).mp hj).2.1
  have h2 : pop (andN (X (rO R i)) (gn T R X i)) + pop (gn T R X i) = pop (X (rO R i)) := popN_andN h1 16
  rw [andN_gn hX] at h2
  omega
noncomputable def o_narrow (s : SS) : Int × SS := ifP (¬ AL s (sX s)) (-3, s) ((totP (sU s) (sX s) : Int) - totP (sU s) (NX s (sX s)), wX s (NX s (sX s)))
noncomputable def o_takes (s : SS) (r : Int) : Int × SS := ifP (¬ isR s r) (-1, s) ((totP 10 (gU (sB s) (sR s r.toNat) (sX s) (rN (sR s r.toNat))) : Int), s)
noncomputable def o_step (s : SS) (x k v : Int) : Int × SS := ifP (¬ isU s x) (-1, s) (ifP (¬ isLi k v) (-2, s) (ifP (sX s x.toNat &&& nS k v.toNat = 0) (-3, s) (ifP (12 ≤ sD s) (-4, s) ((sD s : Int), wD s (upY (sX s) x.toNat (sX s x.toNat &&& nS k v.toNat)) (sD s + 1) (updF (sO s) (sD s) x.toNat) (updF (sP s) (sD s) (nS k v.toNat)) (updF (sH s) (sD s) (sX s))))))
noncomputable def o_undo (s : SS) (d : Int) : Int × SS := ifP (¬ (0 ≤ d ∧ d ≤ sD s)) (-2, s) (ifP (d < sD s) ((sD s : Int) - d, wD s (sH s d.toNat) d.toNat (sO s) (sP s) (sH s)) (0, s))
noncomputable def o_range (s : SS) (x w : Int) : Int × SS := ifP (¬ isU s x) (-1, s) (ifP (w = 0) (pop (sX s x.toNat) : Int) (ifP (w = 1) (lo (sX s x.toNat) : Int) (ifP (w = 2) (hi (sX s x.toNat) : Int) (ifP (w = 3) (sX s x.toNat : Int) (ifP (w = 4) (sG s x.toNat : Int) (-2))))), s)
def LKd (s : SS) (x v kp : Nat) : Prop := ¬ AL s (cutT s kp) ∨ (NX s (cutT s kp) x).testBit v = false
noncomputable def whyS (s : SS) (x v : Nat) : Nat := lessS (LKd s x v) (2 ^ sD s - 1) (sD s)
abbrev wS (s : SS) (Q : Nat) : SS := wQ s (popN (sD s) Q) (rsL Q (sD s))
noncomputable def o_why (s : SS) (x v : Int) : Int × SS := ifP (¬ isU s x) (-1, s) (ifP (¬ isN v) (-2, s) (ifP ((sG s x.toNat).testBit v.toNat = false ∨ ¬ LKd s x.toNat v.toNat (2 ^ sD s - 1)) (-3, s) ((popN (sD s) (whyS s x.toNat v.toNat) : Int), wS s (whyS s x.toNat v.toNat))))
noncomputable def o_reason (s : SS) (k : Int) : Int × SS := (ifP (0 ≤ k ∧ k < sQ s) (sI s k.toNat : Int) (-9), s)
/-! answers -/
abbrev ansP (s : SS) (X : Rg) : An → Prop := fun B => AL s X ∧ isAns (sU s) (sB s) (sS s) (NX s X) B
abbrev farP (s : SS) (X : Rg) : Prop := AL s X ∧ 20000 < wys (NX s X) (sU s)
abbrev nxP (s : SS) : An → Prop := fun B => ansP s (sX s) B ∧ kod (sU s) (sV s) < kod (sU s) B
theorem ansP_eq {s : SS} {X : Rg} (h : AL s X) : ansP s X = isAns (sU s) (sB s) (sS s) (NX s X) := funext fun B => propext ⟨fun z => z.2, fun z => ⟨h, z⟩⟩
theorem ansP_no {s : SS} {X : Rg} (h : ¬ AL s X) : ¬ ∃ B, ansP s X B := fun ⟨_, z, _⟩ => h z
theorem ansP_cong {s : SS} {X : Rg} {A B : An} (hS : SyOk (sU s) (sS s)) (h : ∀ x, x < sU s → A x = B x) (hA : ansP s X A) : ansP s X B := ⟨hA.1, hA.2.cong hS h⟩
theorem ansP_lt {s : SS} {X : Rg} {A : An} (hA : ansP s X A) : lt16 (sU s) A := InR.lt (fun x hx => (hA.1.ok.1.1 x hx).2) hA.2.1
noncomputable def o_solve (s : SS) : Int × SS := ifP (farP s (sX s)) (-5, s) (ifP (∃ B, ansP s (sX s) B) (1, wA s (sU s) (lstA (sU s) (ansP s (sX s)))) (0, wA s (-1) (sV s)))
noncomputable def o_next (s : SS) : Int × SS := ifP (sA s ≠ sU s) (-3, s) (ifP (farP s (sX s)) (-5, s) (ifP (∃ B, nxP s B) (1, wA s (sU s) (lstA (sU s) (nxP s))) (0, s)))
noncomputable def o_answer (s : SS) (x : Int) : Int × SS := ifP (¬ isU s x) (-1, s) (ifP (x < sA s) (sV s x.toNat : Int) (-3), s)
noncomputable def o_count (s : SS) (m : Int) : Int × SS := ifP (¬ (1 ≤ m ∧ m ≤ 20000)) (-2, s) (ifP (farP s (sX s)) (-5, s) (((min m.toNat (nmb (sU s) (ansP s (sX s))) : Nat) : Int), s))
noncomputable def bstM (s : SS) (x : Nat) : Nat := mk (fun v => ∃ B, ansP s (sX s) B ∧ B x = v)
noncomputable def bstV (s : SS) (x : Nat) (g : Int) : Nat := ifP (g = 0) (lo (bstM s x)) (hi (bstM s x))
noncomputable def o_best (s : SS) (x g : Int) : Int × SS := ifP (¬ isU s x) (-1, s) (ifP (farP s (sX s)) (-5, s) (ifP (∃ B, ansP s (sX s) B) ((bstV s x.toNat g : Int), wA s (sU s) (lstA (sU s) (fun B => ansP s (sX s) B ∧ B x.toNat = bstV s x.toNat g))) (-9, wA s (-1) (sV s))))
noncomputable def o_has (s : SS) (x k v : Int) : Int × SS := ifP (¬ isU s x) (-1, s) (ifP (¬ isLi k v) (-2, s) (ifP (farP s (sX s)) (-5, s) (ifP (∃ B, ansP s (sX s) B ∧ (nS k v.toNat).testBit (B x.toNat) = true) (ifP (∃ B, ansP s (sX s) B ∧ (nS k v.toNat).testBit (B x.toNat) = false) 2 1) (ifP (∃ B, ansP s (sX s) B ∧ (nS k v.toNat).testBit (B x.toNat) = false) 0 3), s)))
abbrev hasA (s : SS) (kp : Nat) : Prop := ∃ B, ansP s (cutT s kp) B
noncomputable def corS (s : SS) : Nat := lessS (fun kp => ¬ hasA s kp) (2 ^ sD s - 1) (sD s)
noncomputable def o_core (s : SS) : Int × SS := ifP (¬ AL s (sG s)) (0, wS s 0) (ifP (20000 < wys (NX s (sG s)) (sU s)) (-5, s) (ifP (hasA s (2 ^ sD s - 1)) (-9, wS s 0) ((popN (sD s) (corS s) : Int), wS s (corS s))))
theorem ans_cut {U : Nat} {T : Tb} {S : Sy} {X : Rg} {x Z : Nat} {q : Nat → Prop} (hx : x < U) (hZ : ∀ j, Z.testBit j = true ↔ (X x).testBit j = true ∧ q j) : isAns U T S (upY X x Z) = fun B => isAns U T S X B ∧ q (B x) := funext fun B => propext (by
  constructor
  · rintro ⟨h1, h2⟩
    have h3 := h1 x hx
    rw [upY_at] at h3
    refine ⟨⟨fun y hy => ?_, h2⟩, ((hZ _).mp h3).2⟩
    by_cases e : y = x
    · rw [e]; exact ((hZ _).mp h3).1
    · have := h1 y hy
      rw [upY_ne e] at this
      exact this
  · rintro ⟨⟨h1, h2⟩, h3⟩
    refine ⟨fun y hy => ?_, h2⟩
    by_cases e : y = x
    · rw [e, upY_at]; exact (hZ _).mpr ⟨h1 x hx, h3⟩
    · rw [upY_ne e]; exact h1 y hy)
theorem ans_em {U : Nat} {T : Tb} {S : Sy} {Y : Rg} (h : ¬ ∀ x, x < U → Y x ≠ 0) : ¬ ∃ B, isAns U T S Y B := fun ⟨B, h1, _⟩ => h fun x hx => tb_ne0 (h1 x hx)
/-- as the answer ahead of x, above it there -/
def abvY (X : Rg) (A : An) (x : Nat) : Rg := fun y => if y < x then X y &&& 2 ^ A y else if y = x then hiB (X x) (A x) else X y
theorem ans_abv {U : Nat} {T : Tb} {S : Sy} {X : Rg} {A : An} {x : Nat} (hx : x < U) : isAns U T S (abvY X A x) = fun B => isAns U T S X B ∧ (∀ y, y < x → B y = A y) ∧ A x < B x := funext fun B => propext (by
  constructor
  · rintro ⟨h1, h2⟩
    have h3 := h1 x hx
    unfold abvY at h3
    rw [if_neg (by omega), if_pos rfl, hiB_tb] at h3
    have h4 : ∀ y, y < x → (X y).testBit (B y) = true ∧ A y = B y := fun y hy => by
      have := h1 y (by omega)
      unfold abvY at this
      rw [if_pos hy, Nat.testBit_and, Bool.and_eq_true, tb_pow] at this
      exact this
    refine ⟨⟨fun y hy => ?_, h2⟩, fun y hy => (h4 y hy).2.symm, h3.2⟩
    rcases Nat.lt_trichotomy y x with e | e | e
    · exact (h4 y e).1
    · rw [e]; exact h3.1
    · have := h1 y hy
      unfold abvY at this
      rw [if_neg (by omega), if_neg (by omega)] at this
      exact this
  · rintro ⟨⟨h1, h2⟩, h3, h4⟩
    refine ⟨fun y hy => ?_, h2⟩
    unfold abvY
    rcases Nat.lt_trichotomy y x with e | e | e
    · rw [if_pos e, Nat.testBit_and, Bool.and_eq_true, tb_pow]; exact ⟨h1 y hy, (h3 y e).symm⟩
    · rw [if_neg (by omega), if_pos e, hiB_tb, e]; exact ⟨h1 x hx, h4⟩
    · rw [if_neg (by omega), if_neg (by omega)]; exact h1 y hy)
theorem nx_lst {U : Nat} {P : An → Prop} {A C : An} {x : Nat} (hl : ∀ B, P B → lt16 U B) (hA : lt16 U A) (hx : x < U) (hno : ∀ z, x < z → z < U → ¬ ∃ B, P B ∧ (∀ y, y < z → B y = A y) ∧ A z < B z) (hC : isLst U (fun B => P B ∧ (∀ y, y < x → B y = A y) ∧ A x < B x) C) : isLst U (fun B => P B ∧ kod U A < kod U B) C := by
  obtain ⟨⟨c1, c2, c3⟩, c4⟩ := hC
  refine ⟨⟨c1, (kod_lex hA (hl C c1)).mpr ⟨x, hx, fun y hy => (c2 y hy).symm, c3⟩⟩, fun B hB => ?_⟩
  obtain ⟨z, z1, z2, z3⟩ := (kod_lex hA (hl B hB.1)).mp hB.2
  rcases Nat.lt_trichotomy z x with e | e | e
  · exact Nat.le_of_lt ((kod_lex (hl C c1) (hl B hB.1)).mpr ⟨z, z1, fun y hy => by rw [c2 y (by omega)]; exact z2 y hy, by rw [c2 z e]; exact z3⟩)
  · subst e
    exact c4 B ⟨hB.1, fun y hy => (z2 y hy).symm, z3⟩
  · exact absurd ⟨B, hB.1, fun y hy => (z2 y hy).symm, z3⟩ (hno z e z1)
theorem nx_no {U : Nat} {P : An → Prop} {A : An} (hl : ∀ B, P B → lt16 U B) (hA : lt16 U A) (hno : ∀ z, z < U → ¬ ∃ B, P B ∧ (∀ y, y < z → B y = A y) ∧ A z < B z) : ¬ ∃ B, P B ∧ kod U A < kod U B := fun ⟨B, h1, h2⟩ => by
  obtain ⟨z, z1, z2, z3⟩ := (kod_lex hA (hl B h1)).mp h2
  exact hno z z1 ⟨B, h1, fun y hy => (z2 y hy).symm, z3⟩
/-! proofs -/
def fls (L : RC) (B : An) : Prop := ∀ k, k < rN L → (rA L k).toNat.testBit (B (rO L k)) = false
def ofR (R : RC) (x : Nat) : Prop := ∃ k, k < rN R ∧ rO R k = x
noncomputable def tM (s : SS) (l r : Nat) : Rg := fun x => ifP (ofR (sR s r) x ∨ ofR (sL s l) x) (sG s x) 1
abbrev sSl (s : SS) (l : Nat) : Sy := (40, sL s, fun q => (2 ^ l - 1).testBit q = true)
abbrev sSr (s : SS) (r : Nat) : Sy := (16, sR s, fun q => (2 ^ r).testBit q = true)
abbrev cutL (s : SS) (l : Nat) : Rg := cutF (sL s l) (sG s) (rN (sL s l))
abbrev noR (s : SS) (l r : Nat) : Prop := ∃ B, InR (sU s) (tM s l r) B ∧ fls (sL s l) B ∧ fit (sB s) (sR s r) B
noncomputable def howR (s : SS) (l r : Nat) : Int := ifP ((sW s).testBit r = false) 0 (ifP (20000 < wys (tM s l r) (sU s)) (-5) (bI (¬ noR s l r)))
noncomputable def howL (s : SS) (l : Nat) : Int := ifP (sK s l = -9) (bI (¬ Alive (sU s) (sB s) (sSl s l) (cutL s l))) (howR s l (sK s l).toNat)
theorem howR_or {s : SS} {l r : Nat} : howR s l r = 0 ∨ howR s l r = 1 ∨ howR s l r = -5 := by
  unfold howR
  by_cases h1 : (sW s).testBit r = false
  · rw [ifP_t h1]; exact Or.inl rfl
  · rw [ifP_f h1]
    by_cases h2 : 20000 < wys (tM s l r) (sU s)
    · rw [ifP_t h2]; exact Or.inr (Or.inr rfl)
    · rw [ifP_f h2]
      rcases bI_or (p := ¬ noR s l r) with h | h <;> rw [h] <;> simp
theorem howL_or {s : SS} {l : Nat} : howL s l = 0 ∨ howL s l = 1 ∨ howL s l = -5 := by
  unfold howL
  by_cases h1 : sK s l = -9
  · rw [ifP_t h1]
    rcases bI_or (p := ¬ Alive (sU s) (sB s) (sSl s l) (cutL s l)) with h | h <;> rw [h] <;> simp
  · rw [ifP_f h1]; exact howR_or
def fw (f : Nat → Int) : Nat → Nat → Int
  | 0, _ => -9
  | j + 1, l => if f l = 1 then fw f j (l + 1) else if f l = -5 then -5 else (l : Int)
theorem fw_1 {f : Nat → Int} {j l : Nat} (h : f l = 1) : fw f (j + 1) l = fw f j (l + 1) := by simp only [fw]; rw [if_pos h]
theorem fw_5 {f : Nat → Int} {j l : Nat} (h : f l = -5) : fw f (j + 1) l = -5 := by simp only [fw]; rw [if_neg (by omega), if_pos h]
theorem fw_0 {f : Nat → Int} {j l : Nat} (h : f l = 0) : fw f (j + 1) l = (l : Int) := by simp only [fw]; rw [if_neg (by omega), if_neg (by omega)]
theorem fw_bd (f : Nat → Int) : ∀ j l : Nat, -9 ≤ fw f j l ∧ fw f j l ≤ j + l := by
  intro j
  induction j with
  | zero => intro l; simp only [fw]; omega
  | succ j ih =>
    intro l
    simp only [fw]
    split
    · have := ih (l + 1); omega
    · split <;> omega
noncomputable abbrev o_chk (s : SS) : Int := fw (howL s) (sM s) 0
noncomputable def o_check (s : SS) : Int × SS := (o_chk s, s)
noncomputable def o_refutes (s : SS) : Int × SS := (ifP (o_chk s = -5) (-5) (bI (o_chk s = -9 ∧ ∃ l, l < sM s ∧ rN (sL s l) = 0)), s)
def setP (R : RC) (j : Nat) (a : Int) : RC := (rK R, rS R, rB R, rN R, rO R, updF (rA R) j a, rZ R)
noncomputable def o_line (s : SS) (r : Int) : Int × SS := ifP (¬ (r = -9 ∨ isR s r)) (-1, s) (ifP (40 ≤ sM s) (-4, s) ((sM s : Int), wL s (sM s + 1) (updF (sL s) (sM s) (nR 5 0 0)) (updF (sK s) (sM s) r)))
noncomputable def o_says (s : SS) (l x k v : Int) : Int × SS := ifP (¬ (isLn s l ∧ isU s x)) (-1, s) (ifP (¬ isLi k v) (-2, s) (ifP (6 ≤ rN (sL s l.toNat)) (-4, s) ((rN (sL s l.toNat) : Int) + 1, wL s (sM s) (updF (sL s) l.toNat (addP (sL s l.toNat) x.toNat (nS k v.toNat : Int) 0)) (sK s))))
noncomputable def o_forge (s : SS) (l j k v : Int) : Int × SS := ifP (¬ (isLn s l ∧ 0 ≤ j ∧ j < rN (sL s l.toNat))) (-1, s) (ifP (¬ isLi k v) (-2, s) (1, wL s (sM s) (updF (sL s) l.toNat (setP (sL s l.toNat) j.toNat (nS k v.toNat : Int))) (sK s)))
def tbC (T : Tb) : Nat → Nat
  | 0 => 0
  | n + 1 => tbC T n + (if T.1 n = -1 then 0 else 1)
noncomputable def o_total (s : SS) (w : Int) : Int × SS := (ifP (w = 0) (sU s : Int) (ifP (w = 1) (sN s : Int) (ifP (w = 2) (sD s : Int) (ifP (w = 3) (sM s : Int) (ifP (w = 4) (sF s) (ifP (w = 5) (tbC (sB s) 6 : Int) (-2)))))), s)
/-! what is wanting of the line from a rule -/
theorem cutF_tb {R : RC} {X : Rg} {n x j : Nat} : (cutF R X n x).testBit j = true ↔ (X x).testBit j = true ∧ ∀ k, k < n → rO R k = x → (rA R k).toNat.testBit j = false := by
  induction n with
  | zero => exact ⟨fun h => ⟨h, fun k hk => absurd hk (by omega)⟩, fun h => h.1⟩
  | succ n ih =>
    simp only [cutF]
    by_cases e : x = rO R n
    · rw [e, upY_at, andN_tb]
      rw [e] at ih
      rw [Bool.and_eq_true, ih]
      constructor
      · rintro ⟨⟨h1, h2⟩, h3⟩
        refine ⟨h1, fun k hk ek => ?_⟩
        by_cases ekn : k = n
        · rw [ekn]; simpa using h3
        · exact h2 k (by omega) ek
      · rintro ⟨h1, h2⟩
        exact ⟨⟨h1, fun k hk ek => h2 k (by omega) ek⟩, by simpa using h2 n (by omega) rfl⟩
    · rw [upY_ne e, ih]
      constructor
      · rintro ⟨h1, h2⟩
        exact ⟨h1, fun k hk ek => by
          by_cases ekn : k = n
          · rw [ekn] at ek; exact absurd ek.symm e
          · exact h2 k (by omega) ek⟩
      · rintro ⟨h1, h2⟩
        exact ⟨h1, fun k hk ek => h2 k (by omega) ek⟩
theorem cutF_sub {R : RC} {X : Rg} {n x : Nat} : sub (cutF R X n x) (X x) := fun j hj => (cutF_tb.mp hj).1
/-- ranges of which those that the rule doesn't look at are cut to their least number -/
noncomputable def oneY (R : RC) (X : Rg) : Rg := fun x => ifP (ofR R x) (X x) (2 ^ lo (X x))
theorem oneY_t {R : RC} {X : Rg} {x : Nat} (h : ofR R x) : oneY R X x = X x := ifP_t h
theorem oneY_f {R : RC} {X : Rg} {x : Nat} (h : ¬ ofR R x) : oneY R X x = 2 ^ lo (X x) := ifP_f h
theorem tM_t {s : SS} {l r x : Nat} (h : ofR (sR s r) x ∨ ofR (sL s l) x) : tM s l r x = sG s x := ifP_t h
theorem tM_f {s : SS} {l r x : Nat} (h : ¬ (ofR (sR s r) x ∨ ofR (sL s l) x)) : tM s l r x = 1 := ifP_f h
theorem pop_1 : pop 1 = 1 := by decide
theorem pop_pow {a : Nat} (h : a < 16) : pop (2 ^ a) = 1 := by
  have h1 : ∀ a, a < 16 → pop (2 ^ a) = 1 := by decide +kernel
  exact h1 a h
section RL
variable {s : SS} {l r : Nat}
noncomputable def pk (p : Nat → Prop) (B C : An) : An := fun x => ifP (p x) (B x) (C x)
theorem pk_t {p : Nat → Prop} {B C : An} {x : Nat} (h : p x) : pk p B C x = B x := ifP_t h
theorem pk_f {p : Nat → Prop} {B C : An} {x : Nat} (h : ¬ p x) : pk p B C x = C x := ifP_f h
def inM (s : SS) (l r : Nat) (x : Nat) : Prop := ofR (sR s r) x ∨ ofR (sL s l) x
theorem syr (hr : r < 16) (hW : WR (sU s) (sR s r)) : SyOk (sU s) (sSr s r) := fun q _ hon => by
  have := tb_pow.mp hon
  rw [← this]; exact hW
theorem noR_alive (hr : r < 16) (hW : WR (sU s) (sR s r)) (hL : WR (sU s) (sL s l)) (hG : ∀ x, x < sU s → sG s x ≠ 0 ∧ sG s x < 65536) (h : noR s l r) : Alive (sU s) (sB s) (sSr s r) (cutL s l) ∧ ∃ B, isAns (sU s) (sB s) (sSr s r) (oneY (sR s r) (narX (sU s) (sB s) (sSr s r) (cutL s l))) B := by
  obtain ⟨B, h1, h2, h3⟩ := h
  have hS := syr hr hW
  have hA : ∀ x, x < sU s → (cutL s l x).testBit (pk (inM s l r) B (fun x => lo (sG s x)) x) = true := fun x hx => by
    rw [cutF_tb]
    by_cases e : inM s l r x
    · rw [pk_t e]
      have := h1 x hx
      rw [tM_t e] at this
      exact ⟨this, fun k hk ek => by rw [← ek]; exact h2 k hk⟩
    · rw [pk_f e]
      exact ⟨lo_tb (hG x hx).2 (hG x hx).1, fun k hk ek => absurd (Or.inr ⟨k, hk, ek⟩) e⟩
  have hf : fit (sB s) (sR s r) (pk (inM s l r) B (fun x => lo (sG s x))) := fit_cong (fun k hk => (pk_t (Or.inl ⟨k, hk, rfl⟩)).symm) h3
  have hF : ∀ q, q < (sSr s r).1 → (sSr s r).2.2 q → fit (sB s) ((sSr s r).2.1 q) (pk (inM s l r) B (fun x => lo (sG s x))) := fun q _ hon => by
    have := tb_pow.mp hon
    rw [← this]; exact hf
  have hc : Cand (sU s) (sB s) (sSr s r) (cutL s l) (fun x => 2 ^ pk (inM s l r) B (fun x => lo (sG s x)) x) := ans_in (T := sB s) hS (fun x hx => sub_lt cutF_sub (hG x hx).2) hA hF
  have hb : Bare (sB s) (sSr s r) := fun q _ hon h0 => by
    have e := tb_pow.mp hon
    subst e
    exact fit_cong (fun k hk => by rw [h0] at hk; omega) h3
  have hal : Alive (sU s) (sB s) (sSr s r) (cutL s l) := alive_of hS hb hc
  refine ⟨hal, pk (ofR (sR s r)) B (fun x => lo (narX (sU s) (sB s) (sSr s r) (cutL s l) x)), fun x hx => ?_, fun q _ hon => ?_⟩
  · by_cases e : ofR (sR s r) x
    · rw [oneY_t e, pk_t e]
      have h4 := hal.ok.1.2.2 _ hc x hx (pk (inM s l r) B (fun x => lo (sG s x)) x) (tb_pow.mpr rfl)
      rw [pk_t (Or.inl e)] at h4
      exact h4
    · rw [oneY_f e, pk_f e]; exact tb_pow.mpr rfl
  · have e := tb_pow.mp hon
    rw [← e]
    exact fit_cong (fun k hk => (pk_t (show ofR (sR s r) (rO (sR s r) k) from ⟨k, hk, rfl⟩)).symm) h3
theorem ans_noR (hr : r < 16) (hW : WR (sU s) (sR s r)) (hL : WR (sU s) (sL s l)) (hal : Alive (sU s) (sB s) (sSr s r) (cutL s l)) (h : ∃ B, isAns (sU s) (sB s) (sSr s r) (oneY (sR s r) (narX (sU s) (sB s) (sSr s r) (cutL s l))) B) : noR s l r := by
  obtain ⟨B, h1, h2⟩ := h
  have hin : ∀ x, x < sU s → (cutL s l x).testBit (B x) = true := fun x hx => hal.ok.1.2.1 x hx _ (by
    have := h1 x hx
    by_cases e : ofR (sR s r) x
    · rw [oneY_t e] at this; exact this
    · rw [oneY_f e] at this
      rw [← tb_pow.mp this]
      exact lo_tb (hal.ok.1.1 x hx).2 (hal.ok.1.1 x hx).1)
  refine ⟨pk (inM s l r) B (fun _ => 0), fun x hx => ?_, fun k hk => ?_, ?_⟩
  · by_cases e : inM s l r x
    · rw [tM_t e, pk_t e]; exact cutF_sub _ (hin x hx)
    · rw [tM_f e, pk_f e]; decide
  · rw [pk_t (Or.inr ⟨k, hk, rfl⟩)]
    exact (cutF_tb.mp (hin _ (hL.2.1 k hk))).2 k hk rfl
  · exact fit_cong (fun k hk => (pk_t (Or.inl ⟨k, hk, rfl⟩)).symm) (h2 r hr (tb_pow.mpr rfl))
theorem oneY_wys (hG : ∀ x, x < sU s → sG s x ≠ 0 ∧ sG s x < 65536) (hal : Alive (sU s) (sB s) (sSr s r) (cutL s l)) {n : Nat} (hn : n ≤ sU s) : wys (oneY (sR s r) (narX (sU s) (sB s) (sSr s r) (cutL s l))) n ≤ wys (tM s l r) n := by
  induction n with
  | zero => exact Nat.le_refl _
  | succ n ih =>
    simp only [wys]
    refine Nat.mul_le_mul (ih (by omega)) ?_
    have hx := hal.ok.1.1 n (by omega)
    by_cases e : ofR (sR s r) n
    · rw [oneY_t e, tM_t (Or.inl e)]
      exact popN_mono ((hal.ok.1.2.1 n (by omega)).tr cutF_sub) 16
    · rw [oneY_f e, pop_pow (lo_lt hx.2 hx.1)]
      by_cases e2 : ofR (sL s l) n
      · rw [tM_t (Or.inr e2)]; exact pop_pos (hG n (by omega)).2 (hG n (by omega)).1
      · rw [tM_f (fun z => z.elim e e2), pop_1]; exact Nat.le_refl _
end RL
