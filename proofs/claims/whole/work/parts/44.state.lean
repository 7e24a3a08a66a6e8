/-! THE STATE, in numbers; where the class and the reference hold it; what is told -/
abbrev SS : Type := (Nat × Rg × Rg) × (Nat × (Nat → RC) × Nat × Tb) × (Nat × (Nat → Nat) × (Nat → Nat) × (Nat → Rg)) × (Nat × (Nat → Nat)) × (Int × An) × (Nat × (Nat → RC) × (Nat → Int)) × Int
abbrev sU (s : SS) : Nat := s.1.1
abbrev sG (s : SS) : Rg := s.1.2.1
abbrev sX (s : SS) : Rg := s.1.2.2
abbrev sN (s : SS) : Nat := s.2.1.1
abbrev sR (s : SS) : Nat → RC := s.2.1.2.1
abbrev sW (s : SS) : Nat := s.2.1.2.2.1
abbrev sB (s : SS) : Tb := s.2.1.2.2.2
abbrev sD (s : SS) : Nat := s.2.2.1.1
abbrev sO (s : SS) : Nat → Nat := s.2.2.1.2.1
abbrev sP (s : SS) : Nat → Nat := s.2.2.1.2.2.1
abbrev sH (s : SS) : Nat → Rg := s.2.2.1.2.2.2
abbrev sQ (s : SS) : Nat := s.2.2.2.1.1
abbrev sI (s : SS) : Nat → Nat := s.2.2.2.1.2
abbrev sA (s : SS) : Int := s.2.2.2.2.1.1
abbrev sV (s : SS) : An := s.2.2.2.2.1.2
abbrev sM (s : SS) : Nat := s.2.2.2.2.2.1.1
abbrev sL (s : SS) : Nat → RC := s.2.2.2.2.2.1.2.1
abbrev sK (s : SS) : Nat → Int := s.2.2.2.2.2.1.2.2
abbrev sF (s : SS) : Int := s.2.2.2.2.2.2
abbrev sS (s : SS) : Sy := (16, sR s, fun r => (sW s).testBit r = true)
abbrev wT (s : SS) (U : Nat) (X : Rg) : SS := ((U, X, X), s.2)
abbrev wX (s : SS) (X : Rg) : SS := ((sU s, sG s, X), s.2)
abbrev wR (s : SS) (n : Nat) (Rf : Nat → RC) (w : Nat) : SS := ((sU s, sG s, sG s), (n, Rf, w, sB s), s.2.2)
abbrev wB (s : SS) (T : Tb) : SS := ((sU s, sG s, sG s), (sN s, sR s, sW s, T), s.2.2)
abbrev wD (s : SS) (X : Rg) (d : Nat) (o p : Nat → Nat) (h : Nat → Rg) : SS := ((sU s, sG s, X), s.2.1, (d, o, p, h), s.2.2.2)
abbrev wQ (s : SS) (q : Nat) (i : Nat → Nat) : SS := (s.1, s.2.1, s.2.2.1, (q, i), s.2.2.2.2)
abbrev wA (s : SS) (a : Int) (v : An) : SS := (s.1, s.2.1, s.2.2.1, s.2.2.2.1, (a, v), s.2.2.2.2.2)
abbrev wL (s : SS) (m : Nat) (L : Nat → RC) (k : Nat → Int) : SS := (s.1, s.2.1, s.2.2.1, s.2.2.2.1, s.2.2.2.2.1, (m, L, k), sF s)
abbrev wF (s : SS) : SS := (s.1, s.2.1, s.2.2.1, s.2.2.2.1, s.2.2.2.2.1, s.2.2.2.2.2.1, sF s + 1)
def updF {α : Type} (f : Nat → α) (i : Nat) (v : α) : Nat → α := fun j => if j = i then v else f j
theorem updF_at {α : Type} {f : Nat → α} {i : Nat} {v : α} : updF f i v i = v := if_pos rfl
theorem updF_ne {α : Type} {f : Nat → α} {i j : Nat} {v : α} (h : j ≠ i) : updF f i v j = f j := if_neg h
theorem cpy_ne {x : Sg} {a b sp dp n c : Nat} (h : c ≠ b) : cpy x a b sp dp n c = x c := by
  funext i
  unfold cpy
  rw [if_neg (fun z => h z.1)]
theorem cpy_in {x : Sg} {a b sp dp n i : Nat} (h1 : dp ≤ i) (h2 : i < dp + n) : cpy x a b sp dp n b i = x a (sp + (i - dp)) := if_pos ⟨rfl, h1, h2⟩
theorem cpy_out {x : Sg} {a b sp dp n i : Nat} (h : ¬ (dp ≤ i ∧ i < dp + n)) : cpy x a b sp dp n b i = x b i := if_neg fun z => h z.2
/-! the class's -/
def k1 (σ : Sg) (U : Nat) (X0 X : Rg) : Prop := U ≤ 10 ∧ σ 0 2 = (U : Int) ∧ AV σ 1 U X0 ∧ AV σ 2 U X
def k2 (σ : Sg) (U n : Nat) (Rf : Nat → RC) (w : Nat) : Prop := n ≤ 16 ∧ σ 0 4 = (n : Int) ∧ σ 0 5 = (w : Int) ∧ w < 2 ^ n ∧ (∀ r, r < n → CR σ r (Rf r) ∧ WR U (Rf r)) ∧ ∀ r, n ≤ r → r < 16 → σ (26 + 4 * r) 3 = 0 ∧ σ (26 + 4 * r) 4 = 0
def k4 (σ : Sg) (U d : Nat) (o p : Nat → Nat) (h : Nat → Rg) : Prop := d ≤ 12 ∧ σ 4 0 = (d : Int) ∧ ∀ k, k < d → σ 5 k = (o k : Int) ∧ o k < U ∧ σ 6 k = (p k : Int) ∧ p k < 65536 ∧ AV σ (8 + k) U (h k)
def k5 (σ : Sg) (q : Nat) (i : Nat → Nat) : Prop := q ≤ 12 ∧ σ 0 9 = (q : Int) ∧ ∀ k, k < q → σ 20 k = (i k : Int)
def k6 (σ : Sg) (a : Int) (v : An) : Prop := (-1 ≤ a ∧ a ≤ 10) ∧ σ 0 11 = a ∧ ∀ x : Nat, (x : Int) < a → σ 21 x = (v x : Int) ∧ v x < 16
def k7 (σ : Sg) (U n m : Nat) (L : Nat → RC) (f : Nat → Int) : Prop := m ≤ 40 ∧ σ 0 14 = (m : Int) ∧ (∀ l, l < m → CR σ (16 + l) (L l) ∧ WR U (L l) ∧ rK (L l) = 5 ∧ σ 23 l = f l ∧ (f l = -9 ∨ (0 ≤ f l ∧ f l < n))) ∧ ∀ l, m ≤ l → l < 40 → σ (26 + 4 * (16 + l)) 3 = 0 ∧ σ (26 + 4 * (16 + l)) 4 = 0
def CI (s : SS) (σ : Sg) : Prop := k1 σ (sU s) (sG s) (sX s) ∧ k2 σ (sU s) (sN s) (sR s) (sW s) ∧ TVc σ (sB s) ∧ k4 σ (sU s) (sD s) (sO s) (sP s) (sH s) ∧ k5 σ (sQ s) (sI s) ∧ k6 σ (sA s) (sV s) ∧ k7 σ (sU s) (sN s) (sM s) (sL s) (sK s) ∧ σ 0 15 = sF s ∧ σ 263 0 = 0
theorem AV.cg {σ τ : Sg} {c c' U : Nat} {X : Rg} (h : AV σ c U X) (e : ∀ x, x < U → τ c' x = σ c x) : AV τ c' U X := fun x hx => by rw [e x hx]; exact h x hx
theorem CR.cg {σ τ : Sg} {r : Nat} {R : RC} (h : CR σ r R) (e : ∀ c, 26 + 4 * r ≤ c → c < 26 + 4 * r + 4 → τ c = σ c) : CR τ r R := by
  obtain ⟨h1, h2, h3, h4, h5, h6⟩ := h
  unfold CR
  rw [e (26 + 4 * r) (by omega) (by omega), e (26 + 4 * r + 1) (by omega) (by omega), e (26 + 4 * r + 2) (by omega) (by omega), e (26 + 4 * r + 3) (by omega) (by omega)]
  exact ⟨h1, h2, h3, h4, h5, h6⟩
theorem TVc.cg {σ τ : Sg} {T : Tb} (h : TVc σ T) (e : ∀ c, 251 ≤ c → c < 259 → τ c = σ c) : TVc τ T := fun t ht => by
  rw [e 251 (by omega) (by omega), e (253 + t) (by omega) (by omega)]
  exact h t ht
theorem k1.cg {σ τ : Sg} {U : Nat} {X0 X : Rg} (h : k1 σ U X0 X) (e0 : τ 0 2 = σ 0 2) (e : ∀ c, 1 ≤ c → c < 3 → τ c = σ c) : k1 τ U X0 X := ⟨h.1, e0.trans h.2.1, h.2.2.1.cg fun x _ => by rw [e 1 (by omega) (by omega)], h.2.2.2.cg fun x _ => by rw [e 2 (by omega) (by omega)]⟩
theorem k2.cg {σ τ : Sg} {U n : Nat} {Rf : Nat → RC} {w : Nat} (h : k2 σ U n Rf w) (e4 : τ 0 4 = σ 0 4) (e5 : τ 0 5 = σ 0 5) (e : ∀ c, 26 ≤ c → c < 90 → τ c = σ c) : k2 τ U n Rf w := ⟨h.1, e4.trans h.2.1, e5.trans h.2.2.1, h.2.2.2.1, fun r hr => ⟨(h.2.2.2.2.1 r hr).1.cg fun c h1 h2 => e c (by omega) (by have := h.1; omega), (h.2.2.2.2.1 r hr).2⟩, fun r h1 h2 => by rw [e (26 + 4 * r) (by omega) (by omega)]; exact h.2.2.2.2.2 r h1 h2⟩
theorem k4.cg {σ τ : Sg} {U d : Nat} {o p : Nat → Nat} {g : Nat → Rg} (h : k4 σ U d o p g) (e : ∀ c, 4 ≤ c → c < 20 → c ≠ 7 → τ c = σ c) : k4 τ U d o p g := ⟨h.1, by rw [e 4 (by omega) (by omega) (by omega)]; exact h.2.1, fun k hk => by
  rw [e 5 (by omega) (by omega) (by omega), e 6 (by omega) (by omega) (by omega)]
  obtain ⟨h1, h2, h3, h4, h5⟩ := h.2.2 k hk
  exact ⟨h1, h2, h3, h4, h5.cg fun x _ => by rw [e (8 + k) (by omega) (by have := h.1; omega) (by omega)]⟩⟩
theorem k5.cg {σ τ : Sg} {q : Nat} {i : Nat → Nat} (h : k5 σ q i) (e9 : τ 0 9 = σ 0 9) (e : τ 20 = σ 20) : k5 τ q i := ⟨h.1, e9.trans h.2.1, fun k hk => by rw [e]; exact h.2.2 k hk⟩
theorem k6.cg {σ τ : Sg} {a : Int} {v : An} (h : k6 σ a v) (e11 : τ 0 11 = σ 0 11) (e : τ 21 = σ 21) : k6 τ a v := ⟨h.1, e11.trans h.2.1, fun x hx => by rw [e]; exact h.2.2 x hx⟩
theorem k7.cg {σ τ : Sg} {U n m : Nat} {L : Nat → RC} {f : Nat → Int} (h : k7 σ U n m L f) (e14 : τ 0 14 = σ 0 14) (e23 : τ 23 = σ 23) (e : ∀ c, 90 ≤ c → c < 250 → τ c = σ c) : k7 τ U n m L f := ⟨h.1, e14.trans h.2.1, fun l hl => by
  obtain ⟨h1, h2, h3, h4, h5⟩ := h.2.2.1 l hl
  exact ⟨h1.cg fun c q1 q2 => e c (by omega) (by have := h.1; omega), h2, h3, by rw [e23]; exact h4, h5⟩, fun l h1 h2 => by rw [e (26 + 4 * (16 + l)) (by omega) (by omega)]; exact h.2.2.2 l h1 h2⟩
theorem CI.keep {s : SS} {σ τ : Sg} (h : CI s σ) (e : ∀ c, c < 272 → τ c = σ c) : CI s τ := by
  obtain ⟨h1, h2, h3, h4, h5, h6, h7, h8, h9⟩ := h
  have e0 := e 0 (by decide)
  refine ⟨h1.cg (by rw [e0]) (fun c _ _ => e c (by omega)), h2.cg (by rw [e0]) (by rw [e0]) (fun c _ _ => e c (by omega)), h3.cg (fun c _ _ => e c (by omega)), h4.cg (fun c _ _ _ => e c (by omega)), h5.cg (by rw [e0]) (e 20 (by decide)), h6.cg (by rw [e0]) (e 21 (by decide)), h7.cg (by rw [e0]) (e 23 (by decide)) (fun c _ _ => e c (by omega)), by rw [e0]; exact h8, by rw [e 263 (by decide)]; exact h9⟩
/-- rows of the class that no later call looks at -/
abbrev SC : List Nat := [24, 25, 262, 263, 264, 265, 267, 268, 269, 270, 271]
theorem nSC {c : Nat} (h : c < 262) (h1 : c ≠ 24) (h2 : c ≠ 25) : c ∉ SC := by simp [SC]; omega
theorem CI.scr {s : SS} {σ τ : Sg} (h : CI s σ) (e : Same SC σ τ) (hJ : τ 263 0 = 0) : CI s τ := by
  obtain ⟨h1, h2, h3, h4, h5, h6, h7, h8, h9⟩ := h
  have e0 := e 0 (by decide)
  refine ⟨h1.cg (by rw [e0]) (fun c _ _ => e c (nSC (by omega) (by omega) (by omega))), h2.cg (by rw [e0]) (by rw [e0]) (fun c _ _ => e c (nSC (by omega) (by omega) (by omega))), h3.cg (fun c _ _ => e c (nSC (by omega) (by omega) (by omega))), h4.cg (fun c _ _ _ => e c (nSC (by omega) (by omega) (by omega))), h5.cg (by rw [e0]) (e 20 (by decide)), h6.cg (by rw [e0]) (e 21 (by decide)), h7.cg (by rw [e0]) (e 23 (by decide)) (fun c _ _ => e c (nSC (by omega) (by omega) (by omega))), by rw [e0]; exact h8, hJ⟩
/-! the reference's -/
def u1 (σ : Sg) (U : Nat) (X0 X : Rg) : Prop := U ≤ 10 ∧ σ 272 1 = (U : Int) ∧ AV σ 273 U X0 ∧ AV σ 274 U X
def u2 (σ : Sg) (U n : Nat) (Rf : Nat → RC) (w : Nat) : Prop := n ≤ 16 ∧ σ 272 8 = (n : Int) ∧ w < 2 ^ n ∧ ∀ r, r < n → MR σ r (Rf r) ∧ WR U (Rf r) ∧ σ 281 r = (b2 (w.testBit r) : Int)
def u4 (σ : Sg) (U d : Nat) (o p : Nat → Nat) (h : Nat → Rg) : Prop := d ≤ 12 ∧ σ 272 4 = (d : Int) ∧ ∀ k, k < d → σ 275 k = (o k : Int) ∧ o k < U ∧ σ 276 k = (p k : Int) ∧ p k < 65536 ∧ ∀ x, x < U → σ 277 (10 * k + x) = (h k x : Int) ∧ h k x ≠ 0 ∧ h k x < 65536
def u5 (σ : Sg) (q : Nat) (i : Nat → Nat) : Prop := q ≤ 12 ∧ σ 272 25 = (q : Int) ∧ ∀ k, k < q → σ 292 k = (i k : Int)
def u6 (σ : Sg) (a : Int) (v : An) : Prop := (-1 ≤ a ∧ a ≤ 10) ∧ σ 272 27 = (if a = -1 then -9 else a) ∧ ∀ x : Nat, (x : Int) < a → σ 293 x = (v x : Int) ∧ v x < 16
def u7 (σ : Sg) (U n m : Nat) (L : Nat → RC) (f : Nat → Int) : Prop := m ≤ 40 ∧ σ 272 19 = (m : Int) ∧ ∀ l, l < m → LR σ l (L l) ∧ WR U (L l) ∧ rK (L l) = 5 ∧ σ 288 l = f l ∧ (f l = -9 ∨ (0 ≤ f l ∧ f l < n))
def MI (s : SS) (σ : Sg) : Prop := u1 σ (sU s) (sG s) (sX s) ∧ u2 σ (sU s) (sN s) (sR s) (sW s) ∧ TVm σ (sB s) ∧ u4 σ (sU s) (sD s) (sO s) (sP s) (sH s) ∧ u5 σ (sQ s) (sI s) ∧ u6 σ (sA s) (sV s) ∧ u7 σ (sU s) (sN s) (sM s) (sL s) (sK s) ∧ σ 272 24 = sF s
theorem u1.cg {σ τ : Sg} {U : Nat} {X0 X : Rg} (h : u1 σ U X0 X) (e0 : τ 272 1 = σ 272 1) (e3 : τ 273 = σ 273) (e4 : τ 274 = σ 274) : u1 τ U X0 X := ⟨h.1, e0.trans h.2.1, h.2.2.1.cg fun x _ => by rw [e3], h.2.2.2.cg fun x _ => by rw [e4]⟩
theorem u2.cg {σ τ : Sg} {U n : Nat} {Rf : Nat → RC} {w : Nat} (h : u2 σ U n Rf w) (e8 : τ 272 8 = σ 272 8) (e : ∀ c, 278 ≤ c → c ≤ 285 → τ c = σ c) : u2 τ U n Rf w := ⟨h.1, e8.trans h.2.1, h.2.2.1, fun r hr => ⟨(h.2.2.2 r hr).1.cg fun c i q1 q2 => by rw [e c q1 q2], (h.2.2.2 r hr).2.1, by rw [e 281 (by decide) (by decide)]; exact (h.2.2.2 r hr).2.2⟩⟩
theorem u4.cg {σ τ : Sg} {U d : Nat} {o p : Nat → Nat} {g : Nat → Rg} (h : u4 σ U d o p g) (e4 : τ 272 4 = σ 272 4) (e : ∀ c, 275 ≤ c → c ≤ 277 → τ c = σ c) : u4 τ U d o p g := ⟨h.1, e4.trans h.2.1, fun k hk => by
  rw [e 275 (by decide) (by decide), e 276 (by decide) (by decide), e 277 (by decide) (by decide)]
  exact h.2.2 k hk⟩
theorem u5.cg {σ τ : Sg} {q : Nat} {i : Nat → Nat} (h : u5 σ q i) (e9 : τ 272 25 = σ 272 25) (e : τ 292 = σ 292) : u5 τ q i := ⟨h.1, e9.trans h.2.1, fun k hk => by rw [e]; exact h.2.2 k hk⟩
theorem u6.cg {σ τ : Sg} {a : Int} {v : An} (h : u6 σ a v) (e11 : τ 272 27 = σ 272 27) (e : τ 293 = σ 293) : u6 τ a v := ⟨h.1, e11.trans h.2.1, fun x hx => by rw [e]; exact h.2.2 x hx⟩
theorem u7.cg {σ τ : Sg} {U n m : Nat} {L : Nat → RC} {f : Nat → Int} (h : u7 σ U n m L f) (e14 : τ 272 19 = σ 272 19) (e : ∀ c, 288 ≤ c → c ≤ 291 → τ c = σ c) : u7 τ U n m L f := ⟨h.1, e14.trans h.2.1, fun l hl => by
  obtain ⟨h1, h2, h3, h4, h5⟩ := h.2.2 l hl
  exact ⟨h1.cg fun c i q1 q2 => by rw [e c (by omega) (by omega)], h2, h3, by rw [e 288 (by decide) (by decide)]; exact h4, h5⟩⟩
theorem MI.keep {s : SS} {σ τ : Sg} (h : MI s σ) (e : ∀ c, 272 ≤ c → τ c = σ c) : MI s τ := by
  obtain ⟨q1, q2, q3, q4, q5, q6, q7, q8⟩ := h
  have e0 := e 272 (by decide)
  refine ⟨q1.cg (by rw [e0]) (e 273 (by decide)) (e 274 (by decide)), q2.cg (by rw [e0]) (fun c _ _ => e c (by omega)), q3.cg (fun c i _ _ => by rw [e c (by omega)]), q4.cg (by rw [e0]) (fun c _ _ => e c (by omega)), q5.cg (by rw [e0]) (e 292 (by decide)), q6.cg (by rw [e0]) (e 293 (by decide)), q7.cg (by rw [e0]) (fun c _ _ => e c (by omega)), by rw [e0]; exact q8⟩
/-- the reference's words and rows that no later call looks at: thrown, dead, aside, fresh, moved, val -/
def ScM (σ τ : Sg) : Prop := ∀ c i, c ≠ 294 → c ≠ 296 → c ≠ 297 → (c = 272 → i ≠ 0 ∧ i ≠ 31) → τ c i = σ c i
theorem MI.scr {s : SS} {σ τ : Sg} (h : MI s σ) (e : ScM σ τ) : MI s τ := by
  obtain ⟨q1, q2, q3, q4, q5, q6, q7, q8⟩ := h
  have ec : ∀ c, c ≠ 272 → c ≠ 294 → c ≠ 296 → c ≠ 297 → τ c = σ c := fun c a b d f => by
    funext i
    exact e c i b d f (fun z => absurd z a)
  have e0 : ∀ i, i ≠ 0 → i ≠ 31 → τ 272 i = σ 272 i := fun i a b => e 272 i (by decide) (by decide) (by decide) (fun _ => ⟨a, b⟩)
  refine ⟨q1.cg (e0 1 (by decide) (by decide)) (ec 273 (by decide) (by decide) (by decide) (by decide)) (ec 274 (by decide) (by decide) (by decide) (by decide)), q2.cg (e0 8 (by decide) (by decide)) (fun c _ _ => ec c (by omega) (by omega) (by omega) (by omega)), q3.cg (fun c i _ _ => by rw [ec c (by omega) (by omega) (by omega) (by omega)]), q4.cg (e0 4 (by decide) (by decide)) (fun c _ _ => ec c (by omega) (by omega) (by omega) (by omega)), q5.cg (e0 25 (by decide) (by decide)) (ec 292 (by decide) (by decide) (by decide) (by decide)), q6.cg (e0 27 (by decide) (by decide)) (ec 293 (by decide) (by decide) (by decide) (by decide)), q7.cg (e0 19 (by decide) (by decide)) (fun c _ _ => ec c (by omega) (by omega) (by omega) (by omega)), (e0 24 (by decide) (by decide)).trans q8⟩
/-! what is told -/
def nS (k : Int) (v : Nat) : Nat := if k = 0 then 2 ^ (v + 1) - 1 else if k = 1 then 65536 - 2 ^ v else if k = 2 then 65535 - 2 ^ v else 2 ^ v
theorem nS_lt {k : Int} {v : Nat} (h : v < 16) : nS k v < 65536 := by
  have h1 := pow_le16 h
  have h2 := pow_le17 (show v + 1 < 17 by omega)
  have h3 : 1 ≤ 2 ^ v := Nat.one_le_two_pow
  have h4 : 1 ≤ 2 ^ (v + 1) := Nat.one_le_two_pow
  unfold nS
  split
  · omega
  · split
    · omega
    · split <;> omega
abbrev isU (s : SS) (x : Int) : Prop := 0 ≤ x ∧ x < sU s
abbrev isR (s : SS) (r : Int) : Prop := 0 ≤ r ∧ r < sN s
abbrev isLn (s : SS) (l : Int) : Prop := 0 ≤ l ∧ l < sM s
abbrev isN (v : Int) : Prop := 0 ≤ v ∧ v < 16
abbrev isT (t : Int) : Prop := 0 ≤ t ∧ t < 6
abbrev isLi (k v : Int) : Prop := (0 ≤ k ∧ k ≤ 3) ∧ isN v
def okSet (k a b : Int) : Prop := (k = 0 → (0 ≤ a ∧ a ≤ 2) ∧ -1000 ≤ b ∧ b ≤ 1000) ∧ (k = 2 → 0 ≤ a ∧ a < 6) ∧ (k = 3 → 0 ≤ a ∧ a ≤ 100)
def okPart (k : Nat) (a b : Int) : Prop := (k = 0 → -9 ≤ a ∧ a ≤ 9 ∧ a ≠ 0) ∧ (k = 3 → (0 ≤ a ∧ a ≤ 15) ∧ 0 ≤ b ∧ b ≤ 20)
def nR (k a b : Int) : RC := (k.toNat, a, b, 0, fun _ => 0, fun _ => 0, fun _ => 0)
def addP (R : RC) (x : Nat) (a b : Int) : RC := (rK R, rS R, rB R, rN R + 1, updF (rO R) (rN R) x, updF (rA R) (rN R) a, updF (rZ R) (rN R) b)
/-- a choice by a fact -/
noncomputable def ifP {α : Type} (p : Prop) (a b : α) : α := @ite α p (Classical.propDecidable p) a b
theorem ifP_t {α : Type} {p : Prop} {a b : α} (h : p) : ifP p a b = a := if_pos h
theorem ifP_f {α : Type} {p : Prop} {a b : α} (h : ¬ p) : ifP p a b = b := if_neg h
noncomputable def o_unknown (s : SS) (a b : Int) : Int × SS := ifP (a < 0 ∨ 16 ≤ b ∨ b < a) (-2, s) (ifP (0 < sD s) (-3, s) (ifP (10 ≤ sU s) (-4, s) ((sU s : Int), wT s (sU s + 1) (upY (sG s) (sU s) (2 ^ (b.toNat + 1) - 2 ^ a.toNat)))))
noncomputable def o_hole (s : SS) (x v : Int) : Int × SS := ifP (¬ isU s x) (-1, s) (ifP (¬ isN v) (-2, s) (ifP (0 < sD s ∨ (sG s x.toNat).testBit v.toNat = false ∨ sG s x.toNat = 2 ^ v.toNat) (-3, s) ((pop (andN (sG s x.toNat) (2 ^ v.toNat)) : Int), wT s (sU s) (upY (sG s) x.toNat (andN (sG s x.toNat) (2 ^ v.toNat))))))
noncomputable def o_rule (s : SS) (k a b : Int) : Int × SS := ifP (¬ ((0 ≤ k ∧ k ≤ 5) ∧ okSet k a b)) (-2, s) (ifP (0 < sD s) (-3, s) (ifP (16 ≤ sN s) (-4, s) ((sN s : Int), wR s (sN s + 1) (updF (sR s) (sN s) (nR k a b)) (sW s ||| 2 ^ sN s))))
noncomputable def o_part (s : SS) (r x a b : Int) : Int × SS := ifP (¬ (isR s r ∧ isU s x)) (-1, s) (ifP (rK (sR s r.toNat) = 5) (-13, wF s) (ifP (¬ okPart (rK (sR s r.toNat)) a b) (-2, s) (ifP (0 < sD s ∨ ∃ k, k < rN (sR s r.toNat) ∧ rO (sR s r.toNat) k = x.toNat) (-3, s) (ifP (6 ≤ rN (sR s r.toNat)) (-4, s) ((rN (sR s r.toNat) : Int) + 1, wR s (sN s) (updF (sR s) r.toNat (addP (sR s r.toNat) x.toNat a b)) (sW s))))))
noncomputable def o_literal (s : SS) (r x k v : Int) : Int × SS := ifP (¬ (isR s r ∧ isU s x)) (-1, s) (ifP (rK (sR s r.toNat) ≠ 5) (-13, wF s) (ifP (¬ isLi k v) (-2, s) (ifP (0 < sD s) (-3, s) (ifP (6 ≤ rN (sR s r.toNat)) (-4, s) ((rN (sR s r.toNat) : Int) + 1, wR s (sN s) (updF (sR s) r.toNat (addP (sR s r.toNat) x.toNat (nS k v.toNat : Int) 0)) (sW s))))))
noncomputable def o_stand (s : SS) (r i : Int) : Int × SS := ifP (¬ isR s r) (-1, s) (ifP (0 < sD s) (-3, s) ((b2 ((sW s).testBit r.toNat) : Int), wR s (sN s) (sR s) (ifP (i = 0) (andN (sW s) (2 ^ r.toNat)) (sW s ||| 2 ^ r.toNat))))
noncomputable def o_table (s : SS) (t l n : Int) : Int × SS := ifP (¬ (isT t ∧ (0 ≤ l ∧ l < 3) ∧ n ≤ 48)) (-2, s) (ifP (0 < sD s) (-3, s) (ifP (n < 0) (-14, wF s) (n, wB s (updF (sB s).1 t.toNat n, updF (sB s).2 t.toNat (fun _ => 0)))))
noncomputable def o_tear (s : SS) (t : Int) : Int × SS := ifP (¬ isT t) (-2, s) (ifP (0 < sD s) (-3, s) (bI ((sB s).1 t.toNat = -1), wB s (updF (sB s).1 t.toNat (-1), (sB s).2)))
noncomputable def o_cell (s : SS) (t i v : Int) : Int × SS := ifP (¬ (isT t ∧ isN v)) (-2, s) (ifP (0 < sD s) (-3, s) (ifP ((sB s).1 t.toNat = -1) (-11, wF s) (ifP (¬ (0 ≤ i ∧ i < (sB s).1 t.toNat)) (-12, wF s) (1, wB s ((sB s).1, updF (sB s).2 t.toNat (updF ((sB s).2 t.toNat) i.toNat v.toNat))))))
def cpT (f g : Nat → Nat) (i j n : Nat) : Nat → Nat := fun k => if j ≤ k ∧ k < j + n then f (i + (k - j)) else g k
noncomputable def o_copy (s : SS) (t i u j n : Int) : Int × SS := ifP (¬ (isT t ∧ isT u ∧ 0 ≤ n)) (-2, s) (ifP (0 < sD s) (-3, s) (ifP ((sB s).1 t.toNat = -1 ∨ (sB s).1 u.toNat = -1) (-11, wF s) (ifP (¬ ((0 ≤ i ∧ i + n ≤ (sB s).1 t.toNat) ∧ 0 ≤ j ∧ j + n ≤ (sB s).1 u.toNat)) (-12, wF s) (n, wB s ((sB s).1, updF (sB s).2 u.toNat (cpT ((sB s).2 t.toNat) ((sB s).2 u.toNat) i.toNat j.toNat n.toNat))))))
noncomputable def o_get (s : SS) (t i : Int) : Int × SS := ifP (¬ isT t) (-2, s) (ifP ((sB s).1 t.toNat = -1) (-11, wF s) (ifP (¬ (0 ≤ i ∧ i < (sB s).1 t.toNat)) (-12, wF s) (((sB s).2 t.toNat i.toNat : Int), s)))
noncomputable def o_about (s : SS) (r w : Int) : Int × SS := ifP (¬ isR s r) (-1, s) (ifP (¬ (0 ≤ w ∧ w ≤ 2)) (-2, s) (ifP (w = 0) (ifP (rK (sR s r.toNat) = 0) (rB (sR s r.toNat), s) (-13, wF s)) (ifP (w = 1) (ifP (rK (sR s r.toNat) = 3) (rS (sR s r.toNat), s) (-13, wF s)) (ifP (rK (sR s r.toNat) = 2) (rS (sR s r.toNat), s) (-13, wF s)))))
theorem WR.up {U U' : Nat} {R : RC} (h : WR U R) (h1 : U ≤ U') (h2 : U' ≤ 10) : WR U' R := ⟨⟨h.1.1, h.1.2.1, h2⟩, fun k hk => Nat.lt_of_lt_of_le (h.2.1 k hk) h1, h.2.2⟩
theorem WR.new {U : Nat} {k a b : Int} (hU : U ≤ 10) (hk : 0 ≤ k ∧ k ≤ 5) (h : okSet k a b) : WR U (nR k a b) := by
  obtain ⟨q1, q2, q3⟩ := h
  refine ⟨⟨by show k.toNat ≤ 5; omega, by show 0 ≤ 6; decide, hU⟩, fun j hj => absurd hj (by show ¬ j < 0; omega), fun z => ?_, fun z => ?_, fun z => ?_, fun _ j hj => absurd hj (by show ¬ j < 0; omega), fun _ j i hj => absurd hj (by show ¬ j < 0; omega)⟩
  · have z : k.toNat = 0 := z
    exact ⟨(q1 (by omega)).1, (q1 (by omega)).2, fun j hj => absurd hj (by show ¬ j < 0; omega)⟩
  · have z : k.toNat = 2 := z
    exact q2 (by omega)
  · have z : k.toNat = 3 := z
    exact ⟨q3 (by omega), fun j hj => absurd hj (by show ¬ j < 0; omega)⟩
theorem addP_o {R : RC} {x k : Nat} {a b : Int} : rO (addP R x a b) k = if k = rN R then x else rO R k := rfl
theorem addP_a {R : RC} {x k : Nat} {a b : Int} : rA (addP R x a b) k = if k = rN R then a else rA R k := rfl
theorem addP_z {R : RC} {x k : Nat} {a b : Int} : rZ (addP R x a b) k = if k = rN R then b else rZ R k := rfl
theorem WR.add {U x : Nat} {R : RC} {a b : Int} (h : WR U R) (hn : rN R < 6) (hx : x < U) (ho : (rK R = 0 → -9 ≤ a ∧ a ≤ 9) ∧ (rK R = 3 → (0 ≤ a ∧ a ≤ 15) ∧ 0 ≤ b ∧ b ≤ 20) ∧ (rK R = 5 → 0 ≤ a ∧ a < 65536)) (hd : rK R ≠ 5 → ∀ k, k < rN R → rO R k ≠ x) : WR U (addP R x a b) := by
  obtain ⟨⟨w1, w2, w3⟩, w4, w5, w6, w7, w8, w9⟩ := h
  have hN : rN (addP R x a b) = rN R + 1 := rfl
  refine ⟨⟨w1, by rw [hN]; omega, w3⟩, fun k hk => ?_, fun z => ⟨(w5 z).1, (w5 z).2.1, fun k hk => ?_⟩, w6, fun z => ⟨(w7 z).1, fun k hk => ?_⟩, fun z k hk => ?_, fun z j k hj hk e => ?_⟩
  · rw [addP_o]
    split
    · exact hx
    · exact w4 k (by rw [hN] at hk; omega)
  · rw [addP_a]
    split
    · exact ho.1 z
    · exact (w5 z).2.2 k (by rw [hN] at hk; omega)
  · rw [addP_a, addP_z]
    split
    · exact ho.2.1 z
    · exact (w7 z).2 k (by rw [hN] at hk; omega)
  · rw [addP_a]
    split
    · exact ho.2.2 z
    · exact w8 z k (by rw [hN] at hk; omega)
  · rw [addP_o, addP_o] at e
    rw [hN] at hj hk
    by_cases e1 : j = rN R
    · by_cases e2 : k = rN R
      · omega
      · rw [if_pos e1, if_neg e2] at e
        exact absurd e.symm (hd z k (by omega))
    · by_cases e2 : k = rN R
      · rw [if_neg e1, if_pos e2] at e
        exact absurd e (hd z j (by omega))
      · rw [if_neg e1, if_neg e2] at e
        exact w9 z j k (by omega) (by omega) e
theorem memM_add {x : Nat} {R : RC} {a b : Int} (hx : x < 10) : memM R ||| 2 ^ x = memM (addP R x a b) := by
  apply Nat.eq_of_testBit_eq
  intro j
  have h1 : (memM R).testBit j = true ↔ j < 10 ∧ ∃ k, k < rN R ∧ rO R k = j := mkN_tb 10 _ j
  have h2 : (memM (addP R x a b)).testBit j = true ↔ j < 10 ∧ ∃ k, k < rN R + 1 ∧ rO (addP R x a b) k = j := mkN_tb 10 _ j
  have h3 : (memM R ||| 2 ^ x).testBit j = true ↔ (memM (addP R x a b)).testBit j = true := by
    rw [Nat.testBit_or, Bool.or_eq_true, h1, h2, tb_pow]
    constructor
    · rintro (⟨z1, k, z2, z3⟩ | z)
      · exact ⟨z1, k, by omega, by rw [addP_o, if_neg (by omega)]; exact z3⟩
      · exact ⟨by omega, rN R, by omega, by rw [addP_o, if_pos rfl]; exact z⟩
    · rintro ⟨z1, k, z2, z3⟩
      rw [addP_o] at z3
      by_cases e : k = rN R
      · rw [if_pos e] at z3; exact Or.inr z3
      · rw [if_neg e] at z3; exact Or.inl ⟨z1, k, by omega, z3⟩
  cases ha : (memM R ||| 2 ^ x).testBit j with
  | true => exact (h3.mp ha).symm
  | false =>
    cases hb : (memM (addP R x a b)).testBit j with
    | false => rfl
    | true => rw [h3.mpr hb] at ha; cases ha
theorem memM_0 {k a b : Int} : memM (nR k a b) = 0 := by
  apply Nat.eq_of_testBit_eq
  intro j
  rw [Nat.zero_testBit]
  cases hb : (memM (nR k a b)).testBit j with
  | false => rfl
  | true =>
    obtain ⟨_, i, h, _⟩ := (mkN_tb 10 _ j).mp hb
    exact absurd h (by show ¬ i < 0; omega)
