/-! THE CLASS: rings, clauses, any rule -/
def chP (R : RC) (X : Rg) (i v : Nat) : Prop := ∃ j, j + 1 < rN R ∧ pth R X v j = i ∧ ∀ j', j' < j → pop (X (rO R (pth R X v j'))) = 1 ∧ pth R X v (j' + 1) < rN R
theorem ch_no {R : RC} {X : Rg} {i v q : Nat} (hne : ∀ j, j < q → pth R X v j ≠ i) (h : rN R ≤ q + 1 ∨ (pth R X v q ≠ i ∧ ¬ (pop (X (rO R (pth R X v q))) = 1 ∧ pth R X v (q + 1) < rN R))) : ¬ chP R X i v := by
  rintro ⟨j, h1, h2, h3⟩
  rcases Nat.lt_trichotomy j q with hj | hj | hj
  · exact hne j hj h2
  · subst hj
    rcases h with h | ⟨h, _⟩
    · omega
    · exact h h2
  · rcases h with h | ⟨_, h⟩
    · omega
    · exact h (h3 q hj)
theorem gn_4 {T : Tb} {R : RC} {X : Rg} {i : Nat} (h : rK R = 4) : gn T R X i = mk (fun v => (X (rO R i)).testBit v = true ∧ gRing R X i v) := mk_congr fun j _ => by rw [goes_4 h]
noncomputable def tkM (R : RC) (X : Rg) (i K : Nat) : Nat := mk (fun v => (X (rO R i)).testBit v = true ∧ (rN R ≤ v ∨ (v < K ∧ chP R X i v)))
theorem tk_0 {R : RC} {X : Rg} {i : Nat} (hX : X (rO R i) < 65536) : andN (X (rO R i)) (2 ^ rN R - 1) = tkM R X i 0 := mk_eq (andN_lt hX) fun v hv => by
  rw [andN_tb, Nat.testBit_two_pow_sub_one, Bool.and_eq_true]
  by_cases h : v < rN R
  · first | (simp [h]; done) | (simp [h]; omega)
  · first | (simp [h]; done) | (simp [h]; omega)
theorem tk_y {R : RC} {X : Rg} {i K : Nat} (hK : K < 16) (h : (X (rO R i)).testBit K = true) (h2 : chP R X i K) : tkM R X i K ||| 2 ^ K = tkM R X i (K + 1) := mk_eq (Nat.or_lt_two_pow (show _ < 2 ^ 16 from mk_lt _) (by have := pow_le16 hK; omega)) fun v hv => by
  rw [Nat.testBit_or, Nat.testBit_two_pow, Bool.or_eq_true]
  rw [show (tkM R X i K).testBit v = true ↔ (v < 16 ∧ (X (rO R i)).testBit v = true ∧ (rN R ≤ v ∨ (v < K ∧ chP R X i v))) from mkN_tb 16 _ v]
  constructor
  · rintro (⟨_, z1, z2⟩ | z)
    · exact ⟨z1, z2.elim Or.inl (fun q => Or.inr ⟨by omega, q.2⟩)⟩
    · have : K = v := by simpa using z
      subst this
      exact ⟨h, Or.inr ⟨by omega, h2⟩⟩
  · rintro ⟨z1, z2⟩
    by_cases e : K = v
    · right; simp [e]
    · left; exact ⟨hv, z1, z2.elim Or.inl (fun q => Or.inr ⟨by omega, q.2⟩)⟩
theorem tk_n {R : RC} {X : Rg} {i K : Nat} (h : ¬ ((X (rO R i)).testBit K = true ∧ chP R X i K)) : tkM R X i (K + 1) = tkM R X i K := mk_congr fun v _ => by
  constructor
  · rintro ⟨z1, z2⟩
    refine ⟨z1, z2.elim Or.inl (fun q => ?_)⟩
    rcases Nat.lt_or_ge v K with e | e
    · exact Or.inr ⟨e, q.2⟩
    · have : v = K := by omega
      subst this
      exact absurd ⟨z1, q.2⟩ h
  · rintro ⟨z1, z2⟩; exact ⟨z1, z2.elim Or.inl (fun q => Or.inr ⟨by omega, q.2⟩)⟩
theorem rg_end {T : Tb} {R : RC} {X : Rg} {i K : Nat} (hk4 : rK R = 4) (hK : K = rN R) : uM R X i ||| tkM R X i K = gn T R X i := by
  rw [gn_4 hk4]
  subst hK
  refine mk_eq (Nat.or_lt_two_pow (show _ < 2 ^ 16 from mk_lt _) (show _ < 2 ^ 16 from mk_lt _)) fun v hv => ?_
  rw [Nat.testBit_or, Bool.or_eq_true]
  rw [show (uM R X i).testBit v = true ↔ _ from mkN_tb 16 _ v, show (tkM R X i (rN R)).testBit v = true ↔ (v < 16 ∧ (X (rO R i)).testBit v = true ∧ (rN R ≤ v ∨ (v < rN R ∧ chP R X i v))) from mkN_tb 16 _ v]
  constructor
  · rintro (⟨_, z1, z2⟩ | ⟨_, z1, z2⟩)
    · exact ⟨z1, Or.inr (Or.inl z2)⟩
    · exact ⟨z1, z2.elim Or.inl (fun q => Or.inr (Or.inr q.2))⟩
  · rintro ⟨z1, z2⟩
    rcases z2 with z2 | z2 | z2
    · exact Or.inr ⟨hv, z1, Or.inl z2⟩
    · exact Or.inl ⟨hv, z1, z2⟩
    · rcases Nat.lt_or_ge v (rN R) with e | e
      · exact Or.inr ⟨hv, z1, Or.inr ⟨e, z2⟩⟩
      · exact Or.inr ⟨hv, z1, Or.inl e⟩
/-- clauses: what makes a literal of an unknown so -/
def soM (R : RC) : Nat → Nat → Nat
  | 0, _ => 0
  | K + 1, x => soM R K x ||| (if rO R K = x then (rA R K).toNat else 0)
theorem soM_lt {R : RC} {n : Nat} (h : ∀ k, k < n → 0 ≤ rA R k ∧ rA R k < 65536) (x : Nat) : soM R n x < 65536 := by
  induction n with
  | zero => exact (by decide : 0 < 65536)
  | succ n ih =>
    have h1 : soM R n x < 2 ^ 16 := ih fun k hk => h k (by omega)
    have h2 : (if rO R n = x then (rA R n).toNat else 0) < 2 ^ 16 := by
      have := h n (by omega)
      split <;> omega
    exact Nat.or_lt_two_pow h1 h2
theorem soM_tb {R : RC} {n x v : Nat} : (soM R n x).testBit v = true ↔ ∃ k, k < n ∧ rO R k = x ∧ ((rA R k).toNat).testBit v = true := by
  induction n with
  | zero => simp [soM]
  | succ n ih =>
    simp only [soM, Nat.testBit_or, Bool.or_eq_true, ih]
    constructor
    · rintro (⟨k, h1, h2⟩ | h)
      · exact ⟨k, by omega, h2⟩
      · by_cases e : rO R n = x
        · rw [if_pos e] at h; exact ⟨n, by omega, e, h⟩
        · rw [if_neg e, Nat.zero_testBit] at h; cases h
    · rintro ⟨k, h1, h2, h3⟩
      by_cases e : k = n
      · subst e; right; rw [if_pos h2]; exact h3
      · left; exact ⟨k, by omega, h2, h3⟩
noncomputable def alM (R : RC) (X : Rg) (K : Nat) : Nat := mk (fun x => ∃ k, k < K ∧ rO R k = x ∧ X x &&& soM R (rN R) x ≠ 0)
theorem al_y {R : RC} {X : Rg} {K : Nat} (hx : rO R K < 16) (h : X (rO R K) &&& soM R (rN R) (rO R K) ≠ 0) : alM R X K ||| 2 ^ rO R K = alM R X (K + 1) := mk_eq (Nat.or_lt_two_pow (show _ < 2 ^ 16 from mk_lt _) (by have := pow_le16 hx; omega)) fun v hv => by
  rw [Nat.testBit_or, Nat.testBit_two_pow, Bool.or_eq_true]
  rw [show (alM R X K).testBit v = true ↔ (v < 16 ∧ ∃ k, k < K ∧ rO R k = v ∧ X v &&& soM R (rN R) v ≠ 0) from mkN_tb 16 _ v]
  constructor
  · rintro (⟨_, k, z1, z2⟩ | z)
    · exact ⟨k, by omega, z2⟩
    · have : rO R K = v := by simpa using z
      exact ⟨K, by omega, this, by rw [← this]; exact h⟩
  · rintro ⟨k, z1, z2, z3⟩
    rcases Nat.lt_or_ge k K with e | e
    · exact Or.inl ⟨hv, k, e, z2, z3⟩
    · right; rw [← z2, show k = K by omega]; simp
theorem al_n {R : RC} {X : Rg} {K : Nat} (h : X (rO R K) &&& soM R (rN R) (rO R K) = 0) : alM R X (K + 1) = alM R X K := mk_congr fun v _ => by
  constructor
  · rintro ⟨k, z1, z2, z3⟩
    rcases Nat.lt_or_ge k K with e | e
    · exact ⟨k, e, z2, z3⟩
    · rw [show k = K by omega] at z2; rw [← z2] at z3; exact absurd h z3
  · rintro ⟨k, z1, z2⟩; exact ⟨k, by omega, z2⟩
noncomputable def cgM (R : RC) (X : Rg) (x : Nat) : Nat := if andN (alM R X (rN R)) (2 ^ x) = 0 then andN (X x) (soM R (rN R) x) else 0
theorem cg_end {T : Tb} {R : RC} {X : Rg} {i : Nat} (hk5 : rK R = 5) (hi' : i < rN R) (hO : ∀ k, k < rN R → rO R k < 16) (hX : ∀ k, k < rN R → X (rO R k) < 65536) : cgM R X (rO R i) = gn T R X i := by
  have hal : andN (alM R X (rN R)) (2 ^ rO R i) = 0 ↔ ∀ k, k < rN R → rO R k ≠ rO R i → X (rO R k) &&& soM R (rN R) (rO R k) = 0 := by
    constructor
    · intro z k hk hne
      cases Nat.decEq (X (rO R k) &&& soM R (rN R) (rO R k)) 0 with
      | isTrue h => exact h
      | isFalse h =>
        exfalso
        have h1 : (andN (alM R X (rN R)) (2 ^ rO R i)).testBit (rO R k) = true := by
          rw [andN_tb, Nat.testBit_two_pow, show (alM R X (rN R)).testBit (rO R k) = true from (mkN_tb 16 _ _).mpr ⟨hO k hk, k, hk, rfl, h⟩]
          have : rO R i ≠ rO R k := fun e => hne e.symm
          simp [this]
        rw [z, Nat.zero_testBit] at h1; cases h1
    · intro z
      apply Nat.eq_of_testBit_eq
      intro x
      rw [Nat.zero_testBit, andN_tb, Nat.testBit_two_pow]
      cases hq : (alM R X (rN R)).testBit x with
      | false => rfl
      | true =>
        obtain ⟨_, k, h1, h2, h3⟩ := (mkN_tb 16 _ _).mp hq
        by_cases e : rO R i = x
        · simp [e]
        · exact absurd (by rw [← h2]; exact z k h1 (fun q => e (q ▸ h2))) h3
  have key : ∀ v, (X (rO R i)).testBit v = true → (gCl R X i v ↔ (∀ k, k < rN R → rO R k ≠ rO R i → X (rO R k) &&& soM R (rN R) (rO R k) = 0) ∧ (soM R (rN R) (rO R i)).testBit v = false) := by
    intro v hv
    constructor
    · intro z
      refine ⟨fun k hk hne => ?_, ?_⟩
      · apply Nat.eq_of_testBit_eq
        intro j
        rw [Nat.zero_testBit, Nat.testBit_and]
        cases h1 : (X (rO R k)).testBit j with
        | false => rfl
        | true =>
          cases h2 : (soM R (rN R) (rO R k)).testBit j with
          | false => rfl
          | true =>
            obtain ⟨k', q1, q2, q3⟩ := soM_tb.mp h2
            have q4 := z k' q1
            rw [if_neg (by rw [q2]; exact hne), q2] at q4
            have : (X (rO R k) &&& (rA R k').toNat).testBit j = false := by rw [q4, Nat.zero_testBit]
            rw [Nat.testBit_and, h1, q3] at this; cases this
      · cases h2 : (soM R (rN R) (rO R i)).testBit v with
        | false => rfl
        | true =>
          obtain ⟨k', q1, q2, q3⟩ := soM_tb.mp h2
          have q4 := z k' q1
          rw [if_pos q2] at q4
          have : (2 ^ v &&& (rA R k').toNat).testBit v = false := by rw [q4, Nat.zero_testBit]
          rw [Nat.testBit_and, Nat.testBit_two_pow, q3] at this; simp at this
    · rintro ⟨z1, z2⟩ k hk
      by_cases e : rO R k = rO R i
      · rw [if_pos e]
        apply Nat.eq_of_testBit_eq
        intro j
        rw [Nat.zero_testBit, Nat.testBit_and, Nat.testBit_two_pow]
        by_cases hj : v = j
        · subst hj
          cases h3 : ((rA R k).toNat).testBit v with
          | false => simp
          | true => rw [soM_tb.mpr ⟨k, hk, e, h3⟩] at z2; cases z2
        · simp [hj]
      · rw [if_neg e]
        refine Nat.eq_of_testBit_eq fun j => ?_
        rw [Nat.zero_testBit, Nat.testBit_and]
        cases h3 : ((rA R k).toNat).testBit j with
        | false => simp
        | true =>
          have q := z1 k hk e
          have : (X (rO R k) &&& soM R (rN R) (rO R k)).testBit j = false := by rw [q, Nat.zero_testBit]
          rw [Nat.testBit_and, soM_tb.mpr ⟨k, hk, rfl, h3⟩] at this
          simpa using this
  have hgn : gn T R X i = mk (fun v => (X (rO R i)).testBit v = true ∧ gCl R X i v) := mk_congr fun j _ => by rw [goes_5 hk5]
  rw [hgn]
  unfold cgM
  by_cases h : andN (alM R X (rN R)) (2 ^ rO R i) = 0
  · rw [if_pos h]
    refine mk_eq (andN_lt (hX i hi')) fun v _ => ?_
    rw [andN_tb, Bool.and_eq_true]
    constructor
    · rintro ⟨z1, z2⟩; exact ⟨z1, (key v z1).mpr ⟨hal.mp h, by simpa using z2⟩⟩
    · rintro ⟨z1, z2⟩; exact ⟨z1, by rw [((key v z1).mp z2).2]; rfl⟩
  · rw [if_neg h]
    refine mk_eq (by decide) fun v _ => ?_
    constructor
    · intro z; rw [Nat.zero_testBit] at z; cases z
    · rintro ⟨z1, z2⟩; exact absurd (hal.mpr ((key v z1).mp z2).1) h
set_option maxRecDepth 100000 in
set_option maxHeartbeats 4000000 in
theorem s1_close_l {g : GC} (σ : Sg) (r U : Nat) (R : RC) (hr : r < 56) (hM : CR σ r R) (hW : WR U R) (X : Rg) (rg : Nat) (hg : rg < 298) (hgs : sh0 rg = (1, 10)) (hgn : rg ∉ LK) (hX : AV σ rg U X) (i v : Nat) (hii : i < rN R) (hvn : v < rN R) : ∀ j q : Nat, q + j = rN R → pth R X v q < rN R → (∀ j, j < q → pth R X v j ≠ i) → (∀ j, j < q → pop (X (rO R (pth R X v j))) = 1 ∧ pth R X v (j + 1) < rN R) → Ev g mX1_closesTooSoon 6 [some (vR (26 + 4 * r)), some (vR (rg)), some (vI (((i : Nat) : Int))), some (vI (((v : Nat) : Int))), some (vI (((pth R X v q : Nat) : Int))), some (vI ((((q + 1) : Nat) : Int))), none] [] (M0 (σ)) 0 0 (retI (bI (chP R X i v)) σ) := by
  intro j
  induction j with
  | zero =>
    intro q hij hat hne hch
    obtain ⟨hK, hS, hB, hN, hE, hP⟩ := id hM
    obtain ⟨⟨hk5, hn6, hU⟩, hO, -⟩ := id hW
    have hXR : ∀ k, k < rN R → X (rO R k) ≠ 0 ∧ X (rO R k) < 65536 := fun k hk => (hX _ (hO k hk)).2
    refine Ev.iload dX1_closesTooSoon_6 rfl ?_
    refine Ev.aload_n dX1_closesTooSoon_8 rfl rfl ?_
    refine gf_X1_53 (x := ((rN R : Nat) : Int)) rfl dX1_closesTooSoon_9 (lt_rc (by omega)) (sh_rc (by omega)) hN ?_
    refine Ev.icmp_gt (tgt := 79) ⟨by omega, by omega⟩ ⟨by omega, by omega⟩ dX1_closesTooSoon_12 (by decide) (fun h12 => ?_) (fun h12 => ?_)
    · skip
      refine Ev.iconst dX1_closesTooSoon_79 ?_
      exact Ev.zreturn dX1_closesTooSoon_80 rfl (Or.inl rfl) (rI (bI_f (ch_no (q := q) hne (by first | exact Or.inl (by omega) | exact Or.inr ⟨by omega, fun z => absurd z.1 (bI_0.mp (by assumption))⟩ | exact Or.inr ⟨by omega, fun z => by have z2 : lo (X (rO R (pth R X v q))) < rN R := z.2; omega⟩))) rfl)
    · exact absurd h12 (by omega)
  | succ j ih =>
    intro q hij hat hne hch
    obtain ⟨hK, hS, hB, hN, hE, hP⟩ := id hM
    obtain ⟨⟨hk5, hn6, hU⟩, hO, -⟩ := id hW
    have hXR : ∀ k, k < rN R → X (rO R k) ≠ 0 ∧ X (rO R k) < 65536 := fun k hk => (hX _ (hO k hk)).2
    refine Ev.iload dX1_closesTooSoon_6 rfl ?_
    refine Ev.aload_n dX1_closesTooSoon_8 rfl rfl ?_
    refine gf_X1_53 (x := ((rN R : Nat) : Int)) rfl dX1_closesTooSoon_9 (lt_rc (by omega)) (sh_rc (by omega)) hN ?_
    refine Ev.icmp_gt (tgt := 79) ⟨by omega, by omega⟩ ⟨by omega, by omega⟩ dX1_closesTooSoon_12 (by decide) (fun h12 => ?_) (fun h12 => ?_)
    · exact absurd h12 (by omega)
    · skip
      refine Ev.iload dX1_closesTooSoon_15 rfl ?_
      refine Ev.iload_n dX1_closesTooSoon_17 rfl rfl ?_
      refine Ev.icmp_ne (tgt := 36) ⟨by omega, by omega⟩ ⟨by omega, by omega⟩ dX1_closesTooSoon_18 (by decide) (fun h18 => ?_) (fun h18 => ?_)
      · skip
        refine Ev.aload_n dX1_closesTooSoon_36 rfl rfl ?_
        refine Ev.aload_n dX1_closesTooSoon_37 rfl rfl ?_
        refine gf_X1_56 rfl dX1_closesTooSoon_38 (lt_rc (by omega)) (sh_rc (by omega)) (rf_rc5 (by omega)) ?_
        refine Ev.iload dX1_closesTooSoon_41 rfl ?_
        refine Ev.iaload (v := ((rO R (pth R X v q) : Nat) : Int)) dX1_closesTooSoon_43 (lt_rcf (by omega) (by decide)) (sh_rc1 (by omega)) (by decide) (by omega) (by omega) (ldx rfl (hP (pth R X v q) (by omega)).1) ?_
        refine Ev.iaload (v := ((X (rO R (pth R X v q)) : Nat) : Int)) dX1_closesTooSoon_44 hg hgs (by decide) (by omega) (Int.ofNat_lt.mpr (Nat.lt_of_lt_of_le (hO _ (by omega)) hU)) (ldx rfl (hX _ (hO _ (by omega))).1) ?_
        refine Ev.istore (pl' := [some (vR (26 + 4 * r)), some (vR (rg)), some (vI (((i : Nat) : Int))), some (vI (((v : Nat) : Int))), some (vI (((pth R X v q : Nat) : Int))), some (vI ((((q + 1) : Nat) : Int))), some (vI (((X (rO R (pth R X v q)) : Nat) : Int)))]) dX1_closesTooSoon_45 (Nat.le_of_ble_eq_true rfl) rfl ?_
        refine Ev.iload dX1_closesTooSoon_47 rfl ?_
        refine Ev.callS_I (M2 := mJ6_numberOfTrailingZeros_0f7a4) (args2 := [vI (((X (rO R (pth R X v q)) : Nat) : Int))]) dX1_closesTooSoon_49 okJ6_numberOfTrailingZeros_0f7a4 lk_X1_77 osJ6_numberOfTrailingZeros_0f7a4.1 osJ6_numberOfTrailingZeros_0f7a4.2 (by decide) rfl (Nat.le_of_ble_eq_true rfl) (Nat.le_of_ble_eq_true rfl) (sJ_ntz σ (X (rO R (pth R X v q))) (hX _ (hO _ (by omega))).2.2 (hX _ (hO _ (by omega))).2.1) ?_ rfl
        refine Ev.istore (pl' := [some (vR (26 + 4 * r)), some (vR (rg)), some (vI (((i : Nat) : Int))), some (vI (((v : Nat) : Int))), some (vI (((lo (X (rO R (pth R X v q))) : Nat) : Int))), some (vI ((((q + 1) : Nat) : Int))), some (vI (((X (rO R (pth R X v q)) : Nat) : Int)))]) dX1_closesTooSoon_52 (Nat.le_of_ble_eq_true rfl) rfl ?_
        refine Ev.iload dX1_closesTooSoon_54 rfl ?_
        refine Ev.callSN_I (M2 := mX7_isOne) (args2 := [vI (((X (rO R (pth R X v q)) : Nat) : Int))]) (host := "NarrowingKernel") dX1_closesTooSoon_56 okX7_isOne (show _ ∈ nestL from by decide) osX7_isOne.1 osX7_isOne.2 (by decide) rfl (Nat.le_of_ble_eq_true rfl) (Nat.le_of_ble_eq_true rfl) (s7_isOne σ (X (rO R (pth R X v q))) (hX _ (hO _ (by omega))).2.2 (hX _ (hO _ (by omega))).2.1) ?_ rfl
        refine Ev.if_eq (tgt := 71) bI_inR dX1_closesTooSoon_59 (by decide) (fun h59 => ?_) (fun h59 => ?_)
        · skip
          refine Ev.iconst dX1_closesTooSoon_71 ?_
          exact Ev.zreturn dX1_closesTooSoon_72 rfl (Or.inl rfl) (rI (bI_f (ch_no (q := q) hne (by first | exact Or.inl (by omega) | exact Or.inr ⟨by omega, fun z => absurd z.1 (bI_0.mp (by assumption))⟩ | exact Or.inr ⟨by omega, fun z => by have z2 : lo (X (rO R (pth R X v q))) < rN R := z.2; omega⟩))) rfl)
        · skip
          refine Ev.iload dX1_closesTooSoon_62 rfl ?_
          refine Ev.aload_n dX1_closesTooSoon_64 rfl rfl ?_
          refine gf_X1_53 (x := ((rN R : Nat) : Int)) rfl dX1_closesTooSoon_65 (lt_rc (by omega)) (sh_rc (by omega)) hN ?_
          refine Ev.icmp_lt (tgt := 73) lo_inR ⟨by omega, by omega⟩ dX1_closesTooSoon_68 (by decide) (fun h68 => ?_) (fun h68 => ?_)
          · skip
            refine Ev.iinc (pl' := [some (vR (26 + 4 * r)), some (vR (rg)), some (vI (((i : Nat) : Int))), some (vI (((v : Nat) : Int))), some (vI (((lo (X (rO R (pth R X v q))) : Nat) : Int))), some (vI ((((q + 1) : Nat) : Int) + 1)), some (vI (((X (rO R (pth R X v q)) : Nat) : Int)))]) dX1_closesTooSoon_73 rfl (Nat.le_of_ble_eq_true rfl) rfl ?_
            refine Ev.goto (tgt := 6) dX1_closesTooSoon_76 (by decide) ?_
            refine Ev.wk (pl' := [some (vR (26 + 4 * r)), some (vR (rg)), some (vI (((i : Nat) : Int))), some (vI (((v : Nat) : Int))), some (vI (((pth R X v (q + 1) : Nat) : Int))), some (vI (((((q + 1) + 1) : Nat) : Int))), none]) ⟨rfl, ⟨rfl, ⟨rfl, ⟨rfl, ⟨vIe rfl, ⟨vIe (by omega), trivial⟩⟩⟩⟩⟩⟩ ?_
            exact ih (q + 1) (by omega) (by show lo (X (rO R (pth R X v q))) < rN R; omega) (fun j hj => (Nat.lt_or_ge j q).elim (hne j) (fun e => by rw [show j = q by omega]; omega)) (fun j hj => (Nat.lt_or_ge j q).elim (hch j) (fun e => by rw [show j = q by omega]; exact ⟨bI_1.mp (by assumption), by show lo (X (rO R (pth R X v q))) < rN R; omega⟩))
          · skip
            refine Ev.iconst dX1_closesTooSoon_71 ?_
            exact Ev.zreturn dX1_closesTooSoon_72 rfl (Or.inl rfl) (rI (bI_f (ch_no (q := q) hne (by first | exact Or.inl (by omega) | exact Or.inr ⟨by omega, fun z => absurd z.1 (bI_0.mp (by assumption))⟩ | exact Or.inr ⟨by omega, fun z => by have z2 : lo (X (rO R (pth R X v q))) < rN R := z.2; omega⟩))) rfl)
      · skip
        refine Ev.iload dX1_closesTooSoon_21 rfl ?_
        refine Ev.aload_n dX1_closesTooSoon_23 rfl rfl ?_
        refine gf_X1_53 (x := ((rN R : Nat) : Int)) rfl dX1_closesTooSoon_24 (lt_rc (by omega)) (sh_rc (by omega)) hN ?_
        refine Ev.icmp_ge (tgt := 34) ⟨by omega, by omega⟩ ⟨by omega, by omega⟩ dX1_closesTooSoon_27 (by decide) (fun h27 => ?_) (fun h27 => ?_)
        · skip
          refine Ev.iconst dX1_closesTooSoon_34 ?_
          exact Ev.zreturn dX1_closesTooSoon_35 rfl (Or.inl rfl) (rI (bI_f (ch_no (q := q) hne (by first | exact Or.inl (by omega) | exact Or.inr ⟨by omega, fun z => absurd z.1 (bI_0.mp (by assumption))⟩ | exact Or.inr ⟨by omega, fun z => by have z2 : lo (X (rO R (pth R X v q))) < rN R := z.2; omega⟩))) rfl)
        · skip
          refine Ev.iconst dX1_closesTooSoon_30 ?_
          refine Ev.goto (tgt := 35) dX1_closesTooSoon_31 (by decide) ?_
          exact Ev.zreturn dX1_closesTooSoon_35 rfl (Or.inr rfl) (rI (bI_t ⟨q, by omega, by omega, hch⟩) rfl)

set_option maxRecDepth 100000 in
set_option maxHeartbeats 4000000 in
theorem s1_close {g : GC} (σ : Sg) (r U : Nat) (R : RC) (hr : r < 56) (hM : CR σ r R) (hW : WR U R) (X : Rg) (rg : Nat) (hg : rg < 298) (hgs : sh0 rg = (1, 10)) (hgn : rg ∉ LK) (hX : AV σ rg U X) (i v : Nat) (hii : i < rN R) (hvn : v < rN R) : Ev g mX1_closesTooSoon 0 [some (vR (26 + 4 * r)), some (vR (rg)), some (vI (((i : Nat) : Int))), some (vI (((v : Nat) : Int))), none, none, none] [] (M0 (σ)) 0 0 (retI (bI (chP R X i v)) σ) := by
  obtain ⟨hK, hS, hB, hN, hE, hP⟩ := id hM
  obtain ⟨⟨hk5, hn6, hU⟩, hO, -⟩ := id hW
  refine Ev.iload_n dX1_closesTooSoon_0 rfl rfl ?_
  refine Ev.istore (pl' := [some (vR (26 + 4 * r)), some (vR (rg)), some (vI (((i : Nat) : Int))), some (vI (((v : Nat) : Int))), some (vI (((v : Nat) : Int))), none, none]) dX1_closesTooSoon_1 (Nat.le_of_ble_eq_true rfl) rfl ?_
  refine Ev.iconst dX1_closesTooSoon_3 ?_
  refine Ev.istore (pl' := [some (vR (26 + 4 * r)), some (vR (rg)), some (vI (((i : Nat) : Int))), some (vI (((v : Nat) : Int))), some (vI (((v : Nat) : Int))), some (vI (1)), none]) dX1_closesTooSoon_4 (Nat.le_of_ble_eq_true rfl) rfl ?_
  refine Ev.wk (pl' := [some (vR (26 + 4 * r)), some (vR (rg)), some (vI (((i : Nat) : Int))), some (vI (((v : Nat) : Int))), some (vI (((pth R X v 0 : Nat) : Int))), some (vI ((((0 + 1) : Nat) : Int))), none]) ⟨rfl, ⟨rfl, ⟨rfl, ⟨rfl, ⟨vIe rfl, ⟨vIe rfl, trivial⟩⟩⟩⟩⟩⟩ ?_
  exact s1_close_l σ r U R hr hM hW X rg hg hgs hgn hX i v hii hvn (rN R) 0 (by omega) hvn (fun j hj => absurd hj (by omega)) (fun j hj => absurd hj (by omega))

set_option maxRecDepth 100000 in
set_option maxHeartbeats 4000000 in
theorem s1_ring_i {g : GC} (σ : Sg) (r U : Nat) (R : RC) (hr : r < 56) (hM : CR σ r R) (hW : WR U R) (X : Rg) (rg : Nat) (hg : rg < 298) (hgs : sh0 rg = (1, 10)) (hgn : rg ∉ LK) (hX : AV σ rg U X) (i : Nat) (hii : i < rN R) {Post : Option PV → Mem → Prop} : ∀ j K : Nat, K + j = rN R → Ev g mX1_lookAtRing 86 [some (vR (261)), some (vR (26 + 4 * r)), some (vR (rg)), some (vI (((i : Nat) : Int))), some (vI (((X (rO R i) : Nat) : Int))), some (vI (((tkM R X i (rN R) : Nat) : Int))), none] [] (M0 (σ)) 0 0 Post → Ev g mX1_lookAtRing 41 [some (vR (261)), some (vR (26 + 4 * r)), some (vR (rg)), some (vI (((i : Nat) : Int))), some (vI (((X (rO R i) : Nat) : Int))), some (vI (((tkM R X i K : Nat) : Int))), some (vI (((K : Nat) : Int)))] [] (M0 (σ)) 0 0 (Post) := by
  intro j
  induction j with
  | zero =>
    intro K hij kk
    obtain ⟨hK, hS, hB, hN, hE, hP⟩ := id hM
    obtain ⟨⟨hk5, hn6, hU⟩, hO, -⟩ := id hW
    have hXR : ∀ k, k < rN R → X (rO R k) ≠ 0 ∧ X (rO R k) < 65536 := fun k hk => (hX _ (hO k hk)).2
    have hxi := hXR i hii
    have htk : tkM R X i K < 65536 := mk_lt _
    refine Ev.iload dX1_lookAtRing_41 rfl ?_
    refine Ev.aload_n dX1_lookAtRing_43 rfl rfl ?_
    refine gf_X1_53 (x := ((rN R : Nat) : Int)) rfl dX1_lookAtRing_44 (lt_rc (by omega)) (sh_rc (by omega)) hN ?_
    refine Ev.icmp_ge (tgt := 86) ⟨by omega, by omega⟩ ⟨by omega, by omega⟩ dX1_lookAtRing_47 (by decide) (fun h47 => ?_) (fun h47 => ?_)
    · skip
      refine Ev.wk (pl' := [some (vR (261)), some (vR (26 + 4 * r)), some (vR (rg)), some (vI (((i : Nat) : Int))), some (vI (((X (rO R i) : Nat) : Int))), some (vI (((tkM R X i (rN R) : Nat) : Int))), none]) ⟨rfl, ⟨rfl, ⟨rfl, ⟨rfl, ⟨rfl, ⟨vIe (by rw [show K = rN R by omega]), trivial⟩⟩⟩⟩⟩⟩ ?_
      exact kk
    · exact absurd h47 (by omega)
  | succ j ih =>
    intro K hij kk
    obtain ⟨hK, hS, hB, hN, hE, hP⟩ := id hM
    obtain ⟨⟨hk5, hn6, hU⟩, hO, -⟩ := id hW
    have hXR : ∀ k, k < rN R → X (rO R k) ≠ 0 ∧ X (rO R k) < 65536 := fun k hk => (hX _ (hO k hk)).2
    have hxi := hXR i hii
    have htk : tkM R X i K < 65536 := mk_lt _
    have hp16 := pow_le16 (show K < 16 by omega)
    refine Ev.iload dX1_lookAtRing_41 rfl ?_
    refine Ev.aload_n dX1_lookAtRing_43 rfl rfl ?_
    refine gf_X1_53 (x := ((rN R : Nat) : Int)) rfl dX1_lookAtRing_44 (lt_rc (by omega)) (sh_rc (by omega)) hN ?_
    refine Ev.icmp_ge (tgt := 86) ⟨by omega, by omega⟩ ⟨by omega, by omega⟩ dX1_lookAtRing_47 (by decide) (fun h47 => ?_) (fun h47 => ?_)
    · exact absurd h47 (by omega)
    · skip
      refine Ev.iload dX1_lookAtRing_50 rfl ?_
      refine Ev.iload dX1_lookAtRing_52 rfl ?_
      refine Ev.ishr dX1_lookAtRing_54 ?_
      refine Ev.iconst dX1_lookAtRing_55 ?_
      refine Ev.iand dX1_lookAtRing_56 ?_
      rw [show (iAnd ((iShr (((X (rO R i) : Nat) : Int)) (((K : Nat) : Int)))) (1)) = (((b2 (Nat.testBit (X (rO R i)) K)) : Nat) : Int) from bit_nat (by omega) (by omega)]
      refine Ev.if_eq (tgt := 80) b2_inR dX1_lookAtRing_57 (by decide) (fun h57 => ?_) (fun h57 => ?_)
      · skip
        refine Ev.iinc (pl' := [some (vR (261)), some (vR (26 + 4 * r)), some (vR (rg)), some (vI (((i : Nat) : Int))), some (vI (((X (rO R i) : Nat) : Int))), some (vI (((tkM R X i K : Nat) : Int))), some (vI (((K : Nat) : Int) + 1))]) dX1_lookAtRing_80 rfl (Nat.le_of_ble_eq_true rfl) rfl ?_
        refine Ev.goto (tgt := 41) dX1_lookAtRing_83 (by decide) ?_
        refine Ev.wk (pl' := [some (vR (261)), some (vR (26 + 4 * r)), some (vR (rg)), some (vI (((i : Nat) : Int))), some (vI (((X (rO R i) : Nat) : Int))), some (vI (((tkM R X i (K + 1) : Nat) : Int))), some (vI ((((K + 1) : Nat) : Int)))]) ⟨rfl, ⟨rfl, ⟨rfl, ⟨rfl, ⟨rfl, ⟨vIe (by first | rw [tk_n (fun z => bI_0.mp (by assumption) z.2)] | rw [tk_n (fun z => by have z2 := b2_0.mp (by assumption); rw [z2] at z; exact absurd z.1 (by decide))]), ⟨vIe (by omega), trivial⟩⟩⟩⟩⟩⟩⟩ ?_
        exact ih (K + 1) (by omega) kk
      · skip
        refine Ev.aload_n dX1_lookAtRing_60 rfl rfl ?_
        refine Ev.aload_n dX1_lookAtRing_61 rfl rfl ?_
        refine Ev.iload_n dX1_lookAtRing_62 rfl rfl ?_
        refine Ev.iload dX1_lookAtRing_63 rfl ?_
        refine Ev.callS_I (M2 := mX1_closesTooSoon) (args2 := [vR (26 + 4 * r), vR (rg), vI (((i : Nat) : Int)), vI (((K : Nat) : Int))]) dX1_lookAtRing_65 okX1_closesTooSoon lk_X1_135 osX1_closesTooSoon.1 osX1_closesTooSoon.2 (by decide) rfl (Nat.le_of_ble_eq_true rfl) (Nat.le_of_ble_eq_true rfl) (s1_close σ r U R hr hM hW X rg hg hgs hgn hX i K hii (by omega)) ?_ rfl
        refine Ev.if_eq (tgt := 80) bI_inR dX1_lookAtRing_68 (by decide) (fun h68 => ?_) (fun h68 => ?_)
        · skip
          refine Ev.iinc (pl' := [some (vR (261)), some (vR (26 + 4 * r)), some (vR (rg)), some (vI (((i : Nat) : Int))), some (vI (((X (rO R i) : Nat) : Int))), some (vI (((tkM R X i K : Nat) : Int))), some (vI (((K : Nat) : Int) + 1))]) dX1_lookAtRing_80 rfl (Nat.le_of_ble_eq_true rfl) rfl ?_
          refine Ev.goto (tgt := 41) dX1_lookAtRing_83 (by decide) ?_
          refine Ev.wk (pl' := [some (vR (261)), some (vR (26 + 4 * r)), some (vR (rg)), some (vI (((i : Nat) : Int))), some (vI (((X (rO R i) : Nat) : Int))), some (vI (((tkM R X i (K + 1) : Nat) : Int))), some (vI ((((K + 1) : Nat) : Int)))]) ⟨rfl, ⟨rfl, ⟨rfl, ⟨rfl, ⟨rfl, ⟨vIe (by first | rw [tk_n (fun z => bI_0.mp (by assumption) z.2)] | rw [tk_n (fun z => by have z2 := b2_0.mp (by assumption); rw [z2] at z; exact absurd z.1 (by decide))]), ⟨vIe (by omega), trivial⟩⟩⟩⟩⟩⟩⟩ ?_
          exact ih (K + 1) (by omega) kk
        · skip
          refine Ev.iload dX1_lookAtRing_71 rfl ?_
          refine Ev.iconst dX1_lookAtRing_73 ?_
          refine Ev.iload dX1_lookAtRing_74 rfl ?_
          refine Ev.ishl dX1_lookAtRing_76 ?_
          rw [show (iShl (1) (((K : Nat) : Int))) = ((2 ^ K : Nat) : Int) from shl1 (by omega)]
          refine Ev.ior dX1_lookAtRing_77 ?_
          rw [show (iOr (((tkM R X i K : Nat) : Int)) (((2 ^ K : Nat) : Int))) = ((tkM R X i (K + 1) : Nat) : Int) from by rw [← tk_y (by omega) (b2_ne.mp (by assumption)) (bI_1.mp (by assumption))]; exact iOr_nat (by omega) (by omega)]
          refine Ev.istore (pl' := [some (vR (261)), some (vR (26 + 4 * r)), some (vR (rg)), some (vI (((i : Nat) : Int))), some (vI (((X (rO R i) : Nat) : Int))), some (vI (((tkM R X i (K + 1) : Nat) : Int))), some (vI (((K : Nat) : Int)))]) dX1_lookAtRing_78 (Nat.le_of_ble_eq_true rfl) rfl ?_
          refine Ev.iinc (pl' := [some (vR (261)), some (vR (26 + 4 * r)), some (vR (rg)), some (vI (((i : Nat) : Int))), some (vI (((X (rO R i) : Nat) : Int))), some (vI (((tkM R X i (K + 1) : Nat) : Int))), some (vI (((K : Nat) : Int) + 1))]) dX1_lookAtRing_80 rfl (Nat.le_of_ble_eq_true rfl) rfl ?_
          refine Ev.goto (tgt := 41) dX1_lookAtRing_83 (by decide) ?_
          refine Ev.wk (pl' := [some (vR (261)), some (vR (26 + 4 * r)), some (vR (rg)), some (vI (((i : Nat) : Int))), some (vI (((X (rO R i) : Nat) : Int))), some (vI (((tkM R X i (K + 1) : Nat) : Int))), some (vI ((((K + 1) : Nat) : Int)))]) ⟨rfl, ⟨rfl, ⟨rfl, ⟨rfl, ⟨rfl, ⟨rfl, ⟨vIe (by omega), trivial⟩⟩⟩⟩⟩⟩⟩ ?_
          exact ih (K + 1) (by omega) kk

set_option maxRecDepth 100000 in
set_option maxHeartbeats 4000000 in
theorem s1_ring_l {g : GC} (σ : Sg) (r U : Nat) (R : RC) (hr : r < 56) (hM : CR σ r R) (hW : WR U R) (X : Rg) (rg : Nat) (hg : rg < 298) (hgs : sh0 rg = (1, 10)) (hgn : rg ∉ LK) (hX : AV σ rg U X) (hk4 : rK R = 4) (T : Tb) : ∀ j K : Nat, K + j = rN R → ∀ τ : Sg, Same LK σ τ → τ 263 0 = 0 → (∀ k, k < K → τ 262 (rO R k) = (gn T R X k : Int)) → (∀ k, k < rN R → K ≤ k → τ 262 (rO R k) = (uM R X k : Int)) → Ev g mX1_lookAtRing 8 [some (vR (261)), some (vR (26 + 4 * r)), some (vR (rg)), some (vI (((K : Nat) : Int))), none, none, none] [] (M0 (τ)) 0 0 (retW (Looked σ T R X)) := by
  intro j
  induction j with
  | zero =>
    intro K hij τ hF hJ hG hG2
    have hF0 := hF
    have hM := hM.same hF (fun j hj => nLK (by omega))
    have hX := hX.same hF hgn
    obtain ⟨hK, hS, hB, hN, hE, hP⟩ := id hM
    obtain ⟨⟨hk5, hn6, hU⟩, hO, -⟩ := id hW
    have hXR : ∀ k, k < rN R → X (rO R k) ≠ 0 ∧ X (rO R k) < 65536 := fun k hk => (hX _ (hO k hk)).2
    have hdis : ∀ j k, j < rN R → k < rN R → rO R j = rO R k → j = k := hW.2.2.2.2.2.2 (by omega)
    have hp6 := pow_le6 hn6
    refine Ev.iload_n dX1_lookAtRing_8 rfl rfl ?_
    refine Ev.aload_n dX1_lookAtRing_9 rfl rfl ?_
    refine gf_X1_53 (x := ((rN R : Nat) : Int)) rfl dX1_lookAtRing_10 (lt_rc (by omega)) (sh_rc (by omega)) hN ?_
    refine Ev.icmp_ge (tgt := 108) ⟨by omega, by omega⟩ ⟨by omega, by omega⟩ dX1_lookAtRing_13 (by decide) (fun h13 => ?_) (fun h13 => ?_)
    · skip
      exact Ev.vreturn dX1_lookAtRing_108 rfl (rW ⟨hF0, hJ, fun k hk => hG k (by omega)⟩)
    · exact absurd h13 (by omega)
  | succ j ih =>
    intro K hij τ hF hJ hG hG2
    have hF0 := hF
    have hM := hM.same hF (fun j hj => nLK (by omega))
    have hX := hX.same hF hgn
    obtain ⟨hK, hS, hB, hN, hE, hP⟩ := id hM
    obtain ⟨⟨hk5, hn6, hU⟩, hO, -⟩ := id hW
    have hXR : ∀ k, k < rN R → X (rO R k) ≠ 0 ∧ X (rO R k) < 65536 := fun k hk => (hX _ (hO k hk)).2
    have hdis : ∀ j k, j < rN R → k < rN R → rO R j = rO R k → j = k := hW.2.2.2.2.2.2 (by omega)
    have hp6 := pow_le6 hn6
    have hxi := hXR K (by omega)
    have huK : uM R X K < 65536 := mk_lt _
    have htk : tkM R X K (rN R) < 65536 := mk_lt _
    refine Ev.iload_n dX1_lookAtRing_8 rfl rfl ?_
    refine Ev.aload_n dX1_lookAtRing_9 rfl rfl ?_
    refine gf_X1_53 (x := ((rN R : Nat) : Int)) rfl dX1_lookAtRing_10 (lt_rc (by omega)) (sh_rc (by omega)) hN ?_
    refine Ev.icmp_ge (tgt := 108) ⟨by omega, by omega⟩ ⟨by omega, by omega⟩ dX1_lookAtRing_13 (by decide) (fun h13 => ?_) (fun h13 => ?_)
    · exact absurd h13 (by omega)
    · skip
      refine Ev.aload_n dX1_lookAtRing_16 rfl rfl ?_
      refine Ev.aload_n dX1_lookAtRing_17 rfl rfl ?_
      refine gf_X1_56 rfl dX1_lookAtRing_18 (lt_rc (by omega)) (sh_rc (by omega)) (rf_rc5 (by omega)) ?_
      refine Ev.iload_n dX1_lookAtRing_21 rfl rfl ?_
      refine Ev.iaload (v := ((rO R K : Nat) : Int)) dX1_lookAtRing_22 (lt_rcf (by omega) (by decide)) (sh_rc1 (by omega)) (by decide) (by omega) (by omega) (ldx rfl (hP K (by omega)).1) ?_
      refine Ev.iaload (v := ((X (rO R K) : Nat) : Int)) dX1_lookAtRing_23 hg hgs (by decide) (by omega) (Int.ofNat_lt.mpr (Nat.lt_of_lt_of_le (hO _ (by omega)) hU)) (ldx rfl (hX _ (hO _ (by omega))).1) ?_
      refine Ev.istore (pl' := [some (vR (261)), some (vR (26 + 4 * r)), some (vR (rg)), some (vI (((K : Nat) : Int))), some (vI (((X (rO R K) : Nat) : Int))), none, none]) dX1_lookAtRing_24 (Nat.le_of_ble_eq_true rfl) rfl ?_
      refine Ev.iload dX1_lookAtRing_26 rfl ?_
      refine Ev.iconst dX1_lookAtRing_28 ?_
      refine Ev.aload_n dX1_lookAtRing_29 rfl rfl ?_
      refine gf_X1_53 (x := ((rN R : Nat) : Int)) rfl dX1_lookAtRing_30 (lt_rc (by omega)) (sh_rc (by omega)) hN ?_
      refine Ev.ishl dX1_lookAtRing_33 ?_
      rw [show (iShl (1) (((rN R : Nat) : Int))) = ((2 ^ rN R : Nat) : Int) from shl1 (by omega)]
      refine Ev.ineg dX1_lookAtRing_34 ?_
      refine Ev.iand dX1_lookAtRing_35 ?_
      rw [show (iAnd (((X (rO R K) : Nat) : Int)) ((-((2 ^ rN R : Nat) : Int)))) = ((tkM R X K 0 : Nat) : Int) from by rw [show -((2 ^ rN R : Nat) : Int) = -((2 ^ rN R - 1 : Nat) : Int) - 1 by omega, ← tk_0 (hXR K (by omega)).2]; exact iAnd_not (by omega)]
      refine Ev.istore (pl' := [some (vR (261)), some (vR (26 + 4 * r)), some (vR (rg)), some (vI (((K : Nat) : Int))), some (vI (((X (rO R K) : Nat) : Int))), some (vI (((tkM R X K 0 : Nat) : Int))), none]) dX1_lookAtRing_36 (Nat.le_of_ble_eq_true rfl) rfl ?_
      refine Ev.iconst dX1_lookAtRing_38 ?_
      refine Ev.istore (pl' := [some (vR (261)), some (vR (26 + 4 * r)), some (vR (rg)), some (vI (((K : Nat) : Int))), some (vI (((X (rO R K) : Nat) : Int))), some (vI (((tkM R X K 0 : Nat) : Int))), some (vI (0))]) dX1_lookAtRing_39 (Nat.le_of_ble_eq_true rfl) rfl ?_
      refine Ev.wk (pl' := [some (vR (261)), some (vR (26 + 4 * r)), some (vR (rg)), some (vI (((K : Nat) : Int))), some (vI (((X (rO R K) : Nat) : Int))), some (vI (((tkM R X K 0 : Nat) : Int))), some (vI (((0 : Nat) : Int)))]) ⟨rfl, ⟨rfl, ⟨rfl, ⟨rfl, ⟨rfl, ⟨rfl, ⟨vIe rfl, trivial⟩⟩⟩⟩⟩⟩⟩ ?_
      refine s1_ring_i τ r U R hr hM hW X rg hg hgs hgn hX K (by omega) (rN R) 0 (by omega) ?_
      refine Ev.aload_n dX1_lookAtRing_86 rfl rfl ?_
      refine gf_X1_11 rfl dX1_lookAtRing_87 ltc_261 shc_261 rfc_261_1 ?_
      refine Ev.aload_n dX1_lookAtRing_90 rfl rfl ?_
      refine gf_X1_56 rfl dX1_lookAtRing_91 (lt_rc (by omega)) (sh_rc (by omega)) (rf_rc5 (by omega)) ?_
      refine Ev.iload_n dX1_lookAtRing_94 rfl rfl ?_
      refine Ev.iaload (v := ((rO R K : Nat) : Int)) dX1_lookAtRing_95 (lt_rcf (by omega) (by decide)) (sh_rc1 (by omega)) (by decide) (by omega) (by omega) (ldx rfl (hP K (by omega)).1) ?_
      refine Ev.dup2RI dX1_lookAtRing_96 ?_
      refine Ev.iaload (v := ((uM R X K : Nat) : Int)) dX1_lookAtRing_97 ltc_262 shc_262 (by decide) (by omega) (Int.ofNat_lt.mpr (Nat.lt_of_lt_of_le (hO _ (by omega)) hU)) (ldx rfl (hG2 K (by omega) (by omega))) ?_
      refine Ev.iload dX1_lookAtRing_98 rfl ?_
      refine Ev.ior dX1_lookAtRing_100 ?_
      rw [show (iOr (((uM R X K : Nat) : Int)) (((tkM R X K (rN R) : Nat) : Int))) = ((gn T R X K : Nat) : Int) from by rw [← rg_end hk4 rfl]; exact iOr_nat (by omega) (by omega)]
      refine Ev.iastore dX1_lookAtRing_101 ltc_262 shc_262 (by decide) (by omega) (Int.ofNat_lt.mpr (Nat.lt_of_lt_of_le (hO _ (by omega)) hU)) ?_
      refine Ev.iinc (pl' := [some (vR (261)), some (vR (26 + 4 * r)), some (vR (rg)), some (vI (((K : Nat) : Int) + 1)), some (vI (((X (rO R K) : Nat) : Int))), some (vI (((tkM R X K (rN R) : Nat) : Int))), none]) dX1_lookAtRing_102 rfl (Nat.le_of_ble_eq_true rfl) rfl ?_
      refine Ev.goto (tgt := 8) dX1_lookAtRing_105 (by decide) ?_
      refine Ev.wk (pl' := [some (vR (261)), some (vR (26 + 4 * r)), some (vR (rg)), some (vI ((((K + 1) : Nat) : Int))), none, none, none]) ⟨rfl, ⟨rfl, ⟨rfl, ⟨vIe (by omega), trivial⟩⟩⟩⟩ ?_
      exact ih (K + 1) (by omega) (upC (τ) 262 (((rO R K : Nat) : Int)).toNat (((gn T R X K : Nat) : Int))) (hF0.up (by decide)) (by rw [upC_ne (by decide)]; exact hJ) (gone_up rfl rfl (fun k hk z => absurd (hdis k K (by omega) (by omega) z) (by omega)) hG) (fun k hk e => by rw [show ((rO R K : Nat) : Int).toNat = rO R K from rfl, upC_self (fun z => absurd (hdis k K hk (by omega) z) (by omega))]; exact hG2 k hk (by omega))

set_option maxRecDepth 100000 in
set_option maxHeartbeats 4000000 in
theorem s1_lookAtRing {g : GC} (σ : Sg) (r U : Nat) (R : RC) (hr : r < 56) (hM : CR σ r R) (hW : WR U R) (X : Rg) (rg : Nat) (hg : rg < 298) (hgs : sh0 rg = (1, 10)) (hgn : rg ∉ LK) (hX : AV σ rg U X) (hk4 : rK R = 4) (T : Tb) (hJ : σ 263 0 = 0) : Ev g mX1_lookAtRing 0 [some (vR (261)), some (vR (26 + 4 * r)), some (vR (rg)), none, none, none, none] [] (M0 (σ)) 0 0 (retW (Looked σ T R X)) := by
  refine Ev.aload_n dX1_lookAtRing_0 rfl rfl ?_
  refine Ev.aload_n dX1_lookAtRing_1 rfl rfl ?_
  refine Ev.aload_n dX1_lookAtRing_2 rfl rfl ?_
  refine Ev.callV_G (M2 := mX1_lookAtUnlike) (args2 := [vR (26 + 4 * r), vR (rg)]) (rcv := 261) (q := (RX1, TX1, 5)) (ci := 1) dX1_lookAtRing_3 okX1_lookAtUnlike lk_X1_38 ovX1_lookAtUnlike.1.1 ovX1_lookAtUnlike.1.2 ovX1_lookAtUnlike.2 (by decide) rfl rfl ltc_261 shc_261 rfl (Nat.le_of_ble_eq_true rfl) (Nat.le_of_ble_eq_true rfl) (s1_lookAtUnlike σ r U R hr hM hW X rg hg hgs hgn hX (by omega) hJ) (fun v_ m_ hp_ => ?_) rfl
  obtain ⟨τ, rfl, rfl, q1, q2, q3⟩ := hp_
  show Ev g mX1_lookAtRing 6 [some (vR (261)), some (vR (26 + 4 * r)), some (vR (rg)), none, none, none, none] [] (M0 (τ)) 0 0 _
  refine Ev.iconst dX1_lookAtRing_6 ?_
  refine Ev.istore_n (pl' := [some (vR (261)), some (vR (26 + 4 * r)), some (vR (rg)), some (vI (0)), none, none, none]) dX1_lookAtRing_7 rfl (Nat.le_of_ble_eq_true rfl) rfl ?_
  refine Ev.wk (pl' := [some (vR (261)), some (vR (26 + 4 * r)), some (vR (rg)), some (vI (((0 : Nat) : Int))), none, none, none]) ⟨rfl, ⟨rfl, ⟨rfl, ⟨vIe rfl, trivial⟩⟩⟩⟩ ?_
  exact s1_ring_l σ r U R hr hM hW X rg hg hgs hgn hX hk4 T (rN R) 0 (by omega) τ q1 q2 (fun k hk => absurd hk (by omega)) (fun k hk _ => q3 k hk)

