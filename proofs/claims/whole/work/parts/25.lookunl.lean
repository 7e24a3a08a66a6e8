/-! THE CLASS: unlike parts -/
def rgf (R : RC) (X : Rg) : Nat → Nat := fun k => X (rO R k)
theorem pop_lt {a b v : Nat} (h : sub a b) (hv : v < 16) (hb : b.testBit v = true) (ha : a.testBit v = false) : pop a < pop b := by
  have h1 : pop a ≤ pop b := popN_mono h 16
  rcases Nat.lt_or_ge (pop a) (pop b) with h2 | h2
  · exact h2
  · have h3 : pop a = pop b := by omega
    have := popN_eq h 16 h3 v hv
    rw [ha, hb] at this; cases this
theorem uni_lo {n S : Nat} {f : Nat → Nat} (h0 : S ≠ 0) (hS : S < 2 ^ n) (hn : n ≤ 6) : uni n f S = uni n f (S &&& (S - 1)) ||| f (lo S) := by
  have hp := pow_le6 hn
  have hl := lo_tb (m := S) (by omega) h0
  have hln : lo S < n := by
    rcases Nat.lt_or_ge (lo S) n with h | h
    · exact h
    · rw [Nat.testBit_lt_two_pow (Nat.lt_of_lt_of_le hS (Nat.pow_le_pow_right (by decide) h))] at hl; cases hl
  rw [clr_lo (by omega) h0]
  apply sub_eq
  · intro j hj
    obtain ⟨k, h1, h2, h3⟩ := (uni_tb _ _ _ _).mp hj
    rw [Nat.testBit_or, Bool.or_eq_true]
    by_cases e : k = lo S
    · subst e; exact Or.inr h3
    · left
      refine (uni_tb _ _ _ _).mpr ⟨k, h1, ?_, h3⟩
      rw [andN_tb, Nat.testBit_two_pow, h2]
      have : lo S ≠ k := fun z => e z.symm
      simp [this]
  · intro j hj
    rw [Nat.testBit_or, Bool.or_eq_true] at hj
    rcases hj with hj | hj
    · obtain ⟨k, h1, h2, h3⟩ := (uni_tb _ _ _ _).mp hj
      exact (uni_tb _ _ _ _).mpr ⟨k, h1, sub_andN _ _ k h2, h3⟩
    · exact (uni_tb _ _ _ _).mpr ⟨lo S, hln, hl, hj⟩
theorem hall1 {R : RC} {X : Rg} {S i v : Nat} (hS : S < 2 ^ rN R) (hd : pop (uni (rN R) (rgf R X) S) < pop S) (hv : (X (rO R i)).testBit v = true) : gUnl R X i v := by
  refine ⟨S, hS, Nat.lt_of_le_of_lt (popN_mono (uni_mono fun k hk => ?_) 16) hd⟩
  try dsimp only
  split
  · rename_i e
    intro j hj
    rw [Nat.testBit_two_pow] at hj
    have : v = j := by simpa using hj
    subst this
    subst e
    exact hv
  · exact sub_rf _
theorem hall2 {R : RC} {X : Rg} {i v : Nat} (hn : rN R ≤ 6) (hi : i < rN R) (hX : ∀ k, k < rN R → X (rO R k) < 65536) (hno : ∀ s, s < 2 ^ rN R → pop s ≤ pop (uni (rN R) (rgf R X) s)) (hv : (X (rO R i)).testBit v = true) :
    gUnl R X i v ↔ ∃ s, s < 2 ^ rN R ∧ s.testBit i = false ∧ pop (uni (rN R) (rgf R X) s) = pop s ∧ (uni (rN R) (rgf R X) s).testBit v = true := by
  have hp := pow_le6 hn
  have hv16 := tb_lt (hX i hi) hv
  constructor
  · rintro ⟨S, hS, hd⟩
    change pop (uni (rN R) (uF R X i v) S) < pop S at hd
    cases hSi : S.testBit i with
    | false =>
      exfalso
      have h1 : sub (uni (rN R) (rgf R X) S) (uni (rN R) (uF R X i v) S) := fun j hj => by
        obtain ⟨k, h1, h2, h3⟩ := (uni_tb _ _ _ _).mp hj
        refine (uni_tb _ _ _ _).mpr ⟨k, h1, h2, ?_⟩
        unfold uF
        rw [if_neg (fun e => by rw [e, hSi] at h2; cases h2)]
        exact h3
      have h2 : pop (uni (rN R) (rgf R X) S) ≤ pop (uni (rN R) (uF R X i v) S) := popN_mono h1 16
      have := hno S hS
      omega
    | true =>
      have hc : pop (andN S (2 ^ i)) + 1 = pop S := popN_clr hSi 16 (by omega)
      have hlt : andN S (2 ^ i) < 2 ^ rN R := andN_lt hS
      have hsi : (andN S (2 ^ i)).testBit i = false := by rw [andN_tb, Nat.testBit_two_pow]; simp
      have h1 : sub (uni (rN R) (rgf R X) (andN S (2 ^ i))) (uni (rN R) (uF R X i v) S) := fun j hj => by
        obtain ⟨k, h1, h2, h3⟩ := (uni_tb _ _ _ _).mp hj
        refine (uni_tb _ _ _ _).mpr ⟨k, h1, sub_andN _ _ k h2, ?_⟩
        unfold uF
        rw [if_neg (fun e => by rw [e, hsi] at h2; cases h2)]
        exact h3
      have h2 : pop (uni (rN R) (rgf R X) (andN S (2 ^ i))) ≤ pop (uni (rN R) (uF R X i v) S) := popN_mono h1 16
      have h3 := hno _ hlt
      refine ⟨_, hlt, hsi, by omega, ?_⟩
      have hvU : (uni (rN R) (uF R X i v) S).testBit v = true := (uni_tb _ _ _ _).mpr ⟨i, hi, hSi, by unfold uF; rw [if_pos rfl, Nat.testBit_two_pow]; simp⟩
      cases hq : (uni (rN R) (rgf R X) (andN S (2 ^ i))).testBit v with
      | true => rfl
      | false =>
        have := pop_lt h1 hv16 hvU hq
        omega
  · rintro ⟨s, hs, hsi, he, hvs⟩
    have hor : (s ||| 2 ^ i) < 2 ^ rN R := Nat.or_lt_two_pow hs (Nat.pow_lt_pow_right (by decide) hi)
    refine ⟨s ||| 2 ^ i, hor, ?_⟩
    change pop (uni (rN R) (uF R X i v) (s ||| 2 ^ i)) < pop (s ||| 2 ^ i)
    have hb : (s ||| 2 ^ i).testBit i = true := by rw [Nat.testBit_or, Nat.testBit_two_pow]; simp
    have hc : pop (andN (s ||| 2 ^ i) (2 ^ i)) + 1 = pop (s ||| 2 ^ i) := popN_clr hb 16 (by omega)
    have e : andN (s ||| 2 ^ i) (2 ^ i) = s := by
      apply Nat.eq_of_testBit_eq
      intro j
      rw [andN_tb, Nat.testBit_or, Nat.testBit_two_pow]
      by_cases hj : i = j
      · subst hj; simp [hsi]
      · simp [hj]
    rw [e] at hc
    have h1 : sub (uni (rN R) (uF R X i v) (s ||| 2 ^ i)) (uni (rN R) (rgf R X) s) := fun j hj => by
      obtain ⟨k, h1, h2, h3⟩ := (uni_tb _ _ _ _).mp hj
      unfold uF at h3
      by_cases hk : k = i
      · rw [if_pos hk, Nat.testBit_two_pow] at h3
        have : v = j := by simpa using h3
        subst this
        exact hvs
      · rw [if_neg hk] at h3
        refine (uni_tb _ _ _ _).mpr ⟨k, h1, ?_, h3⟩
        rw [Nat.testBit_or, Nat.testBit_two_pow] at h2
        have : i ≠ k := fun z => hk z.symm
        simpa [this] using h2
    have h2 : pop (uni (rN R) (uF R X i v) (s ||| 2 ^ i)) ≤ pop (uni (rN R) (rgf R X) s) := popN_mono h1 16
    omega
/-- what is taken by the sets ahead of S -/
def hgP (R : RC) (X : Rg) (S k v : Nat) : Prop := (X (rO R k)).testBit v = true ∧ ∃ s, s < S ∧ s.testBit k = false ∧ pop (uni (rN R) (rgf R X) s) = pop s ∧ (uni (rN R) (rgf R X) s).testBit v = true
noncomputable def hgM (R : RC) (X : Rg) (S k : Nat) : Nat := mk (hgP R X S k)
theorem hgP_s {R : RC} {X : Rg} {S k v : Nat} : hgP R X (S + 1) k v ↔ hgP R X S k v ∨ ((X (rO R k)).testBit v = true ∧ S.testBit k = false ∧ pop (uni (rN R) (rgf R X) S) = pop S ∧ (uni (rN R) (rgf R X) S).testBit v = true) := by
  constructor
  · rintro ⟨h1, s, h2, h3⟩
    rcases Nat.lt_or_ge s S with h | h
    · exact Or.inl ⟨h1, s, h, h3⟩
    · have : s = S := by omega
      subst this
      exact Or.inr ⟨h1, h3⟩
  · rintro (⟨h1, s, h2, h3⟩ | ⟨h1, h3⟩)
    · exact ⟨h1, s, by omega, h3⟩
    · exact ⟨h1, S, by omega, h3⟩
theorem hgM_n {R : RC} {X : Rg} {S k : Nat} (h : pop (uni (rN R) (rgf R X) S) ≠ pop S) : hgM R X (S + 1) k = hgM R X S k := mk_congr fun v _ => by
  rw [hgP_s]
  exact ⟨fun z => z.elim id (fun q => absurd q.2.2.1 h), Or.inl⟩
theorem hgM_y {R : RC} {X : Rg} {S k : Nat} (h : pop (uni (rN R) (rgf R X) S) = pop S) (hX : X (rO R k) < 65536) : hgM R X S k ||| (if S.testBit k then 0 else X (rO R k) &&& uni (rN R) (rgf R X) S) = hgM R X (S + 1) k := by
  refine mk_eq ?_ fun v hv => ?_
  · have h1 : hgM R X S k < 2 ^ 16 := mk_lt _
    have h2 : (if S.testBit k then 0 else X (rO R k) &&& uni (rN R) (rgf R X) S) < 2 ^ 16 := by
      split
      · decide
      · exact and_ltN hX
    exact Nat.or_lt_two_pow h1 h2
  · rw [hgP_s, Nat.testBit_or, Bool.or_eq_true]
    rw [show (hgM R X S k).testBit v = true ↔ v < 16 ∧ hgP R X S k v from mkN_tb 16 _ v]
    cases hS : S.testBit k with
    | true => simp [hv]
    | false => simp [hv, h, Nat.testBit_and]
theorem uni_0 {n : Nat} {f : Nat → Nat} : uni n f 0 = 0 := sub_eq (fun j hj => by obtain ⟨k, _, h2, _⟩ := (uni_tb _ _ _ _).mp hj; rw [Nat.zero_testBit] at h2; cases h2) (sub_0 _)
theorem hgM_1 {R : RC} {X : Rg} {k : Nat} : hgM R X 1 k = 0 := by
  refine (mk_eq (by decide) fun v hv => ?_).symm
  constructor
  · intro z; rw [Nat.zero_testBit] at z; cases z
  · rintro ⟨_, s, hs, _, _, h4⟩
    rw [show s = 0 by omega, uni_0, Nat.zero_testBit] at h4; cases h4
theorem hg_y {ρ : Sg} {R : RC} {X : Rg} {S k : Nat} (q3 : ρ 262 (rO R k) = ((hgM R X S k ||| (if S.testBit k then 0 else X (rO R k) &&& uni (rN R) (rgf R X) S) : Nat) : Int)) (h : pop (uni (rN R) (rgf R X) S) = pop S) (hX : X (rO R k) < 65536) : ρ 262 (rO R k) = (hgM R X (S + 1) k : Int) := by
  rw [q3, hgM_y h hX]
noncomputable def uM (R : RC) (X : Rg) (k : Nat) : Nat := mk (fun v => (X (rO R k)).testBit v = true ∧ gUnl R X k v)
theorem unl_all {R : RC} {X : Rg} {S k : Nat} (hS : S < 2 ^ rN R) (hd : pop (uni (rN R) (rgf R X) S) < pop S) (hX : X (rO R k) < 65536) : X (rO R k) = uM R X k := mk_eq hX fun v hv => ⟨fun z => ⟨z, hall1 hS hd z⟩, fun z => z.1⟩
theorem unl_end {R : RC} {X : Rg} {S k : Nat} (hn : rN R ≤ 6) (hk : k < rN R) (hX : ∀ k, k < rN R → X (rO R k) < 65536) (hS : S = 2 ^ rN R) (hno : ∀ s, s < S → pop s ≤ pop (uni (rN R) (rgf R X) s)) : hgM R X S k = uM R X k := by
  subst hS
  refine mk_congr fun v hv => ?_
  unfold hgP
  constructor
  · rintro ⟨z1, z2⟩; exact ⟨z1, (hall2 hn hk hX hno z1).mpr z2⟩
  · rintro ⟨z1, z2⟩; exact ⟨z1, (hall2 hn hk hX hno z1).mp z2⟩
theorem gn_1 {T : Tb} {R : RC} {X : Rg} {i : Nat} (h : rK R = 1) : gn T R X i = mk (fun v => (X (rO R i)).testBit v = true ∧ gUnl R X i v) := mk_congr fun j _ => by rw [goes_1 h]
/-- what a look by unlikeness leaves (also of a ring) -/
def LookedU (σ : Sg) (R : RC) (X : Rg) (τ : Sg) : Prop := Same LK σ τ ∧ τ 263 0 = 0 ∧ ∀ k, k < rN R → τ 262 (rO R k) = (uM R X k : Int)
theorem up_F {R : RC} {τ : Sg} {c K : Nat} {j v : Int} {F : Nat → Int} (hj : j = (rO R K : Int)) (hv : v = F (rO R K)) (hG : ∀ k, k < K → τ c (rO R k) = F (rO R k)) : ∀ k, k < K + 1 → upC τ c j.toNat v c (rO R k) = F (rO R k) := by
  intro k hk
  subst hj
  rw [show ((rO R K : Nat) : Int).toNat = rO R K from rfl]
  by_cases e : rO R k = rO R K
  · rw [e, ← hv]; exact upC_at
  · rw [upC_self e]
    refine hG k ?_
    rcases Nat.lt_or_ge k K with h | h
    · exact h
    · exact absurd (by rw [show k = K by omega]) e
theorem up_D {R : RC} {τ : Sg} {K : Nat} {j v : Int} {F : Nat → Int} (hj : j = (rO R K : Int)) (hv : v = F K) (hd : ∀ k, k < rN R → rO R k = rO R K → k = K) (P : Nat → Prop) (hP : ∀ k, P k → k < rN R) (hG : ∀ k, P k → k ≠ K → τ 262 (rO R k) = F k) : ∀ k, P k → upC τ 262 j.toNat v 262 (rO R k) = F k := by
  intro k hk
  subst hj
  rw [show ((rO R K : Nat) : Int).toNat = rO R K from rfl]
  by_cases e : k = K
  · rw [e, ← hv]; exact upC_at
  · rw [upC_self (fun z => e (hd k (hP k hk) z))]
    exact hG k hk e
set_option maxRecDepth 100000 in
set_option maxHeartbeats 4000000 in
theorem s1_takeAll_l {g : GC} (τ0 : Sg) (σ : Sg) (r U : Nat) (R : RC) (hr : r < 56) (hM : CR σ r R) (hW : WR U R) (X : Rg) (rg : Nat) (hg : rg < 298) (hgs : sh0 rg = (1, 10)) (hgn : rg ∉ LK) (hX : AV σ rg U X) : ∀ j K : Nat, K + j = rN R → ∀ τ : Sg, Same LK σ τ → τ 263 = τ0 263 → (∀ k, k < K → τ 262 (rO R k) = (fun x => (X x : Int)) (rO R k)) → Ev g mX1_takeAll 2 [some (vR (261)), some (vR (26 + 4 * r)), some (vR (rg)), some (vI (((K : Nat) : Int)))] [] (M0 (τ)) 0 0 (retW (fun ρ => Same LK σ ρ ∧ ρ 263 = τ0 263 ∧ ∀ k, k < rN R → ρ 262 (rO R k) = (X (rO R k) : Int))) := by
  intro j
  induction j with
  | zero =>
    intro K hij τ hF hJ hG
    have hF0 := hF
    have hM := hM.same hF (fun j hj => nLK (by omega))
    have hX := hX.same hF hgn
    obtain ⟨hK, hS, hB, hN, hE, hP⟩ := id hM
    obtain ⟨⟨hk5, hn6, hU⟩, hO, -⟩ := id hW
    refine Ev.iload_n dX1_takeAll_2 rfl rfl ?_
    refine Ev.aload_n dX1_takeAll_3 rfl rfl ?_
    refine gf_X1_53 (x := ((rN R : Nat) : Int)) rfl dX1_takeAll_4 (lt_rc (by omega)) (sh_rc (by omega)) hN ?_
    refine Ev.icmp_ge (tgt := 35) ⟨by omega, by omega⟩ ⟨by omega, by omega⟩ dX1_takeAll_7 (by decide) (fun h7 => ?_) (fun h7 => ?_)
    · skip
      exact Ev.vreturn dX1_takeAll_35 rfl (rW ⟨hF0, hJ, fun k hk => hG k (by omega)⟩)
    · exact absurd h7 (by omega)
  | succ j ih =>
    intro K hij τ hF hJ hG
    have hF0 := hF
    have hM := hM.same hF (fun j hj => nLK (by omega))
    have hX := hX.same hF hgn
    obtain ⟨hK, hS, hB, hN, hE, hP⟩ := id hM
    obtain ⟨⟨hk5, hn6, hU⟩, hO, -⟩ := id hW
    refine Ev.iload_n dX1_takeAll_2 rfl rfl ?_
    refine Ev.aload_n dX1_takeAll_3 rfl rfl ?_
    refine gf_X1_53 (x := ((rN R : Nat) : Int)) rfl dX1_takeAll_4 (lt_rc (by omega)) (sh_rc (by omega)) hN ?_
    refine Ev.icmp_ge (tgt := 35) ⟨by omega, by omega⟩ ⟨by omega, by omega⟩ dX1_takeAll_7 (by decide) (fun h7 => ?_) (fun h7 => ?_)
    · exact absurd h7 (by omega)
    · skip
      refine Ev.aload_n dX1_takeAll_10 rfl rfl ?_
      refine gf_X1_11 rfl dX1_takeAll_11 ltc_261 shc_261 rfc_261_1 ?_
      refine Ev.aload_n dX1_takeAll_14 rfl rfl ?_
      refine gf_X1_56 rfl dX1_takeAll_15 (lt_rc (by omega)) (sh_rc (by omega)) (rf_rc5 (by omega)) ?_
      refine Ev.iload_n dX1_takeAll_18 rfl rfl ?_
      refine Ev.iaload (v := ((rO R K : Nat) : Int)) dX1_takeAll_19 (lt_rcf (by omega) (by decide)) (sh_rc1 (by omega)) (by decide) (by omega) (by omega) (ldx rfl (hP K (by omega)).1) ?_
      refine Ev.aload_n dX1_takeAll_20 rfl rfl ?_
      refine Ev.aload_n dX1_takeAll_21 rfl rfl ?_
      refine gf_X1_56 rfl dX1_takeAll_22 (lt_rc (by omega)) (sh_rc (by omega)) (rf_rc5 (by omega)) ?_
      refine Ev.iload_n dX1_takeAll_25 rfl rfl ?_
      refine Ev.iaload (v := ((rO R K : Nat) : Int)) dX1_takeAll_26 (lt_rcf (by omega) (by decide)) (sh_rc1 (by omega)) (by decide) (by omega) (by omega) (ldx rfl (hP K (by omega)).1) ?_
      refine Ev.iaload (v := ((X (rO R K) : Nat) : Int)) dX1_takeAll_27 hg hgs (by decide) (by omega) (Int.ofNat_lt.mpr (Nat.lt_of_lt_of_le (hO _ (by omega)) hU)) (ldx rfl (hX _ (hO _ (by omega))).1) ?_
      refine Ev.iastore dX1_takeAll_28 ltc_262 shc_262 (by decide) (by omega) (Int.ofNat_lt.mpr (Nat.lt_of_lt_of_le (hO _ (by omega)) hU)) ?_
      refine Ev.iinc (pl' := [some (vR (261)), some (vR (26 + 4 * r)), some (vR (rg)), some (vI (((K : Nat) : Int) + 1))]) dX1_takeAll_29 rfl (Nat.le_of_ble_eq_true rfl) rfl ?_
      refine Ev.goto (tgt := 2) dX1_takeAll_32 (by decide) ?_
      refine Ev.wk (pl' := [some (vR (261)), some (vR (26 + 4 * r)), some (vR (rg)), some (vI ((((K + 1) : Nat) : Int)))]) ⟨rfl, ⟨rfl, ⟨rfl, ⟨vIe (by omega), trivial⟩⟩⟩⟩ ?_
      exact ih (K + 1) (by omega) (upC (τ) 262 (((rO R K : Nat) : Int)).toNat (((X (rO R K) : Nat) : Int))) (hF0.up (by decide)) (by rw [upC_ne (by decide)]; exact hJ) (up_F (F := fun x => (X x : Int)) rfl rfl hG)

set_option maxRecDepth 100000 in
set_option maxHeartbeats 4000000 in
theorem s1_takeAll {g : GC} (σ : Sg) (r U : Nat) (R : RC) (hr : r < 56) (hM : CR σ r R) (hW : WR U R) (X : Rg) (rg : Nat) (hg : rg < 298) (hgs : sh0 rg = (1, 10)) (hgn : rg ∉ LK) (hX : AV σ rg U X) : Ev g mX1_takeAll 0 [some (vR (261)), some (vR (26 + 4 * r)), some (vR (rg)), none] [] (M0 (σ)) 0 0 (retW (fun ρ => Same LK σ ρ ∧ ρ 263 = σ 263 ∧ ∀ k, k < rN R → ρ 262 (rO R k) = (X (rO R k) : Int))) := by
  refine Ev.iconst dX1_takeAll_0 ?_
  refine Ev.istore_n (pl' := [some (vR (261)), some (vR (26 + 4 * r)), some (vR (rg)), some (vI (0))]) dX1_takeAll_1 rfl (Nat.le_of_ble_eq_true rfl) rfl ?_
  refine Ev.wk (pl' := [some (vR (261)), some (vR (26 + 4 * r)), some (vR (rg)), some (vI (((0 : Nat) : Int)))]) ⟨rfl, ⟨rfl, ⟨rfl, ⟨vIe rfl, trivial⟩⟩⟩⟩ ?_
  exact s1_takeAll_l σ σ r U R hr hM hW X rg hg hgs hgn hX (rN R) 0 (by omega) σ Same.rf rfl (fun k hk => absurd hk (by omega))

set_option maxRecDepth 100000 in
set_option maxHeartbeats 4000000 in
theorem s1_others_l {g : GC} (τ0 : Sg) (σ : Sg) (r U : Nat) (R : RC) (hr : r < 56) (hM : CR σ r R) (hW : WR U R) (X : Rg) (rg : Nat) (hg : rg < 298) (hgs : sh0 rg = (1, 10)) (hgn : rg ∉ LK) (hX : AV σ rg U X) (S J : Nat) (gk : Nat → Nat) (hS : S < 64) (hJJ : J < 65536) (hgk : ∀ k, k < rN R → gk k < 65536) (hd : ∀ j k, j < rN R → k < rN R → rO R j = rO R k → j = k) : ∀ j K : Nat, K + j = rN R → ∀ τ : Sg, Same LK σ τ → τ 263 = τ0 263 → τ 263 S = (J : Int) → (∀ k, k < K → τ 262 (rO R k) = (fun k => ((gk k ||| (if S.testBit k then 0 else X (rO R k) &&& J) : Nat) : Int)) k) → (∀ k, k < rN R → K ≤ k → τ 262 (rO R k) = (gk k : Int)) → Ev g mX1_takeFromOthers 3 [some (vR (261)), some (vR (26 + 4 * r)), some (vR (rg)), some (vI (((S : Nat) : Int))), some (vI (((K : Nat) : Int)))] [] (M0 (τ)) 0 0 (retW (fun ρ => Same LK σ ρ ∧ ρ 263 = τ0 263 ∧ ∀ k, k < rN R → ρ 262 (rO R k) = (fun k => ((gk k ||| (if S.testBit k then 0 else X (rO R k) &&& J) : Nat) : Int)) k)) := by
  intro j
  induction j with
  | zero =>
    intro K hij τ hF hJ0 hJ hG1 hG2
    have hF0 := hF
    have hM := hM.same hF (fun j hj => nLK (by omega))
    have hX := hX.same hF hgn
    obtain ⟨hK, hS, hB, hN, hE, hP⟩ := id hM
    obtain ⟨⟨hk5, hn6, hU⟩, hO, -⟩ := id hW
    have hXR : ∀ k, k < rN R → X (rO R k) ≠ 0 ∧ X (rO R k) < 65536 := fun k hk => (hX _ (hO k hk)).2
    refine Ev.iload dX1_takeFromOthers_3 rfl ?_
    refine Ev.aload_n dX1_takeFromOthers_5 rfl rfl ?_
    refine gf_X1_53 (x := ((rN R : Nat) : Int)) rfl dX1_takeFromOthers_6 (lt_rc (by omega)) (sh_rc (by omega)) hN ?_
    refine Ev.icmp_ge (tgt := 58) ⟨by omega, by omega⟩ ⟨by omega, by omega⟩ dX1_takeFromOthers_9 (by decide) (fun h9 => ?_) (fun h9 => ?_)
    · skip
      exact Ev.vreturn dX1_takeFromOthers_58 rfl (rW ⟨hF0, hJ0, fun k hk => hG1 k (by omega)⟩)
    · exact absurd h9 (by omega)
  | succ j ih =>
    intro K hij τ hF hJ0 hJ hG1 hG2
    have hF0 := hF
    have hM := hM.same hF (fun j hj => nLK (by omega))
    have hX := hX.same hF hgn
    obtain ⟨hK, hS, hB, hN, hE, hP⟩ := id hM
    obtain ⟨⟨hk5, hn6, hU⟩, hO, -⟩ := id hW
    have hXR : ∀ k, k < rN R → X (rO R k) ≠ 0 ∧ X (rO R k) < 65536 := fun k hk => (hX _ (hO k hk)).2
    have hxk := hXR K (by omega)
    have hgK := hgk K (by omega)
    refine Ev.iload dX1_takeFromOthers_3 rfl ?_
    refine Ev.aload_n dX1_takeFromOthers_5 rfl rfl ?_
    refine gf_X1_53 (x := ((rN R : Nat) : Int)) rfl dX1_takeFromOthers_6 (lt_rc (by omega)) (sh_rc (by omega)) hN ?_
    refine Ev.icmp_ge (tgt := 58) ⟨by omega, by omega⟩ ⟨by omega, by omega⟩ dX1_takeFromOthers_9 (by decide) (fun h9 => ?_) (fun h9 => ?_)
    · exact absurd h9 (by omega)
    · skip
      refine Ev.iload_n dX1_takeFromOthers_12 rfl rfl ?_
      refine Ev.iload dX1_takeFromOthers_13 rfl ?_
      refine Ev.ishr dX1_takeFromOthers_15 ?_
      refine Ev.iconst dX1_takeFromOthers_16 ?_
      refine Ev.iand dX1_takeFromOthers_17 ?_
      rw [show (iAnd ((iShr (((S : Nat) : Int)) (((K : Nat) : Int)))) (1)) = (((b2 (Nat.testBit S K)) : Nat) : Int) from bit_nat (by omega) (by omega)]
      refine Ev.if_ne (tgt := 52) b2_inR dX1_takeFromOthers_18 (by decide) (fun h18 => ?_) (fun h18 => ?_)
      · skip
        refine Ev.iinc (pl' := [some (vR (261)), some (vR (26 + 4 * r)), some (vR (rg)), some (vI (((S : Nat) : Int))), some (vI (((K : Nat) : Int) + 1))]) dX1_takeFromOthers_52 rfl (Nat.le_of_ble_eq_true rfl) rfl ?_
        refine Ev.goto (tgt := 3) dX1_takeFromOthers_55 (by decide) ?_
        refine Ev.wk (pl' := [some (vR (261)), some (vR (26 + 4 * r)), some (vR (rg)), some (vI (((S : Nat) : Int))), some (vI ((((K + 1) : Nat) : Int)))]) ⟨rfl, ⟨rfl, ⟨rfl, ⟨rfl, ⟨vIe (by omega), trivial⟩⟩⟩⟩⟩ ?_
        exact ih (K + 1) (by omega) τ hF0 hJ0 hJ (fun k hk => (Nat.lt_or_ge k K).elim (hG1 k) (fun e => by rw [show k = K by omega, hG2 K (by omega) (by omega)]; show _ = ((gk K ||| (if Nat.testBit S K then 0 else _) : Nat) : Int); rw [if_pos (b2_ne.mp h18), Nat.or_zero])) (fun k hk e => hG2 k hk (by omega))
      · skip
        refine Ev.aload_n dX1_takeFromOthers_21 rfl rfl ?_
        refine gf_X1_11 rfl dX1_takeFromOthers_22 ltc_261 shc_261 rfc_261_1 ?_
        refine Ev.aload_n dX1_takeFromOthers_25 rfl rfl ?_
        refine gf_X1_56 rfl dX1_takeFromOthers_26 (lt_rc (by omega)) (sh_rc (by omega)) (rf_rc5 (by omega)) ?_
        refine Ev.iload dX1_takeFromOthers_29 rfl ?_
        refine Ev.iaload (v := ((rO R K : Nat) : Int)) dX1_takeFromOthers_31 (lt_rcf (by omega) (by decide)) (sh_rc1 (by omega)) (by decide) (by omega) (by omega) (ldx rfl (hP K (by omega)).1) ?_
        refine Ev.dup2RI dX1_takeFromOthers_32 ?_
        refine Ev.iaload (v := ((gk K : Nat) : Int)) dX1_takeFromOthers_33 ltc_262 shc_262 (by decide) (by omega) (Int.ofNat_lt.mpr (Nat.lt_of_lt_of_le (hO _ (by omega)) hU)) (ldx rfl (hG2 K (by omega) (by omega))) ?_
        refine Ev.aload_n dX1_takeFromOthers_34 rfl rfl ?_
        refine Ev.aload_n dX1_takeFromOthers_35 rfl rfl ?_
        refine gf_X1_56 rfl dX1_takeFromOthers_36 (lt_rc (by omega)) (sh_rc (by omega)) (rf_rc5 (by omega)) ?_
        refine Ev.iload dX1_takeFromOthers_39 rfl ?_
        refine Ev.iaload (v := ((rO R K : Nat) : Int)) dX1_takeFromOthers_41 (lt_rcf (by omega) (by decide)) (sh_rc1 (by omega)) (by decide) (by omega) (by omega) (ldx rfl (hP K (by omega)).1) ?_
        refine Ev.iaload (v := ((X (rO R K) : Nat) : Int)) dX1_takeFromOthers_42 hg hgs (by decide) (by omega) (Int.ofNat_lt.mpr (Nat.lt_of_lt_of_le (hO _ (by omega)) hU)) (ldx rfl (hX _ (hO _ (by omega))).1) ?_
        refine Ev.aload_n dX1_takeFromOthers_43 rfl rfl ?_
        refine gf_X1_17 rfl dX1_takeFromOthers_44 ltc_261 shc_261 rfc_261_2 ?_
        refine Ev.iload_n dX1_takeFromOthers_47 rfl rfl ?_
        refine Ev.iaload (v := ((J : Nat) : Int)) dX1_takeFromOthers_48 ltc_263 shc_263 (by decide) (by omega) (by omega) (ldx rfl hJ) ?_
        refine Ev.iand dX1_takeFromOthers_49 ?_
        rw [show (iAnd (((X (rO R K) : Nat) : Int)) (((J : Nat) : Int))) = (((X (rO R K) &&& J) : Nat) : Int) from iAnd_nat (by omega)]
        refine Ev.ior dX1_takeFromOthers_50 ?_
        rw [show (iOr (((gk K : Nat) : Int)) ((((X (rO R K) &&& J) : Nat) : Int))) = (((gk K ||| (X (rO R K) &&& J)) : Nat) : Int) from iOr_nat (by omega) (by have := @Nat.and_le_left (X (rO R K)) J; omega)]
        refine Ev.iastore dX1_takeFromOthers_51 ltc_262 shc_262 (by decide) (by omega) (Int.ofNat_lt.mpr (Nat.lt_of_lt_of_le (hO _ (by omega)) hU)) ?_
        refine Ev.iinc (pl' := [some (vR (261)), some (vR (26 + 4 * r)), some (vR (rg)), some (vI (((S : Nat) : Int))), some (vI (((K : Nat) : Int) + 1))]) dX1_takeFromOthers_52 rfl (Nat.le_of_ble_eq_true rfl) rfl ?_
        refine Ev.goto (tgt := 3) dX1_takeFromOthers_55 (by decide) ?_
        refine Ev.wk (pl' := [some (vR (261)), some (vR (26 + 4 * r)), some (vR (rg)), some (vI (((S : Nat) : Int))), some (vI ((((K + 1) : Nat) : Int)))]) ⟨rfl, ⟨rfl, ⟨rfl, ⟨rfl, ⟨vIe (by omega), trivial⟩⟩⟩⟩⟩ ?_
        exact ih (K + 1) (by omega) (upC (τ) 262 (((rO R K : Nat) : Int)).toNat ((((gk K ||| (X (rO R K) &&& J)) : Nat) : Int))) (hF0.up (by decide)) (by rw [upC_ne (by decide)]; exact hJ0) (by rw [upC_ne (by decide)]; exact hJ) (up_D (F := (fun k => ((gk k ||| (if S.testBit k then 0 else X (rO R k) &&& J) : Nat) : Int))) rfl (by show _ = ((gk K ||| (if Nat.testBit S K then 0 else _) : Nat) : Int); rw [if_neg (by rw [b2_0.mp h18]; decide)]) (fun k hk z => hd k K hk (by omega) z) (fun k => k < K + 1) (fun k hk => by omega) (fun k hk hne => hG1 k (by omega))) (fun k hk e => by rw [show ((rO R K : Nat) : Int).toNat = rO R K from rfl, upC_self (fun z => absurd (hd k K hk (by omega) z) (by omega))]; exact hG2 k hk (by omega))

set_option maxRecDepth 100000 in
set_option maxHeartbeats 4000000 in
theorem s1_others {g : GC} (σ : Sg) (r U : Nat) (R : RC) (hr : r < 56) (hM : CR σ r R) (hW : WR U R) (X : Rg) (rg : Nat) (hg : rg < 298) (hgs : sh0 rg = (1, 10)) (hgn : rg ∉ LK) (hX : AV σ rg U X) (S J : Nat) (gk : Nat → Nat) (hS : S < 64) (hJJ : J < 65536) (hgk : ∀ k, k < rN R → gk k < 65536) (hd : ∀ j k, j < rN R → k < rN R → rO R j = rO R k → j = k) (hJ : σ 263 S = (J : Int)) (hG2 : ∀ k, k < rN R → σ 262 (rO R k) = (gk k : Int)) : Ev g mX1_takeFromOthers 0 [some (vR (261)), some (vR (26 + 4 * r)), some (vR (rg)), some (vI (((S : Nat) : Int))), none] [] (M0 (σ)) 0 0 (retW (fun ρ => Same LK σ ρ ∧ ρ 263 = σ 263 ∧ ∀ k, k < rN R → ρ 262 (rO R k) = (fun k => ((gk k ||| (if S.testBit k then 0 else X (rO R k) &&& J) : Nat) : Int)) k)) := by
  refine Ev.iconst dX1_takeFromOthers_0 ?_
  refine Ev.istore (pl' := [some (vR (261)), some (vR (26 + 4 * r)), some (vR (rg)), some (vI (((S : Nat) : Int))), some (vI (0))]) dX1_takeFromOthers_1 (Nat.le_of_ble_eq_true rfl) rfl ?_
  refine Ev.wk (pl' := [some (vR (261)), some (vR (26 + 4 * r)), some (vR (rg)), some (vI (((S : Nat) : Int))), some (vI (((0 : Nat) : Int)))]) ⟨rfl, ⟨rfl, ⟨rfl, ⟨rfl, ⟨vIe rfl, trivial⟩⟩⟩⟩⟩ ?_
  exact s1_others_l σ σ r U R hr hM hW X rg hg hgs hgn hX S J gk hS hJJ hgk hd (rN R) 0 (by omega) σ Same.rf rfl hJ (fun k hk => absurd hk (by omega)) (fun k hk _ => hG2 k hk)

set_option maxRecDepth 100000 in
set_option maxHeartbeats 4000000 in
theorem s1_unl0 {g : GC} (σ : Sg) (r U : Nat) (R : RC) (hr : r < 56) (hM : CR σ r R) (hW : WR U R) (X : Rg) (rg : Nat) (hg : rg < 298) (hgs : sh0 rg = (1, 10)) (hgn : rg ∉ LK) (hX : AV σ rg U X) {Post : Option PV → Mem → Prop} : ∀ j K : Nat, K + j = rN R → ∀ τ : Sg, Same LK σ τ → τ 263 = σ 263 → (∀ k, k < K → τ 262 (rO R k) = (fun _ => (0 : Int)) (rO R k)) → (∀ τ : Sg, Same LK σ τ → τ 263 = σ 263 → (∀ k, k < rN R → τ 262 (rO R k) = 0) → Ev g mX1_lookAtUnlike 28 [some (vR (261)), some (vR (26 + 4 * r)), some (vR (rg)), none, none, none] [] (M0 τ) 0 0 Post) → Ev g mX1_lookAtUnlike 2 [some (vR (261)), some (vR (26 + 4 * r)), some (vR (rg)), some (vI (((K : Nat) : Int))), none, none] [] (M0 (τ)) 0 0 (Post) := by
  intro j
  induction j with
  | zero =>
    intro K hij τ hF hJ hG kk
    have hF0 := hF
    have hM := hM.same hF (fun j hj => nLK (by omega))
    have hX := hX.same hF hgn
    obtain ⟨hK, hS, hB, hN, hE, hP⟩ := id hM
    obtain ⟨⟨hk5, hn6, hU⟩, hO, -⟩ := id hW
    refine Ev.iload_n dX1_lookAtUnlike_2 rfl rfl ?_
    refine Ev.aload_n dX1_lookAtUnlike_3 rfl rfl ?_
    refine gf_X1_53 (x := ((rN R : Nat) : Int)) rfl dX1_lookAtUnlike_4 (lt_rc (by omega)) (sh_rc (by omega)) hN ?_
    refine Ev.icmp_ge (tgt := 28) ⟨by omega, by omega⟩ ⟨by omega, by omega⟩ dX1_lookAtUnlike_7 (by decide) (fun h7 => ?_) (fun h7 => ?_)
    · skip
      refine Ev.wk (pl' := [some (vR (261)), some (vR (26 + 4 * r)), some (vR (rg)), none, none, none]) ⟨rfl, ⟨rfl, ⟨rfl, trivial⟩⟩⟩ ?_
      exact kk τ hF0 hJ (fun k hk => hG k (by omega))
    · exact absurd h7 (by omega)
  | succ j ih =>
    intro K hij τ hF hJ hG kk
    have hF0 := hF
    have hM := hM.same hF (fun j hj => nLK (by omega))
    have hX := hX.same hF hgn
    obtain ⟨hK, hS, hB, hN, hE, hP⟩ := id hM
    obtain ⟨⟨hk5, hn6, hU⟩, hO, -⟩ := id hW
    refine Ev.iload_n dX1_lookAtUnlike_2 rfl rfl ?_
    refine Ev.aload_n dX1_lookAtUnlike_3 rfl rfl ?_
    refine gf_X1_53 (x := ((rN R : Nat) : Int)) rfl dX1_lookAtUnlike_4 (lt_rc (by omega)) (sh_rc (by omega)) hN ?_
    refine Ev.icmp_ge (tgt := 28) ⟨by omega, by omega⟩ ⟨by omega, by omega⟩ dX1_lookAtUnlike_7 (by decide) (fun h7 => ?_) (fun h7 => ?_)
    · exact absurd h7 (by omega)
    · skip
      refine Ev.aload_n dX1_lookAtUnlike_10 rfl rfl ?_
      refine gf_X1_11 rfl dX1_lookAtUnlike_11 ltc_261 shc_261 rfc_261_1 ?_
      refine Ev.aload_n dX1_lookAtUnlike_14 rfl rfl ?_
      refine gf_X1_56 rfl dX1_lookAtUnlike_15 (lt_rc (by omega)) (sh_rc (by omega)) (rf_rc5 (by omega)) ?_
      refine Ev.iload_n dX1_lookAtUnlike_18 rfl rfl ?_
      refine Ev.iaload (v := ((rO R K : Nat) : Int)) dX1_lookAtUnlike_19 (lt_rcf (by omega) (by decide)) (sh_rc1 (by omega)) (by decide) (by omega) (by omega) (ldx rfl (hP K (by omega)).1) ?_
      refine Ev.iconst dX1_lookAtUnlike_20 ?_
      refine Ev.iastore dX1_lookAtUnlike_21 ltc_262 shc_262 (by decide) (by omega) (Int.ofNat_lt.mpr (Nat.lt_of_lt_of_le (hO _ (by omega)) hU)) ?_
      refine Ev.iinc (pl' := [some (vR (261)), some (vR (26 + 4 * r)), some (vR (rg)), some (vI (((K : Nat) : Int) + 1)), none, none]) dX1_lookAtUnlike_22 rfl (Nat.le_of_ble_eq_true rfl) rfl ?_
      refine Ev.goto (tgt := 2) dX1_lookAtUnlike_25 (by decide) ?_
      refine Ev.wk (pl' := [some (vR (261)), some (vR (26 + 4 * r)), some (vR (rg)), some (vI ((((K + 1) : Nat) : Int))), none, none]) ⟨rfl, ⟨rfl, ⟨rfl, ⟨vIe (by omega), trivial⟩⟩⟩⟩ ?_
      exact ih (K + 1) (by omega) (upC (τ) 262 (((rO R K : Nat) : Int)).toNat (0)) (hF0.up (by decide)) (by rw [upC_ne (by decide)]; exact hJ) (up_F (F := fun _ => (0 : Int)) rfl rfl hG) kk

set_option maxRecDepth 100000 in
set_option maxHeartbeats 4000000 in
theorem s1_unl {g : GC} (σ : Sg) (r U : Nat) (R : RC) (hr : r < 56) (hM : CR σ r R) (hW : WR U R) (X : Rg) (rg : Nat) (hg : rg < 298) (hgs : sh0 rg = (1, 10)) (hgn : rg ∉ LK) (hX : AV σ rg U X) (hk15 : rK R ≠ 5) : ∀ j S : Nat, S + j = 2 ^ rN R → 1 ≤ S → ∀ τ : Sg, Same LK σ τ → (∀ s, s < S → τ 263 s = (uni (rN R) (rgf R X) s : Int)) → (∀ s, s < S → pop s ≤ pop (uni (rN R) (rgf R X) s)) → (∀ k, k < rN R → τ 262 (rO R k) = (hgM R X S k : Int)) → Ev g mX1_lookAtUnlike 30 [some (vR (261)), some (vR (26 + 4 * r)), some (vR (rg)), some (vI (((S : Nat) : Int))), none, none] [] (M0 (τ)) 0 0 (retW (LookedU σ R X)) := by
  intro j
  induction j with
  | zero =>
    intro S hij hS1 τ hF hJ hno hG
    have hF0 := hF
    have hM := hM.same hF (fun j hj => nLK (by omega))
    have hX := hX.same hF hgn
    obtain ⟨hK, hS, hB, hN, hE, hP⟩ := id hM
    obtain ⟨⟨hk5, hn6, hU⟩, hO, -⟩ := id hW
    have hXR : ∀ k, k < rN R → X (rO R k) ≠ 0 ∧ X (rO R k) < 65536 := fun k hk => (hX _ (hO k hk)).2
    have hdis : ∀ j k, j < rN R → k < rN R → rO R j = rO R k → j = k := hW.2.2.2.2.2.2 hk15
    have hp6 := pow_le6 hn6
    have hu := uni_lt (n := rN R) (S := S) (f := rgf R X) (fun k hk => (hXR k hk).2)
    have hcl := @Nat.and_le_right S (S - 1)
    refine Ev.iload_n dX1_lookAtUnlike_30 rfl rfl ?_
    refine Ev.iconst dX1_lookAtUnlike_31 ?_
    refine Ev.aload_n dX1_lookAtUnlike_32 rfl rfl ?_
    refine gf_X1_53 (x := ((rN R : Nat) : Int)) rfl dX1_lookAtUnlike_33 (lt_rc (by omega)) (sh_rc (by omega)) hN ?_
    refine Ev.ishl dX1_lookAtUnlike_36 ?_
    rw [show (iShl (1) (((rN R : Nat) : Int))) = ((2 ^ rN R : Nat) : Int) from shl1 (by omega)]
    refine Ev.icmp_ge (tgt := 118) ⟨by omega, by omega⟩ ⟨by omega, by omega⟩ dX1_lookAtUnlike_37 (by decide) (fun h37 => ?_) (fun h37 => ?_)
    · skip
      exact Ev.vreturn dX1_lookAtUnlike_118 rfl (rW ⟨hF0, by rw [hJ 0 (by omega), uni_0]; rfl, fun k hk => by rw [hG k hk, unl_end hn6 hk (fun k hk => (hXR k hk).2) (by omega) hno]⟩)
    · exact absurd h37 (by omega)
  | succ j ih =>
    intro S hij hS1 τ hF hJ hno hG
    have hF0 := hF
    have hM := hM.same hF (fun j hj => nLK (by omega))
    have hX := hX.same hF hgn
    obtain ⟨hK, hS, hB, hN, hE, hP⟩ := id hM
    obtain ⟨⟨hk5, hn6, hU⟩, hO, -⟩ := id hW
    have hXR : ∀ k, k < rN R → X (rO R k) ≠ 0 ∧ X (rO R k) < 65536 := fun k hk => (hX _ (hO k hk)).2
    have hdis : ∀ j k, j < rN R → k < rN R → rO R j = rO R k → j = k := hW.2.2.2.2.2.2 hk15
    have hp6 := pow_le6 hn6
    have hu := uni_lt (n := rN R) (S := S) (f := rgf R X) (fun k hk => (hXR k hk).2)
    have hcl := @Nat.and_le_right S (S - 1)
    have hln : lo S < rN R := by
          rcases Nat.lt_or_ge (lo S) (rN R) with h | h
          · exact h
          · have hl := lo_tb (m := S) (by omega) (by omega)
            rw [Nat.testBit_lt_two_pow (Nat.lt_of_lt_of_le (show S < 2 ^ rN R by omega) (Nat.pow_le_pow_right (by decide) h))] at hl; cases hl
    have hxl := hXR (lo S) hln
    have hu2 := uni_lt (n := rN R) (S := S &&& (S - 1)) (f := rgf R X) (fun k hk => (hXR k hk).2)
    have hcl2 : S &&& (S - 1) < S := by omega
    have hpu : pop (uni (rN R) (rgf R X) S) ≤ 16 := popN_le 16 _
    have hps : pop S ≤ 16 := popN_le 16 _
    have hMu : CR (upC τ 263 S (uni (rN R) (rgf R X) S : Int)) r R := hM.same (Same.rf.up (L := LK) (by decide)) (fun j hj => nLK (by omega))
    have hXu : AV (upC τ 263 S (uni (rN R) (rgf R X) S : Int)) rg U X := hX.same (Same.rf.up (L := LK) (by decide)) hgn
    refine Ev.iload_n dX1_lookAtUnlike_30 rfl rfl ?_
    refine Ev.iconst dX1_lookAtUnlike_31 ?_
    refine Ev.aload_n dX1_lookAtUnlike_32 rfl rfl ?_
    refine gf_X1_53 (x := ((rN R : Nat) : Int)) rfl dX1_lookAtUnlike_33 (lt_rc (by omega)) (sh_rc (by omega)) hN ?_
    refine Ev.ishl dX1_lookAtUnlike_36 ?_
    rw [show (iShl (1) (((rN R : Nat) : Int))) = ((2 ^ rN R : Nat) : Int) from shl1 (by omega)]
    refine Ev.icmp_ge (tgt := 118) ⟨by omega, by omega⟩ ⟨by omega, by omega⟩ dX1_lookAtUnlike_37 (by decide) (fun h37 => ?_) (fun h37 => ?_)
    · exact absurd h37 (by omega)
    · skip
      refine Ev.iload_n dX1_lookAtUnlike_40 rfl rfl ?_
      refine Ev.iload_n dX1_lookAtUnlike_41 rfl rfl ?_
      refine Ev.iconst dX1_lookAtUnlike_42 ?_
      refine Ev.isub dX1_lookAtUnlike_43 ?_
      refine Ev.iand dX1_lookAtUnlike_44 ?_
      rw [show (iAnd (((S : Nat) : Int)) ((((S : Nat) : Int) - 1))) = (((S &&& (S - 1)) : Nat) : Int) from by rw [show ((S : Nat) : Int) - 1 = ((S - 1 : Nat) : Int) by omega]; exact iAnd_nat (by omega)]
      refine Ev.istore (pl' := [some (vR (261)), some (vR (26 + 4 * r)), some (vR (rg)), some (vI (((S : Nat) : Int))), some (vI ((((S &&& (S - 1)) : Nat) : Int))), none]) dX1_lookAtUnlike_45 (Nat.le_of_ble_eq_true rfl) rfl ?_
      refine Ev.aload_n dX1_lookAtUnlike_47 rfl rfl ?_
      refine gf_X1_17 rfl dX1_lookAtUnlike_48 ltc_261 shc_261 rfc_261_2 ?_
      refine Ev.iload_n dX1_lookAtUnlike_51 rfl rfl ?_
      refine Ev.aload_n dX1_lookAtUnlike_52 rfl rfl ?_
      refine gf_X1_17 rfl dX1_lookAtUnlike_53 ltc_261 shc_261 rfc_261_2 ?_
      refine Ev.iload dX1_lookAtUnlike_56 rfl ?_
      refine Ev.iaload (v := ((uni (rN R) (rgf R X) (S &&& (S - 1)) : Nat) : Int)) dX1_lookAtUnlike_58 ltc_263 shc_263 (by decide) (by omega) (by omega) (ldx (by omega) (hJ _ hcl2)) ?_
      refine Ev.aload_n dX1_lookAtUnlike_59 rfl rfl ?_
      refine Ev.aload_n dX1_lookAtUnlike_60 rfl rfl ?_
      refine gf_X1_56 rfl dX1_lookAtUnlike_61 (lt_rc (by omega)) (sh_rc (by omega)) (rf_rc5 (by omega)) ?_
      refine Ev.iload_n dX1_lookAtUnlike_64 rfl rfl ?_
      refine Ev.callS_I (M2 := mJ6_numberOfTrailingZeros_0f7a4) (args2 := [vI (((S : Nat) : Int))]) dX1_lookAtUnlike_65 okJ6_numberOfTrailingZeros_0f7a4 lk_X1_77 osJ6_numberOfTrailingZeros_0f7a4.1 osJ6_numberOfTrailingZeros_0f7a4.2 (by decide) rfl (Nat.le_of_ble_eq_true rfl) (Nat.le_of_ble_eq_true rfl) (sJ_ntz τ S (by omega) (by omega)) ?_ rfl
      refine Ev.iaload (v := ((rO R (lo S) : Nat) : Int)) dX1_lookAtUnlike_68 (lt_rcf (by omega) (by decide)) (sh_rc1 (by omega)) (by decide) (by omega) (by omega) (ldx rfl (hP _ hln).1) ?_
      refine Ev.iaload (v := ((X (rO R (lo S)) : Nat) : Int)) dX1_lookAtUnlike_69 hg hgs (by decide) (by omega) (Int.ofNat_lt.mpr (Nat.lt_of_lt_of_le (hO _ hln) hU)) (ldx rfl (hX _ (hO _ hln)).1) ?_
      refine Ev.ior dX1_lookAtUnlike_70 ?_
      rw [show (iOr (((uni (rN R) (rgf R X) (S &&& (S - 1)) : Nat) : Int)) (((X (rO R (lo S)) : Nat) : Int))) = ((uni (rN R) (rgf R X) S : Nat) : Int) from by rw [uni_lo (S := S) (by omega) (by omega) hn6]; exact iOr_nat (a := uni (rN R) (rgf R X) (S &&& (S - 1))) (b := X (rO R (lo S))) (by omega) (by omega)]
      refine Ev.iastore dX1_lookAtUnlike_71 ltc_263 shc_263 (by decide) (by omega) (by omega) ?_
      refine Ev.mem (τ := upC τ 263 S (uni (rN R) (rgf R X) S : Int)) (by congr 1) ?_
      refine Ev.aload_n dX1_lookAtUnlike_72 rfl rfl ?_
      refine gf_X1_17 rfl dX1_lookAtUnlike_73 ltc_261 shc_261 rfc_261_2 ?_
      refine Ev.iload_n dX1_lookAtUnlike_76 rfl rfl ?_
      refine Ev.iaload (v := ((uni (rN R) (rgf R X) S : Nat) : Int)) dX1_lookAtUnlike_77 ltc_263 shc_263 (by decide) (by omega) (by omega) (show (upC τ 263 S (uni (rN R) (rgf R X) S : Int)) 263 (((S : Nat) : Int)).toNat = ((uni (rN R) (rgf R X) S : Nat) : Int) from (by exact upC_at)) ?_
      refine Ev.callS_I (M2 := mJ6_bitCount_0f7a4) (args2 := [vI (((uni (rN R) (rgf R X) S : Nat) : Int))]) dX1_lookAtUnlike_78 okJ6_bitCount_0f7a4 lk_X1_92 osJ6_bitCount_0f7a4.1 osJ6_bitCount_0f7a4.2 (by decide) rfl (Nat.le_of_ble_eq_true rfl) (Nat.le_of_ble_eq_true rfl) (sJ_bitCount (upC τ 263 S (uni (rN R) (rgf R X) S : Int)) (uni (rN R) (rgf R X) S) (by omega)) ?_ rfl
      refine Ev.iload_n dX1_lookAtUnlike_81 rfl rfl ?_
      refine Ev.callS_I (M2 := mJ6_bitCount_0f7a4) (args2 := [vI (((S : Nat) : Int))]) dX1_lookAtUnlike_82 okJ6_bitCount_0f7a4 lk_X1_92 osJ6_bitCount_0f7a4.1 osJ6_bitCount_0f7a4.2 (by decide) rfl (Nat.le_of_ble_eq_true rfl) (Nat.le_of_ble_eq_true rfl) (sJ_bitCount (upC τ 263 S (uni (rN R) (rgf R X) S : Int)) S (by omega)) ?_ rfl
      refine Ev.isub dX1_lookAtUnlike_85 ?_
      refine Ev.istore (pl' := [some (vR (261)), some (vR (26 + 4 * r)), some (vR (rg)), some (vI (((S : Nat) : Int))), some (vI ((((S &&& (S - 1)) : Nat) : Int))), some (vI ((((pop (uni (rN R) (rgf R X) S) : Nat) : Int) - ((pop S : Nat) : Int))))]) dX1_lookAtUnlike_86 (Nat.le_of_ble_eq_true rfl) rfl ?_
      refine Ev.iload dX1_lookAtUnlike_88 rfl ?_
      refine Ev.if_ge (tgt := 100) ⟨by omega, by omega⟩ dX1_lookAtUnlike_90 (by decide) (fun h90 => ?_) (fun h90 => ?_)
      · skip
        refine Ev.iload dX1_lookAtUnlike_100 rfl ?_
        refine Ev.if_ne (tgt := 112) ⟨by omega, by omega⟩ dX1_lookAtUnlike_102 (by decide) (fun h102 => ?_) (fun h102 => ?_)
        · skip
          refine Ev.iinc (pl' := [some (vR (261)), some (vR (26 + 4 * r)), some (vR (rg)), some (vI (((S : Nat) : Int) + 1)), some (vI ((((S &&& (S - 1)) : Nat) : Int))), some (vI ((((pop (uni (rN R) (rgf R X) S) : Nat) : Int) - ((pop S : Nat) : Int))))]) dX1_lookAtUnlike_112 rfl (Nat.le_of_ble_eq_true rfl) rfl ?_
          refine Ev.goto (tgt := 30) dX1_lookAtUnlike_115 (by decide) ?_
          refine Ev.wk (pl' := [some (vR (261)), some (vR (26 + 4 * r)), some (vR (rg)), some (vI ((((S + 1) : Nat) : Int))), none, none]) ⟨rfl, ⟨rfl, ⟨rfl, ⟨vIe (by omega), trivial⟩⟩⟩⟩ ?_
          exact ih (S + 1) (by omega) (by omega) (upC τ 263 S (uni (rN R) (rgf R X) S : Int)) (hF0.up (by decide)) (fun s hs => (Nat.lt_or_ge s S).elim (fun e => by rw [upC_self (by omega)]; exact hJ s e) (fun e => by rw [show s = S by omega]; exact upC_at)) (fun s hs => (Nat.lt_or_ge s S).elim (hno s) (fun e => by rw [show s = S by omega]; omega)) (fun k hk => by rw [upC_ne (by decide), hgM_n (by omega)]; exact hG k hk)
        · skip
          refine Ev.aload_n dX1_lookAtUnlike_105 rfl rfl ?_
          refine Ev.aload_n dX1_lookAtUnlike_106 rfl rfl ?_
          refine Ev.aload_n dX1_lookAtUnlike_107 rfl rfl ?_
          refine Ev.iload_n dX1_lookAtUnlike_108 rfl rfl ?_
          refine Ev.callV_G (M2 := mX1_takeFromOthers) (args2 := [vR (26 + 4 * r), vR (rg), vI (((S : Nat) : Int))]) (rcv := 261) (q := (RX1, TX1, 5)) (ci := 1) dX1_lookAtUnlike_109 okX1_takeFromOthers lk_X1_98 ovX1_takeFromOthers.1.1 ovX1_takeFromOthers.1.2 ovX1_takeFromOthers.2 (by decide) rfl rfl ltc_261 shc_261 rfl (Nat.le_of_ble_eq_true rfl) (Nat.le_of_ble_eq_true rfl) (s1_others (upC τ 263 S (uni (rN R) (rgf R X) S : Int)) r U R hr hMu hW X rg hg hgs hgn hXu S (uni (rN R) (rgf R X) S) (hgM R X S) (by omega) (by omega) (fun k hk => mk_lt _) hdis upC_at (fun k hk => by rw [upC_ne (by decide)]; exact hG k hk)) (fun v_ m_ hp_ => ?_) rfl
          obtain ⟨ρ, rfl, rfl, q1, q2, q3⟩ := hp_
          show Ev g mX1_lookAtUnlike 112 [some (vR (261)), some (vR (26 + 4 * r)), some (vR (rg)), some (vI (((S : Nat) : Int))), some (vI ((((S &&& (S - 1)) : Nat) : Int))), some (vI ((((pop (uni (rN R) (rgf R X) S) : Nat) : Int) - ((pop S : Nat) : Int))))] [] (M0 (ρ)) 0 0 _
          refine Ev.iinc (pl' := [some (vR (261)), some (vR (26 + 4 * r)), some (vR (rg)), some (vI (((S : Nat) : Int) + 1)), some (vI ((((S &&& (S - 1)) : Nat) : Int))), some (vI ((((pop (uni (rN R) (rgf R X) S) : Nat) : Int) - ((pop S : Nat) : Int))))]) dX1_lookAtUnlike_112 rfl (Nat.le_of_ble_eq_true rfl) rfl ?_
          refine Ev.goto (tgt := 30) dX1_lookAtUnlike_115 (by decide) ?_
          refine Ev.wk (pl' := [some (vR (261)), some (vR (26 + 4 * r)), some (vR (rg)), some (vI ((((S + 1) : Nat) : Int))), none, none]) ⟨rfl, ⟨rfl, ⟨rfl, ⟨vIe (by omega), trivial⟩⟩⟩⟩ ?_
          exact ih (S + 1) (by omega) (by omega) ρ ((hF0.up (by decide)).tr q1) (fun s hs => (Nat.lt_or_ge s S).elim (fun e => by rw [q2, upC_self (by omega)]; exact hJ s e) (fun e => by rw [show s = S by omega]; exact (by rw [q2]; exact upC_at))) (fun s hs => (Nat.lt_or_ge s S).elim (hno s) (fun e => by rw [show s = S by omega]; omega)) (fun k hk => hg_y (q3 k hk) (by omega) (hXR k hk).2)
      · skip
        refine Ev.aload_n dX1_lookAtUnlike_93 rfl rfl ?_
        refine Ev.aload_n dX1_lookAtUnlike_94 rfl rfl ?_
        refine Ev.aload_n dX1_lookAtUnlike_95 rfl rfl ?_
        refine Ev.callV_G (M2 := mX1_takeAll) (args2 := [vR (26 + 4 * r), vR (rg)]) (rcv := 261) (q := (RX1, TX1, 5)) (ci := 1) dX1_lookAtUnlike_96 okX1_takeAll lk_X1_95 ovX1_takeAll.1.1 ovX1_takeAll.1.2 ovX1_takeAll.2 (by decide) rfl rfl ltc_261 shc_261 rfl (Nat.le_of_ble_eq_true rfl) (Nat.le_of_ble_eq_true rfl) (s1_takeAll (upC τ 263 S (uni (rN R) (rgf R X) S : Int)) r U R hr hMu hW X rg hg hgs hgn hXu) (fun v_ m_ hp_ => ?_) rfl
        obtain ⟨ρ, rfl, rfl, q1, q2, q3⟩ := hp_
        show Ev g mX1_lookAtUnlike 99 [some (vR (261)), some (vR (26 + 4 * r)), some (vR (rg)), some (vI (((S : Nat) : Int))), some (vI ((((S &&& (S - 1)) : Nat) : Int))), some (vI ((((pop (uni (rN R) (rgf R X) S) : Nat) : Int) - ((pop S : Nat) : Int))))] [] (M0 (ρ)) 0 0 _
        exact Ev.vreturn dX1_lookAtUnlike_99 rfl (rW ⟨(hF0.up (by decide)).tr q1, by rw [q2, upC_self (by omega), hJ 0 (by omega), uni_0]; rfl, fun k hk => by rw [q3 k hk, ← unl_all (S := S) (by omega) (by omega) (hXR k hk).2]⟩)

set_option maxRecDepth 100000 in
set_option maxHeartbeats 4000000 in
theorem s1_lookAtUnlike {g : GC} (σ : Sg) (r U : Nat) (R : RC) (hr : r < 56) (hM : CR σ r R) (hW : WR U R) (X : Rg) (rg : Nat) (hg : rg < 298) (hgs : sh0 rg = (1, 10)) (hgn : rg ∉ LK) (hX : AV σ rg U X) (hk15 : rK R ≠ 5) (hJ : σ 263 0 = 0) : Ev g mX1_lookAtUnlike 0 [some (vR (261)), some (vR (26 + 4 * r)), some (vR (rg)), none, none, none] [] (M0 (σ)) 0 0 (retW (LookedU σ R X)) := by
  obtain ⟨hK, hS, hB, hN, hE, hP⟩ := id hM
  obtain ⟨⟨hk5, hn6, hU⟩, hO, -⟩ := id hW
  have hp6 := pow_le6 hn6
  refine Ev.iconst dX1_lookAtUnlike_0 ?_
  refine Ev.istore_n (pl' := [some (vR (261)), some (vR (26 + 4 * r)), some (vR (rg)), some (vI (0)), none, none]) dX1_lookAtUnlike_1 rfl (Nat.le_of_ble_eq_true rfl) rfl ?_
  refine Ev.wk (pl' := [some (vR (261)), some (vR (26 + 4 * r)), some (vR (rg)), some (vI (((0 : Nat) : Int))), none, none]) ⟨rfl, ⟨rfl, ⟨rfl, ⟨vIe rfl, trivial⟩⟩⟩⟩ ?_
  refine s1_unl0 σ r U R hr hM hW X rg hg hgs hgn hX (rN R) 0 (by omega) σ Same.rf rfl (fun k hk => absurd hk (by omega)) (fun τ hF hJ2 hG => ?_)
  refine Ev.iconst dX1_lookAtUnlike_28 ?_
  refine Ev.istore_n (pl' := [some (vR (261)), some (vR (26 + 4 * r)), some (vR (rg)), some (vI (1)), none, none]) dX1_lookAtUnlike_29 rfl (Nat.le_of_ble_eq_true rfl) rfl ?_
  refine Ev.wk (pl' := [some (vR (261)), some (vR (26 + 4 * r)), some (vR (rg)), some (vI (((1 : Nat) : Int))), none, none]) ⟨rfl, ⟨rfl, ⟨rfl, ⟨vIe rfl, trivial⟩⟩⟩⟩ ?_
  exact s1_unl σ r U R hr hM hW X rg hg hgs hgn hX hk15 (2 ^ rN R - 1) 1 (by omega) (by omega) τ hF (fun s hs => by rw [show s = 0 by omega, hJ2, hJ, uni_0]; rfl) (fun s hs => by rw [show s = 0 by omega, show pop 0 = 0 from by decide]; exact Nat.zero_le _) (fun k hk => by rw [hG k hk, hgM_1]; rfl)

