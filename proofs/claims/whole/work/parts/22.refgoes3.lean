/-! THE REFERENCE: tables, loads, rings, clauses; what is left of a range -/
def rowP (T : Tb) (R : RC) (X : Rg) (i v t q K : Nat) : Prop := ∀ k, k < K → if k = i then T.2 t (q * rN R + k) = v else (X (rO R k)).testBit (T.2 t (q * rN R + k)) = true
theorem rowP_s {T : Tb} {R : RC} {X : Rg} {i v t q K : Nat} : rowP T R X i v t q (K + 1) ↔ rowP T R X i v t q K ∧ (if K = i then T.2 t (q * rN R + K) = v else (X (rO R K)).testBit (T.2 t (q * rN R + K)) = true) := by
  constructor
  · intro z; exact ⟨fun k hk => z k (by omega), z K (by omega)⟩
  · rintro ⟨z1, z2⟩ k hk
    rcases Nat.lt_or_ge k K with z | z
    · exact z1 k z
    · rw [show k = K by omega]; exact z2
theorem gTab_iff {T : Tb} {R : RC} {X : Rg} {i v t : Nat} (ht : rS R = t) : gTab T R X i v ↔ ¬ ∃ q, (0 < rN R ∧ ((q + 1) * rN R : Nat) ≤ T.1 t) ∧ rowP T R X i v t q (rN R) := by
  unfold gTab rowOk rowP
  rw [show (rS R).toNat = t by omega]
noncomputable def nA (R : RC) (X : Rg) (i t n : Nat) : Int := sumI n (fun k => @ite Int (k ≠ i ∧ must (X (rO R k)) t (rA R k)) (Classical.propDecidable _) (rZ R k) 0)
theorem nA_t {R : RC} {X : Rg} {i t n : Nat} (h : n ≠ i) (h2 : must (X (rO R n)) t (rA R n)) : nA R X i t (n + 1) = nA R X i t n + rZ R n := by simp only [nA, sumI]; rw [if_pos ⟨h, h2⟩]
theorem nA_f {R : RC} {X : Rg} {i t n : Nat} (h : n = i ∨ ¬ must (X (rO R n)) t (rA R n)) : nA R X i t (n + 1) = nA R X i t n + 0 := by simp only [nA, sumI]; rw [if_neg (fun z => h.elim z.1 (fun q => q z.2))]
theorem nA_bd {R : RC} {X : Rg} {i t n : Nat} (hn : n ≤ 6) (h : ∀ k, k < n → 0 ≤ rZ R k ∧ rZ R k ≤ 20) : -120 ≤ nA R X i t n ∧ nA R X i t n ≤ 120 := by
  have := sumI_bd (n := n) (f := fun k => @ite Int (k ≠ i ∧ must (X (rO R k)) t (rA R k)) (Classical.propDecidable _) (rZ R k) 0) (b := 20) (fun k hk => by
    have := h k hk
    try dsimp only
    split <;> omega)
  unfold nA
  omega
theorem ring_no {R : RC} {X : Rg} {i v q : Nat} (hn : v < rN R) (hu : ¬ gUnl R X i v) (hne : ∀ j, j < q → pth R X v j ≠ i) (h : (pth R X v q = i ∧ rN R ≤ q + 1) ∨ (pth R X v q ≠ i ∧ (rN R < q + 1 ∨ ¬ (pop (X (rO R (pth R X v q))) = 1 ∧ pth R X v (q + 1) < rN R)))) : ¬ gRing R X i v := by
  rintro (z | z | ⟨j, h1, h2, h3⟩)
  · omega
  · exact hu z
  · rcases Nat.lt_trichotomy j q with hj | hj | hj
    · exact hne j hj h2
    · subst hj
      rcases h with ⟨_, h⟩ | ⟨h, _⟩
      · omega
      · exact h h2
    · rcases h with ⟨_, h⟩ | ⟨_, h | h⟩
      · omega
      · omega
      · exact h (h3 q hj)
def cF (R : RC) (X : Rg) (i v k : Nat) : Nat := if rO R k = rO R i then 2 ^ v else X (rO R k)
theorem goes_0 {T : Tb} {R : RC} {X : Rg} {i v : Nat} (h : rK R = 0) : goes T R X i v ↔ gSum R X i v := by unfold goes; rw [h]; exact Iff.rfl
theorem goes_1 {T : Tb} {R : RC} {X : Rg} {i v : Nat} (h : rK R = 1) : goes T R X i v ↔ gUnl R X i v := by unfold goes; rw [h]; exact Iff.rfl
theorem goes_2 {T : Tb} {R : RC} {X : Rg} {i v : Nat} (h : rK R = 2) : goes T R X i v ↔ gTab T R X i v := by unfold goes; rw [h]; exact Iff.rfl
theorem goes_3 {T : Tb} {R : RC} {X : Rg} {i v : Nat} (h : rK R = 3) : goes T R X i v ↔ gLoad R X i v := by unfold goes; rw [h]; exact Iff.rfl
theorem goes_4 {T : Tb} {R : RC} {X : Rg} {i v : Nat} (h : rK R = 4) : goes T R X i v ↔ gRing R X i v := by unfold goes; rw [h]; exact Iff.rfl
theorem goes_5 {T : Tb} {R : RC} {X : Rg} {i v : Nat} (h : rK R = 5) : goes T R X i v ↔ gCl R X i v := by unfold goes; rw [h]; exact Iff.rfl
/-- the numbers with a property, as a set -/
noncomputable def mkN (n : Nat) (P : Nat → Prop) : Nat := match n with
  | 0 => 0
  | n + 1 => mkN n P + @ite Nat (P n) (Classical.propDecidable _) (2 ^ n) 0
theorem mkN_lt (n : Nat) (P : Nat → Prop) : mkN n P < 2 ^ n := by
  induction n with
  | zero => exact Nat.one_pos
  | succ n ih => simp only [mkN]; rw [Nat.pow_succ]; split <;> omega
theorem mkN_tb (n : Nat) (P : Nat → Prop) (j : Nat) : (mkN n P).testBit j = true ↔ j < n ∧ P j := by
  induction n with
  | zero => simp [mkN]
  | succ n ih =>
    have hl := mkN_lt n P
    have hd : mkN (n + 1) P = 2 ^ n * (@ite Nat (P n) (Classical.propDecidable _) 1 0) + mkN n P := by
      simp only [mkN]
      by_cases h : P n
      · rw [if_pos h, if_pos h]; omega
      · rw [if_neg h, if_neg h]; omega
    rw [hd, Nat.testBit_two_pow_mul_add _ hl]
    by_cases hj : j < n
    · rw [if_pos hj, ih]; exact ⟨fun z => ⟨by omega, z.2⟩, fun z => ⟨hj, z.2⟩⟩
    · rw [if_neg hj]
      by_cases hP : P n
      · rw [if_pos hP]
        by_cases e : j = n
        · subst e; simp [hP]
        · constructor
          · intro z
            have : j - n = (j - n - 1) + 1 := by omega
            rw [this, Nat.testBit_succ] at z; simp at z
          · intro z; omega
      · rw [if_neg hP, Nat.zero_testBit]
        constructor
        · intro z; cases z
        · rintro ⟨z1, z2⟩; rw [show j = n by omega] at z2; exact absurd z2 hP
noncomputable abbrev mk (P : Nat → Prop) : Nat := mkN 16 P
theorem mk_lt (P : Nat → Prop) : mk P < 65536 := mkN_lt 16 P
theorem mk_eq {m : Nat} {P : Nat → Prop} (hm : m < 65536) (h : ∀ j, j < 16 → (m.testBit j = true ↔ P j)) : m = mk P := by
  apply sub_eq
  · intro j hj; have := tb_lt hm hj; exact (mkN_tb 16 P j).mpr ⟨this, (h j this).mp hj⟩
  · intro j hj; obtain ⟨h1, h2⟩ := (mkN_tb 16 P j).mp hj; exact (h j h1).mpr h2
theorem mk_congr {P Q : Nat → Prop} (h : ∀ j, j < 16 → (P j ↔ Q j)) : mk P = mk Q := mk_eq (mk_lt P) (fun j hj => by rw [mkN_tb]; exact ⟨fun z => (h j hj).mp z.2, fun z => ⟨hj, (h j hj).mpr z⟩⟩)
theorem sub_bit {m k : Nat} (h : m.testBit k = true) : m - 2 ^ k = andN m (2 ^ k) ∧ 2 ^ k ≤ m := by
  have h1 := Nat.ge_two_pow_of_testBit h
  refine ⟨?_, h1⟩
  have hd : m / 2 ^ k % 2 = 1 := by
    rw [Nat.testBit_eq_decide_div_mod_eq] at h
    simpa using h
  have hp : 0 < 2 ^ k := Nat.pow_pos (by decide)
  have hm := Nat.div_add_mod m (2 ^ k)
  have hb := Nat.mod_lt m hp
  obtain ⟨q, hq⟩ : ∃ q, m / 2 ^ k = 2 * q + 1 := ⟨m / 2 ^ k / 2, by omega⟩
  rw [hq] at hm
  generalize m % 2 ^ k = b at hm hb
  have e1 : m - 2 ^ k = 2 ^ k * (2 * q) + b := by
    rw [Nat.mul_add, Nat.mul_one] at hm
    omega
  apply Nat.eq_of_testBit_eq
  intro j
  rw [e1, andN_tb, Nat.testBit_two_pow, ← hm, Nat.testBit_two_pow_mul_add _ hb, Nat.testBit_two_pow_mul_add _ hb]
  by_cases hj : j < k
  · have : k ≠ j := by omega
    simp [hj, this]
  · rw [if_neg hj, if_neg hj]
    by_cases e : k = j
    · subst e; simp
    · have : j - k = (j - k - 1) + 1 := by omega
      rw [this, Nat.testBit_succ, Nat.testBit_succ, show 2 * q / 2 = q by omega, show (2 * q + 1) / 2 = q by omega]
      simp [e]
/-- what a rule leaves of a part's range -/
noncomputable def lft (T : Tb) (R : RC) (X : Rg) (i : Nat) : Nat := mk (fun j => (X (rO R i)).testBit j = true ∧ ¬ goes T R X i j)
noncomputable def lfK (T : Tb) (R : RC) (X : Rg) (i K : Nat) : Nat := mk (fun j => (X (rO R i)).testBit j = true ∧ ¬ (j < K ∧ goes T R X i j))
theorem lfK_0 {T : Tb} {R : RC} {X : Rg} {i : Nat} (h : X (rO R i) < 65536) : lfK T R X i 0 = X (rO R i) := (mk_eq h fun j _ => ⟨fun z => ⟨z, by omega⟩, fun z => z.1⟩).symm
theorem lfK_16 {T : Tb} {R : RC} {X : Rg} {i K : Nat} (h : 16 ≤ K) : lfK T R X i K = lft T R X i := mk_congr fun j hj => ⟨fun z => ⟨z.1, fun q => z.2 ⟨by omega, q⟩⟩, fun z => ⟨z.1, fun q => z.2 q.2⟩⟩
theorem lfK_n {T : Tb} {R : RC} {X : Rg} {i K : Nat} (h : ¬ ((X (rO R i)).testBit K = true ∧ goes T R X i K)) : lfK T R X i (K + 1) = lfK T R X i K := mk_congr fun j _ => by
  constructor
  · exact fun z => ⟨z.1, fun q => z.2 ⟨by omega, q.2⟩⟩
  · intro z
    refine ⟨z.1, fun q => ?_⟩
    rcases Nat.lt_or_ge j K with e | e
    · exact z.2 ⟨e, q.2⟩
    · have : j = K := by omega
      subst this
      exact h ⟨z.1, q.2⟩
theorem lfK_y {T : Tb} {R : RC} {X : Rg} {i K : Nat} (hK : K < 16) (h : (X (rO R i)).testBit K = true) (h2 : goes T R X i K) : lfK T R X i (K + 1) = lfK T R X i K - 2 ^ K ∧ 2 ^ K ≤ lfK T R X i K := by
  have hb : (lfK T R X i K).testBit K = true := (mkN_tb 16 _ K).mpr ⟨hK, h, by omega⟩
  obtain ⟨e1, e2⟩ := sub_bit hb
  refine ⟨?_, e2⟩
  rw [e1]
  refine (mk_eq (m := andN (lfK T R X i K) (2 ^ K)) (andN_lt (mk_lt _)) fun j hj => ?_).symm
  rw [andN_tb, Nat.testBit_two_pow, Bool.and_eq_true]
  rw [show (lfK T R X i K).testBit j = true ↔ (j < 16 ∧ (X (rO R i)).testBit j = true ∧ ¬ (j < K ∧ goes T R X i j)) from mkN_tb 16 _ j]
  constructor
  · rintro ⟨⟨_, z1, z2⟩, z3⟩
    have : K ≠ j := by simpa using z3
    exact ⟨z1, fun q => z2 ⟨by omega, q.2⟩⟩
  · rintro ⟨z1, z2⟩
    have : K ≠ j := fun e => by subst e; exact z2 ⟨by omega, h2⟩
    exact ⟨⟨hj, z1, fun q => z2 ⟨by omega, q.2⟩⟩, by simpa using this⟩
set_option maxRecDepth 100000 in
set_option maxHeartbeats 4000000 in
theorem sM_tab_in {g : GC} (σ : Sg) (r U : Nat) (R : RC) (X : Rg) (hr : r < 16) (hM : MR σ r R) (hW : WR U R) (hX : AV σ 294 U X) (i v : Nat) (hi : i < rN R) (hv : v < 16) (T : Tb) (hT : TVm σ T) (hk2 : rK R = 2) (q : Nat) (hq : ((q + 1) * rN R : Nat) ≤ T.1 (rS R).toNat) (t : Nat) (ht : rS R = t) {Post : Option PV → Mem → Prop} : ∀ j K : Nat, K + j = rN R → Ev g mX8_goesByTable 124 [some (vR (272)), some (vI (((r : Nat) : Int))), some (vI (((i : Nat) : Int))), some (vI (((v : Nat) : Int))), some (vI (((t : Nat) : Int))), some (vI (((rN R : Nat) : Int))), some (vI (((q * rN R : Nat) : Int))), some (vI (bI (rowP T R X i v t q (rN R)))), none, none] [] (M0 (σ)) 0 0 Post → Ev g mX8_goesByTable 50 [some (vR (272)), some (vI (((r : Nat) : Int))), some (vI (((i : Nat) : Int))), some (vI (((v : Nat) : Int))), some (vI (((t : Nat) : Int))), some (vI (((rN R : Nat) : Int))), some (vI (((q * rN R : Nat) : Int))), some (vI (bI (rowP T R X i v t q K))), some (vI (((K : Nat) : Int))), none] [] (M0 (σ)) 0 0 (Post) := by
  intro j
  induction j with
  | zero =>
    intro K hij kk
    obtain ⟨hK, hS, hB, hN, hP⟩ := id hM
    obtain ⟨⟨hk5, hn6, hU⟩, hO, -⟩ := id hW
    have hXR : ∀ k, k < rN R → X (rO R k) ≠ 0 ∧ X (rO R k) < 65536 := fun k hk => (hX _ (hO k hk)).2
    have hp16 := pow_le16 hv
    obtain ⟨ht0, ht6⟩ := hW.2.2.2.1 hk2
    obtain ⟨hz, hzb, hcell⟩ := hT t (by omega)
    have hq1 : (q + 1) * rN R = q * rN R + rN R := Nat.succ_mul _ _
    rw [show (rS R).toNat = t by omega] at hq
    refine Ev.iload dX8_goesByTable_50 rfl ?_
    refine Ev.iload dX8_goesByTable_52 rfl ?_
    refine Ev.icmp_ge (tgt := 124) ⟨by omega, by omega⟩ ⟨by omega, by omega⟩ dX8_goesByTable_54 (by decide) (fun h54 => ?_) (fun h54 => ?_)
    · skip
      refine Ev.wk (pl' := [some (vR (272)), some (vI (((r : Nat) : Int))), some (vI (((i : Nat) : Int))), some (vI (((v : Nat) : Int))), some (vI (((t : Nat) : Int))), some (vI (((rN R : Nat) : Int))), some (vI (((q * rN R : Nat) : Int))), some (vI (bI (rowP T R X i v t q (rN R)))), none, none]) ⟨rfl, ⟨rfl, ⟨rfl, ⟨rfl, ⟨rfl, ⟨rfl, ⟨rfl, ⟨vIe (by rw [show K = rN R by omega]), trivial⟩⟩⟩⟩⟩⟩⟩⟩ ?_
      exact kk
    · exact absurd h54 (by omega)
  | succ j ih =>
    intro K hij kk
    obtain ⟨hK, hS, hB, hN, hP⟩ := id hM
    obtain ⟨⟨hk5, hn6, hU⟩, hO, -⟩ := id hW
    have hXR : ∀ k, k < rN R → X (rO R k) ≠ 0 ∧ X (rO R k) < 65536 := fun k hk => (hX _ (hO k hk)).2
    have hp16 := pow_le16 hv
    obtain ⟨ht0, ht6⟩ := hW.2.2.2.1 hk2
    obtain ⟨hz, hzb, hcell⟩ := hT t (by omega)
    have hq1 : (q + 1) * rN R = q * rN R + rN R := Nat.succ_mul _ _
    rw [show (rS R).toNat = t by omega] at hq
    have hc16 := (hcell (q * rN R + K) (by omega)).2
    have hxk := hXR K (by omega)
    refine Ev.iload dX8_goesByTable_50 rfl ?_
    refine Ev.iload dX8_goesByTable_52 rfl ?_
    refine Ev.icmp_ge (tgt := 124) ⟨by omega, by omega⟩ ⟨by omega, by omega⟩ dX8_goesByTable_54 (by decide) (fun h54 => ?_) (fun h54 => ?_)
    · exact absurd h54 (by omega)
    · skip
      refine Ev.aload_n dX8_goesByTable_57 rfl rfl ?_
      refine gf_X8_53 rfl dX8_goesByTable_58 ltc_272 shc_272 rfc_272_18 ?_
      refine Ev.bipush (n := 48) (by decide) dX8_goesByTable_61 ?_
      refine Ev.iload dX8_goesByTable_63 rfl ?_
      refine Ev.imul dX8_goesByTable_65 ?_
      refine Ev.iload dX8_goesByTable_66 rfl ?_
      refine Ev.iadd dX8_goesByTable_68 ?_
      refine Ev.iload dX8_goesByTable_69 rfl ?_
      refine Ev.iadd dX8_goesByTable_71 ?_
      refine Ev.iaload (v := ((T.2 t (q * rN R + K) : Nat) : Int)) dX8_goesByTable_72 ltc_287 shc_287 (by decide) (by omega) (by omega) (ldx (n := 48 * t + (q * rN R + K)) (by omega) (hcell _ (by omega)).1) ?_
      refine Ev.istore (pl' := [some (vR (272)), some (vI (((r : Nat) : Int))), some (vI (((i : Nat) : Int))), some (vI (((v : Nat) : Int))), some (vI (((t : Nat) : Int))), some (vI (((rN R : Nat) : Int))), some (vI (((q * rN R : Nat) : Int))), some (vI (bI (rowP T R X i v t q K))), some (vI (((K : Nat) : Int))), some (vI (((T.2 t (q * rN R + K) : Nat) : Int)))]) dX8_goesByTable_73 (Nat.le_of_ble_eq_true rfl) rfl ?_
      refine Ev.iload dX8_goesByTable_75 rfl ?_
      refine Ev.if_eq (tgt := 115) bI_inR dX8_goesByTable_77 (by decide) (fun h77 => ?_) (fun h77 => ?_)
      · skip
        refine Ev.iconst dX8_goesByTable_115 ?_
        refine Ev.istore (pl' := [some (vR (272)), some (vI (((r : Nat) : Int))), some (vI (((i : Nat) : Int))), some (vI (((v : Nat) : Int))), some (vI (((t : Nat) : Int))), some (vI (((rN R : Nat) : Int))), some (vI (((q * rN R : Nat) : Int))), some (vI (0)), some (vI (((K : Nat) : Int))), some (vI (((T.2 t (q * rN R + K) : Nat) : Int)))]) dX8_goesByTable_116 (Nat.le_of_ble_eq_true rfl) rfl ?_
        refine Ev.iinc (pl' := [some (vR (272)), some (vI (((r : Nat) : Int))), some (vI (((i : Nat) : Int))), some (vI (((v : Nat) : Int))), some (vI (((t : Nat) : Int))), some (vI (((rN R : Nat) : Int))), some (vI (((q * rN R : Nat) : Int))), some (vI (0)), some (vI (((K : Nat) : Int) + 1)), some (vI (((T.2 t (q * rN R + K) : Nat) : Int)))]) dX8_goesByTable_118 rfl (Nat.le_of_ble_eq_true rfl) rfl ?_
        refine Ev.goto (tgt := 50) dX8_goesByTable_121 (by decide) ?_
        refine Ev.wk (pl' := [some (vR (272)), some (vI (((r : Nat) : Int))), some (vI (((i : Nat) : Int))), some (vI (((v : Nat) : Int))), some (vI (((t : Nat) : Int))), some (vI (((rN R : Nat) : Int))), some (vI (((q * rN R : Nat) : Int))), some (vI (bI (rowP T R X i v t q (K + 1)))), some (vI ((((K + 1) : Nat) : Int))), none]) ⟨rfl, ⟨rfl, ⟨rfl, ⟨rfl, ⟨rfl, ⟨rfl, ⟨rfl, ⟨vIe (by first
          | exact bI_t (rowP_s.mpr ⟨bI_1.mp (by assumption), by rw [if_pos (by omega)]; omega⟩)
          | exact bI_t (rowP_s.mpr ⟨bI_1.mp (by assumption), by rw [if_neg (by omega)]; exact b2_1.mp (by assumption)⟩)
          | exact bI_f (fun z => absurd (rowP_s.mp z).1 (bI_0.mp (by assumption)))
          | exact bI_f (fun z => by have z2 := (rowP_s.mp z).2; rw [if_pos (by omega)] at z2; omega)
          | exact bI_f (fun z => by have z2 := (rowP_s.mp z).2; rw [if_neg (by omega)] at z2; exact absurd (b2_1.mpr z2) (by assumption))), ⟨vIe (by omega), trivial⟩⟩⟩⟩⟩⟩⟩⟩⟩ ?_
        exact ih (K + 1) (by omega) kk
      · skip
        refine Ev.iload dX8_goesByTable_80 rfl ?_
        refine Ev.iload_n dX8_goesByTable_82 rfl rfl ?_
        refine Ev.icmp_ne (tgt := 95) ⟨by omega, by omega⟩ ⟨by omega, by omega⟩ dX8_goesByTable_83 (by decide) (fun h83 => ?_) (fun h83 => ?_)
        · skip
          refine Ev.aload_n dX8_goesByTable_95 rfl rfl ?_
          refine Ev.iload_n dX8_goesByTable_96 rfl rfl ?_
          refine Ev.iload dX8_goesByTable_97 rfl ?_
          refine Ev.callV_I (M2 := mX8_asideOf) (args2 := [vI (((r : Nat) : Int)), vI (((K : Nat) : Int))]) (rcv := 272) (q := (RX8, TX8, 34)) (ci := 8) dX8_goesByTable_99 okX8_asideOf lk_X8_155 ovX8_asideOf.1.1 ovX8_asideOf.1.2 ovX8_asideOf.2 (by decide) rfl rfl ltc_272 shc_272 rfl (Nat.le_of_ble_eq_true rfl) (Nat.le_of_ble_eq_true rfl) (sM_asideOf σ r U R X hr hM hW hX K (by omega)) ?_ rfl
          refine Ev.iload dX8_goesByTable_102 rfl ?_
          refine Ev.ishr dX8_goesByTable_104 ?_
          refine Ev.iconst dX8_goesByTable_105 ?_
          refine Ev.iand dX8_goesByTable_106 ?_
          rw [show (iAnd ((iShr (((X (rO R K) : Nat) : Int)) (((T.2 t (q * rN R + K) : Nat) : Int)))) (1)) = (((b2 (Nat.testBit (X (rO R K)) (T.2 t (q * rN R + K)))) : Nat) : Int) from bit_nat (by omega) (by omega)]
          refine Ev.iconst dX8_goesByTable_107 ?_
          refine Ev.icmp_ne (tgt := 115) b2_inR ⟨by decide, by decide⟩ dX8_goesByTable_108 (by decide) (fun h108 => ?_) (fun h108 => ?_)
          · skip
            refine Ev.iconst dX8_goesByTable_115 ?_
            refine Ev.istore (pl' := [some (vR (272)), some (vI (((r : Nat) : Int))), some (vI (((i : Nat) : Int))), some (vI (((v : Nat) : Int))), some (vI (((t : Nat) : Int))), some (vI (((rN R : Nat) : Int))), some (vI (((q * rN R : Nat) : Int))), some (vI (0)), some (vI (((K : Nat) : Int))), some (vI (((T.2 t (q * rN R + K) : Nat) : Int)))]) dX8_goesByTable_116 (Nat.le_of_ble_eq_true rfl) rfl ?_
            refine Ev.iinc (pl' := [some (vR (272)), some (vI (((r : Nat) : Int))), some (vI (((i : Nat) : Int))), some (vI (((v : Nat) : Int))), some (vI (((t : Nat) : Int))), some (vI (((rN R : Nat) : Int))), some (vI (((q * rN R : Nat) : Int))), some (vI (0)), some (vI (((K : Nat) : Int) + 1)), some (vI (((T.2 t (q * rN R + K) : Nat) : Int)))]) dX8_goesByTable_118 rfl (Nat.le_of_ble_eq_true rfl) rfl ?_
            refine Ev.goto (tgt := 50) dX8_goesByTable_121 (by decide) ?_
            refine Ev.wk (pl' := [some (vR (272)), some (vI (((r : Nat) : Int))), some (vI (((i : Nat) : Int))), some (vI (((v : Nat) : Int))), some (vI (((t : Nat) : Int))), some (vI (((rN R : Nat) : Int))), some (vI (((q * rN R : Nat) : Int))), some (vI (bI (rowP T R X i v t q (K + 1)))), some (vI ((((K + 1) : Nat) : Int))), none]) ⟨rfl, ⟨rfl, ⟨rfl, ⟨rfl, ⟨rfl, ⟨rfl, ⟨rfl, ⟨vIe (by first
          | exact bI_t (rowP_s.mpr ⟨bI_1.mp (by assumption), by rw [if_pos (by omega)]; omega⟩)
          | exact bI_t (rowP_s.mpr ⟨bI_1.mp (by assumption), by rw [if_neg (by omega)]; exact b2_1.mp (by assumption)⟩)
          | exact bI_f (fun z => absurd (rowP_s.mp z).1 (bI_0.mp (by assumption)))
          | exact bI_f (fun z => by have z2 := (rowP_s.mp z).2; rw [if_pos (by omega)] at z2; omega)
          | exact bI_f (fun z => by have z2 := (rowP_s.mp z).2; rw [if_neg (by omega)] at z2; exact absurd (b2_1.mpr z2) (by assumption))), ⟨vIe (by omega), trivial⟩⟩⟩⟩⟩⟩⟩⟩⟩ ?_
            exact ih (K + 1) (by omega) kk
          · skip
            refine Ev.iconst dX8_goesByTable_111 ?_
            refine Ev.goto (tgt := 116) dX8_goesByTable_112 (by decide) ?_
            refine Ev.istore (pl' := [some (vR (272)), some (vI (((r : Nat) : Int))), some (vI (((i : Nat) : Int))), some (vI (((v : Nat) : Int))), some (vI (((t : Nat) : Int))), some (vI (((rN R : Nat) : Int))), some (vI (((q * rN R : Nat) : Int))), some (vI (1)), some (vI (((K : Nat) : Int))), some (vI (((T.2 t (q * rN R + K) : Nat) : Int)))]) dX8_goesByTable_116 (Nat.le_of_ble_eq_true rfl) rfl ?_
            refine Ev.iinc (pl' := [some (vR (272)), some (vI (((r : Nat) : Int))), some (vI (((i : Nat) : Int))), some (vI (((v : Nat) : Int))), some (vI (((t : Nat) : Int))), some (vI (((rN R : Nat) : Int))), some (vI (((q * rN R : Nat) : Int))), some (vI (1)), some (vI (((K : Nat) : Int) + 1)), some (vI (((T.2 t (q * rN R + K) : Nat) : Int)))]) dX8_goesByTable_118 rfl (Nat.le_of_ble_eq_true rfl) rfl ?_
            refine Ev.goto (tgt := 50) dX8_goesByTable_121 (by decide) ?_
            refine Ev.wk (pl' := [some (vR (272)), some (vI (((r : Nat) : Int))), some (vI (((i : Nat) : Int))), some (vI (((v : Nat) : Int))), some (vI (((t : Nat) : Int))), some (vI (((rN R : Nat) : Int))), some (vI (((q * rN R : Nat) : Int))), some (vI (bI (rowP T R X i v t q (K + 1)))), some (vI ((((K + 1) : Nat) : Int))), none]) ⟨rfl, ⟨rfl, ⟨rfl, ⟨rfl, ⟨rfl, ⟨rfl, ⟨rfl, ⟨vIe (by first
          | exact bI_t (rowP_s.mpr ⟨bI_1.mp (by assumption), by rw [if_pos (by omega)]; omega⟩)
          | exact bI_t (rowP_s.mpr ⟨bI_1.mp (by assumption), by rw [if_neg (by omega)]; exact b2_1.mp (by assumption)⟩)
          | exact bI_f (fun z => absurd (rowP_s.mp z).1 (bI_0.mp (by assumption)))
          | exact bI_f (fun z => by have z2 := (rowP_s.mp z).2; rw [if_pos (by omega)] at z2; omega)
          | exact bI_f (fun z => by have z2 := (rowP_s.mp z).2; rw [if_neg (by omega)] at z2; exact absurd (b2_1.mpr z2) (by assumption))), ⟨vIe (by omega), trivial⟩⟩⟩⟩⟩⟩⟩⟩⟩ ?_
            exact ih (K + 1) (by omega) kk
        · skip
          refine Ev.iload dX8_goesByTable_86 rfl ?_
          refine Ev.iload_n dX8_goesByTable_88 rfl rfl ?_
          refine Ev.icmp_ne (tgt := 115) ⟨by omega, by omega⟩ ⟨by omega, by omega⟩ dX8_goesByTable_89 (by decide) (fun h89 => ?_) (fun h89 => ?_)
          · skip
            refine Ev.iconst dX8_goesByTable_115 ?_
            refine Ev.istore (pl' := [some (vR (272)), some (vI (((r : Nat) : Int))), some (vI (((i : Nat) : Int))), some (vI (((v : Nat) : Int))), some (vI (((t : Nat) : Int))), some (vI (((rN R : Nat) : Int))), some (vI (((q * rN R : Nat) : Int))), some (vI (0)), some (vI (((K : Nat) : Int))), some (vI (((T.2 t (q * rN R + K) : Nat) : Int)))]) dX8_goesByTable_116 (Nat.le_of_ble_eq_true rfl) rfl ?_
            refine Ev.iinc (pl' := [some (vR (272)), some (vI (((r : Nat) : Int))), some (vI (((i : Nat) : Int))), some (vI (((v : Nat) : Int))), some (vI (((t : Nat) : Int))), some (vI (((rN R : Nat) : Int))), some (vI (((q * rN R : Nat) : Int))), some (vI (0)), some (vI (((K : Nat) : Int) + 1)), some (vI (((T.2 t (q * rN R + K) : Nat) : Int)))]) dX8_goesByTable_118 rfl (Nat.le_of_ble_eq_true rfl) rfl ?_
            refine Ev.goto (tgt := 50) dX8_goesByTable_121 (by decide) ?_
            refine Ev.wk (pl' := [some (vR (272)), some (vI (((r : Nat) : Int))), some (vI (((i : Nat) : Int))), some (vI (((v : Nat) : Int))), some (vI (((t : Nat) : Int))), some (vI (((rN R : Nat) : Int))), some (vI (((q * rN R : Nat) : Int))), some (vI (bI (rowP T R X i v t q (K + 1)))), some (vI ((((K + 1) : Nat) : Int))), none]) ⟨rfl, ⟨rfl, ⟨rfl, ⟨rfl, ⟨rfl, ⟨rfl, ⟨rfl, ⟨vIe (by first
          | exact bI_t (rowP_s.mpr ⟨bI_1.mp (by assumption), by rw [if_pos (by omega)]; omega⟩)
          | exact bI_t (rowP_s.mpr ⟨bI_1.mp (by assumption), by rw [if_neg (by omega)]; exact b2_1.mp (by assumption)⟩)
          | exact bI_f (fun z => absurd (rowP_s.mp z).1 (bI_0.mp (by assumption)))
          | exact bI_f (fun z => by have z2 := (rowP_s.mp z).2; rw [if_pos (by omega)] at z2; omega)
          | exact bI_f (fun z => by have z2 := (rowP_s.mp z).2; rw [if_neg (by omega)] at z2; exact absurd (b2_1.mpr z2) (by assumption))), ⟨vIe (by omega), trivial⟩⟩⟩⟩⟩⟩⟩⟩⟩ ?_
            exact ih (K + 1) (by omega) kk
          · skip
            refine Ev.goto (tgt := 111) dX8_goesByTable_92 (by decide) ?_
            refine Ev.iconst dX8_goesByTable_111 ?_
            refine Ev.goto (tgt := 116) dX8_goesByTable_112 (by decide) ?_
            refine Ev.istore (pl' := [some (vR (272)), some (vI (((r : Nat) : Int))), some (vI (((i : Nat) : Int))), some (vI (((v : Nat) : Int))), some (vI (((t : Nat) : Int))), some (vI (((rN R : Nat) : Int))), some (vI (((q * rN R : Nat) : Int))), some (vI (1)), some (vI (((K : Nat) : Int))), some (vI (((T.2 t (q * rN R + K) : Nat) : Int)))]) dX8_goesByTable_116 (Nat.le_of_ble_eq_true rfl) rfl ?_
            refine Ev.iinc (pl' := [some (vR (272)), some (vI (((r : Nat) : Int))), some (vI (((i : Nat) : Int))), some (vI (((v : Nat) : Int))), some (vI (((t : Nat) : Int))), some (vI (((rN R : Nat) : Int))), some (vI (((q * rN R : Nat) : Int))), some (vI (1)), some (vI (((K : Nat) : Int) + 1)), some (vI (((T.2 t (q * rN R + K) : Nat) : Int)))]) dX8_goesByTable_118 rfl (Nat.le_of_ble_eq_true rfl) rfl ?_
            refine Ev.goto (tgt := 50) dX8_goesByTable_121 (by decide) ?_
            refine Ev.wk (pl' := [some (vR (272)), some (vI (((r : Nat) : Int))), some (vI (((i : Nat) : Int))), some (vI (((v : Nat) : Int))), some (vI (((t : Nat) : Int))), some (vI (((rN R : Nat) : Int))), some (vI (((q * rN R : Nat) : Int))), some (vI (bI (rowP T R X i v t q (K + 1)))), some (vI ((((K + 1) : Nat) : Int))), none]) ⟨rfl, ⟨rfl, ⟨rfl, ⟨rfl, ⟨rfl, ⟨rfl, ⟨rfl, ⟨vIe (by first
          | exact bI_t (rowP_s.mpr ⟨bI_1.mp (by assumption), by rw [if_pos (by omega)]; omega⟩)
          | exact bI_t (rowP_s.mpr ⟨bI_1.mp (by assumption), by rw [if_neg (by omega)]; exact b2_1.mp (by assumption)⟩)
          | exact bI_f (fun z => absurd (rowP_s.mp z).1 (bI_0.mp (by assumption)))
          | exact bI_f (fun z => by have z2 := (rowP_s.mp z).2; rw [if_pos (by omega)] at z2; omega)
          | exact bI_f (fun z => by have z2 := (rowP_s.mp z).2; rw [if_neg (by omega)] at z2; exact absurd (b2_1.mpr z2) (by assumption))), ⟨vIe (by omega), trivial⟩⟩⟩⟩⟩⟩⟩⟩⟩ ?_
            exact ih (K + 1) (by omega) kk

set_option maxRecDepth 100000 in
set_option maxHeartbeats 4000000 in
theorem sM_tab {g : GC} (σ : Sg) (r U : Nat) (R : RC) (X : Rg) (hr : r < 16) (hM : MR σ r R) (hW : WR U R) (hX : AV σ 294 U X) (i v : Nat) (hi : i < rN R) (hv : v < 16) (T : Tb) (hT : TVm σ T) (hk2 : rK R = 2) (t : Nat) (ht : rS R = t) : ∀ j q : Nat, q + j = 49 → (∀ p, p < q → ¬ (((p + 1) * rN R : Nat) ≤ T.1 t ∧ rowP T R X i v t p (rN R))) → Ev g mX8_goesByTable 19 [some (vR (272)), some (vI (((r : Nat) : Int))), some (vI (((i : Nat) : Int))), some (vI (((v : Nat) : Int))), some (vI (((t : Nat) : Int))), some (vI (((rN R : Nat) : Int))), some (vI (((q * rN R : Nat) : Int))), none, none, none] [] (M0 (σ)) 0 0 (retI (bI (gTab T R X i v)) σ) := by
  intro j
  induction j with
  | zero =>
    intro q hij hno
    obtain ⟨hK, hS, hB, hN, hP⟩ := id hM
    obtain ⟨⟨hk5, hn6, hU⟩, hO, -⟩ := id hW
    have hXR : ∀ k, k < rN R → X (rO R k) ≠ 0 ∧ X (rO R k) < 65536 := fun k hk => (hX _ (hO k hk)).2
    have hp16 := pow_le16 hv
    obtain ⟨ht0, ht6⟩ := hW.2.2.2.1 hk2
    obtain ⟨hz, hzb, hcell⟩ := hT t (by omega)
    have hq1 : (q + 1) * rN R = q * rN R + rN R := Nat.succ_mul _ _
    have hqn : q ≤ q * rN R := Nat.le_mul_of_pos_right q (by omega)
    have hqb : q * rN R ≤ 49 * 6 := Nat.mul_le_mul (by omega) hn6
    refine Ev.aload_n dX8_goesByTable_19 rfl rfl ?_
    refine gf_X8_50 rfl dX8_goesByTable_20 ltc_272 shc_272 rfc_272_17 ?_
    refine Ev.iload dX8_goesByTable_23 rfl ?_
    refine Ev.iaload (v := T.1 t) dX8_goesByTable_25 ltc_286 shc_286 (by decide) (by omega) (by omega) (ldx (by omega) hz) ?_
    refine Ev.if_lt (tgt := 141) ⟨by omega, by omega⟩ dX8_goesByTable_26 (by decide) (fun h26 => ?_) (fun h26 => ?_)
    · skip
      refine Ev.iconst dX8_goesByTable_141 ?_
      exact Ev.zreturn dX8_goesByTable_142 rfl (Or.inr rfl) (rI (bI_t ((gTab_iff ht).mpr (fun ⟨p, ⟨z1, z2⟩, z3⟩ => (Nat.lt_or_ge p q).elim (fun e => hno p e ⟨z2, z3⟩) (fun e => by have e2 := Nat.mul_le_mul_right (rN R) (show q + 1 ≤ p + 1 by omega); omega)))) rfl)
    · skip
      refine Ev.iload dX8_goesByTable_29 rfl ?_
      refine Ev.iload dX8_goesByTable_31 rfl ?_
      refine Ev.iadd dX8_goesByTable_33 ?_
      refine Ev.aload_n dX8_goesByTable_34 rfl rfl ?_
      refine gf_X8_50 rfl dX8_goesByTable_35 ltc_272 shc_272 rfc_272_17 ?_
      refine Ev.iload dX8_goesByTable_38 rfl ?_
      refine Ev.iaload (v := T.1 t) dX8_goesByTable_40 ltc_286 shc_286 (by decide) (by omega) (by omega) (ldx (by omega) hz) ?_
      refine Ev.icmp_gt (tgt := 141) ⟨by omega, by omega⟩ ⟨by omega, by omega⟩ dX8_goesByTable_41 (by decide) (fun h41 => ?_) (fun h41 => ?_)
      · skip
        refine Ev.iconst dX8_goesByTable_141 ?_
        exact Ev.zreturn dX8_goesByTable_142 rfl (Or.inr rfl) (rI (bI_t ((gTab_iff ht).mpr (fun ⟨p, ⟨z1, z2⟩, z3⟩ => (Nat.lt_or_ge p q).elim (fun e => hno p e ⟨z2, z3⟩) (fun e => by have e2 := Nat.mul_le_mul_right (rN R) (show q + 1 ≤ p + 1 by omega); omega)))) rfl)
      · exact absurd h41 (by omega)
  | succ j ih =>
    intro q hij hno
    obtain ⟨hK, hS, hB, hN, hP⟩ := id hM
    obtain ⟨⟨hk5, hn6, hU⟩, hO, -⟩ := id hW
    have hXR : ∀ k, k < rN R → X (rO R k) ≠ 0 ∧ X (rO R k) < 65536 := fun k hk => (hX _ (hO k hk)).2
    have hp16 := pow_le16 hv
    obtain ⟨ht0, ht6⟩ := hW.2.2.2.1 hk2
    obtain ⟨hz, hzb, hcell⟩ := hT t (by omega)
    have hq1 : (q + 1) * rN R = q * rN R + rN R := Nat.succ_mul _ _
    have hqn : q ≤ q * rN R := Nat.le_mul_of_pos_right q (by omega)
    have hqb : q * rN R ≤ 49 * 6 := Nat.mul_le_mul (by omega) hn6
    refine Ev.aload_n dX8_goesByTable_19 rfl rfl ?_
    refine gf_X8_50 rfl dX8_goesByTable_20 ltc_272 shc_272 rfc_272_17 ?_
    refine Ev.iload dX8_goesByTable_23 rfl ?_
    refine Ev.iaload (v := T.1 t) dX8_goesByTable_25 ltc_286 shc_286 (by decide) (by omega) (by omega) (ldx (by omega) hz) ?_
    refine Ev.if_lt (tgt := 141) ⟨by omega, by omega⟩ dX8_goesByTable_26 (by decide) (fun h26 => ?_) (fun h26 => ?_)
    · skip
      refine Ev.iconst dX8_goesByTable_141 ?_
      exact Ev.zreturn dX8_goesByTable_142 rfl (Or.inr rfl) (rI (bI_t ((gTab_iff ht).mpr (fun ⟨p, ⟨z1, z2⟩, z3⟩ => (Nat.lt_or_ge p q).elim (fun e => hno p e ⟨z2, z3⟩) (fun e => by have e2 := Nat.mul_le_mul_right (rN R) (show q + 1 ≤ p + 1 by omega); omega)))) rfl)
    · skip
      refine Ev.iload dX8_goesByTable_29 rfl ?_
      refine Ev.iload dX8_goesByTable_31 rfl ?_
      refine Ev.iadd dX8_goesByTable_33 ?_
      refine Ev.aload_n dX8_goesByTable_34 rfl rfl ?_
      refine gf_X8_50 rfl dX8_goesByTable_35 ltc_272 shc_272 rfc_272_17 ?_
      refine Ev.iload dX8_goesByTable_38 rfl ?_
      refine Ev.iaload (v := T.1 t) dX8_goesByTable_40 ltc_286 shc_286 (by decide) (by omega) (by omega) (ldx (by omega) hz) ?_
      refine Ev.icmp_gt (tgt := 141) ⟨by omega, by omega⟩ ⟨by omega, by omega⟩ dX8_goesByTable_41 (by decide) (fun h41 => ?_) (fun h41 => ?_)
      · skip
        refine Ev.iconst dX8_goesByTable_141 ?_
        exact Ev.zreturn dX8_goesByTable_142 rfl (Or.inr rfl) (rI (bI_t ((gTab_iff ht).mpr (fun ⟨p, ⟨z1, z2⟩, z3⟩ => (Nat.lt_or_ge p q).elim (fun e => hno p e ⟨z2, z3⟩) (fun e => by have e2 := Nat.mul_le_mul_right (rN R) (show q + 1 ≤ p + 1 by omega); omega)))) rfl)
      · skip
        refine Ev.iconst dX8_goesByTable_44 ?_
        refine Ev.istore (pl' := [some (vR (272)), some (vI (((r : Nat) : Int))), some (vI (((i : Nat) : Int))), some (vI (((v : Nat) : Int))), some (vI (((t : Nat) : Int))), some (vI (((rN R : Nat) : Int))), some (vI (((q * rN R : Nat) : Int))), some (vI (1)), none, none]) dX8_goesByTable_45 (Nat.le_of_ble_eq_true rfl) rfl ?_
        refine Ev.iconst dX8_goesByTable_47 ?_
        refine Ev.istore (pl' := [some (vR (272)), some (vI (((r : Nat) : Int))), some (vI (((i : Nat) : Int))), some (vI (((v : Nat) : Int))), some (vI (((t : Nat) : Int))), some (vI (((rN R : Nat) : Int))), some (vI (((q * rN R : Nat) : Int))), some (vI (1)), some (vI (0)), none]) dX8_goesByTable_48 (Nat.le_of_ble_eq_true rfl) rfl ?_
        refine Ev.wk (pl' := [some (vR (272)), some (vI (((r : Nat) : Int))), some (vI (((i : Nat) : Int))), some (vI (((v : Nat) : Int))), some (vI (((t : Nat) : Int))), some (vI (((rN R : Nat) : Int))), some (vI (((q * rN R : Nat) : Int))), some (vI (bI (rowP T R X i v t q 0))), some (vI (((0 : Nat) : Int))), none]) ⟨rfl, ⟨rfl, ⟨rfl, ⟨rfl, ⟨rfl, ⟨rfl, ⟨rfl, ⟨vIe (bI_t (fun k hk => absurd hk (by omega))), ⟨vIe rfl, trivial⟩⟩⟩⟩⟩⟩⟩⟩⟩ ?_
        refine sM_tab_in σ r U R X hr hM hW hX i v hi hv T hT hk2 q (by rw [show (rS R).toNat = t by omega]; omega) t ht (rN R) 0 (by omega) ?_
        refine Ev.iload dX8_goesByTable_124 rfl ?_
        refine Ev.if_eq (tgt := 131) bI_inR dX8_goesByTable_126 (by decide) (fun h126 => ?_) (fun h126 => ?_)
        · skip
          refine Ev.iload dX8_goesByTable_131 rfl ?_
          refine Ev.iload dX8_goesByTable_133 rfl ?_
          refine Ev.iadd dX8_goesByTable_135 ?_
          refine Ev.istore (pl' := [some (vR (272)), some (vI (((r : Nat) : Int))), some (vI (((i : Nat) : Int))), some (vI (((v : Nat) : Int))), some (vI (((t : Nat) : Int))), some (vI (((rN R : Nat) : Int))), some (vI ((((q * rN R : Nat) : Int) + ((rN R : Nat) : Int)))), some (vI (bI (rowP T R X i v t q (rN R)))), none, none]) dX8_goesByTable_136 (Nat.le_of_ble_eq_true rfl) rfl ?_
          refine Ev.goto (tgt := 19) dX8_goesByTable_138 (by decide) ?_
          refine Ev.wk (pl' := [some (vR (272)), some (vI (((r : Nat) : Int))), some (vI (((i : Nat) : Int))), some (vI (((v : Nat) : Int))), some (vI (((t : Nat) : Int))), some (vI (((rN R : Nat) : Int))), some (vI ((((q + 1) * rN R : Nat) : Int))), none, none, none]) ⟨rfl, ⟨rfl, ⟨rfl, ⟨rfl, ⟨rfl, ⟨rfl, ⟨vIe (by omega), trivial⟩⟩⟩⟩⟩⟩⟩ ?_
          exact ih (q + 1) (by omega) (fun p hp z => (Nat.lt_or_ge p q).elim (fun e => hno p e z) (fun e => bI_0.mp (by assumption) ((show p = q by omega) ▸ z.2)))
        · skip
          refine Ev.iconst dX8_goesByTable_129 ?_
          exact Ev.zreturn dX8_goesByTable_130 rfl (Or.inl rfl) (rI (bI_f (fun z => (gTab_iff ht).mp z ⟨q, ⟨by omega, by omega⟩, bI_1.mp (by assumption)⟩)) rfl)

set_option maxRecDepth 100000 in
set_option maxHeartbeats 4000000 in
theorem sM_goesByTable {g : GC} (σ : Sg) (r U : Nat) (R : RC) (X : Rg) (hr : r < 16) (hM : MR σ r R) (hW : WR U R) (hX : AV σ 294 U X) (i v : Nat) (hi : i < rN R) (hv : v < 16) (T : Tb) (hT : TVm σ T) (hk2 : rK R = 2) : Ev g mX8_goesByTable 0 [some (vR (272)), some (vI (((r : Nat) : Int))), some (vI (((i : Nat) : Int))), some (vI (((v : Nat) : Int))), none, none, none, none, none, none] [] (M0 (σ)) 0 0 (retI (bI (gTab T R X i v)) σ) := by
  obtain ⟨hK, hS, hB, hN, hP⟩ := id hM
  obtain ⟨⟨hk5, hn6, hU⟩, hO, -⟩ := id hW
  have hXR : ∀ k, k < rN R → X (rO R k) ≠ 0 ∧ X (rO R k) < 65536 := fun k hk => (hX _ (hO k hk)).2
  have hp16 := pow_le16 hv
  obtain ⟨ht0, ht6⟩ := hW.2.2.2.1 hk2
  obtain ⟨t, ht⟩ : ∃ t : Nat, rS R = t := ⟨(rS R).toNat, by omega⟩
  obtain ⟨hz, hzb, hcell⟩ := hT t (by omega)
  refine Ev.aload_n dX8_goesByTable_0 rfl rfl ?_
  refine gf_X8_28 rfl dX8_goesByTable_1 ltc_272 shc_272 rfc_272_10 ?_
  refine Ev.iload_n dX8_goesByTable_4 rfl rfl ?_
  refine Ev.iaload (v := ((t : Nat) : Int)) dX8_goesByTable_5 ltc_279 shc_279 (by decide) (by omega) (by omega) (ldx (by omega) (hS.trans ht)) ?_
  refine Ev.istore (pl' := [some (vR (272)), some (vI (((r : Nat) : Int))), some (vI (((i : Nat) : Int))), some (vI (((v : Nat) : Int))), some (vI (((t : Nat) : Int))), none, none, none, none, none]) dX8_goesByTable_6 (Nat.le_of_ble_eq_true rfl) rfl ?_
  refine Ev.aload_n dX8_goesByTable_8 rfl rfl ?_
  refine gf_X8_38 rfl dX8_goesByTable_9 ltc_272 shc_272 rfc_272_13 ?_
  refine Ev.iload_n dX8_goesByTable_12 rfl rfl ?_
  refine Ev.iaload (v := ((rN R : Nat) : Int)) dX8_goesByTable_13 ltc_282 shc_282 (by decide) (by omega) (by omega) (ldx (by omega) hN) ?_
  refine Ev.istore (pl' := [some (vR (272)), some (vI (((r : Nat) : Int))), some (vI (((i : Nat) : Int))), some (vI (((v : Nat) : Int))), some (vI (((t : Nat) : Int))), some (vI (((rN R : Nat) : Int))), none, none, none, none]) dX8_goesByTable_14 (Nat.le_of_ble_eq_true rfl) rfl ?_
  refine Ev.iconst dX8_goesByTable_16 ?_
  refine Ev.istore (pl' := [some (vR (272)), some (vI (((r : Nat) : Int))), some (vI (((i : Nat) : Int))), some (vI (((v : Nat) : Int))), some (vI (((t : Nat) : Int))), some (vI (((rN R : Nat) : Int))), some (vI (0)), none, none, none]) dX8_goesByTable_17 (Nat.le_of_ble_eq_true rfl) rfl ?_
  refine Ev.wk (pl' := [some (vR (272)), some (vI (((r : Nat) : Int))), some (vI (((i : Nat) : Int))), some (vI (((v : Nat) : Int))), some (vI (((t : Nat) : Int))), some (vI (((rN R : Nat) : Int))), some (vI (((0 * rN R : Nat) : Int))), none, none, none]) ⟨rfl, ⟨rfl, ⟨rfl, ⟨rfl, ⟨rfl, ⟨rfl, ⟨vIe (by omega), trivial⟩⟩⟩⟩⟩⟩⟩ ?_
  exact sM_tab σ r U R X hr hM hW hX i v hi hv T hT hk2 t ht 49 0 (by omega) (fun p hp => absurd hp (by omega))

set_option maxRecDepth 100000 in
set_option maxHeartbeats 4000000 in
theorem sM_mustRun {g : GC} (σ : Sg) (r U : Nat) (R : RC) (X : Rg) (hr : r < 16) (hM : MR σ r R) (hW : WR U R) (hX : AV σ 294 U X) (k t : Nat) (hk : k < rN R) (ht : t < 65536) (hA : 0 ≤ rA R k ∧ rA R k ≤ 15) : Ev g mX8_mustRun 0 [some (vR (272)), some (vI (((r : Nat) : Int))), some (vI (((k : Nat) : Int))), some (vI (((t : Nat) : Int))), none] [] (M0 (σ)) 0 0 (retI (bI (must (X (rO R k)) t (rA R k))) σ) := by
  obtain ⟨hK, hS, hB, hN, hP⟩ := id hM
  obtain ⟨⟨hk5, hn6, hU⟩, hO, -⟩ := id hW
  have hXR : ∀ k, k < rN R → X (rO R k) ≠ 0 ∧ X (rO R k) < 65536 := fun k hk => (hX _ (hO k hk)).2
  have hh := hi_lt (hXR k hk).2 (hXR k hk).1
  have hll := lo_lt (hXR k hk).2 (hXR k hk).1
  refine Ev.aload_n dX8_mustRun_0 rfl rfl ?_
  refine Ev.iload_n dX8_mustRun_1 rfl rfl ?_
  refine Ev.iload_n dX8_mustRun_2 rfl rfl ?_
  refine Ev.callV_I (M2 := mX8_asideOf) (args2 := [vI (((r : Nat) : Int)), vI (((k : Nat) : Int))]) (rcv := 272) (q := (RX8, TX8, 34)) (ci := 8) dX8_mustRun_3 okX8_asideOf lk_X8_155 ovX8_asideOf.1.1 ovX8_asideOf.1.2 ovX8_asideOf.2 (by decide) rfl rfl ltc_272 shc_272 rfl (Nat.le_of_ble_eq_true rfl) (Nat.le_of_ble_eq_true rfl) (sM_asideOf σ r U R X hr hM hW hX k (by omega)) ?_ rfl
  refine Ev.istore (pl' := [some (vR (272)), some (vI (((r : Nat) : Int))), some (vI (((k : Nat) : Int))), some (vI (((t : Nat) : Int))), some (vI (((X (rO R k) : Nat) : Int)))]) dX8_mustRun_6 (Nat.le_of_ble_eq_true rfl) rfl ?_
  refine Ev.iload_n dX8_mustRun_8 rfl rfl ?_
  refine Ev.iload dX8_mustRun_9 rfl ?_
  refine Ev.callS_I (M2 := mX8_greatest) (args2 := [vI (((X (rO R k) : Nat) : Int))]) dX8_mustRun_11 okX8_greatest lk_X8_158 osX8_greatest.1 osX8_greatest.2 (by decide) rfl (Nat.le_of_ble_eq_true rfl) (Nat.le_of_ble_eq_true rfl) (sM_great σ (X (rO R k)) (hX _ (hO _ (by omega))).2.2 (hX _ (hO _ (by omega))).2.1) ?_ rfl
  refine Ev.icmp_lt (tgt := 42) ⟨by omega, by omega⟩ ⟨by omega, by omega⟩ dX8_mustRun_14 (by decide) (fun h14 => ?_) (fun h14 => ?_)
  · skip
    refine Ev.iconst dX8_mustRun_42 ?_
    exact Ev.zreturn dX8_mustRun_43 rfl (Or.inl rfl) (rI (bI_f (fun z => by have z1 := z.1; have z2 := z.2; omega)) rfl)
  · skip
    refine Ev.iload_n dX8_mustRun_17 rfl rfl ?_
    refine Ev.iload dX8_mustRun_18 rfl ?_
    refine Ev.callS_I (M2 := mX8_least) (args2 := [vI (((X (rO R k) : Nat) : Int))]) dX8_mustRun_20 okX8_least lk_X8_161 osX8_least.1 osX8_least.2 (by decide) rfl (Nat.le_of_ble_eq_true rfl) (Nat.le_of_ble_eq_true rfl) (sM_least σ (X (rO R k)) (Nat.lt_of_lt_of_le (hX _ (hO _ (by omega))).2.2 (by decide))) ?_ rfl
    refine Ev.aload_n dX8_mustRun_23 rfl rfl ?_
    refine gf_X8_44 rfl dX8_mustRun_24 ltc_272 shc_272 rfc_272_15 ?_
    refine Ev.bipush (n := 6) (by decide) dX8_mustRun_27 ?_
    refine Ev.iload_n dX8_mustRun_29 rfl rfl ?_
    refine Ev.imul dX8_mustRun_30 ?_
    refine Ev.iload_n dX8_mustRun_31 rfl rfl ?_
    refine Ev.iadd dX8_mustRun_32 ?_
    refine Ev.iaload (v := rA R k) dX8_mustRun_33 ltc_284 shc_284 (by decide) (by omega) (by omega) (ldx (n := 6 * r + k) (by omega) (hP k (by omega)).2.1) ?_
    refine Ev.iadd dX8_mustRun_34 ?_
    refine Ev.icmp_ge (tgt := 42) ⟨by omega, by omega⟩ ⟨by omega, by omega⟩ dX8_mustRun_35 (by decide) (fun h35 => ?_) (fun h35 => ?_)
    · skip
      refine Ev.iconst dX8_mustRun_42 ?_
      exact Ev.zreturn dX8_mustRun_43 rfl (Or.inl rfl) (rI (bI_f (fun z => by have z1 := z.1; have z2 := z.2; omega)) rfl)
    · skip
      refine Ev.iconst dX8_mustRun_38 ?_
      refine Ev.goto (tgt := 43) dX8_mustRun_39 (by decide) ?_
      exact Ev.zreturn dX8_mustRun_43 rfl (Or.inr rfl) (rI (bI_t ⟨by omega, by omega⟩) rfl)

set_option maxRecDepth 100000 in
set_option maxHeartbeats 4000000 in
theorem sM_load_in {g : GC} (σ : Sg) (r U : Nat) (R : RC) (X : Rg) (hr : r < 16) (hM : MR σ r R) (hW : WR U R) (hX : AV σ 294 U X) (i v : Nat) (hi : i < rN R) (hv : v < 16) (hk3 : rK R = 3) (t : Nat) (ht : t < 40) {Post : Option PV → Mem → Prop} : ∀ j K : Nat, K + j = rN R → Ev g mX8_goesByLoad 93 [some (vR (272)), some (vI (((r : Nat) : Int))), some (vI (((i : Nat) : Int))), some (vI (((v : Nat) : Int))), some (vI (((t : Nat) : Int))), some (vI (rZ R i + nA R X i t (rN R))), none] [] (M0 (σ)) 0 0 Post → Ev g mX8_goesByLoad 37 [some (vR (272)), some (vI (((r : Nat) : Int))), some (vI (((i : Nat) : Int))), some (vI (((v : Nat) : Int))), some (vI (((t : Nat) : Int))), some (vI (rZ R i + nA R X i t K)), some (vI (((K : Nat) : Int)))] [] (M0 (σ)) 0 0 (Post) := by
  intro j
  induction j with
  | zero =>
    intro K hij kk
    obtain ⟨hK, hS, hB, hN, hP⟩ := id hM
    obtain ⟨⟨hk5, hn6, hU⟩, hO, -⟩ := id hW
    have hXR : ∀ k, k < rN R → X (rO R k) ≠ 0 ∧ X (rO R k) < 65536 := fun k hk => (hX _ (hO k hk)).2
    have hp16 := pow_le16 hv
    obtain ⟨hs3, hz3⟩ := hW.2.2.2.2.1 hk3
    refine Ev.iload dX8_goesByLoad_37 rfl ?_
    refine Ev.aload_n dX8_goesByLoad_39 rfl rfl ?_
    refine gf_X8_38 rfl dX8_goesByLoad_40 ltc_272 shc_272 rfc_272_13 ?_
    refine Ev.iload_n dX8_goesByLoad_43 rfl rfl ?_
    refine Ev.iaload (v := ((rN R : Nat) : Int)) dX8_goesByLoad_44 ltc_282 shc_282 (by decide) (by omega) (by omega) (ldx (by omega) hN) ?_
    refine Ev.icmp_ge (tgt := 93) ⟨by omega, by omega⟩ ⟨by omega, by omega⟩ dX8_goesByLoad_45 (by decide) (fun h45 => ?_) (fun h45 => ?_)
    · skip
      refine Ev.wk (pl' := [some (vR (272)), some (vI (((r : Nat) : Int))), some (vI (((i : Nat) : Int))), some (vI (((v : Nat) : Int))), some (vI (((t : Nat) : Int))), some (vI (rZ R i + nA R X i t (rN R))), none]) ⟨rfl, ⟨rfl, ⟨rfl, ⟨rfl, ⟨rfl, ⟨vIe (by rw [show K = rN R by omega]), trivial⟩⟩⟩⟩⟩⟩ ?_
      exact kk
    · exact absurd h45 (by omega)
  | succ j ih =>
    intro K hij kk
    obtain ⟨hK, hS, hB, hN, hP⟩ := id hM
    obtain ⟨⟨hk5, hn6, hU⟩, hO, -⟩ := id hW
    have hXR : ∀ k, k < rN R → X (rO R k) ≠ 0 ∧ X (rO R k) < 65536 := fun k hk => (hX _ (hO k hk)).2
    have hp16 := pow_le16 hv
    obtain ⟨hs3, hz3⟩ := hW.2.2.2.2.1 hk3
    refine Ev.iload dX8_goesByLoad_37 rfl ?_
    refine Ev.aload_n dX8_goesByLoad_39 rfl rfl ?_
    refine gf_X8_38 rfl dX8_goesByLoad_40 ltc_272 shc_272 rfc_272_13 ?_
    refine Ev.iload_n dX8_goesByLoad_43 rfl rfl ?_
    refine Ev.iaload (v := ((rN R : Nat) : Int)) dX8_goesByLoad_44 ltc_282 shc_282 (by decide) (by omega) (by omega) (ldx (by omega) hN) ?_
    refine Ev.icmp_ge (tgt := 93) ⟨by omega, by omega⟩ ⟨by omega, by omega⟩ dX8_goesByLoad_45 (by decide) (fun h45 => ?_) (fun h45 => ?_)
    · exact absurd h45 (by omega)
    · skip
      refine Ev.iload dX8_goesByLoad_48 rfl ?_
      refine Ev.iload dX8_goesByLoad_50 rfl ?_
      refine Ev.iload_n dX8_goesByLoad_52 rfl rfl ?_
      refine Ev.icmp_eq (tgt := 83) ⟨by omega, by omega⟩ ⟨by omega, by omega⟩ dX8_goesByLoad_53 (by decide) (fun h53 => ?_) (fun h53 => ?_)
      · skip
        refine Ev.iconst dX8_goesByLoad_83 ?_
        refine Ev.iadd dX8_goesByLoad_84 ?_
        refine Ev.istore (pl' := [some (vR (272)), some (vI (((r : Nat) : Int))), some (vI (((i : Nat) : Int))), some (vI (((v : Nat) : Int))), some (vI (((t : Nat) : Int))), some (vI ((rZ R i + nA R X i t K + 0))), some (vI (((K : Nat) : Int)))]) dX8_goesByLoad_85 (Nat.le_of_ble_eq_true rfl) rfl ?_
        refine Ev.iinc (pl' := [some (vR (272)), some (vI (((r : Nat) : Int))), some (vI (((i : Nat) : Int))), some (vI (((v : Nat) : Int))), some (vI (((t : Nat) : Int))), some (vI ((rZ R i + nA R X i t K + 0))), some (vI (((K : Nat) : Int) + 1))]) dX8_goesByLoad_87 rfl (Nat.le_of_ble_eq_true rfl) rfl ?_
        refine Ev.goto (tgt := 37) dX8_goesByLoad_90 (by decide) ?_
        refine Ev.wk (pl' := [some (vR (272)), some (vI (((r : Nat) : Int))), some (vI (((i : Nat) : Int))), some (vI (((v : Nat) : Int))), some (vI (((t : Nat) : Int))), some (vI (rZ R i + nA R X i t (K + 1))), some (vI ((((K + 1) : Nat) : Int)))]) ⟨rfl, ⟨rfl, ⟨rfl, ⟨rfl, ⟨rfl, ⟨vIe (by first | (rw [nA_t (by omega) (bI_1.mp (by assumption))]; omega) | (rw [nA_f (Or.inl (by omega))]; omega) | (rw [nA_f (Or.inr (bI_0.mp (by assumption)))]; omega)), ⟨vIe (by omega), trivial⟩⟩⟩⟩⟩⟩⟩ ?_
        exact ih (K + 1) (by omega) kk
      · skip
        refine Ev.aload_n dX8_goesByLoad_56 rfl rfl ?_
        refine Ev.iload_n dX8_goesByLoad_57 rfl rfl ?_
        refine Ev.iload dX8_goesByLoad_58 rfl ?_
        refine Ev.iload dX8_goesByLoad_60 rfl ?_
        refine Ev.callV_I (M2 := mX8_mustRun) (args2 := [vI (((r : Nat) : Int)), vI (((K : Nat) : Int)), vI (((t : Nat) : Int))]) (rcv := 272) (q := (RX8, TX8, 34)) (ci := 8) dX8_goesByLoad_62 okX8_mustRun lk_X8_168 ovX8_mustRun.1.1 ovX8_mustRun.1.2 ovX8_mustRun.2 (by decide) rfl rfl ltc_272 shc_272 rfl (Nat.le_of_ble_eq_true rfl) (Nat.le_of_ble_eq_true rfl) (sM_mustRun σ r U R X hr hM hW hX K t (by omega) (by omega) (hz3 K (by omega)).1) ?_ rfl
        refine Ev.if_eq (tgt := 83) bI_inR dX8_goesByLoad_65 (by decide) (fun h65 => ?_) (fun h65 => ?_)
        · skip
          refine Ev.iconst dX8_goesByLoad_83 ?_
          refine Ev.iadd dX8_goesByLoad_84 ?_
          refine Ev.istore (pl' := [some (vR (272)), some (vI (((r : Nat) : Int))), some (vI (((i : Nat) : Int))), some (vI (((v : Nat) : Int))), some (vI (((t : Nat) : Int))), some (vI ((rZ R i + nA R X i t K + 0))), some (vI (((K : Nat) : Int)))]) dX8_goesByLoad_85 (Nat.le_of_ble_eq_true rfl) rfl ?_
          refine Ev.iinc (pl' := [some (vR (272)), some (vI (((r : Nat) : Int))), some (vI (((i : Nat) : Int))), some (vI (((v : Nat) : Int))), some (vI (((t : Nat) : Int))), some (vI ((rZ R i + nA R X i t K + 0))), some (vI (((K : Nat) : Int) + 1))]) dX8_goesByLoad_87 rfl (Nat.le_of_ble_eq_true rfl) rfl ?_
          refine Ev.goto (tgt := 37) dX8_goesByLoad_90 (by decide) ?_
          refine Ev.wk (pl' := [some (vR (272)), some (vI (((r : Nat) : Int))), some (vI (((i : Nat) : Int))), some (vI (((v : Nat) : Int))), some (vI (((t : Nat) : Int))), some (vI (rZ R i + nA R X i t (K + 1))), some (vI ((((K + 1) : Nat) : Int)))]) ⟨rfl, ⟨rfl, ⟨rfl, ⟨rfl, ⟨rfl, ⟨vIe (by first | (rw [nA_t (by omega) (bI_1.mp (by assumption))]; omega) | (rw [nA_f (Or.inl (by omega))]; omega) | (rw [nA_f (Or.inr (bI_0.mp (by assumption)))]; omega)), ⟨vIe (by omega), trivial⟩⟩⟩⟩⟩⟩⟩ ?_
          exact ih (K + 1) (by omega) kk
        · skip
          refine Ev.aload_n dX8_goesByLoad_68 rfl rfl ?_
          refine gf_X8_47 rfl dX8_goesByLoad_69 ltc_272 shc_272 rfc_272_16 ?_
          refine Ev.bipush (n := 6) (by decide) dX8_goesByLoad_72 ?_
          refine Ev.iload_n dX8_goesByLoad_74 rfl rfl ?_
          refine Ev.imul dX8_goesByLoad_75 ?_
          refine Ev.iload dX8_goesByLoad_76 rfl ?_
          refine Ev.iadd dX8_goesByLoad_78 ?_
          refine Ev.iaload (v := rZ R K) dX8_goesByLoad_79 ltc_285 shc_285 (by decide) (by omega) (by omega) (ldx (n := 6 * r + K) (by omega) (hP K (by omega)).2.2) ?_
          refine Ev.goto (tgt := 84) dX8_goesByLoad_80 (by decide) ?_
          refine Ev.iadd dX8_goesByLoad_84 ?_
          refine Ev.istore (pl' := [some (vR (272)), some (vI (((r : Nat) : Int))), some (vI (((i : Nat) : Int))), some (vI (((v : Nat) : Int))), some (vI (((t : Nat) : Int))), some (vI ((rZ R i + nA R X i t K + rZ R K))), some (vI (((K : Nat) : Int)))]) dX8_goesByLoad_85 (Nat.le_of_ble_eq_true rfl) rfl ?_
          refine Ev.iinc (pl' := [some (vR (272)), some (vI (((r : Nat) : Int))), some (vI (((i : Nat) : Int))), some (vI (((v : Nat) : Int))), some (vI (((t : Nat) : Int))), some (vI ((rZ R i + nA R X i t K + rZ R K))), some (vI (((K : Nat) : Int) + 1))]) dX8_goesByLoad_87 rfl (Nat.le_of_ble_eq_true rfl) rfl ?_
          refine Ev.goto (tgt := 37) dX8_goesByLoad_90 (by decide) ?_
          refine Ev.wk (pl' := [some (vR (272)), some (vI (((r : Nat) : Int))), some (vI (((i : Nat) : Int))), some (vI (((v : Nat) : Int))), some (vI (((t : Nat) : Int))), some (vI (rZ R i + nA R X i t (K + 1))), some (vI ((((K + 1) : Nat) : Int)))]) ⟨rfl, ⟨rfl, ⟨rfl, ⟨rfl, ⟨rfl, ⟨vIe (by first | (rw [nA_t (by omega) (bI_1.mp (by assumption))]; omega) | (rw [nA_f (Or.inl (by omega))]; omega) | (rw [nA_f (Or.inr (bI_0.mp (by assumption)))]; omega)), ⟨vIe (by omega), trivial⟩⟩⟩⟩⟩⟩⟩ ?_
          exact ih (K + 1) (by omega) kk

set_option maxRecDepth 100000 in
set_option maxHeartbeats 4000000 in
theorem sM_load {g : GC} (σ : Sg) (r U : Nat) (R : RC) (X : Rg) (hr : r < 16) (hM : MR σ r R) (hW : WR U R) (hX : AV σ 294 U X) (i v : Nat) (hi : i < rN R) (hv : v < 16) (hk3 : rK R = 3) (a : Nat) (ha : rA R i = a) : ∀ j t : Nat, t + j = v + a → v ≤ t → (∀ s, v ≤ s → s < t → ¬ rZ R i + nA R X i s (rN R) > rS R) → Ev g mX8_goesByLoad 3 [some (vR (272)), some (vI (((r : Nat) : Int))), some (vI (((i : Nat) : Int))), some (vI (((v : Nat) : Int))), some (vI (((t : Nat) : Int))), none, none] [] (M0 (σ)) 0 0 (retI (bI (gLoad R X i v)) σ) := by
  intro j
  induction j with
  | zero =>
    intro t hij hvt hno
    obtain ⟨hK, hS, hB, hN, hP⟩ := id hM
    obtain ⟨⟨hk5, hn6, hU⟩, hO, -⟩ := id hW
    have hXR : ∀ k, k < rN R → X (rO R k) ≠ 0 ∧ X (rO R k) < 65536 := fun k hk => (hX _ (hO k hk)).2
    have hp16 := pow_le16 hv
    obtain ⟨hs3, hz3⟩ := hW.2.2.2.2.1 hk3
    have hai := (hz3 i hi).1
    have hbi := (hz3 i hi).2
    have hnb := nA_bd (i := i) (t := t) (X := X) hn6 (fun k hk => (hz3 k hk).2)
    refine Ev.iload dX8_goesByLoad_3 rfl ?_
    refine Ev.iload_n dX8_goesByLoad_5 rfl rfl ?_
    refine Ev.aload_n dX8_goesByLoad_6 rfl rfl ?_
    refine gf_X8_44 rfl dX8_goesByLoad_7 ltc_272 shc_272 rfc_272_15 ?_
    refine Ev.bipush (n := 6) (by decide) dX8_goesByLoad_10 ?_
    refine Ev.iload_n dX8_goesByLoad_12 rfl rfl ?_
    refine Ev.imul dX8_goesByLoad_13 ?_
    refine Ev.iload_n dX8_goesByLoad_14 rfl rfl ?_
    refine Ev.iadd dX8_goesByLoad_15 ?_
    refine Ev.iaload (v := ((a : Nat) : Int)) dX8_goesByLoad_16 ltc_284 shc_284 (by decide) (by omega) (by omega) (ldx (n := 6 * r + i) (by omega) ((hP i hi).2.1.trans ha)) ?_
    refine Ev.iadd dX8_goesByLoad_17 ?_
    refine Ev.icmp_ge (tgt := 112) ⟨by omega, by omega⟩ ⟨by omega, by omega⟩ dX8_goesByLoad_18 (by decide) (fun h18 => ?_) (fun h18 => ?_)
    · skip
      refine Ev.iconst dX8_goesByLoad_112 ?_
      exact Ev.zreturn dX8_goesByLoad_113 rfl (Or.inl rfl) (rI (bI_f (fun ⟨s, z1, z2, z3⟩ => hno s z1 (by omega) z3)) rfl)
    · exact absurd h18 (by omega)
  | succ j ih =>
    intro t hij hvt hno
    obtain ⟨hK, hS, hB, hN, hP⟩ := id hM
    obtain ⟨⟨hk5, hn6, hU⟩, hO, -⟩ := id hW
    have hXR : ∀ k, k < rN R → X (rO R k) ≠ 0 ∧ X (rO R k) < 65536 := fun k hk => (hX _ (hO k hk)).2
    have hp16 := pow_le16 hv
    obtain ⟨hs3, hz3⟩ := hW.2.2.2.2.1 hk3
    have hai := (hz3 i hi).1
    have hbi := (hz3 i hi).2
    have hnb := nA_bd (i := i) (t := t) (X := X) hn6 (fun k hk => (hz3 k hk).2)
    refine Ev.iload dX8_goesByLoad_3 rfl ?_
    refine Ev.iload_n dX8_goesByLoad_5 rfl rfl ?_
    refine Ev.aload_n dX8_goesByLoad_6 rfl rfl ?_
    refine gf_X8_44 rfl dX8_goesByLoad_7 ltc_272 shc_272 rfc_272_15 ?_
    refine Ev.bipush (n := 6) (by decide) dX8_goesByLoad_10 ?_
    refine Ev.iload_n dX8_goesByLoad_12 rfl rfl ?_
    refine Ev.imul dX8_goesByLoad_13 ?_
    refine Ev.iload_n dX8_goesByLoad_14 rfl rfl ?_
    refine Ev.iadd dX8_goesByLoad_15 ?_
    refine Ev.iaload (v := ((a : Nat) : Int)) dX8_goesByLoad_16 ltc_284 shc_284 (by decide) (by omega) (by omega) (ldx (n := 6 * r + i) (by omega) ((hP i hi).2.1.trans ha)) ?_
    refine Ev.iadd dX8_goesByLoad_17 ?_
    refine Ev.icmp_ge (tgt := 112) ⟨by omega, by omega⟩ ⟨by omega, by omega⟩ dX8_goesByLoad_18 (by decide) (fun h18 => ?_) (fun h18 => ?_)
    · exact absurd h18 (by omega)
    · skip
      refine Ev.aload_n dX8_goesByLoad_21 rfl rfl ?_
      refine gf_X8_47 rfl dX8_goesByLoad_22 ltc_272 shc_272 rfc_272_16 ?_
      refine Ev.bipush (n := 6) (by decide) dX8_goesByLoad_25 ?_
      refine Ev.iload_n dX8_goesByLoad_27 rfl rfl ?_
      refine Ev.imul dX8_goesByLoad_28 ?_
      refine Ev.iload_n dX8_goesByLoad_29 rfl rfl ?_
      refine Ev.iadd dX8_goesByLoad_30 ?_
      refine Ev.iaload (v := rZ R i) dX8_goesByLoad_31 ltc_285 shc_285 (by decide) (by omega) (by omega) (ldx (n := 6 * r + i) (by omega) (hP i (by omega)).2.2) ?_
      refine Ev.istore (pl' := [some (vR (272)), some (vI (((r : Nat) : Int))), some (vI (((i : Nat) : Int))), some (vI (((v : Nat) : Int))), some (vI (((t : Nat) : Int))), some (vI (rZ R i)), none]) dX8_goesByLoad_32 (Nat.le_of_ble_eq_true rfl) rfl ?_
      refine Ev.iconst dX8_goesByLoad_34 ?_
      refine Ev.istore (pl' := [some (vR (272)), some (vI (((r : Nat) : Int))), some (vI (((i : Nat) : Int))), some (vI (((v : Nat) : Int))), some (vI (((t : Nat) : Int))), some (vI (rZ R i)), some (vI (0))]) dX8_goesByLoad_35 (Nat.le_of_ble_eq_true rfl) rfl ?_
      refine Ev.wk (pl' := [some (vR (272)), some (vI (((r : Nat) : Int))), some (vI (((i : Nat) : Int))), some (vI (((v : Nat) : Int))), some (vI (((t : Nat) : Int))), some (vI (rZ R i + nA R X i t 0)), some (vI (((0 : Nat) : Int)))]) ⟨rfl, ⟨rfl, ⟨rfl, ⟨rfl, ⟨rfl, ⟨vIe (by show _ = _ + 0; omega), ⟨vIe rfl, trivial⟩⟩⟩⟩⟩⟩⟩ ?_
      refine sM_load_in σ r U R X hr hM hW hX i v hi hv hk3 t (by omega) (rN R) 0 (by omega) ?_
      refine Ev.iload dX8_goesByLoad_93 rfl ?_
      refine Ev.aload_n dX8_goesByLoad_95 rfl rfl ?_
      refine gf_X8_28 rfl dX8_goesByLoad_96 ltc_272 shc_272 rfc_272_10 ?_
      refine Ev.iload_n dX8_goesByLoad_99 rfl rfl ?_
      refine Ev.iaload (v := rS R) dX8_goesByLoad_100 ltc_279 shc_279 (by decide) (by omega) (by omega) (ldx (by omega) hS) ?_
      refine Ev.icmp_le (tgt := 106) ⟨by omega, by omega⟩ ⟨by omega, by omega⟩ dX8_goesByLoad_101 (by decide) (fun h101 => ?_) (fun h101 => ?_)
      · skip
        refine Ev.iinc (pl' := [some (vR (272)), some (vI (((r : Nat) : Int))), some (vI (((i : Nat) : Int))), some (vI (((v : Nat) : Int))), some (vI (((t : Nat) : Int) + 1)), some (vI (rZ R i + nA R X i t (rN R))), none]) dX8_goesByLoad_106 rfl (Nat.le_of_ble_eq_true rfl) rfl ?_
        refine Ev.goto (tgt := 3) dX8_goesByLoad_109 (by decide) ?_
        refine Ev.wk (pl' := [some (vR (272)), some (vI (((r : Nat) : Int))), some (vI (((i : Nat) : Int))), some (vI (((v : Nat) : Int))), some (vI ((((t + 1) : Nat) : Int))), none, none]) ⟨rfl, ⟨rfl, ⟨rfl, ⟨rfl, ⟨vIe (by omega), trivial⟩⟩⟩⟩⟩ ?_
        exact ih (t + 1) (by omega) (by omega) (fun s hs1 hs => (Nat.lt_or_ge s t).elim (hno s hs1) (fun e => by rw [show s = t by omega]; omega))
      · skip
        refine Ev.iconst dX8_goesByLoad_104 ?_
        exact Ev.zreturn dX8_goesByLoad_105 rfl (Or.inr rfl) (rI (bI_t ⟨t, by omega, by omega, by show rZ R i + nA R X i t (rN R) > rS R; omega⟩) rfl)

set_option maxRecDepth 100000 in
set_option maxHeartbeats 4000000 in
theorem sM_goesByLoad {g : GC} (σ : Sg) (r U : Nat) (R : RC) (X : Rg) (hr : r < 16) (hM : MR σ r R) (hW : WR U R) (hX : AV σ 294 U X) (i v : Nat) (hi : i < rN R) (hv : v < 16) (hk3 : rK R = 3) : Ev g mX8_goesByLoad 0 [some (vR (272)), some (vI (((r : Nat) : Int))), some (vI (((i : Nat) : Int))), some (vI (((v : Nat) : Int))), none, none, none] [] (M0 (σ)) 0 0 (retI (bI (gLoad R X i v)) σ) := by
  obtain ⟨hK, hS, hB, hN, hP⟩ := id hM
  obtain ⟨⟨hk5, hn6, hU⟩, hO, -⟩ := id hW
  have hXR : ∀ k, k < rN R → X (rO R k) ≠ 0 ∧ X (rO R k) < 65536 := fun k hk => (hX _ (hO k hk)).2
  have hp16 := pow_le16 hv
  obtain ⟨hs3, hz3⟩ := hW.2.2.2.2.1 hk3
  obtain ⟨a, ha⟩ : ∃ a : Nat, rA R i = a := ⟨(rA R i).toNat, by have := (hz3 i hi).1; omega⟩
  refine Ev.iload_n dX8_goesByLoad_0 rfl rfl ?_
  refine Ev.istore (pl' := [some (vR (272)), some (vI (((r : Nat) : Int))), some (vI (((i : Nat) : Int))), some (vI (((v : Nat) : Int))), some (vI (((v : Nat) : Int))), none, none]) dX8_goesByLoad_1 (Nat.le_of_ble_eq_true rfl) rfl ?_
  refine Ev.wk (pl' := [some (vR (272)), some (vI (((r : Nat) : Int))), some (vI (((i : Nat) : Int))), some (vI (((v : Nat) : Int))), some (vI (((v : Nat) : Int))), none, none]) ⟨rfl, ⟨rfl, ⟨rfl, ⟨rfl, ⟨rfl, trivial⟩⟩⟩⟩⟩ ?_
  exact sM_load σ r U R X hr hM hW hX i v hi hv hk3 a ha a v (by omega) (by omega) (fun s h1 h2 => absurd h2 (by omega))

set_option maxRecDepth 100000 in
set_option maxHeartbeats 4000000 in
theorem sM_ring {g : GC} (σ : Sg) (r U : Nat) (R : RC) (X : Rg) (hr : r < 16) (hM : MR σ r R) (hW : WR U R) (hX : AV σ 294 U X) (i v : Nat) (hi : i < rN R) (hv : v < 16) : ∀ j q : Nat, q + j = rN R → v < rN R → ¬ gUnl R X i v → pth R X v q < rN R → (∀ j, j < q → pth R X v j ≠ i) → (∀ j, j < q → pop (X (rO R (pth R X v j))) = 1 ∧ pth R X v (j + 1) < rN R) → Ev g mX8_goesByRing 28 [some (vR (272)), some (vI (((r : Nat) : Int))), some (vI (((i : Nat) : Int))), some (vI (((v : Nat) : Int))), some (vI (((pth R X v q : Nat) : Int))), some (vI ((((q + 1) : Nat) : Int)))] [] (M0 (σ)) 0 0 (retI (bI (gRing R X i v)) σ) := by
  intro j
  induction j with
  | zero =>
    intro q hij hvn hu hat hne hch
    obtain ⟨hK, hS, hB, hN, hP⟩ := id hM
    obtain ⟨⟨hk5, hn6, hU⟩, hO, -⟩ := id hW
    have hXR : ∀ k, k < rN R → X (rO R k) ≠ 0 ∧ X (rO R k) < 65536 := fun k hk => (hX _ (hO k hk)).2
    have hp16 := pow_le16 hv
    refine Ev.iload dX8_goesByRing_28 rfl ?_
    refine Ev.iload_n dX8_goesByRing_30 rfl rfl ?_
    refine Ev.icmp_eq (tgt := 96) ⟨by omega, by omega⟩ ⟨by omega, by omega⟩ dX8_goesByRing_31 (by decide) (fun h31 => ?_) (fun h31 => ?_)
    · skip
      refine Ev.iload dX8_goesByRing_96 rfl ?_
      refine Ev.iload_n dX8_goesByRing_98 rfl rfl ?_
      refine Ev.icmp_ne (tgt := 117) ⟨by omega, by omega⟩ ⟨by omega, by omega⟩ dX8_goesByRing_99 (by decide) (fun h99 => ?_) (fun h99 => ?_)
      · skip
        refine Ev.iconst dX8_goesByRing_117 ?_
        exact Ev.zreturn dX8_goesByRing_118 rfl (Or.inl rfl) (rI (bI_f (ring_no hvn hu hne (by first
            | exact Or.inl ⟨by omega, by omega⟩
            | exact Or.inr ⟨by omega, Or.inl (by omega)⟩
            | exact Or.inr ⟨by omega, Or.inr (fun z => absurd z.1 (by omega))⟩
            | exact Or.inr ⟨by omega, Or.inr (fun z => by have z2 : lo (X (rO R (pth R X v q))) < rN R := z.2; omega)⟩))) rfl)
      · skip
        refine Ev.iload dX8_goesByRing_102 rfl ?_
        refine Ev.aload_n dX8_goesByRing_104 rfl rfl ?_
        refine gf_X8_38 rfl dX8_goesByRing_105 ltc_272 shc_272 rfc_272_13 ?_
        refine Ev.iload_n dX8_goesByRing_108 rfl rfl ?_
        refine Ev.iaload (v := ((rN R : Nat) : Int)) dX8_goesByRing_109 ltc_282 shc_282 (by decide) (by omega) (by omega) (ldx (by omega) hN) ?_
        refine Ev.icmp_ge (tgt := 117) ⟨by omega, by omega⟩ ⟨by omega, by omega⟩ dX8_goesByRing_110 (by decide) (fun h110 => ?_) (fun h110 => ?_)
        · skip
          refine Ev.iconst dX8_goesByRing_117 ?_
          exact Ev.zreturn dX8_goesByRing_118 rfl (Or.inl rfl) (rI (bI_f (ring_no hvn hu hne (by first
            | exact Or.inl ⟨by omega, by omega⟩
            | exact Or.inr ⟨by omega, Or.inl (by omega)⟩
            | exact Or.inr ⟨by omega, Or.inr (fun z => absurd z.1 (by omega))⟩
            | exact Or.inr ⟨by omega, Or.inr (fun z => by have z2 : lo (X (rO R (pth R X v q))) < rN R := z.2; omega)⟩))) rfl)
        · skip
          refine Ev.iconst dX8_goesByRing_113 ?_
          refine Ev.goto (tgt := 118) dX8_goesByRing_114 (by decide) ?_
          exact Ev.zreturn dX8_goesByRing_118 rfl (Or.inr rfl) (rI (bI_t (Or.inr (Or.inr ⟨q, by omega, by omega, hch⟩))) rfl)
    · skip
      refine Ev.iload dX8_goesByRing_34 rfl ?_
      refine Ev.aload_n dX8_goesByRing_36 rfl rfl ?_
      refine gf_X8_38 rfl dX8_goesByRing_37 ltc_272 shc_272 rfc_272_13 ?_
      refine Ev.iload_n dX8_goesByRing_40 rfl rfl ?_
      refine Ev.iaload (v := ((rN R : Nat) : Int)) dX8_goesByRing_41 ltc_282 shc_282 (by decide) (by omega) (by omega) (ldx (by omega) hN) ?_
      refine Ev.icmp_gt (tgt := 96) ⟨by omega, by omega⟩ ⟨by omega, by omega⟩ dX8_goesByRing_42 (by decide) (fun h42 => ?_) (fun h42 => ?_)
      · skip
        refine Ev.iload dX8_goesByRing_96 rfl ?_
        refine Ev.iload_n dX8_goesByRing_98 rfl rfl ?_
        refine Ev.icmp_ne (tgt := 117) ⟨by omega, by omega⟩ ⟨by omega, by omega⟩ dX8_goesByRing_99 (by decide) (fun h99 => ?_) (fun h99 => ?_)
        · skip
          refine Ev.iconst dX8_goesByRing_117 ?_
          exact Ev.zreturn dX8_goesByRing_118 rfl (Or.inl rfl) (rI (bI_f (ring_no hvn hu hne (by first
            | exact Or.inl ⟨by omega, by omega⟩
            | exact Or.inr ⟨by omega, Or.inl (by omega)⟩
            | exact Or.inr ⟨by omega, Or.inr (fun z => absurd z.1 (by omega))⟩
            | exact Or.inr ⟨by omega, Or.inr (fun z => by have z2 : lo (X (rO R (pth R X v q))) < rN R := z.2; omega)⟩))) rfl)
        · skip
          refine Ev.iload dX8_goesByRing_102 rfl ?_
          refine Ev.aload_n dX8_goesByRing_104 rfl rfl ?_
          refine gf_X8_38 rfl dX8_goesByRing_105 ltc_272 shc_272 rfc_272_13 ?_
          refine Ev.iload_n dX8_goesByRing_108 rfl rfl ?_
          refine Ev.iaload (v := ((rN R : Nat) : Int)) dX8_goesByRing_109 ltc_282 shc_282 (by decide) (by omega) (by omega) (ldx (by omega) hN) ?_
          refine Ev.icmp_ge (tgt := 117) ⟨by omega, by omega⟩ ⟨by omega, by omega⟩ dX8_goesByRing_110 (by decide) (fun h110 => ?_) (fun h110 => ?_)
          · skip
            refine Ev.iconst dX8_goesByRing_117 ?_
            exact Ev.zreturn dX8_goesByRing_118 rfl (Or.inl rfl) (rI (bI_f (ring_no hvn hu hne (by first
            | exact Or.inl ⟨by omega, by omega⟩
            | exact Or.inr ⟨by omega, Or.inl (by omega)⟩
            | exact Or.inr ⟨by omega, Or.inr (fun z => absurd z.1 (by omega))⟩
            | exact Or.inr ⟨by omega, Or.inr (fun z => by have z2 : lo (X (rO R (pth R X v q))) < rN R := z.2; omega)⟩))) rfl)
          · skip
            refine Ev.iconst dX8_goesByRing_113 ?_
            refine Ev.goto (tgt := 118) dX8_goesByRing_114 (by decide) ?_
            exact Ev.zreturn dX8_goesByRing_118 rfl (Or.inr rfl) (rI (bI_t (Or.inr (Or.inr ⟨q, by omega, by omega, hch⟩))) rfl)
      · exact absurd h42 (by omega)
  | succ j ih =>
    intro q hij hvn hu hat hne hch
    obtain ⟨hK, hS, hB, hN, hP⟩ := id hM
    obtain ⟨⟨hk5, hn6, hU⟩, hO, -⟩ := id hW
    have hXR : ∀ k, k < rN R → X (rO R k) ≠ 0 ∧ X (rO R k) < 65536 := fun k hk => (hX _ (hO k hk)).2
    have hp16 := pow_le16 hv
    refine Ev.iload dX8_goesByRing_28 rfl ?_
    refine Ev.iload_n dX8_goesByRing_30 rfl rfl ?_
    refine Ev.icmp_eq (tgt := 96) ⟨by omega, by omega⟩ ⟨by omega, by omega⟩ dX8_goesByRing_31 (by decide) (fun h31 => ?_) (fun h31 => ?_)
    · skip
      refine Ev.iload dX8_goesByRing_96 rfl ?_
      refine Ev.iload_n dX8_goesByRing_98 rfl rfl ?_
      refine Ev.icmp_ne (tgt := 117) ⟨by omega, by omega⟩ ⟨by omega, by omega⟩ dX8_goesByRing_99 (by decide) (fun h99 => ?_) (fun h99 => ?_)
      · skip
        refine Ev.iconst dX8_goesByRing_117 ?_
        exact Ev.zreturn dX8_goesByRing_118 rfl (Or.inl rfl) (rI (bI_f (ring_no hvn hu hne (by first
            | exact Or.inl ⟨by omega, by omega⟩
            | exact Or.inr ⟨by omega, Or.inl (by omega)⟩
            | exact Or.inr ⟨by omega, Or.inr (fun z => absurd z.1 (by omega))⟩
            | exact Or.inr ⟨by omega, Or.inr (fun z => by have z2 : lo (X (rO R (pth R X v q))) < rN R := z.2; omega)⟩))) rfl)
      · skip
        refine Ev.iload dX8_goesByRing_102 rfl ?_
        refine Ev.aload_n dX8_goesByRing_104 rfl rfl ?_
        refine gf_X8_38 rfl dX8_goesByRing_105 ltc_272 shc_272 rfc_272_13 ?_
        refine Ev.iload_n dX8_goesByRing_108 rfl rfl ?_
        refine Ev.iaload (v := ((rN R : Nat) : Int)) dX8_goesByRing_109 ltc_282 shc_282 (by decide) (by omega) (by omega) (ldx (by omega) hN) ?_
        refine Ev.icmp_ge (tgt := 117) ⟨by omega, by omega⟩ ⟨by omega, by omega⟩ dX8_goesByRing_110 (by decide) (fun h110 => ?_) (fun h110 => ?_)
        · skip
          refine Ev.iconst dX8_goesByRing_117 ?_
          exact Ev.zreturn dX8_goesByRing_118 rfl (Or.inl rfl) (rI (bI_f (ring_no hvn hu hne (by first
            | exact Or.inl ⟨by omega, by omega⟩
            | exact Or.inr ⟨by omega, Or.inl (by omega)⟩
            | exact Or.inr ⟨by omega, Or.inr (fun z => absurd z.1 (by omega))⟩
            | exact Or.inr ⟨by omega, Or.inr (fun z => by have z2 : lo (X (rO R (pth R X v q))) < rN R := z.2; omega)⟩))) rfl)
        · skip
          refine Ev.iconst dX8_goesByRing_113 ?_
          refine Ev.goto (tgt := 118) dX8_goesByRing_114 (by decide) ?_
          exact Ev.zreturn dX8_goesByRing_118 rfl (Or.inr rfl) (rI (bI_t (Or.inr (Or.inr ⟨q, by omega, by omega, hch⟩))) rfl)
    · skip
      refine Ev.iload dX8_goesByRing_34 rfl ?_
      refine Ev.aload_n dX8_goesByRing_36 rfl rfl ?_
      refine gf_X8_38 rfl dX8_goesByRing_37 ltc_272 shc_272 rfc_272_13 ?_
      refine Ev.iload_n dX8_goesByRing_40 rfl rfl ?_
      refine Ev.iaload (v := ((rN R : Nat) : Int)) dX8_goesByRing_41 ltc_282 shc_282 (by decide) (by omega) (by omega) (ldx (by omega) hN) ?_
      refine Ev.icmp_gt (tgt := 96) ⟨by omega, by omega⟩ ⟨by omega, by omega⟩ dX8_goesByRing_42 (by decide) (fun h42 => ?_) (fun h42 => ?_)
      · skip
        refine Ev.iload dX8_goesByRing_96 rfl ?_
        refine Ev.iload_n dX8_goesByRing_98 rfl rfl ?_
        refine Ev.icmp_ne (tgt := 117) ⟨by omega, by omega⟩ ⟨by omega, by omega⟩ dX8_goesByRing_99 (by decide) (fun h99 => ?_) (fun h99 => ?_)
        · skip
          refine Ev.iconst dX8_goesByRing_117 ?_
          exact Ev.zreturn dX8_goesByRing_118 rfl (Or.inl rfl) (rI (bI_f (ring_no hvn hu hne (by first
            | exact Or.inl ⟨by omega, by omega⟩
            | exact Or.inr ⟨by omega, Or.inl (by omega)⟩
            | exact Or.inr ⟨by omega, Or.inr (fun z => absurd z.1 (by omega))⟩
            | exact Or.inr ⟨by omega, Or.inr (fun z => by have z2 : lo (X (rO R (pth R X v q))) < rN R := z.2; omega)⟩))) rfl)
        · skip
          refine Ev.iload dX8_goesByRing_102 rfl ?_
          refine Ev.aload_n dX8_goesByRing_104 rfl rfl ?_
          refine gf_X8_38 rfl dX8_goesByRing_105 ltc_272 shc_272 rfc_272_13 ?_
          refine Ev.iload_n dX8_goesByRing_108 rfl rfl ?_
          refine Ev.iaload (v := ((rN R : Nat) : Int)) dX8_goesByRing_109 ltc_282 shc_282 (by decide) (by omega) (by omega) (ldx (by omega) hN) ?_
          refine Ev.icmp_ge (tgt := 117) ⟨by omega, by omega⟩ ⟨by omega, by omega⟩ dX8_goesByRing_110 (by decide) (fun h110 => ?_) (fun h110 => ?_)
          · skip
            refine Ev.iconst dX8_goesByRing_117 ?_
            exact Ev.zreturn dX8_goesByRing_118 rfl (Or.inl rfl) (rI (bI_f (ring_no hvn hu hne (by first
            | exact Or.inl ⟨by omega, by omega⟩
            | exact Or.inr ⟨by omega, Or.inl (by omega)⟩
            | exact Or.inr ⟨by omega, Or.inr (fun z => absurd z.1 (by omega))⟩
            | exact Or.inr ⟨by omega, Or.inr (fun z => by have z2 : lo (X (rO R (pth R X v q))) < rN R := z.2; omega)⟩))) rfl)
          · skip
            refine Ev.iconst dX8_goesByRing_113 ?_
            refine Ev.goto (tgt := 118) dX8_goesByRing_114 (by decide) ?_
            exact Ev.zreturn dX8_goesByRing_118 rfl (Or.inr rfl) (rI (bI_t (Or.inr (Or.inr ⟨q, by omega, by omega, hch⟩))) rfl)
      · skip
        refine Ev.aload_n dX8_goesByRing_45 rfl rfl ?_
        refine Ev.iload_n dX8_goesByRing_46 rfl rfl ?_
        refine Ev.iload dX8_goesByRing_47 rfl ?_
        refine Ev.callV_I (M2 := mX8_asideOf) (args2 := [vI (((r : Nat) : Int)), vI (((pth R X v q : Nat) : Int))]) (rcv := 272) (q := (RX8, TX8, 34)) (ci := 8) dX8_goesByRing_49 okX8_asideOf lk_X8_155 ovX8_asideOf.1.1 ovX8_asideOf.1.2 ovX8_asideOf.2 (by decide) rfl rfl ltc_272 shc_272 rfl (Nat.le_of_ble_eq_true rfl) (Nat.le_of_ble_eq_true rfl) (sM_asideOf σ r U R X hr hM hW hX (pth R X v q) (by omega)) ?_ rfl
        refine Ev.callS_I (M2 := mX8_many) (args2 := [vI (((X (rO R (pth R X v q)) : Nat) : Int))]) dX8_goesByRing_52 okX8_many lk_X8_123 osX8_many.1 osX8_many.2 (by decide) rfl (Nat.le_of_ble_eq_true rfl) (Nat.le_of_ble_eq_true rfl) (sM_many σ (X (rO R (pth R X v q))) (Nat.lt_of_lt_of_le (hX _ (hO _ (by omega))).2.2 (by decide))) ?_ rfl
        refine Ev.iconst dX8_goesByRing_55 ?_
        refine Ev.icmp_ne (tgt := 96) pop_inR ⟨by decide, by decide⟩ dX8_goesByRing_56 (by decide) (fun h56 => ?_) (fun h56 => ?_)
        · skip
          refine Ev.iload dX8_goesByRing_96 rfl ?_
          refine Ev.iload_n dX8_goesByRing_98 rfl rfl ?_
          refine Ev.icmp_ne (tgt := 117) ⟨by omega, by omega⟩ ⟨by omega, by omega⟩ dX8_goesByRing_99 (by decide) (fun h99 => ?_) (fun h99 => ?_)
          · skip
            refine Ev.iconst dX8_goesByRing_117 ?_
            exact Ev.zreturn dX8_goesByRing_118 rfl (Or.inl rfl) (rI (bI_f (ring_no hvn hu hne (by first
            | exact Or.inl ⟨by omega, by omega⟩
            | exact Or.inr ⟨by omega, Or.inl (by omega)⟩
            | exact Or.inr ⟨by omega, Or.inr (fun z => absurd z.1 (by omega))⟩
            | exact Or.inr ⟨by omega, Or.inr (fun z => by have z2 : lo (X (rO R (pth R X v q))) < rN R := z.2; omega)⟩))) rfl)
          · skip
            refine Ev.iload dX8_goesByRing_102 rfl ?_
            refine Ev.aload_n dX8_goesByRing_104 rfl rfl ?_
            refine gf_X8_38 rfl dX8_goesByRing_105 ltc_272 shc_272 rfc_272_13 ?_
            refine Ev.iload_n dX8_goesByRing_108 rfl rfl ?_
            refine Ev.iaload (v := ((rN R : Nat) : Int)) dX8_goesByRing_109 ltc_282 shc_282 (by decide) (by omega) (by omega) (ldx (by omega) hN) ?_
            refine Ev.icmp_ge (tgt := 117) ⟨by omega, by omega⟩ ⟨by omega, by omega⟩ dX8_goesByRing_110 (by decide) (fun h110 => ?_) (fun h110 => ?_)
            · skip
              refine Ev.iconst dX8_goesByRing_117 ?_
              exact Ev.zreturn dX8_goesByRing_118 rfl (Or.inl rfl) (rI (bI_f (ring_no hvn hu hne (by first
            | exact Or.inl ⟨by omega, by omega⟩
            | exact Or.inr ⟨by omega, Or.inl (by omega)⟩
            | exact Or.inr ⟨by omega, Or.inr (fun z => absurd z.1 (by omega))⟩
            | exact Or.inr ⟨by omega, Or.inr (fun z => by have z2 : lo (X (rO R (pth R X v q))) < rN R := z.2; omega)⟩))) rfl)
            · skip
              refine Ev.iconst dX8_goesByRing_113 ?_
              refine Ev.goto (tgt := 118) dX8_goesByRing_114 (by decide) ?_
              exact Ev.zreturn dX8_goesByRing_118 rfl (Or.inr rfl) (rI (bI_t (Or.inr (Or.inr ⟨q, by omega, by omega, hch⟩))) rfl)
        · skip
          refine Ev.aload_n dX8_goesByRing_59 rfl rfl ?_
          refine Ev.iload_n dX8_goesByRing_60 rfl rfl ?_
          refine Ev.iload dX8_goesByRing_61 rfl ?_
          refine Ev.callV_I (M2 := mX8_asideOf) (args2 := [vI (((r : Nat) : Int)), vI (((pth R X v q : Nat) : Int))]) (rcv := 272) (q := (RX8, TX8, 34)) (ci := 8) dX8_goesByRing_63 okX8_asideOf lk_X8_155 ovX8_asideOf.1.1 ovX8_asideOf.1.2 ovX8_asideOf.2 (by decide) rfl rfl ltc_272 shc_272 rfl (Nat.le_of_ble_eq_true rfl) (Nat.le_of_ble_eq_true rfl) (sM_asideOf σ r U R X hr hM hW hX (pth R X v q) (by omega)) ?_ rfl
          refine Ev.callS_I (M2 := mX8_least) (args2 := [vI (((X (rO R (pth R X v q)) : Nat) : Int))]) dX8_goesByRing_66 okX8_least lk_X8_161 osX8_least.1 osX8_least.2 (by decide) rfl (Nat.le_of_ble_eq_true rfl) (Nat.le_of_ble_eq_true rfl) (sM_least σ (X (rO R (pth R X v q))) (Nat.lt_of_lt_of_le (hX _ (hO _ (by omega))).2.2 (by decide))) ?_ rfl
          refine Ev.aload_n dX8_goesByRing_69 rfl rfl ?_
          refine gf_X8_38 rfl dX8_goesByRing_70 ltc_272 shc_272 rfc_272_13 ?_
          refine Ev.iload_n dX8_goesByRing_73 rfl rfl ?_
          refine Ev.iaload (v := ((rN R : Nat) : Int)) dX8_goesByRing_74 ltc_282 shc_282 (by decide) (by omega) (by omega) (ldx (by omega) hN) ?_
          refine Ev.icmp_ge (tgt := 96) lo_inR ⟨by omega, by omega⟩ dX8_goesByRing_75 (by decide) (fun h75 => ?_) (fun h75 => ?_)
          · skip
            refine Ev.iload dX8_goesByRing_96 rfl ?_
            refine Ev.iload_n dX8_goesByRing_98 rfl rfl ?_
            refine Ev.icmp_ne (tgt := 117) ⟨by omega, by omega⟩ ⟨by omega, by omega⟩ dX8_goesByRing_99 (by decide) (fun h99 => ?_) (fun h99 => ?_)
            · skip
              refine Ev.iconst dX8_goesByRing_117 ?_
              exact Ev.zreturn dX8_goesByRing_118 rfl (Or.inl rfl) (rI (bI_f (ring_no hvn hu hne (by first
            | exact Or.inl ⟨by omega, by omega⟩
            | exact Or.inr ⟨by omega, Or.inl (by omega)⟩
            | exact Or.inr ⟨by omega, Or.inr (fun z => absurd z.1 (by omega))⟩
            | exact Or.inr ⟨by omega, Or.inr (fun z => by have z2 : lo (X (rO R (pth R X v q))) < rN R := z.2; omega)⟩))) rfl)
            · skip
              refine Ev.iload dX8_goesByRing_102 rfl ?_
              refine Ev.aload_n dX8_goesByRing_104 rfl rfl ?_
              refine gf_X8_38 rfl dX8_goesByRing_105 ltc_272 shc_272 rfc_272_13 ?_
              refine Ev.iload_n dX8_goesByRing_108 rfl rfl ?_
              refine Ev.iaload (v := ((rN R : Nat) : Int)) dX8_goesByRing_109 ltc_282 shc_282 (by decide) (by omega) (by omega) (ldx (by omega) hN) ?_
              refine Ev.icmp_ge (tgt := 117) ⟨by omega, by omega⟩ ⟨by omega, by omega⟩ dX8_goesByRing_110 (by decide) (fun h110 => ?_) (fun h110 => ?_)
              · skip
                refine Ev.iconst dX8_goesByRing_117 ?_
                exact Ev.zreturn dX8_goesByRing_118 rfl (Or.inl rfl) (rI (bI_f (ring_no hvn hu hne (by first
            | exact Or.inl ⟨by omega, by omega⟩
            | exact Or.inr ⟨by omega, Or.inl (by omega)⟩
            | exact Or.inr ⟨by omega, Or.inr (fun z => absurd z.1 (by omega))⟩
            | exact Or.inr ⟨by omega, Or.inr (fun z => by have z2 : lo (X (rO R (pth R X v q))) < rN R := z.2; omega)⟩))) rfl)
              · skip
                refine Ev.iconst dX8_goesByRing_113 ?_
                refine Ev.goto (tgt := 118) dX8_goesByRing_114 (by decide) ?_
                exact Ev.zreturn dX8_goesByRing_118 rfl (Or.inr rfl) (rI (bI_t (Or.inr (Or.inr ⟨q, by omega, by omega, hch⟩))) rfl)
          · skip
            refine Ev.aload_n dX8_goesByRing_78 rfl rfl ?_
            refine Ev.iload_n dX8_goesByRing_79 rfl rfl ?_
            refine Ev.iload dX8_goesByRing_80 rfl ?_
            refine Ev.callV_I (M2 := mX8_asideOf) (args2 := [vI (((r : Nat) : Int)), vI (((pth R X v q : Nat) : Int))]) (rcv := 272) (q := (RX8, TX8, 34)) (ci := 8) dX8_goesByRing_82 okX8_asideOf lk_X8_155 ovX8_asideOf.1.1 ovX8_asideOf.1.2 ovX8_asideOf.2 (by decide) rfl rfl ltc_272 shc_272 rfl (Nat.le_of_ble_eq_true rfl) (Nat.le_of_ble_eq_true rfl) (sM_asideOf σ r U R X hr hM hW hX (pth R X v q) (by omega)) ?_ rfl
            refine Ev.callS_I (M2 := mX8_least) (args2 := [vI (((X (rO R (pth R X v q)) : Nat) : Int))]) dX8_goesByRing_85 okX8_least lk_X8_161 osX8_least.1 osX8_least.2 (by decide) rfl (Nat.le_of_ble_eq_true rfl) (Nat.le_of_ble_eq_true rfl) (sM_least σ (X (rO R (pth R X v q))) (Nat.lt_of_lt_of_le (hX _ (hO _ (by omega))).2.2 (by decide))) ?_ rfl
            refine Ev.istore (pl' := [some (vR (272)), some (vI (((r : Nat) : Int))), some (vI (((i : Nat) : Int))), some (vI (((v : Nat) : Int))), some (vI (((lo (X (rO R (pth R X v q))) : Nat) : Int))), some (vI ((((q + 1) : Nat) : Int)))]) dX8_goesByRing_88 (Nat.le_of_ble_eq_true rfl) rfl ?_
            refine Ev.iinc (pl' := [some (vR (272)), some (vI (((r : Nat) : Int))), some (vI (((i : Nat) : Int))), some (vI (((v : Nat) : Int))), some (vI (((lo (X (rO R (pth R X v q))) : Nat) : Int))), some (vI ((((q + 1) : Nat) : Int) + 1))]) dX8_goesByRing_90 rfl (Nat.le_of_ble_eq_true rfl) rfl ?_
            refine Ev.goto (tgt := 28) dX8_goesByRing_93 (by decide) ?_
            refine Ev.wk (pl' := [some (vR (272)), some (vI (((r : Nat) : Int))), some (vI (((i : Nat) : Int))), some (vI (((v : Nat) : Int))), some (vI (((pth R X v (q + 1) : Nat) : Int))), some (vI (((((q + 1) + 1) : Nat) : Int)))]) ⟨rfl, ⟨rfl, ⟨rfl, ⟨rfl, ⟨vIe rfl, ⟨vIe (by omega), trivial⟩⟩⟩⟩⟩⟩ ?_
            exact ih (q + 1) (by omega) hvn hu (by show lo (X (rO R (pth R X v q))) < rN R; omega) (fun j hj => (Nat.lt_or_ge j q).elim (hne j) (fun e => by rw [show j = q by omega]; omega)) (fun j hj => (Nat.lt_or_ge j q).elim (hch j) (fun e => by rw [show j = q by omega]; exact ⟨by omega, by show lo (X (rO R (pth R X v q))) < rN R; omega⟩))

set_option maxRecDepth 100000 in
set_option maxHeartbeats 4000000 in
theorem sM_goesByRing {g : GC} (σ : Sg) (r U : Nat) (R : RC) (X : Rg) (hr : r < 16) (hM : MR σ r R) (hW : WR U R) (hX : AV σ 294 U X) (i v : Nat) (hi : i < rN R) (hv : v < 16) : Ev g mX8_goesByRing 0 [some (vR (272)), some (vI (((r : Nat) : Int))), some (vI (((i : Nat) : Int))), some (vI (((v : Nat) : Int))), none, none] [] (M0 (σ)) 0 0 (retI (bI (gRing R X i v)) σ) := by
  obtain ⟨hK, hS, hB, hN, hP⟩ := id hM
  obtain ⟨⟨hk5, hn6, hU⟩, hO, -⟩ := id hW
  have hXR : ∀ k, k < rN R → X (rO R k) ≠ 0 ∧ X (rO R k) < 65536 := fun k hk => (hX _ (hO k hk)).2
  have hp16 := pow_le16 hv
  refine Ev.iload_n dX8_goesByRing_0 rfl rfl ?_
  refine Ev.aload_n dX8_goesByRing_1 rfl rfl ?_
  refine gf_X8_38 rfl dX8_goesByRing_2 ltc_272 shc_272 rfc_272_13 ?_
  refine Ev.iload_n dX8_goesByRing_5 rfl rfl ?_
  refine Ev.iaload (v := ((rN R : Nat) : Int)) dX8_goesByRing_6 ltc_282 shc_282 (by decide) (by omega) (by omega) (ldx (by omega) hN) ?_
  refine Ev.icmp_ge (tgt := 20) ⟨by omega, by omega⟩ ⟨by omega, by omega⟩ dX8_goesByRing_7 (by decide) (fun h7 => ?_) (fun h7 => ?_)
  · skip
    refine Ev.iconst dX8_goesByRing_20 ?_
    exact Ev.zreturn dX8_goesByRing_21 rfl (Or.inr rfl) (rI (bI_t (by first | exact Or.inl (by omega) | exact Or.inr (Or.inl (bI_1.mp (by assumption))))) rfl)
  · skip
    refine Ev.aload_n dX8_goesByRing_10 rfl rfl ?_
    refine Ev.iload_n dX8_goesByRing_11 rfl rfl ?_
    refine Ev.iload_n dX8_goesByRing_12 rfl rfl ?_
    refine Ev.iload_n dX8_goesByRing_13 rfl rfl ?_
    refine Ev.callV_I (M2 := mX8_goesByUnlike) (args2 := [vI (((r : Nat) : Int)), vI (((i : Nat) : Int)), vI (((v : Nat) : Int))]) (rcv := 272) (q := (RX8, TX8, 34)) (ci := 8) dX8_goesByRing_14 okX8_goesByUnlike lk_X8_172 ovX8_goesByUnlike.1.1 ovX8_goesByUnlike.1.2 ovX8_goesByUnlike.2 (by decide) rfl rfl ltc_272 shc_272 rfl (Nat.le_of_ble_eq_true rfl) (Nat.le_of_ble_eq_true rfl) (sM_goesByUnlike σ r U R X hr hM hW hX i v hi hv) ?_ rfl
    refine Ev.if_eq (tgt := 22) bI_inR dX8_goesByRing_17 (by decide) (fun h17 => ?_) (fun h17 => ?_)
    · skip
      refine Ev.iload_n dX8_goesByRing_22 rfl rfl ?_
      refine Ev.istore (pl' := [some (vR (272)), some (vI (((r : Nat) : Int))), some (vI (((i : Nat) : Int))), some (vI (((v : Nat) : Int))), some (vI (((v : Nat) : Int))), none]) dX8_goesByRing_23 (Nat.le_of_ble_eq_true rfl) rfl ?_
      refine Ev.iconst dX8_goesByRing_25 ?_
      refine Ev.istore (pl' := [some (vR (272)), some (vI (((r : Nat) : Int))), some (vI (((i : Nat) : Int))), some (vI (((v : Nat) : Int))), some (vI (((v : Nat) : Int))), some (vI (1))]) dX8_goesByRing_26 (Nat.le_of_ble_eq_true rfl) rfl ?_
      refine Ev.wk (pl' := [some (vR (272)), some (vI (((r : Nat) : Int))), some (vI (((i : Nat) : Int))), some (vI (((v : Nat) : Int))), some (vI (((pth R X v 0 : Nat) : Int))), some (vI ((((0 + 1) : Nat) : Int)))]) ⟨rfl, ⟨rfl, ⟨rfl, ⟨rfl, ⟨vIe rfl, ⟨vIe rfl, trivial⟩⟩⟩⟩⟩⟩ ?_
      exact sM_ring σ r U R X hr hM hW hX i v hi hv (rN R) 0 (by omega) (by omega) (bI_0.mp (by assumption)) (by show v < rN R; omega) (fun j hj => absurd hj (by omega)) (fun j hj => absurd hj (by omega))
    · skip
      refine Ev.iconst dX8_goesByRing_20 ?_
      exact Ev.zreturn dX8_goesByRing_21 rfl (Or.inr rfl) (rI (bI_t (by first | exact Or.inl (by omega) | exact Or.inr (Or.inl (bI_1.mp (by assumption))))) rfl)

set_option maxRecDepth 100000 in
set_option maxHeartbeats 4000000 in
theorem sM_clause {g : GC} (σ : Sg) (r U : Nat) (R : RC) (X : Rg) (hr : r < 16) (hM : MR σ r R) (hW : WR U R) (hX : AV σ 294 U X) (i v : Nat) (hi : i < rN R) (hv : v < 16) (hk5 : rK R = 5) : ∀ j K : Nat, K + j = rN R → (∀ k, k < K → cF R X i v k &&& (rA R k).toNat = 0) → Ev g mX8_goesByClause 6 [some (vR (272)), some (vI (((r : Nat) : Int))), some (vI (((rO R i : Nat) : Int))), some (vI (((v : Nat) : Int))), some (vI ((((6 * r + K) : Nat) : Int))), none] [] (M0 (σ)) 0 0 (retI (bI (gCl R X i v)) σ) := by
  intro j
  induction j with
  | zero =>
    intro K hij hno
    obtain ⟨hK, hS, hB, hN, hP⟩ := id hM
    obtain ⟨⟨hk5_, hn6, hU⟩, hO, -⟩ := id hW
    have hXR : ∀ k, k < rN R → X (rO R k) ≠ 0 ∧ X (rO R k) < 65536 := fun k hk => (hX _ (hO k hk)).2
    have hp16 := pow_le16 hv
    have hA5 := hW.2.2.2.2.2.1 hk5
    have hOi := hO i hi
    refine Ev.iload dX8_goesByClause_6 rfl ?_
    refine Ev.bipush (n := 6) (by decide) dX8_goesByClause_8 ?_
    refine Ev.iload_n dX8_goesByClause_10 rfl rfl ?_
    refine Ev.imul dX8_goesByClause_11 ?_
    refine Ev.aload_n dX8_goesByClause_12 rfl rfl ?_
    refine gf_X8_38 rfl dX8_goesByClause_13 ltc_272 shc_272 rfc_272_13 ?_
    refine Ev.iload_n dX8_goesByClause_16 rfl rfl ?_
    refine Ev.iaload (v := ((rN R : Nat) : Int)) dX8_goesByClause_17 ltc_282 shc_282 (by decide) (by omega) (by omega) (ldx (by omega) hN) ?_
    refine Ev.iadd dX8_goesByClause_18 ?_
    refine Ev.icmp_ge (tgt := 74) ⟨by omega, by omega⟩ ⟨by omega, by omega⟩ dX8_goesByClause_19 (by decide) (fun h19 => ?_) (fun h19 => ?_)
    · skip
      refine Ev.iconst dX8_goesByClause_74 ?_
      exact Ev.zreturn dX8_goesByClause_75 rfl (Or.inr rfl) (rI (bI_t (fun k hk => hno k (by omega))) rfl)
    · exact absurd h19 (by omega)
  | succ j ih =>
    intro K hij hno
    obtain ⟨hK, hS, hB, hN, hP⟩ := id hM
    obtain ⟨⟨hk5_, hn6, hU⟩, hO, -⟩ := id hW
    have hXR : ∀ k, k < rN R → X (rO R k) ≠ 0 ∧ X (rO R k) < 65536 := fun k hk => (hX _ (hO k hk)).2
    have hp16 := pow_le16 hv
    have hA5 := hW.2.2.2.2.2.1 hk5
    have hOi := hO i hi
    have hak := hA5 K (by omega)
    have hOk := hO K (by omega)
    have hxk := hXR K (by omega)
    refine Ev.iload dX8_goesByClause_6 rfl ?_
    refine Ev.bipush (n := 6) (by decide) dX8_goesByClause_8 ?_
    refine Ev.iload_n dX8_goesByClause_10 rfl rfl ?_
    refine Ev.imul dX8_goesByClause_11 ?_
    refine Ev.aload_n dX8_goesByClause_12 rfl rfl ?_
    refine gf_X8_38 rfl dX8_goesByClause_13 ltc_272 shc_272 rfc_272_13 ?_
    refine Ev.iload_n dX8_goesByClause_16 rfl rfl ?_
    refine Ev.iaload (v := ((rN R : Nat) : Int)) dX8_goesByClause_17 ltc_282 shc_282 (by decide) (by omega) (by omega) (ldx (by omega) hN) ?_
    refine Ev.iadd dX8_goesByClause_18 ?_
    refine Ev.icmp_ge (tgt := 74) ⟨by omega, by omega⟩ ⟨by omega, by omega⟩ dX8_goesByClause_19 (by decide) (fun h19 => ?_) (fun h19 => ?_)
    · exact absurd h19 (by omega)
    · skip
      refine Ev.aload_n dX8_goesByClause_22 rfl rfl ?_
      refine gf_X8_41 rfl dX8_goesByClause_23 ltc_272 shc_272 rfc_272_14 ?_
      refine Ev.iload dX8_goesByClause_26 rfl ?_
      refine Ev.iaload (v := ((rO R K : Nat) : Int)) dX8_goesByClause_28 ltc_283 shc_283 (by decide) (by omega) (by omega) (ldx (n := 6 * r + K) (by omega) (hP K (by omega)).1) ?_
      refine Ev.iload_n dX8_goesByClause_29 rfl rfl ?_
      refine Ev.icmp_ne (tgt := 39) ⟨by omega, by omega⟩ ⟨by omega, by omega⟩ dX8_goesByClause_30 (by decide) (fun h30 => ?_) (fun h30 => ?_)
      · skip
        refine Ev.aload_n dX8_goesByClause_39 rfl rfl ?_
        refine gf_X8_78 rfl dX8_goesByClause_40 ltc_272 shc_272 rfc_272_29 ?_
        refine Ev.aload_n dX8_goesByClause_43 rfl rfl ?_
        refine gf_X8_41 rfl dX8_goesByClause_44 ltc_272 shc_272 rfc_272_14 ?_
        refine Ev.iload dX8_goesByClause_47 rfl ?_
        refine Ev.iaload (v := ((rO R K : Nat) : Int)) dX8_goesByClause_49 ltc_283 shc_283 (by decide) (by omega) (by omega) (ldx (n := 6 * r + K) (by omega) (hP K (by omega)).1) ?_
        refine Ev.iaload (v := ((X (rO R K) : Nat) : Int)) dX8_goesByClause_50 ltc_294 shc_294 (by decide) (by omega) (Int.ofNat_lt.mpr (Nat.lt_of_lt_of_le (hO _ (by omega)) hU)) (ldx rfl (hX _ (hO _ (by omega))).1) ?_
        refine Ev.istore (pl' := [some (vR (272)), some (vI (((r : Nat) : Int))), some (vI (((rO R i : Nat) : Int))), some (vI (((v : Nat) : Int))), some (vI ((((6 * r + K) : Nat) : Int))), some (vI (((X (rO R K) : Nat) : Int)))]) dX8_goesByClause_51 (Nat.le_of_ble_eq_true rfl) rfl ?_
        refine Ev.iload dX8_goesByClause_53 rfl ?_
        refine Ev.aload_n dX8_goesByClause_55 rfl rfl ?_
        refine gf_X8_44 rfl dX8_goesByClause_56 ltc_272 shc_272 rfc_272_15 ?_
        refine Ev.iload dX8_goesByClause_59 rfl ?_
        refine Ev.iaload (v := (((rA R K).toNat : Nat) : Int)) dX8_goesByClause_61 ltc_284 shc_284 (by decide) (by omega) (by omega) (ldx (n := 6 * r + K) (by omega) ((hP K (by omega)).2.1.trans (by omega))) ?_
        refine Ev.iand dX8_goesByClause_62 ?_
        rw [show (iAnd (((X (rO R K) : Nat) : Int)) ((((rA R K).toNat : Nat) : Int))) = ((X (rO R K) &&& (rA R K).toNat : Nat) : Int) from iAnd_nat (Or.inl (by omega))]
        refine Ev.if_eq (tgt := 68) ⟨by omega, by have := @Nat.and_le_right (X (rO R K)) (rA R K).toNat; omega⟩ dX8_goesByClause_63 (by decide) (fun h63 => ?_) (fun h63 => ?_)
        · skip
          refine Ev.iinc (pl' := [some (vR (272)), some (vI (((r : Nat) : Int))), some (vI (((rO R i : Nat) : Int))), some (vI (((v : Nat) : Int))), some (vI ((((6 * r + K) : Nat) : Int) + 1)), some (vI (((X (rO R K) : Nat) : Int)))]) dX8_goesByClause_68 rfl (Nat.le_of_ble_eq_true rfl) rfl ?_
          refine Ev.goto (tgt := 6) dX8_goesByClause_71 (by decide) ?_
          refine Ev.wk (pl' := [some (vR (272)), some (vI (((r : Nat) : Int))), some (vI (((rO R i : Nat) : Int))), some (vI (((v : Nat) : Int))), some (vI ((((6 * r + (K + 1)) : Nat) : Int))), none]) ⟨rfl, ⟨rfl, ⟨rfl, ⟨rfl, ⟨vIe (by omega), trivial⟩⟩⟩⟩⟩ ?_
          exact ih (K + 1) (by omega) (fun k hk => (Nat.lt_or_ge k K).elim (hno k) (fun e => by rw [show k = K by omega]; unfold cF; first | (rw [if_pos (by omega)]; omega) | (rw [if_neg (by omega)]; omega)))
        · skip
          refine Ev.iconst dX8_goesByClause_66 ?_
          exact Ev.zreturn dX8_goesByClause_67 rfl (Or.inl rfl) (rI (bI_f (fun z => by have z1 := z K (by omega); first | (rw [if_pos (by omega)] at z1; omega) | (rw [if_neg (by omega)] at z1; omega))) rfl)
      · skip
        refine Ev.iconst dX8_goesByClause_33 ?_
        refine Ev.iload_n dX8_goesByClause_34 rfl rfl ?_
        refine Ev.ishl dX8_goesByClause_35 ?_
        rw [show (iShl (1) (((v : Nat) : Int))) = ((2 ^ v : Nat) : Int) from shl1 (by omega)]
        refine Ev.goto (tgt := 51) dX8_goesByClause_36 (by decide) ?_
        refine Ev.istore (pl' := [some (vR (272)), some (vI (((r : Nat) : Int))), some (vI (((rO R i : Nat) : Int))), some (vI (((v : Nat) : Int))), some (vI ((((6 * r + K) : Nat) : Int))), some (vI (((2 ^ v : Nat) : Int)))]) dX8_goesByClause_51 (Nat.le_of_ble_eq_true rfl) rfl ?_
        refine Ev.iload dX8_goesByClause_53 rfl ?_
        refine Ev.aload_n dX8_goesByClause_55 rfl rfl ?_
        refine gf_X8_44 rfl dX8_goesByClause_56 ltc_272 shc_272 rfc_272_15 ?_
        refine Ev.iload dX8_goesByClause_59 rfl ?_
        refine Ev.iaload (v := (((rA R K).toNat : Nat) : Int)) dX8_goesByClause_61 ltc_284 shc_284 (by decide) (by omega) (by omega) (ldx (n := 6 * r + K) (by omega) ((hP K (by omega)).2.1.trans (by omega))) ?_
        refine Ev.iand dX8_goesByClause_62 ?_
        rw [show (iAnd (((2 ^ v : Nat) : Int)) ((((rA R K).toNat : Nat) : Int))) = ((2 ^ v &&& (rA R K).toNat : Nat) : Int) from iAnd_nat (Or.inl (by omega))]
        refine Ev.if_eq (tgt := 68) ⟨by omega, by have := @Nat.and_le_right (2 ^ v) (rA R K).toNat; omega⟩ dX8_goesByClause_63 (by decide) (fun h63 => ?_) (fun h63 => ?_)
        · skip
          refine Ev.iinc (pl' := [some (vR (272)), some (vI (((r : Nat) : Int))), some (vI (((rO R i : Nat) : Int))), some (vI (((v : Nat) : Int))), some (vI ((((6 * r + K) : Nat) : Int) + 1)), some (vI (((2 ^ v : Nat) : Int)))]) dX8_goesByClause_68 rfl (Nat.le_of_ble_eq_true rfl) rfl ?_
          refine Ev.goto (tgt := 6) dX8_goesByClause_71 (by decide) ?_
          refine Ev.wk (pl' := [some (vR (272)), some (vI (((r : Nat) : Int))), some (vI (((rO R i : Nat) : Int))), some (vI (((v : Nat) : Int))), some (vI ((((6 * r + (K + 1)) : Nat) : Int))), none]) ⟨rfl, ⟨rfl, ⟨rfl, ⟨rfl, ⟨vIe (by omega), trivial⟩⟩⟩⟩⟩ ?_
          exact ih (K + 1) (by omega) (fun k hk => (Nat.lt_or_ge k K).elim (hno k) (fun e => by rw [show k = K by omega]; unfold cF; first | (rw [if_pos (by omega)]; omega) | (rw [if_neg (by omega)]; omega)))
        · skip
          refine Ev.iconst dX8_goesByClause_66 ?_
          exact Ev.zreturn dX8_goesByClause_67 rfl (Or.inl rfl) (rI (bI_f (fun z => by have z1 := z K (by omega); first | (rw [if_pos (by omega)] at z1; omega) | (rw [if_neg (by omega)] at z1; omega))) rfl)

set_option maxRecDepth 100000 in
set_option maxHeartbeats 4000000 in
theorem sM_goesByClause {g : GC} (σ : Sg) (r U : Nat) (R : RC) (X : Rg) (hr : r < 16) (hM : MR σ r R) (hW : WR U R) (hX : AV σ 294 U X) (i v : Nat) (hi : i < rN R) (hv : v < 16) (hk5 : rK R = 5) : Ev g mX8_goesByClause 0 [some (vR (272)), some (vI (((r : Nat) : Int))), some (vI (((rO R i : Nat) : Int))), some (vI (((v : Nat) : Int))), none, none] [] (M0 (σ)) 0 0 (retI (bI (gCl R X i v)) σ) := by
  obtain ⟨hK, hS, hB, hN, hP⟩ := id hM
  obtain ⟨⟨hk5_, hn6, hU⟩, hO, -⟩ := id hW
  have hXR : ∀ k, k < rN R → X (rO R k) ≠ 0 ∧ X (rO R k) < 65536 := fun k hk => (hX _ (hO k hk)).2
  have hp16 := pow_le16 hv
  have hA5 := hW.2.2.2.2.2.1 hk5
  have hOi := hO i hi
  refine Ev.bipush (n := 6) (by decide) dX8_goesByClause_0 ?_
  refine Ev.iload_n dX8_goesByClause_2 rfl rfl ?_
  refine Ev.imul dX8_goesByClause_3 ?_
  refine Ev.istore (pl' := [some (vR (272)), some (vI (((r : Nat) : Int))), some (vI (((rO R i : Nat) : Int))), some (vI (((v : Nat) : Int))), some (vI ((6 * ((r : Nat) : Int)))), none]) dX8_goesByClause_4 (Nat.le_of_ble_eq_true rfl) rfl ?_
  refine Ev.wk (pl' := [some (vR (272)), some (vI (((r : Nat) : Int))), some (vI (((rO R i : Nat) : Int))), some (vI (((v : Nat) : Int))), some (vI ((((6 * r + 0) : Nat) : Int))), none]) ⟨rfl, ⟨rfl, ⟨rfl, ⟨rfl, ⟨vIe (by omega), trivial⟩⟩⟩⟩⟩ ?_
  exact sM_clause σ r U R X hr hM hW hX i v hi hv hk5 (rN R) 0 (by omega) (fun k hk => absurd hk (by omega))

set_option maxRecDepth 100000 in
set_option maxHeartbeats 4000000 in
theorem sM_goes {g : GC} (σ : Sg) (r U : Nat) (R : RC) (X : Rg) (hr : r < 16) (hM : MR σ r R) (hW : WR U R) (hX : AV σ 294 U X) (i v : Nat) (hi : i < rN R) (hv : v < 16) (T : Tb) (hT : TVm σ T) : Ev g mX8_goes 0 [some (vR (272)), some (vI (((r : Nat) : Int))), some (vI (((i : Nat) : Int))), some (vI (((v : Nat) : Int)))] [] (M0 (σ)) 0 0 (retI (bI (goes T R X i v)) σ) := by
  obtain ⟨hK, hS, hB, hN, hP⟩ := id hM
  obtain ⟨⟨hk5, hn6, hU⟩, hO, -⟩ := id hW
  refine Ev.aload_n dX8_goes_0 rfl rfl ?_
  refine gf_X8_25 rfl dX8_goes_1 ltc_272 shc_272 rfc_272_9 ?_
  refine Ev.iload_n dX8_goes_4 rfl rfl ?_
  refine Ev.iaload (v := ((rK R : Nat) : Int)) dX8_goes_5 ltc_278 shc_278 (by decide) (by omega) (by omega) (ldx (by omega) hK) ?_
  have hcs : rK R = 0 ∨ rK R = 1 ∨ rK R = 2 ∨ rK R = 3 ∨ rK R = 4 ∨ rK R = 5 := by omega
  rcases hcs with hk | hk | hk | hk | hk | hk
  · rw [show ((rK R : Nat) : Int) = 0 by omega]
    refine Ev.tableIn (tgt := 40) dX8_goes_6 ⟨by decide, by decide⟩ (by decide) (by decide) rfl (by decide) ?_
    refine Ev.aload_n dX8_goes_40 rfl rfl ?_
    refine Ev.iload_n dX8_goes_41 rfl rfl ?_
    refine Ev.iload_n dX8_goes_42 rfl rfl ?_
    refine Ev.iload_n dX8_goes_43 rfl rfl ?_
    refine Ev.callV_I (M2 := mX8_goesBySum) (args2 := [vI (((r : Nat) : Int)), vI (((i : Nat) : Int)), vI (((v : Nat) : Int))]) (rcv := 272) (q := (RX8, TX8, 34)) (ci := 8) dX8_goes_44 okX8_goesBySum lk_X8_175 ovX8_goesBySum.1.1 ovX8_goesBySum.1.2 ovX8_goesBySum.2 (by decide) rfl rfl ltc_272 shc_272 rfl (Nat.le_of_ble_eq_true rfl) (Nat.le_of_ble_eq_true rfl) (sM_goesBySum σ r U R X hr hM hW hX i v hi hv hk) ?_ rfl
    exact Ev.zreturn dX8_goes_47 rfl bI_or (rI (bI_congr (goes_0 hk).symm) rfl)
  · rw [show ((rK R : Nat) : Int) = 1 by omega]
    refine Ev.tableIn (tgt := 48) dX8_goes_6 ⟨by decide, by decide⟩ (by decide) (by decide) rfl (by decide) ?_
    refine Ev.aload_n dX8_goes_48 rfl rfl ?_
    refine Ev.iload_n dX8_goes_49 rfl rfl ?_
    refine Ev.iload_n dX8_goes_50 rfl rfl ?_
    refine Ev.iload_n dX8_goes_51 rfl rfl ?_
    refine Ev.callV_I (M2 := mX8_goesByUnlike) (args2 := [vI (((r : Nat) : Int)), vI (((i : Nat) : Int)), vI (((v : Nat) : Int))]) (rcv := 272) (q := (RX8, TX8, 34)) (ci := 8) dX8_goes_52 okX8_goesByUnlike lk_X8_172 ovX8_goesByUnlike.1.1 ovX8_goesByUnlike.1.2 ovX8_goesByUnlike.2 (by decide) rfl rfl ltc_272 shc_272 rfl (Nat.le_of_ble_eq_true rfl) (Nat.le_of_ble_eq_true rfl) (sM_goesByUnlike σ r U R X hr hM hW hX i v hi hv) ?_ rfl
    exact Ev.zreturn dX8_goes_55 rfl bI_or (rI (bI_congr (goes_1 hk).symm) rfl)
  · rw [show ((rK R : Nat) : Int) = 2 by omega]
    refine Ev.tableIn (tgt := 56) dX8_goes_6 ⟨by decide, by decide⟩ (by decide) (by decide) rfl (by decide) ?_
    refine Ev.aload_n dX8_goes_56 rfl rfl ?_
    refine Ev.iload_n dX8_goes_57 rfl rfl ?_
    refine Ev.iload_n dX8_goes_58 rfl rfl ?_
    refine Ev.iload_n dX8_goes_59 rfl rfl ?_
    refine Ev.callV_I (M2 := mX8_goesByTable) (args2 := [vI (((r : Nat) : Int)), vI (((i : Nat) : Int)), vI (((v : Nat) : Int))]) (rcv := 272) (q := (RX8, TX8, 34)) (ci := 8) dX8_goes_60 okX8_goesByTable lk_X8_178 ovX8_goesByTable.1.1 ovX8_goesByTable.1.2 ovX8_goesByTable.2 (by decide) rfl rfl ltc_272 shc_272 rfl (Nat.le_of_ble_eq_true rfl) (Nat.le_of_ble_eq_true rfl) (sM_goesByTable σ r U R X hr hM hW hX i v hi hv T hT hk) ?_ rfl
    exact Ev.zreturn dX8_goes_63 rfl bI_or (rI (bI_congr (goes_2 hk).symm) rfl)
  · rw [show ((rK R : Nat) : Int) = 3 by omega]
    refine Ev.tableIn (tgt := 64) dX8_goes_6 ⟨by decide, by decide⟩ (by decide) (by decide) rfl (by decide) ?_
    refine Ev.aload_n dX8_goes_64 rfl rfl ?_
    refine Ev.iload_n dX8_goes_65 rfl rfl ?_
    refine Ev.iload_n dX8_goes_66 rfl rfl ?_
    refine Ev.iload_n dX8_goes_67 rfl rfl ?_
    refine Ev.callV_I (M2 := mX8_goesByLoad) (args2 := [vI (((r : Nat) : Int)), vI (((i : Nat) : Int)), vI (((v : Nat) : Int))]) (rcv := 272) (q := (RX8, TX8, 34)) (ci := 8) dX8_goes_68 okX8_goesByLoad lk_X8_181 ovX8_goesByLoad.1.1 ovX8_goesByLoad.1.2 ovX8_goesByLoad.2 (by decide) rfl rfl ltc_272 shc_272 rfl (Nat.le_of_ble_eq_true rfl) (Nat.le_of_ble_eq_true rfl) (sM_goesByLoad σ r U R X hr hM hW hX i v hi hv hk) ?_ rfl
    exact Ev.zreturn dX8_goes_71 rfl bI_or (rI (bI_congr (goes_3 hk).symm) rfl)
  · rw [show ((rK R : Nat) : Int) = 4 by omega]
    refine Ev.tableIn (tgt := 72) dX8_goes_6 ⟨by decide, by decide⟩ (by decide) (by decide) rfl (by decide) ?_
    refine Ev.aload_n dX8_goes_72 rfl rfl ?_
    refine Ev.iload_n dX8_goes_73 rfl rfl ?_
    refine Ev.iload_n dX8_goes_74 rfl rfl ?_
    refine Ev.iload_n dX8_goes_75 rfl rfl ?_
    refine Ev.callV_I (M2 := mX8_goesByRing) (args2 := [vI (((r : Nat) : Int)), vI (((i : Nat) : Int)), vI (((v : Nat) : Int))]) (rcv := 272) (q := (RX8, TX8, 34)) (ci := 8) dX8_goes_76 okX8_goesByRing lk_X8_184 ovX8_goesByRing.1.1 ovX8_goesByRing.1.2 ovX8_goesByRing.2 (by decide) rfl rfl ltc_272 shc_272 rfl (Nat.le_of_ble_eq_true rfl) (Nat.le_of_ble_eq_true rfl) (sM_goesByRing σ r U R X hr hM hW hX i v hi hv) ?_ rfl
    exact Ev.zreturn dX8_goes_79 rfl bI_or (rI (bI_congr (goes_4 hk).symm) rfl)
  · rw [show ((rK R : Nat) : Int) = 5 by omega]
    refine Ev.tableOut (tgt := 80) dX8_goes_6 ⟨by decide, by decide⟩ (by decide) (by decide) ?_
    refine Ev.aload_n dX8_goes_80 rfl rfl ?_
    refine Ev.iload_n dX8_goes_81 rfl rfl ?_
    refine Ev.aload_n dX8_goes_82 rfl rfl ?_
    refine gf_X8_41 rfl dX8_goes_83 ltc_272 shc_272 rfc_272_14 ?_
    refine Ev.bipush (n := 6) (by decide) dX8_goes_86 ?_
    refine Ev.iload_n dX8_goes_88 rfl rfl ?_
    refine Ev.imul dX8_goes_89 ?_
    refine Ev.iload_n dX8_goes_90 rfl rfl ?_
    refine Ev.iadd dX8_goes_91 ?_
    refine Ev.iaload (v := ((rO R i : Nat) : Int)) dX8_goes_92 ltc_283 shc_283 (by decide) (by omega) (by omega) (ldx (n := 6 * r + i) (by omega) (hP i (by omega)).1) ?_
    refine Ev.iload_n dX8_goes_93 rfl rfl ?_
    refine Ev.callV_I (M2 := mX8_goesByClause) (args2 := [vI (((r : Nat) : Int)), vI (((rO R i : Nat) : Int)), vI (((v : Nat) : Int))]) (rcv := 272) (q := (RX8, TX8, 34)) (ci := 8) dX8_goes_94 okX8_goesByClause lk_X8_187 ovX8_goesByClause.1.1 ovX8_goesByClause.1.2 ovX8_goesByClause.2 (by decide) rfl rfl ltc_272 shc_272 rfl (Nat.le_of_ble_eq_true rfl) (Nat.le_of_ble_eq_true rfl) (sM_goesByClause σ r U R X hr hM hW hX i v hi hv hk) ?_ rfl
    exact Ev.zreturn dX8_goes_97 rfl bI_or (rI (bI_congr (goes_5 hk).symm) rfl)

set_option maxRecDepth 100000 in
set_option maxHeartbeats 4000000 in
theorem sM_left_l {g : GC} (σ : Sg) (r U : Nat) (R : RC) (X : Rg) (hr : r < 16) (hM : MR σ r R) (hW : WR U R) (hX : AV σ 294 U X) (i : Nat) (hi : i < rN R) (T : Tb) (hT : TVm σ T) : ∀ j K : Nat, K + j = 16 → Ev g mX8_left 13 [some (vR (272)), some (vI (((r : Nat) : Int))), some (vI (((i : Nat) : Int))), some (vI (((X (rO R i) : Nat) : Int))), some (vI (((lfK T R X i K : Nat) : Int))), some (vI (((K : Nat) : Int)))] [] (M0 (σ)) 0 0 (retI ((lft T R X i : Nat) : Int) σ) := by
  intro j
  induction j with
  | zero =>
    intro K hij
    obtain ⟨hK, hS, hB, hN, hP⟩ := id hM
    obtain ⟨⟨hk5, hn6, hU⟩, hO, -⟩ := id hW
    have hXR : ∀ k, k < rN R → X (rO R k) ≠ 0 ∧ X (rO R k) < 65536 := fun k hk => (hX _ (hO k hk)).2
    have hxi := hXR i hi
    refine Ev.iload dX8_left_13 rfl ?_
    refine Ev.bipush (n := 16) (by decide) dX8_left_15 ?_
    refine Ev.icmp_ge (tgt := 56) ⟨by omega, by omega⟩ ⟨by decide, by decide⟩ dX8_left_17 (by decide) (fun h17 => ?_) (fun h17 => ?_)
    · skip
      refine Ev.iload dX8_left_56 rfl ?_
      exact Ev.ireturn dX8_left_58 rfl (rI (by rw [lfK_16 (by omega)]) rfl)
    · exact absurd h17 (by omega)
  | succ j ih =>
    intro K hij
    obtain ⟨hK, hS, hB, hN, hP⟩ := id hM
    obtain ⟨⟨hk5, hn6, hU⟩, hO, -⟩ := id hW
    have hXR : ∀ k, k < rN R → X (rO R k) ≠ 0 ∧ X (rO R k) < 65536 := fun k hk => (hX _ (hO k hk)).2
    have hxi := hXR i hi
    have hlK : lfK T R X i K < 65536 := mk_lt _
    refine Ev.iload dX8_left_13 rfl ?_
    refine Ev.bipush (n := 16) (by decide) dX8_left_15 ?_
    refine Ev.icmp_ge (tgt := 56) ⟨by omega, by omega⟩ ⟨by decide, by decide⟩ dX8_left_17 (by decide) (fun h17 => ?_) (fun h17 => ?_)
    · exact absurd h17 (by omega)
    · skip
      refine Ev.iload_n dX8_left_20 rfl rfl ?_
      refine Ev.iload dX8_left_21 rfl ?_
      refine Ev.ishr dX8_left_23 ?_
      refine Ev.iconst dX8_left_24 ?_
      refine Ev.iand dX8_left_25 ?_
      rw [show (iAnd ((iShr (((X (rO R i) : Nat) : Int)) (((K : Nat) : Int)))) (1)) = (((b2 (Nat.testBit (X (rO R i)) K)) : Nat) : Int) from bit_nat (by omega) (by omega)]
      refine Ev.iconst dX8_left_26 ?_
      refine Ev.icmp_ne (tgt := 50) b2_inR ⟨by decide, by decide⟩ dX8_left_27 (by decide) (fun h27 => ?_) (fun h27 => ?_)
      · skip
        refine Ev.iinc (pl' := [some (vR (272)), some (vI (((r : Nat) : Int))), some (vI (((i : Nat) : Int))), some (vI (((X (rO R i) : Nat) : Int))), some (vI (((lfK T R X i K : Nat) : Int))), some (vI (((K : Nat) : Int) + 1))]) dX8_left_50 rfl (Nat.le_of_ble_eq_true rfl) rfl ?_
        refine Ev.goto (tgt := 13) dX8_left_53 (by decide) ?_
        refine Ev.wk (pl' := [some (vR (272)), some (vI (((r : Nat) : Int))), some (vI (((i : Nat) : Int))), some (vI (((X (rO R i) : Nat) : Int))), some (vI (((lfK T R X i (K + 1) : Nat) : Int))), some (vI ((((K + 1) : Nat) : Int)))]) ⟨rfl, ⟨rfl, ⟨rfl, ⟨rfl, ⟨vIe (by first | (have hy := lfK_y (T := T) (R := R) (X := X) (i := i) (K := K) (by omega) (b2_1.mp (by assumption)) (bI_1.mp (by assumption)); omega) | rw [lfK_n (fun z => bI_0.mp (by assumption) z.2)] | rw [lfK_n (fun z => absurd (b2_1.mpr z.1) (by assumption))]), ⟨vIe (by omega), trivial⟩⟩⟩⟩⟩⟩ ?_
        exact ih (K + 1) (by omega)
      · skip
        refine Ev.aload_n dX8_left_30 rfl rfl ?_
        refine Ev.iload_n dX8_left_31 rfl rfl ?_
        refine Ev.iload_n dX8_left_32 rfl rfl ?_
        refine Ev.iload dX8_left_33 rfl ?_
        refine Ev.callV_I (M2 := mX8_goes) (args2 := [vI (((r : Nat) : Int)), vI (((i : Nat) : Int)), vI (((K : Nat) : Int))]) (rcv := 272) (q := (RX8, TX8, 34)) (ci := 8) dX8_left_35 okX8_goes lk_X8_190 ovX8_goes.1.1 ovX8_goes.1.2 ovX8_goes.2 (by decide) rfl rfl ltc_272 shc_272 rfl (Nat.le_of_ble_eq_true rfl) (Nat.le_of_ble_eq_true rfl) (sM_goes σ r U R X hr hM hW hX i K hi (by omega) T hT) ?_ rfl
        refine Ev.if_eq (tgt := 50) bI_inR dX8_left_38 (by decide) (fun h38 => ?_) (fun h38 => ?_)
        · skip
          refine Ev.iinc (pl' := [some (vR (272)), some (vI (((r : Nat) : Int))), some (vI (((i : Nat) : Int))), some (vI (((X (rO R i) : Nat) : Int))), some (vI (((lfK T R X i K : Nat) : Int))), some (vI (((K : Nat) : Int) + 1))]) dX8_left_50 rfl (Nat.le_of_ble_eq_true rfl) rfl ?_
          refine Ev.goto (tgt := 13) dX8_left_53 (by decide) ?_
          refine Ev.wk (pl' := [some (vR (272)), some (vI (((r : Nat) : Int))), some (vI (((i : Nat) : Int))), some (vI (((X (rO R i) : Nat) : Int))), some (vI (((lfK T R X i (K + 1) : Nat) : Int))), some (vI ((((K + 1) : Nat) : Int)))]) ⟨rfl, ⟨rfl, ⟨rfl, ⟨rfl, ⟨vIe (by first | (have hy := lfK_y (T := T) (R := R) (X := X) (i := i) (K := K) (by omega) (b2_1.mp (by assumption)) (bI_1.mp (by assumption)); omega) | rw [lfK_n (fun z => bI_0.mp (by assumption) z.2)] | rw [lfK_n (fun z => absurd (b2_1.mpr z.1) (by assumption))]), ⟨vIe (by omega), trivial⟩⟩⟩⟩⟩⟩ ?_
          exact ih (K + 1) (by omega)
        · skip
          refine Ev.iload dX8_left_41 rfl ?_
          refine Ev.iconst dX8_left_43 ?_
          refine Ev.iload dX8_left_44 rfl ?_
          refine Ev.ishl dX8_left_46 ?_
          rw [show (iShl (1) (((K : Nat) : Int))) = ((2 ^ K : Nat) : Int) from shl1 (by omega)]
          refine Ev.isub dX8_left_47 ?_
          refine Ev.istore (pl' := [some (vR (272)), some (vI (((r : Nat) : Int))), some (vI (((i : Nat) : Int))), some (vI (((X (rO R i) : Nat) : Int))), some (vI ((((lfK T R X i K : Nat) : Int) - ((2 ^ K : Nat) : Int)))), some (vI (((K : Nat) : Int)))]) dX8_left_48 (Nat.le_of_ble_eq_true rfl) rfl ?_
          refine Ev.iinc (pl' := [some (vR (272)), some (vI (((r : Nat) : Int))), some (vI (((i : Nat) : Int))), some (vI (((X (rO R i) : Nat) : Int))), some (vI ((((lfK T R X i K : Nat) : Int) - ((2 ^ K : Nat) : Int)))), some (vI (((K : Nat) : Int) + 1))]) dX8_left_50 rfl (Nat.le_of_ble_eq_true rfl) rfl ?_
          refine Ev.goto (tgt := 13) dX8_left_53 (by decide) ?_
          refine Ev.wk (pl' := [some (vR (272)), some (vI (((r : Nat) : Int))), some (vI (((i : Nat) : Int))), some (vI (((X (rO R i) : Nat) : Int))), some (vI (((lfK T R X i (K + 1) : Nat) : Int))), some (vI ((((K + 1) : Nat) : Int)))]) ⟨rfl, ⟨rfl, ⟨rfl, ⟨rfl, ⟨vIe (by first | (have hy := lfK_y (T := T) (R := R) (X := X) (i := i) (K := K) (by omega) (b2_1.mp (by assumption)) (bI_1.mp (by assumption)); omega) | rw [lfK_n (fun z => bI_0.mp (by assumption) z.2)] | rw [lfK_n (fun z => absurd (b2_1.mpr z.1) (by assumption))]), ⟨vIe (by omega), trivial⟩⟩⟩⟩⟩⟩ ?_
          exact ih (K + 1) (by omega)

set_option maxRecDepth 100000 in
set_option maxHeartbeats 4000000 in
theorem sM_left {g : GC} (σ : Sg) (r U : Nat) (R : RC) (X : Rg) (hr : r < 16) (hM : MR σ r R) (hW : WR U R) (hX : AV σ 294 U X) (i : Nat) (hi : i < rN R) (T : Tb) (hT : TVm σ T) : Ev g mX8_left 0 [some (vR (272)), some (vI (((r : Nat) : Int))), some (vI (((i : Nat) : Int))), none, none, none] [] (M0 (σ)) 0 0 (retI ((lft T R X i : Nat) : Int) σ) := by
  obtain ⟨hK, hS, hB, hN, hP⟩ := id hM
  obtain ⟨⟨hk5, hn6, hU⟩, hO, -⟩ := id hW
  have hXR : ∀ k, k < rN R → X (rO R k) ≠ 0 ∧ X (rO R k) < 65536 := fun k hk => (hX _ (hO k hk)).2
  refine Ev.aload_n dX8_left_0 rfl rfl ?_
  refine Ev.iload_n dX8_left_1 rfl rfl ?_
  refine Ev.iload_n dX8_left_2 rfl rfl ?_
  refine Ev.callV_I (M2 := mX8_asideOf) (args2 := [vI (((r : Nat) : Int)), vI (((i : Nat) : Int))]) (rcv := 272) (q := (RX8, TX8, 34)) (ci := 8) dX8_left_3 okX8_asideOf lk_X8_155 ovX8_asideOf.1.1 ovX8_asideOf.1.2 ovX8_asideOf.2 (by decide) rfl rfl ltc_272 shc_272 rfl (Nat.le_of_ble_eq_true rfl) (Nat.le_of_ble_eq_true rfl) (sM_asideOf σ r U R X hr hM hW hX i (by omega)) ?_ rfl
  refine Ev.istore_n (pl' := [some (vR (272)), some (vI (((r : Nat) : Int))), some (vI (((i : Nat) : Int))), some (vI (((X (rO R i) : Nat) : Int))), none, none]) dX8_left_6 rfl (Nat.le_of_ble_eq_true rfl) rfl ?_
  refine Ev.iload_n dX8_left_7 rfl rfl ?_
  refine Ev.istore (pl' := [some (vR (272)), some (vI (((r : Nat) : Int))), some (vI (((i : Nat) : Int))), some (vI (((X (rO R i) : Nat) : Int))), some (vI (((X (rO R i) : Nat) : Int))), none]) dX8_left_8 (Nat.le_of_ble_eq_true rfl) rfl ?_
  refine Ev.iconst dX8_left_10 ?_
  refine Ev.istore (pl' := [some (vR (272)), some (vI (((r : Nat) : Int))), some (vI (((i : Nat) : Int))), some (vI (((X (rO R i) : Nat) : Int))), some (vI (((X (rO R i) : Nat) : Int))), some (vI (0))]) dX8_left_11 (Nat.le_of_ble_eq_true rfl) rfl ?_
  refine Ev.wk (pl' := [some (vR (272)), some (vI (((r : Nat) : Int))), some (vI (((i : Nat) : Int))), some (vI (((X (rO R i) : Nat) : Int))), some (vI (((lfK T R X i 0 : Nat) : Int))), some (vI (((0 : Nat) : Int)))]) ⟨rfl, ⟨rfl, ⟨rfl, ⟨rfl, ⟨vIe (by rw [lfK_0 (hXR i hi).2]), ⟨vIe rfl, trivial⟩⟩⟩⟩⟩⟩ ?_
  exact sM_left_l σ r U R X hr hM hW hX i hi T hT 16 0 (by omega)

