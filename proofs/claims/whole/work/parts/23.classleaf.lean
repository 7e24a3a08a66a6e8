/-! THE CLASS: leaves; what of a rule, a range, a table stands where -/
theorem clr_lo {m : Nat} (h : m < 65536) (h0 : m ≠ 0) : m &&& (m - 1) = andN m (2 ^ lo m) := by
  obtain ⟨q, hq⟩ := lo_odd 16 m (lo_lt h h0)
  have e : loN 16 m = lo m := rfl
  rw [e] at hq
  generalize lo m = k at hq
  have hp : 0 < 2 ^ k := Nat.pow_pos (by decide)
  have e1 : m = 2 ^ k * (2 * q + 1) + 0 := by rw [hq]; rfl
  have e2 : m - 1 = 2 ^ k * (2 * q) + (2 ^ k - 1) := by rw [hq, Nat.mul_add, Nat.mul_one]; omega
  apply Nat.eq_of_testBit_eq
  intro j
  rw [Nat.testBit_and, andN_tb, Nat.testBit_two_pow, e2, e1, Nat.testBit_two_pow_mul_add _ hp, Nat.testBit_two_pow_mul_add _ (show 2 ^ k - 1 < 2 ^ k by omega)]
  by_cases hj : j < k
  · simp [hj]
  · rw [if_neg hj, if_neg hj]
    cases hd : j - k with
    | zero => have : k = j := by omega
              simp [this]
    | succ i =>
      have : k ≠ j := by omega
      rw [Nat.testBit_succ, Nat.testBit_succ, show 2 * q / 2 = q by omega, show (2 * q + 1) / 2 = q by omega]
      simp [this]
theorem popN_clr {m k : Nat} (h : m.testBit k = true) (n : Nat) (hk : k < n) : popN n (andN m (2 ^ k)) + 1 = popN n m := by
  have same : ∀ n, n ≤ k → popN n (andN m (2 ^ k)) = popN n m := by
    intro n
    induction n with
    | zero => intro _; rfl
    | succ n ih =>
      intro hn
      simp only [popN]
      rw [ih (by omega), andN_tb, Nat.testBit_two_pow]
      have : k ≠ n := by omega
      simp [this]
  induction n with
  | zero => omega
  | succ n ih =>
    simp only [popN]
    rw [andN_tb, Nat.testBit_two_pow]
    rcases Nat.lt_or_ge k n with h1 | h1
    · have : k ≠ n := by omega
      have := ih h1
      simp [*]
      omega
    · have e : k = n := by omega
      rw [same n (by omega), ← e, h]
      simp [b2]
theorem pop_0 {m : Nat} (h : m < 65536) (hp : pop m = 0) : m = 0 := by
  rcases Nat.eq_zero_or_pos m with h1 | h1
  · exact h1
  · have := pop_pos h (by omega); omega
theorem one_iff {m : Nat} (h : m < 65536) (h0 : m ≠ 0) : m &&& (m - 1) = 0 ↔ pop m = 1 := by
  rw [clr_lo h h0]
  have h1 : pop (andN m (2 ^ lo m)) + 1 = pop m := popN_clr (lo_tb h h0) 16 (lo_lt h h0)
  constructor
  · intro z
    rw [z] at h1
    have : pop 0 = 0 := by decide
    omega
  · intro z
    exact pop_0 (andN_lt h) (by omega)
/-- cells other than those of a list are as before -/
def Same (L : List Nat) (σ τ : Sg) : Prop := ∀ c, c ∉ L → τ c = σ c
theorem Same.rf {L : List Nat} {σ : Sg} : Same L σ σ := fun _ _ => rfl
theorem Same.tr {L : List Nat} {σ τ ρ : Sg} (h : Same L σ τ) (h2 : Same L τ ρ) : Same L σ ρ := fun c hc => (h2 c hc).trans (h c hc)
theorem Same.up {L : List Nat} {σ τ : Sg} {c i : Nat} {v : Int} (h : Same L σ τ) (hc : c ∈ L) : Same L σ (upC τ c i v) := fun c' hc' => by
  rw [upC_ne (fun e => hc' (by rw [e]; exact hc))]
  exact h c' hc'
theorem Same.wide {L L' : List Nat} {σ τ : Sg} (h : Same L σ τ) (hl : ∀ c, c ∈ L → c ∈ L') : Same L' σ τ := fun c hc => h c (fun z => hc (hl c z))
theorem Same.at {L : List Nat} {σ τ : Sg} (h : Same L σ τ) {c : Nat} (hc : c ∉ L) (i : Nat) : τ c i = σ c i := by rw [h c hc]
/-- the unknowns of a rule, as bits -/
noncomputable def memM (R : RC) : Nat := mkN 10 (fun x => ∃ k, k < rN R ∧ rO R k = x)
/-- rule r of the class (0 .. 15; 16 .. 55 the lines) is R -/
def CR (σ : Sg) (r : Nat) (R : RC) : Prop := σ (26 + 4 * r) 0 = (rK R : Int) ∧ σ (26 + 4 * r) 1 = rS R ∧ σ (26 + 4 * r) 2 = rB R ∧ σ (26 + 4 * r) 3 = (rN R : Int) ∧ σ (26 + 4 * r) 4 = (memM R : Int) ∧ ∀ k, k < rN R → σ (26 + 4 * r + 1) k = (rO R k : Int) ∧ σ (26 + 4 * r + 2) k = rA R k ∧ σ (26 + 4 * r + 3) k = rZ R k
theorem CR.same {L : List Nat} {σ τ : Sg} {r : Nat} {R : RC} (h : CR σ r R) (hs : Same L σ τ) (hL : ∀ j, j < 4 → 26 + 4 * r + j ∉ L) : CR τ r R := by
  obtain ⟨h1, h2, h3, h4, h5, h6⟩ := h
  have e0 := hs (26 + 4 * r) (hL 0 (by decide))
  have e1 := hs (26 + 4 * r + 1) (hL 1 (by decide))
  have e2 := hs (26 + 4 * r + 2) (hL 2 (by decide))
  have e3 := hs (26 + 4 * r + 3) (hL 3 (by decide))
  unfold CR
  rw [e0, e1, e2, e3]
  exact ⟨h1, h2, h3, h4, h5, h6⟩
def TVc (σ : Sg) (T : Tb) : Prop := ∀ t, t < 6 → σ 251 t = T.1 t ∧ (-1 ≤ T.1 t ∧ T.1 t ≤ 48) ∧ ∀ j, j < 48 → σ (253 + t) j = (T.2 t j : Int) ∧ T.2 t j < 16
theorem TVc.same {L : List Nat} {σ τ : Sg} {T : Tb} (h : TVc σ T) (hs : Same L σ τ) (hL : ∀ c, 251 ≤ c → c < 259 → c ∉ L) : TVc τ T := by
  intro t ht
  obtain ⟨h1, h2, h3⟩ := h t ht
  rw [hs 251 (hL 251 (by omega) (by omega)), hs (253 + t) (hL _ (by omega) (by omega))]
  exact ⟨h1, h2, h3⟩
theorem AV.same {L : List Nat} {σ τ : Sg} {c U : Nat} {X : Rg} (h : AV σ c U X) (hs : Same L σ τ) (hL : c ∉ L) : AV τ c U X := by
  intro x hx
  rw [hs c hL]
  exact h x hx
set_option maxRecDepth 100000 in
set_option maxHeartbeats 4000000 in
theorem s7_isOne {g : GC} (σ : Sg) (m : Nat) (h : m < 65536) (h0 : m ≠ 0) : Ev g mX7_isOne 0 [some (vI (((m : Nat) : Int)))] [] (M0 (σ)) 0 0 (retI (bI (pop m = 1)) σ) := by
  refine Ev.iload_n dX7_isOne_0 rfl rfl ?_
  refine Ev.iload_n dX7_isOne_1 rfl rfl ?_
  refine Ev.iconst dX7_isOne_2 ?_
  refine Ev.isub dX7_isOne_3 ?_
  refine Ev.iand dX7_isOne_4 ?_
  rw [show (iAnd (((m : Nat) : Int)) ((((m : Nat) : Int) - 1))) = (((m &&& (m - 1)) : Nat) : Int) from by rw [show ((m : Nat) : Int) - 1 = ((m - 1 : Nat) : Int) by omega]; exact iAnd_nat (by omega)]
  refine Ev.if_ne (tgt := 12) ⟨by omega, by have := @Nat.and_le_left m (m - 1); omega⟩ dX7_isOne_5 (by decide) (fun h5 => ?_) (fun h5 => ?_)
  · skip
    refine Ev.iconst dX7_isOne_12 ?_
    exact Ev.zreturn dX7_isOne_13 rfl (Or.inl rfl) (rI (bI_f (fun z => absurd ((one_iff h h0).mpr z) (by omega))) rfl)
  · skip
    refine Ev.iconst dX7_isOne_8 ?_
    refine Ev.goto (tgt := 13) dX7_isOne_9 (by decide) ?_
    exact Ev.zreturn dX7_isOne_13 rfl (Or.inr rfl) (rI (bI_t ((one_iff h h0).mp (by omega))) rfl)

set_option maxRecDepth 100000 in
set_option maxHeartbeats 4000000 in
theorem s7_least {g : GC} (σ : Sg) (m : Nat) (h : m < 65536) (h0 : m ≠ 0) : Ev g mX7_least 0 [some (vI (((m : Nat) : Int)))] [] (M0 (σ)) 0 0 (retI ((lo m : Nat) : Int) σ) := by
  refine Ev.iload_n dX7_least_0 rfl rfl ?_
  refine Ev.callS_I (M2 := mJ6_numberOfTrailingZeros_0f7a4) (args2 := [vI (((m : Nat) : Int))]) dX7_least_1 okJ6_numberOfTrailingZeros_0f7a4 lk_X7_296 osJ6_numberOfTrailingZeros_0f7a4.1 osJ6_numberOfTrailingZeros_0f7a4.2 (by decide) rfl (Nat.le_of_ble_eq_true rfl) (Nat.le_of_ble_eq_true rfl) (sJ_ntz σ m (by omega) (by omega)) ?_ rfl
  exact Ev.ireturn dX7_least_4 rfl (rI rfl rfl)

set_option maxRecDepth 100000 in
set_option maxHeartbeats 4000000 in
theorem s7_greatest {g : GC} (σ : Sg) (m : Nat) (h : m < 65536) (h0 : m ≠ 0) : Ev g mX7_greatest 0 [some (vI (((m : Nat) : Int)))] [] (M0 (σ)) 0 0 (retI ((hi m : Nat) : Int) σ) := by
  refine Ev.bipush (n := 31) (by decide) dX7_greatest_0 ?_
  refine Ev.iload_n dX7_greatest_2 rfl rfl ?_
  refine Ev.callS_I (M2 := mJ6_numberOfLeadingZeros_0f7a4) (args2 := [vI (((m : Nat) : Int))]) dX7_greatest_3 okJ6_numberOfLeadingZeros_0f7a4 lk_X7_299 osJ6_numberOfLeadingZeros_0f7a4.1 osJ6_numberOfLeadingZeros_0f7a4.2 (by decide) rfl (Nat.le_of_ble_eq_true rfl) (Nat.le_of_ble_eq_true rfl) (sJ_nlz σ m (by omega) (by omega)) ?_ rfl
  refine Ev.isub dX7_greatest_6 ?_
  exact Ev.ireturn dX7_greatest_7 rfl (rI (by omega) rfl)

set_option maxRecDepth 100000 in
set_option maxHeartbeats 4000000 in
theorem s1_lowest {g : GC} (σ : Sg) (a : Int) (m : Nat) (ha : -9 ≤ a ∧ a ≤ 9) (h : m < 65536) (h0 : m ≠ 0) : Ev g mX1_lowest 0 [some (vI (a)), some (vI (((m : Nat) : Int)))] [] (M0 (σ)) 0 0 (retI (mn a m) σ) := by
  refine Ev.iload_n dX1_lowest_0 rfl rfl ?_
  refine Ev.iload_n dX1_lowest_1 rfl rfl ?_
  refine Ev.if_le (tgt := 12) ⟨by omega, by omega⟩ dX1_lowest_2 (by decide) (fun h2 => ?_) (fun h2 => ?_)
  · skip
    refine Ev.bipush (n := 31) (by decide) dX1_lowest_12 ?_
    refine Ev.iload_n dX1_lowest_14 rfl rfl ?_
    refine Ev.callS_I (M2 := mJ6_numberOfLeadingZeros_0f7a4) (args2 := [vI (((m : Nat) : Int))]) dX1_lowest_15 okJ6_numberOfLeadingZeros_0f7a4 lk_X1_83 osJ6_numberOfLeadingZeros_0f7a4.1 osJ6_numberOfLeadingZeros_0f7a4.2 (by decide) rfl (Nat.le_of_ble_eq_true rfl) (Nat.le_of_ble_eq_true rfl) (sJ_nlz σ m (by omega) (by omega)) ?_ rfl
    refine Ev.isub dX1_lowest_18 ?_
    refine Ev.imul dX1_lowest_19 ?_
    exact Ev.ireturn dX1_lowest_20 rfl (rI (by unfold mn; first | (rw [if_pos (by omega)]; done) | (rw [if_neg (by omega)]; done) | (rw [if_pos (by omega)]; congr 1; omega) | (rw [if_neg (by omega)]; congr 1; omega)) rfl)
  · skip
    refine Ev.iload_n dX1_lowest_5 rfl rfl ?_
    refine Ev.callS_I (M2 := mJ6_numberOfTrailingZeros_0f7a4) (args2 := [vI (((m : Nat) : Int))]) dX1_lowest_6 okJ6_numberOfTrailingZeros_0f7a4 lk_X1_77 osJ6_numberOfTrailingZeros_0f7a4.1 osJ6_numberOfTrailingZeros_0f7a4.2 (by decide) rfl (Nat.le_of_ble_eq_true rfl) (Nat.le_of_ble_eq_true rfl) (sJ_ntz σ m (by omega) (by omega)) ?_ rfl
    refine Ev.goto (tgt := 19) dX1_lowest_9 (by decide) ?_
    refine Ev.imul dX1_lowest_19 ?_
    exact Ev.ireturn dX1_lowest_20 rfl (rI (by unfold mn; first | (rw [if_pos (by omega)]; done) | (rw [if_neg (by omega)]; done) | (rw [if_pos (by omega)]; congr 1; omega) | (rw [if_neg (by omega)]; congr 1; omega)) rfl)

set_option maxRecDepth 100000 in
set_option maxHeartbeats 4000000 in
theorem s1_highest {g : GC} (σ : Sg) (a : Int) (m : Nat) (ha : -9 ≤ a ∧ a ≤ 9) (h : m < 65536) (h0 : m ≠ 0) : Ev g mX1_highest 0 [some (vI (a)), some (vI (((m : Nat) : Int)))] [] (M0 (σ)) 0 0 (retI (mx a m) σ) := by
  refine Ev.iload_n dX1_highest_0 rfl rfl ?_
  refine Ev.iload_n dX1_highest_1 rfl rfl ?_
  refine Ev.if_le (tgt := 15) ⟨by omega, by omega⟩ dX1_highest_2 (by decide) (fun h2 => ?_) (fun h2 => ?_)
  · skip
    refine Ev.iload_n dX1_highest_15 rfl rfl ?_
    refine Ev.callS_I (M2 := mJ6_numberOfTrailingZeros_0f7a4) (args2 := [vI (((m : Nat) : Int))]) dX1_highest_16 okJ6_numberOfTrailingZeros_0f7a4 lk_X1_77 osJ6_numberOfTrailingZeros_0f7a4.1 osJ6_numberOfTrailingZeros_0f7a4.2 (by decide) rfl (Nat.le_of_ble_eq_true rfl) (Nat.le_of_ble_eq_true rfl) (sJ_ntz σ m (by omega) (by omega)) ?_ rfl
    refine Ev.imul dX1_highest_19 ?_
    exact Ev.ireturn dX1_highest_20 rfl (rI (by unfold mx; first | (rw [if_pos (by omega)]; done) | (rw [if_neg (by omega)]; done) | (rw [if_pos (by omega)]; congr 1; omega) | (rw [if_neg (by omega)]; congr 1; omega)) rfl)
  · skip
    refine Ev.bipush (n := 31) (by decide) dX1_highest_5 ?_
    refine Ev.iload_n dX1_highest_7 rfl rfl ?_
    refine Ev.callS_I (M2 := mJ6_numberOfLeadingZeros_0f7a4) (args2 := [vI (((m : Nat) : Int))]) dX1_highest_8 okJ6_numberOfLeadingZeros_0f7a4 lk_X1_83 osJ6_numberOfLeadingZeros_0f7a4.1 osJ6_numberOfLeadingZeros_0f7a4.2 (by decide) rfl (Nat.le_of_ble_eq_true rfl) (Nat.le_of_ble_eq_true rfl) (sJ_nlz σ m (by omega) (by omega)) ?_ rfl
    refine Ev.isub dX1_highest_11 ?_
    refine Ev.goto (tgt := 19) dX1_highest_12 (by decide) ?_
    refine Ev.imul dX1_highest_19 ?_
    exact Ev.ireturn dX1_highest_20 rfl (rI (by unfold mx; first | (rw [if_pos (by omega)]; done) | (rw [if_neg (by omega)]; done) | (rw [if_pos (by omega)]; congr 1; omega) | (rw [if_neg (by omega)]; congr 1; omega)) rfl)

theorem memM_lt {R : RC} : memM R < 1024 := mkN_lt 10 _
theorem memM_inR {R : RC} : inR ((memM R : Nat) : Int) := by have := @memM_lt R; exact ⟨by omega, by omega⟩
theorem memM_tb {U : Nat} {R : RC} (hW : WR U R) (x : Nat) : (memM R).testBit x = true ↔ ∃ k, k < rN R ∧ rO R k = x := by
  unfold memM
  rw [mkN_tb]
  constructor
  · exact fun z => z.2
  · rintro ⟨k, h1, h2⟩
    refine ⟨?_, k, h1, h2⟩
    have := hW.2.1 k h1
    have := hW.1.2.2
    omega
set_option maxRecDepth 100000 in
set_option maxHeartbeats 4000000 in
theorem s3_isOf {g : GC} (σ : Sg) (r U : Nat) (R : RC) (hr : r < 56) (hM : CR σ r R) (hW : WR U R) (x : Nat) (hx : x < 10) : Ev g mX3_isOf 0 [some (vR (26 + 4 * r)), some (vI (((x : Nat) : Int)))] [] (M0 (σ)) 0 0 (retI (bI (∃ k, k < rN R ∧ rO R k = x)) σ) := by
  obtain ⟨hK, hS, hB, hN, hE, hP⟩ := id hM
  obtain ⟨⟨hk5, hn6, hU⟩, hO, -⟩ := id hW
  have hml := @memM_lt R
  refine Ev.aload_n dX3_isOf_0 rfl rfl ?_
  refine gf_X3_34 (x := ((memM R : Nat) : Int)) rfl dX3_isOf_1 (lt_rc (by omega)) (sh_rc (by omega)) hE ?_
  refine Ev.iload_n dX3_isOf_4 rfl rfl ?_
  refine Ev.ishr dX3_isOf_5 ?_
  refine Ev.iconst dX3_isOf_6 ?_
  refine Ev.iand dX3_isOf_7 ?_
  rw [show (iAnd ((iShr (((memM R : Nat) : Int)) (((x : Nat) : Int)))) (1)) = (((b2 (Nat.testBit (memM R) x)) : Nat) : Int) from bit_nat (by omega) (by omega)]
  refine Ev.if_eq (tgt := 15) b2_inR dX3_isOf_8 (by decide) (fun h8 => ?_) (fun h8 => ?_)
  · skip
    refine Ev.iconst dX3_isOf_15 ?_
    exact Ev.zreturn dX3_isOf_16 rfl (Or.inl rfl) (rI (bI_f (fun z => absurd ((memM_tb hW x).mpr z) (by have := b2_0.mp (by assumption); simp_all))) rfl)
  · skip
    refine Ev.iconst dX3_isOf_11 ?_
    refine Ev.goto (tgt := 16) dX3_isOf_12 (by decide) ?_
    exact Ev.zreturn dX3_isOf_16 rfl (Or.inr rfl) (rI (bI_t ((memM_tb hW x).mp (b2_ne.mp (by assumption)))) rfl)

set_option maxRecDepth 100000 in
set_option maxHeartbeats 4000000 in
theorem s5_all {g : GC} (σ : Sg) (n : Nat) (hn : σ 4 0 = n) (hn2 : n ≤ 12) : Ev g mX5_all 0 [some (vR (4))] [] (M0 (σ)) 0 0 (retI ((2 ^ n - 1 : Nat) : Int) σ) := by
  refine Ev.iconst dX5_all_0 ?_
  refine Ev.aload_n dX5_all_1 rfl rfl ?_
  refine gf_X5_23 (x := ((n : Nat) : Int)) rfl dX5_all_2 ltc_4 shc_4 hn ?_
  refine Ev.ishl dX5_all_5 ?_
  rw [show (iShl (1) (((n : Nat) : Int))) = ((2 ^ n : Nat) : Int) from shl1 (by omega)]
  refine Ev.iconst dX5_all_6 ?_
  refine Ev.isub dX5_all_7 ?_
  exact Ev.ireturn dX5_all_8 rfl (rI (by have : 1 ≤ 2 ^ n := Nat.one_le_two_pow; omega) rfl)

set_option maxRecDepth 100000 in
set_option maxHeartbeats 4000000 in
theorem s6_isMissing {g : GC} (σ : Sg) (t : Nat) (ht : t < 6) (T : Tb) (hT : TVc σ T) : Ev g mX6_isMissing 0 [some (vR (250)), some (vI (((t : Nat) : Int)))] [] (M0 (σ)) 0 0 (retI (bI (T.1 t = -1)) σ) := by
  obtain ⟨hz, hzb, hcell⟩ := hT t ht
  refine Ev.aload_n dX6_isMissing_0 rfl rfl ?_
  refine gf_X6_9 rfl dX6_isMissing_1 ltc_250 shc_250 rfc_250_0 ?_
  refine Ev.iload_n dX6_isMissing_4 rfl rfl ?_
  refine Ev.iaload (v := T.1 t) dX6_isMissing_5 ltc_251 shc_251 (by decide) (by omega) (by omega) (ldx (by omega) hz) ?_
  refine Ev.iconst dX6_isMissing_6 ?_
  refine Ev.icmp_ne (tgt := 14) ⟨by omega, by omega⟩ ⟨by decide, by decide⟩ dX6_isMissing_7 (by decide) (fun h7 => ?_) (fun h7 => ?_)
  · skip
    refine Ev.iconst dX6_isMissing_14 ?_
    exact Ev.zreturn dX6_isMissing_15 rfl (Or.inl rfl) (rI (bI_f (by omega)) rfl)
  · skip
    refine Ev.iconst dX6_isMissing_10 ?_
    refine Ev.goto (tgt := 15) dX6_isMissing_11 (by decide) ?_
    exact Ev.zreturn dX6_isMissing_15 rfl (Or.inr rfl) (rI (bI_t (by omega)) rfl)

set_option maxRecDepth 100000 in
set_option maxHeartbeats 4000000 in
theorem s6_hasCells {g : GC} (σ : Sg) (t : Nat) (ht : t < 6) (T : Tb) (hT : TVc σ T) (i n : Int) (hi : inR i) (hn : inR n) : Ev g mX6_hasCells 0 [some (vR (250)), some (vI (((t : Nat) : Int))), some (vI (i)), some (vI (n))] [] (M0 (σ)) 0 0 (retI (bI (0 ≤ i ∧ i ≤ T.1 t ∧ n ≤ T.1 t - i)) σ) := by
  obtain ⟨hz, hzb, hcell⟩ := hT t ht
  refine Ev.iload_n dX6_hasCells_0 rfl rfl ?_
  refine Ev.if_lt (tgt := 30) ⟨by omega, by omega⟩ dX6_hasCells_1 (by decide) (fun h1 => ?_) (fun h1 => ?_)
  · skip
    refine Ev.iconst dX6_hasCells_30 ?_
    exact Ev.zreturn dX6_hasCells_31 rfl (Or.inl rfl) (rI (bI_f (by omega)) rfl)
  · skip
    refine Ev.iload_n dX6_hasCells_4 rfl rfl ?_
    refine Ev.aload_n dX6_hasCells_5 rfl rfl ?_
    refine gf_X6_9 rfl dX6_hasCells_6 ltc_250 shc_250 rfc_250_0 ?_
    refine Ev.iload_n dX6_hasCells_9 rfl rfl ?_
    refine Ev.iaload (v := T.1 t) dX6_hasCells_10 ltc_251 shc_251 (by decide) (by omega) (by omega) (ldx (by omega) hz) ?_
    refine Ev.icmp_gt (tgt := 30) ⟨by omega, by omega⟩ ⟨by omega, by omega⟩ dX6_hasCells_11 (by decide) (fun h11 => ?_) (fun h11 => ?_)
    · skip
      refine Ev.iconst dX6_hasCells_30 ?_
      exact Ev.zreturn dX6_hasCells_31 rfl (Or.inl rfl) (rI (bI_f (by omega)) rfl)
    · skip
      refine Ev.iload_n dX6_hasCells_14 rfl rfl ?_
      refine Ev.aload_n dX6_hasCells_15 rfl rfl ?_
      refine gf_X6_9 rfl dX6_hasCells_16 ltc_250 shc_250 rfc_250_0 ?_
      refine Ev.iload_n dX6_hasCells_19 rfl rfl ?_
      refine Ev.iaload (v := T.1 t) dX6_hasCells_20 ltc_251 shc_251 (by decide) (by omega) (by omega) (ldx (by omega) hz) ?_
      refine Ev.iload_n dX6_hasCells_21 rfl rfl ?_
      refine Ev.isub dX6_hasCells_22 ?_
      refine Ev.icmp_gt (tgt := 30) ⟨by omega, by omega⟩ ⟨by omega, by omega⟩ dX6_hasCells_23 (by decide) (fun h23 => ?_) (fun h23 => ?_)
      · skip
        refine Ev.iconst dX6_hasCells_30 ?_
        exact Ev.zreturn dX6_hasCells_31 rfl (Or.inl rfl) (rI (bI_f (by omega)) rfl)
      · skip
        refine Ev.iconst dX6_hasCells_26 ?_
        refine Ev.goto (tgt := 31) dX6_hasCells_27 (by decide) ?_
        exact Ev.zreturn dX6_hasCells_31 rfl (Or.inr rfl) (rI (bI_t (by omega)) rfl)

set_option maxRecDepth 100000 in
set_option maxHeartbeats 4000000 in
theorem s6_countRows {g : GC} (σ : Sg) (t : Nat) (ht : t < 6) (T : Tb) (hT : TVc σ T) (n : Nat) (hn : n ≤ 6) : Ev g mX6_countRows 0 [some (vR (250)), some (vI (((t : Nat) : Int))), some (vI (((n : Nat) : Int)))] [] (M0 (σ)) 0 0 (retI (if T.1 t < n ∨ n = 0 then 0 else T.1 t / n) σ) := by
  obtain ⟨hz, hzb, hcell⟩ := hT t ht
  refine Ev.aload_n dX6_countRows_0 rfl rfl ?_
  refine gf_X6_9 rfl dX6_countRows_1 ltc_250 shc_250 rfc_250_0 ?_
  refine Ev.iload_n dX6_countRows_4 rfl rfl ?_
  refine Ev.iaload (v := T.1 t) dX6_countRows_5 ltc_251 shc_251 (by decide) (by omega) (by omega) (ldx (by omega) hz) ?_
  refine Ev.iload_n dX6_countRows_6 rfl rfl ?_
  refine Ev.icmp_lt (tgt := 14) ⟨by omega, by omega⟩ ⟨by omega, by omega⟩ dX6_countRows_7 (by decide) (fun h7 => ?_) (fun h7 => ?_)
  · skip
    refine Ev.iconst dX6_countRows_14 ?_
    refine Ev.goto (tgt := 26) dX6_countRows_15 (by decide) ?_
    exact Ev.ireturn dX6_countRows_26 rfl (rI (by first | (rw [if_pos (by omega)]) | (rw [if_neg (by omega)])) rfl)
  · skip
    refine Ev.iload_n dX6_countRows_10 rfl rfl ?_
    refine Ev.if_ne (tgt := 18) ⟨by omega, by omega⟩ dX6_countRows_11 (by decide) (fun h11 => ?_) (fun h11 => ?_)
    · skip
      refine Ev.aload_n dX6_countRows_18 rfl rfl ?_
      refine gf_X6_9 rfl dX6_countRows_19 ltc_250 shc_250 rfc_250_0 ?_
      refine Ev.iload_n dX6_countRows_22 rfl rfl ?_
      refine Ev.iaload (v := T.1 t) dX6_countRows_23 ltc_251 shc_251 (by decide) (by omega) (by omega) (ldx (by omega) hz) ?_
      refine Ev.iload_n dX6_countRows_24 rfl rfl ?_
      refine Ev.idiv (by omega) (by omega) (by omega) (by omega) dX6_countRows_25 ?_
      exact Ev.ireturn dX6_countRows_26 rfl (rI (by first | (rw [if_pos (by omega)]) | (rw [if_neg (by omega)])) rfl)
    · skip
      refine Ev.iconst dX6_countRows_14 ?_
      refine Ev.goto (tgt := 26) dX6_countRows_15 (by decide) ?_
      exact Ev.ireturn dX6_countRows_26 rfl (rI (by first | (rw [if_pos (by omega)]) | (rw [if_neg (by omega)])) rfl)

