/-! LEAVES: counting bits, the least, the greatest; the JDK's own and the reference's -/
theorem bc_pp {m : Nat} (h : m < 65536) : bcN m = popR 16 m := by
  have h1 := bc_all (m / 4096) (by omega)
  have h2 := List.all_eq_true.mp h1 (m / 64 % 64) (List.mem_range.mpr (by omega))
  have h3 := List.all_eq_true.mp h2 (m % 64) (List.mem_range.mpr (by omega))
  rw [show 4096 * (m / 4096) + 64 * (m / 64 % 64) + m % 64 = m by omega] at h3
  exact Nat.eq_of_beq_eq_true h3
theorem b2_mod (m : Nat) : b2 (m.testBit 0) = m % 2 := by
  rw [Nat.testBit_zero, b2]
  have := Nat.mod_lt m (show 0 < 2 by decide)
  by_cases h1 : m % 2 = 1
  · simp [h1]
  · simp [h1]; omega
theorem popN_step (n : Nat) : ∀ m, popN (n + 1) m = m % 2 + popN n (m / 2) := by
  induction n with
  | zero => intro m; simp only [popN]; rw [b2_mod]; omega
  | succ n ih => intro m; rw [popN, ih m, popN, Nat.testBit_succ]; omega
theorem popN_R (n : Nat) : ∀ m, popN n m = popR n m := by
  induction n with
  | zero => intro m; rfl
  | succ n ih => intro m; rw [popN_step, popR, ih]
theorem pp_pop (m : Nat) : popR 16 m = pop m := (popN_R 16 m).symm
theorem bc_pop {m : Nat} (h : m < 65536) : bcN m = pop m := (bc_pp h).trans (pp_pop m)
/-- the least number of a set, 16 if there is none -/
def loN : Nat → Nat → Nat
  | 0, _ => 0
  | n + 1, m => if m % 2 = 1 then 0 else loN n (m / 2) + 1
abbrev lo (m : Nat) : Nat := loN 16 m
abbrev hi (m : Nat) : Nat := Nat.log2 m
theorem tb_0 (m : Nat) : m.testBit 0 = decide (m % 2 = 1) := Nat.testBit_zero m
theorem loN_at (n : Nat) : ∀ m, loN n m ≤ n ∧ (loN n m < n → m.testBit (loN n m) = true) ∧ ∀ j, j < loN n m → m.testBit j = false := by
  induction n with
  | zero => intro m; exact ⟨Nat.le_refl _, fun h => absurd h (by simp [loN]), fun j h => by simp [loN] at h⟩
  | succ n ih =>
    intro m
    simp only [loN]
    by_cases h : m % 2 = 1
    · simp only [h, if_true]
      exact ⟨by omega, fun _ => by rw [tb_0]; simp [h], fun j hj => by omega⟩
    · simp only [h, if_false]
      obtain ⟨h1, h2, h3⟩ := ih (m / 2)
      refine ⟨by omega, fun hl => ?_, fun j hj => ?_⟩
      · rw [Nat.testBit_succ]; exact h2 (by omega)
      · cases j with
        | zero => rw [tb_0]; simp [h]
        | succ j => rw [Nat.testBit_succ]; exact h3 j (by omega)
theorem lo_le (m : Nat) : lo m ≤ 16 := (loN_at 16 m).1
theorem lo_below {m j : Nat} (h : j < lo m) : m.testBit j = false := (loN_at 16 m).2.2 j h
theorem lo_lt {m : Nat} (h : m < 65536) (h0 : m ≠ 0) : lo m < 16 := by
  rcases Nat.lt_or_ge (lo m) 16 with h1 | h1
  · exact h1
  · exfalso
    apply h0
    apply Nat.eq_of_testBit_eq
    intro i
    rw [Nat.zero_testBit]
    by_cases hi : i < 16
    · exact lo_below (by omega)
    · exact tb16 h (by omega)
theorem lo_tb {m : Nat} (h : m < 65536) (h0 : m ≠ 0) : m.testBit (lo m) = true := (loN_at 16 m).2.1 (lo_lt h h0)
theorem lo_min {m j : Nat} (h : m.testBit j = true) : lo m ≤ j := by
  rcases Nat.lt_or_ge j (lo m) with h1 | h1
  · rw [lo_below h1] at h; cases h
  · exact h1
theorem lo_eq {m k : Nat} (h : m.testBit k = true) (hb : ∀ j, j < k → m.testBit j = false) (hm : m < 65536) : k = lo m := by
  have h0 : m ≠ 0 := fun z => by rw [z, Nat.zero_testBit] at h; cases h
  have h1 := lo_min h
  rcases Nat.lt_or_ge (lo m) k with h2 | h2
  · have := lo_tb hm h0; rw [hb _ h2] at this; cases this
  · omega
theorem hi_tb {m : Nat} (h0 : m ≠ 0) : m.testBit (hi m) = true := by
  have h1 := Nat.log2_self_le h0
  have h2 : m < 2 ^ (Nat.log2 m + 1) := Nat.lt_log2_self
  rw [Nat.testBit_eq_decide_div_mod_eq]
  have h3 : m / 2 ^ Nat.log2 m = 1 := by
    apply Nat.div_eq_of_lt_le
    · simpa using h1
    · rw [Nat.pow_succ] at h2; omega
  rw [show hi m = Nat.log2 m from rfl, h3]
  rfl
theorem hi_lt {m : Nat} (h : m < 65536) (h0 : m ≠ 0) : hi m < 16 := (Nat.log2_lt h0).mpr h
theorem hi_max {m j : Nat} (h : m.testBit j = true) : j ≤ hi m := by
  have h0 : m ≠ 0 := fun z => by rw [z, Nat.zero_testBit] at h; cases h
  have h1 := Nat.ge_two_pow_of_testBit h
  rcases Nat.lt_or_ge (hi m) j with h2 | h2
  · have := (Nat.log2_lt h0).mp h2
    omega
  · exact h2
/-- by cases of sixteen -/
theorem hi_or {m : Nat} (h : m < 65536) (h0 : m ≠ 0) : (hi m = 0 ∧ m = 1) ∨ (hi m = 1 ∧ 2 ≤ m ∧ m < 4) ∨ (hi m = 2 ∧ 4 ≤ m ∧ m < 8) ∨ (hi m = 3 ∧ 8 ≤ m ∧ m < 16) ∨ (hi m = 4 ∧ 16 ≤ m ∧ m < 32) ∨ (hi m = 5 ∧ 32 ≤ m ∧ m < 64) ∨ (hi m = 6 ∧ 64 ≤ m ∧ m < 128) ∨ (hi m = 7 ∧ 128 ≤ m ∧ m < 256) ∨ (hi m = 8 ∧ 256 ≤ m ∧ m < 512) ∨ (hi m = 9 ∧ 512 ≤ m ∧ m < 1024) ∨ (hi m = 10 ∧ 1024 ≤ m ∧ m < 2048) ∨ (hi m = 11 ∧ 2048 ≤ m ∧ m < 4096) ∨ (hi m = 12 ∧ 4096 ≤ m ∧ m < 8192) ∨ (hi m = 13 ∧ 8192 ≤ m ∧ m < 16384) ∨ (hi m = 14 ∧ 16384 ≤ m ∧ m < 32768) ∨ (hi m = 15 ∧ 32768 ≤ m) := by
  have h1 := Nat.log2_self_le h0
  have h2 : m < 2 ^ (Nat.log2 m + 1) := Nat.lt_log2_self
  have h3 := hi_lt h h0
  have e : hi m = Nat.log2 m := rfl
  rw [e] at h3 ⊢
  generalize Nat.log2 m = k at h1 h2 h3
  match k, h1, h2, h3 with
  | 0, h1, h2, h3 => simp at h1 h2; exact Or.inl ⟨rfl, by omega⟩
  | 1, h1, h2, h3 => simp at h1 h2; exact Or.inr (Or.inl ⟨rfl, by omega, by omega⟩)
  | 2, h1, h2, h3 => simp at h1 h2; exact Or.inr (Or.inr (Or.inl ⟨rfl, by omega, by omega⟩))
  | 3, h1, h2, h3 => simp at h1 h2; exact Or.inr (Or.inr (Or.inr (Or.inl ⟨rfl, by omega, by omega⟩)))
  | 4, h1, h2, h3 => simp at h1 h2; exact Or.inr (Or.inr (Or.inr (Or.inr (Or.inl ⟨rfl, by omega, by omega⟩))))
  | 5, h1, h2, h3 => simp at h1 h2; exact Or.inr (Or.inr (Or.inr (Or.inr (Or.inr (Or.inl ⟨rfl, by omega, by omega⟩)))))
  | 6, h1, h2, h3 => simp at h1 h2; exact Or.inr (Or.inr (Or.inr (Or.inr (Or.inr (Or.inr (Or.inl ⟨rfl, by omega, by omega⟩))))))
  | 7, h1, h2, h3 => simp at h1 h2; exact Or.inr (Or.inr (Or.inr (Or.inr (Or.inr (Or.inr (Or.inr (Or.inl ⟨rfl, by omega, by omega⟩)))))))
  | 8, h1, h2, h3 => simp at h1 h2; exact Or.inr (Or.inr (Or.inr (Or.inr (Or.inr (Or.inr (Or.inr (Or.inr (Or.inl ⟨rfl, by omega, by omega⟩))))))))
  | 9, h1, h2, h3 => simp at h1 h2; exact Or.inr (Or.inr (Or.inr (Or.inr (Or.inr (Or.inr (Or.inr (Or.inr (Or.inr (Or.inl ⟨rfl, by omega, by omega⟩)))))))))
  | 10, h1, h2, h3 => simp at h1 h2; exact Or.inr (Or.inr (Or.inr (Or.inr (Or.inr (Or.inr (Or.inr (Or.inr (Or.inr (Or.inr (Or.inl ⟨rfl, by omega, by omega⟩))))))))))
  | 11, h1, h2, h3 => simp at h1 h2; exact Or.inr (Or.inr (Or.inr (Or.inr (Or.inr (Or.inr (Or.inr (Or.inr (Or.inr (Or.inr (Or.inr (Or.inl ⟨rfl, by omega, by omega⟩)))))))))))
  | 12, h1, h2, h3 => simp at h1 h2; exact Or.inr (Or.inr (Or.inr (Or.inr (Or.inr (Or.inr (Or.inr (Or.inr (Or.inr (Or.inr (Or.inr (Or.inr (Or.inl ⟨rfl, by omega, by omega⟩))))))))))))
  | 13, h1, h2, h3 => simp at h1 h2; exact Or.inr (Or.inr (Or.inr (Or.inr (Or.inr (Or.inr (Or.inr (Or.inr (Or.inr (Or.inr (Or.inr (Or.inr (Or.inr (Or.inl ⟨rfl, by omega, by omega⟩)))))))))))))
  | 14, h1, h2, h3 => simp at h1 h2; exact Or.inr (Or.inr (Or.inr (Or.inr (Or.inr (Or.inr (Or.inr (Or.inr (Or.inr (Or.inr (Or.inr (Or.inr (Or.inr (Or.inr (Or.inl ⟨rfl, by omega, by omega⟩))))))))))))))
  | 15, h1, h2, h3 => simp at h1 h2; exact Or.inr (Or.inr (Or.inr (Or.inr (Or.inr (Or.inr (Or.inr (Or.inr (Or.inr (Or.inr (Or.inr (Or.inr (Or.inr (Or.inr (Or.inr (⟨rfl, by omega⟩)))))))))))))))
  | k + 16, h1, h2, h3 => omega
theorem lo_odd (n : Nat) : ∀ m, loN n m < n → ∃ q, m = 2 ^ loN n m * (2 * q + 1) := by
  induction n with
  | zero => intro m h; exact absurd h (by omega)
  | succ n ih =>
    intro m h
    simp only [loN] at h ⊢
    by_cases h1 : m % 2 = 1
    · simp only [h1, if_true]
      exact ⟨m / 2, by omega⟩
    · simp only [h1, if_false] at h ⊢
      obtain ⟨q, hq⟩ := ih (m / 2) (by omega)
      refine ⟨q, ?_⟩
      rw [Nat.pow_succ, Nat.mul_assoc, Nat.mul_comm 2, ← Nat.mul_assoc, ← hq]
      omega
theorem lo_x {m : Nat} (h : m < 65536) (h0 : m ≠ 0) : andN (m - 1) m = 2 ^ lo m - 1 := by
  obtain ⟨q, hq⟩ := lo_odd 16 m (lo_lt h h0)
  have e : loN 16 m = lo m := rfl
  rw [e] at hq
  generalize lo m = k at hq
  have hp : 0 < 2 ^ k := Nat.pow_pos (by decide)
  have e1 : m = 2 ^ k * (2 * q + 1) + 0 := by rw [hq]; rfl
  have e2 : m - 1 = 2 ^ k * (2 * q) + (2 ^ k - 1) := by rw [hq, Nat.mul_add, Nat.mul_one]; omega
  apply Nat.eq_of_testBit_eq
  intro j
  rw [andN_tb, e2, e1, Nat.testBit_two_pow_mul_add _ (by omega), Nat.testBit_two_pow_mul_add _ hp, Nat.testBit_two_pow_sub_one]
  by_cases hj : j < k
  · simp [hj]
  · simp only [hj, if_false, decide_false]
    cases hd : j - k with
    | zero => rw [tb_0]; simp
    | succ i =>
      rw [Nat.testBit_succ, Nat.testBit_succ, show 2 * q / 2 = q by omega, show (2 * q + 1) / 2 = q by omega]
      cases q.testBit i <;> rfl
theorem lo_or {k x : Nat} (h : k < 16) (hx : x = 2 ^ k - 1) : (k = 0 ∧ x = 0) ∨ (k = 1 ∧ x = 1) ∨ (k = 2 ∧ x = 3) ∨ (k = 3 ∧ x = 7) ∨ (k = 4 ∧ x = 15) ∨ (k = 5 ∧ x = 31) ∨ (k = 6 ∧ x = 63) ∨ (k = 7 ∧ x = 127) ∨ (k = 8 ∧ x = 255) ∨ (k = 9 ∧ x = 511) ∨ (k = 10 ∧ x = 1023) ∨ (k = 11 ∧ x = 2047) ∨ (k = 12 ∧ x = 4095) ∨ (k = 13 ∧ x = 8191) ∨ (k = 14 ∧ x = 16383) ∨ (k = 15 ∧ x = 32767) := by
  subst hx
  have h2 : ∀ k, k < 16 → (k = 0 ∧ 2 ^ k - 1 = 0) ∨ (k = 1 ∧ 2 ^ k - 1 = 1) ∨ (k = 2 ∧ 2 ^ k - 1 = 3) ∨ (k = 3 ∧ 2 ^ k - 1 = 7) ∨ (k = 4 ∧ 2 ^ k - 1 = 15) ∨ (k = 5 ∧ 2 ^ k - 1 = 31) ∨ (k = 6 ∧ 2 ^ k - 1 = 63) ∨ (k = 7 ∧ 2 ^ k - 1 = 127) ∨ (k = 8 ∧ 2 ^ k - 1 = 255) ∨ (k = 9 ∧ 2 ^ k - 1 = 511) ∨ (k = 10 ∧ 2 ^ k - 1 = 1023) ∨ (k = 11 ∧ 2 ^ k - 1 = 2047) ∨ (k = 12 ∧ 2 ^ k - 1 = 4095) ∨ (k = 13 ∧ 2 ^ k - 1 = 8191) ∨ (k = 14 ∧ 2 ^ k - 1 = 16383) ∨ (k = 15 ∧ 2 ^ k - 1 = 32767) := by decide +kernel
  exact h2 k h
theorem b2_inR {b : Bool} : inR ((b2 b : Nat) : Int) := by cases b <;> exact ⟨by decide, by decide⟩
theorem land_le (a b : Nat) : Nat.land a b ≤ a ∧ Nat.land a b ≤ b := ⟨Nat.and_le_left, Nat.and_le_right⟩
theorem iAnd_land {a b : Nat} (h : a < 2 ^ 31 ∨ b < 2 ^ 31) : iAnd (a : Int) (b : Int) = ((Nat.land a b : Nat) : Int) := iAnd_nat h
theorem iUshr_n {a k : Nat} (hk : k < 32) (h : a < 2 ^ 31) {q : Nat} (hq : 2 ^ k = q) : iUshr (a : Int) (k : Int) = ((a / q : Nat) : Int) := by rw [iUshr_nat hk h, hq]
set_option maxRecDepth 100000 in
set_option maxHeartbeats 4000000 in
theorem sJ_bitCount {g : GC} (σ : Sg) (m : Nat) (h : m < 65536) : Ev g mJ6_bitCount_0f7a4 0 [some (vI (((m : Nat) : Int)))] [] (M0 (σ)) 0 0 (retI ((pop m : Nat) : Int) σ) := by
  refine Ev.iload_n dJ6_bitCount_0f7a4_0 rfl rfl ?_
  refine Ev.iload_n dJ6_bitCount_0f7a4_1 rfl rfl ?_
  refine Ev.iconst dJ6_bitCount_0f7a4_2 ?_
  refine Ev.iushr dJ6_bitCount_0f7a4_3 ?_
  rw [show (iUshr (((m : Nat) : Int)) (1)) = (((m / 2) : Nat) : Int) from iUshr_n (by decide) (by omega) rfl]
  refine Ev.ldcw (n := 1431655765) (tbl_i 286 (by decide +kernel)) dJ6_bitCount_0f7a4_4 ?_
  refine Ev.iand dJ6_bitCount_0f7a4_7 ?_
  rw [show (iAnd ((((m / 2) : Nat) : Int)) (1431655765)) = (((Nat.land (m / 2) 1431655765) : Nat) : Int) from iAnd_land (by omega)]
  refine Ev.isub dJ6_bitCount_0f7a4_8 ?_
  obtain ⟨a, ha⟩ : ∃ a : Nat, a = m - Nat.land (m / 2) 1431655765 := ⟨_, rfl⟩
  have f1 := land_le (m / 2) 1431655765
  have ba : a ≤ m := by omega
  rw [show (((m : Nat) : Int) - (((Nat.land (m / 2) 1431655765) : Nat) : Int)) = ((a : Nat) : Int) by omega]
  refine Ev.istore_n (pl' := [some (vI (((a : Nat) : Int)))]) dJ6_bitCount_0f7a4_9 rfl (Nat.le_of_ble_eq_true rfl) rfl ?_
  refine Ev.iload_n dJ6_bitCount_0f7a4_10 rfl rfl ?_
  refine Ev.ldcw (n := 858993459) (tbl_i 287 (by decide +kernel)) dJ6_bitCount_0f7a4_11 ?_
  refine Ev.iand dJ6_bitCount_0f7a4_14 ?_
  rw [show (iAnd (((a : Nat) : Int)) (858993459)) = (((Nat.land a 858993459) : Nat) : Int) from iAnd_land (by omega)]
  refine Ev.iload_n dJ6_bitCount_0f7a4_15 rfl rfl ?_
  refine Ev.iconst dJ6_bitCount_0f7a4_16 ?_
  refine Ev.iushr dJ6_bitCount_0f7a4_17 ?_
  rw [show (iUshr (((a : Nat) : Int)) (2)) = (((a / 4) : Nat) : Int) from iUshr_n (by decide) (by omega) rfl]
  refine Ev.ldcw (n := 858993459) (tbl_i 287 (by decide +kernel)) dJ6_bitCount_0f7a4_18 ?_
  refine Ev.iand dJ6_bitCount_0f7a4_21 ?_
  rw [show (iAnd ((((a / 4) : Nat) : Int)) (858993459)) = (((Nat.land (a / 4) 858993459) : Nat) : Int) from iAnd_land (by omega)]
  refine Ev.iadd dJ6_bitCount_0f7a4_22 ?_
  obtain ⟨b, hb⟩ : ∃ b : Nat, b = Nat.land a 858993459 + Nat.land (a / 4) 858993459 := ⟨_, rfl⟩
  have f2 := land_le a 858993459
  have f3 := land_le (a / 4) 858993459
  have bb : b ≤ 2 * m := by omega
  rw [show ((((Nat.land a 858993459) : Nat) : Int) + (((Nat.land (a / 4) 858993459) : Nat) : Int)) = ((b : Nat) : Int) by omega]
  refine Ev.istore_n (pl' := [some (vI (((b : Nat) : Int)))]) dJ6_bitCount_0f7a4_23 rfl (Nat.le_of_ble_eq_true rfl) rfl ?_
  refine Ev.iload_n dJ6_bitCount_0f7a4_24 rfl rfl ?_
  refine Ev.iload_n dJ6_bitCount_0f7a4_25 rfl rfl ?_
  refine Ev.iconst dJ6_bitCount_0f7a4_26 ?_
  refine Ev.iushr dJ6_bitCount_0f7a4_27 ?_
  rw [show (iUshr (((b : Nat) : Int)) (4)) = (((b / 16) : Nat) : Int) from iUshr_n (by decide) (by omega) rfl]
  refine Ev.iadd dJ6_bitCount_0f7a4_28 ?_
  refine Ev.ldcw (n := 252645135) (tbl_i 288 (by decide +kernel)) dJ6_bitCount_0f7a4_29 ?_
  refine Ev.iand dJ6_bitCount_0f7a4_32 ?_
  rw [show (iAnd ((((b : Nat) : Int) + (((b / 16) : Nat) : Int))) (252645135)) = (((Nat.land (b + b / 16) 252645135) : Nat) : Int) from iAnd_land (by omega)]
  obtain ⟨c, hc⟩ : ∃ c : Nat, c = Nat.land (b + b / 16) 252645135 := ⟨_, rfl⟩
  have f4 := land_le (b + b / 16) 252645135
  have bc : c ≤ 4 * m := by omega
  rw [show (((Nat.land (b + b / 16) 252645135) : Nat) : Int) = ((c : Nat) : Int) by omega]
  refine Ev.istore_n (pl' := [some (vI (((c : Nat) : Int)))]) dJ6_bitCount_0f7a4_33 rfl (Nat.le_of_ble_eq_true rfl) rfl ?_
  refine Ev.iload_n dJ6_bitCount_0f7a4_34 rfl rfl ?_
  refine Ev.iload_n dJ6_bitCount_0f7a4_35 rfl rfl ?_
  refine Ev.bipush (n := 8) (by decide) dJ6_bitCount_0f7a4_36 ?_
  refine Ev.iushr dJ6_bitCount_0f7a4_38 ?_
  rw [show (iUshr (((c : Nat) : Int)) (8)) = (((c / 256) : Nat) : Int) from iUshr_n (by decide) (by omega) rfl]
  refine Ev.iadd dJ6_bitCount_0f7a4_39 ?_
  obtain ⟨d, hd⟩ : ∃ d : Nat, d = c + c / 256 := ⟨_, rfl⟩
  have bd : d ≤ 8 * m := by omega
  rw [show (((c : Nat) : Int) + (((c / 256) : Nat) : Int)) = ((d : Nat) : Int) by omega]
  refine Ev.istore_n (pl' := [some (vI (((d : Nat) : Int)))]) dJ6_bitCount_0f7a4_40 rfl (Nat.le_of_ble_eq_true rfl) rfl ?_
  refine Ev.iload_n dJ6_bitCount_0f7a4_41 rfl rfl ?_
  refine Ev.iload_n dJ6_bitCount_0f7a4_42 rfl rfl ?_
  refine Ev.bipush (n := 16) (by decide) dJ6_bitCount_0f7a4_43 ?_
  refine Ev.iushr dJ6_bitCount_0f7a4_45 ?_
  rw [show (iUshr (((d : Nat) : Int)) (16)) = (((d / 65536) : Nat) : Int) from iUshr_n (by decide) (by omega) rfl]
  refine Ev.iadd dJ6_bitCount_0f7a4_46 ?_
  obtain ⟨e, he⟩ : ∃ e : Nat, e = d + d / 65536 := ⟨_, rfl⟩
  have be : e ≤ 16 * m := by omega
  rw [show (((d : Nat) : Int) + (((d / 65536) : Nat) : Int)) = ((e : Nat) : Int) by omega]
  refine Ev.istore_n (pl' := [some (vI (((e : Nat) : Int)))]) dJ6_bitCount_0f7a4_47 rfl (Nat.le_of_ble_eq_true rfl) rfl ?_
  refine Ev.iload_n dJ6_bitCount_0f7a4_48 rfl rfl ?_
  refine Ev.bipush (n := 63) (by decide) dJ6_bitCount_0f7a4_49 ?_
  refine Ev.iand dJ6_bitCount_0f7a4_51 ?_
  rw [show (iAnd (((e : Nat) : Int)) (63)) = (((Nat.land e 63) : Nat) : Int) from iAnd_land (by omega)]
  exact Ev.ireturn dJ6_bitCount_0f7a4_52 rfl (rI (by rw [← bc_pop h, bcN, he, hd, hc, hb, ha]) rfl)

set_option maxRecDepth 100000 in
set_option maxHeartbeats 4000000 in
theorem sJ_nlz {g : GC} (σ : Sg) (m : Nat) (h : m < 65536) (h0 : m ≠ 0) : Ev g mJ6_numberOfLeadingZeros_0f7a4 0 [some (vI (((m : Nat) : Int))), none] [] (M0 (σ)) 0 0 (retI (31 - (hi m : Nat)) σ) := by
  refine Ev.iload_n dJ6_numberOfLeadingZeros_0f7a4_0 rfl rfl ?_
  refine Ev.if_gt (tgt := 15) ⟨by omega, by omega⟩ dJ6_numberOfLeadingZeros_0f7a4_1 (by decide) (fun h1 => ?_) (fun h1 => ?_)
  · skip
    refine Ev.bipush (n := 31) (by decide) dJ6_numberOfLeadingZeros_0f7a4_15 ?_
    refine Ev.istore_n (pl' := [some (vI (((m : Nat) : Int))), some (vI (31))]) dJ6_numberOfLeadingZeros_0f7a4_17 rfl (Nat.le_of_ble_eq_true rfl) rfl ?_
    refine Ev.iload_n dJ6_numberOfLeadingZeros_0f7a4_18 rfl rfl ?_
    refine Ev.ldcw (n := 65536) (tbl_i 435 (by decide +kernel)) dJ6_numberOfLeadingZeros_0f7a4_19 ?_
    refine Ev.icmp_lt (tgt := 33) ⟨by omega, by omega⟩ ⟨by decide, by decide⟩ dJ6_numberOfLeadingZeros_0f7a4_22 (by decide) (fun h22 => ?_) (fun h22 => ?_)
    · skip
      refine Ev.iload_n dJ6_numberOfLeadingZeros_0f7a4_33 rfl rfl ?_
      refine Ev.sipush (n := 256) (by decide) dJ6_numberOfLeadingZeros_0f7a4_34 ?_
      refine Ev.icmp_lt (tgt := 48) ⟨by omega, by omega⟩ ⟨by decide, by decide⟩ dJ6_numberOfLeadingZeros_0f7a4_37 (by decide) (fun h37 => ?_) (fun h37 => ?_)
      · skip
        refine Ev.iload_n dJ6_numberOfLeadingZeros_0f7a4_48 rfl rfl ?_
        refine Ev.bipush (n := 16) (by decide) dJ6_numberOfLeadingZeros_0f7a4_49 ?_
        refine Ev.icmp_lt (tgt := 61) ⟨by omega, by omega⟩ ⟨by decide, by decide⟩ dJ6_numberOfLeadingZeros_0f7a4_51 (by decide) (fun h51 => ?_) (fun h51 => ?_)
        · skip
          refine Ev.iload_n dJ6_numberOfLeadingZeros_0f7a4_61 rfl rfl ?_
          refine Ev.iconst dJ6_numberOfLeadingZeros_0f7a4_62 ?_
          refine Ev.icmp_lt (tgt := 73) ⟨by omega, by omega⟩ ⟨by decide, by decide⟩ dJ6_numberOfLeadingZeros_0f7a4_63 (by decide) (fun h63 => ?_) (fun h63 => ?_)
          · skip
            refine Ev.iload_n dJ6_numberOfLeadingZeros_0f7a4_73 rfl rfl ?_
            refine Ev.iload_n dJ6_numberOfLeadingZeros_0f7a4_74 rfl rfl ?_
            refine Ev.iconst dJ6_numberOfLeadingZeros_0f7a4_75 ?_
            refine Ev.iushr dJ6_numberOfLeadingZeros_0f7a4_76 ?_
            rw [show (iUshr (((m : Nat) : Int)) (1)) = (((m / 2) : Nat) : Int) from iUshr_n (by decide) (by omega) rfl]
            refine Ev.isub dJ6_numberOfLeadingZeros_0f7a4_77 ?_
            exact Ev.ireturn dJ6_numberOfLeadingZeros_0f7a4_78 rfl (rI (by have hc := hi_or h h0; omega) rfl)
          · skip
            refine Ev.iinc (pl' := [some (vI (((m : Nat) : Int))), some (vI (31 + (-2)))]) dJ6_numberOfLeadingZeros_0f7a4_66 rfl (Nat.le_of_ble_eq_true rfl) rfl ?_
            refine Ev.iload_n dJ6_numberOfLeadingZeros_0f7a4_69 rfl rfl ?_
            refine Ev.iconst dJ6_numberOfLeadingZeros_0f7a4_70 ?_
            refine Ev.iushr dJ6_numberOfLeadingZeros_0f7a4_71 ?_
            rw [show (iUshr (((m : Nat) : Int)) (2)) = (((m / 4) : Nat) : Int) from iUshr_n (by decide) (by omega) rfl]
            refine Ev.istore_n (pl' := [some (vI ((((m / 4) : Nat) : Int))), some (vI (31 + (-2)))]) dJ6_numberOfLeadingZeros_0f7a4_72 rfl (Nat.le_of_ble_eq_true rfl) rfl ?_
            refine Ev.iload_n dJ6_numberOfLeadingZeros_0f7a4_73 rfl rfl ?_
            refine Ev.iload_n dJ6_numberOfLeadingZeros_0f7a4_74 rfl rfl ?_
            refine Ev.iconst dJ6_numberOfLeadingZeros_0f7a4_75 ?_
            refine Ev.iushr dJ6_numberOfLeadingZeros_0f7a4_76 ?_
            rw [show (iUshr ((((m / 4) : Nat) : Int)) (1)) = ((((m / 4) / 2) : Nat) : Int) from iUshr_n (by decide) (by omega) rfl]
            refine Ev.isub dJ6_numberOfLeadingZeros_0f7a4_77 ?_
            exact Ev.ireturn dJ6_numberOfLeadingZeros_0f7a4_78 rfl (rI (by have hc := hi_or h h0; omega) rfl)
        · skip
          refine Ev.iinc (pl' := [some (vI (((m : Nat) : Int))), some (vI (31 + (-4)))]) dJ6_numberOfLeadingZeros_0f7a4_54 rfl (Nat.le_of_ble_eq_true rfl) rfl ?_
          refine Ev.iload_n dJ6_numberOfLeadingZeros_0f7a4_57 rfl rfl ?_
          refine Ev.iconst dJ6_numberOfLeadingZeros_0f7a4_58 ?_
          refine Ev.iushr dJ6_numberOfLeadingZeros_0f7a4_59 ?_
          rw [show (iUshr (((m : Nat) : Int)) (4)) = (((m / 16) : Nat) : Int) from iUshr_n (by decide) (by omega) rfl]
          refine Ev.istore_n (pl' := [some (vI ((((m / 16) : Nat) : Int))), some (vI (31 + (-4)))]) dJ6_numberOfLeadingZeros_0f7a4_60 rfl (Nat.le_of_ble_eq_true rfl) rfl ?_
          refine Ev.iload_n dJ6_numberOfLeadingZeros_0f7a4_61 rfl rfl ?_
          refine Ev.iconst dJ6_numberOfLeadingZeros_0f7a4_62 ?_
          refine Ev.icmp_lt (tgt := 73) ⟨by omega, by omega⟩ ⟨by decide, by decide⟩ dJ6_numberOfLeadingZeros_0f7a4_63 (by decide) (fun h63 => ?_) (fun h63 => ?_)
          · skip
            refine Ev.iload_n dJ6_numberOfLeadingZeros_0f7a4_73 rfl rfl ?_
            refine Ev.iload_n dJ6_numberOfLeadingZeros_0f7a4_74 rfl rfl ?_
            refine Ev.iconst dJ6_numberOfLeadingZeros_0f7a4_75 ?_
            refine Ev.iushr dJ6_numberOfLeadingZeros_0f7a4_76 ?_
            rw [show (iUshr ((((m / 16) : Nat) : Int)) (1)) = ((((m / 16) / 2) : Nat) : Int) from iUshr_n (by decide) (by omega) rfl]
            refine Ev.isub dJ6_numberOfLeadingZeros_0f7a4_77 ?_
            exact Ev.ireturn dJ6_numberOfLeadingZeros_0f7a4_78 rfl (rI (by have hc := hi_or h h0; omega) rfl)
          · skip
            refine Ev.iinc (pl' := [some (vI ((((m / 16) : Nat) : Int))), some (vI (31 + (-4) + (-2)))]) dJ6_numberOfLeadingZeros_0f7a4_66 rfl (Nat.le_of_ble_eq_true rfl) rfl ?_
            refine Ev.iload_n dJ6_numberOfLeadingZeros_0f7a4_69 rfl rfl ?_
            refine Ev.iconst dJ6_numberOfLeadingZeros_0f7a4_70 ?_
            refine Ev.iushr dJ6_numberOfLeadingZeros_0f7a4_71 ?_
            rw [show (iUshr ((((m / 16) : Nat) : Int)) (2)) = ((((m / 16) / 4) : Nat) : Int) from iUshr_n (by decide) (by omega) rfl]
            refine Ev.istore_n (pl' := [some (vI (((((m / 16) / 4) : Nat) : Int))), some (vI (31 + (-4) + (-2)))]) dJ6_numberOfLeadingZeros_0f7a4_72 rfl (Nat.le_of_ble_eq_true rfl) rfl ?_
            refine Ev.iload_n dJ6_numberOfLeadingZeros_0f7a4_73 rfl rfl ?_
            refine Ev.iload_n dJ6_numberOfLeadingZeros_0f7a4_74 rfl rfl ?_
            refine Ev.iconst dJ6_numberOfLeadingZeros_0f7a4_75 ?_
            refine Ev.iushr dJ6_numberOfLeadingZeros_0f7a4_76 ?_
            rw [show (iUshr (((((m / 16) / 4) : Nat) : Int)) (1)) = (((((m / 16) / 4) / 2) : Nat) : Int) from iUshr_n (by decide) (by omega) rfl]
            refine Ev.isub dJ6_numberOfLeadingZeros_0f7a4_77 ?_
            exact Ev.ireturn dJ6_numberOfLeadingZeros_0f7a4_78 rfl (rI (by have hc := hi_or h h0; omega) rfl)
      · skip
        refine Ev.iinc (pl' := [some (vI (((m : Nat) : Int))), some (vI (31 + (-8)))]) dJ6_numberOfLeadingZeros_0f7a4_40 rfl (Nat.le_of_ble_eq_true rfl) rfl ?_
        refine Ev.iload_n dJ6_numberOfLeadingZeros_0f7a4_43 rfl rfl ?_
        refine Ev.bipush (n := 8) (by decide) dJ6_numberOfLeadingZeros_0f7a4_44 ?_
        refine Ev.iushr dJ6_numberOfLeadingZeros_0f7a4_46 ?_
        rw [show (iUshr (((m : Nat) : Int)) (8)) = (((m / 256) : Nat) : Int) from iUshr_n (by decide) (by omega) rfl]
        refine Ev.istore_n (pl' := [some (vI ((((m / 256) : Nat) : Int))), some (vI (31 + (-8)))]) dJ6_numberOfLeadingZeros_0f7a4_47 rfl (Nat.le_of_ble_eq_true rfl) rfl ?_
        refine Ev.iload_n dJ6_numberOfLeadingZeros_0f7a4_48 rfl rfl ?_
        refine Ev.bipush (n := 16) (by decide) dJ6_numberOfLeadingZeros_0f7a4_49 ?_
        refine Ev.icmp_lt (tgt := 61) ⟨by omega, by omega⟩ ⟨by decide, by decide⟩ dJ6_numberOfLeadingZeros_0f7a4_51 (by decide) (fun h51 => ?_) (fun h51 => ?_)
        · skip
          refine Ev.iload_n dJ6_numberOfLeadingZeros_0f7a4_61 rfl rfl ?_
          refine Ev.iconst dJ6_numberOfLeadingZeros_0f7a4_62 ?_
          refine Ev.icmp_lt (tgt := 73) ⟨by omega, by omega⟩ ⟨by decide, by decide⟩ dJ6_numberOfLeadingZeros_0f7a4_63 (by decide) (fun h63 => ?_) (fun h63 => ?_)
          · skip
            refine Ev.iload_n dJ6_numberOfLeadingZeros_0f7a4_73 rfl rfl ?_
            refine Ev.iload_n dJ6_numberOfLeadingZeros_0f7a4_74 rfl rfl ?_
            refine Ev.iconst dJ6_numberOfLeadingZeros_0f7a4_75 ?_
            refine Ev.iushr dJ6_numberOfLeadingZeros_0f7a4_76 ?_
            rw [show (iUshr ((((m / 256) : Nat) : Int)) (1)) = ((((m / 256) / 2) : Nat) : Int) from iUshr_n (by decide) (by omega) rfl]
            refine Ev.isub dJ6_numberOfLeadingZeros_0f7a4_77 ?_
            exact Ev.ireturn dJ6_numberOfLeadingZeros_0f7a4_78 rfl (rI (by have hc := hi_or h h0; omega) rfl)
          · skip
            refine Ev.iinc (pl' := [some (vI ((((m / 256) : Nat) : Int))), some (vI (31 + (-8) + (-2)))]) dJ6_numberOfLeadingZeros_0f7a4_66 rfl (Nat.le_of_ble_eq_true rfl) rfl ?_
            refine Ev.iload_n dJ6_numberOfLeadingZeros_0f7a4_69 rfl rfl ?_
            refine Ev.iconst dJ6_numberOfLeadingZeros_0f7a4_70 ?_
            refine Ev.iushr dJ6_numberOfLeadingZeros_0f7a4_71 ?_
            rw [show (iUshr ((((m / 256) : Nat) : Int)) (2)) = ((((m / 256) / 4) : Nat) : Int) from iUshr_n (by decide) (by omega) rfl]
            refine Ev.istore_n (pl' := [some (vI (((((m / 256) / 4) : Nat) : Int))), some (vI (31 + (-8) + (-2)))]) dJ6_numberOfLeadingZeros_0f7a4_72 rfl (Nat.le_of_ble_eq_true rfl) rfl ?_
            refine Ev.iload_n dJ6_numberOfLeadingZeros_0f7a4_73 rfl rfl ?_
            refine Ev.iload_n dJ6_numberOfLeadingZeros_0f7a4_74 rfl rfl ?_
            refine Ev.iconst dJ6_numberOfLeadingZeros_0f7a4_75 ?_
            refine Ev.iushr dJ6_numberOfLeadingZeros_0f7a4_76 ?_
            rw [show (iUshr (((((m / 256) / 4) : Nat) : Int)) (1)) = (((((m / 256) / 4) / 2) : Nat) : Int) from iUshr_n (by decide) (by omega) rfl]
            refine Ev.isub dJ6_numberOfLeadingZeros_0f7a4_77 ?_
            exact Ev.ireturn dJ6_numberOfLeadingZeros_0f7a4_78 rfl (rI (by have hc := hi_or h h0; omega) rfl)
        · skip
          refine Ev.iinc (pl' := [some (vI ((((m / 256) : Nat) : Int))), some (vI (31 + (-8) + (-4)))]) dJ6_numberOfLeadingZeros_0f7a4_54 rfl (Nat.le_of_ble_eq_true rfl) rfl ?_
          refine Ev.iload_n dJ6_numberOfLeadingZeros_0f7a4_57 rfl rfl ?_
          refine Ev.iconst dJ6_numberOfLeadingZeros_0f7a4_58 ?_
          refine Ev.iushr dJ6_numberOfLeadingZeros_0f7a4_59 ?_
          rw [show (iUshr ((((m / 256) : Nat) : Int)) (4)) = ((((m / 256) / 16) : Nat) : Int) from iUshr_n (by decide) (by omega) rfl]
          refine Ev.istore_n (pl' := [some (vI (((((m / 256) / 16) : Nat) : Int))), some (vI (31 + (-8) + (-4)))]) dJ6_numberOfLeadingZeros_0f7a4_60 rfl (Nat.le_of_ble_eq_true rfl) rfl ?_
          refine Ev.iload_n dJ6_numberOfLeadingZeros_0f7a4_61 rfl rfl ?_
          refine Ev.iconst dJ6_numberOfLeadingZeros_0f7a4_62 ?_
          refine Ev.icmp_lt (tgt := 73) ⟨by omega, by omega⟩ ⟨by decide, by decide⟩ dJ6_numberOfLeadingZeros_0f7a4_63 (by decide) (fun h63 => ?_) (fun h63 => ?_)
          · skip
            refine Ev.iload_n dJ6_numberOfLeadingZeros_0f7a4_73 rfl rfl ?_
            refine Ev.iload_n dJ6_numberOfLeadingZeros_0f7a4_74 rfl rfl ?_
            refine Ev.iconst dJ6_numberOfLeadingZeros_0f7a4_75 ?_
            refine Ev.iushr dJ6_numberOfLeadingZeros_0f7a4_76 ?_
            rw [show (iUshr (((((m / 256) / 16) : Nat) : Int)) (1)) = (((((m / 256) / 16) / 2) : Nat) : Int) from iUshr_n (by decide) (by omega) rfl]
            refine Ev.isub dJ6_numberOfLeadingZeros_0f7a4_77 ?_
            exact Ev.ireturn dJ6_numberOfLeadingZeros_0f7a4_78 rfl (rI (by have hc := hi_or h h0; omega) rfl)
          · skip
            refine Ev.iinc (pl' := [some (vI (((((m / 256) / 16) : Nat) : Int))), some (vI (31 + (-8) + (-4) + (-2)))]) dJ6_numberOfLeadingZeros_0f7a4_66 rfl (Nat.le_of_ble_eq_true rfl) rfl ?_
            refine Ev.iload_n dJ6_numberOfLeadingZeros_0f7a4_69 rfl rfl ?_
            refine Ev.iconst dJ6_numberOfLeadingZeros_0f7a4_70 ?_
            refine Ev.iushr dJ6_numberOfLeadingZeros_0f7a4_71 ?_
            rw [show (iUshr (((((m / 256) / 16) : Nat) : Int)) (2)) = (((((m / 256) / 16) / 4) : Nat) : Int) from iUshr_n (by decide) (by omega) rfl]
            refine Ev.istore_n (pl' := [some (vI ((((((m / 256) / 16) / 4) : Nat) : Int))), some (vI (31 + (-8) + (-4) + (-2)))]) dJ6_numberOfLeadingZeros_0f7a4_72 rfl (Nat.le_of_ble_eq_true rfl) rfl ?_
            refine Ev.iload_n dJ6_numberOfLeadingZeros_0f7a4_73 rfl rfl ?_
            refine Ev.iload_n dJ6_numberOfLeadingZeros_0f7a4_74 rfl rfl ?_
            refine Ev.iconst dJ6_numberOfLeadingZeros_0f7a4_75 ?_
            refine Ev.iushr dJ6_numberOfLeadingZeros_0f7a4_76 ?_
            rw [show (iUshr ((((((m / 256) / 16) / 4) : Nat) : Int)) (1)) = ((((((m / 256) / 16) / 4) / 2) : Nat) : Int) from iUshr_n (by decide) (by omega) rfl]
            refine Ev.isub dJ6_numberOfLeadingZeros_0f7a4_77 ?_
            exact Ev.ireturn dJ6_numberOfLeadingZeros_0f7a4_78 rfl (rI (by have hc := hi_or h h0; omega) rfl)
    · skip
      refine Ev.iinc (pl' := [some (vI (((m : Nat) : Int))), some (vI (31 + (-16)))]) dJ6_numberOfLeadingZeros_0f7a4_25 rfl (Nat.le_of_ble_eq_true rfl) rfl ?_
      refine Ev.iload_n dJ6_numberOfLeadingZeros_0f7a4_28 rfl rfl ?_
      refine Ev.bipush (n := 16) (by decide) dJ6_numberOfLeadingZeros_0f7a4_29 ?_
      refine Ev.iushr dJ6_numberOfLeadingZeros_0f7a4_31 ?_
      rw [show (iUshr (((m : Nat) : Int)) (16)) = (((m / 65536) : Nat) : Int) from iUshr_n (by decide) (by omega) rfl]
      refine Ev.istore_n (pl' := [some (vI ((((m / 65536) : Nat) : Int))), some (vI (31 + (-16)))]) dJ6_numberOfLeadingZeros_0f7a4_32 rfl (Nat.le_of_ble_eq_true rfl) rfl ?_
      refine Ev.iload_n dJ6_numberOfLeadingZeros_0f7a4_33 rfl rfl ?_
      refine Ev.sipush (n := 256) (by decide) dJ6_numberOfLeadingZeros_0f7a4_34 ?_
      refine Ev.icmp_lt (tgt := 48) ⟨by omega, by omega⟩ ⟨by decide, by decide⟩ dJ6_numberOfLeadingZeros_0f7a4_37 (by decide) (fun h37 => ?_) (fun h37 => ?_)
      · skip
        refine Ev.iload_n dJ6_numberOfLeadingZeros_0f7a4_48 rfl rfl ?_
        refine Ev.bipush (n := 16) (by decide) dJ6_numberOfLeadingZeros_0f7a4_49 ?_
        refine Ev.icmp_lt (tgt := 61) ⟨by omega, by omega⟩ ⟨by decide, by decide⟩ dJ6_numberOfLeadingZeros_0f7a4_51 (by decide) (fun h51 => ?_) (fun h51 => ?_)
        · skip
          refine Ev.iload_n dJ6_numberOfLeadingZeros_0f7a4_61 rfl rfl ?_
          refine Ev.iconst dJ6_numberOfLeadingZeros_0f7a4_62 ?_
          refine Ev.icmp_lt (tgt := 73) ⟨by omega, by omega⟩ ⟨by decide, by decide⟩ dJ6_numberOfLeadingZeros_0f7a4_63 (by decide) (fun h63 => ?_) (fun h63 => ?_)
          · skip
            refine Ev.iload_n dJ6_numberOfLeadingZeros_0f7a4_73 rfl rfl ?_
            refine Ev.iload_n dJ6_numberOfLeadingZeros_0f7a4_74 rfl rfl ?_
            refine Ev.iconst dJ6_numberOfLeadingZeros_0f7a4_75 ?_
            refine Ev.iushr dJ6_numberOfLeadingZeros_0f7a4_76 ?_
            rw [show (iUshr ((((m / 65536) : Nat) : Int)) (1)) = ((((m / 65536) / 2) : Nat) : Int) from iUshr_n (by decide) (by omega) rfl]
            refine Ev.isub dJ6_numberOfLeadingZeros_0f7a4_77 ?_
            exact Ev.ireturn dJ6_numberOfLeadingZeros_0f7a4_78 rfl (rI (by have hc := hi_or h h0; omega) rfl)
          · skip
            refine Ev.iinc (pl' := [some (vI ((((m / 65536) : Nat) : Int))), some (vI (31 + (-16) + (-2)))]) dJ6_numberOfLeadingZeros_0f7a4_66 rfl (Nat.le_of_ble_eq_true rfl) rfl ?_
            refine Ev.iload_n dJ6_numberOfLeadingZeros_0f7a4_69 rfl rfl ?_
            refine Ev.iconst dJ6_numberOfLeadingZeros_0f7a4_70 ?_
            refine Ev.iushr dJ6_numberOfLeadingZeros_0f7a4_71 ?_
            rw [show (iUshr ((((m / 65536) : Nat) : Int)) (2)) = ((((m / 65536) / 4) : Nat) : Int) from iUshr_n (by decide) (by omega) rfl]
            refine Ev.istore_n (pl' := [some (vI (((((m / 65536) / 4) : Nat) : Int))), some (vI (31 + (-16) + (-2)))]) dJ6_numberOfLeadingZeros_0f7a4_72 rfl (Nat.le_of_ble_eq_true rfl) rfl ?_
            refine Ev.iload_n dJ6_numberOfLeadingZeros_0f7a4_73 rfl rfl ?_
            refine Ev.iload_n dJ6_numberOfLeadingZeros_0f7a4_74 rfl rfl ?_
            refine Ev.iconst dJ6_numberOfLeadingZeros_0f7a4_75 ?_
            refine Ev.iushr dJ6_numberOfLeadingZeros_0f7a4_76 ?_
            rw [show (iUshr (((((m / 65536) / 4) : Nat) : Int)) (1)) = (((((m / 65536) / 4) / 2) : Nat) : Int) from iUshr_n (by decide) (by omega) rfl]
            refine Ev.isub dJ6_numberOfLeadingZeros_0f7a4_77 ?_
            exact Ev.ireturn dJ6_numberOfLeadingZeros_0f7a4_78 rfl (rI (by have hc := hi_or h h0; omega) rfl)
        · skip
          refine Ev.iinc (pl' := [some (vI ((((m / 65536) : Nat) : Int))), some (vI (31 + (-16) + (-4)))]) dJ6_numberOfLeadingZeros_0f7a4_54 rfl (Nat.le_of_ble_eq_true rfl) rfl ?_
          refine Ev.iload_n dJ6_numberOfLeadingZeros_0f7a4_57 rfl rfl ?_
          refine Ev.iconst dJ6_numberOfLeadingZeros_0f7a4_58 ?_
          refine Ev.iushr dJ6_numberOfLeadingZeros_0f7a4_59 ?_
          rw [show (iUshr ((((m / 65536) : Nat) : Int)) (4)) = ((((m / 65536) / 16) : Nat) : Int) from iUshr_n (by decide) (by omega) rfl]
          refine Ev.istore_n (pl' := [some (vI (((((m / 65536) / 16) : Nat) : Int))), some (vI (31 + (-16) + (-4)))]) dJ6_numberOfLeadingZeros_0f7a4_60 rfl (Nat.le_of_ble_eq_true rfl) rfl ?_
          refine Ev.iload_n dJ6_numberOfLeadingZeros_0f7a4_61 rfl rfl ?_
          refine Ev.iconst dJ6_numberOfLeadingZeros_0f7a4_62 ?_
          refine Ev.icmp_lt (tgt := 73) ⟨by omega, by omega⟩ ⟨by decide, by decide⟩ dJ6_numberOfLeadingZeros_0f7a4_63 (by decide) (fun h63 => ?_) (fun h63 => ?_)
          · skip
            refine Ev.iload_n dJ6_numberOfLeadingZeros_0f7a4_73 rfl rfl ?_
            refine Ev.iload_n dJ6_numberOfLeadingZeros_0f7a4_74 rfl rfl ?_
            refine Ev.iconst dJ6_numberOfLeadingZeros_0f7a4_75 ?_
            refine Ev.iushr dJ6_numberOfLeadingZeros_0f7a4_76 ?_
            rw [show (iUshr (((((m / 65536) / 16) : Nat) : Int)) (1)) = (((((m / 65536) / 16) / 2) : Nat) : Int) from iUshr_n (by decide) (by omega) rfl]
            refine Ev.isub dJ6_numberOfLeadingZeros_0f7a4_77 ?_
            exact Ev.ireturn dJ6_numberOfLeadingZeros_0f7a4_78 rfl (rI (by have hc := hi_or h h0; omega) rfl)
          · skip
            refine Ev.iinc (pl' := [some (vI (((((m / 65536) / 16) : Nat) : Int))), some (vI (31 + (-16) + (-4) + (-2)))]) dJ6_numberOfLeadingZeros_0f7a4_66 rfl (Nat.le_of_ble_eq_true rfl) rfl ?_
            refine Ev.iload_n dJ6_numberOfLeadingZeros_0f7a4_69 rfl rfl ?_
            refine Ev.iconst dJ6_numberOfLeadingZeros_0f7a4_70 ?_
            refine Ev.iushr dJ6_numberOfLeadingZeros_0f7a4_71 ?_
            rw [show (iUshr (((((m / 65536) / 16) : Nat) : Int)) (2)) = (((((m / 65536) / 16) / 4) : Nat) : Int) from iUshr_n (by decide) (by omega) rfl]
            refine Ev.istore_n (pl' := [some (vI ((((((m / 65536) / 16) / 4) : Nat) : Int))), some (vI (31 + (-16) + (-4) + (-2)))]) dJ6_numberOfLeadingZeros_0f7a4_72 rfl (Nat.le_of_ble_eq_true rfl) rfl ?_
            refine Ev.iload_n dJ6_numberOfLeadingZeros_0f7a4_73 rfl rfl ?_
            refine Ev.iload_n dJ6_numberOfLeadingZeros_0f7a4_74 rfl rfl ?_
            refine Ev.iconst dJ6_numberOfLeadingZeros_0f7a4_75 ?_
            refine Ev.iushr dJ6_numberOfLeadingZeros_0f7a4_76 ?_
            rw [show (iUshr ((((((m / 65536) / 16) / 4) : Nat) : Int)) (1)) = ((((((m / 65536) / 16) / 4) / 2) : Nat) : Int) from iUshr_n (by decide) (by omega) rfl]
            refine Ev.isub dJ6_numberOfLeadingZeros_0f7a4_77 ?_
            exact Ev.ireturn dJ6_numberOfLeadingZeros_0f7a4_78 rfl (rI (by have hc := hi_or h h0; omega) rfl)
      · skip
        refine Ev.iinc (pl' := [some (vI ((((m / 65536) : Nat) : Int))), some (vI (31 + (-16) + (-8)))]) dJ6_numberOfLeadingZeros_0f7a4_40 rfl (Nat.le_of_ble_eq_true rfl) rfl ?_
        refine Ev.iload_n dJ6_numberOfLeadingZeros_0f7a4_43 rfl rfl ?_
        refine Ev.bipush (n := 8) (by decide) dJ6_numberOfLeadingZeros_0f7a4_44 ?_
        refine Ev.iushr dJ6_numberOfLeadingZeros_0f7a4_46 ?_
        rw [show (iUshr ((((m / 65536) : Nat) : Int)) (8)) = ((((m / 65536) / 256) : Nat) : Int) from iUshr_n (by decide) (by omega) rfl]
        refine Ev.istore_n (pl' := [some (vI (((((m / 65536) / 256) : Nat) : Int))), some (vI (31 + (-16) + (-8)))]) dJ6_numberOfLeadingZeros_0f7a4_47 rfl (Nat.le_of_ble_eq_true rfl) rfl ?_
        refine Ev.iload_n dJ6_numberOfLeadingZeros_0f7a4_48 rfl rfl ?_
        refine Ev.bipush (n := 16) (by decide) dJ6_numberOfLeadingZeros_0f7a4_49 ?_
        refine Ev.icmp_lt (tgt := 61) ⟨by omega, by omega⟩ ⟨by decide, by decide⟩ dJ6_numberOfLeadingZeros_0f7a4_51 (by decide) (fun h51 => ?_) (fun h51 => ?_)
        · skip
          refine Ev.iload_n dJ6_numberOfLeadingZeros_0f7a4_61 rfl rfl ?_
          refine Ev.iconst dJ6_numberOfLeadingZeros_0f7a4_62 ?_
          refine Ev.icmp_lt (tgt := 73) ⟨by omega, by omega⟩ ⟨by decide, by decide⟩ dJ6_numberOfLeadingZeros_0f7a4_63 (by decide) (fun h63 => ?_) (fun h63 => ?_)
          · skip
            refine Ev.iload_n dJ6_numberOfLeadingZeros_0f7a4_73 rfl rfl ?_
            refine Ev.iload_n dJ6_numberOfLeadingZeros_0f7a4_74 rfl rfl ?_
            refine Ev.iconst dJ6_numberOfLeadingZeros_0f7a4_75 ?_
            refine Ev.iushr dJ6_numberOfLeadingZeros_0f7a4_76 ?_
            rw [show (iUshr (((((m / 65536) / 256) : Nat) : Int)) (1)) = (((((m / 65536) / 256) / 2) : Nat) : Int) from iUshr_n (by decide) (by omega) rfl]
            refine Ev.isub dJ6_numberOfLeadingZeros_0f7a4_77 ?_
            exact Ev.ireturn dJ6_numberOfLeadingZeros_0f7a4_78 rfl (rI (by have hc := hi_or h h0; omega) rfl)
          · skip
            refine Ev.iinc (pl' := [some (vI (((((m / 65536) / 256) : Nat) : Int))), some (vI (31 + (-16) + (-8) + (-2)))]) dJ6_numberOfLeadingZeros_0f7a4_66 rfl (Nat.le_of_ble_eq_true rfl) rfl ?_
            refine Ev.iload_n dJ6_numberOfLeadingZeros_0f7a4_69 rfl rfl ?_
            refine Ev.iconst dJ6_numberOfLeadingZeros_0f7a4_70 ?_
            refine Ev.iushr dJ6_numberOfLeadingZeros_0f7a4_71 ?_
            rw [show (iUshr (((((m / 65536) / 256) : Nat) : Int)) (2)) = (((((m / 65536) / 256) / 4) : Nat) : Int) from iUshr_n (by decide) (by omega) rfl]
            refine Ev.istore_n (pl' := [some (vI ((((((m / 65536) / 256) / 4) : Nat) : Int))), some (vI (31 + (-16) + (-8) + (-2)))]) dJ6_numberOfLeadingZeros_0f7a4_72 rfl (Nat.le_of_ble_eq_true rfl) rfl ?_
            refine Ev.iload_n dJ6_numberOfLeadingZeros_0f7a4_73 rfl rfl ?_
            refine Ev.iload_n dJ6_numberOfLeadingZeros_0f7a4_74 rfl rfl ?_
            refine Ev.iconst dJ6_numberOfLeadingZeros_0f7a4_75 ?_
            refine Ev.iushr dJ6_numberOfLeadingZeros_0f7a4_76 ?_
            rw [show (iUshr ((((((m / 65536) / 256) / 4) : Nat) : Int)) (1)) = ((((((m / 65536) / 256) / 4) / 2) : Nat) : Int) from iUshr_n (by decide) (by omega) rfl]
            refine Ev.isub dJ6_numberOfLeadingZeros_0f7a4_77 ?_
            exact Ev.ireturn dJ6_numberOfLeadingZeros_0f7a4_78 rfl (rI (by have hc := hi_or h h0; omega) rfl)
        · skip
          refine Ev.iinc (pl' := [some (vI (((((m / 65536) / 256) : Nat) : Int))), some (vI (31 + (-16) + (-8) + (-4)))]) dJ6_numberOfLeadingZeros_0f7a4_54 rfl (Nat.le_of_ble_eq_true rfl) rfl ?_
          refine Ev.iload_n dJ6_numberOfLeadingZeros_0f7a4_57 rfl rfl ?_
          refine Ev.iconst dJ6_numberOfLeadingZeros_0f7a4_58 ?_
          refine Ev.iushr dJ6_numberOfLeadingZeros_0f7a4_59 ?_
          rw [show (iUshr (((((m / 65536) / 256) : Nat) : Int)) (4)) = (((((m / 65536) / 256) / 16) : Nat) : Int) from iUshr_n (by decide) (by omega) rfl]
          refine Ev.istore_n (pl' := [some (vI ((((((m / 65536) / 256) / 16) : Nat) : Int))), some (vI (31 + (-16) + (-8) + (-4)))]) dJ6_numberOfLeadingZeros_0f7a4_60 rfl (Nat.le_of_ble_eq_true rfl) rfl ?_
          refine Ev.iload_n dJ6_numberOfLeadingZeros_0f7a4_61 rfl rfl ?_
          refine Ev.iconst dJ6_numberOfLeadingZeros_0f7a4_62 ?_
          refine Ev.icmp_lt (tgt := 73) ⟨by omega, by omega⟩ ⟨by decide, by decide⟩ dJ6_numberOfLeadingZeros_0f7a4_63 (by decide) (fun h63 => ?_) (fun h63 => ?_)
          · skip
            refine Ev.iload_n dJ6_numberOfLeadingZeros_0f7a4_73 rfl rfl ?_
            refine Ev.iload_n dJ6_numberOfLeadingZeros_0f7a4_74 rfl rfl ?_
            refine Ev.iconst dJ6_numberOfLeadingZeros_0f7a4_75 ?_
            refine Ev.iushr dJ6_numberOfLeadingZeros_0f7a4_76 ?_
            rw [show (iUshr ((((((m / 65536) / 256) / 16) : Nat) : Int)) (1)) = ((((((m / 65536) / 256) / 16) / 2) : Nat) : Int) from iUshr_n (by decide) (by omega) rfl]
            refine Ev.isub dJ6_numberOfLeadingZeros_0f7a4_77 ?_
            exact Ev.ireturn dJ6_numberOfLeadingZeros_0f7a4_78 rfl (rI (by have hc := hi_or h h0; omega) rfl)
          · skip
            refine Ev.iinc (pl' := [some (vI ((((((m / 65536) / 256) / 16) : Nat) : Int))), some (vI (31 + (-16) + (-8) + (-4) + (-2)))]) dJ6_numberOfLeadingZeros_0f7a4_66 rfl (Nat.le_of_ble_eq_true rfl) rfl ?_
            refine Ev.iload_n dJ6_numberOfLeadingZeros_0f7a4_69 rfl rfl ?_
            refine Ev.iconst dJ6_numberOfLeadingZeros_0f7a4_70 ?_
            refine Ev.iushr dJ6_numberOfLeadingZeros_0f7a4_71 ?_
            rw [show (iUshr ((((((m / 65536) / 256) / 16) : Nat) : Int)) (2)) = ((((((m / 65536) / 256) / 16) / 4) : Nat) : Int) from iUshr_n (by decide) (by omega) rfl]
            refine Ev.istore_n (pl' := [some (vI (((((((m / 65536) / 256) / 16) / 4) : Nat) : Int))), some (vI (31 + (-16) + (-8) + (-4) + (-2)))]) dJ6_numberOfLeadingZeros_0f7a4_72 rfl (Nat.le_of_ble_eq_true rfl) rfl ?_
            refine Ev.iload_n dJ6_numberOfLeadingZeros_0f7a4_73 rfl rfl ?_
            refine Ev.iload_n dJ6_numberOfLeadingZeros_0f7a4_74 rfl rfl ?_
            refine Ev.iconst dJ6_numberOfLeadingZeros_0f7a4_75 ?_
            refine Ev.iushr dJ6_numberOfLeadingZeros_0f7a4_76 ?_
            rw [show (iUshr (((((((m / 65536) / 256) / 16) / 4) : Nat) : Int)) (1)) = (((((((m / 65536) / 256) / 16) / 4) / 2) : Nat) : Int) from iUshr_n (by decide) (by omega) rfl]
            refine Ev.isub dJ6_numberOfLeadingZeros_0f7a4_77 ?_
            exact Ev.ireturn dJ6_numberOfLeadingZeros_0f7a4_78 rfl (rI (by have hc := hi_or h h0; omega) rfl)
  · skip
    refine Ev.iload_n dJ6_numberOfLeadingZeros_0f7a4_4 rfl rfl ?_
    refine Ev.if_ne (tgt := 13) ⟨by omega, by omega⟩ dJ6_numberOfLeadingZeros_0f7a4_5 (by decide) (fun h5 => ?_) (fun h5 => ?_)
    · skip
      refine Ev.iconst dJ6_numberOfLeadingZeros_0f7a4_13 ?_
      exact Ev.ireturn dJ6_numberOfLeadingZeros_0f7a4_14 rfl (rI (by have hc := hi_or h h0; omega) rfl)
    · skip
      refine Ev.bipush (n := 32) (by decide) dJ6_numberOfLeadingZeros_0f7a4_8 ?_
      refine Ev.goto (tgt := 14) dJ6_numberOfLeadingZeros_0f7a4_10 (by decide) ?_
      exact Ev.ireturn dJ6_numberOfLeadingZeros_0f7a4_14 rfl (rI (by have hc := hi_or h h0; omega) rfl)

theorem iAnd_comm (x y : Int) : iAnd x y = iAnd y x := by unfold iAnd; rw [Int32.and_comm]
set_option maxRecDepth 100000 in
set_option maxHeartbeats 4000000 in
theorem sJ_ntz {g : GC} (σ : Sg) (m : Nat) (h : m < 65536) (h0 : m ≠ 0) : Ev g mJ6_numberOfTrailingZeros_0f7a4 0 [some (vI (((m : Nat) : Int))), none] [] (M0 (σ)) 0 0 (retI ((lo m : Nat) : Int) σ) := by
  obtain ⟨x, hx⟩ : ∃ x : Nat, x = 2 ^ lo m - 1 := ⟨_, rfl⟩
  have hxb : x ≤ 32767 := by rw [hx]; have := pow_le16 (lo_lt h h0); omega
  refine Ev.iload_n dJ6_numberOfTrailingZeros_0f7a4_0 rfl rfl ?_
  refine Ev.iconst dJ6_numberOfTrailingZeros_0f7a4_1 ?_
  refine Ev.ixor dJ6_numberOfTrailingZeros_0f7a4_2 ?_
  rw [show (iXor (((m : Nat) : Int)) (-1)) = (-((m : Nat) : Int) - 1) from iXor_m1 (by omega)]
  refine Ev.iload_n dJ6_numberOfTrailingZeros_0f7a4_3 rfl rfl ?_
  refine Ev.iconst dJ6_numberOfTrailingZeros_0f7a4_4 ?_
  refine Ev.isub dJ6_numberOfTrailingZeros_0f7a4_5 ?_
  refine Ev.iand dJ6_numberOfTrailingZeros_0f7a4_6 ?_
  rw [show (iAnd ((-((m : Nat) : Int) - 1)) ((((m : Nat) : Int) - 1))) = ((x : Nat) : Int) from by rw [show (((m : Nat) : Int) - 1) = ((m - 1 : Nat) : Int) by omega, iAnd_comm, iAnd_not (by omega), lo_x h h0, hx]]
  refine Ev.istore_n (pl' := [some (vI (((x : Nat) : Int))), none]) dJ6_numberOfTrailingZeros_0f7a4_7 rfl (Nat.le_of_ble_eq_true rfl) rfl ?_
  refine Ev.iload_n dJ6_numberOfTrailingZeros_0f7a4_8 rfl rfl ?_
  refine Ev.if_gt (tgt := 17) ⟨by omega, by omega⟩ dJ6_numberOfTrailingZeros_0f7a4_9 (by decide) (fun h9 => ?_) (fun h9 => ?_)
  · skip
    refine Ev.iconst dJ6_numberOfTrailingZeros_0f7a4_17 ?_
    refine Ev.istore_n (pl' := [some (vI (((x : Nat) : Int))), some (vI (1))]) dJ6_numberOfTrailingZeros_0f7a4_18 rfl (Nat.le_of_ble_eq_true rfl) rfl ?_
    refine Ev.iload_n dJ6_numberOfTrailingZeros_0f7a4_19 rfl rfl ?_
    refine Ev.ldcw (n := 65536) (tbl_i 435 (by decide +kernel)) dJ6_numberOfTrailingZeros_0f7a4_20 ?_
    refine Ev.icmp_le (tgt := 34) ⟨by omega, by omega⟩ ⟨by decide, by decide⟩ dJ6_numberOfTrailingZeros_0f7a4_23 (by decide) (fun h23 => ?_) (fun h23 => ?_)
    · skip
      refine Ev.iload_n dJ6_numberOfTrailingZeros_0f7a4_34 rfl rfl ?_
      refine Ev.sipush (n := 256) (by decide) dJ6_numberOfTrailingZeros_0f7a4_35 ?_
      refine Ev.icmp_le (tgt := 49) ⟨by omega, by omega⟩ ⟨by decide, by decide⟩ dJ6_numberOfTrailingZeros_0f7a4_38 (by decide) (fun h38 => ?_) (fun h38 => ?_)
      · skip
        refine Ev.iload_n dJ6_numberOfTrailingZeros_0f7a4_49 rfl rfl ?_
        refine Ev.bipush (n := 16) (by decide) dJ6_numberOfTrailingZeros_0f7a4_50 ?_
        refine Ev.icmp_le (tgt := 62) ⟨by omega, by omega⟩ ⟨by decide, by decide⟩ dJ6_numberOfTrailingZeros_0f7a4_52 (by decide) (fun h52 => ?_) (fun h52 => ?_)
        · skip
          refine Ev.iload_n dJ6_numberOfTrailingZeros_0f7a4_62 rfl rfl ?_
          refine Ev.iconst dJ6_numberOfTrailingZeros_0f7a4_63 ?_
          refine Ev.icmp_le (tgt := 74) ⟨by omega, by omega⟩ ⟨by decide, by decide⟩ dJ6_numberOfTrailingZeros_0f7a4_64 (by decide) (fun h64 => ?_) (fun h64 => ?_)
          · skip
            refine Ev.iload_n dJ6_numberOfTrailingZeros_0f7a4_74 rfl rfl ?_
            refine Ev.iload_n dJ6_numberOfTrailingZeros_0f7a4_75 rfl rfl ?_
            refine Ev.iconst dJ6_numberOfTrailingZeros_0f7a4_76 ?_
            refine Ev.iushr dJ6_numberOfTrailingZeros_0f7a4_77 ?_
            rw [show (iUshr (((x : Nat) : Int)) (1)) = (((x / 2) : Nat) : Int) from iUshr_n (by decide) (by omega) rfl]
            refine Ev.iadd dJ6_numberOfTrailingZeros_0f7a4_78 ?_
            exact Ev.ireturn dJ6_numberOfTrailingZeros_0f7a4_79 rfl (rI (by have hc := lo_or (lo_lt h h0) hx; omega) rfl)
          · skip
            refine Ev.iinc (pl' := [some (vI (((x : Nat) : Int))), some (vI (1 + 2))]) dJ6_numberOfTrailingZeros_0f7a4_67 rfl (Nat.le_of_ble_eq_true rfl) rfl ?_
            refine Ev.iload_n dJ6_numberOfTrailingZeros_0f7a4_70 rfl rfl ?_
            refine Ev.iconst dJ6_numberOfTrailingZeros_0f7a4_71 ?_
            refine Ev.iushr dJ6_numberOfTrailingZeros_0f7a4_72 ?_
            rw [show (iUshr (((x : Nat) : Int)) (2)) = (((x / 4) : Nat) : Int) from iUshr_n (by decide) (by omega) rfl]
            refine Ev.istore_n (pl' := [some (vI ((((x / 4) : Nat) : Int))), some (vI (1 + 2))]) dJ6_numberOfTrailingZeros_0f7a4_73 rfl (Nat.le_of_ble_eq_true rfl) rfl ?_
            refine Ev.iload_n dJ6_numberOfTrailingZeros_0f7a4_74 rfl rfl ?_
            refine Ev.iload_n dJ6_numberOfTrailingZeros_0f7a4_75 rfl rfl ?_
            refine Ev.iconst dJ6_numberOfTrailingZeros_0f7a4_76 ?_
            refine Ev.iushr dJ6_numberOfTrailingZeros_0f7a4_77 ?_
            rw [show (iUshr ((((x / 4) : Nat) : Int)) (1)) = ((((x / 4) / 2) : Nat) : Int) from iUshr_n (by decide) (by omega) rfl]
            refine Ev.iadd dJ6_numberOfTrailingZeros_0f7a4_78 ?_
            exact Ev.ireturn dJ6_numberOfTrailingZeros_0f7a4_79 rfl (rI (by have hc := lo_or (lo_lt h h0) hx; omega) rfl)
        · skip
          refine Ev.iinc (pl' := [some (vI (((x : Nat) : Int))), some (vI (1 + 4))]) dJ6_numberOfTrailingZeros_0f7a4_55 rfl (Nat.le_of_ble_eq_true rfl) rfl ?_
          refine Ev.iload_n dJ6_numberOfTrailingZeros_0f7a4_58 rfl rfl ?_
          refine Ev.iconst dJ6_numberOfTrailingZeros_0f7a4_59 ?_
          refine Ev.iushr dJ6_numberOfTrailingZeros_0f7a4_60 ?_
          rw [show (iUshr (((x : Nat) : Int)) (4)) = (((x / 16) : Nat) : Int) from iUshr_n (by decide) (by omega) rfl]
          refine Ev.istore_n (pl' := [some (vI ((((x / 16) : Nat) : Int))), some (vI (1 + 4))]) dJ6_numberOfTrailingZeros_0f7a4_61 rfl (Nat.le_of_ble_eq_true rfl) rfl ?_
          refine Ev.iload_n dJ6_numberOfTrailingZeros_0f7a4_62 rfl rfl ?_
          refine Ev.iconst dJ6_numberOfTrailingZeros_0f7a4_63 ?_
          refine Ev.icmp_le (tgt := 74) ⟨by omega, by omega⟩ ⟨by decide, by decide⟩ dJ6_numberOfTrailingZeros_0f7a4_64 (by decide) (fun h64 => ?_) (fun h64 => ?_)
          · skip
            refine Ev.iload_n dJ6_numberOfTrailingZeros_0f7a4_74 rfl rfl ?_
            refine Ev.iload_n dJ6_numberOfTrailingZeros_0f7a4_75 rfl rfl ?_
            refine Ev.iconst dJ6_numberOfTrailingZeros_0f7a4_76 ?_
            refine Ev.iushr dJ6_numberOfTrailingZeros_0f7a4_77 ?_
            rw [show (iUshr ((((x / 16) : Nat) : Int)) (1)) = ((((x / 16) / 2) : Nat) : Int) from iUshr_n (by decide) (by omega) rfl]
            refine Ev.iadd dJ6_numberOfTrailingZeros_0f7a4_78 ?_
            exact Ev.ireturn dJ6_numberOfTrailingZeros_0f7a4_79 rfl (rI (by have hc := lo_or (lo_lt h h0) hx; omega) rfl)
          · skip
            refine Ev.iinc (pl' := [some (vI ((((x / 16) : Nat) : Int))), some (vI (1 + 4 + 2))]) dJ6_numberOfTrailingZeros_0f7a4_67 rfl (Nat.le_of_ble_eq_true rfl) rfl ?_
            refine Ev.iload_n dJ6_numberOfTrailingZeros_0f7a4_70 rfl rfl ?_
            refine Ev.iconst dJ6_numberOfTrailingZeros_0f7a4_71 ?_
            refine Ev.iushr dJ6_numberOfTrailingZeros_0f7a4_72 ?_
            rw [show (iUshr ((((x / 16) : Nat) : Int)) (2)) = ((((x / 16) / 4) : Nat) : Int) from iUshr_n (by decide) (by omega) rfl]
            refine Ev.istore_n (pl' := [some (vI (((((x / 16) / 4) : Nat) : Int))), some (vI (1 + 4 + 2))]) dJ6_numberOfTrailingZeros_0f7a4_73 rfl (Nat.le_of_ble_eq_true rfl) rfl ?_
            refine Ev.iload_n dJ6_numberOfTrailingZeros_0f7a4_74 rfl rfl ?_
            refine Ev.iload_n dJ6_numberOfTrailingZeros_0f7a4_75 rfl rfl ?_
            refine Ev.iconst dJ6_numberOfTrailingZeros_0f7a4_76 ?_
            refine Ev.iushr dJ6_numberOfTrailingZeros_0f7a4_77 ?_
            rw [show (iUshr (((((x / 16) / 4) : Nat) : Int)) (1)) = (((((x / 16) / 4) / 2) : Nat) : Int) from iUshr_n (by decide) (by omega) rfl]
            refine Ev.iadd dJ6_numberOfTrailingZeros_0f7a4_78 ?_
            exact Ev.ireturn dJ6_numberOfTrailingZeros_0f7a4_79 rfl (rI (by have hc := lo_or (lo_lt h h0) hx; omega) rfl)
      · skip
        refine Ev.iinc (pl' := [some (vI (((x : Nat) : Int))), some (vI (1 + 8))]) dJ6_numberOfTrailingZeros_0f7a4_41 rfl (Nat.le_of_ble_eq_true rfl) rfl ?_
        refine Ev.iload_n dJ6_numberOfTrailingZeros_0f7a4_44 rfl rfl ?_
        refine Ev.bipush (n := 8) (by decide) dJ6_numberOfTrailingZeros_0f7a4_45 ?_
        refine Ev.iushr dJ6_numberOfTrailingZeros_0f7a4_47 ?_
        rw [show (iUshr (((x : Nat) : Int)) (8)) = (((x / 256) : Nat) : Int) from iUshr_n (by decide) (by omega) rfl]
        refine Ev.istore_n (pl' := [some (vI ((((x / 256) : Nat) : Int))), some (vI (1 + 8))]) dJ6_numberOfTrailingZeros_0f7a4_48 rfl (Nat.le_of_ble_eq_true rfl) rfl ?_
        refine Ev.iload_n dJ6_numberOfTrailingZeros_0f7a4_49 rfl rfl ?_
        refine Ev.bipush (n := 16) (by decide) dJ6_numberOfTrailingZeros_0f7a4_50 ?_
        refine Ev.icmp_le (tgt := 62) ⟨by omega, by omega⟩ ⟨by decide, by decide⟩ dJ6_numberOfTrailingZeros_0f7a4_52 (by decide) (fun h52 => ?_) (fun h52 => ?_)
        · skip
          refine Ev.iload_n dJ6_numberOfTrailingZeros_0f7a4_62 rfl rfl ?_
          refine Ev.iconst dJ6_numberOfTrailingZeros_0f7a4_63 ?_
          refine Ev.icmp_le (tgt := 74) ⟨by omega, by omega⟩ ⟨by decide, by decide⟩ dJ6_numberOfTrailingZeros_0f7a4_64 (by decide) (fun h64 => ?_) (fun h64 => ?_)
          · skip
            refine Ev.iload_n dJ6_numberOfTrailingZeros_0f7a4_74 rfl rfl ?_
            refine Ev.iload_n dJ6_numberOfTrailingZeros_0f7a4_75 rfl rfl ?_
            refine Ev.iconst dJ6_numberOfTrailingZeros_0f7a4_76 ?_
            refine Ev.iushr dJ6_numberOfTrailingZeros_0f7a4_77 ?_
            rw [show (iUshr ((((x / 256) : Nat) : Int)) (1)) = ((((x / 256) / 2) : Nat) : Int) from iUshr_n (by decide) (by omega) rfl]
            refine Ev.iadd dJ6_numberOfTrailingZeros_0f7a4_78 ?_
            exact Ev.ireturn dJ6_numberOfTrailingZeros_0f7a4_79 rfl (rI (by have hc := lo_or (lo_lt h h0) hx; omega) rfl)
          · skip
            refine Ev.iinc (pl' := [some (vI ((((x / 256) : Nat) : Int))), some (vI (1 + 8 + 2))]) dJ6_numberOfTrailingZeros_0f7a4_67 rfl (Nat.le_of_ble_eq_true rfl) rfl ?_
            refine Ev.iload_n dJ6_numberOfTrailingZeros_0f7a4_70 rfl rfl ?_
            refine Ev.iconst dJ6_numberOfTrailingZeros_0f7a4_71 ?_
            refine Ev.iushr dJ6_numberOfTrailingZeros_0f7a4_72 ?_
            rw [show (iUshr ((((x / 256) : Nat) : Int)) (2)) = ((((x / 256) / 4) : Nat) : Int) from iUshr_n (by decide) (by omega) rfl]
            refine Ev.istore_n (pl' := [some (vI (((((x / 256) / 4) : Nat) : Int))), some (vI (1 + 8 + 2))]) dJ6_numberOfTrailingZeros_0f7a4_73 rfl (Nat.le_of_ble_eq_true rfl) rfl ?_
            refine Ev.iload_n dJ6_numberOfTrailingZeros_0f7a4_74 rfl rfl ?_
            refine Ev.iload_n dJ6_numberOfTrailingZeros_0f7a4_75 rfl rfl ?_
            refine Ev.iconst dJ6_numberOfTrailingZeros_0f7a4_76 ?_
            refine Ev.iushr dJ6_numberOfTrailingZeros_0f7a4_77 ?_
            rw [show (iUshr (((((x / 256) / 4) : Nat) : Int)) (1)) = (((((x / 256) / 4) / 2) : Nat) : Int) from iUshr_n (by decide) (by omega) rfl]
            refine Ev.iadd dJ6_numberOfTrailingZeros_0f7a4_78 ?_
            exact Ev.ireturn dJ6_numberOfTrailingZeros_0f7a4_79 rfl (rI (by have hc := lo_or (lo_lt h h0) hx; omega) rfl)
        · skip
          refine Ev.iinc (pl' := [some (vI ((((x / 256) : Nat) : Int))), some (vI (1 + 8 + 4))]) dJ6_numberOfTrailingZeros_0f7a4_55 rfl (Nat.le_of_ble_eq_true rfl) rfl ?_
          refine Ev.iload_n dJ6_numberOfTrailingZeros_0f7a4_58 rfl rfl ?_
          refine Ev.iconst dJ6_numberOfTrailingZeros_0f7a4_59 ?_
          refine Ev.iushr dJ6_numberOfTrailingZeros_0f7a4_60 ?_
          rw [show (iUshr ((((x / 256) : Nat) : Int)) (4)) = ((((x / 256) / 16) : Nat) : Int) from iUshr_n (by decide) (by omega) rfl]
          refine Ev.istore_n (pl' := [some (vI (((((x / 256) / 16) : Nat) : Int))), some (vI (1 + 8 + 4))]) dJ6_numberOfTrailingZeros_0f7a4_61 rfl (Nat.le_of_ble_eq_true rfl) rfl ?_
          refine Ev.iload_n dJ6_numberOfTrailingZeros_0f7a4_62 rfl rfl ?_
          refine Ev.iconst dJ6_numberOfTrailingZeros_0f7a4_63 ?_
          refine Ev.icmp_le (tgt := 74) ⟨by omega, by omega⟩ ⟨by decide, by decide⟩ dJ6_numberOfTrailingZeros_0f7a4_64 (by decide) (fun h64 => ?_) (fun h64 => ?_)
          · skip
            refine Ev.iload_n dJ6_numberOfTrailingZeros_0f7a4_74 rfl rfl ?_
            refine Ev.iload_n dJ6_numberOfTrailingZeros_0f7a4_75 rfl rfl ?_
            refine Ev.iconst dJ6_numberOfTrailingZeros_0f7a4_76 ?_
            refine Ev.iushr dJ6_numberOfTrailingZeros_0f7a4_77 ?_
            rw [show (iUshr (((((x / 256) / 16) : Nat) : Int)) (1)) = (((((x / 256) / 16) / 2) : Nat) : Int) from iUshr_n (by decide) (by omega) rfl]
            refine Ev.iadd dJ6_numberOfTrailingZeros_0f7a4_78 ?_
            exact Ev.ireturn dJ6_numberOfTrailingZeros_0f7a4_79 rfl (rI (by have hc := lo_or (lo_lt h h0) hx; omega) rfl)
          · skip
            refine Ev.iinc (pl' := [some (vI (((((x / 256) / 16) : Nat) : Int))), some (vI (1 + 8 + 4 + 2))]) dJ6_numberOfTrailingZeros_0f7a4_67 rfl (Nat.le_of_ble_eq_true rfl) rfl ?_
            refine Ev.iload_n dJ6_numberOfTrailingZeros_0f7a4_70 rfl rfl ?_
            refine Ev.iconst dJ6_numberOfTrailingZeros_0f7a4_71 ?_
            refine Ev.iushr dJ6_numberOfTrailingZeros_0f7a4_72 ?_
            rw [show (iUshr (((((x / 256) / 16) : Nat) : Int)) (2)) = (((((x / 256) / 16) / 4) : Nat) : Int) from iUshr_n (by decide) (by omega) rfl]
            refine Ev.istore_n (pl' := [some (vI ((((((x / 256) / 16) / 4) : Nat) : Int))), some (vI (1 + 8 + 4 + 2))]) dJ6_numberOfTrailingZeros_0f7a4_73 rfl (Nat.le_of_ble_eq_true rfl) rfl ?_
            refine Ev.iload_n dJ6_numberOfTrailingZeros_0f7a4_74 rfl rfl ?_
            refine Ev.iload_n dJ6_numberOfTrailingZeros_0f7a4_75 rfl rfl ?_
            refine Ev.iconst dJ6_numberOfTrailingZeros_0f7a4_76 ?_
            refine Ev.iushr dJ6_numberOfTrailingZeros_0f7a4_77 ?_
            rw [show (iUshr ((((((x / 256) / 16) / 4) : Nat) : Int)) (1)) = ((((((x / 256) / 16) / 4) / 2) : Nat) : Int) from iUshr_n (by decide) (by omega) rfl]
            refine Ev.iadd dJ6_numberOfTrailingZeros_0f7a4_78 ?_
            exact Ev.ireturn dJ6_numberOfTrailingZeros_0f7a4_79 rfl (rI (by have hc := lo_or (lo_lt h h0) hx; omega) rfl)
    · skip
      refine Ev.iinc (pl' := [some (vI (((x : Nat) : Int))), some (vI (1 + 16))]) dJ6_numberOfTrailingZeros_0f7a4_26 rfl (Nat.le_of_ble_eq_true rfl) rfl ?_
      refine Ev.iload_n dJ6_numberOfTrailingZeros_0f7a4_29 rfl rfl ?_
      refine Ev.bipush (n := 16) (by decide) dJ6_numberOfTrailingZeros_0f7a4_30 ?_
      refine Ev.iushr dJ6_numberOfTrailingZeros_0f7a4_32 ?_
      rw [show (iUshr (((x : Nat) : Int)) (16)) = (((x / 65536) : Nat) : Int) from iUshr_n (by decide) (by omega) rfl]
      refine Ev.istore_n (pl' := [some (vI ((((x / 65536) : Nat) : Int))), some (vI (1 + 16))]) dJ6_numberOfTrailingZeros_0f7a4_33 rfl (Nat.le_of_ble_eq_true rfl) rfl ?_
      refine Ev.iload_n dJ6_numberOfTrailingZeros_0f7a4_34 rfl rfl ?_
      refine Ev.sipush (n := 256) (by decide) dJ6_numberOfTrailingZeros_0f7a4_35 ?_
      refine Ev.icmp_le (tgt := 49) ⟨by omega, by omega⟩ ⟨by decide, by decide⟩ dJ6_numberOfTrailingZeros_0f7a4_38 (by decide) (fun h38 => ?_) (fun h38 => ?_)
      · skip
        refine Ev.iload_n dJ6_numberOfTrailingZeros_0f7a4_49 rfl rfl ?_
        refine Ev.bipush (n := 16) (by decide) dJ6_numberOfTrailingZeros_0f7a4_50 ?_
        refine Ev.icmp_le (tgt := 62) ⟨by omega, by omega⟩ ⟨by decide, by decide⟩ dJ6_numberOfTrailingZeros_0f7a4_52 (by decide) (fun h52 => ?_) (fun h52 => ?_)
        · skip
          refine Ev.iload_n dJ6_numberOfTrailingZeros_0f7a4_62 rfl rfl ?_
          refine Ev.iconst dJ6_numberOfTrailingZeros_0f7a4_63 ?_
          refine Ev.icmp_le (tgt := 74) ⟨by omega, by omega⟩ ⟨by decide, by decide⟩ dJ6_numberOfTrailingZeros_0f7a4_64 (by decide) (fun h64 => ?_) (fun h64 => ?_)
          · skip
            refine Ev.iload_n dJ6_numberOfTrailingZeros_0f7a4_74 rfl rfl ?_
            refine Ev.iload_n dJ6_numberOfTrailingZeros_0f7a4_75 rfl rfl ?_
            refine Ev.iconst dJ6_numberOfTrailingZeros_0f7a4_76 ?_
            refine Ev.iushr dJ6_numberOfTrailingZeros_0f7a4_77 ?_
            rw [show (iUshr ((((x / 65536) : Nat) : Int)) (1)) = ((((x / 65536) / 2) : Nat) : Int) from iUshr_n (by decide) (by omega) rfl]
            refine Ev.iadd dJ6_numberOfTrailingZeros_0f7a4_78 ?_
            exact Ev.ireturn dJ6_numberOfTrailingZeros_0f7a4_79 rfl (rI (by have hc := lo_or (lo_lt h h0) hx; omega) rfl)
          · skip
            refine Ev.iinc (pl' := [some (vI ((((x / 65536) : Nat) : Int))), some (vI (1 + 16 + 2))]) dJ6_numberOfTrailingZeros_0f7a4_67 rfl (Nat.le_of_ble_eq_true rfl) rfl ?_
            refine Ev.iload_n dJ6_numberOfTrailingZeros_0f7a4_70 rfl rfl ?_
            refine Ev.iconst dJ6_numberOfTrailingZeros_0f7a4_71 ?_
            refine Ev.iushr dJ6_numberOfTrailingZeros_0f7a4_72 ?_
            rw [show (iUshr ((((x / 65536) : Nat) : Int)) (2)) = ((((x / 65536) / 4) : Nat) : Int) from iUshr_n (by decide) (by omega) rfl]
            refine Ev.istore_n (pl' := [some (vI (((((x / 65536) / 4) : Nat) : Int))), some (vI (1 + 16 + 2))]) dJ6_numberOfTrailingZeros_0f7a4_73 rfl (Nat.le_of_ble_eq_true rfl) rfl ?_
            refine Ev.iload_n dJ6_numberOfTrailingZeros_0f7a4_74 rfl rfl ?_
            refine Ev.iload_n dJ6_numberOfTrailingZeros_0f7a4_75 rfl rfl ?_
            refine Ev.iconst dJ6_numberOfTrailingZeros_0f7a4_76 ?_
            refine Ev.iushr dJ6_numberOfTrailingZeros_0f7a4_77 ?_
            rw [show (iUshr (((((x / 65536) / 4) : Nat) : Int)) (1)) = (((((x / 65536) / 4) / 2) : Nat) : Int) from iUshr_n (by decide) (by omega) rfl]
            refine Ev.iadd dJ6_numberOfTrailingZeros_0f7a4_78 ?_
            exact Ev.ireturn dJ6_numberOfTrailingZeros_0f7a4_79 rfl (rI (by have hc := lo_or (lo_lt h h0) hx; omega) rfl)
        · skip
          refine Ev.iinc (pl' := [some (vI ((((x / 65536) : Nat) : Int))), some (vI (1 + 16 + 4))]) dJ6_numberOfTrailingZeros_0f7a4_55 rfl (Nat.le_of_ble_eq_true rfl) rfl ?_
          refine Ev.iload_n dJ6_numberOfTrailingZeros_0f7a4_58 rfl rfl ?_
          refine Ev.iconst dJ6_numberOfTrailingZeros_0f7a4_59 ?_
          refine Ev.iushr dJ6_numberOfTrailingZeros_0f7a4_60 ?_
          rw [show (iUshr ((((x / 65536) : Nat) : Int)) (4)) = ((((x / 65536) / 16) : Nat) : Int) from iUshr_n (by decide) (by omega) rfl]
          refine Ev.istore_n (pl' := [some (vI (((((x / 65536) / 16) : Nat) : Int))), some (vI (1 + 16 + 4))]) dJ6_numberOfTrailingZeros_0f7a4_61 rfl (Nat.le_of_ble_eq_true rfl) rfl ?_
          refine Ev.iload_n dJ6_numberOfTrailingZeros_0f7a4_62 rfl rfl ?_
          refine Ev.iconst dJ6_numberOfTrailingZeros_0f7a4_63 ?_
          refine Ev.icmp_le (tgt := 74) ⟨by omega, by omega⟩ ⟨by decide, by decide⟩ dJ6_numberOfTrailingZeros_0f7a4_64 (by decide) (fun h64 => ?_) (fun h64 => ?_)
          · skip
            refine Ev.iload_n dJ6_numberOfTrailingZeros_0f7a4_74 rfl rfl ?_
            refine Ev.iload_n dJ6_numberOfTrailingZeros_0f7a4_75 rfl rfl ?_
            refine Ev.iconst dJ6_numberOfTrailingZeros_0f7a4_76 ?_
            refine Ev.iushr dJ6_numberOfTrailingZeros_0f7a4_77 ?_
            rw [show (iUshr (((((x / 65536) / 16) : Nat) : Int)) (1)) = (((((x / 65536) / 16) / 2) : Nat) : Int) from iUshr_n (by decide) (by omega) rfl]
            refine Ev.iadd dJ6_numberOfTrailingZeros_0f7a4_78 ?_
            exact Ev.ireturn dJ6_numberOfTrailingZeros_0f7a4_79 rfl (rI (by have hc := lo_or (lo_lt h h0) hx; omega) rfl)
          · skip
            refine Ev.iinc (pl' := [some (vI (((((x / 65536) / 16) : Nat) : Int))), some (vI (1 + 16 + 4 + 2))]) dJ6_numberOfTrailingZeros_0f7a4_67 rfl (Nat.le_of_ble_eq_true rfl) rfl ?_
            refine Ev.iload_n dJ6_numberOfTrailingZeros_0f7a4_70 rfl rfl ?_
            refine Ev.iconst dJ6_numberOfTrailingZeros_0f7a4_71 ?_
            refine Ev.iushr dJ6_numberOfTrailingZeros_0f7a4_72 ?_
            rw [show (iUshr (((((x / 65536) / 16) : Nat) : Int)) (2)) = (((((x / 65536) / 16) / 4) : Nat) : Int) from iUshr_n (by decide) (by omega) rfl]
            refine Ev.istore_n (pl' := [some (vI ((((((x / 65536) / 16) / 4) : Nat) : Int))), some (vI (1 + 16 + 4 + 2))]) dJ6_numberOfTrailingZeros_0f7a4_73 rfl (Nat.le_of_ble_eq_true rfl) rfl ?_
            refine Ev.iload_n dJ6_numberOfTrailingZeros_0f7a4_74 rfl rfl ?_
            refine Ev.iload_n dJ6_numberOfTrailingZeros_0f7a4_75 rfl rfl ?_
            refine Ev.iconst dJ6_numberOfTrailingZeros_0f7a4_76 ?_
            refine Ev.iushr dJ6_numberOfTrailingZeros_0f7a4_77 ?_
            rw [show (iUshr ((((((x / 65536) / 16) / 4) : Nat) : Int)) (1)) = ((((((x / 65536) / 16) / 4) / 2) : Nat) : Int) from iUshr_n (by decide) (by omega) rfl]
            refine Ev.iadd dJ6_numberOfTrailingZeros_0f7a4_78 ?_
            exact Ev.ireturn dJ6_numberOfTrailingZeros_0f7a4_79 rfl (rI (by have hc := lo_or (lo_lt h h0) hx; omega) rfl)
      · skip
        refine Ev.iinc (pl' := [some (vI ((((x / 65536) : Nat) : Int))), some (vI (1 + 16 + 8))]) dJ6_numberOfTrailingZeros_0f7a4_41 rfl (Nat.le_of_ble_eq_true rfl) rfl ?_
        refine Ev.iload_n dJ6_numberOfTrailingZeros_0f7a4_44 rfl rfl ?_
        refine Ev.bipush (n := 8) (by decide) dJ6_numberOfTrailingZeros_0f7a4_45 ?_
        refine Ev.iushr dJ6_numberOfTrailingZeros_0f7a4_47 ?_
        rw [show (iUshr ((((x / 65536) : Nat) : Int)) (8)) = ((((x / 65536) / 256) : Nat) : Int) from iUshr_n (by decide) (by omega) rfl]
        refine Ev.istore_n (pl' := [some (vI (((((x / 65536) / 256) : Nat) : Int))), some (vI (1 + 16 + 8))]) dJ6_numberOfTrailingZeros_0f7a4_48 rfl (Nat.le_of_ble_eq_true rfl) rfl ?_
        refine Ev.iload_n dJ6_numberOfTrailingZeros_0f7a4_49 rfl rfl ?_
        refine Ev.bipush (n := 16) (by decide) dJ6_numberOfTrailingZeros_0f7a4_50 ?_
        refine Ev.icmp_le (tgt := 62) ⟨by omega, by omega⟩ ⟨by decide, by decide⟩ dJ6_numberOfTrailingZeros_0f7a4_52 (by decide) (fun h52 => ?_) (fun h52 => ?_)
        · skip
          refine Ev.iload_n dJ6_numberOfTrailingZeros_0f7a4_62 rfl rfl ?_
          refine Ev.iconst dJ6_numberOfTrailingZeros_0f7a4_63 ?_
          refine Ev.icmp_le (tgt := 74) ⟨by omega, by omega⟩ ⟨by decide, by decide⟩ dJ6_numberOfTrailingZeros_0f7a4_64 (by decide) (fun h64 => ?_) (fun h64 => ?_)
          · skip
            refine Ev.iload_n dJ6_numberOfTrailingZeros_0f7a4_74 rfl rfl ?_
            refine Ev.iload_n dJ6_numberOfTrailingZeros_0f7a4_75 rfl rfl ?_
            refine Ev.iconst dJ6_numberOfTrailingZeros_0f7a4_76 ?_
            refine Ev.iushr dJ6_numberOfTrailingZeros_0f7a4_77 ?_
            rw [show (iUshr (((((x / 65536) / 256) : Nat) : Int)) (1)) = (((((x / 65536) / 256) / 2) : Nat) : Int) from iUshr_n (by decide) (by omega) rfl]
            refine Ev.iadd dJ6_numberOfTrailingZeros_0f7a4_78 ?_
            exact Ev.ireturn dJ6_numberOfTrailingZeros_0f7a4_79 rfl (rI (by have hc := lo_or (lo_lt h h0) hx; omega) rfl)
          · skip
            refine Ev.iinc (pl' := [some (vI (((((x / 65536) / 256) : Nat) : Int))), some (vI (1 + 16 + 8 + 2))]) dJ6_numberOfTrailingZeros_0f7a4_67 rfl (Nat.le_of_ble_eq_true rfl) rfl ?_
            refine Ev.iload_n dJ6_numberOfTrailingZeros_0f7a4_70 rfl rfl ?_
            refine Ev.iconst dJ6_numberOfTrailingZeros_0f7a4_71 ?_
            refine Ev.iushr dJ6_numberOfTrailingZeros_0f7a4_72 ?_
            rw [show (iUshr (((((x / 65536) / 256) : Nat) : Int)) (2)) = (((((x / 65536) / 256) / 4) : Nat) : Int) from iUshr_n (by decide) (by omega) rfl]
            refine Ev.istore_n (pl' := [some (vI ((((((x / 65536) / 256) / 4) : Nat) : Int))), some (vI (1 + 16 + 8 + 2))]) dJ6_numberOfTrailingZeros_0f7a4_73 rfl (Nat.le_of_ble_eq_true rfl) rfl ?_
            refine Ev.iload_n dJ6_numberOfTrailingZeros_0f7a4_74 rfl rfl ?_
            refine Ev.iload_n dJ6_numberOfTrailingZeros_0f7a4_75 rfl rfl ?_
            refine Ev.iconst dJ6_numberOfTrailingZeros_0f7a4_76 ?_
            refine Ev.iushr dJ6_numberOfTrailingZeros_0f7a4_77 ?_
            rw [show (iUshr ((((((x / 65536) / 256) / 4) : Nat) : Int)) (1)) = ((((((x / 65536) / 256) / 4) / 2) : Nat) : Int) from iUshr_n (by decide) (by omega) rfl]
            refine Ev.iadd dJ6_numberOfTrailingZeros_0f7a4_78 ?_
            exact Ev.ireturn dJ6_numberOfTrailingZeros_0f7a4_79 rfl (rI (by have hc := lo_or (lo_lt h h0) hx; omega) rfl)
        · skip
          refine Ev.iinc (pl' := [some (vI (((((x / 65536) / 256) : Nat) : Int))), some (vI (1 + 16 + 8 + 4))]) dJ6_numberOfTrailingZeros_0f7a4_55 rfl (Nat.le_of_ble_eq_true rfl) rfl ?_
          refine Ev.iload_n dJ6_numberOfTrailingZeros_0f7a4_58 rfl rfl ?_
          refine Ev.iconst dJ6_numberOfTrailingZeros_0f7a4_59 ?_
          refine Ev.iushr dJ6_numberOfTrailingZeros_0f7a4_60 ?_
          rw [show (iUshr (((((x / 65536) / 256) : Nat) : Int)) (4)) = (((((x / 65536) / 256) / 16) : Nat) : Int) from iUshr_n (by decide) (by omega) rfl]
          refine Ev.istore_n (pl' := [some (vI ((((((x / 65536) / 256) / 16) : Nat) : Int))), some (vI (1 + 16 + 8 + 4))]) dJ6_numberOfTrailingZeros_0f7a4_61 rfl (Nat.le_of_ble_eq_true rfl) rfl ?_
          refine Ev.iload_n dJ6_numberOfTrailingZeros_0f7a4_62 rfl rfl ?_
          refine Ev.iconst dJ6_numberOfTrailingZeros_0f7a4_63 ?_
          refine Ev.icmp_le (tgt := 74) ⟨by omega, by omega⟩ ⟨by decide, by decide⟩ dJ6_numberOfTrailingZeros_0f7a4_64 (by decide) (fun h64 => ?_) (fun h64 => ?_)
          · skip
            refine Ev.iload_n dJ6_numberOfTrailingZeros_0f7a4_74 rfl rfl ?_
            refine Ev.iload_n dJ6_numberOfTrailingZeros_0f7a4_75 rfl rfl ?_
            refine Ev.iconst dJ6_numberOfTrailingZeros_0f7a4_76 ?_
            refine Ev.iushr dJ6_numberOfTrailingZeros_0f7a4_77 ?_
            rw [show (iUshr ((((((x / 65536) / 256) / 16) : Nat) : Int)) (1)) = ((((((x / 65536) / 256) / 16) / 2) : Nat) : Int) from iUshr_n (by decide) (by omega) rfl]
            refine Ev.iadd dJ6_numberOfTrailingZeros_0f7a4_78 ?_
            exact Ev.ireturn dJ6_numberOfTrailingZeros_0f7a4_79 rfl (rI (by have hc := lo_or (lo_lt h h0) hx; omega) rfl)
          · skip
            refine Ev.iinc (pl' := [some (vI ((((((x / 65536) / 256) / 16) : Nat) : Int))), some (vI (1 + 16 + 8 + 4 + 2))]) dJ6_numberOfTrailingZeros_0f7a4_67 rfl (Nat.le_of_ble_eq_true rfl) rfl ?_
            refine Ev.iload_n dJ6_numberOfTrailingZeros_0f7a4_70 rfl rfl ?_
            refine Ev.iconst dJ6_numberOfTrailingZeros_0f7a4_71 ?_
            refine Ev.iushr dJ6_numberOfTrailingZeros_0f7a4_72 ?_
            rw [show (iUshr ((((((x / 65536) / 256) / 16) : Nat) : Int)) (2)) = ((((((x / 65536) / 256) / 16) / 4) : Nat) : Int) from iUshr_n (by decide) (by omega) rfl]
            refine Ev.istore_n (pl' := [some (vI (((((((x / 65536) / 256) / 16) / 4) : Nat) : Int))), some (vI (1 + 16 + 8 + 4 + 2))]) dJ6_numberOfTrailingZeros_0f7a4_73 rfl (Nat.le_of_ble_eq_true rfl) rfl ?_
            refine Ev.iload_n dJ6_numberOfTrailingZeros_0f7a4_74 rfl rfl ?_
            refine Ev.iload_n dJ6_numberOfTrailingZeros_0f7a4_75 rfl rfl ?_
            refine Ev.iconst dJ6_numberOfTrailingZeros_0f7a4_76 ?_
            refine Ev.iushr dJ6_numberOfTrailingZeros_0f7a4_77 ?_
            rw [show (iUshr (((((((x / 65536) / 256) / 16) / 4) : Nat) : Int)) (1)) = (((((((x / 65536) / 256) / 16) / 4) / 2) : Nat) : Int) from iUshr_n (by decide) (by omega) rfl]
            refine Ev.iadd dJ6_numberOfTrailingZeros_0f7a4_78 ?_
            exact Ev.ireturn dJ6_numberOfTrailingZeros_0f7a4_79 rfl (rI (by have hc := lo_or (lo_lt h h0) hx; omega) rfl)
  · skip
    refine Ev.iload_n dJ6_numberOfTrailingZeros_0f7a4_12 rfl rfl ?_
    refine Ev.bipush (n := 32) (by decide) dJ6_numberOfTrailingZeros_0f7a4_13 ?_
    refine Ev.iand dJ6_numberOfTrailingZeros_0f7a4_15 ?_
    rw [show (iAnd (((x : Nat) : Int)) (32)) = ((0 : Nat) : Int) from by rw [show x = 0 by omega]; rfl]
    exact Ev.ireturn dJ6_numberOfTrailingZeros_0f7a4_16 rfl (rI (by have hc := lo_or (lo_lt h h0) hx; omega) rfl)

set_option maxRecDepth 100000 in
set_option maxHeartbeats 4000000 in
theorem sJ_ntzl {g : GC} (σ : Sg) (m : Nat) (h : m < 65536) (h0 : m ≠ 0) : Ev g mJ13_numberOfTrailingZeros_95d88 0 [some (vL (((m : Nat) : Int))), none, none] [] (M0 (σ)) 0 0 (retI ((lo m : Nat) : Int) σ) := by
  refine Ev.lload_n dJ13_numberOfTrailingZeros_95d88_0 rfl rfl ?_
  refine Ev.l2i dJ13_numberOfTrailingZeros_95d88_1 ?_
  refine Ev.istore_n (pl' := [some (vL (((m : Nat) : Int))), none, some (vI (((m : Nat) : Int)))]) dJ13_numberOfTrailingZeros_95d88_2 rfl (Nat.le_of_ble_eq_true rfl) rfl ?_
  refine Ev.iload_n dJ13_numberOfTrailingZeros_95d88_3 rfl rfl ?_
  refine Ev.if_ne (tgt := 21) ⟨by omega, by omega⟩ dJ13_numberOfTrailingZeros_95d88_4 (by decide) (fun h4 => ?_) (fun h4 => ?_)
  · skip
    refine Ev.iload_n dJ13_numberOfTrailingZeros_95d88_21 rfl rfl ?_
    refine Ev.callS_I (M2 := mJ6_numberOfTrailingZeros_0f7a4) (args2 := [vI (((m : Nat) : Int))]) dJ13_numberOfTrailingZeros_95d88_22 okJ6_numberOfTrailingZeros_0f7a4 lk_J13_311 osJ6_numberOfTrailingZeros_0f7a4.1 osJ6_numberOfTrailingZeros_0f7a4.2 (by decide) rfl (Nat.le_of_ble_eq_true rfl) (Nat.le_of_ble_eq_true rfl) (sJ_ntz σ m h h0) ?_ rfl
    exact Ev.ireturn dJ13_numberOfTrailingZeros_95d88_25 rfl (rI rfl rfl)
  · exact absurd h4 (by omega)

set_option maxRecDepth 100000 in
set_option maxHeartbeats 4000000 in
theorem sM_many_l {g : GC} (σ : Sg) (s : Nat) (hs : s < 2147483648) : ∀ j i : Nat, i + j = 16 → Ev g mX8_many 4 [some (vI (((s : Nat) : Int))), some (vI ((((popN i s) : Nat) : Int))), some (vI (((i : Nat) : Int)))] [] (M0 (σ)) 0 0 (retI ((pop s : Nat) : Int) σ) := by
  intro j
  induction j with
  | zero =>
    intro i hij
    have hp := popN_le i s
    refine Ev.iload_n dX8_many_4 rfl rfl ?_
    refine Ev.bipush (n := 16) (by decide) dX8_many_5 ?_
    refine Ev.icmp_ge (tgt := 24) ⟨by omega, by omega⟩ ⟨by decide, by decide⟩ dX8_many_7 (by decide) (fun h7 => ?_) (fun h7 => ?_)
    · skip
      refine Ev.iload_n dX8_many_24 rfl rfl ?_
      exact Ev.ireturn dX8_many_25 rfl (rI (by rw [show i = 16 by omega]) rfl)
    · exact absurd h7 (by omega)
  | succ j ih =>
    intro i hij
    have hp := popN_le i s
    have hb := b2_le (b := s.testBit i)
    have hz : popN (i + 1) s = popN i s + b2 (s.testBit i) := rfl
    refine Ev.iload_n dX8_many_4 rfl rfl ?_
    refine Ev.bipush (n := 16) (by decide) dX8_many_5 ?_
    refine Ev.icmp_ge (tgt := 24) ⟨by omega, by omega⟩ ⟨by decide, by decide⟩ dX8_many_7 (by decide) (fun h7 => ?_) (fun h7 => ?_)
    · exact absurd h7 (by omega)
    · skip
      refine Ev.iload_n dX8_many_10 rfl rfl ?_
      refine Ev.iload_n dX8_many_11 rfl rfl ?_
      refine Ev.iload_n dX8_many_12 rfl rfl ?_
      refine Ev.ishr dX8_many_13 ?_
      refine Ev.iconst dX8_many_14 ?_
      refine Ev.iand dX8_many_15 ?_
      rw [show (iAnd ((iShr (((s : Nat) : Int)) (((i : Nat) : Int)))) (1)) = (((b2 (Nat.testBit s i)) : Nat) : Int) from bit_nat (by omega) (by omega)]
      refine Ev.iadd dX8_many_16 ?_
      refine Ev.istore_n (pl' := [some (vI (((s : Nat) : Int))), some (vI (((((popN i s) : Nat) : Int) + (((b2 (Nat.testBit s i)) : Nat) : Int)))), some (vI (((i : Nat) : Int)))]) dX8_many_17 rfl (Nat.le_of_ble_eq_true rfl) rfl ?_
      refine Ev.iinc (pl' := [some (vI (((s : Nat) : Int))), some (vI (((((popN i s) : Nat) : Int) + (((b2 (Nat.testBit s i)) : Nat) : Int)))), some (vI (((i : Nat) : Int) + 1))]) dX8_many_18 rfl (Nat.le_of_ble_eq_true rfl) rfl ?_
      refine Ev.goto (tgt := 4) dX8_many_21 (by decide) ?_
      refine Ev.wk (pl' := [some (vI (((s : Nat) : Int))), some (vI ((((popN (i + 1) s) : Nat) : Int))), some (vI ((((i + 1) : Nat) : Int)))]) ⟨rfl, ⟨vIe (by omega), ⟨vIe (by omega), trivial⟩⟩⟩ ?_
      exact ih (i + 1) (by omega)

set_option maxRecDepth 100000 in
set_option maxHeartbeats 4000000 in
theorem sM_many {g : GC} (σ : Sg) (s : Nat) (hs : s < 2147483648) : Ev g mX8_many 0 [some (vI (((s : Nat) : Int))), none, none] [] (M0 (σ)) 0 0 (retI ((pop s : Nat) : Int) σ) := by
  refine Ev.iconst dX8_many_0 ?_
  refine Ev.istore_n (pl' := [some (vI (((s : Nat) : Int))), some (vI (0)), none]) dX8_many_1 rfl (Nat.le_of_ble_eq_true rfl) rfl ?_
  refine Ev.iconst dX8_many_2 ?_
  refine Ev.istore_n (pl' := [some (vI (((s : Nat) : Int))), some (vI (0)), some (vI (0))]) dX8_many_3 rfl (Nat.le_of_ble_eq_true rfl) rfl ?_
  exact sM_many_l σ s hs 16 0 rfl

theorem lo_is {s i : Nat} (h16 : i ≤ 16) (hbl : ∀ k, k < i → s.testBit k = false) (h : i = 16 ∨ s.testBit i = true) : i = lo s := by
  obtain ⟨h1, h2, -⟩ := loN_at 16 s
  rcases Nat.lt_trichotomy i (lo s) with h3 | h3 | h3
  · rcases h with h | h
    · have : lo s = loN 16 s := rfl
      omega
    · rw [lo_below h3] at h; cases h
  · exact h3
  · have := h2 (Nat.lt_of_lt_of_le h3 h16)
    rw [hbl _ h3] at this
    cases this
set_option maxRecDepth 100000 in
set_option maxHeartbeats 4000000 in
theorem sM_least_l {g : GC} (σ : Sg) (s : Nat) (hs : s < 2147483648) : ∀ j i : Nat, i + j = 16 → (∀ k, k < i → s.testBit k = false) → Ev g mX8_least 2 [some (vI (((s : Nat) : Int))), some (vI (((i : Nat) : Int)))] [] (M0 (σ)) 0 0 (retI ((lo s : Nat) : Int) σ) := by
  intro j
  induction j with
  | zero =>
    intro i hij hbl
    refine Ev.iload_n dX8_least_2 rfl rfl ?_
    refine Ev.bipush (n := 16) (by decide) dX8_least_3 ?_
    refine Ev.icmp_ge (tgt := 22) ⟨by omega, by omega⟩ ⟨by decide, by decide⟩ dX8_least_5 (by decide) (fun h5 => ?_) (fun h5 => ?_)
    · skip
      refine Ev.iload_n dX8_least_22 rfl rfl ?_
      exact Ev.ireturn dX8_least_23 rfl (rI (by first | exact congrArg Int.ofNat (lo_is (by omega) hbl (Or.inl (by omega))) | exact congrArg Int.ofNat (lo_is (by omega) hbl (Or.inr (b2_ne.mp (by assumption))))) rfl)
    · exact absurd h5 (by omega)
  | succ j ih =>
    intro i hij hbl
    refine Ev.iload_n dX8_least_2 rfl rfl ?_
    refine Ev.bipush (n := 16) (by decide) dX8_least_3 ?_
    refine Ev.icmp_ge (tgt := 22) ⟨by omega, by omega⟩ ⟨by decide, by decide⟩ dX8_least_5 (by decide) (fun h5 => ?_) (fun h5 => ?_)
    · exact absurd h5 (by omega)
    · skip
      refine Ev.iload_n dX8_least_8 rfl rfl ?_
      refine Ev.iload_n dX8_least_9 rfl rfl ?_
      refine Ev.ishr dX8_least_10 ?_
      refine Ev.iconst dX8_least_11 ?_
      refine Ev.iand dX8_least_12 ?_
      rw [show (iAnd ((iShr (((s : Nat) : Int)) (((i : Nat) : Int)))) (1)) = (((b2 (Nat.testBit s i)) : Nat) : Int) from bit_nat (by omega) (by omega)]
      refine Ev.if_ne (tgt := 22) b2_inR dX8_least_13 (by decide) (fun h13 => ?_) (fun h13 => ?_)
      · skip
        refine Ev.iload_n dX8_least_22 rfl rfl ?_
        exact Ev.ireturn dX8_least_23 rfl (rI (by first | exact congrArg Int.ofNat (lo_is (by omega) hbl (Or.inl (by omega))) | exact congrArg Int.ofNat (lo_is (by omega) hbl (Or.inr (b2_ne.mp (by assumption))))) rfl)
      · skip
        refine Ev.iinc (pl' := [some (vI (((s : Nat) : Int))), some (vI (((i : Nat) : Int) + 1))]) dX8_least_16 rfl (Nat.le_of_ble_eq_true rfl) rfl ?_
        refine Ev.goto (tgt := 2) dX8_least_19 (by decide) ?_
        refine Ev.wk (pl' := [some (vI (((s : Nat) : Int))), some (vI ((((i + 1) : Nat) : Int)))]) ⟨rfl, ⟨vIe (by omega), trivial⟩⟩ ?_
        exact ih (i + 1) (by omega) (fun k hk => (Nat.lt_or_eq_of_le (Nat.lt_succ_iff.mp hk)).elim (hbl k) (fun e => by rw [e]; exact b2_0.mp (by omega)))

set_option maxRecDepth 100000 in
set_option maxHeartbeats 4000000 in
theorem sM_least {g : GC} (σ : Sg) (s : Nat) (hs : s < 2147483648) : Ev g mX8_least 0 [some (vI (((s : Nat) : Int))), none] [] (M0 (σ)) 0 0 (retI ((lo s : Nat) : Int) σ) := by
  refine Ev.iconst dX8_least_0 ?_
  refine Ev.istore_n (pl' := [some (vI (((s : Nat) : Int))), some (vI (0))]) dX8_least_1 rfl (Nat.le_of_ble_eq_true rfl) rfl ?_
  exact sM_least_l σ s hs 16 0 rfl (fun k hk => absurd hk (by omega))

theorem hi_is {s i : Nat} (hab : ∀ k, i < k → s.testBit k = false) (h : s.testBit i = true) : i = hi s := by
  have h1 := hi_max h
  have h0 : s ≠ 0 := fun z => by rw [z, Nat.zero_testBit] at h; cases h
  rcases Nat.lt_or_ge i (hi s) with h2 | h2
  · have := hi_tb h0; rw [hab _ h2] at this; cases this
  · omega
theorem hi_no {s : Nat} (h0 : s ≠ 0) (hab : ∀ k, 0 < k → s.testBit k = false) (h : s.testBit 0 = false) : False := by
  apply h0
  apply Nat.eq_of_testBit_eq
  intro k
  rw [Nat.zero_testBit]
  cases k with
  | zero => exact h
  | succ k => exact hab _ (by omega)
set_option maxRecDepth 100000 in
set_option maxHeartbeats 4000000 in
theorem sM_great_l {g : GC} (σ : Sg) (s : Nat) (hs : s < 65536) (hs0 : s ≠ 0) : ∀ j i : Nat, i + j = 15 → (∀ k, 15 - i < k → s.testBit k = false) → Ev g mX8_greatest 3 [some (vI (((s : Nat) : Int))), some (vI (15 - ((i : Nat) : Int)))] [] (M0 (σ)) 0 0 (retI ((hi s : Nat) : Int) σ) := by
  intro j
  induction j with
  | zero =>
    intro i hij hbl
    refine Ev.iload_n dX8_greatest_3 rfl rfl ?_
    refine Ev.if_lt (tgt := 21) ⟨by omega, by omega⟩ dX8_greatest_4 (by decide) (fun h4 => ?_) (fun h4 => ?_)
    · exact absurd h4 (by omega)
    · skip
      refine Ev.iload_n dX8_greatest_7 rfl rfl ?_
      refine Ev.iload_n dX8_greatest_8 rfl rfl ?_
      refine Ev.ishr dX8_greatest_9 ?_
      refine Ev.iconst dX8_greatest_10 ?_
      refine Ev.iand dX8_greatest_11 ?_
      rw [show (iAnd ((iShr (((s : Nat) : Int)) (15 - ((i : Nat) : Int)))) (1)) = (((b2 (Nat.testBit s (15 - i))) : Nat) : Int) from by rw [show (15 : Int) - ((i : Nat) : Int) = ((15 - i : Nat) : Int) by omega]; exact bit_nat (by omega) (by omega)]
      refine Ev.if_ne (tgt := 21) b2_inR dX8_greatest_12 (by decide) (fun h12 => ?_) (fun h12 => ?_)
      · skip
        refine Ev.iload_n dX8_greatest_21 rfl rfl ?_
        exact Ev.ireturn dX8_greatest_22 rfl (rI (by rw [← hi_is hbl (b2_ne.mp (by assumption))]; omega) rfl)
      · exact absurd h12 (fun z => hi_no hs0 (fun k hk => hbl k (by omega)) (by rw [show 0 = 15 - i by omega]; exact b2_0.mp z))
  | succ j ih =>
    intro i hij hbl
    refine Ev.iload_n dX8_greatest_3 rfl rfl ?_
    refine Ev.if_lt (tgt := 21) ⟨by omega, by omega⟩ dX8_greatest_4 (by decide) (fun h4 => ?_) (fun h4 => ?_)
    · exact absurd h4 (by omega)
    · skip
      refine Ev.iload_n dX8_greatest_7 rfl rfl ?_
      refine Ev.iload_n dX8_greatest_8 rfl rfl ?_
      refine Ev.ishr dX8_greatest_9 ?_
      refine Ev.iconst dX8_greatest_10 ?_
      refine Ev.iand dX8_greatest_11 ?_
      rw [show (iAnd ((iShr (((s : Nat) : Int)) (15 - ((i : Nat) : Int)))) (1)) = (((b2 (Nat.testBit s (15 - i))) : Nat) : Int) from by rw [show (15 : Int) - ((i : Nat) : Int) = ((15 - i : Nat) : Int) by omega]; exact bit_nat (by omega) (by omega)]
      refine Ev.if_ne (tgt := 21) b2_inR dX8_greatest_12 (by decide) (fun h12 => ?_) (fun h12 => ?_)
      · skip
        refine Ev.iload_n dX8_greatest_21 rfl rfl ?_
        exact Ev.ireturn dX8_greatest_22 rfl (rI (by rw [← hi_is hbl (b2_ne.mp (by assumption))]; omega) rfl)
      · skip
        refine Ev.iinc (pl' := [some (vI (((s : Nat) : Int))), some (vI (15 - ((i : Nat) : Int) + (-1)))]) dX8_greatest_15 rfl (Nat.le_of_ble_eq_true rfl) rfl ?_
        refine Ev.goto (tgt := 3) dX8_greatest_18 (by decide) ?_
        refine Ev.wk (pl' := [some (vI (((s : Nat) : Int))), some (vI (15 - (((i + 1) : Nat) : Int)))]) ⟨rfl, ⟨vIe (by omega), trivial⟩⟩ ?_
        exact ih (i + 1) (by omega) (fun k hk => (Nat.lt_or_ge (15 - i) k).elim (hbl k) (fun e => by rw [show k = 15 - i by omega]; exact b2_0.mp (by assumption)))

set_option maxRecDepth 100000 in
set_option maxHeartbeats 4000000 in
theorem sM_great {g : GC} (σ : Sg) (s : Nat) (hs : s < 65536) (hs0 : s ≠ 0) : Ev g mX8_greatest 0 [some (vI (((s : Nat) : Int))), none] [] (M0 (σ)) 0 0 (retI ((hi s : Nat) : Int) σ) := by
  refine Ev.bipush (n := 15) (by decide) dX8_greatest_0 ?_
  refine Ev.istore_n (pl' := [some (vI (((s : Nat) : Int))), some (vI (15))]) dX8_greatest_2 rfl (Nat.le_of_ble_eq_true rfl) rfl ?_
  refine Ev.wk (pl' := [some (vI (((s : Nat) : Int))), some (vI (15 - ((0 : Nat) : Int)))]) ⟨rfl, ⟨vIe (by omega), trivial⟩⟩ ?_
  exact sM_great_l σ s hs hs0 15 0 rfl (fun k hk => tb16 hs (by omega))

