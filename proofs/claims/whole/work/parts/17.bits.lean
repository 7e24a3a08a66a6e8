/-! BITS: the machine's on Int are those of Nat (the rows nx_, s_l, wb_, pf_, fa_ out of kit/laws) -/
theorem nx_and (a b : Nat) : nI a &&& nI b = nI (a &&& b) := by
  apply Int32.toBitVec_inj.1
  show BitVec.ofNat 32 a &&& BitVec.ofNat 32 b = BitVec.ofNat 32 (a &&& b)
  apply BitVec.eq_of_getLsbD_eq
  intro i hi
  simp [hi]
theorem s_l : ∀ n, n < 32 → ((nI n &&& 31).toBitVec.smod 32).toNat = n := by decide +kernel
theorem s_u : ∀ n, n < 32 → (((nI n).toUInt32 &&& Int32.toUInt32 31).toBitVec % 32).toNat = n := by decide +kernel
theorem wb_inj {a b : Int64} (h : a.toBitVec = b.toBitVec) : a = b := Int64.toBitVec_inj.mp h
theorem wb_tb (n : Nat) : (lN n).toBitVec = BitVec.ofNat 64 n := rfl
theorem wb_tn {n : Nat} (h : n < 2 ^ 64) : (lN n).toBitVec.toNat = n := by rw [wb_tb, BitVec.toNat_ofNat, Nat.mod_eq_of_lt h]
theorem wb_c : ∀ k, k < 64 → ((nI k).toInt64 &&& 63) = lN k := by decide +kernel
theorem wb_sm : ∀ k, k < 64 → (BitVec.ofNat 64 k).smod 64 = BitVec.ofNat 64 k := by decide +kernel
theorem wb_shl (n : Nat) {k : Nat} (hk : k < 64) : lN n <<< ((nI k).toInt64 &&& 63) = lN (n * 2 ^ k) := by
  rw [wb_c k hk]
  apply wb_inj
  rw [Int64.toBitVec_shiftLeft, wb_tb, wb_tb, wb_tb, wb_sm k hk]
  apply BitVec.eq_of_toNat_eq
  rw [BitVec.shiftLeft_eq', BitVec.toNat_shiftLeft, BitVec.toNat_ofNat, BitVec.toNat_ofNat, BitVec.toNat_ofNat, Nat.mod_eq_of_lt (show k < 2 ^ 64 by omega), Nat.shiftLeft_eq, Nat.mul_mod, Nat.mod_mod, ← Nat.mul_mod]
theorem wb_and {a b : Nat} (ha : a < 2 ^ 64) (hb : b < 2 ^ 64) : lN a &&& lN b = lN (a &&& b) := by
  apply wb_inj
  rw [Int64.toBitVec_and, wb_tb, wb_tb, wb_tb]
  apply BitVec.eq_of_toNat_eq
  rw [BitVec.toNat_and, BitVec.toNat_ofNat, BitVec.toNat_ofNat, BitVec.toNat_ofNat, Nat.mod_eq_of_lt ha, Nat.mod_eq_of_lt hb, Nat.mod_eq_of_lt (Nat.and_lt_two_pow _ hb)]
theorem wb_or {a b : Nat} (ha : a < 2 ^ 64) (hb : b < 2 ^ 64) : lN a ||| lN b = lN (a ||| b) := by
  apply wb_inj
  rw [Int64.toBitVec_or, wb_tb, wb_tb, wb_tb]
  apply BitVec.eq_of_toNat_eq
  rw [BitVec.toNat_or, BitVec.toNat_ofNat, BitVec.toNat_ofNat, BitVec.toNat_ofNat, Nat.mod_eq_of_lt ha, Nat.mod_eq_of_lt hb, Nat.mod_eq_of_lt (Nat.or_lt_two_pow ha hb)]
theorem pf_lI {a : Nat} (h : a < 2 ^ 63) : (lN a).toInt = (a : Int) := lg_ofNat_toInt h
theorem pf_shr {a d : Nat} {D : Int64} (hD : (D.toBitVec.smod 64).toNat = d) (h : a < 2 ^ 62) : lN a >>> D = lN (a / 2 ^ d) := by
  have hd : a / 2 ^ d ≤ a := Nat.div_le_self _ _
  apply Int64.toInt_inj.mp
  have e : (lN a >>> D).toInt = (lN a).toInt >>> d := by
    rw [← hD]
    exact BitVec.toInt_sshiftRight ..
  rw [e, Int.shiftRight_eq_div_pow, pf_lI (by omega), pf_lI (by omega)]
  rfl
theorem fa_or (a b : Nat) : nI a ||| nI b = nI (a ||| b) := by
  apply Int32.toBitVec_inj.1
  show BitVec.ofNat 32 a ||| BitVec.ofNat 32 b = BitVec.ofNat 32 (a ||| b)
  apply BitVec.eq_of_getLsbD_eq
  intro i hi
  simp [hi]
theorem i32_nI (n : Nat) : Int32.ofInt (n : Int) = nI n := rfl
theorem i64_lN (n : Nat) : Int64.ofInt (n : Int) = lN n := rfl
theorem nI_tI {n : Nat} (h : n < 2 ^ 31) : (nI n).toInt = n := nI_toInt h
def andN (a b : Nat) : Nat := a ^^^ (a &&& b)
theorem andN_tb (a b i : Nat) : (andN a b).testBit i = (a.testBit i && !b.testBit i) := by
  simp only [andN, Nat.testBit_xor, Nat.testBit_and]
  cases a.testBit i <;> cases b.testBit i <;> rfl
theorem andN_le (a b : Nat) : andN a b ≤ a := by
  have h : andN a b = a &&& (andN a b) := by
    apply Nat.eq_of_testBit_eq
    intro i
    rw [Nat.testBit_and, andN_tb]
    cases a.testBit i <;> cases b.testBit i <;> rfl
  rw [h]
  exact Nat.and_le_left
theorem andN_lt {a b k : Nat} (h : a < k) : andN a b < k := Nat.lt_of_le_of_lt (andN_le a b) h
theorem and_ltN {a b k : Nat} (h : a < k) : a &&& b < k := Nat.lt_of_le_of_lt Nat.and_le_left h
theorem and_ltN2 {a b k : Nat} (h : b < k) : a &&& b < k := Nat.lt_of_le_of_lt Nat.and_le_right h
theorem iAnd_nat {a b : Nat} (h : a < 2 ^ 31 ∨ b < 2 ^ 31) : iAnd (a : Int) (b : Int) = ((a &&& b : Nat) : Int) := by
  unfold iAnd
  rw [i32_nI, i32_nI, nx_and]
  exact nI_tI (by rcases h with h | h; exact and_ltN h; exact and_ltN2 h)
theorem iOr_nat {a b : Nat} (ha : a < 2 ^ 31) (hb : b < 2 ^ 31) : iOr (a : Int) (b : Int) = ((a ||| b : Nat) : Int) := by
  unfold iOr
  rw [i32_nI, i32_nI, fa_or]
  exact nI_tI (Nat.or_lt_two_pow ha hb)
theorem nI_not (b : Nat) : Int32.ofInt (-(b : Int) - 1) = ~~~ nI b := by
  rw [Int32.ofInt_sub, Int32.ofInt_neg, i32_nI]
  apply Int32.toBitVec_inj.1
  show -(nI b).toBitVec - 1#32 = ~~~ (nI b).toBitVec
  generalize (nI b).toBitVec = x
  apply BitVec.eq_of_toNat_eq
  have := x.isLt
  simp only [BitVec.toNat_sub, BitVec.toNat_neg, BitVec.toNat_not, BitVec.toNat_ofNat]
  omega
theorem iAnd_not {a b : Nat} (ha : a < 2 ^ 31) : iAnd (a : Int) (-(b : Int) - 1) = ((andN a b : Nat) : Int) := by
  unfold iAnd
  rw [i32_nI, nI_not]
  have e : nI a &&& ~~~ nI b = nI (andN a b) := by
    apply Int32.toBitVec_inj.1
    show BitVec.ofNat 32 a &&& ~~~ BitVec.ofNat 32 b = BitVec.ofNat 32 (andN a b)
    apply BitVec.eq_of_getLsbD_eq
    intro i hi
    rw [BitVec.getLsbD_and, BitVec.getLsbD_not, BitVec.getLsbD_ofNat, BitVec.getLsbD_ofNat, BitVec.getLsbD_ofNat, andN_tb]
    simp [hi]
  rw [e]
  exact nI_tI (andN_lt ha)
theorem iXor_m1 {a : Nat} (ha : a < 2 ^ 31) : iXor (a : Int) (-1) = -(a : Int) - 1 := by
  unfold iXor
  have e : Int32.ofInt (a : Int) ^^^ Int32.ofInt (-1) = Int32.ofInt (-(a : Int) - 1) := by
    rw [nI_not, i32_nI]
    apply Int32.toBitVec_inj.1
    show BitVec.ofNat 32 a ^^^ BitVec.allOnes 32 = ~~~ BitVec.ofNat 32 a
    rw [BitVec.xor_allOnes]
  rw [e]
  exact i32_toInt ⟨by omega, by omega⟩
theorem iShl_nat {a k : Nat} (hk : k < 32) (h : a * 2 ^ k < 2 ^ 31) : iShl (a : Int) (k : Int) = ((a * 2 ^ k : Nat) : Int) := by
  unfold iShl
  rw [i32_nI, i32_nI, pk_shlN (nI k &&& 31) k (s_l k hk) (by omega)]
  exact nI_tI h
theorem iShr_nat {a k : Nat} (hk : k < 32) (h : a < 2 ^ 31) : iShr (a : Int) (k : Int) = ((a / 2 ^ k : Nat) : Int) := by
  unfold iShr
  rw [i32_nI, i32_nI, pk_shrN h (nI k &&& 31) k (s_l k hk)]
  exact nI_tI (Nat.lt_of_le_of_lt (Nat.div_le_self _ _) h)
theorem iUshr_nat {a k : Nat} (hk : k < 32) (h : a < 2 ^ 31) : iUshr (a : Int) (k : Int) = ((a / 2 ^ k : Nat) : Int) := by
  unfold iUshr
  rw [i32_nI, i32_nI, pk_ushrN (by omega) (nI k) k (s_u k hk)]
  exact nI_tI (Nat.lt_of_le_of_lt (Nat.div_le_self _ _) h)
/-- one bit, as a number -/
def b2 (b : Bool) : Nat := if b then 1 else 0
theorem and1 (a : Nat) : a &&& 1 = a % 2 := Nat.and_one_is_mod a
theorem bit_nat {a k : Nat} (hk : k < 32) (h : a < 2 ^ 31) : iAnd (iShr (a : Int) (k : Int)) 1 = ((b2 (a.testBit k) : Nat) : Int) := by
  rw [iShr_nat hk h]
  rw [show (1 : Int) = ((1 : Nat) : Int) from rfl, iAnd_nat (Or.inr (by decide)), and1]
  congr 1
  rw [Nat.testBit_eq_decide_div_mod_eq, b2]
  have := Nat.mod_lt (a / 2 ^ k) (show 0 < 2 by decide)
  by_cases h1 : a / 2 ^ k % 2 = 1
  · simp [h1]
  · simp [h1]; omega
theorem b2_0 {b : Bool} : ((b2 b : Nat) : Int) = 0 ↔ b = false := by cases b <;> simp [b2]
theorem b2_1 {b : Bool} : ((b2 b : Nat) : Int) = 1 ↔ b = true := by cases b <;> simp [b2]
theorem b2_ne {b : Bool} : ((b2 b : Nat) : Int) ≠ 0 ↔ b = true := by cases b <;> simp [b2]
theorem b2_le {b : Bool} : b2 b ≤ 1 := by cases b <;> simp [b2]
-- longs
theorem lAnd_nat {a b : Nat} (ha : a < 2 ^ 63) (hb : b < 2 ^ 63) : lAnd (a : Int) (b : Int) = ((a &&& b : Nat) : Int) := by
  unfold lAnd
  rw [i64_lN, i64_lN, wb_and (by omega) (by omega)]
  exact pf_lI (and_ltN ha)
theorem lOr_nat {a b : Nat} (ha : a < 2 ^ 63) (hb : b < 2 ^ 63) : lOr (a : Int) (b : Int) = ((a ||| b : Nat) : Int) := by
  unfold lOr
  rw [i64_lN, i64_lN, wb_or (by omega) (by omega)]
  exact pf_lI (Nat.or_lt_two_pow ha hb)
theorem lShl_nat {a k : Nat} (hk : k < 64) (h : a * 2 ^ k < 2 ^ 63) : lShl (a : Int) (k : Int) = ((a * 2 ^ k : Nat) : Int) := by
  unfold lShl
  rw [i64_lN, i32_nI, wb_shl a hk]
  exact pf_lI h
theorem lShr_nat {a k : Nat} (hk : k < 64) (h : a < 2 ^ 62) : lShr (a : Int) (k : Int) = ((a / 2 ^ k : Nat) : Int) := by
  unfold lShr
  have e : (lN a) >>> ((nI k).toInt64 &&& 63) = lN (a / 2 ^ k) := pf_shr (by rw [wb_c k hk, wb_tb, wb_sm k hk, BitVec.toNat_ofNat]; exact Nat.mod_eq_of_lt (by omega)) h
  rw [i64_lN, i32_nI, e]
  exact pf_lI (Nat.lt_of_le_of_lt (Nat.div_le_self _ _) (by omega))
theorem lbit_nat {a k : Nat} (hk : k < 64) (h : a < 2 ^ 62) : lAnd (lShr (a : Int) (k : Int)) 1 = ((b2 (a.testBit k) : Nat) : Int) := by
  rw [lShr_nat hk h]
  rw [show (1 : Int) = ((1 : Nat) : Int) from rfl, lAnd_nat (Nat.lt_of_le_of_lt (Nat.div_le_self _ _) (by omega)) (by decide), and1]
  congr 1
  rw [Nat.testBit_eq_decide_div_mod_eq, b2]
  have := Nat.mod_lt (a / 2 ^ k) (show 0 < 2 by decide)
  by_cases h1 : a / 2 ^ k % 2 = 1
  · simp [h1]
  · simp [h1]; omega
theorem lN_not (b : Nat) : Int64.ofInt (-(b : Int) - 1) = ~~~ lN b := by
  rw [Int64.ofInt_sub, Int64.ofInt_neg, i64_lN]
  apply Int64.toBitVec_inj.1
  show -(lN b).toBitVec - 1#64 = ~~~ (lN b).toBitVec
  generalize (lN b).toBitVec = x
  apply BitVec.eq_of_toNat_eq
  have := x.isLt
  simp only [BitVec.toNat_sub, BitVec.toNat_neg, BitVec.toNat_not, BitVec.toNat_ofNat]
  omega
theorem lXor_m1 {a : Nat} (ha : a < 2 ^ 63) : lXor (a : Int) (-1) = -(a : Int) - 1 := by
  unfold lXor
  have e : Int64.ofInt (a : Int) ^^^ Int64.ofInt (-1) = Int64.ofInt (-(a : Int) - 1) := by
    rw [lN_not, i64_lN]
    apply Int64.toBitVec_inj.1
    show BitVec.ofNat 64 a ^^^ BitVec.allOnes 64 = ~~~ BitVec.ofNat 64 a
    rw [BitVec.xor_allOnes]
  rw [e]
  exact i64_toInt ⟨by omega, by omega⟩
theorem lAnd_not {a b : Nat} (ha : a < 2 ^ 63) : lAnd (a : Int) (-(b : Int) - 1) = ((andN a b : Nat) : Int) := by
  unfold lAnd
  rw [i64_lN, lN_not]
  have e : lN a &&& ~~~ lN b = lN (andN a b) := by
    apply Int64.toBitVec_inj.1
    show BitVec.ofNat 64 a &&& ~~~ BitVec.ofNat 64 b = BitVec.ofNat 64 (andN a b)
    apply BitVec.eq_of_getLsbD_eq
    intro i hi
    rw [BitVec.getLsbD_and, BitVec.getLsbD_not, BitVec.getLsbD_ofNat, BitVec.getLsbD_ofNat, BitVec.getLsbD_ofNat, andN_tb]
    simp [hi]
  rw [e]
  exact pf_lI (andN_lt ha)
/-- numbers of a set of bits -/
def popN (n : Nat) (m : Nat) : Nat := match n with
  | 0 => 0
  | n + 1 => popN n m + b2 (m.testBit n)
abbrev pop (m : Nat) : Nat := popN 16 m
theorem popN_le (n m : Nat) : popN n m ≤ n := by
  induction n with
  | zero => exact Nat.le_refl _
  | succ n ih => simp only [popN]; have := b2_le (b := m.testBit n); omega
theorem pow_le16 {k : Nat} (h : k < 16) : (2 : Nat) ^ k ≤ 32768 := by
  have : (2 : Nat) ^ k ≤ 2 ^ 15 := Nat.pow_le_pow_right (by decide) (by omega)
  simpa using this
theorem pow_le17 {k : Nat} (h : k < 17) : (2 : Nat) ^ k ≤ 65536 := by
  have : (2 : Nat) ^ k ≤ 2 ^ 16 := Nat.pow_le_pow_right (by decide) (by omega)
  simpa using this
theorem tb16 {m i : Nat} (h : m < 65536) (hi : 16 ≤ i) : m.testBit i = false := by
  apply Nat.testBit_lt_two_pow
  exact Nat.lt_of_lt_of_le h (by have := Nat.pow_le_pow_right (show 0 < 2 by decide) hi; simpa using this)
