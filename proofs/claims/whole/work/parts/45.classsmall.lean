/-! THE CLASS: what the calls share -/
/-- what a call of the class ends with -/
def CP (σ : Sg) (o : Int × SS) (v : Int) (τ : Sg) : Prop := v = o.1 ∧ CI o.2 τ ∧ ∀ c, 272 ≤ c → τ c = σ c
theorem CI.found {s : SS} {σ : Sg} (h : CI s σ) : CI (wF s) (upC σ 0 15 (sF s + 1)) := by
  obtain ⟨h1, h2, h3, h4, h5, h6, h7, h8, h9⟩ := h
  have e : ∀ c, c ≠ 0 → upC σ 0 15 (sF s + 1) c = σ c := fun c hc => upC_ne hc
  refine ⟨h1.cg (upC_self (by decide)) (fun c _ _ => e c (by omega)), h2.cg (upC_self (by decide)) (upC_self (by decide)) (fun c _ _ => e c (by omega)), h3.cg (fun c _ _ => e c (by omega)), h4.cg (fun c _ _ _ => e c (by omega)), h5.cg (upC_self (by decide)) (e 20 (by decide)), h6.cg (upC_self (by decide)) (e 21 (by decide)), h7.cg (upC_self (by decide)) (e 23 (by decide)) (fun c _ _ => e c (by omega)), upC_at, by rw [e 263 (by decide)]; exact h9⟩
theorem bits_c : ∀ v, v < 16 → iAnd 65535 (-((2 ^ v : Nat) : Int)) = ((65536 - 2 ^ v : Nat) : Int) ∧ iAnd 65535 (-((2 ^ v : Nat) : Int) - 1) = ((65535 - 2 ^ v : Nat) : Int) := by decide +kernel
theorem shl2 {v : Nat} (h : v < 16) : iShl 2 (v : Int) = ((2 ^ (v + 1) : Nat) : Int) := by
  have h1 := iShl_nat (a := 2) (k := v) (by omega) (by have := pow_le16 h; omega)
  rw [show 2 * 2 ^ v = 2 ^ (v + 1) by rw [Nat.pow_succ]; omega] at h1
  exact h1
theorem told_av {ρ : Sg} {U : Nat} {X : Rg} (hU : U ≤ 10) (h : AV ρ 1 U X) : AV (cpy ρ 1 2 0 0 10) 1 U X ∧ AV (cpy ρ 1 2 0 0 10) 2 U X := ⟨h.cg fun x _ => by rw [cpy_ne (by decide)], h.cg fun x hx => by rw [cpy_in (by omega) (by omega)]; congr 1; omega⟩
set_option maxRecDepth 100000 in
set_option maxHeartbeats 4000000 in
theorem s7_isUnknown {g : GC} (σ : Sg) (U : Nat) (hU : U ≤ 10) (h : σ 0 2 = (U : Int)) (x : Int) (hx : inR x) : Ev g mX7_isUnknown 0 [some (vR (0)), some (vI (x))] [] (M0 (σ)) 0 0 (retI (bI (0 ≤ x ∧ x < (U : Int))) σ) := by
  refine Ev.iload_n dX7_isUnknown_0 rfl rfl ?_
  refine Ev.if_lt (tgt := 16) ⟨by omega, by omega⟩ dX7_isUnknown_1 (by decide) (fun h1 => ?_) (fun h1 => ?_)
  · skip
    refine Ev.iconst dX7_isUnknown_16 ?_
    exact Ev.zreturn dX7_isUnknown_17 rfl (Or.inl rfl) (rI (bI_f (by omega)) rfl)
  · skip
    refine Ev.iload_n dX7_isUnknown_4 rfl rfl ?_
    refine Ev.aload_n dX7_isUnknown_5 rfl rfl ?_
    refine gf_X7_88 (x := ((U : Nat) : Int)) rfl dX7_isUnknown_6 ltc_0 shc_0 h ?_
    refine Ev.icmp_ge (tgt := 16) ⟨by omega, by omega⟩ ⟨by omega, by omega⟩ dX7_isUnknown_9 (by decide) (fun h9 => ?_) (fun h9 => ?_)
    · skip
      refine Ev.iconst dX7_isUnknown_16 ?_
      exact Ev.zreturn dX7_isUnknown_17 rfl (Or.inl rfl) (rI (bI_f (by omega)) rfl)
    · skip
      refine Ev.iconst dX7_isUnknown_12 ?_
      refine Ev.goto (tgt := 17) dX7_isUnknown_13 (by decide) ?_
      exact Ev.zreturn dX7_isUnknown_17 rfl (Or.inr rfl) (rI (bI_t (by omega)) rfl)

set_option maxRecDepth 100000 in
set_option maxHeartbeats 4000000 in
theorem s7_isRule {g : GC} (σ : Sg) (U : Nat) (hU : U ≤ 16) (h : σ 0 4 = (U : Int)) (x : Int) (hx : inR x) : Ev g mX7_isRule 0 [some (vR (0)), some (vI (x))] [] (M0 (σ)) 0 0 (retI (bI (0 ≤ x ∧ x < (U : Int))) σ) := by
  refine Ev.iload_n dX7_isRule_0 rfl rfl ?_
  refine Ev.if_lt (tgt := 16) ⟨by omega, by omega⟩ dX7_isRule_1 (by decide) (fun h1 => ?_) (fun h1 => ?_)
  · skip
    refine Ev.iconst dX7_isRule_16 ?_
    exact Ev.zreturn dX7_isRule_17 rfl (Or.inl rfl) (rI (bI_f (by omega)) rfl)
  · skip
    refine Ev.iload_n dX7_isRule_4 rfl rfl ?_
    refine Ev.aload_n dX7_isRule_5 rfl rfl ?_
    refine gf_X7_111 (x := ((U : Nat) : Int)) rfl dX7_isRule_6 ltc_0 shc_0 h ?_
    refine Ev.icmp_ge (tgt := 16) ⟨by omega, by omega⟩ ⟨by omega, by omega⟩ dX7_isRule_9 (by decide) (fun h9 => ?_) (fun h9 => ?_)
    · skip
      refine Ev.iconst dX7_isRule_16 ?_
      exact Ev.zreturn dX7_isRule_17 rfl (Or.inl rfl) (rI (bI_f (by omega)) rfl)
    · skip
      refine Ev.iconst dX7_isRule_12 ?_
      refine Ev.goto (tgt := 17) dX7_isRule_13 (by decide) ?_
      exact Ev.zreturn dX7_isRule_17 rfl (Or.inr rfl) (rI (bI_t (by omega)) rfl)

set_option maxRecDepth 100000 in
set_option maxHeartbeats 4000000 in
theorem s7_isLine {g : GC} (σ : Sg) (U : Nat) (hU : U ≤ 40) (h : σ 0 14 = (U : Int)) (x : Int) (hx : inR x) : Ev g mX7_isLine 0 [some (vR (0)), some (vI (x))] [] (M0 (σ)) 0 0 (retI (bI (0 ≤ x ∧ x < (U : Int))) σ) := by
  refine Ev.iload_n dX7_isLine_0 rfl rfl ?_
  refine Ev.if_lt (tgt := 16) ⟨by omega, by omega⟩ dX7_isLine_1 (by decide) (fun h1 => ?_) (fun h1 => ?_)
  · skip
    refine Ev.iconst dX7_isLine_16 ?_
    exact Ev.zreturn dX7_isLine_17 rfl (Or.inl rfl) (rI (bI_f (by omega)) rfl)
  · skip
    refine Ev.iload_n dX7_isLine_4 rfl rfl ?_
    refine Ev.aload_n dX7_isLine_5 rfl rfl ?_
    refine gf_X7_263 (x := ((U : Nat) : Int)) rfl dX7_isLine_6 ltc_0 shc_0 h ?_
    refine Ev.icmp_ge (tgt := 16) ⟨by omega, by omega⟩ ⟨by omega, by omega⟩ dX7_isLine_9 (by decide) (fun h9 => ?_) (fun h9 => ?_)
    · skip
      refine Ev.iconst dX7_isLine_16 ?_
      exact Ev.zreturn dX7_isLine_17 rfl (Or.inl rfl) (rI (bI_f (by omega)) rfl)
    · skip
      refine Ev.iconst dX7_isLine_12 ?_
      refine Ev.goto (tgt := 17) dX7_isLine_13 (by decide) ?_
      exact Ev.zreturn dX7_isLine_17 rfl (Or.inr rfl) (rI (bI_t (by omega)) rfl)

set_option maxRecDepth 100000 in
set_option maxHeartbeats 4000000 in
theorem s7_isTable {g : GC} (σ : Sg) (x : Int) (hx : inR x) : Ev g mX7_isTable 0 [some (vI (x))] [] (M0 (σ)) 0 0 (retI (bI (0 ≤ x ∧ x < 6)) σ) := by
  refine Ev.iload_n dX7_isTable_0 rfl rfl ?_
  refine Ev.if_lt (tgt := 14) ⟨by omega, by omega⟩ dX7_isTable_1 (by decide) (fun h1 => ?_) (fun h1 => ?_)
  · skip
    refine Ev.iconst dX7_isTable_14 ?_
    exact Ev.zreturn dX7_isTable_15 rfl (Or.inl rfl) (rI (bI_f (by omega)) rfl)
  · skip
    refine Ev.iload_n dX7_isTable_4 rfl rfl ?_
    refine Ev.bipush (n := 6) (by decide) dX7_isTable_5 ?_
    refine Ev.icmp_ge (tgt := 14) ⟨by omega, by omega⟩ ⟨by decide, by decide⟩ dX7_isTable_7 (by decide) (fun h7 => ?_) (fun h7 => ?_)
    · skip
      refine Ev.iconst dX7_isTable_14 ?_
      exact Ev.zreturn dX7_isTable_15 rfl (Or.inl rfl) (rI (bI_f (by omega)) rfl)
    · skip
      refine Ev.iconst dX7_isTable_10 ?_
      refine Ev.goto (tgt := 15) dX7_isTable_11 (by decide) ?_
      exact Ev.zreturn dX7_isTable_15 rfl (Or.inr rfl) (rI (bI_t (by omega)) rfl)

set_option maxRecDepth 100000 in
set_option maxHeartbeats 4000000 in
theorem s7_isNumber {g : GC} (σ : Sg) (x : Int) (hx : inR x) : Ev g mX7_isNumber 0 [some (vI (x))] [] (M0 (σ)) 0 0 (retI (bI (0 ≤ x ∧ x < 16)) σ) := by
  refine Ev.iload_n dX7_isNumber_0 rfl rfl ?_
  refine Ev.if_lt (tgt := 14) ⟨by omega, by omega⟩ dX7_isNumber_1 (by decide) (fun h1 => ?_) (fun h1 => ?_)
  · skip
    refine Ev.iconst dX7_isNumber_14 ?_
    exact Ev.zreturn dX7_isNumber_15 rfl (Or.inl rfl) (rI (bI_f (by omega)) rfl)
  · skip
    refine Ev.iload_n dX7_isNumber_4 rfl rfl ?_
    refine Ev.bipush (n := 16) (by decide) dX7_isNumber_5 ?_
    refine Ev.icmp_ge (tgt := 14) ⟨by omega, by omega⟩ ⟨by decide, by decide⟩ dX7_isNumber_7 (by decide) (fun h7 => ?_) (fun h7 => ?_)
    · skip
      refine Ev.iconst dX7_isNumber_14 ?_
      exact Ev.zreturn dX7_isNumber_15 rfl (Or.inl rfl) (rI (bI_f (by omega)) rfl)
    · skip
      refine Ev.iconst dX7_isNumber_10 ?_
      refine Ev.goto (tgt := 15) dX7_isNumber_11 (by decide) ?_
      exact Ev.zreturn dX7_isNumber_15 rfl (Or.inr rfl) (rI (bI_t (by omega)) rfl)

set_option maxRecDepth 100000 in
set_option maxHeartbeats 4000000 in
theorem s7_isLiteral {g : GC} (σ : Sg) (k v : Int) (hk : inR k) (hv : inR v) : Ev g mX7_isLiteral 0 [some (vI (k)), some (vI (v))] [] (M0 (σ)) 0 0 (retI (bI ((0 ≤ k ∧ k ≤ 3) ∧ 0 ≤ v ∧ v < 16)) σ) := by
  refine Ev.iload_n dX7_isLiteral_0 rfl rfl ?_
  refine Ev.if_lt (tgt := 20) ⟨by omega, by omega⟩ dX7_isLiteral_1 (by decide) (fun h1 => ?_) (fun h1 => ?_)
  · skip
    refine Ev.iconst dX7_isLiteral_20 ?_
    exact Ev.zreturn dX7_isLiteral_21 rfl (Or.inl rfl) (rI (bI_f (by omega)) rfl)
  · skip
    refine Ev.iload_n dX7_isLiteral_4 rfl rfl ?_
    refine Ev.iconst dX7_isLiteral_5 ?_
    refine Ev.icmp_gt (tgt := 20) ⟨by omega, by omega⟩ ⟨by decide, by decide⟩ dX7_isLiteral_6 (by decide) (fun h6 => ?_) (fun h6 => ?_)
    · skip
      refine Ev.iconst dX7_isLiteral_20 ?_
      exact Ev.zreturn dX7_isLiteral_21 rfl (Or.inl rfl) (rI (bI_f (by omega)) rfl)
    · skip
      refine Ev.iload_n dX7_isLiteral_9 rfl rfl ?_
      refine Ev.callS_I (M2 := mX7_isNumber) (args2 := [vI (v)]) dX7_isLiteral_10 okX7_isNumber lk_X7_98 osX7_isNumber.1 osX7_isNumber.2 (by decide) rfl (Nat.le_of_ble_eq_true rfl) (Nat.le_of_ble_eq_true rfl) (s7_isNumber σ (v) ⟨by omega, by omega⟩) ?_ rfl
      refine Ev.if_eq (tgt := 20) bI_inR dX7_isLiteral_13 (by decide) (fun h13 => ?_) (fun h13 => ?_)
      · skip
        have q13 := bI_0.mp h13
        refine Ev.iconst dX7_isLiteral_20 ?_
        exact Ev.zreturn dX7_isLiteral_21 rfl (Or.inl rfl) (rI (bI_f (by omega)) rfl)
      · skip
        have q13 := bI_1.mp h13
        refine Ev.iconst dX7_isLiteral_16 ?_
        refine Ev.goto (tgt := 21) dX7_isLiteral_17 (by decide) ?_
        exact Ev.zreturn dX7_isLiteral_21 rfl (Or.inr rfl) (rI (bI_t (by omega)) rfl)

set_option maxRecDepth 100000 in
set_option maxHeartbeats 4000000 in
theorem s7_numbersSo {g : GC} (σ : Sg) (k : Int) (v : Nat) (hk : 0 ≤ k ∧ k ≤ 3) (hv : v < 16) : Ev g mX7_numbersSo 0 [some (vI (k)), some (vI (((v : Nat) : Int)))] [] (M0 (σ)) 0 0 (retI ((nS k v : Nat) : Int) σ) := by
  have hp := pow_le16 hv
  have hb := bits_c v hv
  have h1 : 1 ≤ 2 ^ v := Nat.one_le_two_pow
  have h2 : 1 ≤ 2 ^ (v + 1) := Nat.one_le_two_pow
  refine Ev.iload_n dX7_numbersSo_0 rfl rfl ?_
  have hcs : k = 0 ∨ k = 1 ∨ k = 2 ∨ k = 3 := by omega
  rcases hcs with hk | hk | hk | hk
  · subst hk
    refine Ev.tableIn (tgt := 28) dX7_numbersSo_1 ⟨by decide, by decide⟩ (by decide) (by decide) rfl (by decide) ?_
    refine Ev.iconst dX7_numbersSo_28 ?_
    refine Ev.iload_n dX7_numbersSo_29 rfl rfl ?_
    refine Ev.ishl dX7_numbersSo_30 ?_
    rw [show (iShl (2) (((v : Nat) : Int))) = ((2 ^ (v + 1) : Nat) : Int) from shl2 hv]
    refine Ev.iconst dX7_numbersSo_31 ?_
    refine Ev.isub dX7_numbersSo_32 ?_
    exact Ev.ireturn dX7_numbersSo_33 rfl (rI (by first | (show _ = ((2 ^ (v + 1) - 1 : Nat) : Int); omega) | rfl) rfl)
  · subst hk
    refine Ev.tableIn (tgt := 34) dX7_numbersSo_1 ⟨by decide, by decide⟩ (by decide) (by decide) rfl (by decide) ?_
    refine Ev.ldcw (n := 65535) (tbl_i 333 (by decide +kernel)) dX7_numbersSo_34 ?_
    refine Ev.iconst dX7_numbersSo_37 ?_
    refine Ev.iload_n dX7_numbersSo_38 rfl rfl ?_
    refine Ev.ishl dX7_numbersSo_39 ?_
    rw [show (iShl (1) (((v : Nat) : Int))) = ((2 ^ v : Nat) : Int) from shl1 (by omega)]
    refine Ev.ineg dX7_numbersSo_40 ?_
    refine Ev.iand dX7_numbersSo_41 ?_
    rw [show (iAnd (65535) ((-((2 ^ v : Nat) : Int)))) = (((65536 - 2 ^ v) : Nat) : Int) from hb.1]
    exact Ev.ireturn dX7_numbersSo_42 rfl (rI (by first | (show _ = ((2 ^ (v + 1) - 1 : Nat) : Int); omega) | rfl) rfl)
  · subst hk
    refine Ev.tableIn (tgt := 43) dX7_numbersSo_1 ⟨by decide, by decide⟩ (by decide) (by decide) rfl (by decide) ?_
    refine Ev.ldcw (n := 65535) (tbl_i 333 (by decide +kernel)) dX7_numbersSo_43 ?_
    refine Ev.iconst dX7_numbersSo_46 ?_
    refine Ev.iload_n dX7_numbersSo_47 rfl rfl ?_
    refine Ev.ishl dX7_numbersSo_48 ?_
    rw [show (iShl (1) (((v : Nat) : Int))) = ((2 ^ v : Nat) : Int) from shl1 (by omega)]
    refine Ev.iconst dX7_numbersSo_49 ?_
    refine Ev.ixor dX7_numbersSo_50 ?_
    rw [show (iXor (((2 ^ v : Nat) : Int)) (-1)) = (-((2 ^ v : Nat) : Int) - 1) from iXor_m1 (by omega)]
    refine Ev.iand dX7_numbersSo_51 ?_
    rw [show (iAnd (65535) ((-((2 ^ v : Nat) : Int) - 1))) = (((65535 - 2 ^ v) : Nat) : Int) from hb.2]
    exact Ev.ireturn dX7_numbersSo_52 rfl (rI (by first | (show _ = ((2 ^ (v + 1) - 1 : Nat) : Int); omega) | rfl) rfl)
  · subst hk
    refine Ev.tableOut (tgt := 53) dX7_numbersSo_1 ⟨by decide, by decide⟩ (by decide) (by decide) ?_
    refine Ev.iconst dX7_numbersSo_53 ?_
    refine Ev.iload_n dX7_numbersSo_54 rfl rfl ?_
    refine Ev.ishl dX7_numbersSo_55 ?_
    rw [show (iShl (1) (((v : Nat) : Int))) = ((2 ^ v : Nat) : Int) from shl1 (by omega)]
    exact Ev.ireturn dX7_numbersSo_56 rfl (rI (by first | (show _ = ((2 ^ (v + 1) - 1 : Nat) : Int); omega) | rfl) rfl)

set_option maxRecDepth 100000 in
set_option maxHeartbeats 4000000 in
theorem s7_found {g : GC} (σ : Sg) (f F : Int) (h : σ 0 15 = F) : Ev g mX7_found 0 [some (vR (0)), some (vI (f))] [] (M0 (σ)) 0 0 (retI f (upC σ 0 15 (F + 1))) := by
  refine Ev.aload_n dX7_found_0 rfl rfl ?_
  refine Ev.dupR dX7_found_1 ?_
  refine gf_X7_289 (x := F) rfl dX7_found_2 ltc_0 shc_0 h ?_
  refine Ev.iconst dX7_found_5 ?_
  refine Ev.iadd dX7_found_6 ?_
  refine pf_X7_289 rfl dX7_found_7 ltc_0 shc_0 ?_
  refine Ev.iload_n dX7_found_10 rfl rfl ?_
  exact Ev.ireturn dX7_found_11 rfl (rI rfl rfl)

set_option maxRecDepth 100000 in
set_option maxHeartbeats 4000000 in
theorem s7_bring {g : GC} (σ : Sg) (a b : Nat) (ha : a < 298) (hsa : sh0 a = (1, 10)) (hb : b < 298) (hsb : sh0 b = (1, 10)) : Ev g mX7_bring 0 [some (vR (a)), some (vR (b))] [] (M0 (σ)) 0 0 (retV (cpy σ a b 0 0 10)) := by
  refine Ev.aload_n dX7_bring_0 rfl rfl ?_
  refine Ev.iconst dX7_bring_1 ?_
  refine Ev.aload_n dX7_bring_2 rfl rfl ?_
  refine Ev.iconst dX7_bring_3 ?_
  refine Ev.bipush (n := 10) (by decide) dX7_bring_4 ?_
  refine Ev.copyi dX7_bring_6 (tbl_i 269 (by decide +kernel)) (by decide) (by decide) (by decide) ha hsa hb hsb (by omega) (by omega) (by omega) (by omega) (by omega) ?_
  exact Ev.vreturn dX7_bring_9 rfl (rV rfl)

set_option maxRecDepth 100000 in
set_option maxHeartbeats 4000000 in
theorem s7_asTold {g : GC} (σ : Sg) : Ev g mX7_letRangesBeAsTold 0 [some (vR (0))] [] (M0 (σ)) 0 0 (retV (cpy σ 1 2 0 0 10)) := by
  refine Ev.aload_n dX7_letRangesBeAsTold_0 rfl rfl ?_
  refine gf_X7_9 rfl dX7_letRangesBeAsTold_1 ltc_0 shc_0 rfc_0_0 ?_
  refine Ev.aload_n dX7_letRangesBeAsTold_4 rfl rfl ?_
  refine gf_X7_13 rfl dX7_letRangesBeAsTold_5 ltc_0 shc_0 rfc_0_1 ?_
  refine Ev.callS_V (M2 := mX7_bring) (args2 := [vR (1), vR (2)]) dX7_letRangesBeAsTold_8 okX7_bring lk_X7_187 osX7_bring.1 osX7_bring.2 (by decide) rfl (Nat.le_of_ble_eq_true rfl) (Nat.le_of_ble_eq_true rfl) (s7_bring σ 1 2 ltc_1 shc_1 ltc_2 shc_2) ?_ rfl
  exact Ev.vreturn dX7_letRangesBeAsTold_11 rfl (rV rfl)

set_option maxRecDepth 100000 in
set_option maxHeartbeats 4000000 in
theorem s3_begin {g : GC} (σ : Sg) (r : Nat) (hr : r < 56) (k a b : Int) : Ev g mX3_begin 0 [some (vR (26 + 4 * r)), some (vI (k)), some (vI (a)), some (vI (b))] [] (M0 (σ)) 0 0 (retV (upC (upC (upC σ (26 + 4 * r) 0 k) (26 + 4 * r) 1 a) (26 + 4 * r) 2 b)) := by
  refine Ev.aload_n dX3_begin_0 rfl rfl ?_
  refine Ev.iload_n dX3_begin_1 rfl rfl ?_
  refine pf_X3_21 rfl dX3_begin_2 (lt_rc (by omega)) (sh_rc (by omega)) ?_
  refine Ev.aload_n dX3_begin_5 rfl rfl ?_
  refine Ev.iload_n dX3_begin_6 rfl rfl ?_
  refine pf_X3_25 rfl dX3_begin_7 (lt_rc (by omega)) (sh_rc (by omega)) ?_
  refine Ev.aload_n dX3_begin_10 rfl rfl ?_
  refine Ev.iload_n dX3_begin_11 rfl rfl ?_
  refine pf_X3_28 rfl dX3_begin_12 (lt_rc (by omega)) (sh_rc (by omega)) ?_
  exact Ev.vreturn dX3_begin_15 rfl (rV rfl)

set_option maxRecDepth 100000 in
set_option maxHeartbeats 4000000 in
theorem s3_join {g : GC} (σ : Sg) (r : Nat) (hr : r < 56) (n m x : Nat) (hn6 : n < 6) (hn : σ (26 + 4 * r) 3 = (n : Int)) (hm : σ (26 + 4 * r) 4 = (m : Int)) (hml : m < 1024) (hx : x < 10) (a b : Int) : Ev g mX3_join 0 [some (vR (26 + 4 * r)), some (vI (((x : Nat) : Int))), some (vI (a)), some (vI (b))] [] (M0 (σ)) 0 0 (retV (upC (upC (upC (upC (upC σ (26 + 4 * r + 1) n (x : Int)) (26 + 4 * r + 2) n a) (26 + 4 * r + 3) n b) (26 + 4 * r) 3 ((n + 1 : Nat) : Int)) (26 + 4 * r) 4 ((m ||| 2 ^ x : Nat) : Int))) := by
  have hp := pow_le16 (show x < 16 by omega)
  refine Ev.aload_n dX3_join_0 rfl rfl ?_
  refine gf_X3_9 rfl dX3_join_1 (lt_rc (by omega)) (sh_rc (by omega)) (rf_rc5 (by omega)) ?_
  refine Ev.aload_n dX3_join_4 rfl rfl ?_
  refine gf_X3_31 (x := ((n : Nat) : Int)) rfl dX3_join_5 (lt_rc (by omega)) (sh_rc (by omega)) hn ?_
  refine Ev.iload_n dX3_join_8 rfl rfl ?_
  refine Ev.iastore dX3_join_9 (lt_rcf (by omega) (by decide)) (sh_rc1 (by omega)) (by decide) (by omega) (by omega) ?_
  refine Ev.mem (τ := upC σ (26 + 4 * r + 1) n (x : Int)) (by simp only [Int.toNat_natCast]) ?_
  refine Ev.aload_n dX3_join_10 rfl rfl ?_
  refine gf_X3_15 rfl dX3_join_11 (lt_rc (by omega)) (sh_rc (by omega)) (rf_rc6 (by omega)) ?_
  refine Ev.aload_n dX3_join_14 rfl rfl ?_
  refine gf_X3_31 (x := ((n : Nat) : Int)) rfl dX3_join_15 (lt_rc (by omega)) (sh_rc (by omega)) (show (upC σ (26 + 4 * r + 1) n (x : Int)) (26 + 4 * r) 3 = _ from by (repeat (first | rw [upC_self (by omega)] | rw [upC_ne (by omega)] | rw [cpy_ne (by omega)])); exact hn) ?_
  refine Ev.iload_n dX3_join_18 rfl rfl ?_
  refine Ev.iastore dX3_join_19 (lt_rcf (by omega) (by decide)) (sh_rc2 (by omega)) (by decide) (by omega) (by omega) ?_
  refine Ev.mem (τ := upC (upC σ (26 + 4 * r + 1) n (x : Int)) (26 + 4 * r + 2) n a) (by simp only [Int.toNat_natCast]) ?_
  refine Ev.aload_n dX3_join_20 rfl rfl ?_
  refine gf_X3_18 rfl dX3_join_21 (lt_rc (by omega)) (sh_rc (by omega)) (rf_rc7 (by omega)) ?_
  refine Ev.aload_n dX3_join_24 rfl rfl ?_
  refine gf_X3_31 (x := ((n : Nat) : Int)) rfl dX3_join_25 (lt_rc (by omega)) (sh_rc (by omega)) (show (upC (upC σ (26 + 4 * r + 1) n (x : Int)) (26 + 4 * r + 2) n a) (26 + 4 * r) 3 = _ from by (repeat (first | rw [upC_self (by omega)] | rw [upC_ne (by omega)] | rw [cpy_ne (by omega)])); exact hn) ?_
  refine Ev.iload_n dX3_join_28 rfl rfl ?_
  refine Ev.iastore dX3_join_29 (lt_rcf (by omega) (by decide)) (sh_rc3 (by omega)) (by decide) (by omega) (by omega) ?_
  refine Ev.mem (τ := upC (upC (upC σ (26 + 4 * r + 1) n (x : Int)) (26 + 4 * r + 2) n a) (26 + 4 * r + 3) n b) (by simp only [Int.toNat_natCast]) ?_
  refine Ev.aload_n dX3_join_30 rfl rfl ?_
  refine Ev.dupR dX3_join_31 ?_
  refine gf_X3_31 (x := ((n : Nat) : Int)) rfl dX3_join_32 (lt_rc (by omega)) (sh_rc (by omega)) (show (upC (upC (upC σ (26 + 4 * r + 1) n (x : Int)) (26 + 4 * r + 2) n a) (26 + 4 * r + 3) n b) (26 + 4 * r) 3 = _ from by (repeat (first | rw [upC_self (by omega)] | rw [upC_ne (by omega)] | rw [cpy_ne (by omega)])); exact hn) ?_
  refine Ev.iconst dX3_join_35 ?_
  refine Ev.iadd dX3_join_36 ?_
  refine pf_X3_31 rfl dX3_join_37 (lt_rc (by omega)) (sh_rc (by omega)) ?_
  refine Ev.aload_n dX3_join_40 rfl rfl ?_
  refine Ev.dupR dX3_join_41 ?_
  refine gf_X3_34 (x := ((m : Nat) : Int)) rfl dX3_join_42 (lt_rc (by omega)) (sh_rc (by omega)) (show (upC (upC (upC (upC σ (26 + 4 * r + 1) n (x : Int)) (26 + 4 * r + 2) n a) (26 + 4 * r + 3) n b) (26 + 4 * r) 3 ((((n : Nat) : Int) + 1))) (26 + 4 * r) 4 = _ from by (repeat (first | rw [upC_self (by omega)] | rw [upC_ne (by omega)] | rw [cpy_ne (by omega)])); exact hm) ?_
  refine Ev.iconst dX3_join_45 ?_
  refine Ev.iload_n dX3_join_46 rfl rfl ?_
  refine Ev.ishl dX3_join_47 ?_
  rw [show (iShl (1) (((x : Nat) : Int))) = ((2 ^ x : Nat) : Int) from shl1 (by omega)]
  refine Ev.ior dX3_join_48 ?_
  rw [show (iOr (((m : Nat) : Int)) (((2 ^ x : Nat) : Int))) = (((m ||| 2 ^ x) : Nat) : Int) from iOr_nat (by omega) (by omega)]
  refine pf_X3_34 rfl dX3_join_49 (lt_rc (by omega)) (sh_rc (by omega)) ?_
  exact Ev.vreturn dX3_join_52 rfl (rV rfl)

theorem CR.begin {σ : Sg} {r : Nat} {k a b : Int} (hk : 0 ≤ k) (h3 : σ (26 + 4 * r) 3 = 0) (h4 : σ (26 + 4 * r) 4 = 0) : CR (upC (upC (upC σ (26 + 4 * r) 0 k) (26 + 4 * r) 1 a) (26 + 4 * r) 2 b) r (nR k a b) := by
  refine ⟨?_, ?_, ?_, ?_, ?_, fun j hj => absurd hj (by show ¬ j < 0; omega)⟩
  · rw [upC_self (by decide), upC_self (by decide), upC_at]; show k = (k.toNat : Int); omega
  · rw [upC_self (by decide)]; exact upC_at
  · exact upC_at
  · rw [upC_self (by decide), upC_self (by decide), upC_self (by decide)]; exact h3
  · rw [upC_self (by decide), upC_self (by decide), upC_self (by decide), memM_0]; exact h4
theorem CR.join {σ : Sg} {r x : Nat} {R : RC} {a b : Int} (hx : x < 10) (h : CR σ r R) : CR (upC (upC (upC (upC (upC σ (26 + 4 * r + 1) (rN R) (x : Int)) (26 + 4 * r + 2) (rN R) a) (26 + 4 * r + 3) (rN R) b) (26 + 4 * r) 3 ((rN R + 1 : Nat) : Int)) (26 + 4 * r) 4 ((memM R ||| 2 ^ x : Nat) : Int)) r (addP R x a b) := by
  obtain ⟨h1, h2, h3, h4, h5, h6⟩ := h
  refine ⟨?_, ?_, ?_, ?_, ?_, fun k hk => ?_⟩
  · rw [upC_self (by decide), upC_self (by decide), upC_ne (by omega), upC_ne (by omega), upC_ne (by omega)]; exact h1
  · rw [upC_self (by decide), upC_self (by decide), upC_ne (by omega), upC_ne (by omega), upC_ne (by omega)]; exact h2
  · rw [upC_self (by decide), upC_self (by decide), upC_ne (by omega), upC_ne (by omega), upC_ne (by omega)]; exact h3
  · rw [upC_self (by decide), upC_at]; rfl
  · rw [upC_at, memM_add (a := a) (b := b) hx]
  · rw [addP_o, addP_a, addP_z]
    by_cases e : k = rN R
    · subst e
      rw [if_pos rfl, if_pos rfl, if_pos rfl]
      refine ⟨?_, ?_, ?_⟩
      · rw [upC_ne (by omega), upC_ne (by omega), upC_ne (by omega), upC_ne (by omega)]; exact upC_at
      · rw [upC_ne (by omega), upC_ne (by omega), upC_ne (by omega)]; exact upC_at
      · rw [upC_ne (by omega), upC_ne (by omega)]; exact upC_at
    · rw [if_neg e, if_neg e, if_neg e]
      have hk2 : k < rN R := by
        have : k < rN R + 1 := hk
        omega
      obtain ⟨q1, q2, q3⟩ := h6 k hk2
      refine ⟨?_, ?_, ?_⟩
      · rw [upC_ne (by omega), upC_ne (by omega), upC_ne (by omega), upC_ne (by omega), upC_self e]; exact q1
      · rw [upC_ne (by omega), upC_ne (by omega), upC_ne (by omega), upC_self e, upC_ne (by omega)]; exact q2
      · rw [upC_ne (by omega), upC_ne (by omega), upC_self e, upC_ne (by omega), upC_ne (by omega)]; exact q3
set_option maxRecDepth 100000 in
set_option maxHeartbeats 4000000 in
theorem s6_lay_l {g : GC} (σ : Sg) (t : Nat) (ht : t < 6) (n : Int) : ∀ j i : Nat, i + j = 48 → ∀ τ : Sg, (∀ c i, c ≠ 251 → c ≠ 253 + t → τ c i = σ c i) ∧ τ 251 = upC σ 251 t n 251 → (∀ k, k < i → τ (253 + t) k = 0) → Ev g mX6_lay 9 [some (vR (250)), some (vI (((t : Nat) : Int))), some (vI (n)), some (vI (((i : Nat) : Int)))] [] (M0 (τ)) 0 0 (retW (fun τ => (∀ c i, c ≠ 251 → c ≠ 253 + t → τ c i = σ c i) ∧ τ 251 = upC σ 251 t n 251 ∧ ∀ k, k < 48 → τ (253 + t) k = 0)) := by
  intro j
  induction j with
  | zero =>
    intro i hij τ hF hG
    refine Ev.iload_n dX6_lay_9 rfl rfl ?_
    refine Ev.bipush (n := 48) (by decide) dX6_lay_10 ?_
    refine Ev.icmp_ge (tgt := 30) ⟨by omega, by omega⟩ ⟨by decide, by decide⟩ dX6_lay_12 (by decide) (fun h12 => ?_) (fun h12 => ?_)
    · skip
      exact Ev.vreturn dX6_lay_30 rfl (rW ⟨hF.1, hF.2, fun k hk => hG k (by omega)⟩)
    · exact absurd h12 (by omega)
  | succ j ih =>
    intro i hij τ hF hG
    refine Ev.iload_n dX6_lay_9 rfl rfl ?_
    refine Ev.bipush (n := 48) (by decide) dX6_lay_10 ?_
    refine Ev.icmp_ge (tgt := 30) ⟨by omega, by omega⟩ ⟨by decide, by decide⟩ dX6_lay_12 (by decide) (fun h12 => ?_) (fun h12 => ?_)
    · exact absurd h12 (by omega)
    · skip
      refine Ev.aload_n dX6_lay_15 rfl rfl ?_
      refine gf_X6_17 rfl dX6_lay_16 ltc_250 shc_250 rfc_250_1 ?_
      refine Ev.iload_n dX6_lay_19 rfl rfl ?_
      refine Ev.maload dX6_lay_20 ltc_252 shc_252 (by decide) (by omega) (by omega) (rf_tc (by omega)) ?_
      refine Ev.iload_n dX6_lay_21 rfl rfl ?_
      refine Ev.iconst dX6_lay_22 ?_
      refine Ev.iastore dX6_lay_23 (lt_tc (by omega)) (sh_tc (by omega)) (by decide) (by omega) (by omega) ?_
      refine Ev.iinc (pl' := [some (vR (250)), some (vI (((t : Nat) : Int))), some (vI (n)), some (vI (((i : Nat) : Int) + 1))]) dX6_lay_24 rfl (Nat.le_of_ble_eq_true rfl) rfl ?_
      refine Ev.goto (tgt := 9) dX6_lay_27 (by decide) ?_
      refine Ev.mem (τ := upC τ (253 + t) i 0) (by simp only [Int.toNat_natCast]) ?_
      refine Ev.wk (pl' := [some (vR (250)), some (vI (((t : Nat) : Int))), some (vI (n)), some (vI ((((i + 1) : Nat) : Int)))]) ⟨rfl, ⟨rfl, ⟨rfl, ⟨vIe (by omega), trivial⟩⟩⟩⟩ ?_
      exact ih (i + 1) (by omega) _ ⟨fun c j h1 h2 => by rw [upC_ne h2]; exact hF.1 c j h1 h2, by rw [upC_ne (by omega)]; exact hF.2⟩ (fun k hk => by by_cases e : k = i; (rw [e]; exact upC_at); (rw [upC_self e]; exact hG k (by omega)))

set_option maxRecDepth 100000 in
set_option maxHeartbeats 4000000 in
theorem s6_lay {g : GC} (σ : Sg) (t : Nat) (ht : t < 6) (n : Int) : Ev g mX6_lay 0 [some (vR (250)), some (vI (((t : Nat) : Int))), some (vI (n)), none] [] (M0 (σ)) 0 0 (retW (fun τ => (∀ c i, c ≠ 251 → c ≠ 253 + t → τ c i = σ c i) ∧ τ 251 = upC σ 251 t n 251 ∧ ∀ k, k < 48 → τ (253 + t) k = 0)) := by
  refine Ev.aload_n dX6_lay_0 rfl rfl ?_
  refine gf_X6_9 rfl dX6_lay_1 ltc_250 shc_250 rfc_250_0 ?_
  refine Ev.iload_n dX6_lay_4 rfl rfl ?_
  refine Ev.iload_n dX6_lay_5 rfl rfl ?_
  refine Ev.iastore dX6_lay_6 ltc_251 shc_251 (by decide) (by omega) (by omega) ?_
  refine Ev.mem (τ := upC σ 251 t n) (by simp only [Int.toNat_natCast]) ?_
  refine Ev.iconst dX6_lay_7 ?_
  refine Ev.istore_n (pl' := [some (vR (250)), some (vI (((t : Nat) : Int))), some (vI (n)), some (vI (0))]) dX6_lay_8 rfl (Nat.le_of_ble_eq_true rfl) rfl ?_
  refine Ev.wk (pl' := [some (vR (250)), some (vI (((t : Nat) : Int))), some (vI (n)), some (vI (((0 : Nat) : Int)))]) ⟨rfl, ⟨rfl, ⟨rfl, ⟨vIe rfl, trivial⟩⟩⟩⟩ ?_
  exact s6_lay_l σ t ht n 48 0 (by omega) _ ⟨fun c j h1 h2 => by rw [upC_ne h1], rfl⟩ (fun k hk => absurd hk (by omega))

set_option maxRecDepth 100000 in
set_option maxHeartbeats 4000000 in
theorem s7_mayBeSet {g : GC} (σ : Sg) (k a b : Int) (hk : 0 ≤ k ∧ k ≤ 5) (ha : inR a) (hb : inR b) : Ev g mX7_mayBeSet 0 [some (vI (k)), some (vI (a)), some (vI (b))] [] (M0 (σ)) 0 0 (retI (bI (okSet k a b)) σ) := by
  refine Ev.iload_n dX7_mayBeSet_0 rfl rfl ?_
  have hcs : k = 0 ∨ k = 1 ∨ k = 2 ∨ k = 3 ∨ k = 4 ∨ k = 5 := by omega
  rcases hcs with hk | hk | hk | hk | hk | hk
  · subst hk
    refine Ev.tableIn (tgt := 32) dX7_mayBeSet_1 ⟨by decide, by decide⟩ (by decide) (by decide) rfl (by decide) ?_
    refine Ev.iload_n dX7_mayBeSet_32 rfl rfl ?_
    refine Ev.if_lt (tgt := 59) ⟨by omega, by omega⟩ dX7_mayBeSet_33 (by decide) (fun h33 => ?_) (fun h33 => ?_)
    · skip
      refine Ev.iconst dX7_mayBeSet_59 ?_
      exact Ev.zreturn dX7_mayBeSet_60 rfl (Or.inl rfl) (rI (bI_f (by unfold okSet; omega)) rfl)
    · skip
      refine Ev.iload_n dX7_mayBeSet_36 rfl rfl ?_
      refine Ev.iconst dX7_mayBeSet_37 ?_
      refine Ev.icmp_gt (tgt := 59) ⟨by omega, by omega⟩ ⟨by decide, by decide⟩ dX7_mayBeSet_38 (by decide) (fun h38 => ?_) (fun h38 => ?_)
      · skip
        refine Ev.iconst dX7_mayBeSet_59 ?_
        exact Ev.zreturn dX7_mayBeSet_60 rfl (Or.inl rfl) (rI (bI_f (by unfold okSet; omega)) rfl)
      · skip
        refine Ev.iload_n dX7_mayBeSet_41 rfl rfl ?_
        refine Ev.sipush (n := -1000) (by decide) dX7_mayBeSet_42 ?_
        refine Ev.icmp_lt (tgt := 59) ⟨by omega, by omega⟩ ⟨by decide, by decide⟩ dX7_mayBeSet_45 (by decide) (fun h45 => ?_) (fun h45 => ?_)
        · skip
          refine Ev.iconst dX7_mayBeSet_59 ?_
          exact Ev.zreturn dX7_mayBeSet_60 rfl (Or.inl rfl) (rI (bI_f (by unfold okSet; omega)) rfl)
        · skip
          refine Ev.iload_n dX7_mayBeSet_48 rfl rfl ?_
          refine Ev.sipush (n := 1000) (by decide) dX7_mayBeSet_49 ?_
          refine Ev.icmp_gt (tgt := 59) ⟨by omega, by omega⟩ ⟨by decide, by decide⟩ dX7_mayBeSet_52 (by decide) (fun h52 => ?_) (fun h52 => ?_)
          · skip
            refine Ev.iconst dX7_mayBeSet_59 ?_
            exact Ev.zreturn dX7_mayBeSet_60 rfl (Or.inl rfl) (rI (bI_f (by unfold okSet; omega)) rfl)
          · skip
            refine Ev.iconst dX7_mayBeSet_55 ?_
            refine Ev.goto (tgt := 60) dX7_mayBeSet_56 (by decide) ?_
            exact Ev.zreturn dX7_mayBeSet_60 rfl (Or.inr rfl) (rI (bI_t (by unfold okSet; omega)) rfl)
  · subst hk
    refine Ev.tableIn (tgt := 93) dX7_mayBeSet_1 ⟨by decide, by decide⟩ (by decide) (by decide) rfl (by decide) ?_
    refine Ev.iconst dX7_mayBeSet_93 ?_
    exact Ev.zreturn dX7_mayBeSet_94 rfl (Or.inr rfl) (rI (bI_t (by unfold okSet; omega)) rfl)
  · subst hk
    refine Ev.tableIn (tgt := 61) dX7_mayBeSet_1 ⟨by decide, by decide⟩ (by decide) (by decide) rfl (by decide) ?_
    refine Ev.iload_n dX7_mayBeSet_61 rfl rfl ?_
    refine Ev.if_lt (tgt := 75) ⟨by omega, by omega⟩ dX7_mayBeSet_62 (by decide) (fun h62 => ?_) (fun h62 => ?_)
    · skip
      refine Ev.iconst dX7_mayBeSet_75 ?_
      exact Ev.zreturn dX7_mayBeSet_76 rfl (Or.inl rfl) (rI (bI_f (by unfold okSet; omega)) rfl)
    · skip
      refine Ev.iload_n dX7_mayBeSet_65 rfl rfl ?_
      refine Ev.bipush (n := 6) (by decide) dX7_mayBeSet_66 ?_
      refine Ev.icmp_ge (tgt := 75) ⟨by omega, by omega⟩ ⟨by decide, by decide⟩ dX7_mayBeSet_68 (by decide) (fun h68 => ?_) (fun h68 => ?_)
      · skip
        refine Ev.iconst dX7_mayBeSet_75 ?_
        exact Ev.zreturn dX7_mayBeSet_76 rfl (Or.inl rfl) (rI (bI_f (by unfold okSet; omega)) rfl)
      · skip
        refine Ev.iconst dX7_mayBeSet_71 ?_
        refine Ev.goto (tgt := 76) dX7_mayBeSet_72 (by decide) ?_
        exact Ev.zreturn dX7_mayBeSet_76 rfl (Or.inr rfl) (rI (bI_t (by unfold okSet; omega)) rfl)
  · subst hk
    refine Ev.tableIn (tgt := 77) dX7_mayBeSet_1 ⟨by decide, by decide⟩ (by decide) (by decide) rfl (by decide) ?_
    refine Ev.iload_n dX7_mayBeSet_77 rfl rfl ?_
    refine Ev.if_lt (tgt := 91) ⟨by omega, by omega⟩ dX7_mayBeSet_78 (by decide) (fun h78 => ?_) (fun h78 => ?_)
    · skip
      refine Ev.iconst dX7_mayBeSet_91 ?_
      exact Ev.zreturn dX7_mayBeSet_92 rfl (Or.inl rfl) (rI (bI_f (by unfold okSet; omega)) rfl)
    · skip
      refine Ev.iload_n dX7_mayBeSet_81 rfl rfl ?_
      refine Ev.bipush (n := 100) (by decide) dX7_mayBeSet_82 ?_
      refine Ev.icmp_gt (tgt := 91) ⟨by omega, by omega⟩ ⟨by decide, by decide⟩ dX7_mayBeSet_84 (by decide) (fun h84 => ?_) (fun h84 => ?_)
      · skip
        refine Ev.iconst dX7_mayBeSet_91 ?_
        exact Ev.zreturn dX7_mayBeSet_92 rfl (Or.inl rfl) (rI (bI_f (by unfold okSet; omega)) rfl)
      · skip
        refine Ev.iconst dX7_mayBeSet_87 ?_
        refine Ev.goto (tgt := 92) dX7_mayBeSet_88 (by decide) ?_
        exact Ev.zreturn dX7_mayBeSet_92 rfl (Or.inr rfl) (rI (bI_t (by unfold okSet; omega)) rfl)
  · subst hk
    refine Ev.tableOut (tgt := 93) dX7_mayBeSet_1 ⟨by decide, by decide⟩ (by decide) (by decide) ?_
    refine Ev.iconst dX7_mayBeSet_93 ?_
    exact Ev.zreturn dX7_mayBeSet_94 rfl (Or.inr rfl) (rI (bI_t (by unfold okSet; omega)) rfl)
  · subst hk
    refine Ev.tableOut (tgt := 93) dX7_mayBeSet_1 ⟨by decide, by decide⟩ (by decide) (by decide) ?_
    refine Ev.iconst dX7_mayBeSet_93 ?_
    exact Ev.zreturn dX7_mayBeSet_94 rfl (Or.inr rfl) (rI (bI_t (by unfold okSet; omega)) rfl)

set_option maxRecDepth 100000 in
set_option maxHeartbeats 4000000 in
theorem s7_mayBePart {g : GC} (σ : Sg) (k : Nat) (a b : Int) (hk : k ≤ 5) (ha : inR a) (hb : inR b) : Ev g mX7_mayBePart 0 [some (vI (((k : Nat) : Int))), some (vI (a)), some (vI (b))] [] (M0 (σ)) 0 0 (retI (bI (okPart k a b)) σ) := by
  refine Ev.iload_n dX7_mayBePart_0 rfl rfl ?_
  have hcs : k = 0 ∨ k = 1 ∨ k = 2 ∨ k = 3 ∨ k = 4 ∨ k = 5 := by omega
  rcases hcs with hk | hk | hk | hk | hk | hk
  · subst hk
    refine Ev.lookup (tgt := 28) dX7_mayBePart_1 ⟨by decide, by decide⟩ rfl rfl (by decide) ?_
    refine Ev.iload_n dX7_mayBePart_28 rfl rfl ?_
    refine Ev.bipush (n := -9) (by decide) dX7_mayBePart_29 ?_
    refine Ev.icmp_lt (tgt := 48) ⟨by omega, by omega⟩ ⟨by decide, by decide⟩ dX7_mayBePart_31 (by decide) (fun h31 => ?_) (fun h31 => ?_)
    · skip
      refine Ev.iconst dX7_mayBePart_48 ?_
      exact Ev.zreturn dX7_mayBePart_49 rfl (Or.inl rfl) (rI (bI_f (by unfold okPart; omega)) rfl)
    · skip
      refine Ev.iload_n dX7_mayBePart_34 rfl rfl ?_
      refine Ev.bipush (n := 9) (by decide) dX7_mayBePart_35 ?_
      refine Ev.icmp_gt (tgt := 48) ⟨by omega, by omega⟩ ⟨by decide, by decide⟩ dX7_mayBePart_37 (by decide) (fun h37 => ?_) (fun h37 => ?_)
      · skip
        refine Ev.iconst dX7_mayBePart_48 ?_
        exact Ev.zreturn dX7_mayBePart_49 rfl (Or.inl rfl) (rI (bI_f (by unfold okPart; omega)) rfl)
      · skip
        refine Ev.iload_n dX7_mayBePart_40 rfl rfl ?_
        refine Ev.if_eq (tgt := 48) ⟨by omega, by omega⟩ dX7_mayBePart_41 (by decide) (fun h41 => ?_) (fun h41 => ?_)
        · skip
          refine Ev.iconst dX7_mayBePart_48 ?_
          exact Ev.zreturn dX7_mayBePart_49 rfl (Or.inl rfl) (rI (bI_f (by unfold okPart; omega)) rfl)
        · skip
          refine Ev.iconst dX7_mayBePart_44 ?_
          refine Ev.goto (tgt := 49) dX7_mayBePart_45 (by decide) ?_
          exact Ev.zreturn dX7_mayBePart_49 rfl (Or.inr rfl) (rI (bI_t (by unfold okPart; omega)) rfl)
  · subst hk
    refine Ev.lookup (tgt := 76) dX7_mayBePart_1 ⟨by decide, by decide⟩ rfl rfl (by decide) ?_
    refine Ev.iconst dX7_mayBePart_76 ?_
    exact Ev.zreturn dX7_mayBePart_77 rfl (Or.inr rfl) (rI (bI_t (by unfold okPart; omega)) rfl)
  · subst hk
    refine Ev.lookup (tgt := 76) dX7_mayBePart_1 ⟨by decide, by decide⟩ rfl rfl (by decide) ?_
    refine Ev.iconst dX7_mayBePart_76 ?_
    exact Ev.zreturn dX7_mayBePart_77 rfl (Or.inr rfl) (rI (bI_t (by unfold okPart; omega)) rfl)
  · subst hk
    refine Ev.lookup (tgt := 50) dX7_mayBePart_1 ⟨by decide, by decide⟩ rfl rfl (by decide) ?_
    refine Ev.iload_n dX7_mayBePart_50 rfl rfl ?_
    refine Ev.if_lt (tgt := 74) ⟨by omega, by omega⟩ dX7_mayBePart_51 (by decide) (fun h51 => ?_) (fun h51 => ?_)
    · skip
      refine Ev.iconst dX7_mayBePart_74 ?_
      exact Ev.zreturn dX7_mayBePart_75 rfl (Or.inl rfl) (rI (bI_f (by unfold okPart; omega)) rfl)
    · skip
      refine Ev.iload_n dX7_mayBePart_54 rfl rfl ?_
      refine Ev.bipush (n := 15) (by decide) dX7_mayBePart_55 ?_
      refine Ev.icmp_gt (tgt := 74) ⟨by omega, by omega⟩ ⟨by decide, by decide⟩ dX7_mayBePart_57 (by decide) (fun h57 => ?_) (fun h57 => ?_)
      · skip
        refine Ev.iconst dX7_mayBePart_74 ?_
        exact Ev.zreturn dX7_mayBePart_75 rfl (Or.inl rfl) (rI (bI_f (by unfold okPart; omega)) rfl)
      · skip
        refine Ev.iload_n dX7_mayBePart_60 rfl rfl ?_
        refine Ev.if_lt (tgt := 74) ⟨by omega, by omega⟩ dX7_mayBePart_61 (by decide) (fun h61 => ?_) (fun h61 => ?_)
        · skip
          refine Ev.iconst dX7_mayBePart_74 ?_
          exact Ev.zreturn dX7_mayBePart_75 rfl (Or.inl rfl) (rI (bI_f (by unfold okPart; omega)) rfl)
        · skip
          refine Ev.iload_n dX7_mayBePart_64 rfl rfl ?_
          refine Ev.bipush (n := 20) (by decide) dX7_mayBePart_65 ?_
          refine Ev.icmp_gt (tgt := 74) ⟨by omega, by omega⟩ ⟨by decide, by decide⟩ dX7_mayBePart_67 (by decide) (fun h67 => ?_) (fun h67 => ?_)
          · skip
            refine Ev.iconst dX7_mayBePart_74 ?_
            exact Ev.zreturn dX7_mayBePart_75 rfl (Or.inl rfl) (rI (bI_f (by unfold okPart; omega)) rfl)
          · skip
            refine Ev.iconst dX7_mayBePart_70 ?_
            refine Ev.goto (tgt := 75) dX7_mayBePart_71 (by decide) ?_
            exact Ev.zreturn dX7_mayBePart_75 rfl (Or.inr rfl) (rI (bI_t (by unfold okPart; omega)) rfl)
  · subst hk
    refine Ev.lookup (tgt := 76) dX7_mayBePart_1 ⟨by decide, by decide⟩ rfl rfl (by decide) ?_
    refine Ev.iconst dX7_mayBePart_76 ?_
    exact Ev.zreturn dX7_mayBePart_77 rfl (Or.inr rfl) (rI (bI_t (by unfold okPart; omega)) rfl)
  · subst hk
    refine Ev.lookup (tgt := 76) dX7_mayBePart_1 ⟨by decide, by decide⟩ rfl rfl (by decide) ?_
    refine Ev.iconst dX7_mayBePart_76 ?_
    exact Ev.zreturn dX7_mayBePart_77 rfl (Or.inr rfl) (rI (bI_t (by unfold okPart; omega)) rfl)

set_option maxRecDepth 100000 in
set_option maxHeartbeats 4000000 in
theorem s7_stands {g : GC} (σ : Sg) (w r : Nat) (hw : w < 65536) (h : σ 0 5 = (w : Int)) (hr : r < 16) : Ev g mX7_stands 0 [some (vR (0)), some (vI (((r : Nat) : Int)))] [] (M0 (σ)) 0 0 (retI ((b2 (w.testBit r) : Nat) : Int) σ) := by
  refine Ev.aload_n dX7_stands_0 rfl rfl ?_
  refine gf_X7_118 (x := ((w : Nat) : Int)) rfl dX7_stands_1 ltc_0 shc_0 h ?_
  refine Ev.iload_n dX7_stands_4 rfl rfl ?_
  refine Ev.lshr dX7_stands_5 ?_
  refine Ev.lconst 1 rfl dX7_stands_6 ?_
  refine Ev.land dX7_stands_7 ?_
  rw [show (lAnd ((lShr (((w : Nat) : Int)) (((r : Nat) : Int)))) (1)) = ((b2 (Nat.testBit w r) : Nat) : Int) from lbit_nat (by omega) (by omega)]
  refine Ev.lconst 0 rfl dX7_stands_8 ?_
  refine Ev.lcmp b2_inL ⟨by decide, by decide⟩ dX7_stands_9 ?_
  rw [show (lCmp (((b2 (Nat.testBit w r) : Nat) : Int)) (0)) = (((b2 (Nat.testBit w r)) : Nat) : Int) from lCmp_b2]
  refine Ev.if_eq (tgt := 17) b2_inR dX7_stands_10 (by decide) (fun h10 => ?_) (fun h10 => ?_)
  · skip
    refine Ev.iconst dX7_stands_17 ?_
    exact Ev.zreturn dX7_stands_18 rfl (Or.inl rfl) (rI (by rw [b2_0.mp h10]; rfl) rfl)
  · skip
    refine Ev.iconst dX7_stands_13 ?_
    refine Ev.goto (tgt := 18) dX7_stands_14 (by decide) ?_
    exact Ev.zreturn dX7_stands_18 rfl (Or.inr rfl) (rI (by rw [b2_ne.mp h10]; rfl) rfl)

