/-! THE REFERENCE: what the calls share -/
/-- what a call of the reference ends with -/
def MP (σ : Sg) (o : Int × SS) (v : Int) (τ : Sg) : Prop := v = o.1 ∧ MI o.2 τ ∧ ∀ c, c < 272 → τ c = σ c
theorem MI.th {s : SS} {σ : Sg} {v : Int} (h : MI s σ) : MI s (upC σ 272 0 v) := h.scr fun c i _ _ _ hi => by
  by_cases e : c = 272
  · subst e; exact upC_self (hi rfl).1
  · rw [upC_ne e]
theorem MI.found {s : SS} {σ : Sg} (h : MI s σ) : MI (wF s) (upC σ 272 24 (sF s + 1)) := by
  obtain ⟨q1, q2, q3, q4, q5, q6, q7, q8⟩ := h
  have e : ∀ c, c ≠ 272 → upC σ 272 24 (sF s + 1) c = σ c := fun c hc => upC_ne hc
  refine ⟨q1.cg (upC_self (by decide)) (e 273 (by decide)) (e 274 (by decide)), q2.cg (upC_self (by decide)) (fun c _ _ => e c (by omega)), q3.cg (fun c i _ _ => by rw [e c (by omega)]), q4.cg (upC_self (by decide)) (fun c _ _ => e c (by omega)), q5.cg (upC_self (by decide)) (e 292 (by decide)), q6.cg (upC_self (by decide)) (e 293 (by decide)), q7.cg (upC_self (by decide)) (fun c _ _ => e c (by omega)), upC_at⟩
theorem nS_0 {k : Int} {v : Nat} (h : k = 0) : nS k v = 2 ^ (v + 1) - 1 := if_pos h
set_option maxRecDepth 100000 in
set_option maxHeartbeats 4000000 in
theorem sM_noUnknown {g : GC} (σ : Sg) (U : Nat) (hU : U ≤ 10) (h : σ 272 1 = (U : Int)) (x : Int) (hx : inR x) : Ev g mX8_noUnknown 0 [some (vR (272)), some (vI (x))] [] (M0 (σ)) 0 0 (retI (bI (¬ (0 ≤ x ∧ x < (U : Int)))) σ) := by
  refine Ev.iload_n dX8_noUnknown_0 rfl rfl ?_
  refine Ev.i2l ⟨by omega, by omega⟩ dX8_noUnknown_1 ?_
  refine Ev.lconst 0 rfl dX8_noUnknown_2 ?_
  refine Ev.aload_n dX8_noUnknown_3 rfl rfl ?_
  refine gf_X8_93 (x := ((U : Nat) : Int)) rfl dX8_noUnknown_4 ltc_272 shc_272 h ?_
  refine Ev.iconst dX8_noUnknown_7 ?_
  refine Ev.isub dX8_noUnknown_8 ?_
  refine Ev.i2l ⟨by omega, by omega⟩ dX8_noUnknown_9 ?_
  refine Ev.callS_I (M2 := mX8_in) (args2 := [vL (x), vL (0), vL ((((U : Nat) : Int) - 1))]) dX8_noUnknown_10 okX8_in lk_X8_96 osX8_in.1 osX8_in.2 (by decide) rfl (Nat.le_of_ble_eq_true rfl) (Nat.le_of_ble_eq_true rfl) (sM_in σ (x) (0) ((((U : Nat) : Int) - 1)) ⟨by omega, by omega⟩ ⟨by omega, by omega⟩ ⟨by omega, by omega⟩) ?_ rfl
  refine Ev.if_ne (tgt := 20) bI_inR dX8_noUnknown_13 (by decide) (fun h13 => ?_) (fun h13 => ?_)
  · skip
    have q13 := bI_1.mp h13
    refine Ev.iconst dX8_noUnknown_20 ?_
    exact Ev.zreturn dX8_noUnknown_21 rfl (Or.inl rfl) (rI (bI_f (by omega)) rfl)
  · skip
    have q13 := bI_0.mp h13
    refine Ev.iconst dX8_noUnknown_16 ?_
    refine Ev.goto (tgt := 21) dX8_noUnknown_17 (by decide) ?_
    exact Ev.zreturn dX8_noUnknown_21 rfl (Or.inr rfl) (rI (bI_t (by omega)) rfl)

set_option maxRecDepth 100000 in
set_option maxHeartbeats 4000000 in
theorem sM_noRule {g : GC} (σ : Sg) (U : Nat) (hU : U ≤ 16) (h : σ 272 8 = (U : Int)) (x : Int) (hx : inR x) : Ev g mX8_noRule 0 [some (vR (272)), some (vI (x))] [] (M0 (σ)) 0 0 (retI (bI (¬ (0 ≤ x ∧ x < (U : Int)))) σ) := by
  refine Ev.iload_n dX8_noRule_0 rfl rfl ?_
  refine Ev.i2l ⟨by omega, by omega⟩ dX8_noRule_1 ?_
  refine Ev.lconst 0 rfl dX8_noRule_2 ?_
  refine Ev.aload_n dX8_noRule_3 rfl rfl ?_
  refine gf_X8_100 (x := ((U : Nat) : Int)) rfl dX8_noRule_4 ltc_272 shc_272 h ?_
  refine Ev.iconst dX8_noRule_7 ?_
  refine Ev.isub dX8_noRule_8 ?_
  refine Ev.i2l ⟨by omega, by omega⟩ dX8_noRule_9 ?_
  refine Ev.callS_I (M2 := mX8_in) (args2 := [vL (x), vL (0), vL ((((U : Nat) : Int) - 1))]) dX8_noRule_10 okX8_in lk_X8_96 osX8_in.1 osX8_in.2 (by decide) rfl (Nat.le_of_ble_eq_true rfl) (Nat.le_of_ble_eq_true rfl) (sM_in σ (x) (0) ((((U : Nat) : Int) - 1)) ⟨by omega, by omega⟩ ⟨by omega, by omega⟩ ⟨by omega, by omega⟩) ?_ rfl
  refine Ev.if_ne (tgt := 20) bI_inR dX8_noRule_13 (by decide) (fun h13 => ?_) (fun h13 => ?_)
  · skip
    have q13 := bI_1.mp h13
    refine Ev.iconst dX8_noRule_20 ?_
    exact Ev.zreturn dX8_noRule_21 rfl (Or.inl rfl) (rI (bI_f (by omega)) rfl)
  · skip
    have q13 := bI_0.mp h13
    refine Ev.iconst dX8_noRule_16 ?_
    refine Ev.goto (tgt := 21) dX8_noRule_17 (by decide) ?_
    exact Ev.zreturn dX8_noRule_21 rfl (Or.inr rfl) (rI (bI_t (by omega)) rfl)

set_option maxRecDepth 100000 in
set_option maxHeartbeats 4000000 in
theorem sM_noLine {g : GC} (σ : Sg) (U : Nat) (hU : U ≤ 40) (h : σ 272 19 = (U : Int)) (x : Int) (hx : inR x) : Ev g mX8_noLine 0 [some (vR (272)), some (vI (x))] [] (M0 (σ)) 0 0 (retI (bI (¬ (0 ≤ x ∧ x < (U : Int)))) σ) := by
  refine Ev.iload_n dX8_noLine_0 rfl rfl ?_
  refine Ev.i2l ⟨by omega, by omega⟩ dX8_noLine_1 ?_
  refine Ev.lconst 0 rfl dX8_noLine_2 ?_
  refine Ev.aload_n dX8_noLine_3 rfl rfl ?_
  refine gf_X8_275 (x := ((U : Nat) : Int)) rfl dX8_noLine_4 ltc_272 shc_272 h ?_
  refine Ev.iconst dX8_noLine_7 ?_
  refine Ev.isub dX8_noLine_8 ?_
  refine Ev.i2l ⟨by omega, by omega⟩ dX8_noLine_9 ?_
  refine Ev.callS_I (M2 := mX8_in) (args2 := [vL (x), vL (0), vL ((((U : Nat) : Int) - 1))]) dX8_noLine_10 okX8_in lk_X8_96 osX8_in.1 osX8_in.2 (by decide) rfl (Nat.le_of_ble_eq_true rfl) (Nat.le_of_ble_eq_true rfl) (sM_in σ (x) (0) ((((U : Nat) : Int) - 1)) ⟨by omega, by omega⟩ ⟨by omega, by omega⟩ ⟨by omega, by omega⟩) ?_ rfl
  refine Ev.if_ne (tgt := 20) bI_inR dX8_noLine_13 (by decide) (fun h13 => ?_) (fun h13 => ?_)
  · skip
    have q13 := bI_1.mp h13
    refine Ev.iconst dX8_noLine_20 ?_
    exact Ev.zreturn dX8_noLine_21 rfl (Or.inl rfl) (rI (bI_f (by omega)) rfl)
  · skip
    have q13 := bI_0.mp h13
    refine Ev.iconst dX8_noLine_16 ?_
    refine Ev.goto (tgt := 21) dX8_noLine_17 (by decide) ?_
    exact Ev.zreturn dX8_noLine_21 rfl (Or.inr rfl) (rI (bI_t (by omega)) rfl)

set_option maxRecDepth 100000 in
set_option maxHeartbeats 4000000 in
theorem sM_finds {g : GC} (σ : Sg) (f F : Int) (h : σ 272 24 = F) : Ev g mX8_finds 0 [some (vR (272)), some (vI (f))] [] (M0 (σ)) 0 0 (retI f (upC σ 272 24 (F + 1))) := by
  refine Ev.aload_n dX8_finds_0 rfl rfl ?_
  refine Ev.dupR dX8_finds_1 ?_
  refine gf_X8_103 (x := F) rfl dX8_finds_2 ltc_272 shc_272 h ?_
  refine Ev.iconst dX8_finds_5 ?_
  refine Ev.iadd dX8_finds_6 ?_
  refine pf_X8_103 rfl dX8_finds_7 ltc_272 shc_272 ?_
  refine Ev.iload_n dX8_finds_10 rfl rfl ?_
  exact Ev.ireturn dX8_finds_11 rfl (rI rfl rfl)

set_option maxRecDepth 100000 in
set_option maxHeartbeats 4000000 in
theorem sM_bits {g : GC} (σ : Sg) (k : Int) (v : Nat) (hk : 0 ≤ k ∧ k ≤ 3) (hv : v < 16) : Ev g mX8_bits 0 [some (vI (k)), some (vI (((v : Nat) : Int)))] [] (M0 (σ)) 0 0 (retI ((nS k v : Nat) : Int) σ) := by
  have hp := pow_le16 hv
  have h1 : 1 ≤ 2 ^ v := Nat.one_le_two_pow
  have h2 : 1 ≤ 2 ^ (v + 1) := Nat.one_le_two_pow
  refine Ev.iload_n dX8_bits_0 rfl rfl ?_
  have hcs : k = 0 ∨ k = 1 ∨ k = 2 ∨ k = 3 := by omega
  rcases hcs with hk | hk | hk | hk
  · subst hk
    refine Ev.tableIn (tgt := 28) dX8_bits_1 ⟨by decide, by decide⟩ (by decide) (by decide) rfl (by decide) ?_
    refine Ev.iconst dX8_bits_28 ?_
    refine Ev.iload_n dX8_bits_29 rfl rfl ?_
    refine Ev.iconst dX8_bits_30 ?_
    refine Ev.iadd dX8_bits_31 ?_
    refine Ev.ishl dX8_bits_32 ?_
    rw [show (iShl (1) ((((v : Nat) : Int) + 1))) = ((2 ^ (v + 1) : Nat) : Int) from by rw [show ((v : Nat) : Int) + 1 = ((v + 1 : Nat) : Int) by omega]; exact shl1 (by omega)]
    refine Ev.iconst dX8_bits_33 ?_
    refine Ev.isub dX8_bits_34 ?_
    exact Ev.ireturn dX8_bits_35 rfl (rI (by first | (show _ = ((2 ^ (v + 1) - 1 : Nat) : Int); omega) | (show _ = ((65536 - 2 ^ v : Nat) : Int); omega) | (show _ = ((65535 - 2 ^ v : Nat) : Int); omega) | rfl) rfl)
  · subst hk
    refine Ev.tableIn (tgt := 36) dX8_bits_1 ⟨by decide, by decide⟩ (by decide) (by decide) rfl (by decide) ?_
    refine Ev.ldc (n := 65535) (tbl_i 803 (by decide +kernel)) dX8_bits_36 ?_
    refine Ev.iconst dX8_bits_38 ?_
    refine Ev.iload_n dX8_bits_39 rfl rfl ?_
    refine Ev.ishl dX8_bits_40 ?_
    rw [show (iShl (1) (((v : Nat) : Int))) = ((2 ^ v : Nat) : Int) from shl1 (by omega)]
    refine Ev.isub dX8_bits_41 ?_
    refine Ev.iconst dX8_bits_42 ?_
    refine Ev.iadd dX8_bits_43 ?_
    exact Ev.ireturn dX8_bits_44 rfl (rI (by first | (show _ = ((2 ^ (v + 1) - 1 : Nat) : Int); omega) | (show _ = ((65536 - 2 ^ v : Nat) : Int); omega) | (show _ = ((65535 - 2 ^ v : Nat) : Int); omega) | rfl) rfl)
  · subst hk
    refine Ev.tableIn (tgt := 45) dX8_bits_1 ⟨by decide, by decide⟩ (by decide) (by decide) rfl (by decide) ?_
    refine Ev.ldc (n := 65535) (tbl_i 803 (by decide +kernel)) dX8_bits_45 ?_
    refine Ev.iconst dX8_bits_47 ?_
    refine Ev.iload_n dX8_bits_48 rfl rfl ?_
    refine Ev.ishl dX8_bits_49 ?_
    rw [show (iShl (1) (((v : Nat) : Int))) = ((2 ^ v : Nat) : Int) from shl1 (by omega)]
    refine Ev.isub dX8_bits_50 ?_
    exact Ev.ireturn dX8_bits_51 rfl (rI (by first | (show _ = ((2 ^ (v + 1) - 1 : Nat) : Int); omega) | (show _ = ((65536 - 2 ^ v : Nat) : Int); omega) | (show _ = ((65535 - 2 ^ v : Nat) : Int); omega) | rfl) rfl)
  · subst hk
    refine Ev.tableOut (tgt := 52) dX8_bits_1 ⟨by decide, by decide⟩ (by decide) (by decide) ?_
    refine Ev.iconst dX8_bits_52 ?_
    refine Ev.iload_n dX8_bits_53 rfl rfl ?_
    refine Ev.ishl dX8_bits_54 ?_
    rw [show (iShl (1) (((v : Nat) : Int))) = ((2 ^ v : Nat) : Int) from shl1 (by omega)]
    exact Ev.ireturn dX8_bits_55 rfl (rI (by first | (show _ = ((2 ^ (v + 1) - 1 : Nat) : Int); omega) | (show _ = ((65536 - 2 ^ v : Nat) : Int); omega) | (show _ = ((65535 - 2 ^ v : Nat) : Int); omega) | rfl) rfl)

set_option maxRecDepth 100000 in
set_option maxHeartbeats 4000000 in
theorem sM_asTold_l {g : GC} (σ : Sg) (U : Nat) (hU : U ≤ 10) (h : σ 272 1 = (U : Int)) (X : Rg) (hX : ∀ x, x < U → σ 273 x = (X x : Int)) : ∀ j x : Nat, x + j = U → ∀ τ : Sg, Same [274] σ τ → (∀ y, y < x → τ 274 y = (X y : Int)) → Ev g mX8_asTold 2 [some (vR (272)), some (vI (((x : Nat) : Int)))] [] (M0 (τ)) 0 0 (retW (fun τ => Same [274] σ τ ∧ ∀ x, x < U → τ 274 x = (X x : Int))) := by
  intro j
  induction j with
  | zero =>
    intro x hij τ hF hG
    refine Ev.iload_n dX8_asTold_2 rfl rfl ?_
    refine Ev.aload_n dX8_asTold_3 rfl rfl ?_
    refine gf_X8_93 (x := ((U : Nat) : Int)) rfl dX8_asTold_4 ltc_272 shc_272 ((congrFun (hF 272 (by decide)) 1).trans h) ?_
    refine Ev.icmp_ge (tgt := 28) ⟨by omega, by omega⟩ ⟨by omega, by omega⟩ dX8_asTold_7 (by decide) (fun h7 => ?_) (fun h7 => ?_)
    · skip
      exact Ev.vreturn dX8_asTold_28 rfl (rW ⟨hF, fun y hy => hG y (by omega)⟩)
    · exact absurd h7 (by omega)
  | succ j ih =>
    intro x hij τ hF hG
    refine Ev.iload_n dX8_asTold_2 rfl rfl ?_
    refine Ev.aload_n dX8_asTold_3 rfl rfl ?_
    refine gf_X8_93 (x := ((U : Nat) : Int)) rfl dX8_asTold_4 ltc_272 shc_272 ((congrFun (hF 272 (by decide)) 1).trans h) ?_
    refine Ev.icmp_ge (tgt := 28) ⟨by omega, by omega⟩ ⟨by omega, by omega⟩ dX8_asTold_7 (by decide) (fun h7 => ?_) (fun h7 => ?_)
    · exact absurd h7 (by omega)
    · skip
      refine Ev.aload_n dX8_asTold_10 rfl rfl ?_
      refine gf_X8_13 rfl dX8_asTold_11 ltc_272 shc_272 rfc_272_3 ?_
      refine Ev.iload_n dX8_asTold_14 rfl rfl ?_
      refine Ev.aload_n dX8_asTold_15 rfl rfl ?_
      refine gf_X8_7 rfl dX8_asTold_16 ltc_272 shc_272 rfc_272_2 ?_
      refine Ev.iload_n dX8_asTold_19 rfl rfl ?_
      refine Ev.iaload (v := ((X x : Nat) : Int)) dX8_asTold_20 ltc_273 shc_273 (by decide) (by omega) (by omega) (ldx rfl ((congrFun (hF 273 (by decide)) x).trans (hX x (by omega)))) ?_
      refine Ev.iastore dX8_asTold_21 ltc_274 shc_274 (by decide) (by omega) (by omega) ?_
      refine Ev.iinc (pl' := [some (vR (272)), some (vI (((x : Nat) : Int) + 1))]) dX8_asTold_22 rfl (Nat.le_of_ble_eq_true rfl) rfl ?_
      refine Ev.goto (tgt := 2) dX8_asTold_25 (by decide) ?_
      refine Ev.mem (τ := upC τ 274 x (X x : Int)) (by simp only [Int.toNat_natCast]) ?_
      refine Ev.wk (pl' := [some (vR (272)), some (vI ((((x + 1) : Nat) : Int)))]) ⟨rfl, ⟨vIe (by omega), trivial⟩⟩ ?_
      exact ih (x + 1) (by omega) _ (hF.up (by decide)) (fun y hy => by rcases Nat.lt_or_ge y x with e | e; (rw [upC_self (by omega)]; exact hG y e); (rw [show y = x by omega]; exact upC_at))

set_option maxRecDepth 100000 in
set_option maxHeartbeats 4000000 in
theorem sM_asTold {g : GC} (σ : Sg) (U : Nat) (hU : U ≤ 10) (h : σ 272 1 = (U : Int)) (X : Rg) (hX : ∀ x, x < U → σ 273 x = (X x : Int)) : Ev g mX8_asTold 0 [some (vR (272)), none] [] (M0 (σ)) 0 0 (retW (fun τ => Same [274] σ τ ∧ ∀ x, x < U → τ 274 x = (X x : Int))) := by
  refine Ev.iconst dX8_asTold_0 ?_
  refine Ev.istore_n (pl' := [some (vR (272)), some (vI (0))]) dX8_asTold_1 rfl (Nat.le_of_ble_eq_true rfl) rfl ?_
  refine Ev.wk (pl' := [some (vR (272)), some (vI (((0 : Nat) : Int)))]) ⟨rfl, ⟨vIe rfl, trivial⟩⟩ ?_
  exact sM_asTold_l σ U hU h X hX U 0 (by omega) σ Same.rf (fun y hy => absurd hy (by omega))

set_option maxRecDepth 100000 in
set_option maxHeartbeats 4000000 in
theorem sM_added {g : GC} (σ : Sg) (U : Nat) (hU : U ≤ 10) (h : σ 272 1 = (U : Int)) (X : Rg) (hX : ∀ x, x < U → σ 273 x = (X x : Int)) (r x n : Nat) (hr : r < 16) (hn : n ≤ 6) (hn2 : σ 282 r = (n : Int)) (a b : Int) : Ev g mX8_added 0 [some (vR (272)), some (vI (((r : Nat) : Int))), some (vI (((x : Nat) : Int))), some (vI (a)), some (vI (b)), none] [] (M0 (σ)) 0 0 (retE (fun v τ => (n = 6 ∧ v = -4 ∧ τ = σ) ∨ (n < 6 ∧ v = ((n + 1 : Nat) : Int) ∧ Same [274] (upC (upC (upC (upC σ 283 (6 * r + n) (x : Int)) 284 (6 * r + n) a) 285 (6 * r + n) b) 282 r ((n + 1 : Nat) : Int)) τ ∧ ∀ x, x < U → τ 274 x = (X x : Int)))) := by
  refine Ev.aload_n dX8_added_0 rfl rfl ?_
  refine gf_X8_38 rfl dX8_added_1 ltc_272 shc_272 rfc_272_13 ?_
  refine Ev.iload_n dX8_added_4 rfl rfl ?_
  refine Ev.iaload (v := ((n : Nat) : Int)) dX8_added_5 ltc_282 shc_282 (by decide) (by omega) (by omega) (ldx rfl hn2) ?_
  refine Ev.bipush (n := 6) (by decide) dX8_added_6 ?_
  refine Ev.icmp_ne (tgt := 14) ⟨by omega, by omega⟩ ⟨by decide, by decide⟩ dX8_added_8 (by decide) (fun h8 => ?_) (fun h8 => ?_)
  · skip
    refine Ev.bipush (n := 6) (by decide) dX8_added_14 ?_
    refine Ev.iload_n dX8_added_16 rfl rfl ?_
    refine Ev.imul dX8_added_17 ?_
    refine Ev.aload_n dX8_added_18 rfl rfl ?_
    refine gf_X8_38 rfl dX8_added_19 ltc_272 shc_272 rfc_272_13 ?_
    refine Ev.iload_n dX8_added_22 rfl rfl ?_
    refine Ev.iaload (v := ((n : Nat) : Int)) dX8_added_23 ltc_282 shc_282 (by decide) (by omega) (by omega) (ldx rfl hn2) ?_
    refine Ev.iadd dX8_added_24 ?_
    refine Ev.istore (pl' := [some (vR (272)), some (vI (((r : Nat) : Int))), some (vI (((x : Nat) : Int))), some (vI (a)), some (vI (b)), some (vI (((6 * ((r : Nat) : Int)) + ((n : Nat) : Int))))]) dX8_added_25 (Nat.le_of_ble_eq_true rfl) rfl ?_
    refine Ev.aload_n dX8_added_27 rfl rfl ?_
    refine gf_X8_41 rfl dX8_added_28 ltc_272 shc_272 rfc_272_14 ?_
    refine Ev.iload dX8_added_31 rfl ?_
    refine Ev.iload_n dX8_added_33 rfl rfl ?_
    refine Ev.iastore dX8_added_34 ltc_283 shc_283 (by decide) (by omega) (by omega) ?_
    refine Ev.mem (τ := upC σ 283 (6 * r + n) (x : Int)) (by rw [show (6 : Int) * ((r : Nat) : Int) + ((n : Nat) : Int) = ((6 * r + n : Nat) : Int) by omega]; simp only [Int.toNat_natCast]) ?_
    refine Ev.aload_n dX8_added_35 rfl rfl ?_
    refine gf_X8_44 rfl dX8_added_36 ltc_272 shc_272 rfc_272_15 ?_
    refine Ev.iload dX8_added_39 rfl ?_
    refine Ev.iload_n dX8_added_41 rfl rfl ?_
    refine Ev.iastore dX8_added_42 ltc_284 shc_284 (by decide) (by omega) (by omega) ?_
    refine Ev.mem (τ := upC (upC σ 283 (6 * r + n) (x : Int)) 284 (6 * r + n) a) (by rw [show (6 : Int) * ((r : Nat) : Int) + ((n : Nat) : Int) = ((6 * r + n : Nat) : Int) by omega]; simp only [Int.toNat_natCast]) ?_
    refine Ev.aload_n dX8_added_43 rfl rfl ?_
    refine gf_X8_47 rfl dX8_added_44 ltc_272 shc_272 rfc_272_16 ?_
    refine Ev.iload dX8_added_47 rfl ?_
    refine Ev.iload dX8_added_49 rfl ?_
    refine Ev.iastore dX8_added_51 ltc_285 shc_285 (by decide) (by omega) (by omega) ?_
    refine Ev.mem (τ := upC (upC (upC σ 283 (6 * r + n) (x : Int)) 284 (6 * r + n) a) 285 (6 * r + n) b) (by rw [show (6 : Int) * ((r : Nat) : Int) + ((n : Nat) : Int) = ((6 * r + n : Nat) : Int) by omega]; simp only [Int.toNat_natCast]) ?_
    refine Ev.aload_n dX8_added_52 rfl rfl ?_
    refine gf_X8_38 rfl dX8_added_53 ltc_272 shc_272 rfc_272_13 ?_
    refine Ev.iload_n dX8_added_56 rfl rfl ?_
    refine Ev.dup2RI dX8_added_57 ?_
    refine Ev.iaload (v := ((n : Nat) : Int)) dX8_added_58 ltc_282 shc_282 (by decide) (by omega) (by omega) (show (upC (upC (upC σ 283 (6 * r + n) (x : Int)) 284 (6 * r + n) a) 285 (6 * r + n) b) 282 (((r : Nat) : Int)).toNat = ((n : Nat) : Int) from (ldx rfl (show (upC (upC (upC σ 283 (6 * r + n) (x : Int)) 284 (6 * r + n) a) 285 (6 * r + n) b) 282 r = _ from ((congrFun (upC_ne (by decide)) r).trans ((congrFun (upC_ne (by decide)) r).trans ((congrFun (upC_ne (by decide)) r).trans hn2)))))) ?_
    refine Ev.iconst dX8_added_59 ?_
    refine Ev.iadd dX8_added_60 ?_
    refine Ev.iastore dX8_added_61 ltc_282 shc_282 (by decide) (by omega) (by omega) ?_
    obtain ⟨ρ, hρ⟩ : ∃ ρ : Sg, ρ = upC (upC (upC (upC σ 283 (6 * r + n) (x : Int)) 284 (6 * r + n) a) 285 (6 * r + n) b) 282 r ((n + 1 : Nat) : Int) := ⟨_, rfl⟩
    refine Ev.mem (τ := ρ) (by rw [hρ]; simp only [Int.toNat_natCast]; rfl) ?_
    refine Ev.aload_n dX8_added_62 rfl rfl ?_
    refine Ev.callV_G (M2 := mX8_asTold) (args2 := []) (rcv := 272) (q := (RX8, TX8, 34)) (ci := 8) dX8_added_63 okX8_asTold lk_X8_116 ovX8_asTold.1.1 ovX8_asTold.1.2 ovX8_asTold.2 (by decide) rfl rfl ltc_272 shc_272 rfl (Nat.le_of_ble_eq_true rfl) (Nat.le_of_ble_eq_true rfl) (sM_asTold ρ U hU ((congrFun (congrFun hρ 272) 1).trans (((congrFun (upC_ne (by decide)) 1).trans ((congrFun (upC_ne (by decide)) 1).trans ((congrFun (upC_ne (by decide)) 1).trans ((congrFun (upC_ne (by decide)) 1).trans h)))))) X (fun y hy => (congrFun (congrFun hρ 273) y).trans (((congrFun (upC_ne (by decide)) y).trans ((congrFun (upC_ne (by decide)) y).trans ((congrFun (upC_ne (by decide)) y).trans ((congrFun (upC_ne (by decide)) y).trans (hX y hy)))))))) (fun v_ m_ hp_ => ?_) rfl
    obtain ⟨τ, rfl, rfl, hF, hG⟩ := hp_
    rw [hρ] at hF
    show Ev g mX8_added 66 [some (vR (272)), some (vI (((r : Nat) : Int))), some (vI (((x : Nat) : Int))), some (vI (a)), some (vI (b)), some (vI (((6 * ((r : Nat) : Int)) + ((n : Nat) : Int))))] [] (M0 (τ)) 0 0 _
    refine Ev.aload_n dX8_added_66 rfl rfl ?_
    refine gf_X8_38 rfl dX8_added_67 ltc_272 shc_272 rfc_272_13 ?_
    refine Ev.iload_n dX8_added_70 rfl rfl ?_
    refine Ev.iaload (v := (((n + 1) : Nat) : Int)) dX8_added_71 ltc_282 shc_282 (by decide) (by omega) (by omega) (ldx rfl ((congrFun (hF 282 (by decide)) r).trans upC_at)) ?_
    exact Ev.ireturn dX8_added_72 rfl (rE (Or.inr ⟨by omega, rfl, hF, hG⟩))
  · skip
    refine Ev.bipush (n := -4) (by decide) dX8_added_11 ?_
    exact Ev.ireturn dX8_added_13 rfl (rE (Or.inl ⟨by omega, rfl, rfl⟩))

