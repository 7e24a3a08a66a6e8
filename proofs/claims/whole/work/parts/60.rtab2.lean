/-! THE REFERENCE: table, cell, copy, about -/
theorem upi {σ : Sg} {c n : Nat} {j v w : Int} (hj : j = (n : Int)) (hv : v = w) : upC σ c j.toNat v = upC σ c n w := by rw [hj, hv, Int.toNat_natCast]
theorem tvm_upd {σ τ : Sg} {t : Nat} {n : Int} {T : Tb} {f : Nat → Nat} (hT : TVm σ T) (hn : -1 ≤ n ∧ n ≤ 48) (e1 : τ 286 = upC σ 286 t n 286) (e : ∀ i, i < 48 * t ∨ 48 * t + 48 ≤ i → τ 287 i = σ 287 i) (h : ∀ j, j < 48 → τ 287 (48 * t + j) = (f j : Int) ∧ f j < 16) : TVm τ (updF T.1 t n, updF T.2 t f) := fun u hu => by
  by_cases eu : u = t
  · subst eu
    rw [e1]
    refine ⟨by rw [upC_at]; exact updF_at.symm, by show -1 ≤ updF T.1 u n u ∧ updF T.1 u n u ≤ 48; rw [updF_at]; exact hn, fun j hj => ?_⟩
    show τ 287 (48 * u + j) = ((updF T.2 u f u j : Nat) : Int) ∧ updF T.2 u f u j < 16
    rw [updF_at]
    exact h j hj
  · obtain ⟨q1, q2, q3⟩ := hT u hu
    rw [e1]
    refine ⟨by rw [upC_self eu]; exact q1.trans (updF_ne eu).symm, by show -1 ≤ updF T.1 t n u ∧ updF T.1 t n u ≤ 48; rw [updF_ne eu]; exact q2, fun j hj => ?_⟩
    show τ 287 (48 * u + j) = ((updF T.2 t f u j : Nat) : Int) ∧ updF T.2 t f u j < 16
    rw [updF_ne eu, e _ (by omega)]
    exact q3 j hj
theorem tvm_set {σ τ : Sg} {t : Nat} {T : Tb} {f : Nat → Nat} (hT : TVm σ T) (e1 : τ 286 = σ 286) (e : ∀ i, i < 48 * t ∨ 48 * t + 48 ≤ i → τ 287 i = σ 287 i) (h : ∀ j, j < 48 → τ 287 (48 * t + j) = (f j : Int) ∧ f j < 16) : TVm τ (T.1, updF T.2 t f) := fun u hu => by
  obtain ⟨q1, q2, q3⟩ := hT u hu
  rw [e1]
  refine ⟨q1, q2, fun j hj => ?_⟩
  by_cases eu : u = t
  · subst eu
    show τ 287 (48 * u + j) = ((updF T.2 u f u j : Nat) : Int) ∧ updF T.2 u f u j < 16
    rw [updF_at]
    exact h j hj
  · show τ 287 (48 * u + j) = ((updF T.2 t f u j : Nat) : Int) ∧ updF T.2 t f u j < 16
    rw [updF_ne eu, e _ (by omega)]
    exact q3 j hj
set_option maxRecDepth 100000 in
set_option maxHeartbeats 4000000 in
theorem r_table_l {g : GC} (s : SS) (σ σ1 : Sg) (hM1 : MI s σ1) (hk0 : ∀ c, c < 272 → σ1 c = σ c) (kt : Nat) (l n : Int) (hkt : kt < 6) (hl : 0 ≤ l ∧ l < 3) (hn : 0 ≤ n ∧ n ≤ 48) (hD0 : ¬ 0 < sD s) : ∀ j K : Nat, K + j = 48 → ∀ ρ : Sg, (∀ c, c ≠ 286 → c ≠ 287 → ρ c = σ1 c) → ρ 286 = upC σ1 286 kt n 286 → (∀ i, ¬ (48 * kt ≤ i ∧ i < 48 * kt + 48) → ρ 287 i = σ1 287 i) → (∀ k, k < K → ρ 287 (48 * kt + k) = 0) → Ev g mX8_table 72 [some (vR (272)), some (vI (((kt : Nat) : Int))), some (vI (l)), some (vI (n)), some (vI ((((48 * kt + K) : Nat) : Int)))] [] (M0 (ρ)) 0 0 (retE (MP σ (o_table s (kt : Int) l n))) := by
  intro j
  induction j with
  | zero =>
    intro K hij ρ hLe h6 ho hz
    obtain ⟨hu1, hu2, hu3, hu4, hu5, hu6, hu7, hu8⟩ := id hM1
    have hU := hu1.1
    have hN := hu2.1
    have hD := hu4.1
    have hMl := hu7.1
    have hQ := hu5.1
    refine Ev.iload dX8_table_72 rfl ?_
    refine Ev.bipush (n := 48) (by decide) dX8_table_74 ?_
    refine Ev.iload_n dX8_table_76 rfl rfl ?_
    refine Ev.imul dX8_table_77 ?_
    refine Ev.bipush (n := 48) (by decide) dX8_table_78 ?_
    refine Ev.iadd dX8_table_80 ?_
    refine Ev.icmp_ge (tgt := 98) ⟨by omega, by omega⟩ ⟨by omega, by omega⟩ dX8_table_81 (by decide) (fun h81 => ?_) (fun h81 => ?_)
    · skip
      refine Ev.aload_n dX8_table_98 rfl rfl ?_
      refine Ev.callV_G (M2 := mX8_asTold) (args2 := []) (rcv := 272) (q := (RX8, TX8, 34)) (ci := 8) dX8_table_99 okX8_asTold lk_X8_116 ovX8_asTold.1.1 ovX8_asTold.1.2 ovX8_asTold.2 (by decide) rfl rfl ltc_272 shc_272 rfl (Nat.le_of_ble_eq_true rfl) (Nat.le_of_ble_eq_true rfl) (sM_asTold ρ (sU s) hU ((congrFun (hLe 272 (by decide) (by decide)) 1).trans hu1.2.1) (sG s) (fun y hy => (congrFun (hLe 273 (by decide) (by decide)) y).trans (hu1.2.2.1 y hy).1)) (fun v_ m_ hp_ => ?_) rfl
      obtain ⟨τ, rfl, rfl, hF, hG⟩ := hp_
      show Ev g mX8_table 102 [some (vR (272)), some (vI (((kt : Nat) : Int))), some (vI (l)), some (vI (n)), some (vI ((((48 * kt + K) : Nat) : Int)))] [] (M0 (τ)) 0 0 _
      refine Ev.iload_n dX8_table_102 rfl rfl ?_
      exact Ev.ireturn dX8_table_103 rfl (rE (by unfold MP o_table; (repeat rw [Int.toNat_natCast]); rw [ifP_f (fun z => z ⟨⟨by omega, by omega⟩, ⟨by omega, by omega⟩, by omega⟩), ifP_f (by omega), ifP_f (by omega)]; exact ⟨rfl, ⟨⟨hU, ((congrFun ((hF 272 (by decide)).trans (hLe 272 (by decide) (by decide))) 1).trans hu1.2.1), (hu1.2.2.1.cg fun x _ => congrFun ((hF 273 (by decide)).trans (hLe 273 (by decide) (by decide))) x), (fun x hx => ⟨hG x hx, (hu1.2.2.1 x hx).2⟩)⟩, (hu2.cg ((congrFun ((hF 272 (by decide)).trans (hLe 272 (by decide) (by decide))) 8).trans rfl) (fun c q1 q2 => ((hF c (by simp; omega)).trans (hLe c (by omega) (by omega))))), (tvm_upd hu3 ⟨by omega, by omega⟩ ((hF 286 (by decide)).trans h6) (fun i hi => (congrFun (hF 287 (by decide)) i).trans (ho i (by omega))) (fun j hj => ⟨(congrFun (hF 287 (by decide)) _).trans (hz j (by omega)), by decide⟩)), (hu4.cg ((congrFun ((hF 272 (by decide)).trans (hLe 272 (by decide) (by decide))) 4).trans rfl) (fun c q1 q2 => ((hF c (by simp; omega)).trans (hLe c (by omega) (by omega))))), (hu5.cg ((congrFun ((hF 272 (by decide)).trans (hLe 272 (by decide) (by decide))) 25).trans rfl) ((hF 292 (by decide)).trans (hLe 292 (by decide) (by decide)))), (hu6.cg ((congrFun ((hF 272 (by decide)).trans (hLe 272 (by decide) (by decide))) 27).trans rfl) ((hF 293 (by decide)).trans (hLe 293 (by decide) (by decide)))), (hu7.cg ((congrFun ((hF 272 (by decide)).trans (hLe 272 (by decide) (by decide))) 19).trans rfl) (fun c q1 q2 => ((hF c (by simp; omega)).trans (hLe c (by omega) (by omega))))), ((congrFun ((hF 272 (by decide)).trans (hLe 272 (by decide) (by decide))) 24).trans hu8)⟩, (fun c q2 => (hF c (by simp; omega)).trans ((hLe c (by omega) (by omega)).trans (hk0 c q2)))⟩))
    · exact absurd h81 (by omega)
  | succ j ih =>
    intro K hij ρ hLe h6 ho hz
    obtain ⟨hu1, hu2, hu3, hu4, hu5, hu6, hu7, hu8⟩ := id hM1
    have hU := hu1.1
    have hN := hu2.1
    have hD := hu4.1
    have hMl := hu7.1
    have hQ := hu5.1
    refine Ev.iload dX8_table_72 rfl ?_
    refine Ev.bipush (n := 48) (by decide) dX8_table_74 ?_
    refine Ev.iload_n dX8_table_76 rfl rfl ?_
    refine Ev.imul dX8_table_77 ?_
    refine Ev.bipush (n := 48) (by decide) dX8_table_78 ?_
    refine Ev.iadd dX8_table_80 ?_
    refine Ev.icmp_ge (tgt := 98) ⟨by omega, by omega⟩ ⟨by omega, by omega⟩ dX8_table_81 (by decide) (fun h81 => ?_) (fun h81 => ?_)
    · exact absurd h81 (by omega)
    · skip
      refine Ev.aload_n dX8_table_84 rfl rfl ?_
      refine gf_X8_53 rfl dX8_table_85 ltc_272 shc_272 rfc_272_18 ?_
      refine Ev.iload dX8_table_88 rfl ?_
      refine Ev.iconst dX8_table_90 ?_
      refine Ev.iastore dX8_table_91 ltc_287 shc_287 (by decide) (by omega) (by omega) ?_
      refine Ev.iinc (pl' := [some (vR (272)), some (vI (((kt : Nat) : Int))), some (vI (l)), some (vI (n)), some (vI ((((48 * kt + K) : Nat) : Int) + 1))]) dX8_table_92 rfl (Nat.le_of_ble_eq_true rfl) rfl ?_
      refine Ev.goto (tgt := 72) dX8_table_95 (by decide) ?_
      refine Ev.mem (τ := upC ρ 287 (48 * kt + K) 0) (upi rfl rfl) ?_
      refine Ev.wk (pl' := [some (vR (272)), some (vI (((kt : Nat) : Int))), some (vI (l)), some (vI (n)), some (vI ((((48 * kt + (K + 1)) : Nat) : Int)))]) ⟨rfl, ⟨rfl, ⟨rfl, ⟨rfl, ⟨vIe (by omega), trivial⟩⟩⟩⟩⟩ ?_
      exact ih (K + 1) (by omega) _ (fun c a b => (upC_ne b).trans (hLe c a b)) ((upC_ne (by decide)).trans h6) (fun i hi => (upC_self (by omega)).trans (ho i hi)) (fun k hk => (Nat.lt_or_ge k K).elim (fun e => (upC_self (by omega)).trans (hz k e)) (fun e => by rw [show k = K by omega]; exact upC_at))

set_option maxRecDepth 100000 in
set_option maxHeartbeats 4000000 in
theorem r_table {g : GC} (s : SS) (σ : Sg) (hM : MI s σ) (t : Int) (h_t : inR t) (l : Int) (h_l : inR l) (n : Int) (h_n : inR n) : Ev g mX8_table 0 [some (vR (272)), some (vI (t)), some (vI (l)), some (vI (n)), none] [] (M0 (σ)) 0 0 (retE (MP σ (o_table s t l n))) := by
  refine Ev.aload_n dX8_table_0 rfl rfl ?_
  refine Ev.iconst dX8_table_1 ?_
  refine pf_X8_90 rfl dX8_table_2 ltc_272 shc_272 ?_
  obtain ⟨σ1, hs1⟩ : ∃ ρ : Sg, ρ = upC σ 272 0 0 := ⟨_, rfl⟩
  refine Ev.mem (τ := σ1) hs1.symm ?_
  have hM1 : MI s σ1 := by rw [hs1]; exact hM.th
  have hk0 : ∀ c, c < 272 → σ1 c = σ c := fun c hc => by rw [hs1]; exact upC_ne (by omega)
  obtain ⟨hu1, hu2, hu3, hu4, hu5, hu6, hu7, hu8⟩ := id hM1
  have hU := hu1.1
  have hN := hu2.1
  have hD := hu4.1
  have hMl := hu7.1
  have hQ := hu5.1
  refine Ev.iload_n dX8_table_5 rfl rfl ?_
  refine Ev.i2l ⟨by omega, by omega⟩ dX8_table_6 ?_
  refine Ev.lconst 0 rfl dX8_table_7 ?_
  refine Ev.ldc2 (n := 5) (tbl_i 823 (by decide +kernel)) dX8_table_8 ?_
  refine Ev.callS_I (M2 := mX8_in) (args2 := [vL (t), vL (0), vL (5)]) dX8_table_11 okX8_in lk_X8_96 osX8_in.1 osX8_in.2 (by decide) rfl (Nat.le_of_ble_eq_true rfl) (Nat.le_of_ble_eq_true rfl) (sM_in σ1 (t) (0) (5) ⟨by omega, by omega⟩ ⟨by omega, by omega⟩ ⟨by omega, by omega⟩) ?_ rfl
  refine Ev.if_eq (tgt := 35) bI_inR dX8_table_14 (by decide) (fun h14 => ?_) (fun h14 => ?_)
  · skip
    have q14 := bI_0.mp h14
    refine Ev.bipush (n := -2) (by decide) dX8_table_35 ?_
    exact Ev.ireturn dX8_table_37 rfl (rE (by unfold MP o_table; (repeat rw [Int.toNat_natCast]); rw [ifP_t (by first | exact fun z => absurd z.1 (by omega) | exact fun z => absurd z.2.1 (by omega) | exact fun z => absurd z.2.2 (by omega))]; exact ⟨rfl, hM1, hk0⟩))
  · skip
    have q14 := bI_1.mp h14
    obtain ⟨kt, rfl⟩ : ∃ n_ : Nat, t = (n_ : Int) := ⟨t.toNat, by omega⟩
    refine Ev.iload_n dX8_table_17 rfl rfl ?_
    refine Ev.i2l ⟨by omega, by omega⟩ dX8_table_18 ?_
    refine Ev.lconst 0 rfl dX8_table_19 ?_
    refine Ev.ldc2 (n := 2) (tbl_i 824 (by decide +kernel)) dX8_table_20 ?_
    refine Ev.callS_I (M2 := mX8_in) (args2 := [vL (l), vL (0), vL (2)]) dX8_table_23 okX8_in lk_X8_96 osX8_in.1 osX8_in.2 (by decide) rfl (Nat.le_of_ble_eq_true rfl) (Nat.le_of_ble_eq_true rfl) (sM_in σ1 (l) (0) (2) ⟨by omega, by omega⟩ ⟨by omega, by omega⟩ ⟨by omega, by omega⟩) ?_ rfl
    refine Ev.if_eq (tgt := 35) bI_inR dX8_table_26 (by decide) (fun h26 => ?_) (fun h26 => ?_)
    · skip
      have q26 := bI_0.mp h26
      refine Ev.bipush (n := -2) (by decide) dX8_table_35 ?_
      exact Ev.ireturn dX8_table_37 rfl (rE (by unfold MP o_table; (repeat rw [Int.toNat_natCast]); rw [ifP_t (by first | exact fun z => absurd z.1 (by omega) | exact fun z => absurd z.2.1 (by omega) | exact fun z => absurd z.2.2 (by omega))]; exact ⟨rfl, hM1, hk0⟩))
    · skip
      have q26 := bI_1.mp h26
      refine Ev.iload_n dX8_table_29 rfl rfl ?_
      refine Ev.bipush (n := 48) (by decide) dX8_table_30 ?_
      refine Ev.icmp_le (tgt := 38) ⟨by omega, by omega⟩ ⟨by decide, by decide⟩ dX8_table_32 (by decide) (fun h32 => ?_) (fun h32 => ?_)
      · skip
        refine Ev.aload_n dX8_table_38 rfl rfl ?_
        refine gf_X8_109 (x := ((sD s : Nat) : Int)) rfl dX8_table_39 ltc_272 shc_272 hu4.2.1 ?_
        refine Ev.if_le (tgt := 48) ⟨by omega, by omega⟩ dX8_table_42 (by decide) (fun h42 => ?_) (fun h42 => ?_)
        · skip
          refine Ev.iload_n dX8_table_48 rfl rfl ?_
          refine Ev.if_ge (tgt := 59) ⟨by omega, by omega⟩ dX8_table_49 (by decide) (fun h49 => ?_) (fun h49 => ?_)
          · skip
            refine Ev.aload_n dX8_table_59 rfl rfl ?_
            refine gf_X8_50 rfl dX8_table_60 ltc_272 shc_272 rfc_272_17 ?_
            refine Ev.iload_n dX8_table_63 rfl rfl ?_
            refine Ev.iload_n dX8_table_64 rfl rfl ?_
            refine Ev.iastore dX8_table_65 ltc_286 shc_286 (by decide) (by omega) (by omega) ?_
            refine Ev.mem (τ := upC σ1 286 kt n) (upi rfl rfl) ?_
            refine Ev.bipush (n := 48) (by decide) dX8_table_66 ?_
            refine Ev.iload_n dX8_table_68 rfl rfl ?_
            refine Ev.imul dX8_table_69 ?_
            refine Ev.istore (pl' := [some (vR (272)), some (vI (((kt : Nat) : Int))), some (vI (l)), some (vI (n)), some (vI ((48 * ((kt : Nat) : Int))))]) dX8_table_70 (Nat.le_of_ble_eq_true rfl) rfl ?_
            refine Ev.wk (pl' := [some (vR (272)), some (vI (((kt : Nat) : Int))), some (vI (l)), some (vI (n)), some (vI ((((48 * kt + 0) : Nat) : Int)))]) ⟨rfl, ⟨rfl, ⟨rfl, ⟨rfl, ⟨vIe (by omega), trivial⟩⟩⟩⟩⟩ ?_
            exact r_table_l s σ σ1 hM1 hk0 kt l n (by omega) ⟨by omega, by omega⟩ ⟨by omega, by omega⟩ (by omega) 48 0 (by omega) _ (fun c a b => upC_ne a) rfl (fun i _ => congrFun (upC_ne (by decide)) i) (fun k hk => absurd hk (by omega))
          · skip
            refine Ev.aload_n dX8_table_52 rfl rfl ?_
            refine Ev.bipush (n := -14) (by decide) dX8_table_53 ?_
            refine Ev.callV_I (M2 := mX8_finds) (args2 := [vI (-14)]) (rcv := 272) (q := (RX8, TX8, 34)) (ci := 8) dX8_table_55 okX8_finds lk_X8_140 ovX8_finds.1.1 ovX8_finds.1.2 ovX8_finds.2 (by decide) rfl rfl ltc_272 shc_272 rfl (Nat.le_of_ble_eq_true rfl) (Nat.le_of_ble_eq_true rfl) (sM_finds σ1 (-14) (sF s) hu8) ?_ rfl
            exact Ev.ireturn dX8_table_58 rfl (rE (by unfold MP o_table; (repeat rw [Int.toNat_natCast]); rw [ifP_f (fun z => z ⟨⟨by omega, by omega⟩, ⟨by omega, by omega⟩, by omega⟩), ifP_f (by omega), ifP_t (by omega)]; exact ⟨rfl, hM1.found, (fun c hc => (upC_ne (by omega)).trans (hk0 c hc))⟩))
        · skip
          refine Ev.bipush (n := -3) (by decide) dX8_table_45 ?_
          exact Ev.ireturn dX8_table_47 rfl (rE (by unfold MP o_table; (repeat rw [Int.toNat_natCast]); rw [ifP_f (fun z => z ⟨⟨by omega, by omega⟩, ⟨by omega, by omega⟩, by omega⟩), ifP_t (by omega)]; exact ⟨rfl, hM1, hk0⟩))
      · skip
        refine Ev.bipush (n := -2) (by decide) dX8_table_35 ?_
        exact Ev.ireturn dX8_table_37 rfl (rE (by unfold MP o_table; (repeat rw [Int.toNat_natCast]); rw [ifP_t (by first | exact fun z => absurd z.1 (by omega) | exact fun z => absurd z.2.1 (by omega) | exact fun z => absurd z.2.2 (by omega))]; exact ⟨rfl, hM1, hk0⟩))

set_option maxRecDepth 100000 in
set_option maxHeartbeats 4000000 in
theorem r_cell {g : GC} (s : SS) (σ : Sg) (hM : MI s σ) (t : Int) (h_t : inR t) (i : Int) (h_i : inR i) (v : Int) (h_v : inR v) : Ev g mX8_cell 0 [some (vR (272)), some (vI (t)), some (vI (i)), some (vI (v))] [] (M0 (σ)) 0 0 (retE (MP σ (o_cell s t i v))) := by
  refine Ev.aload_n dX8_cell_0 rfl rfl ?_
  refine Ev.iconst dX8_cell_1 ?_
  refine pf_X8_90 rfl dX8_cell_2 ltc_272 shc_272 ?_
  obtain ⟨σ1, hs1⟩ : ∃ ρ : Sg, ρ = upC σ 272 0 0 := ⟨_, rfl⟩
  refine Ev.mem (τ := σ1) hs1.symm ?_
  have hM1 : MI s σ1 := by rw [hs1]; exact hM.th
  have hk0 : ∀ c, c < 272 → σ1 c = σ c := fun c hc => by rw [hs1]; exact upC_ne (by omega)
  obtain ⟨hu1, hu2, hu3, hu4, hu5, hu6, hu7, hu8⟩ := id hM1
  have hU := hu1.1
  have hN := hu2.1
  have hD := hu4.1
  have hMl := hu7.1
  have hQ := hu5.1
  refine Ev.iload_n dX8_cell_5 rfl rfl ?_
  refine Ev.i2l ⟨by omega, by omega⟩ dX8_cell_6 ?_
  refine Ev.lconst 0 rfl dX8_cell_7 ?_
  refine Ev.ldc2 (n := 5) (tbl_i 823 (by decide +kernel)) dX8_cell_8 ?_
  refine Ev.callS_I (M2 := mX8_in) (args2 := [vL (t), vL (0), vL (5)]) dX8_cell_11 okX8_in lk_X8_96 osX8_in.1 osX8_in.2 (by decide) rfl (Nat.le_of_ble_eq_true rfl) (Nat.le_of_ble_eq_true rfl) (sM_in σ1 (t) (0) (5) ⟨by omega, by omega⟩ ⟨by omega, by omega⟩ ⟨by omega, by omega⟩) ?_ rfl
  refine Ev.if_eq (tgt := 29) bI_inR dX8_cell_14 (by decide) (fun h14 => ?_) (fun h14 => ?_)
  · skip
    have q14 := bI_0.mp h14
    refine Ev.bipush (n := -2) (by decide) dX8_cell_29 ?_
    exact Ev.ireturn dX8_cell_31 rfl (rE (by unfold MP o_cell; (repeat rw [Int.toNat_natCast]); rw [ifP_t (by first | exact fun z => absurd z.1 (by omega) | exact fun z => absurd z.2 (by omega))]; exact ⟨rfl, hM1, hk0⟩))
  · skip
    have q14 := bI_1.mp h14
    obtain ⟨kt, rfl⟩ : ∃ n_ : Nat, t = (n_ : Int) := ⟨t.toNat, by omega⟩
    refine Ev.iload_n dX8_cell_17 rfl rfl ?_
    refine Ev.i2l ⟨by omega, by omega⟩ dX8_cell_18 ?_
    refine Ev.lconst 0 rfl dX8_cell_19 ?_
    refine Ev.ldc2 (n := 15) (tbl_i 796 (by decide +kernel)) dX8_cell_20 ?_
    refine Ev.callS_I (M2 := mX8_in) (args2 := [vL (v), vL (0), vL (15)]) dX8_cell_23 okX8_in lk_X8_96 osX8_in.1 osX8_in.2 (by decide) rfl (Nat.le_of_ble_eq_true rfl) (Nat.le_of_ble_eq_true rfl) (sM_in σ1 (v) (0) (15) ⟨by omega, by omega⟩ ⟨by omega, by omega⟩ ⟨by omega, by omega⟩) ?_ rfl
    refine Ev.if_ne (tgt := 32) bI_inR dX8_cell_26 (by decide) (fun h26 => ?_) (fun h26 => ?_)
    · skip
      have q26 := bI_1.mp h26
      obtain ⟨kv, rfl⟩ : ∃ n_ : Nat, v = (n_ : Int) := ⟨v.toNat, by omega⟩
      have hzb := (hu3 kt (by omega)).2.1
      refine Ev.aload_n dX8_cell_32 rfl rfl ?_
      refine gf_X8_109 (x := ((sD s : Nat) : Int)) rfl dX8_cell_33 ltc_272 shc_272 hu4.2.1 ?_
      refine Ev.if_le (tgt := 42) ⟨by omega, by omega⟩ dX8_cell_36 (by decide) (fun h36 => ?_) (fun h36 => ?_)
      · skip
        refine Ev.aload_n dX8_cell_42 rfl rfl ?_
        refine gf_X8_50 rfl dX8_cell_43 ltc_272 shc_272 rfc_272_17 ?_
        refine Ev.iload_n dX8_cell_46 rfl rfl ?_
        refine Ev.iaload (v := (sB s).1 kt) dX8_cell_47 ltc_286 shc_286 (by decide) (by omega) (by omega) (ldx rfl (hu3 kt (by omega)).1) ?_
        refine Ev.if_ge (tgt := 58) ⟨by omega, by omega⟩ dX8_cell_48 (by decide) (fun h48 => ?_) (fun h48 => ?_)
        · skip
          refine Ev.iload_n dX8_cell_58 rfl rfl ?_
          refine Ev.i2l ⟨by omega, by omega⟩ dX8_cell_59 ?_
          refine Ev.lconst 0 rfl dX8_cell_60 ?_
          refine Ev.aload_n dX8_cell_61 rfl rfl ?_
          refine gf_X8_50 rfl dX8_cell_62 ltc_272 shc_272 rfc_272_17 ?_
          refine Ev.iload_n dX8_cell_65 rfl rfl ?_
          refine Ev.iaload (v := (sB s).1 kt) dX8_cell_66 ltc_286 shc_286 (by decide) (by omega) (by omega) (ldx rfl (hu3 kt (by omega)).1) ?_
          refine Ev.iconst dX8_cell_67 ?_
          refine Ev.isub dX8_cell_68 ?_
          refine Ev.i2l ⟨by omega, by omega⟩ dX8_cell_69 ?_
          refine Ev.callS_I (M2 := mX8_in) (args2 := [vL (i), vL (0), vL (((sB s).1 kt - 1))]) dX8_cell_70 okX8_in lk_X8_96 osX8_in.1 osX8_in.2 (by decide) rfl (Nat.le_of_ble_eq_true rfl) (Nat.le_of_ble_eq_true rfl) (sM_in σ1 (i) (0) (((sB s).1 kt - 1)) ⟨by omega, by omega⟩ ⟨by omega, by omega⟩ ⟨by omega, by omega⟩) ?_ rfl
          refine Ev.if_ne (tgt := 83) bI_inR dX8_cell_73 (by decide) (fun h73 => ?_) (fun h73 => ?_)
          · skip
            have q73 := bI_1.mp h73
            obtain ⟨ki, rfl⟩ : ∃ n_ : Nat, i = (n_ : Int) := ⟨i.toNat, by omega⟩
            refine Ev.aload_n dX8_cell_83 rfl rfl ?_
            refine gf_X8_53 rfl dX8_cell_84 ltc_272 shc_272 rfc_272_18 ?_
            refine Ev.bipush (n := 48) (by decide) dX8_cell_87 ?_
            refine Ev.iload_n dX8_cell_89 rfl rfl ?_
            refine Ev.imul dX8_cell_90 ?_
            refine Ev.iload_n dX8_cell_91 rfl rfl ?_
            refine Ev.iadd dX8_cell_92 ?_
            refine Ev.iload_n dX8_cell_93 rfl rfl ?_
            refine Ev.iastore dX8_cell_94 ltc_287 shc_287 (by decide) (by omega) (by omega) ?_
            refine Ev.mem (τ := upC σ1 287 (48 * kt + ki) (kv : Int)) (upi (by omega) rfl) ?_
            refine Ev.aload_n dX8_cell_95 rfl rfl ?_
            refine Ev.callV_G (M2 := mX8_asTold) (args2 := []) (rcv := 272) (q := (RX8, TX8, 34)) (ci := 8) dX8_cell_96 okX8_asTold lk_X8_116 ovX8_asTold.1.1 ovX8_asTold.1.2 ovX8_asTold.2 (by decide) rfl rfl ltc_272 shc_272 rfl (Nat.le_of_ble_eq_true rfl) (Nat.le_of_ble_eq_true rfl) (sM_asTold (upC σ1 287 (48 * kt + ki) (kv : Int)) (sU s) hU ((congrFun (upC_ne (by decide)) 1).trans hu1.2.1) (sG s) (fun y hy => ((congrFun (upC_ne (by decide)) y).trans (hu1.2.2.1 y hy).1))) (fun v_ m_ hp_ => ?_) rfl
            obtain ⟨τ, rfl, rfl, hF, hG⟩ := hp_
            show Ev g mX8_cell 99 [some (vR (272)), some (vI (((kt : Nat) : Int))), some (vI (((ki : Nat) : Int))), some (vI (((kv : Nat) : Int)))] [] (M0 (τ)) 0 0 _
            refine Ev.iconst dX8_cell_99 ?_
            exact Ev.ireturn dX8_cell_100 rfl (rE (by unfold MP o_cell; (repeat rw [Int.toNat_natCast]); rw [ifP_f (fun z => z ⟨⟨by omega, by omega⟩, ⟨by omega, by omega⟩⟩), ifP_f (by omega), ifP_f (by omega), ifP_f (by omega)]; exact ⟨rfl, ⟨⟨hU, ((congrFun (hF 272 (by decide)) 1).trans ((congrFun (upC_ne (by decide)) 1).trans hu1.2.1)), (hu1.2.2.1.cg (fun x _ => congrFun ((hF 273 (by decide)).trans ((upC_ne (by decide)).trans rfl)) x)), (fun x hx => ⟨hG x hx, (hu1.2.2.1 x hx).2⟩)⟩, (hu2.cg ((congrFun (hF 272 (by decide)) 8).trans ((congrFun (upC_ne (by decide)) 8).trans rfl)) (fun c q1 q2 => ((hF c (by simp; omega)).trans ((upC_ne (Nat.ne_of_lt (Nat.lt_of_lt_of_le (Nat.lt_succ_of_le q2) (show 286 ≤ 287 by decide)))).trans rfl)))), (tvm_set hu3 ((hF 286 (by decide)).trans (upC_ne (by decide))) (fun i hi => (congrFun (hF 287 (by decide)) i).trans (upC_self (by omega))) (fun j hj => by rw [congrFun (hF 287 (by decide)) _]; by_cases e : j = ki; (rw [e, upC_at, updF_at]; exact ⟨rfl, by omega⟩); (rw [upC_self (by omega), updF_ne e]; exact (hu3 kt (by omega)).2.2 j hj))), (hu4.cg ((congrFun (hF 272 (by decide)) 4).trans ((congrFun (upC_ne (by decide)) 4).trans rfl)) (fun c q1 q2 => ((hF c (by simp; omega)).trans ((upC_ne (Nat.ne_of_lt (Nat.lt_of_lt_of_le (Nat.lt_succ_of_le q2) (show 278 ≤ 287 by decide)))).trans rfl)))), (hu5.cg ((congrFun (hF 272 (by decide)) 25).trans ((congrFun (upC_ne (by decide)) 25).trans rfl)) ((hF 292 (by decide)).trans ((upC_ne (by decide)).trans rfl))), (hu6.cg ((congrFun (hF 272 (by decide)) 27).trans ((congrFun (upC_ne (by decide)) 27).trans rfl)) ((hF 293 (by decide)).trans ((upC_ne (by decide)).trans rfl))), (hu7.cg ((congrFun (hF 272 (by decide)) 19).trans ((congrFun (upC_ne (by decide)) 19).trans rfl)) (fun c q1 q2 => ((hF c (by simp; omega)).trans ((upC_ne (Nat.ne_of_gt (Nat.lt_of_lt_of_le (show 287 < 288 by decide) q1))).trans rfl)))), ((congrFun (hF 272 (by decide)) 24).trans ((congrFun (upC_ne (by decide)) 24).trans hu8))⟩, (fun c q2 => (hF c (by simp; omega)).trans (((upC_ne (Nat.ne_of_lt (Nat.lt_of_lt_of_le q2 (show 272 ≤ 287 by decide)))).trans (hk0 c q2))))⟩))
          · skip
            have q73 := bI_0.mp h73
            refine Ev.aload_n dX8_cell_76 rfl rfl ?_
            refine Ev.bipush (n := -12) (by decide) dX8_cell_77 ?_
            refine Ev.callV_I (M2 := mX8_finds) (args2 := [vI (-12)]) (rcv := 272) (q := (RX8, TX8, 34)) (ci := 8) dX8_cell_79 okX8_finds lk_X8_140 ovX8_finds.1.1 ovX8_finds.1.2 ovX8_finds.2 (by decide) rfl rfl ltc_272 shc_272 rfl (Nat.le_of_ble_eq_true rfl) (Nat.le_of_ble_eq_true rfl) (sM_finds σ1 (-12) (sF s) hu8) ?_ rfl
            exact Ev.ireturn dX8_cell_82 rfl (rE (by unfold MP o_cell; (repeat rw [Int.toNat_natCast]); rw [ifP_f (fun z => z ⟨⟨by omega, by omega⟩, ⟨by omega, by omega⟩⟩), ifP_f (by omega), ifP_f (by omega), ifP_t (by omega)]; exact ⟨rfl, hM1.found, (fun c hc => (upC_ne (by omega)).trans (hk0 c hc))⟩))
        · skip
          refine Ev.aload_n dX8_cell_51 rfl rfl ?_
          refine Ev.bipush (n := -11) (by decide) dX8_cell_52 ?_
          refine Ev.callV_I (M2 := mX8_finds) (args2 := [vI (-11)]) (rcv := 272) (q := (RX8, TX8, 34)) (ci := 8) dX8_cell_54 okX8_finds lk_X8_140 ovX8_finds.1.1 ovX8_finds.1.2 ovX8_finds.2 (by decide) rfl rfl ltc_272 shc_272 rfl (Nat.le_of_ble_eq_true rfl) (Nat.le_of_ble_eq_true rfl) (sM_finds σ1 (-11) (sF s) hu8) ?_ rfl
          exact Ev.ireturn dX8_cell_57 rfl (rE (by unfold MP o_cell; (repeat rw [Int.toNat_natCast]); rw [ifP_f (fun z => z ⟨⟨by omega, by omega⟩, ⟨by omega, by omega⟩⟩), ifP_f (by omega), ifP_t (by omega)]; exact ⟨rfl, hM1.found, (fun c hc => (upC_ne (by omega)).trans (hk0 c hc))⟩))
      · skip
        refine Ev.bipush (n := -3) (by decide) dX8_cell_39 ?_
        exact Ev.ireturn dX8_cell_41 rfl (rE (by unfold MP o_cell; (repeat rw [Int.toNat_natCast]); rw [ifP_f (fun z => z ⟨⟨by omega, by omega⟩, ⟨by omega, by omega⟩⟩), ifP_t (by omega)]; exact ⟨rfl, hM1, hk0⟩))
    · skip
      have q26 := bI_0.mp h26
      refine Ev.bipush (n := -2) (by decide) dX8_cell_29 ?_
      exact Ev.ireturn dX8_cell_31 rfl (rE (by unfold MP o_cell; (repeat rw [Int.toNat_natCast]); rw [ifP_t (by first | exact fun z => absurd z.1 (by omega) | exact fun z => absurd z.2 (by omega))]; exact ⟨rfl, hM1, hk0⟩))

set_option maxRecDepth 100000 in
set_option maxHeartbeats 4000000 in
theorem r_copy_b {g : GC} (s : SS) (σ σ1 : Sg) (hM1 : MI s σ1) (hk0 : ∀ c, c < 272 → σ1 c = σ c) (kt ki ku kj kn : Nat) (hkt : kt < 6) (hku : ku < 6) (hki : (ki : Int) + kn ≤ (sB s).1 kt) (hkj : (kj : Int) + kn ≤ (sB s).1 ku) (hD0 : ¬ 0 < sD s) : ∀ j K : Nat, K + j = kn → ∀ ρ : Sg, (∀ c, c ≠ 287 → c ≠ 296 → ρ c = σ1 c) → (∀ k, k < kn → ρ 296 k = ((sB s).2 kt (ki + k) : Int)) → (∀ i, ¬ (48 * ku + kj ≤ i ∧ i < 48 * ku + kj + kn) → ρ 287 i = σ1 287 i) → (∀ k, k < K → ρ 287 (48 * ku + kj + k) = ((sB s).2 kt (ki + k) : Int)) → Ev g mX8_copy 163 [some (vR (272)), some (vI (((kt : Nat) : Int))), some (vI (((ki : Nat) : Int))), some (vI (((ku : Nat) : Int))), some (vI (((kj : Nat) : Int))), some (vI (((kn : Nat) : Int))), some (vI (((K : Nat) : Int)))] [] (M0 (ρ)) 0 0 (retE (MP σ (o_copy s (kt : Int) (ki : Int) (ku : Int) (kj : Int) (kn : Int)))) := by
  intro j
  induction j with
  | zero =>
    intro K hij ρ hLe h6 ho hz
    obtain ⟨hu1, hu2, hu3, hu4, hu5, hu6, hu7, hu8⟩ := id hM1
    have hU := hu1.1
    have hN := hu2.1
    have hD := hu4.1
    have hMl := hu7.1
    have hQ := hu5.1
    have hzb := (hu3 kt (by omega)).2.1
    have hzc := (hu3 ku (by omega)).2.1
    refine Ev.iload dX8_copy_163 rfl ?_
    refine Ev.iload dX8_copy_165 rfl ?_
    refine Ev.icmp_ge (tgt := 198) ⟨by omega, by omega⟩ ⟨by omega, by omega⟩ dX8_copy_167 (by decide) (fun h167 => ?_) (fun h167 => ?_)
    · skip
      refine Ev.aload_n dX8_copy_198 rfl rfl ?_
      refine Ev.callV_G (M2 := mX8_asTold) (args2 := []) (rcv := 272) (q := (RX8, TX8, 34)) (ci := 8) dX8_copy_199 okX8_asTold lk_X8_116 ovX8_asTold.1.1 ovX8_asTold.1.2 ovX8_asTold.2 (by decide) rfl rfl ltc_272 shc_272 rfl (Nat.le_of_ble_eq_true rfl) (Nat.le_of_ble_eq_true rfl) (sM_asTold ρ (sU s) hU ((congrFun (hLe 272 (by decide) (by decide)) 1).trans hu1.2.1) (sG s) (fun y hy => (congrFun (hLe 273 (by decide) (by decide)) y).trans (hu1.2.2.1 y hy).1)) (fun v_ m_ hp_ => ?_) rfl
      obtain ⟨τ, rfl, rfl, hF, hG⟩ := hp_
      show Ev g mX8_copy 202 [some (vR (272)), some (vI (((kt : Nat) : Int))), some (vI (((ki : Nat) : Int))), some (vI (((ku : Nat) : Int))), some (vI (((kj : Nat) : Int))), some (vI (((kn : Nat) : Int))), some (vI (((K : Nat) : Int)))] [] (M0 (τ)) 0 0 _
      refine Ev.iload dX8_copy_202 rfl ?_
      exact Ev.ireturn dX8_copy_204 rfl (rE (by unfold MP o_copy; (repeat rw [Int.toNat_natCast]); rw [ifP_f (fun z => z ⟨⟨by omega, by omega⟩, ⟨by omega, by omega⟩, by omega⟩), ifP_f (by omega), ifP_f (by omega), ifP_f (by omega)]; exact ⟨rfl, ⟨⟨hU, ((congrFun ((hF 272 (by decide)).trans (hLe 272 (by decide) (by decide))) 1).trans hu1.2.1), (hu1.2.2.1.cg fun x _ => congrFun ((hF 273 (by decide)).trans (hLe 273 (by decide) (by decide))) x), (fun x hx => ⟨hG x hx, (hu1.2.2.1 x hx).2⟩)⟩, (hu2.cg ((congrFun ((hF 272 (by decide)).trans (hLe 272 (by decide) (by decide))) 8).trans rfl) (fun c q1 q2 => ((hF c (by simp; omega)).trans (hLe c (by omega) (by omega))))), (tvm_set hu3 ((hF 286 (by decide)).trans (hLe 286 (by decide) (by decide))) (fun i hi => (congrFun (hF 287 (by decide)) i).trans (ho i (by omega))) (fun j hj => by rw [congrFun (hF 287 (by decide)) _]; unfold cpT; by_cases e : kj ≤ j ∧ j < kj + kn; (rw [if_pos e, show 48 * ku + j = 48 * ku + kj + (j - kj) by omega]; exact ⟨hz (j - kj) (by omega), ((hu3 kt (by omega)).2.2 _ (by omega)).2⟩); (rw [if_neg e, ho _ (by omega)]; exact (hu3 ku (by omega)).2.2 j hj))), (hu4.cg ((congrFun ((hF 272 (by decide)).trans (hLe 272 (by decide) (by decide))) 4).trans rfl) (fun c q1 q2 => ((hF c (by simp; omega)).trans (hLe c (by omega) (by omega))))), (hu5.cg ((congrFun ((hF 272 (by decide)).trans (hLe 272 (by decide) (by decide))) 25).trans rfl) ((hF 292 (by decide)).trans (hLe 292 (by decide) (by decide)))), (hu6.cg ((congrFun ((hF 272 (by decide)).trans (hLe 272 (by decide) (by decide))) 27).trans rfl) ((hF 293 (by decide)).trans (hLe 293 (by decide) (by decide)))), (hu7.cg ((congrFun ((hF 272 (by decide)).trans (hLe 272 (by decide) (by decide))) 19).trans rfl) (fun c q1 q2 => ((hF c (by simp; omega)).trans (hLe c (by omega) (by omega))))), ((congrFun ((hF 272 (by decide)).trans (hLe 272 (by decide) (by decide))) 24).trans hu8)⟩, (fun c q2 => (hF c (by simp; omega)).trans ((hLe c (by omega) (by omega)).trans (hk0 c q2)))⟩))
    · exact absurd h167 (by omega)
  | succ j ih =>
    intro K hij ρ hLe h6 ho hz
    obtain ⟨hu1, hu2, hu3, hu4, hu5, hu6, hu7, hu8⟩ := id hM1
    have hU := hu1.1
    have hN := hu2.1
    have hD := hu4.1
    have hMl := hu7.1
    have hQ := hu5.1
    have hzb := (hu3 kt (by omega)).2.1
    have hzc := (hu3 ku (by omega)).2.1
    refine Ev.iload dX8_copy_163 rfl ?_
    refine Ev.iload dX8_copy_165 rfl ?_
    refine Ev.icmp_ge (tgt := 198) ⟨by omega, by omega⟩ ⟨by omega, by omega⟩ dX8_copy_167 (by decide) (fun h167 => ?_) (fun h167 => ?_)
    · exact absurd h167 (by omega)
    · skip
      refine Ev.aload_n dX8_copy_170 rfl rfl ?_
      refine gf_X8_53 rfl dX8_copy_171 ltc_272 shc_272 rfc_272_18 ?_
      refine Ev.bipush (n := 48) (by decide) dX8_copy_174 ?_
      refine Ev.iload_n dX8_copy_176 rfl rfl ?_
      refine Ev.imul dX8_copy_177 ?_
      refine Ev.iload dX8_copy_178 rfl ?_
      refine Ev.iadd dX8_copy_180 ?_
      refine Ev.iload dX8_copy_181 rfl ?_
      refine Ev.iadd dX8_copy_183 ?_
      refine Ev.aload_n dX8_copy_184 rfl rfl ?_
      refine gf_X8_84 rfl dX8_copy_185 ltc_272 shc_272 rfc_272_32 ?_
      refine Ev.iload dX8_copy_188 rfl ?_
      refine Ev.iaload (v := (((sB s).2 kt (ki + K) : Nat) : Int)) dX8_copy_190 ltc_296 shc_296 (by decide) (by omega) (by omega) (ldx rfl (h6 K (by omega))) ?_
      refine Ev.iastore dX8_copy_191 ltc_287 shc_287 (by decide) (by omega) (by omega) ?_
      refine Ev.iinc (pl' := [some (vR (272)), some (vI (((kt : Nat) : Int))), some (vI (((ki : Nat) : Int))), some (vI (((ku : Nat) : Int))), some (vI (((kj : Nat) : Int))), some (vI (((kn : Nat) : Int))), some (vI (((K : Nat) : Int) + 1))]) dX8_copy_192 rfl (Nat.le_of_ble_eq_true rfl) rfl ?_
      refine Ev.goto (tgt := 163) dX8_copy_195 (by decide) ?_
      refine Ev.mem (τ := upC ρ 287 (48 * ku + kj + K) ((sB s).2 kt (ki + K) : Int)) (upi (by omega) rfl) ?_
      refine Ev.wk (pl' := [some (vR (272)), some (vI (((kt : Nat) : Int))), some (vI (((ki : Nat) : Int))), some (vI (((ku : Nat) : Int))), some (vI (((kj : Nat) : Int))), some (vI (((kn : Nat) : Int))), some (vI ((((K + 1) : Nat) : Int)))]) ⟨rfl, ⟨rfl, ⟨rfl, ⟨rfl, ⟨rfl, ⟨rfl, ⟨vIe (by omega), trivial⟩⟩⟩⟩⟩⟩⟩ ?_
      exact ih (K + 1) (by omega) _ (fun c a b => (upC_ne a).trans (hLe c a b)) (fun k hk => (congrFun (upC_ne (by decide)) k).trans (h6 k hk)) (fun i hi => (upC_self (by omega)).trans (ho i hi)) (fun k hk => (Nat.lt_or_ge k K).elim (fun e => (upC_self (by omega)).trans (hz k e)) (fun e => by rw [show k = K by omega]; exact upC_at))

set_option maxRecDepth 100000 in
set_option maxHeartbeats 4000000 in
theorem r_copy_a {g : GC} (s : SS) (σ σ1 : Sg) (hM1 : MI s σ1) (hk0 : ∀ c, c < 272 → σ1 c = σ c) (kt ki ku kj kn : Nat) (hkt : kt < 6) (hku : ku < 6) (hki : (ki : Int) + kn ≤ (sB s).1 kt) (hkj : (kj : Int) + kn ≤ (sB s).1 ku) (hD0 : ¬ 0 < sD s) : ∀ j K : Nat, K + j = kn → ∀ ρ : Sg, (∀ c, c ≠ 296 → ρ c = σ1 c) → (∀ k, k < K → ρ 296 k = ((sB s).2 kt (ki + k) : Int)) → Ev g mX8_copy 126 [some (vR (272)), some (vI (((kt : Nat) : Int))), some (vI (((ki : Nat) : Int))), some (vI (((ku : Nat) : Int))), some (vI (((kj : Nat) : Int))), some (vI (((kn : Nat) : Int))), some (vI (((K : Nat) : Int)))] [] (M0 (ρ)) 0 0 (retE (MP σ (o_copy s (kt : Int) (ki : Int) (ku : Int) (kj : Int) (kn : Int)))) := by
  intro j
  induction j with
  | zero =>
    intro K hij ρ hLe h6
    obtain ⟨hu1, hu2, hu3, hu4, hu5, hu6, hu7, hu8⟩ := id hM1
    have hU := hu1.1
    have hN := hu2.1
    have hD := hu4.1
    have hMl := hu7.1
    have hQ := hu5.1
    have hzb := (hu3 kt (by omega)).2.1
    have hzc := (hu3 ku (by omega)).2.1
    refine Ev.iload dX8_copy_126 rfl ?_
    refine Ev.iload dX8_copy_128 rfl ?_
    refine Ev.icmp_ge (tgt := 160) ⟨by omega, by omega⟩ ⟨by omega, by omega⟩ dX8_copy_130 (by decide) (fun h130 => ?_) (fun h130 => ?_)
    · skip
      refine Ev.iconst dX8_copy_160 ?_
      refine Ev.istore (pl' := [some (vR (272)), some (vI (((kt : Nat) : Int))), some (vI (((ki : Nat) : Int))), some (vI (((ku : Nat) : Int))), some (vI (((kj : Nat) : Int))), some (vI (((kn : Nat) : Int))), some (vI (0))]) dX8_copy_161 (Nat.le_of_ble_eq_true rfl) rfl ?_
      refine Ev.wk (pl' := [some (vR (272)), some (vI (((kt : Nat) : Int))), some (vI (((ki : Nat) : Int))), some (vI (((ku : Nat) : Int))), some (vI (((kj : Nat) : Int))), some (vI (((kn : Nat) : Int))), some (vI (((0 : Nat) : Int)))]) ⟨rfl, ⟨rfl, ⟨rfl, ⟨rfl, ⟨rfl, ⟨rfl, ⟨vIe rfl, trivial⟩⟩⟩⟩⟩⟩⟩ ?_
      exact r_copy_b s σ σ1 hM1 hk0 kt ki ku kj kn hkt hku hki hkj hD0 kn 0 (by omega) ρ (fun c a b => hLe c b) (fun k hk => h6 k (by omega)) (fun i _ => congrFun (hLe 287 (by decide)) i) (fun k hk => absurd hk (by omega))
    · exact absurd h130 (by omega)
  | succ j ih =>
    intro K hij ρ hLe h6
    obtain ⟨hu1, hu2, hu3, hu4, hu5, hu6, hu7, hu8⟩ := id hM1
    have hU := hu1.1
    have hN := hu2.1
    have hD := hu4.1
    have hMl := hu7.1
    have hQ := hu5.1
    have hzb := (hu3 kt (by omega)).2.1
    have hzc := (hu3 ku (by omega)).2.1
    refine Ev.iload dX8_copy_126 rfl ?_
    refine Ev.iload dX8_copy_128 rfl ?_
    refine Ev.icmp_ge (tgt := 160) ⟨by omega, by omega⟩ ⟨by omega, by omega⟩ dX8_copy_130 (by decide) (fun h130 => ?_) (fun h130 => ?_)
    · exact absurd h130 (by omega)
    · skip
      refine Ev.aload_n dX8_copy_133 rfl rfl ?_
      refine gf_X8_84 rfl dX8_copy_134 ltc_272 shc_272 rfc_272_32 ?_
      refine Ev.iload dX8_copy_137 rfl ?_
      refine Ev.aload_n dX8_copy_139 rfl rfl ?_
      refine gf_X8_53 rfl dX8_copy_140 ltc_272 shc_272 rfc_272_18 ?_
      refine Ev.bipush (n := 48) (by decide) dX8_copy_143 ?_
      refine Ev.iload_n dX8_copy_145 rfl rfl ?_
      refine Ev.imul dX8_copy_146 ?_
      refine Ev.iload_n dX8_copy_147 rfl rfl ?_
      refine Ev.iadd dX8_copy_148 ?_
      refine Ev.iload dX8_copy_149 rfl ?_
      refine Ev.iadd dX8_copy_151 ?_
      refine Ev.iaload (v := (((sB s).2 kt (ki + K) : Nat) : Int)) dX8_copy_152 ltc_287 shc_287 (by decide) (by omega) (by omega) (ldx (n := 48 * kt + (ki + K)) (by omega) ((congrFun (hLe 287 (by decide)) _).trans ((hu3 kt (by omega)).2.2 (ki + K) (by omega)).1)) ?_
      refine Ev.iastore dX8_copy_153 ltc_296 shc_296 (by decide) (by omega) (by omega) ?_
      refine Ev.iinc (pl' := [some (vR (272)), some (vI (((kt : Nat) : Int))), some (vI (((ki : Nat) : Int))), some (vI (((ku : Nat) : Int))), some (vI (((kj : Nat) : Int))), some (vI (((kn : Nat) : Int))), some (vI (((K : Nat) : Int) + 1))]) dX8_copy_154 rfl (Nat.le_of_ble_eq_true rfl) rfl ?_
      refine Ev.goto (tgt := 126) dX8_copy_157 (by decide) ?_
      refine Ev.mem (τ := upC ρ 296 K ((sB s).2 kt (ki + K) : Int)) (upi rfl rfl) ?_
      refine Ev.wk (pl' := [some (vR (272)), some (vI (((kt : Nat) : Int))), some (vI (((ki : Nat) : Int))), some (vI (((ku : Nat) : Int))), some (vI (((kj : Nat) : Int))), some (vI (((kn : Nat) : Int))), some (vI ((((K + 1) : Nat) : Int)))]) ⟨rfl, ⟨rfl, ⟨rfl, ⟨rfl, ⟨rfl, ⟨rfl, ⟨vIe (by omega), trivial⟩⟩⟩⟩⟩⟩⟩ ?_
      exact ih (K + 1) (by omega) _ (fun c a => (upC_ne a).trans (hLe c a)) (fun k hk => (Nat.lt_or_ge k K).elim (fun e => (upC_self (by omega)).trans (h6 k e)) (fun e => by rw [show k = K by omega]; exact upC_at))

set_option maxRecDepth 100000 in
set_option maxHeartbeats 4000000 in
theorem r_copy {g : GC} (s : SS) (σ : Sg) (hM : MI s σ) (t : Int) (h_t : inR t) (i : Int) (h_i : inR i) (u : Int) (h_u : inR u) (j : Int) (h_j : inR j) (n : Int) (h_n : inR n) : Ev g mX8_copy 0 [some (vR (272)), some (vI (t)), some (vI (i)), some (vI (u)), some (vI (j)), some (vI (n)), none] [] (M0 (σ)) 0 0 (retE (MP σ (o_copy s t i u j n))) := by
  refine Ev.aload_n dX8_copy_0 rfl rfl ?_
  refine Ev.iconst dX8_copy_1 ?_
  refine pf_X8_90 rfl dX8_copy_2 ltc_272 shc_272 ?_
  obtain ⟨σ1, hs1⟩ : ∃ ρ : Sg, ρ = upC σ 272 0 0 := ⟨_, rfl⟩
  refine Ev.mem (τ := σ1) hs1.symm ?_
  have hM1 : MI s σ1 := by rw [hs1]; exact hM.th
  have hk0 : ∀ c, c < 272 → σ1 c = σ c := fun c hc => by rw [hs1]; exact upC_ne (by omega)
  obtain ⟨hu1, hu2, hu3, hu4, hu5, hu6, hu7, hu8⟩ := id hM1
  have hU := hu1.1
  have hN := hu2.1
  have hD := hu4.1
  have hMl := hu7.1
  have hQ := hu5.1
  refine Ev.iload_n dX8_copy_5 rfl rfl ?_
  refine Ev.i2l ⟨by omega, by omega⟩ dX8_copy_6 ?_
  refine Ev.lconst 0 rfl dX8_copy_7 ?_
  refine Ev.ldc2 (n := 5) (tbl_i 823 (by decide +kernel)) dX8_copy_8 ?_
  refine Ev.callS_I (M2 := mX8_in) (args2 := [vL (t), vL (0), vL (5)]) dX8_copy_11 okX8_in lk_X8_96 osX8_in.1 osX8_in.2 (by decide) rfl (Nat.le_of_ble_eq_true rfl) (Nat.le_of_ble_eq_true rfl) (sM_in σ1 (t) (0) (5) ⟨by omega, by omega⟩ ⟨by omega, by omega⟩ ⟨by omega, by omega⟩) ?_ rfl
  refine Ev.if_eq (tgt := 34) bI_inR dX8_copy_14 (by decide) (fun h14 => ?_) (fun h14 => ?_)
  · skip
    have q14 := bI_0.mp h14
    refine Ev.bipush (n := -2) (by decide) dX8_copy_34 ?_
    exact Ev.ireturn dX8_copy_36 rfl (rE (by unfold MP o_copy; (repeat rw [Int.toNat_natCast]); rw [ifP_t (by first | exact fun z => absurd z.1 (by omega) | exact fun z => absurd z.2.1 (by omega) | exact fun z => absurd z.2.2 (by omega))]; exact ⟨rfl, hM1, hk0⟩))
  · skip
    have q14 := bI_1.mp h14
    obtain ⟨kt, rfl⟩ : ∃ n_ : Nat, t = (n_ : Int) := ⟨t.toNat, by omega⟩
    refine Ev.iload_n dX8_copy_17 rfl rfl ?_
    refine Ev.i2l ⟨by omega, by omega⟩ dX8_copy_18 ?_
    refine Ev.lconst 0 rfl dX8_copy_19 ?_
    refine Ev.ldc2 (n := 5) (tbl_i 823 (by decide +kernel)) dX8_copy_20 ?_
    refine Ev.callS_I (M2 := mX8_in) (args2 := [vL (u), vL (0), vL (5)]) dX8_copy_23 okX8_in lk_X8_96 osX8_in.1 osX8_in.2 (by decide) rfl (Nat.le_of_ble_eq_true rfl) (Nat.le_of_ble_eq_true rfl) (sM_in σ1 (u) (0) (5) ⟨by omega, by omega⟩ ⟨by omega, by omega⟩ ⟨by omega, by omega⟩) ?_ rfl
    refine Ev.if_eq (tgt := 34) bI_inR dX8_copy_26 (by decide) (fun h26 => ?_) (fun h26 => ?_)
    · skip
      have q26 := bI_0.mp h26
      refine Ev.bipush (n := -2) (by decide) dX8_copy_34 ?_
      exact Ev.ireturn dX8_copy_36 rfl (rE (by unfold MP o_copy; (repeat rw [Int.toNat_natCast]); rw [ifP_t (by first | exact fun z => absurd z.1 (by omega) | exact fun z => absurd z.2.1 (by omega) | exact fun z => absurd z.2.2 (by omega))]; exact ⟨rfl, hM1, hk0⟩))
    · skip
      have q26 := bI_1.mp h26
      obtain ⟨ku, rfl⟩ : ∃ n_ : Nat, u = (n_ : Int) := ⟨u.toNat, by omega⟩
      refine Ev.iload dX8_copy_29 rfl ?_
      refine Ev.if_ge (tgt := 37) ⟨by omega, by omega⟩ dX8_copy_31 (by decide) (fun h31 => ?_) (fun h31 => ?_)
      · skip
        obtain ⟨kn, rfl⟩ : ∃ n_ : Nat, n = (n_ : Int) := ⟨n.toNat, by omega⟩
        have hzb := (hu3 kt (by omega)).2.1
        have hzc := (hu3 ku (by omega)).2.1
        refine Ev.aload_n dX8_copy_37 rfl rfl ?_
        refine gf_X8_109 (x := ((sD s : Nat) : Int)) rfl dX8_copy_38 ltc_272 shc_272 hu4.2.1 ?_
        refine Ev.if_le (tgt := 47) ⟨by omega, by omega⟩ dX8_copy_41 (by decide) (fun h41 => ?_) (fun h41 => ?_)
        · skip
          refine Ev.aload_n dX8_copy_47 rfl rfl ?_
          refine gf_X8_50 rfl dX8_copy_48 ltc_272 shc_272 rfc_272_17 ?_
          refine Ev.iload_n dX8_copy_51 rfl rfl ?_
          refine Ev.iaload (v := (sB s).1 kt) dX8_copy_52 ltc_286 shc_286 (by decide) (by omega) (by omega) (ldx rfl (hu3 kt (by omega)).1) ?_
          refine Ev.if_lt (tgt := 65) ⟨by omega, by omega⟩ dX8_copy_53 (by decide) (fun h53 => ?_) (fun h53 => ?_)
          · skip
            refine Ev.aload_n dX8_copy_65 rfl rfl ?_
            refine Ev.bipush (n := -11) (by decide) dX8_copy_66 ?_
            refine Ev.callV_I (M2 := mX8_finds) (args2 := [vI (-11)]) (rcv := 272) (q := (RX8, TX8, 34)) (ci := 8) dX8_copy_68 okX8_finds lk_X8_140 ovX8_finds.1.1 ovX8_finds.1.2 ovX8_finds.2 (by decide) rfl rfl ltc_272 shc_272 rfl (Nat.le_of_ble_eq_true rfl) (Nat.le_of_ble_eq_true rfl) (sM_finds σ1 (-11) (sF s) hu8) ?_ rfl
            exact Ev.ireturn dX8_copy_71 rfl (rE (by unfold MP o_copy; (repeat rw [Int.toNat_natCast]); rw [ifP_f (fun z => z ⟨⟨by omega, by omega⟩, ⟨by omega, by omega⟩, by omega⟩), ifP_f (by omega), ifP_t (by omega)]; exact ⟨rfl, hM1.found, (fun c hc => (upC_ne (by omega)).trans (hk0 c hc))⟩))
          · skip
            refine Ev.aload_n dX8_copy_56 rfl rfl ?_
            refine gf_X8_50 rfl dX8_copy_57 ltc_272 shc_272 rfc_272_17 ?_
            refine Ev.iload_n dX8_copy_60 rfl rfl ?_
            refine Ev.iaload (v := (sB s).1 ku) dX8_copy_61 ltc_286 shc_286 (by decide) (by omega) (by omega) (ldx rfl (hu3 ku (by omega)).1) ?_
            refine Ev.if_ge (tgt := 72) ⟨by omega, by omega⟩ dX8_copy_62 (by decide) (fun h62 => ?_) (fun h62 => ?_)
            · skip
              refine Ev.iload_n dX8_copy_72 rfl rfl ?_
              refine Ev.if_lt (tgt := 116) ⟨by omega, by omega⟩ dX8_copy_73 (by decide) (fun h73 => ?_) (fun h73 => ?_)
              · skip
                refine Ev.aload_n dX8_copy_116 rfl rfl ?_
                refine Ev.bipush (n := -12) (by decide) dX8_copy_117 ?_
                refine Ev.callV_I (M2 := mX8_finds) (args2 := [vI (-12)]) (rcv := 272) (q := (RX8, TX8, 34)) (ci := 8) dX8_copy_119 okX8_finds lk_X8_140 ovX8_finds.1.1 ovX8_finds.1.2 ovX8_finds.2 (by decide) rfl rfl ltc_272 shc_272 rfl (Nat.le_of_ble_eq_true rfl) (Nat.le_of_ble_eq_true rfl) (sM_finds σ1 (-12) (sF s) hu8) ?_ rfl
                exact Ev.ireturn dX8_copy_122 rfl (rE (by unfold MP o_copy; (repeat rw [Int.toNat_natCast]); rw [ifP_f (fun z => z ⟨⟨by omega, by omega⟩, ⟨by omega, by omega⟩, by omega⟩), ifP_f (by omega), ifP_f (by omega), ifP_t (by omega)]; exact ⟨rfl, hM1.found, (fun c hc => (upC_ne (by omega)).trans (hk0 c hc))⟩))
              · skip
                refine Ev.iload dX8_copy_76 rfl ?_
                refine Ev.if_lt (tgt := 116) ⟨by omega, by omega⟩ dX8_copy_78 (by decide) (fun h78 => ?_) (fun h78 => ?_)
                · skip
                  refine Ev.aload_n dX8_copy_116 rfl rfl ?_
                  refine Ev.bipush (n := -12) (by decide) dX8_copy_117 ?_
                  refine Ev.callV_I (M2 := mX8_finds) (args2 := [vI (-12)]) (rcv := 272) (q := (RX8, TX8, 34)) (ci := 8) dX8_copy_119 okX8_finds lk_X8_140 ovX8_finds.1.1 ovX8_finds.1.2 ovX8_finds.2 (by decide) rfl rfl ltc_272 shc_272 rfl (Nat.le_of_ble_eq_true rfl) (Nat.le_of_ble_eq_true rfl) (sM_finds σ1 (-12) (sF s) hu8) ?_ rfl
                  exact Ev.ireturn dX8_copy_122 rfl (rE (by unfold MP o_copy; (repeat rw [Int.toNat_natCast]); rw [ifP_f (fun z => z ⟨⟨by omega, by omega⟩, ⟨by omega, by omega⟩, by omega⟩), ifP_f (by omega), ifP_f (by omega), ifP_t (by omega)]; exact ⟨rfl, hM1.found, (fun c hc => (upC_ne (by omega)).trans (hk0 c hc))⟩))
                · skip
                  refine Ev.iload_n dX8_copy_81 rfl rfl ?_
                  refine Ev.i2l ⟨by omega, by omega⟩ dX8_copy_82 ?_
                  refine Ev.iload dX8_copy_83 rfl ?_
                  refine Ev.i2l ⟨by omega, by omega⟩ dX8_copy_85 ?_
                  refine Ev.ladd dX8_copy_86 ?_
                  refine Ev.aload_n dX8_copy_87 rfl rfl ?_
                  refine gf_X8_50 rfl dX8_copy_88 ltc_272 shc_272 rfc_272_17 ?_
                  refine Ev.iload_n dX8_copy_91 rfl rfl ?_
                  refine Ev.iaload (v := (sB s).1 kt) dX8_copy_92 ltc_286 shc_286 (by decide) (by omega) (by omega) (ldx rfl (hu3 kt (by omega)).1) ?_
                  refine Ev.i2l ⟨by omega, by omega⟩ dX8_copy_93 ?_
                  refine Ev.lcmp ⟨by omega, by omega⟩ ⟨by omega, by omega⟩ dX8_copy_94 ?_
                  have hc95 := lCmp_c ((i + ((kn : Nat) : Int))) ((sB s).1 kt)
                  refine Ev.if_gt (tgt := 116) lCmp_inR dX8_copy_95 (by decide) (fun h95 => ?_) (fun h95 => ?_)
                  · skip
                    refine Ev.aload_n dX8_copy_116 rfl rfl ?_
                    refine Ev.bipush (n := -12) (by decide) dX8_copy_117 ?_
                    refine Ev.callV_I (M2 := mX8_finds) (args2 := [vI (-12)]) (rcv := 272) (q := (RX8, TX8, 34)) (ci := 8) dX8_copy_119 okX8_finds lk_X8_140 ovX8_finds.1.1 ovX8_finds.1.2 ovX8_finds.2 (by decide) rfl rfl ltc_272 shc_272 rfl (Nat.le_of_ble_eq_true rfl) (Nat.le_of_ble_eq_true rfl) (sM_finds σ1 (-12) (sF s) hu8) ?_ rfl
                    exact Ev.ireturn dX8_copy_122 rfl (rE (by unfold MP o_copy; (repeat rw [Int.toNat_natCast]); rw [ifP_f (fun z => z ⟨⟨by omega, by omega⟩, ⟨by omega, by omega⟩, by omega⟩), ifP_f (by omega), ifP_f (by omega), ifP_t (by omega)]; exact ⟨rfl, hM1.found, (fun c hc => (upC_ne (by omega)).trans (hk0 c hc))⟩))
                  · skip
                    refine Ev.iload dX8_copy_98 rfl ?_
                    refine Ev.i2l ⟨by omega, by omega⟩ dX8_copy_100 ?_
                    refine Ev.iload dX8_copy_101 rfl ?_
                    refine Ev.i2l ⟨by omega, by omega⟩ dX8_copy_103 ?_
                    refine Ev.ladd dX8_copy_104 ?_
                    refine Ev.aload_n dX8_copy_105 rfl rfl ?_
                    refine gf_X8_50 rfl dX8_copy_106 ltc_272 shc_272 rfc_272_17 ?_
                    refine Ev.iload_n dX8_copy_109 rfl rfl ?_
                    refine Ev.iaload (v := (sB s).1 ku) dX8_copy_110 ltc_286 shc_286 (by decide) (by omega) (by omega) (ldx rfl (hu3 ku (by omega)).1) ?_
                    refine Ev.i2l ⟨by omega, by omega⟩ dX8_copy_111 ?_
                    refine Ev.lcmp ⟨by omega, by omega⟩ ⟨by omega, by omega⟩ dX8_copy_112 ?_
                    have hc113 := lCmp_c ((j + ((kn : Nat) : Int))) ((sB s).1 ku)
                    refine Ev.if_le (tgt := 123) lCmp_inR dX8_copy_113 (by decide) (fun h113 => ?_) (fun h113 => ?_)
                    · skip
                      obtain ⟨ki, rfl⟩ : ∃ n_ : Nat, i = (n_ : Int) := ⟨i.toNat, by omega⟩
                      obtain ⟨kj, rfl⟩ : ∃ n_ : Nat, j = (n_ : Int) := ⟨j.toNat, by omega⟩
                      refine Ev.iconst dX8_copy_123 ?_
                      refine Ev.istore (pl' := [some (vR (272)), some (vI (((kt : Nat) : Int))), some (vI (((ki : Nat) : Int))), some (vI (((ku : Nat) : Int))), some (vI (((kj : Nat) : Int))), some (vI (((kn : Nat) : Int))), some (vI (0))]) dX8_copy_124 (Nat.le_of_ble_eq_true rfl) rfl ?_
                      refine Ev.wk (pl' := [some (vR (272)), some (vI (((kt : Nat) : Int))), some (vI (((ki : Nat) : Int))), some (vI (((ku : Nat) : Int))), some (vI (((kj : Nat) : Int))), some (vI (((kn : Nat) : Int))), some (vI (((0 : Nat) : Int)))]) ⟨rfl, ⟨rfl, ⟨rfl, ⟨rfl, ⟨rfl, ⟨rfl, ⟨vIe rfl, trivial⟩⟩⟩⟩⟩⟩⟩ ?_
                      exact r_copy_a s σ σ1 hM1 hk0 kt ki ku kj kn (by omega) (by omega) (by omega) (by omega) (by omega) kn 0 (by omega) σ1 (fun c _ => rfl) (fun k hk => absurd hk (by omega))
                    · skip
                      refine Ev.aload_n dX8_copy_116 rfl rfl ?_
                      refine Ev.bipush (n := -12) (by decide) dX8_copy_117 ?_
                      refine Ev.callV_I (M2 := mX8_finds) (args2 := [vI (-12)]) (rcv := 272) (q := (RX8, TX8, 34)) (ci := 8) dX8_copy_119 okX8_finds lk_X8_140 ovX8_finds.1.1 ovX8_finds.1.2 ovX8_finds.2 (by decide) rfl rfl ltc_272 shc_272 rfl (Nat.le_of_ble_eq_true rfl) (Nat.le_of_ble_eq_true rfl) (sM_finds σ1 (-12) (sF s) hu8) ?_ rfl
                      exact Ev.ireturn dX8_copy_122 rfl (rE (by unfold MP o_copy; (repeat rw [Int.toNat_natCast]); rw [ifP_f (fun z => z ⟨⟨by omega, by omega⟩, ⟨by omega, by omega⟩, by omega⟩), ifP_f (by omega), ifP_f (by omega), ifP_t (by omega)]; exact ⟨rfl, hM1.found, (fun c hc => (upC_ne (by omega)).trans (hk0 c hc))⟩))
            · skip
              refine Ev.aload_n dX8_copy_65 rfl rfl ?_
              refine Ev.bipush (n := -11) (by decide) dX8_copy_66 ?_
              refine Ev.callV_I (M2 := mX8_finds) (args2 := [vI (-11)]) (rcv := 272) (q := (RX8, TX8, 34)) (ci := 8) dX8_copy_68 okX8_finds lk_X8_140 ovX8_finds.1.1 ovX8_finds.1.2 ovX8_finds.2 (by decide) rfl rfl ltc_272 shc_272 rfl (Nat.le_of_ble_eq_true rfl) (Nat.le_of_ble_eq_true rfl) (sM_finds σ1 (-11) (sF s) hu8) ?_ rfl
              exact Ev.ireturn dX8_copy_71 rfl (rE (by unfold MP o_copy; (repeat rw [Int.toNat_natCast]); rw [ifP_f (fun z => z ⟨⟨by omega, by omega⟩, ⟨by omega, by omega⟩, by omega⟩), ifP_f (by omega), ifP_t (by omega)]; exact ⟨rfl, hM1.found, (fun c hc => (upC_ne (by omega)).trans (hk0 c hc))⟩))
        · skip
          refine Ev.bipush (n := -3) (by decide) dX8_copy_44 ?_
          exact Ev.ireturn dX8_copy_46 rfl (rE (by unfold MP o_copy; (repeat rw [Int.toNat_natCast]); rw [ifP_f (fun z => z ⟨⟨by omega, by omega⟩, ⟨by omega, by omega⟩, by omega⟩), ifP_t (by omega)]; exact ⟨rfl, hM1, hk0⟩))
      · skip
        refine Ev.bipush (n := -2) (by decide) dX8_copy_34 ?_
        exact Ev.ireturn dX8_copy_36 rfl (rE (by unfold MP o_copy; (repeat rw [Int.toNat_natCast]); rw [ifP_t (by first | exact fun z => absurd z.1 (by omega) | exact fun z => absurd z.2.1 (by omega) | exact fun z => absurd z.2.2 (by omega))]; exact ⟨rfl, hM1, hk0⟩))

set_option maxRecDepth 100000 in
set_option maxHeartbeats 4000000 in
theorem r_about {g : GC} (s : SS) (σ : Sg) (hM : MI s σ) (r : Int) (h_r : inR r) (w : Int) (h_w : inR w) : Ev g mX8_about 0 [some (vR (272)), some (vI (r)), some (vI (w)), none] [] (M0 (σ)) 0 0 (retE (MP σ (o_about s r w))) := by
  refine Ev.aload_n dX8_about_0 rfl rfl ?_
  refine Ev.iconst dX8_about_1 ?_
  refine pf_X8_90 rfl dX8_about_2 ltc_272 shc_272 ?_
  obtain ⟨σ1, hs1⟩ : ∃ ρ : Sg, ρ = upC σ 272 0 0 := ⟨_, rfl⟩
  refine Ev.mem (τ := σ1) hs1.symm ?_
  have hM1 : MI s σ1 := by rw [hs1]; exact hM.th
  have hk0 : ∀ c, c < 272 → σ1 c = σ c := fun c hc => by rw [hs1]; exact upC_ne (by omega)
  obtain ⟨hu1, hu2, hu3, hu4, hu5, hu6, hu7, hu8⟩ := id hM1
  have hU := hu1.1
  have hN := hu2.1
  have hD := hu4.1
  have hMl := hu7.1
  have hQ := hu5.1
  refine Ev.aload_n dX8_about_5 rfl rfl ?_
  refine Ev.iload_n dX8_about_6 rfl rfl ?_
  refine Ev.callV_I (M2 := mX8_noRule) (args2 := [vI (r)]) (rcv := 272) (q := (RX8, TX8, 34)) (ci := 8) dX8_about_7 okX8_noRule lk_X8_137 ovX8_noRule.1.1 ovX8_noRule.1.2 ovX8_noRule.2 (by decide) rfl rfl ltc_272 shc_272 rfl (Nat.le_of_ble_eq_true rfl) (Nat.le_of_ble_eq_true rfl) (sM_noRule σ1 (sN s) hN hu2.2.1 (r) ⟨by omega, by omega⟩) ?_ rfl
  refine Ev.if_eq (tgt := 15) bI_inR dX8_about_10 (by decide) (fun h10 => ?_) (fun h10 => ?_)
  · skip
    have q10 := bI_0.mp h10
    obtain ⟨kr, rfl⟩ : ∃ n_ : Nat, r = (n_ : Int) := ⟨r.toNat, by omega⟩
    have hMr := hu2.2.2.2 kr (by omega)
    have hkd5 := hMr.2.1.1.1
    refine Ev.iload_n dX8_about_15 rfl rfl ?_
    refine Ev.i2l ⟨by omega, by omega⟩ dX8_about_16 ?_
    refine Ev.lconst 0 rfl dX8_about_17 ?_
    refine Ev.ldc2 (n := 2) (tbl_i 824 (by decide +kernel)) dX8_about_18 ?_
    refine Ev.callS_I (M2 := mX8_in) (args2 := [vL (w), vL (0), vL (2)]) dX8_about_21 okX8_in lk_X8_96 osX8_in.1 osX8_in.2 (by decide) rfl (Nat.le_of_ble_eq_true rfl) (Nat.le_of_ble_eq_true rfl) (sM_in σ1 (w) (0) (2) ⟨by omega, by omega⟩ ⟨by omega, by omega⟩ ⟨by omega, by omega⟩) ?_ rfl
    refine Ev.if_ne (tgt := 30) bI_inR dX8_about_24 (by decide) (fun h24 => ?_) (fun h24 => ?_)
    · skip
      have q24 := bI_1.mp h24
      refine Ev.iload_n dX8_about_30 rfl rfl ?_
      refine Ev.if_ne (tgt := 38) ⟨by omega, by omega⟩ dX8_about_31 (by decide) (fun h31 => ?_) (fun h31 => ?_)
      · skip
        refine Ev.iload_n dX8_about_38 rfl rfl ?_
        refine Ev.iconst dX8_about_39 ?_
        refine Ev.icmp_ne (tgt := 47) ⟨by omega, by omega⟩ ⟨by decide, by decide⟩ dX8_about_40 (by decide) (fun h40 => ?_) (fun h40 => ?_)
        · skip
          refine Ev.iconst dX8_about_47 ?_
          refine Ev.istore_n (pl' := [some (vR (272)), some (vI (((kr : Nat) : Int))), some (vI (w)), some (vI (2))]) dX8_about_48 rfl (Nat.le_of_ble_eq_true rfl) rfl ?_
          refine Ev.aload_n dX8_about_49 rfl rfl ?_
          refine gf_X8_25 rfl dX8_about_50 ltc_272 shc_272 rfc_272_9 ?_
          refine Ev.iload_n dX8_about_53 rfl rfl ?_
          refine Ev.iaload (v := ((rK (sR s kr) : Nat) : Int)) dX8_about_54 ltc_278 shc_278 (by decide) (by omega) (by omega) (ldx rfl (hu2.2.2.2 kr (by omega)).1.1) ?_
          refine Ev.iload_n dX8_about_55 rfl rfl ?_
          refine Ev.icmp_eq (tgt := 68) ⟨by omega, by omega⟩ ⟨by decide, by decide⟩ dX8_about_56 (by decide) (fun h56 => ?_) (fun h56 => ?_)
          · skip
            refine Ev.iload_n dX8_about_68 rfl rfl ?_
            refine Ev.if_ne (tgt := 81) ⟨by omega, by omega⟩ dX8_about_69 (by decide) (fun h69 => ?_) (fun h69 => ?_)
            · skip
              refine Ev.aload_n dX8_about_81 rfl rfl ?_
              refine gf_X8_28 rfl dX8_about_82 ltc_272 shc_272 rfc_272_10 ?_
              refine Ev.iload_n dX8_about_85 rfl rfl ?_
              refine Ev.iaload (v := rS (sR s kr)) dX8_about_86 ltc_279 shc_279 (by decide) (by omega) (by omega) (ldx rfl (hu2.2.2.2 kr (by omega)).1.2.1) ?_
              exact Ev.ireturn dX8_about_87 rfl (rE (by unfold MP o_about; (repeat rw [Int.toNat_natCast]); rw [ifP_f (by omega), ifP_f (by omega), ifP_f (by omega), ifP_f (by omega), ifP_t (show rK (sR s kr) = 2 by omega)]; exact ⟨rfl, hM1, hk0⟩))
            · exact absurd h69 (by omega)
          · skip
            refine Ev.aload_n dX8_about_59 rfl rfl ?_
            refine Ev.bipush (n := -13) (by decide) dX8_about_60 ?_
            refine Ev.callV_I (M2 := mX8_finds) (args2 := [vI (-13)]) (rcv := 272) (q := (RX8, TX8, 34)) (ci := 8) dX8_about_62 okX8_finds lk_X8_140 ovX8_finds.1.1 ovX8_finds.1.2 ovX8_finds.2 (by decide) rfl rfl ltc_272 shc_272 rfl (Nat.le_of_ble_eq_true rfl) (Nat.le_of_ble_eq_true rfl) (sM_finds σ1 (-13) (sF s) hu8) ?_ rfl
            refine Ev.goto (tgt := 87) dX8_about_65 (by decide) ?_
            exact Ev.ireturn dX8_about_87 rfl (rE (by unfold MP o_about; (repeat rw [Int.toNat_natCast]); rw [ifP_f (by omega), ifP_f (by omega), ifP_f (by omega), ifP_f (by omega), ifP_f (show ¬ (rK (sR s kr) = 2) by omega)]; exact ⟨rfl, hM1.found, (fun c hc => (upC_ne (by omega)).trans (hk0 c hc))⟩))
        · skip
          refine Ev.iconst dX8_about_43 ?_
          refine Ev.goto (tgt := 48) dX8_about_44 (by decide) ?_
          refine Ev.istore_n (pl' := [some (vR (272)), some (vI (((kr : Nat) : Int))), some (vI (w)), some (vI (3))]) dX8_about_48 rfl (Nat.le_of_ble_eq_true rfl) rfl ?_
          refine Ev.aload_n dX8_about_49 rfl rfl ?_
          refine gf_X8_25 rfl dX8_about_50 ltc_272 shc_272 rfc_272_9 ?_
          refine Ev.iload_n dX8_about_53 rfl rfl ?_
          refine Ev.iaload (v := ((rK (sR s kr) : Nat) : Int)) dX8_about_54 ltc_278 shc_278 (by decide) (by omega) (by omega) (ldx rfl (hu2.2.2.2 kr (by omega)).1.1) ?_
          refine Ev.iload_n dX8_about_55 rfl rfl ?_
          refine Ev.icmp_eq (tgt := 68) ⟨by omega, by omega⟩ ⟨by decide, by decide⟩ dX8_about_56 (by decide) (fun h56 => ?_) (fun h56 => ?_)
          · skip
            refine Ev.iload_n dX8_about_68 rfl rfl ?_
            refine Ev.if_ne (tgt := 81) ⟨by omega, by omega⟩ dX8_about_69 (by decide) (fun h69 => ?_) (fun h69 => ?_)
            · skip
              refine Ev.aload_n dX8_about_81 rfl rfl ?_
              refine gf_X8_28 rfl dX8_about_82 ltc_272 shc_272 rfc_272_10 ?_
              refine Ev.iload_n dX8_about_85 rfl rfl ?_
              refine Ev.iaload (v := rS (sR s kr)) dX8_about_86 ltc_279 shc_279 (by decide) (by omega) (by omega) (ldx rfl (hu2.2.2.2 kr (by omega)).1.2.1) ?_
              exact Ev.ireturn dX8_about_87 rfl (rE (by unfold MP o_about; (repeat rw [Int.toNat_natCast]); rw [ifP_f (by omega), ifP_f (by omega), ifP_f (by omega), ifP_t (by omega), ifP_t (show rK (sR s kr) = 3 by omega)]; exact ⟨rfl, hM1, hk0⟩))
            · exact absurd h69 (by omega)
          · skip
            refine Ev.aload_n dX8_about_59 rfl rfl ?_
            refine Ev.bipush (n := -13) (by decide) dX8_about_60 ?_
            refine Ev.callV_I (M2 := mX8_finds) (args2 := [vI (-13)]) (rcv := 272) (q := (RX8, TX8, 34)) (ci := 8) dX8_about_62 okX8_finds lk_X8_140 ovX8_finds.1.1 ovX8_finds.1.2 ovX8_finds.2 (by decide) rfl rfl ltc_272 shc_272 rfl (Nat.le_of_ble_eq_true rfl) (Nat.le_of_ble_eq_true rfl) (sM_finds σ1 (-13) (sF s) hu8) ?_ rfl
            refine Ev.goto (tgt := 87) dX8_about_65 (by decide) ?_
            exact Ev.ireturn dX8_about_87 rfl (rE (by unfold MP o_about; (repeat rw [Int.toNat_natCast]); rw [ifP_f (by omega), ifP_f (by omega), ifP_f (by omega), ifP_t (by omega), ifP_f (show ¬ (rK (sR s kr) = 3) by omega)]; exact ⟨rfl, hM1.found, (fun c hc => (upC_ne (by omega)).trans (hk0 c hc))⟩))
      · skip
        refine Ev.iconst dX8_about_34 ?_
        refine Ev.goto (tgt := 48) dX8_about_35 (by decide) ?_
        refine Ev.istore_n (pl' := [some (vR (272)), some (vI (((kr : Nat) : Int))), some (vI (w)), some (vI (0))]) dX8_about_48 rfl (Nat.le_of_ble_eq_true rfl) rfl ?_
        refine Ev.aload_n dX8_about_49 rfl rfl ?_
        refine gf_X8_25 rfl dX8_about_50 ltc_272 shc_272 rfc_272_9 ?_
        refine Ev.iload_n dX8_about_53 rfl rfl ?_
        refine Ev.iaload (v := ((rK (sR s kr) : Nat) : Int)) dX8_about_54 ltc_278 shc_278 (by decide) (by omega) (by omega) (ldx rfl (hu2.2.2.2 kr (by omega)).1.1) ?_
        refine Ev.iload_n dX8_about_55 rfl rfl ?_
        refine Ev.icmp_eq (tgt := 68) ⟨by omega, by omega⟩ ⟨by decide, by decide⟩ dX8_about_56 (by decide) (fun h56 => ?_) (fun h56 => ?_)
        · skip
          refine Ev.iload_n dX8_about_68 rfl rfl ?_
          refine Ev.if_ne (tgt := 81) ⟨by omega, by omega⟩ dX8_about_69 (by decide) (fun h69 => ?_) (fun h69 => ?_)
          · exact absurd h69 (by omega)
          · skip
            refine Ev.aload_n dX8_about_72 rfl rfl ?_
            refine gf_X8_31 rfl dX8_about_73 ltc_272 shc_272 rfc_272_11 ?_
            refine Ev.iload_n dX8_about_76 rfl rfl ?_
            refine Ev.iaload (v := rB (sR s kr)) dX8_about_77 ltc_280 shc_280 (by decide) (by omega) (by omega) (ldx rfl (hu2.2.2.2 kr (by omega)).1.2.2.1) ?_
            refine Ev.goto (tgt := 87) dX8_about_78 (by decide) ?_
            exact Ev.ireturn dX8_about_87 rfl (rE (by unfold MP o_about; (repeat rw [Int.toNat_natCast]); rw [ifP_f (by omega), ifP_f (by omega), ifP_t (by omega), ifP_t (show rK (sR s kr) = 0 by omega)]; exact ⟨rfl, hM1, hk0⟩))
        · skip
          refine Ev.aload_n dX8_about_59 rfl rfl ?_
          refine Ev.bipush (n := -13) (by decide) dX8_about_60 ?_
          refine Ev.callV_I (M2 := mX8_finds) (args2 := [vI (-13)]) (rcv := 272) (q := (RX8, TX8, 34)) (ci := 8) dX8_about_62 okX8_finds lk_X8_140 ovX8_finds.1.1 ovX8_finds.1.2 ovX8_finds.2 (by decide) rfl rfl ltc_272 shc_272 rfl (Nat.le_of_ble_eq_true rfl) (Nat.le_of_ble_eq_true rfl) (sM_finds σ1 (-13) (sF s) hu8) ?_ rfl
          refine Ev.goto (tgt := 87) dX8_about_65 (by decide) ?_
          exact Ev.ireturn dX8_about_87 rfl (rE (by unfold MP o_about; (repeat rw [Int.toNat_natCast]); rw [ifP_f (by omega), ifP_f (by omega), ifP_t (by omega), ifP_f (show ¬ (rK (sR s kr) = 0) by omega)]; exact ⟨rfl, hM1.found, (fun c hc => (upC_ne (by omega)).trans (hk0 c hc))⟩))
    · skip
      have q24 := bI_0.mp h24
      refine Ev.bipush (n := -2) (by decide) dX8_about_27 ?_
      exact Ev.ireturn dX8_about_29 rfl (rE (by unfold MP o_about; (repeat rw [Int.toNat_natCast]); rw [ifP_f (by omega), ifP_t (by omega)]; exact ⟨rfl, hM1, hk0⟩))
  · skip
    have q10 := bI_1.mp h10
    refine Ev.iconst dX8_about_13 ?_
    exact Ev.ireturn dX8_about_14 rfl (rE (by unfold MP o_about; (repeat rw [Int.toNat_natCast]); rw [ifP_t (by omega)]; exact ⟨rfl, hM1, hk0⟩))

