/-! THE CLASS: table, copy -/
theorem tv_lay {σ ρ τ : Sg} {t : Nat} {n : Int} {T : Tb} (hT : TVc σ T) (ht : t < 6) (hn : 0 ≤ n ∧ n ≤ 48) (h : (∀ c i, c ≠ 251 → c ≠ 253 + t → ρ c i = σ c i) ∧ ρ 251 = upC σ 251 t n 251 ∧ ∀ k, k < 48 → ρ (253 + t) k = 0) (e : ∀ c, 251 ≤ c → c < 259 → τ c = ρ c) : TVc τ (updF T.1 t n, updF T.2 t (fun _ => 0)) := fun u hu => by
  rw [e 251 (by omega) (by omega), e (253 + u) (by omega) (by omega), h.2.1]
  by_cases eu : u = t
  · subst eu
    refine ⟨by rw [upC_at]; exact updF_at.symm, by show -1 ≤ updF T.1 u n u ∧ updF T.1 u n u ≤ 48; rw [updF_at]; omega, fun j hj => ?_⟩
    show ρ (253 + u) j = ((updF T.2 u (fun _ => 0) u j : Nat) : Int) ∧ updF T.2 u (fun _ => 0) u j < 16
    rw [updF_at, h.2.2 j hj]
    exact ⟨rfl, by decide⟩
  · obtain ⟨q1, q2, q3⟩ := hT u hu
    refine ⟨by rw [upC_self eu]; exact q1.trans (updF_ne eu).symm, by show -1 ≤ updF T.1 t n u ∧ updF T.1 t n u ≤ 48; rw [updF_ne eu]; exact q2, fun j hj => ?_⟩
    show ρ (253 + u) j = ((updF T.2 t (fun _ => 0) u j : Nat) : Int) ∧ updF T.2 t (fun _ => 0) u j < 16
    rw [updF_ne eu, h.1 _ j (by omega) (by omega)]
    exact q3 j hj

set_option maxRecDepth 100000 in
set_option maxHeartbeats 4000000 in
theorem c_table {g : GC} (s : SS) (σ : Sg) (hC : CI s σ) (t : Int) (h_t : inR t) (l : Int) (h_l : inR l) (n : Int) (h_n : inR n) : Ev g mX7_table 0 [some (vR (0)), some (vI (t)), some (vI (l)), some (vI (n))] [] (M0 (σ)) 0 0 (retE (CP σ (o_table s t l n))) := by
  obtain ⟨hk1, hk2, hk3, hk4, hk5, hk6, hk7, hk8, hk9⟩ := id hC
  have hU := hk1.1
  have hN := hk2.1
  have hD := hk4.1
  have hM := hk7.1
  have hQ := hk5.1
  refine Ev.iload_n dX7_table_0 rfl rfl ?_
  refine Ev.callS_I (M2 := mX7_isTable) (args2 := [vI (t)]) dX7_table_1 okX7_isTable lk_X7_156 osX7_isTable.1 osX7_isTable.2 (by decide) rfl (Nat.le_of_ble_eq_true rfl) (Nat.le_of_ble_eq_true rfl) (s7_isTable σ (t) ⟨by omega, by omega⟩) ?_ rfl
  refine Ev.if_eq (tgt := 22) bI_inR dX7_table_4 (by decide) (fun h4 => ?_) (fun h4 => ?_)
  · skip
    have q4 := bI_0.mp h4
    refine Ev.bipush (n := -2) (by decide) dX7_table_22 ?_
    exact Ev.ireturn dX7_table_24 rfl (rE (by unfold CP o_table; (repeat rw [Int.toNat_natCast]); rw [ifP_t (by first | exact fun z => absurd z.1 (by omega) | exact fun z => absurd z.2.1 (by omega) | exact fun z => absurd z.2.2 (by omega))]; exact ⟨rfl, hC, (fun _ _ => rfl)⟩))
  · skip
    have q4 := bI_1.mp h4
    refine Ev.iload_n dX7_table_7 rfl rfl ?_
    refine Ev.if_lt (tgt := 22) ⟨by omega, by omega⟩ dX7_table_8 (by decide) (fun h8 => ?_) (fun h8 => ?_)
    · skip
      refine Ev.bipush (n := -2) (by decide) dX7_table_22 ?_
      exact Ev.ireturn dX7_table_24 rfl (rE (by unfold CP o_table; (repeat rw [Int.toNat_natCast]); rw [ifP_t (by first | exact fun z => absurd z.1 (by omega) | exact fun z => absurd z.2.1 (by omega) | exact fun z => absurd z.2.2 (by omega))]; exact ⟨rfl, hC, (fun _ _ => rfl)⟩))
    · skip
      refine Ev.iload_n dX7_table_11 rfl rfl ?_
      refine Ev.iconst dX7_table_12 ?_
      refine Ev.icmp_ge (tgt := 22) ⟨by omega, by omega⟩ ⟨by decide, by decide⟩ dX7_table_13 (by decide) (fun h13 => ?_) (fun h13 => ?_)
      · skip
        refine Ev.bipush (n := -2) (by decide) dX7_table_22 ?_
        exact Ev.ireturn dX7_table_24 rfl (rE (by unfold CP o_table; (repeat rw [Int.toNat_natCast]); rw [ifP_t (by first | exact fun z => absurd z.1 (by omega) | exact fun z => absurd z.2.1 (by omega) | exact fun z => absurd z.2.2 (by omega))]; exact ⟨rfl, hC, (fun _ _ => rfl)⟩))
      · skip
        refine Ev.iload_n dX7_table_16 rfl rfl ?_
        refine Ev.bipush (n := 48) (by decide) dX7_table_17 ?_
        refine Ev.icmp_le (tgt := 25) ⟨by omega, by omega⟩ ⟨by decide, by decide⟩ dX7_table_19 (by decide) (fun h19 => ?_) (fun h19 => ?_)
        · skip
          refine Ev.aload_n dX7_table_25 rfl rfl ?_
          refine gf_X7_25 rfl dX7_table_26 ltc_0 shc_0 rfc_0_7 ?_
          refine gf_X7_85 (x := ((sD s : Nat) : Int)) rfl dX7_table_29 ltc_4 shc_4 hk4.2.1 ?_
          refine Ev.if_le (tgt := 38) ⟨by omega, by omega⟩ dX7_table_32 (by decide) (fun h32 => ?_) (fun h32 => ?_)
          · skip
            refine Ev.iload_n dX7_table_38 rfl rfl ?_
            refine Ev.if_ge (tgt := 49) ⟨by omega, by omega⟩ dX7_table_39 (by decide) (fun h39 => ?_) (fun h39 => ?_)
            · skip
              obtain ⟨kt, rfl⟩ : ∃ n_ : Nat, t = (n_ : Int) := ⟨t.toNat, by omega⟩
              refine Ev.aload_n dX7_table_49 rfl rfl ?_
              refine gf_X7_60 rfl dX7_table_50 ltc_0 shc_0 rfc_0_6 ?_
              refine Ev.iload_n dX7_table_53 rfl rfl ?_
              refine Ev.iload_n dX7_table_54 rfl rfl ?_
              refine Ev.callV_G (M2 := mX6_lay) (args2 := [vI (((kt : Nat) : Int)), vI (n)]) (rcv := 250) (q := (RX6, TX6, 2)) (ci := 6) dX7_table_55 okX6_lay lk_X7_159 ovX6_lay.1.1 ovX6_lay.1.2 ovX6_lay.2 (by decide) rfl rfl ltc_250 shc_250 rfl (Nat.le_of_ble_eq_true rfl) (Nat.le_of_ble_eq_true rfl) (s6_lay σ kt (by omega) n) (fun v_ m_ hp_ => ?_) rfl
              obtain ⟨ρ, rfl, rfl, hL⟩ := hp_
              have hLe : ∀ c, c < 251 → ρ c = σ c := fun c hc => by funext i; exact hL.1 c i (by omega) (by omega)
              have hLf : ∀ c, 259 ≤ c → ρ c = σ c := fun c hc => by funext i; exact hL.1 c i (by omega) (by omega)
              show Ev g mX7_table 58 [some (vR (0)), some (vI (((kt : Nat) : Int))), some (vI (l)), some (vI (n))] [] (M0 (ρ)) 0 0 _
              refine Ev.aload_n dX7_table_58 rfl rfl ?_
              refine Ev.callV_V (M2 := mX7_letRangesBeAsTold) (args2 := []) (rcv := 0) (q := (RX7, TX7, 20)) (ci := 7) dX7_table_59 okX7_letRangesBeAsTold lk_X7_91 ovX7_letRangesBeAsTold.1.1 ovX7_letRangesBeAsTold.1.2 ovX7_letRangesBeAsTold.2 (by decide) rfl rfl ltc_0 shc_0 rfl (Nat.le_of_ble_eq_true rfl) (Nat.le_of_ble_eq_true rfl) (s7_asTold ρ) ?_ rfl
              refine Ev.iload_n dX7_table_62 rfl rfl ?_
              exact Ev.ireturn dX7_table_63 rfl (rE (by unfold CP o_table; (repeat rw [Int.toNat_natCast]); rw [ifP_f (fun z => z ⟨⟨by omega, by omega⟩, ⟨by omega, by omega⟩, by omega⟩), ifP_f (by omega), ifP_f (by omega)]; exact ⟨rfl, ⟨⟨hU, ((congrFun (cpy_ne (by decide)) 2).trans ((congrFun (hLe 0 (by decide)) 2).trans hk1.2.1)), (told_av hU (hk1.2.2.1.cg fun x _ => congrFun (hLe 1 (by decide)) x)).1, (told_av hU (hk1.2.2.1.cg fun x _ => congrFun (hLe 1 (by decide)) x)).2⟩, (hk2.cg ((congrFun (cpy_ne (by decide)) 4).trans ((congrFun (hLe 0 (by decide)) 4).trans rfl)) ((congrFun (cpy_ne (by decide)) 5).trans ((congrFun (hLe 0 (by decide)) 5).trans rfl)) (fun c q1 q2 => (cpy_ne (by omega)).trans (hLe c (by omega)))), tv_lay hk3 (by omega) ⟨by omega, by omega⟩ hL (fun c q1 q2 => cpy_ne (by omega)), (hk4.cg (fun c q1 q2 _ => (cpy_ne (by omega)).trans (hLe c (by omega)))), (hk5.cg ((congrFun (cpy_ne (by decide)) 9).trans ((congrFun (hLe 0 (by decide)) 9).trans rfl)) ((cpy_ne (by decide)).trans (hLe 20 (by decide)))), (hk6.cg ((congrFun (cpy_ne (by decide)) 11).trans ((congrFun (hLe 0 (by decide)) 11).trans rfl)) ((cpy_ne (by decide)).trans (hLe 21 (by decide)))), (hk7.cg ((congrFun (cpy_ne (by decide)) 14).trans ((congrFun (hLe 0 (by decide)) 14).trans rfl)) ((cpy_ne (by decide)).trans (hLe 23 (by decide))) (fun c q1 q2 => (cpy_ne (by omega)).trans (hLe c (by omega)))), ((congrFun (cpy_ne (by decide)) 15).trans ((congrFun (hLe 0 (by decide)) 15).trans hk8)), ((congrFun (cpy_ne (by decide)) 0).trans ((congrFun (hLf 263 (by decide)) 0).trans hk9))⟩, (fun c q1 => (cpy_ne (by omega)).trans (hLf c (by omega)))⟩))
            · skip
              refine Ev.aload_n dX7_table_42 rfl rfl ?_
              refine Ev.bipush (n := -14) (by decide) dX7_table_43 ?_
              refine Ev.callV_I (M2 := mX7_found) (args2 := [vI (-14)]) (rcv := 0) (q := (RX7, TX7, 20)) (ci := 7) dX7_table_45 okX7_found lk_X7_128 ovX7_found.1.1 ovX7_found.1.2 ovX7_found.2 (by decide) rfl rfl ltc_0 shc_0 rfl (Nat.le_of_ble_eq_true rfl) (Nat.le_of_ble_eq_true rfl) (s7_found σ (-14) (sF s) hk8) ?_ rfl
              exact Ev.ireturn dX7_table_48 rfl (rE (by unfold CP o_table; (repeat rw [Int.toNat_natCast]); rw [ifP_f (fun z => z ⟨⟨by omega, by omega⟩, ⟨by omega, by omega⟩, by omega⟩), ifP_f (by omega), ifP_t (by omega)]; exact ⟨rfl, hC.found, (fun c hc => upC_ne (by omega))⟩))
          · skip
            refine Ev.bipush (n := -3) (by decide) dX7_table_35 ?_
            exact Ev.ireturn dX7_table_37 rfl (rE (by unfold CP o_table; (repeat rw [Int.toNat_natCast]); rw [ifP_f (fun z => z ⟨⟨by omega, by omega⟩, ⟨by omega, by omega⟩, by omega⟩), ifP_t (by omega)]; exact ⟨rfl, hC, (fun _ _ => rfl)⟩))
        · skip
          refine Ev.bipush (n := -2) (by decide) dX7_table_22 ?_
          exact Ev.ireturn dX7_table_24 rfl (rE (by unfold CP o_table; (repeat rw [Int.toNat_natCast]); rw [ifP_t (by first | exact fun z => absurd z.1 (by omega) | exact fun z => absurd z.2.1 (by omega) | exact fun z => absurd z.2.2 (by omega))]; exact ⟨rfl, hC, (fun _ _ => rfl)⟩))

set_option maxRecDepth 100000 in
set_option maxHeartbeats 4000000 in
theorem c_copy {g : GC} (s : SS) (σ : Sg) (hC : CI s σ) (t : Int) (h_t : inR t) (i : Int) (h_i : inR i) (u : Int) (h_u : inR u) (j : Int) (h_j : inR j) (n : Int) (h_n : inR n) : Ev g mX7_copy 0 [some (vR (0)), some (vI (t)), some (vI (i)), some (vI (u)), some (vI (j)), some (vI (n))] [] (M0 (σ)) 0 0 (retE (CP σ (o_copy s t i u j n))) := by
  obtain ⟨hk1, hk2, hk3, hk4, hk5, hk6, hk7, hk8, hk9⟩ := id hC
  have hU := hk1.1
  have hN := hk2.1
  have hD := hk4.1
  have hM := hk7.1
  have hQ := hk5.1
  refine Ev.iload_n dX7_copy_0 rfl rfl ?_
  refine Ev.callS_I (M2 := mX7_isTable) (args2 := [vI (t)]) dX7_copy_1 okX7_isTable lk_X7_156 osX7_isTable.1 osX7_isTable.2 (by decide) rfl (Nat.le_of_ble_eq_true rfl) (Nat.le_of_ble_eq_true rfl) (s7_isTable σ (t) ⟨by omega, by omega⟩) ?_ rfl
  refine Ev.if_eq (tgt := 19) bI_inR dX7_copy_4 (by decide) (fun h4 => ?_) (fun h4 => ?_)
  · skip
    have q4 := bI_0.mp h4
    refine Ev.bipush (n := -2) (by decide) dX7_copy_19 ?_
    exact Ev.ireturn dX7_copy_21 rfl (rE (by unfold CP o_copy; (repeat rw [Int.toNat_natCast]); rw [ifP_t (by first | exact fun z => absurd z.1 (by omega) | exact fun z => absurd z.2.1 (by omega) | exact fun z => absurd z.2.2 (by omega))]; exact ⟨rfl, hC, (fun _ _ => rfl)⟩))
  · skip
    have q4 := bI_1.mp h4
    refine Ev.iload_n dX7_copy_7 rfl rfl ?_
    refine Ev.callS_I (M2 := mX7_isTable) (args2 := [vI (u)]) dX7_copy_8 okX7_isTable lk_X7_156 osX7_isTable.1 osX7_isTable.2 (by decide) rfl (Nat.le_of_ble_eq_true rfl) (Nat.le_of_ble_eq_true rfl) (s7_isTable σ (u) ⟨by omega, by omega⟩) ?_ rfl
    refine Ev.if_eq (tgt := 19) bI_inR dX7_copy_11 (by decide) (fun h11 => ?_) (fun h11 => ?_)
    · skip
      have q11 := bI_0.mp h11
      refine Ev.bipush (n := -2) (by decide) dX7_copy_19 ?_
      exact Ev.ireturn dX7_copy_21 rfl (rE (by unfold CP o_copy; (repeat rw [Int.toNat_natCast]); rw [ifP_t (by first | exact fun z => absurd z.1 (by omega) | exact fun z => absurd z.2.1 (by omega) | exact fun z => absurd z.2.2 (by omega))]; exact ⟨rfl, hC, (fun _ _ => rfl)⟩))
    · skip
      have q11 := bI_1.mp h11
      refine Ev.iload dX7_copy_14 rfl ?_
      refine Ev.if_ge (tgt := 22) ⟨by omega, by omega⟩ dX7_copy_16 (by decide) (fun h16 => ?_) (fun h16 => ?_)
      · skip
        obtain ⟨kt, rfl⟩ : ∃ n_ : Nat, t = (n_ : Int) := ⟨t.toNat, by omega⟩
        obtain ⟨ku, rfl⟩ : ∃ n_ : Nat, u = (n_ : Int) := ⟨u.toNat, by omega⟩
        obtain ⟨kn, rfl⟩ : ∃ n_ : Nat, n = (n_ : Int) := ⟨n.toNat, by omega⟩
        refine Ev.aload_n dX7_copy_22 rfl rfl ?_
        refine gf_X7_25 rfl dX7_copy_23 ltc_0 shc_0 rfc_0_7 ?_
        refine gf_X7_85 (x := ((sD s : Nat) : Int)) rfl dX7_copy_26 ltc_4 shc_4 hk4.2.1 ?_
        refine Ev.if_le (tgt := 35) ⟨by omega, by omega⟩ dX7_copy_29 (by decide) (fun h29 => ?_) (fun h29 => ?_)
        · skip
          refine Ev.aload_n dX7_copy_35 rfl rfl ?_
          refine gf_X7_60 rfl dX7_copy_36 ltc_0 shc_0 rfc_0_6 ?_
          refine Ev.iload_n dX7_copy_39 rfl rfl ?_
          refine Ev.callV_I (M2 := mX6_isMissing) (args2 := [vI (((kt : Nat) : Int))]) (rcv := 250) (q := (RX6, TX6, 2)) (ci := 6) dX7_copy_40 okX6_isMissing lk_X7_163 ovX6_isMissing.1.1 ovX6_isMissing.1.2 ovX6_isMissing.2 (by decide) rfl rfl ltc_250 shc_250 rfl (Nat.le_of_ble_eq_true rfl) (Nat.le_of_ble_eq_true rfl) (s6_isMissing σ kt (by omega) (sB s) hk3) ?_ rfl
          refine Ev.if_ne (tgt := 57) bI_inR dX7_copy_43 (by decide) (fun h43 => ?_) (fun h43 => ?_)
          · skip
            have q43 := bI_1.mp h43
            refine Ev.aload_n dX7_copy_57 rfl rfl ?_
            refine Ev.bipush (n := -11) (by decide) dX7_copy_58 ?_
            refine Ev.callV_I (M2 := mX7_found) (args2 := [vI (-11)]) (rcv := 0) (q := (RX7, TX7, 20)) (ci := 7) dX7_copy_60 okX7_found lk_X7_128 ovX7_found.1.1 ovX7_found.1.2 ovX7_found.2 (by decide) rfl rfl ltc_0 shc_0 rfl (Nat.le_of_ble_eq_true rfl) (Nat.le_of_ble_eq_true rfl) (s7_found σ (-11) (sF s) hk8) ?_ rfl
            exact Ev.ireturn dX7_copy_63 rfl (rE (by unfold CP o_copy; (repeat rw [Int.toNat_natCast]); rw [ifP_f (fun z => z ⟨⟨by omega, by omega⟩, ⟨by omega, by omega⟩, by omega⟩), ifP_f (by omega), ifP_t (by first | exact Or.inl q43 | exact Or.inr q54)]; exact ⟨rfl, hC.found, (fun c hc => upC_ne (by omega))⟩))
          · skip
            have q43 := bI_0.mp h43
            refine Ev.aload_n dX7_copy_46 rfl rfl ?_
            refine gf_X7_60 rfl dX7_copy_47 ltc_0 shc_0 rfc_0_6 ?_
            refine Ev.iload_n dX7_copy_50 rfl rfl ?_
            refine Ev.callV_I (M2 := mX6_isMissing) (args2 := [vI (((ku : Nat) : Int))]) (rcv := 250) (q := (RX6, TX6, 2)) (ci := 6) dX7_copy_51 okX6_isMissing lk_X7_163 ovX6_isMissing.1.1 ovX6_isMissing.1.2 ovX6_isMissing.2 (by decide) rfl rfl ltc_250 shc_250 rfl (Nat.le_of_ble_eq_true rfl) (Nat.le_of_ble_eq_true rfl) (s6_isMissing σ ku (by omega) (sB s) hk3) ?_ rfl
            refine Ev.if_eq (tgt := 64) bI_inR dX7_copy_54 (by decide) (fun h54 => ?_) (fun h54 => ?_)
            · skip
              have q54 := bI_0.mp h54
              refine Ev.aload_n dX7_copy_64 rfl rfl ?_
              refine gf_X7_60 rfl dX7_copy_65 ltc_0 shc_0 rfc_0_6 ?_
              refine Ev.iload_n dX7_copy_68 rfl rfl ?_
              refine Ev.iload_n dX7_copy_69 rfl rfl ?_
              refine Ev.iload dX7_copy_70 rfl ?_
              refine Ev.callV_I (M2 := mX6_hasCells) (args2 := [vI (((kt : Nat) : Int)), vI (i), vI (((kn : Nat) : Int))]) (rcv := 250) (q := (RX6, TX6, 2)) (ci := 6) dX7_copy_72 okX6_hasCells lk_X7_168 ovX6_hasCells.1.1 ovX6_hasCells.1.2 ovX6_hasCells.2 (by decide) rfl rfl ltc_250 shc_250 rfl (Nat.le_of_ble_eq_true rfl) (Nat.le_of_ble_eq_true rfl) (s6_hasCells σ kt (by omega) (sB s) hk3 (i) (((kn : Nat) : Int)) ⟨by omega, by omega⟩ ⟨by omega, by omega⟩) ?_ rfl
              refine Ev.if_eq (tgt := 93) bI_inR dX7_copy_75 (by decide) (fun h75 => ?_) (fun h75 => ?_)
              · skip
                have q75 := bI_0.mp h75
                refine Ev.aload_n dX7_copy_93 rfl rfl ?_
                refine Ev.bipush (n := -12) (by decide) dX7_copy_94 ?_
                refine Ev.callV_I (M2 := mX7_found) (args2 := [vI (-12)]) (rcv := 0) (q := (RX7, TX7, 20)) (ci := 7) dX7_copy_96 okX7_found lk_X7_128 ovX7_found.1.1 ovX7_found.1.2 ovX7_found.2 (by decide) rfl rfl ltc_0 shc_0 rfl (Nat.le_of_ble_eq_true rfl) (Nat.le_of_ble_eq_true rfl) (s7_found σ (-12) (sF s) hk8) ?_ rfl
                exact Ev.ireturn dX7_copy_99 rfl (rE (by unfold CP o_copy; (repeat rw [Int.toNat_natCast]); rw [ifP_f (fun z => z ⟨⟨by omega, by omega⟩, ⟨by omega, by omega⟩, by omega⟩), ifP_f (by omega), ifP_f (fun z => z.elim q43 q54), ifP_t (by omega)]; exact ⟨rfl, hC.found, (fun c hc => upC_ne (by omega))⟩))
              · skip
                have q75 := bI_1.mp h75
                refine Ev.aload_n dX7_copy_78 rfl rfl ?_
                refine gf_X7_60 rfl dX7_copy_79 ltc_0 shc_0 rfc_0_6 ?_
                refine Ev.iload_n dX7_copy_82 rfl rfl ?_
                refine Ev.iload dX7_copy_83 rfl ?_
                refine Ev.iload dX7_copy_85 rfl ?_
                refine Ev.callV_I (M2 := mX6_hasCells) (args2 := [vI (((ku : Nat) : Int)), vI (j), vI (((kn : Nat) : Int))]) (rcv := 250) (q := (RX6, TX6, 2)) (ci := 6) dX7_copy_87 okX6_hasCells lk_X7_168 ovX6_hasCells.1.1 ovX6_hasCells.1.2 ovX6_hasCells.2 (by decide) rfl rfl ltc_250 shc_250 rfl (Nat.le_of_ble_eq_true rfl) (Nat.le_of_ble_eq_true rfl) (s6_hasCells σ ku (by omega) (sB s) hk3 (j) (((kn : Nat) : Int)) ⟨by omega, by omega⟩ ⟨by omega, by omega⟩) ?_ rfl
                refine Ev.if_ne (tgt := 100) bI_inR dX7_copy_90 (by decide) (fun h90 => ?_) (fun h90 => ?_)
                · skip
                  have q90 := bI_1.mp h90
                  obtain ⟨ki, rfl⟩ : ∃ n_ : Nat, i = (n_ : Int) := ⟨i.toNat, by omega⟩
                  obtain ⟨kj, rfl⟩ : ∃ n_ : Nat, j = (n_ : Int) := ⟨j.toNat, by omega⟩
                  have hzb := (hk3 kt (by omega)).2.1
                  have hzc := (hk3 ku (by omega)).2.1
                  refine Ev.aload_n dX7_copy_100 rfl rfl ?_
                  refine gf_X7_60 rfl dX7_copy_101 ltc_0 shc_0 rfc_0_6 ?_
                  refine gf_X7_171 rfl dX7_copy_104 ltc_250 shc_250 rfc_250_1 ?_
                  refine Ev.iload_n dX7_copy_107 rfl rfl ?_
                  refine Ev.maload dX7_copy_108 ltc_252 shc_252 (by decide) (by omega) (by omega) (rf_tc (by omega)) ?_
                  refine Ev.iload_n dX7_copy_109 rfl rfl ?_
                  refine Ev.aload_n dX7_copy_110 rfl rfl ?_
                  refine gf_X7_60 rfl dX7_copy_111 ltc_0 shc_0 rfc_0_6 ?_
                  refine gf_X7_171 rfl dX7_copy_114 ltc_250 shc_250 rfc_250_1 ?_
                  refine Ev.iload_n dX7_copy_117 rfl rfl ?_
                  refine Ev.maload dX7_copy_118 ltc_252 shc_252 (by decide) (by omega) (by omega) (rf_tc (by omega)) ?_
                  refine Ev.iload dX7_copy_119 rfl ?_
                  refine Ev.iload dX7_copy_121 rfl ?_
                  refine Ev.copyi dX7_copy_123 (tbl_i 269 (by decide +kernel)) (by decide) (by decide) (by decide) (lt_tc (by omega)) (sh_tc (by omega)) (lt_tc (by omega)) (sh_tc (by omega)) (by omega) (by omega) (by omega) (by omega) (by omega) ?_
                  refine Ev.mem (τ := cpy σ (253 + kt) (253 + ku) ki kj kn) (by simp only [Int.toNat_natCast]) ?_
                  refine Ev.aload_n dX7_copy_126 rfl rfl ?_
                  refine Ev.callV_V (M2 := mX7_letRangesBeAsTold) (args2 := []) (rcv := 0) (q := (RX7, TX7, 20)) (ci := 7) dX7_copy_127 okX7_letRangesBeAsTold lk_X7_91 ovX7_letRangesBeAsTold.1.1 ovX7_letRangesBeAsTold.1.2 ovX7_letRangesBeAsTold.2 (by decide) rfl rfl ltc_0 shc_0 rfl (Nat.le_of_ble_eq_true rfl) (Nat.le_of_ble_eq_true rfl) (s7_asTold (cpy σ (253 + kt) (253 + ku) ki kj kn)) ?_ rfl
                  refine Ev.iload dX7_copy_130 rfl ?_
                  exact Ev.ireturn dX7_copy_132 rfl (rE (by have hk3n : TVc (cpy (cpy σ (253 + kt) (253 + ku) ki kj kn) 1 2 0 0 10) ((sB s).1, updF (sB s).2 ku (cpT ((sB s).2 kt) ((sB s).2 ku) ki kj kn)) := tv_set hk3 ((cpy_ne (by decide)).trans (cpy_ne (by omega))) (fun u hu hne => (cpy_ne (by omega)).trans (cpy_ne (by omega))) (fun j hj => by rw [cpy_ne (by omega)]; unfold cpT; by_cases e : kj ≤ j ∧ j < kj + kn; (rw [cpy_in e.1 e.2, if_pos e]; exact (hk3 kt (by omega)).2.2 _ (by omega)); (rw [cpy_out e, if_neg e]; exact (hk3 ku (by omega)).2.2 j hj)); unfold CP o_copy; (repeat rw [Int.toNat_natCast]); rw [ifP_f (fun z => z ⟨⟨by omega, by omega⟩, ⟨by omega, by omega⟩, by omega⟩), ifP_f (by omega), ifP_f (fun z => z.elim q43 q54), ifP_f (by omega)]; exact ⟨rfl, ⟨⟨hU, ((congrFun (cpy_ne (by decide)) 2).trans ((congrFun (cpy_ne (by omega)) 2).trans hk1.2.1)), (told_av hU (hk1.2.2.1.cg (fun x _ => (congrFun ((cpy_ne (by omega)).trans rfl) x)))).1, (told_av hU (hk1.2.2.1.cg (fun x _ => (congrFun ((cpy_ne (by omega)).trans rfl) x)))).2⟩, (hk2.cg ((congrFun (cpy_ne (by decide)) 4).trans ((congrFun (cpy_ne (by omega)) 4).trans rfl)) ((congrFun (cpy_ne (by decide)) 5).trans ((congrFun (cpy_ne (by omega)) 5).trans rfl)) (fun c q1 q2 => ((cpy_ne (Nat.ne_of_gt (Nat.lt_of_lt_of_le (show 2 < 26 by decide) q1))).trans ((cpy_ne (by omega)).trans rfl)))), hk3n, (hk4.cg (fun c q1 q2 _ => ((cpy_ne (Nat.ne_of_gt (Nat.lt_of_lt_of_le (show 2 < 4 by decide) q1))).trans ((cpy_ne (by omega)).trans rfl)))), (hk5.cg ((congrFun (cpy_ne (by decide)) 9).trans ((congrFun (cpy_ne (by omega)) 9).trans rfl)) ((cpy_ne (by decide)).trans ((cpy_ne (by omega)).trans rfl))), (hk6.cg ((congrFun (cpy_ne (by decide)) 11).trans ((congrFun (cpy_ne (by omega)) 11).trans rfl)) ((cpy_ne (by decide)).trans ((cpy_ne (by omega)).trans rfl))), (hk7.cg ((congrFun (cpy_ne (by decide)) 14).trans ((congrFun (cpy_ne (by omega)) 14).trans rfl)) ((cpy_ne (by decide)).trans ((cpy_ne (by omega)).trans rfl)) (fun c q1 q2 => ((cpy_ne (Nat.ne_of_gt (Nat.lt_of_lt_of_le (show 2 < 90 by decide) q1))).trans ((cpy_ne (by omega)).trans rfl)))), ((congrFun (cpy_ne (by decide)) 15).trans ((congrFun (cpy_ne (by omega)) 15).trans hk8)), ((congrFun (cpy_ne (by decide)) 0).trans ((congrFun (cpy_ne (by omega)) 0).trans hk9))⟩, (fun c q1 => ((cpy_ne (Nat.ne_of_gt (Nat.lt_of_lt_of_le (show 2 < 272 by decide) q1))).trans ((cpy_ne (by omega)).trans rfl)))⟩))
                · skip
                  have q90 := bI_0.mp h90
                  refine Ev.aload_n dX7_copy_93 rfl rfl ?_
                  refine Ev.bipush (n := -12) (by decide) dX7_copy_94 ?_
                  refine Ev.callV_I (M2 := mX7_found) (args2 := [vI (-12)]) (rcv := 0) (q := (RX7, TX7, 20)) (ci := 7) dX7_copy_96 okX7_found lk_X7_128 ovX7_found.1.1 ovX7_found.1.2 ovX7_found.2 (by decide) rfl rfl ltc_0 shc_0 rfl (Nat.le_of_ble_eq_true rfl) (Nat.le_of_ble_eq_true rfl) (s7_found σ (-12) (sF s) hk8) ?_ rfl
                  exact Ev.ireturn dX7_copy_99 rfl (rE (by unfold CP o_copy; (repeat rw [Int.toNat_natCast]); rw [ifP_f (fun z => z ⟨⟨by omega, by omega⟩, ⟨by omega, by omega⟩, by omega⟩), ifP_f (by omega), ifP_f (fun z => z.elim q43 q54), ifP_t (by omega)]; exact ⟨rfl, hC.found, (fun c hc => upC_ne (by omega))⟩))
            · skip
              have q54 := bI_1.mp h54
              refine Ev.aload_n dX7_copy_57 rfl rfl ?_
              refine Ev.bipush (n := -11) (by decide) dX7_copy_58 ?_
              refine Ev.callV_I (M2 := mX7_found) (args2 := [vI (-11)]) (rcv := 0) (q := (RX7, TX7, 20)) (ci := 7) dX7_copy_60 okX7_found lk_X7_128 ovX7_found.1.1 ovX7_found.1.2 ovX7_found.2 (by decide) rfl rfl ltc_0 shc_0 rfl (Nat.le_of_ble_eq_true rfl) (Nat.le_of_ble_eq_true rfl) (s7_found σ (-11) (sF s) hk8) ?_ rfl
              exact Ev.ireturn dX7_copy_63 rfl (rE (by unfold CP o_copy; (repeat rw [Int.toNat_natCast]); rw [ifP_f (fun z => z ⟨⟨by omega, by omega⟩, ⟨by omega, by omega⟩, by omega⟩), ifP_f (by omega), ifP_t (by first | exact Or.inl q43 | exact Or.inr q54)]; exact ⟨rfl, hC.found, (fun c hc => upC_ne (by omega))⟩))
        · skip
          refine Ev.bipush (n := -3) (by decide) dX7_copy_32 ?_
          exact Ev.ireturn dX7_copy_34 rfl (rE (by unfold CP o_copy; (repeat rw [Int.toNat_natCast]); rw [ifP_f (fun z => z ⟨⟨by omega, by omega⟩, ⟨by omega, by omega⟩, by omega⟩), ifP_t (by omega)]; exact ⟨rfl, hC, (fun _ _ => rfl)⟩))
      · skip
        refine Ev.bipush (n := -2) (by decide) dX7_copy_19 ?_
        exact Ev.ireturn dX7_copy_21 rfl (rE (by unfold CP o_copy; (repeat rw [Int.toNat_natCast]); rw [ifP_t (by first | exact fun z => absurd z.1 (by omega) | exact fun z => absurd z.2.1 (by omega) | exact fun z => absurd z.2.2 (by omega))]; exact ⟨rfl, hC, (fun _ _ => rfl)⟩))

