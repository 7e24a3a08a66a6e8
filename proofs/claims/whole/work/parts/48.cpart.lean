/-! THE CLASS: part, literal -/
set_option maxRecDepth 100000 in
set_option maxHeartbeats 4000000 in
theorem c_part {g : GC} (s : SS) (σ : Sg) (hC : CI s σ) (r : Int) (h_r : inR r) (x : Int) (h_x : inR x) (a : Int) (h_a : inR a) (b : Int) (h_b : inR b) : Ev g mX7_part 0 [some (vR (0)), some (vI (r)), some (vI (x)), some (vI (a)), some (vI (b)), none] [] (M0 (σ)) 0 0 (retE (CP σ (o_part s r x a b))) := by
  obtain ⟨hk1, hk2, hk3, hk4, hk5, hk6, hk7, hk8, hk9⟩ := id hC
  have hU := hk1.1
  have hN := hk2.1
  have hD := hk4.1
  have hM := hk7.1
  have hQ := hk5.1
  refine Ev.aload_n dX7_part_0 rfl rfl ?_
  refine Ev.iload_n dX7_part_1 rfl rfl ?_
  refine Ev.callV_I (M2 := mX7_isRule) (args2 := [vI (r)]) (rcv := 0) (q := (RX7, TX7, 20)) (ci := 7) dX7_part_2 okX7_isRule lk_X7_122 ovX7_isRule.1.1 ovX7_isRule.1.2 ovX7_isRule.2 (by decide) rfl rfl ltc_0 shc_0 rfl (Nat.le_of_ble_eq_true rfl) (Nat.le_of_ble_eq_true rfl) (s7_isRule σ (sN s) hN hk2.2.1 (r) ⟨by omega, by omega⟩) ?_ rfl
  refine Ev.if_eq (tgt := 16) bI_inR dX7_part_5 (by decide) (fun h5 => ?_) (fun h5 => ?_)
  · skip
    have q5 := bI_0.mp h5
    refine Ev.iconst dX7_part_16 ?_
    exact Ev.ireturn dX7_part_17 rfl (rE (by unfold CP o_part; (repeat rw [Int.toNat_natCast]); rw [ifP_t (by first | exact fun z => absurd z.1 (by omega) | exact fun z => absurd z.2 (by omega))]; exact ⟨rfl, hC, (fun _ _ => rfl)⟩))
  · skip
    have q5 := bI_1.mp h5
    refine Ev.aload_n dX7_part_8 rfl rfl ?_
    refine Ev.iload_n dX7_part_9 rfl rfl ?_
    refine Ev.callV_I (M2 := mX7_isUnknown) (args2 := [vI (x)]) (rcv := 0) (q := (RX7, TX7, 20)) (ci := 7) dX7_part_10 okX7_isUnknown lk_X7_94 ovX7_isUnknown.1.1 ovX7_isUnknown.1.2 ovX7_isUnknown.2 (by decide) rfl rfl ltc_0 shc_0 rfl (Nat.le_of_ble_eq_true rfl) (Nat.le_of_ble_eq_true rfl) (s7_isUnknown σ (sU s) hU hk1.2.1 (x) ⟨by omega, by omega⟩) ?_ rfl
    refine Ev.if_ne (tgt := 18) bI_inR dX7_part_13 (by decide) (fun h13 => ?_) (fun h13 => ?_)
    · skip
      have q13 := bI_1.mp h13
      obtain ⟨kr, rfl⟩ : ∃ n_ : Nat, r = (n_ : Int) := ⟨r.toNat, by omega⟩
      obtain ⟨kx, rfl⟩ : ∃ n_ : Nat, x = (n_ : Int) := ⟨x.toNat, by omega⟩
      have hRk := hk2.2.2.2.2.1 kr (by omega)
      have hn6 := hRk.2.1.2.1
      have hkd5 := hRk.2.1.1
      refine Ev.aload_n dX7_part_18 rfl rfl ?_
      refine gf_X7_18 rfl dX7_part_19 ltc_0 shc_0 rfc_0_3 ?_
      refine Ev.iload_n dX7_part_22 rfl rfl ?_
      refine Ev.raload dX7_part_23 ltc_3 shc_3 (by decide) (by omega) (by omega) (rf_rule (by omega)) ?_
      refine Ev.astore (pl' := [some (vR (0)), some (vI (((kr : Nat) : Int))), some (vI (((kx : Nat) : Int))), some (vI (a)), some (vI (b)), some (vR (26 + 4 * kr))]) dX7_part_24 (Nat.le_of_ble_eq_true rfl) rfl ?_
      refine Ev.aload dX7_part_26 rfl ?_
      refine gf_X7_125 (x := ((rK (sR s kr) : Nat) : Int)) rfl dX7_part_28 (lt_rc (by omega)) (sh_rc (by omega)) (hk2.2.2.2.2.1 kr (by omega)).1.1 ?_
      refine Ev.iconst dX7_part_31 ?_
      refine Ev.icmp_ne (tgt := 42) ⟨by omega, by omega⟩ ⟨by decide, by decide⟩ dX7_part_32 (by decide) (fun h32 => ?_) (fun h32 => ?_)
      · skip
        refine Ev.aload dX7_part_42 rfl ?_
        refine gf_X7_125 (x := ((rK (sR s kr) : Nat) : Int)) rfl dX7_part_44 (lt_rc (by omega)) (sh_rc (by omega)) (hk2.2.2.2.2.1 kr (by omega)).1.1 ?_
        refine Ev.iload_n dX7_part_47 rfl rfl ?_
        refine Ev.iload dX7_part_48 rfl ?_
        refine Ev.callS_I (M2 := mX7_mayBePart) (args2 := [vI (((rK (sR s kr) : Nat) : Int)), vI (a), vI (b)]) dX7_part_50 okX7_mayBePart lk_X7_131 osX7_mayBePart.1 osX7_mayBePart.2 (by decide) rfl (Nat.le_of_ble_eq_true rfl) (Nat.le_of_ble_eq_true rfl) (s7_mayBePart σ (rK (sR s kr)) a b hkd5 h_a h_b) ?_ rfl
        refine Ev.if_ne (tgt := 59) bI_inR dX7_part_53 (by decide) (fun h53 => ?_) (fun h53 => ?_)
        · skip
          have q53 := bI_1.mp h53
          refine Ev.aload_n dX7_part_59 rfl rfl ?_
          refine gf_X7_25 rfl dX7_part_60 ltc_0 shc_0 rfc_0_7 ?_
          refine gf_X7_85 (x := ((sD s : Nat) : Int)) rfl dX7_part_63 ltc_4 shc_4 hk4.2.1 ?_
          refine Ev.if_gt (tgt := 78) ⟨by omega, by omega⟩ dX7_part_66 (by decide) (fun h66 => ?_) (fun h66 => ?_)
          · skip
            refine Ev.bipush (n := -3) (by decide) dX7_part_78 ?_
            exact Ev.ireturn dX7_part_80 rfl (rE (by unfold CP o_part; (repeat rw [Int.toNat_natCast]); rw [ifP_f (fun z => z ⟨⟨by omega, by omega⟩, ⟨by omega, by omega⟩⟩), ifP_f (by show ¬ (rK (sR s kr) = 5); omega), ifP_f (fun z => z q53), ifP_t (by first | exact Or.inl (by omega) | exact Or.inr q75)]; exact ⟨rfl, hC, (fun _ _ => rfl)⟩))
          · skip
            refine Ev.aload dX7_part_69 rfl ?_
            refine Ev.iload_n dX7_part_71 rfl rfl ?_
            refine Ev.callV_I (M2 := mX3_isOf) (args2 := [vI (((kx : Nat) : Int))]) (rcv := 26 + 4 * kr) (q := (RX3, TX3, 8)) (ci := 3) dX7_part_72 okX3_isOf lk_X7_134 ovX3_isOf.1.1 ovX3_isOf.1.2 ovX3_isOf.2 (by decide) rfl rfl (lt_rc (by omega)) (sh_rc (by omega)) rfl (Nat.le_of_ble_eq_true rfl) (Nat.le_of_ble_eq_true rfl) (s3_isOf σ kr (sU s) (sR s kr) (by omega) hRk.1 hRk.2 kx (by omega)) ?_ rfl
            refine Ev.if_eq (tgt := 81) bI_inR dX7_part_75 (by decide) (fun h75 => ?_) (fun h75 => ?_)
            · skip
              have q75 := bI_0.mp h75
              refine Ev.aload dX7_part_81 rfl ?_
              refine gf_X7_137 (x := ((rN (sR s kr) : Nat) : Int)) rfl dX7_part_83 (lt_rc (by omega)) (sh_rc (by omega)) (hk2.2.2.2.2.1 kr (by omega)).1.2.2.2.1 ?_
              refine Ev.bipush (n := 6) (by decide) dX7_part_86 ?_
              refine Ev.icmp_lt (tgt := 94) ⟨by omega, by omega⟩ ⟨by decide, by decide⟩ dX7_part_88 (by decide) (fun h88 => ?_) (fun h88 => ?_)
              · skip
                refine Ev.aload dX7_part_94 rfl ?_
                refine Ev.iload_n dX7_part_96 rfl rfl ?_
                refine Ev.iload_n dX7_part_97 rfl rfl ?_
                refine Ev.iload dX7_part_98 rfl ?_
                refine Ev.callV_V (M2 := mX3_join) (args2 := [vI (((kx : Nat) : Int)), vI (a), vI (b)]) (rcv := 26 + 4 * kr) (q := (RX3, TX3, 8)) (ci := 3) dX7_part_100 okX3_join lk_X7_140 ovX3_join.1.1 ovX3_join.1.2 ovX3_join.2 (by decide) rfl rfl (lt_rc (by omega)) (sh_rc (by omega)) rfl (Nat.le_of_ble_eq_true rfl) (Nat.le_of_ble_eq_true rfl) (s3_join σ kr (by omega) (rN (sR s kr)) (memM (sR s kr)) kx (by omega) hRk.1.2.2.2.1 hRk.1.2.2.2.2.1 memM_lt (by omega) (a) (b)) ?_ rfl
                obtain ⟨ρ, hρ⟩ : ∃ ρ : Sg, ρ = upC (upC (upC (upC (upC σ (26 + 4 * kr + 1) (rN (sR s kr)) (kx : Int)) (26 + 4 * kr + 2) (rN (sR s kr)) (a)) (26 + 4 * kr + 3) (rN (sR s kr)) (b)) (26 + 4 * kr) 3 ((rN (sR s kr) + 1 : Nat) : Int)) (26 + 4 * kr) 4 ((memM (sR s kr) ||| 2 ^ kx : Nat) : Int) := ⟨_, rfl⟩
                refine Ev.mem (τ := ρ) hρ.symm ?_
                refine Ev.aload_n dX7_part_103 rfl rfl ?_
                refine Ev.callV_V (M2 := mX7_letRangesBeAsTold) (args2 := []) (rcv := 0) (q := (RX7, TX7, 20)) (ci := 7) dX7_part_104 okX7_letRangesBeAsTold lk_X7_91 ovX7_letRangesBeAsTold.1.1 ovX7_letRangesBeAsTold.1.2 ovX7_letRangesBeAsTold.2 (by decide) rfl rfl ltc_0 shc_0 rfl (Nat.le_of_ble_eq_true rfl) (Nat.le_of_ble_eq_true rfl) (s7_asTold ρ) ?_ rfl
                refine Ev.aload dX7_part_107 rfl ?_
                refine gf_X7_137 (x := (((rN (sR s kr) + 1) : Nat) : Int)) rfl dX7_part_109 (lt_rc (by omega)) (sh_rc (by omega)) (show (cpy (ρ) 1 2 0 0 10) (26 + 4 * kr) 3 = (((rN (sR s kr) + 1) : Nat) : Int) from ((congrFun (cpy_ne (by omega)) 3).trans ((congrFun (congrFun hρ _) 3).trans ((upC_self (by decide)).trans upC_at)))) ?_
                exact Ev.ireturn dX7_part_112 rfl (rE (by unfold CP o_part; (repeat rw [Int.toNat_natCast]); rw [ifP_f (fun z => z ⟨⟨by omega, by omega⟩, ⟨by omega, by omega⟩⟩), ifP_f (by show ¬ (rK (sR s kr) = 5); omega), ifP_f (fun z => z q53), ifP_f (by rintro (z | ⟨j, z1, z2⟩); omega; exact q75 ⟨j, z1, z2⟩), ifP_f (by show ¬ 6 ≤ rN (sR s kr); omega)]; exact ⟨(by show _ = ((rN (sR s kr) : Nat) : Int) + 1; omega), ⟨⟨hU, ((congrFun (cpy_ne (by decide)) 2).trans ((congrFun (congrFun hρ 0) 2).trans ((congrFun (upC_ne (by omega)) 2).trans ((congrFun (upC_ne (by omega)) 2).trans ((congrFun (upC_ne (by omega)) 2).trans ((congrFun (upC_ne (by omega)) 2).trans ((congrFun (upC_ne (by omega)) 2).trans hk1.2.1))))))), (told_av hU (hk1.2.2.1.cg (fun x _ => (congrFun ((congrFun hρ 1).trans ((upC_ne (by omega)).trans ((upC_ne (by omega)).trans ((upC_ne (by omega)).trans ((upC_ne (by omega)).trans ((upC_ne (by omega)).trans rfl)))))) x)))).1, (told_av hU (hk1.2.2.1.cg (fun x _ => (congrFun ((congrFun hρ 1).trans ((upC_ne (by omega)).trans ((upC_ne (by omega)).trans ((upC_ne (by omega)).trans ((upC_ne (by omega)).trans ((upC_ne (by omega)).trans rfl)))))) x)))).2⟩, (k2_add hk2 (show kx < 10 by omega) (show kr < sN s by omega) (hRk.2.add (by omega) (by omega) ⟨fun z => ⟨(q53.1 z).1, (q53.1 z).2.1⟩, fun z => q53.2 z, fun z => by omega⟩ (fun _ k hk e => q75 ⟨k, hk, e⟩)) ((congrFun (cpy_ne (by decide)) 4).trans ((congrFun (congrFun hρ 0) 4).trans ((congrFun (upC_ne (by omega)) 4).trans ((congrFun (upC_ne (by omega)) 4).trans ((congrFun (upC_ne (by omega)) 4).trans ((congrFun (upC_ne (by omega)) 4).trans ((congrFun (upC_ne (by omega)) 4).trans rfl))))))) ((congrFun (cpy_ne (by decide)) 5).trans ((congrFun (congrFun hρ 0) 5).trans ((congrFun (upC_ne (by omega)) 5).trans ((congrFun (upC_ne (by omega)) 5).trans ((congrFun (upC_ne (by omega)) 5).trans ((congrFun (upC_ne (by omega)) 5).trans ((congrFun (upC_ne (by omega)) 5).trans rfl))))))) (fun c q1 q2 => ((cpy_ne (Nat.ne_of_gt (Nat.lt_of_lt_of_le (show 2 < 26 by decide) q1))).trans ((congrFun hρ c).trans rfl)))), (hk3.cg (fun c q1 q2 => ((cpy_ne (Nat.ne_of_gt (Nat.lt_of_lt_of_le (show 2 < 251 by decide) q1))).trans ((congrFun hρ c).trans ((upC_ne (by omega)).trans ((upC_ne (by omega)).trans ((upC_ne (by omega)).trans ((upC_ne (by omega)).trans ((upC_ne (by omega)).trans rfl))))))))), (hk4.cg (fun c q1 q2 _ => ((cpy_ne (Nat.ne_of_gt (Nat.lt_of_lt_of_le (show 2 < 4 by decide) q1))).trans ((congrFun hρ c).trans ((upC_ne (by omega)).trans ((upC_ne (by omega)).trans ((upC_ne (by omega)).trans ((upC_ne (by omega)).trans ((upC_ne (by omega)).trans rfl))))))))), (hk5.cg ((congrFun (cpy_ne (by decide)) 9).trans ((congrFun (congrFun hρ 0) 9).trans ((congrFun (upC_ne (by omega)) 9).trans ((congrFun (upC_ne (by omega)) 9).trans ((congrFun (upC_ne (by omega)) 9).trans ((congrFun (upC_ne (by omega)) 9).trans ((congrFun (upC_ne (by omega)) 9).trans rfl))))))) ((cpy_ne (by decide)).trans ((congrFun hρ 20).trans ((upC_ne (by omega)).trans ((upC_ne (by omega)).trans ((upC_ne (by omega)).trans ((upC_ne (by omega)).trans ((upC_ne (by omega)).trans rfl)))))))), (hk6.cg ((congrFun (cpy_ne (by decide)) 11).trans ((congrFun (congrFun hρ 0) 11).trans ((congrFun (upC_ne (by omega)) 11).trans ((congrFun (upC_ne (by omega)) 11).trans ((congrFun (upC_ne (by omega)) 11).trans ((congrFun (upC_ne (by omega)) 11).trans ((congrFun (upC_ne (by omega)) 11).trans rfl))))))) ((cpy_ne (by decide)).trans ((congrFun hρ 21).trans ((upC_ne (by omega)).trans ((upC_ne (by omega)).trans ((upC_ne (by omega)).trans ((upC_ne (by omega)).trans ((upC_ne (by omega)).trans rfl)))))))), (hk7.cg ((congrFun (cpy_ne (by decide)) 14).trans ((congrFun (congrFun hρ 0) 14).trans ((congrFun (upC_ne (by omega)) 14).trans ((congrFun (upC_ne (by omega)) 14).trans ((congrFun (upC_ne (by omega)) 14).trans ((congrFun (upC_ne (by omega)) 14).trans ((congrFun (upC_ne (by omega)) 14).trans rfl))))))) ((cpy_ne (by decide)).trans ((congrFun hρ 23).trans ((upC_ne (by omega)).trans ((upC_ne (by omega)).trans ((upC_ne (by omega)).trans ((upC_ne (by omega)).trans ((upC_ne (by omega)).trans rfl))))))) (fun c q1 q2 => ((cpy_ne (Nat.ne_of_gt (Nat.lt_of_lt_of_le (show 2 < 90 by decide) q1))).trans ((congrFun hρ c).trans ((upC_ne (by omega)).trans ((upC_ne (by omega)).trans ((upC_ne (by omega)).trans ((upC_ne (by omega)).trans ((upC_ne (by omega)).trans rfl))))))))), ((congrFun (cpy_ne (by decide)) 15).trans ((congrFun (congrFun hρ 0) 15).trans ((congrFun (upC_ne (by omega)) 15).trans ((congrFun (upC_ne (by omega)) 15).trans ((congrFun (upC_ne (by omega)) 15).trans ((congrFun (upC_ne (by omega)) 15).trans ((congrFun (upC_ne (by omega)) 15).trans hk8))))))), ((congrFun (cpy_ne (by decide)) 0).trans ((congrFun (congrFun hρ 263) 0).trans ((congrFun (upC_ne (by omega)) 0).trans ((congrFun (upC_ne (by omega)) 0).trans ((congrFun (upC_ne (by omega)) 0).trans ((congrFun (upC_ne (by omega)) 0).trans ((congrFun (upC_ne (by omega)) 0).trans hk9)))))))⟩, (fun c q1 => ((cpy_ne (Nat.ne_of_gt (Nat.lt_of_lt_of_le (show 2 < 272 by decide) q1))).trans ((congrFun hρ c).trans ((upC_ne (by omega)).trans ((upC_ne (by omega)).trans ((upC_ne (by omega)).trans ((upC_ne (by omega)).trans ((upC_ne (by omega)).trans rfl))))))))⟩))
              · skip
                refine Ev.bipush (n := -4) (by decide) dX7_part_91 ?_
                exact Ev.ireturn dX7_part_93 rfl (rE (by unfold CP o_part; (repeat rw [Int.toNat_natCast]); rw [ifP_f (fun z => z ⟨⟨by omega, by omega⟩, ⟨by omega, by omega⟩⟩), ifP_f (by show ¬ (rK (sR s kr) = 5); omega), ifP_f (fun z => z q53), ifP_f (by rintro (z | ⟨j, z1, z2⟩); omega; exact q75 ⟨j, z1, z2⟩), ifP_t (by show 6 ≤ rN (sR s kr); omega)]; exact ⟨rfl, hC, (fun _ _ => rfl)⟩))
            · skip
              have q75 := bI_1.mp h75
              refine Ev.bipush (n := -3) (by decide) dX7_part_78 ?_
              exact Ev.ireturn dX7_part_80 rfl (rE (by unfold CP o_part; (repeat rw [Int.toNat_natCast]); rw [ifP_f (fun z => z ⟨⟨by omega, by omega⟩, ⟨by omega, by omega⟩⟩), ifP_f (by show ¬ (rK (sR s kr) = 5); omega), ifP_f (fun z => z q53), ifP_t (by first | exact Or.inl (by omega) | exact Or.inr q75)]; exact ⟨rfl, hC, (fun _ _ => rfl)⟩))
        · skip
          have q53 := bI_0.mp h53
          refine Ev.bipush (n := -2) (by decide) dX7_part_56 ?_
          exact Ev.ireturn dX7_part_58 rfl (rE (by unfold CP o_part; (repeat rw [Int.toNat_natCast]); rw [ifP_f (fun z => z ⟨⟨by omega, by omega⟩, ⟨by omega, by omega⟩⟩), ifP_f (by show ¬ (rK (sR s kr) = 5); omega), ifP_t q53]; exact ⟨rfl, hC, (fun _ _ => rfl)⟩))
      · skip
        refine Ev.aload_n dX7_part_35 rfl rfl ?_
        refine Ev.bipush (n := -13) (by decide) dX7_part_36 ?_
        refine Ev.callV_I (M2 := mX7_found) (args2 := [vI (-13)]) (rcv := 0) (q := (RX7, TX7, 20)) (ci := 7) dX7_part_38 okX7_found lk_X7_128 ovX7_found.1.1 ovX7_found.1.2 ovX7_found.2 (by decide) rfl rfl ltc_0 shc_0 rfl (Nat.le_of_ble_eq_true rfl) (Nat.le_of_ble_eq_true rfl) (s7_found σ (-13) (sF s) hk8) ?_ rfl
        exact Ev.ireturn dX7_part_41 rfl (rE (by unfold CP o_part; (repeat rw [Int.toNat_natCast]); rw [ifP_f (fun z => z ⟨⟨by omega, by omega⟩, ⟨by omega, by omega⟩⟩), ifP_t (by show rK (sR s kr) = 5; omega)]; exact ⟨rfl, hC.found, (fun c hc => upC_ne (by omega))⟩))
    · skip
      have q13 := bI_0.mp h13
      refine Ev.iconst dX7_part_16 ?_
      exact Ev.ireturn dX7_part_17 rfl (rE (by unfold CP o_part; (repeat rw [Int.toNat_natCast]); rw [ifP_t (by first | exact fun z => absurd z.1 (by omega) | exact fun z => absurd z.2 (by omega))]; exact ⟨rfl, hC, (fun _ _ => rfl)⟩))

set_option maxRecDepth 100000 in
set_option maxHeartbeats 4000000 in
theorem c_literal {g : GC} (s : SS) (σ : Sg) (hC : CI s σ) (r : Int) (h_r : inR r) (x : Int) (h_x : inR x) (k : Int) (h_k : inR k) (v : Int) (h_v : inR v) : Ev g mX7_literal 0 [some (vR (0)), some (vI (r)), some (vI (x)), some (vI (k)), some (vI (v)), none] [] (M0 (σ)) 0 0 (retE (CP σ (o_literal s r x k v))) := by
  obtain ⟨hk1, hk2, hk3, hk4, hk5, hk6, hk7, hk8, hk9⟩ := id hC
  have hU := hk1.1
  have hN := hk2.1
  have hD := hk4.1
  have hM := hk7.1
  have hQ := hk5.1
  refine Ev.aload_n dX7_literal_0 rfl rfl ?_
  refine Ev.iload_n dX7_literal_1 rfl rfl ?_
  refine Ev.callV_I (M2 := mX7_isRule) (args2 := [vI (r)]) (rcv := 0) (q := (RX7, TX7, 20)) (ci := 7) dX7_literal_2 okX7_isRule lk_X7_122 ovX7_isRule.1.1 ovX7_isRule.1.2 ovX7_isRule.2 (by decide) rfl rfl ltc_0 shc_0 rfl (Nat.le_of_ble_eq_true rfl) (Nat.le_of_ble_eq_true rfl) (s7_isRule σ (sN s) hN hk2.2.1 (r) ⟨by omega, by omega⟩) ?_ rfl
  refine Ev.if_eq (tgt := 16) bI_inR dX7_literal_5 (by decide) (fun h5 => ?_) (fun h5 => ?_)
  · skip
    have q5 := bI_0.mp h5
    refine Ev.iconst dX7_literal_16 ?_
    exact Ev.ireturn dX7_literal_17 rfl (rE (by unfold CP o_literal; (repeat rw [Int.toNat_natCast]); rw [ifP_t (by first | exact fun z => absurd z.1 (by omega) | exact fun z => absurd z.2 (by omega))]; exact ⟨rfl, hC, (fun _ _ => rfl)⟩))
  · skip
    have q5 := bI_1.mp h5
    refine Ev.aload_n dX7_literal_8 rfl rfl ?_
    refine Ev.iload_n dX7_literal_9 rfl rfl ?_
    refine Ev.callV_I (M2 := mX7_isUnknown) (args2 := [vI (x)]) (rcv := 0) (q := (RX7, TX7, 20)) (ci := 7) dX7_literal_10 okX7_isUnknown lk_X7_94 ovX7_isUnknown.1.1 ovX7_isUnknown.1.2 ovX7_isUnknown.2 (by decide) rfl rfl ltc_0 shc_0 rfl (Nat.le_of_ble_eq_true rfl) (Nat.le_of_ble_eq_true rfl) (s7_isUnknown σ (sU s) hU hk1.2.1 (x) ⟨by omega, by omega⟩) ?_ rfl
    refine Ev.if_ne (tgt := 18) bI_inR dX7_literal_13 (by decide) (fun h13 => ?_) (fun h13 => ?_)
    · skip
      have q13 := bI_1.mp h13
      obtain ⟨kr, rfl⟩ : ∃ n_ : Nat, r = (n_ : Int) := ⟨r.toNat, by omega⟩
      obtain ⟨kx, rfl⟩ : ∃ n_ : Nat, x = (n_ : Int) := ⟨x.toNat, by omega⟩
      have hRk := hk2.2.2.2.2.1 kr (by omega)
      have hn6 := hRk.2.1.2.1
      have hkd5 := hRk.2.1.1
      refine Ev.aload_n dX7_literal_18 rfl rfl ?_
      refine gf_X7_18 rfl dX7_literal_19 ltc_0 shc_0 rfc_0_3 ?_
      refine Ev.iload_n dX7_literal_22 rfl rfl ?_
      refine Ev.raload dX7_literal_23 ltc_3 shc_3 (by decide) (by omega) (by omega) (rf_rule (by omega)) ?_
      refine Ev.astore (pl' := [some (vR (0)), some (vI (((kr : Nat) : Int))), some (vI (((kx : Nat) : Int))), some (vI (k)), some (vI (v)), some (vR (26 + 4 * kr))]) dX7_literal_24 (Nat.le_of_ble_eq_true rfl) rfl ?_
      refine Ev.aload dX7_literal_26 rfl ?_
      refine gf_X7_125 (x := ((rK (sR s kr) : Nat) : Int)) rfl dX7_literal_28 (lt_rc (by omega)) (sh_rc (by omega)) (hk2.2.2.2.2.1 kr (by omega)).1.1 ?_
      refine Ev.iconst dX7_literal_31 ?_
      refine Ev.icmp_eq (tgt := 42) ⟨by omega, by omega⟩ ⟨by decide, by decide⟩ dX7_literal_32 (by decide) (fun h32 => ?_) (fun h32 => ?_)
      · skip
        refine Ev.iload_n dX7_literal_42 rfl rfl ?_
        refine Ev.iload dX7_literal_43 rfl ?_
        refine Ev.callS_I (M2 := mX7_isLiteral) (args2 := [vI (k), vI (v)]) dX7_literal_45 okX7_isLiteral lk_X7_143 osX7_isLiteral.1 osX7_isLiteral.2 (by decide) rfl (Nat.le_of_ble_eq_true rfl) (Nat.le_of_ble_eq_true rfl) (s7_isLiteral σ (k) (v) ⟨by omega, by omega⟩ ⟨by omega, by omega⟩) ?_ rfl
        refine Ev.if_ne (tgt := 54) bI_inR dX7_literal_48 (by decide) (fun h48 => ?_) (fun h48 => ?_)
        · skip
          have q48 := bI_1.mp h48
          obtain ⟨kv, rfl⟩ : ∃ n_ : Nat, v = (n_ : Int) := ⟨v.toNat, by omega⟩
          refine Ev.aload_n dX7_literal_54 rfl rfl ?_
          refine gf_X7_25 rfl dX7_literal_55 ltc_0 shc_0 rfc_0_7 ?_
          refine gf_X7_85 (x := ((sD s : Nat) : Int)) rfl dX7_literal_58 ltc_4 shc_4 hk4.2.1 ?_
          refine Ev.if_le (tgt := 67) ⟨by omega, by omega⟩ dX7_literal_61 (by decide) (fun h61 => ?_) (fun h61 => ?_)
          · skip
            refine Ev.aload dX7_literal_67 rfl ?_
            refine gf_X7_137 (x := ((rN (sR s kr) : Nat) : Int)) rfl dX7_literal_69 (lt_rc (by omega)) (sh_rc (by omega)) (hk2.2.2.2.2.1 kr (by omega)).1.2.2.2.1 ?_
            refine Ev.bipush (n := 6) (by decide) dX7_literal_72 ?_
            refine Ev.icmp_lt (tgt := 80) ⟨by omega, by omega⟩ ⟨by decide, by decide⟩ dX7_literal_74 (by decide) (fun h74 => ?_) (fun h74 => ?_)
            · skip
              refine Ev.aload dX7_literal_80 rfl ?_
              refine Ev.iload_n dX7_literal_82 rfl rfl ?_
              refine Ev.iload_n dX7_literal_83 rfl rfl ?_
              refine Ev.iload dX7_literal_84 rfl ?_
              refine Ev.callS_I (M2 := mX7_numbersSo) (args2 := [vI (k), vI (((kv : Nat) : Int))]) dX7_literal_86 okX7_numbersSo lk_X7_147 osX7_numbersSo.1 osX7_numbersSo.2 (by decide) rfl (Nat.le_of_ble_eq_true rfl) (Nat.le_of_ble_eq_true rfl) (s7_numbersSo σ (k) kv (by omega) (by omega)) ?_ rfl
              refine Ev.iconst dX7_literal_89 ?_
              refine Ev.callV_V (M2 := mX3_join) (args2 := [vI (((kx : Nat) : Int)), vI (((nS (k) kv : Nat) : Int)), vI (0)]) (rcv := 26 + 4 * kr) (q := (RX3, TX3, 8)) (ci := 3) dX7_literal_90 okX3_join lk_X7_140 ovX3_join.1.1 ovX3_join.1.2 ovX3_join.2 (by decide) rfl rfl (lt_rc (by omega)) (sh_rc (by omega)) rfl (Nat.le_of_ble_eq_true rfl) (Nat.le_of_ble_eq_true rfl) (s3_join σ kr (by omega) (rN (sR s kr)) (memM (sR s kr)) kx (by omega) hRk.1.2.2.2.1 hRk.1.2.2.2.2.1 memM_lt (by omega) ((nS k kv : Int)) (0)) ?_ rfl
              obtain ⟨ρ, hρ⟩ : ∃ ρ : Sg, ρ = upC (upC (upC (upC (upC σ (26 + 4 * kr + 1) (rN (sR s kr)) (kx : Int)) (26 + 4 * kr + 2) (rN (sR s kr)) ((nS k kv : Int))) (26 + 4 * kr + 3) (rN (sR s kr)) (0)) (26 + 4 * kr) 3 ((rN (sR s kr) + 1 : Nat) : Int)) (26 + 4 * kr) 4 ((memM (sR s kr) ||| 2 ^ kx : Nat) : Int) := ⟨_, rfl⟩
              refine Ev.mem (τ := ρ) hρ.symm ?_
              refine Ev.aload_n dX7_literal_93 rfl rfl ?_
              refine Ev.callV_V (M2 := mX7_letRangesBeAsTold) (args2 := []) (rcv := 0) (q := (RX7, TX7, 20)) (ci := 7) dX7_literal_94 okX7_letRangesBeAsTold lk_X7_91 ovX7_letRangesBeAsTold.1.1 ovX7_letRangesBeAsTold.1.2 ovX7_letRangesBeAsTold.2 (by decide) rfl rfl ltc_0 shc_0 rfl (Nat.le_of_ble_eq_true rfl) (Nat.le_of_ble_eq_true rfl) (s7_asTold ρ) ?_ rfl
              refine Ev.aload dX7_literal_97 rfl ?_
              refine gf_X7_137 (x := (((rN (sR s kr) + 1) : Nat) : Int)) rfl dX7_literal_99 (lt_rc (by omega)) (sh_rc (by omega)) (show (cpy (ρ) 1 2 0 0 10) (26 + 4 * kr) 3 = (((rN (sR s kr) + 1) : Nat) : Int) from ((congrFun (cpy_ne (by omega)) 3).trans ((congrFun (congrFun hρ _) 3).trans ((upC_self (by decide)).trans upC_at)))) ?_
              exact Ev.ireturn dX7_literal_102 rfl (rE (by unfold CP o_literal; (repeat rw [Int.toNat_natCast]); rw [ifP_f (fun z => z ⟨⟨by omega, by omega⟩, ⟨by omega, by omega⟩⟩), ifP_f (by show ¬ (rK (sR s kr) ≠ 5); omega), ifP_f (fun z => z ⟨⟨by omega, by omega⟩, ⟨by omega, by omega⟩⟩), ifP_f (by omega), ifP_f (by show ¬ 6 ≤ rN (sR s kr); omega)]; exact ⟨(by show _ = ((rN (sR s kr) : Nat) : Int) + 1; omega), ⟨⟨hU, ((congrFun (cpy_ne (by decide)) 2).trans ((congrFun (congrFun hρ 0) 2).trans ((congrFun (upC_ne (by omega)) 2).trans ((congrFun (upC_ne (by omega)) 2).trans ((congrFun (upC_ne (by omega)) 2).trans ((congrFun (upC_ne (by omega)) 2).trans ((congrFun (upC_ne (by omega)) 2).trans hk1.2.1))))))), (told_av hU (hk1.2.2.1.cg (fun x _ => (congrFun ((congrFun hρ 1).trans ((upC_ne (by omega)).trans ((upC_ne (by omega)).trans ((upC_ne (by omega)).trans ((upC_ne (by omega)).trans ((upC_ne (by omega)).trans rfl)))))) x)))).1, (told_av hU (hk1.2.2.1.cg (fun x _ => (congrFun ((congrFun hρ 1).trans ((upC_ne (by omega)).trans ((upC_ne (by omega)).trans ((upC_ne (by omega)).trans ((upC_ne (by omega)).trans ((upC_ne (by omega)).trans rfl)))))) x)))).2⟩, (k2_add hk2 (show kx < 10 by omega) (show kr < sN s by omega) (hRk.2.add (by omega) (by omega) ⟨fun z => by omega, fun z => by omega, fun z => ⟨by omega, by have := nS_lt (k := k) (show kv < 16 by omega); omega⟩⟩ (fun z => by omega)) ((congrFun (cpy_ne (by decide)) 4).trans ((congrFun (congrFun hρ 0) 4).trans ((congrFun (upC_ne (by omega)) 4).trans ((congrFun (upC_ne (by omega)) 4).trans ((congrFun (upC_ne (by omega)) 4).trans ((congrFun (upC_ne (by omega)) 4).trans ((congrFun (upC_ne (by omega)) 4).trans rfl))))))) ((congrFun (cpy_ne (by decide)) 5).trans ((congrFun (congrFun hρ 0) 5).trans ((congrFun (upC_ne (by omega)) 5).trans ((congrFun (upC_ne (by omega)) 5).trans ((congrFun (upC_ne (by omega)) 5).trans ((congrFun (upC_ne (by omega)) 5).trans ((congrFun (upC_ne (by omega)) 5).trans rfl))))))) (fun c q1 q2 => ((cpy_ne (Nat.ne_of_gt (Nat.lt_of_lt_of_le (show 2 < 26 by decide) q1))).trans ((congrFun hρ c).trans rfl)))), (hk3.cg (fun c q1 q2 => ((cpy_ne (Nat.ne_of_gt (Nat.lt_of_lt_of_le (show 2 < 251 by decide) q1))).trans ((congrFun hρ c).trans ((upC_ne (by omega)).trans ((upC_ne (by omega)).trans ((upC_ne (by omega)).trans ((upC_ne (by omega)).trans ((upC_ne (by omega)).trans rfl))))))))), (hk4.cg (fun c q1 q2 _ => ((cpy_ne (Nat.ne_of_gt (Nat.lt_of_lt_of_le (show 2 < 4 by decide) q1))).trans ((congrFun hρ c).trans ((upC_ne (by omega)).trans ((upC_ne (by omega)).trans ((upC_ne (by omega)).trans ((upC_ne (by omega)).trans ((upC_ne (by omega)).trans rfl))))))))), (hk5.cg ((congrFun (cpy_ne (by decide)) 9).trans ((congrFun (congrFun hρ 0) 9).trans ((congrFun (upC_ne (by omega)) 9).trans ((congrFun (upC_ne (by omega)) 9).trans ((congrFun (upC_ne (by omega)) 9).trans ((congrFun (upC_ne (by omega)) 9).trans ((congrFun (upC_ne (by omega)) 9).trans rfl))))))) ((cpy_ne (by decide)).trans ((congrFun hρ 20).trans ((upC_ne (by omega)).trans ((upC_ne (by omega)).trans ((upC_ne (by omega)).trans ((upC_ne (by omega)).trans ((upC_ne (by omega)).trans rfl)))))))), (hk6.cg ((congrFun (cpy_ne (by decide)) 11).trans ((congrFun (congrFun hρ 0) 11).trans ((congrFun (upC_ne (by omega)) 11).trans ((congrFun (upC_ne (by omega)) 11).trans ((congrFun (upC_ne (by omega)) 11).trans ((congrFun (upC_ne (by omega)) 11).trans ((congrFun (upC_ne (by omega)) 11).trans rfl))))))) ((cpy_ne (by decide)).trans ((congrFun hρ 21).trans ((upC_ne (by omega)).trans ((upC_ne (by omega)).trans ((upC_ne (by omega)).trans ((upC_ne (by omega)).trans ((upC_ne (by omega)).trans rfl)))))))), (hk7.cg ((congrFun (cpy_ne (by decide)) 14).trans ((congrFun (congrFun hρ 0) 14).trans ((congrFun (upC_ne (by omega)) 14).trans ((congrFun (upC_ne (by omega)) 14).trans ((congrFun (upC_ne (by omega)) 14).trans ((congrFun (upC_ne (by omega)) 14).trans ((congrFun (upC_ne (by omega)) 14).trans rfl))))))) ((cpy_ne (by decide)).trans ((congrFun hρ 23).trans ((upC_ne (by omega)).trans ((upC_ne (by omega)).trans ((upC_ne (by omega)).trans ((upC_ne (by omega)).trans ((upC_ne (by omega)).trans rfl))))))) (fun c q1 q2 => ((cpy_ne (Nat.ne_of_gt (Nat.lt_of_lt_of_le (show 2 < 90 by decide) q1))).trans ((congrFun hρ c).trans ((upC_ne (by omega)).trans ((upC_ne (by omega)).trans ((upC_ne (by omega)).trans ((upC_ne (by omega)).trans ((upC_ne (by omega)).trans rfl))))))))), ((congrFun (cpy_ne (by decide)) 15).trans ((congrFun (congrFun hρ 0) 15).trans ((congrFun (upC_ne (by omega)) 15).trans ((congrFun (upC_ne (by omega)) 15).trans ((congrFun (upC_ne (by omega)) 15).trans ((congrFun (upC_ne (by omega)) 15).trans ((congrFun (upC_ne (by omega)) 15).trans hk8))))))), ((congrFun (cpy_ne (by decide)) 0).trans ((congrFun (congrFun hρ 263) 0).trans ((congrFun (upC_ne (by omega)) 0).trans ((congrFun (upC_ne (by omega)) 0).trans ((congrFun (upC_ne (by omega)) 0).trans ((congrFun (upC_ne (by omega)) 0).trans ((congrFun (upC_ne (by omega)) 0).trans hk9)))))))⟩, (fun c q1 => ((cpy_ne (Nat.ne_of_gt (Nat.lt_of_lt_of_le (show 2 < 272 by decide) q1))).trans ((congrFun hρ c).trans ((upC_ne (by omega)).trans ((upC_ne (by omega)).trans ((upC_ne (by omega)).trans ((upC_ne (by omega)).trans ((upC_ne (by omega)).trans rfl))))))))⟩))
            · skip
              refine Ev.bipush (n := -4) (by decide) dX7_literal_77 ?_
              exact Ev.ireturn dX7_literal_79 rfl (rE (by unfold CP o_literal; (repeat rw [Int.toNat_natCast]); rw [ifP_f (fun z => z ⟨⟨by omega, by omega⟩, ⟨by omega, by omega⟩⟩), ifP_f (by show ¬ (rK (sR s kr) ≠ 5); omega), ifP_f (fun z => z ⟨⟨by omega, by omega⟩, ⟨by omega, by omega⟩⟩), ifP_f (by omega), ifP_t (by show 6 ≤ rN (sR s kr); omega)]; exact ⟨rfl, hC, (fun _ _ => rfl)⟩))
          · skip
            refine Ev.bipush (n := -3) (by decide) dX7_literal_64 ?_
            exact Ev.ireturn dX7_literal_66 rfl (rE (by unfold CP o_literal; (repeat rw [Int.toNat_natCast]); rw [ifP_f (fun z => z ⟨⟨by omega, by omega⟩, ⟨by omega, by omega⟩⟩), ifP_f (by show ¬ (rK (sR s kr) ≠ 5); omega), ifP_f (fun z => z ⟨⟨by omega, by omega⟩, ⟨by omega, by omega⟩⟩), ifP_t (by omega)]; exact ⟨rfl, hC, (fun _ _ => rfl)⟩))
        · skip
          have q48 := bI_0.mp h48
          refine Ev.bipush (n := -2) (by decide) dX7_literal_51 ?_
          exact Ev.ireturn dX7_literal_53 rfl (rE (by unfold CP o_literal; (repeat rw [Int.toNat_natCast]); rw [ifP_f (fun z => z ⟨⟨by omega, by omega⟩, ⟨by omega, by omega⟩⟩), ifP_f (by show ¬ (rK (sR s kr) ≠ 5); omega), ifP_t q48]; exact ⟨rfl, hC, (fun _ _ => rfl)⟩))
      · skip
        refine Ev.aload_n dX7_literal_35 rfl rfl ?_
        refine Ev.bipush (n := -13) (by decide) dX7_literal_36 ?_
        refine Ev.callV_I (M2 := mX7_found) (args2 := [vI (-13)]) (rcv := 0) (q := (RX7, TX7, 20)) (ci := 7) dX7_literal_38 okX7_found lk_X7_128 ovX7_found.1.1 ovX7_found.1.2 ovX7_found.2 (by decide) rfl rfl ltc_0 shc_0 rfl (Nat.le_of_ble_eq_true rfl) (Nat.le_of_ble_eq_true rfl) (s7_found σ (-13) (sF s) hk8) ?_ rfl
        exact Ev.ireturn dX7_literal_41 rfl (rE (by unfold CP o_literal; (repeat rw [Int.toNat_natCast]); rw [ifP_f (fun z => z ⟨⟨by omega, by omega⟩, ⟨by omega, by omega⟩⟩), ifP_t (by show rK (sR s kr) ≠ 5; omega)]; exact ⟨rfl, hC.found, (fun c hc => upC_ne (by omega))⟩))
    · skip
      have q13 := bI_0.mp h13
      refine Ev.iconst dX7_literal_16 ?_
      exact Ev.ireturn dX7_literal_17 rfl (rE (by unfold CP o_literal; (repeat rw [Int.toNat_natCast]); rw [ifP_t (by first | exact fun z => absurd z.1 (by omega) | exact fun z => absurd z.2 (by omega))]; exact ⟨rfl, hC, (fun _ _ => rfl)⟩))

