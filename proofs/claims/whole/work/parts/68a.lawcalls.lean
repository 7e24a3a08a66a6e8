set_option maxRecDepth 100000 in
set_option maxHeartbeats 4000000 in
theorem law_8 {g : GC} (hL : g.2.2.2.2.2.1 ≤ 3072) (i : Nat) (hi : (i : Int) + 6 ≤ g.2.2.2.2.2.1) (s : SS) (σ : Sg) (hC : CI s σ) (hM : MI s σ) {Post : Option PV → Mem → Prop} (hgo : ∀ (s2 : SS) (ρ : Sg), CI s2 ρ → MI s2 ρ → Ev g mL_law 1224 [some (vS), some (vR (0)), some (vR (272)), some (vI (((i : Nat) : Int)))] [] (M0 (ρ)) 0 0 Post) : Ev g mL_law 506 [some (vS), some (vR (0)), some (vR (272)), some (vI (((i : Nat) : Int)))] [] (M0 (σ)) 0 0 (Post) := by
  refine Ev.aload_n dL_law_506 rfl rfl ?_
  refine Ev.aloadS dL_law_507 rfl rfl ?_
  refine Ev.iload_n dL_law_508 rfl rfl ?_
  refine Ev.iconst dL_law_509 ?_
  refine Ev.iadd dL_law_510 ?_
  refine Ev.sload (v := (sc g (i + 1))) rfl dL_law_511 (by omega) (by omega) (by omega) (sc_at (by omega)) ?_
  refine Ev.aloadS dL_law_512 rfl rfl ?_
  refine Ev.iload_n dL_law_513 rfl rfl ?_
  refine Ev.iconst dL_law_514 ?_
  refine Ev.iadd dL_law_515 ?_
  refine Ev.sload (v := (sc g (i + 2))) rfl dL_law_516 (by omega) (by omega) (by omega) (sc_at (by omega)) ?_
  refine Ev.aloadS dL_law_517 rfl rfl ?_
  refine Ev.iload_n dL_law_518 rfl rfl ?_
  refine Ev.iconst dL_law_519 ?_
  refine Ev.iadd dL_law_520 ?_
  refine Ev.sload (v := (sc g (i + 3))) rfl dL_law_521 (by omega) (by omega) (by omega) (sc_at (by omega)) ?_
  refine Ev.callV_G (M2 := mX7_cell) (args2 := [vI ((sc g (i + 1))), vI ((sc g (i + 2))), vI ((sc g (i + 3)))]) (rcv := 0) (q := (RX7, TX7, 20)) (ci := 7) dL_law_522 okX7_cell (tbl_i 362 (by decide +kernel)) ovX7_cell.1.1 ovX7_cell.1.2 ovX7_cell.2 (by decide) rfl rfl ltc_0 shc_0 rfl (Nat.le_of_ble_eq_true rfl) (Nat.le_of_ble_eq_true rfl) (c_cell s σ hC ((sc g (i + 1))) sc_inR ((sc g (i + 2))) sc_inR ((sc g (i + 3))) sc_inR) (fun v_ m_ hp_ => ?_) rfl
  obtain ⟨v, τ, rfl, rfl, hv, hC2, hk⟩ := hp_
  have hM2 := hM.keep hk
  show Ev g mL_law 525 [some (vS), some (vR (0)), some (vR (272)), some (vI (((i : Nat) : Int)))] [vI (v)] (M0 (τ)) 0 0 _
  refine Ev.aload_n dL_law_525 rfl rfl ?_
  refine Ev.aloadS dL_law_526 rfl rfl ?_
  refine Ev.iload_n dL_law_527 rfl rfl ?_
  refine Ev.iconst dL_law_528 ?_
  refine Ev.iadd dL_law_529 ?_
  refine Ev.sload (v := (sc g (i + 1))) rfl dL_law_530 (by omega) (by omega) (by omega) (sc_at (by omega)) ?_
  refine Ev.aloadS dL_law_531 rfl rfl ?_
  refine Ev.iload_n dL_law_532 rfl rfl ?_
  refine Ev.iconst dL_law_533 ?_
  refine Ev.iadd dL_law_534 ?_
  refine Ev.sload (v := (sc g (i + 2))) rfl dL_law_535 (by omega) (by omega) (by omega) (sc_at (by omega)) ?_
  refine Ev.aloadS dL_law_536 rfl rfl ?_
  refine Ev.iload_n dL_law_537 rfl rfl ?_
  refine Ev.iconst dL_law_538 ?_
  refine Ev.iadd dL_law_539 ?_
  refine Ev.sload (v := (sc g (i + 3))) rfl dL_law_540 (by omega) (by omega) (by omega) (sc_at (by omega)) ?_
  refine Ev.callV_G (M2 := mX8_cell) (args2 := [vI ((sc g (i + 1))), vI ((sc g (i + 2))), vI ((sc g (i + 3)))]) (rcv := 272) (q := (RX8, TX8, 34)) (ci := 8) dL_law_541 okX8_cell (tbl_i 864 (by decide +kernel)) ovX8_cell.1.1 ovX8_cell.1.2 ovX8_cell.2 (by decide) rfl rfl ltc_272 shc_272 rfl (Nat.le_of_ble_eq_true rfl) (Nat.le_of_ble_eq_true rfl) (r_cell s τ hM2 ((sc g (i + 1))) sc_inR ((sc g (i + 2))) sc_inR ((sc g (i + 3))) sc_inR) (fun v_ m_ hp_ => ?_) rfl
  obtain ⟨w, ρ, rfl, rfl, hw, hM3, hk2⟩ := hp_
  have hC3 := hC2.keep hk2
  show Ev g mL_law 544 [some (vS), some (vR (0)), some (vR (272)), some (vI (((i : Nat) : Int)))] [vI (w), vI (v)] (M0 (ρ)) 0 0 _
  obtain rfl : w = v := hw.trans hv.symm
  refine Ev.icmp_same (tgt := 1224) dL_law_544 (by decide) ?_
  exact hgo _ ρ hC3 hM3

set_option maxRecDepth 100000 in
set_option maxHeartbeats 4000000 in
theorem law_9 {g : GC} (hL : g.2.2.2.2.2.1 ≤ 3072) (i : Nat) (hi : (i : Int) + 6 ≤ g.2.2.2.2.2.1) (s : SS) (σ : Sg) (hC : CI s σ) (hM : MI s σ) {Post : Option PV → Mem → Prop} (hgo : ∀ (s2 : SS) (ρ : Sg), CI s2 ρ → MI s2 ρ → Ev g mL_law 1224 [some (vS), some (vR (0)), some (vR (272)), some (vI (((i : Nat) : Int)))] [] (M0 (ρ)) 0 0 Post) : Ev g mL_law 549 [some (vS), some (vR (0)), some (vR (272)), some (vI (((i : Nat) : Int)))] [] (M0 (σ)) 0 0 (Post) := by
  refine Ev.aload_n dL_law_549 rfl rfl ?_
  refine Ev.aloadS dL_law_550 rfl rfl ?_
  refine Ev.iload_n dL_law_551 rfl rfl ?_
  refine Ev.iconst dL_law_552 ?_
  refine Ev.iadd dL_law_553 ?_
  refine Ev.sload (v := (sc g (i + 1))) rfl dL_law_554 (by omega) (by omega) (by omega) (sc_at (by omega)) ?_
  refine Ev.aloadS dL_law_555 rfl rfl ?_
  refine Ev.iload_n dL_law_556 rfl rfl ?_
  refine Ev.iconst dL_law_557 ?_
  refine Ev.iadd dL_law_558 ?_
  refine Ev.sload (v := (sc g (i + 2))) rfl dL_law_559 (by omega) (by omega) (by omega) (sc_at (by omega)) ?_
  refine Ev.aloadS dL_law_560 rfl rfl ?_
  refine Ev.iload_n dL_law_561 rfl rfl ?_
  refine Ev.iconst dL_law_562 ?_
  refine Ev.iadd dL_law_563 ?_
  refine Ev.sload (v := (sc g (i + 3))) rfl dL_law_564 (by omega) (by omega) (by omega) (sc_at (by omega)) ?_
  refine Ev.aloadS dL_law_565 rfl rfl ?_
  refine Ev.iload_n dL_law_566 rfl rfl ?_
  refine Ev.iconst dL_law_567 ?_
  refine Ev.iadd dL_law_568 ?_
  refine Ev.sload (v := (sc g (i + 4))) rfl dL_law_569 (by omega) (by omega) (by omega) (sc_at (by omega)) ?_
  refine Ev.aloadS dL_law_570 rfl rfl ?_
  refine Ev.iload_n dL_law_571 rfl rfl ?_
  refine Ev.iconst dL_law_572 ?_
  refine Ev.iadd dL_law_573 ?_
  refine Ev.sload (v := (sc g (i + 5))) rfl dL_law_574 (by omega) (by omega) (by omega) (sc_at (by omega)) ?_
  refine Ev.callV_G (M2 := mX7_copy) (args2 := [vI ((sc g (i + 1))), vI ((sc g (i + 2))), vI ((sc g (i + 3))), vI ((sc g (i + 4))), vI ((sc g (i + 5)))]) (rcv := 0) (q := (RX7, TX7, 20)) (ci := 7) dL_law_575 okX7_copy (tbl_i 370 (by decide +kernel)) ovX7_copy.1.1 ovX7_copy.1.2 ovX7_copy.2 (by decide) rfl rfl ltc_0 shc_0 rfl (Nat.le_of_ble_eq_true rfl) (Nat.le_of_ble_eq_true rfl) (c_copy s σ hC ((sc g (i + 1))) sc_inR ((sc g (i + 2))) sc_inR ((sc g (i + 3))) sc_inR ((sc g (i + 4))) sc_inR ((sc g (i + 5))) sc_inR) (fun v_ m_ hp_ => ?_) rfl
  obtain ⟨v, τ, rfl, rfl, hv, hC2, hk⟩ := hp_
  have hM2 := hM.keep hk
  show Ev g mL_law 578 [some (vS), some (vR (0)), some (vR (272)), some (vI (((i : Nat) : Int)))] [vI (v)] (M0 (τ)) 0 0 _
  refine Ev.aload_n dL_law_578 rfl rfl ?_
  refine Ev.aloadS dL_law_579 rfl rfl ?_
  refine Ev.iload_n dL_law_580 rfl rfl ?_
  refine Ev.iconst dL_law_581 ?_
  refine Ev.iadd dL_law_582 ?_
  refine Ev.sload (v := (sc g (i + 1))) rfl dL_law_583 (by omega) (by omega) (by omega) (sc_at (by omega)) ?_
  refine Ev.aloadS dL_law_584 rfl rfl ?_
  refine Ev.iload_n dL_law_585 rfl rfl ?_
  refine Ev.iconst dL_law_586 ?_
  refine Ev.iadd dL_law_587 ?_
  refine Ev.sload (v := (sc g (i + 2))) rfl dL_law_588 (by omega) (by omega) (by omega) (sc_at (by omega)) ?_
  refine Ev.aloadS dL_law_589 rfl rfl ?_
  refine Ev.iload_n dL_law_590 rfl rfl ?_
  refine Ev.iconst dL_law_591 ?_
  refine Ev.iadd dL_law_592 ?_
  refine Ev.sload (v := (sc g (i + 3))) rfl dL_law_593 (by omega) (by omega) (by omega) (sc_at (by omega)) ?_
  refine Ev.aloadS dL_law_594 rfl rfl ?_
  refine Ev.iload_n dL_law_595 rfl rfl ?_
  refine Ev.iconst dL_law_596 ?_
  refine Ev.iadd dL_law_597 ?_
  refine Ev.sload (v := (sc g (i + 4))) rfl dL_law_598 (by omega) (by omega) (by omega) (sc_at (by omega)) ?_
  refine Ev.aloadS dL_law_599 rfl rfl ?_
  refine Ev.iload_n dL_law_600 rfl rfl ?_
  refine Ev.iconst dL_law_601 ?_
  refine Ev.iadd dL_law_602 ?_
  refine Ev.sload (v := (sc g (i + 5))) rfl dL_law_603 (by omega) (by omega) (by omega) (sc_at (by omega)) ?_
  refine Ev.callV_G (M2 := mX8_copy) (args2 := [vI ((sc g (i + 1))), vI ((sc g (i + 2))), vI ((sc g (i + 3))), vI ((sc g (i + 4))), vI ((sc g (i + 5)))]) (rcv := 272) (q := (RX8, TX8, 34)) (ci := 8) dL_law_604 okX8_copy (tbl_i 868 (by decide +kernel)) ovX8_copy.1.1 ovX8_copy.1.2 ovX8_copy.2 (by decide) rfl rfl ltc_272 shc_272 rfl (Nat.le_of_ble_eq_true rfl) (Nat.le_of_ble_eq_true rfl) (r_copy s τ hM2 ((sc g (i + 1))) sc_inR ((sc g (i + 2))) sc_inR ((sc g (i + 3))) sc_inR ((sc g (i + 4))) sc_inR ((sc g (i + 5))) sc_inR) (fun v_ m_ hp_ => ?_) rfl
  obtain ⟨w, ρ, rfl, rfl, hw, hM3, hk2⟩ := hp_
  have hC3 := hC2.keep hk2
  show Ev g mL_law 607 [some (vS), some (vR (0)), some (vR (272)), some (vI (((i : Nat) : Int)))] [vI (w), vI (v)] (M0 (ρ)) 0 0 _
  obtain rfl : w = v := hw.trans hv.symm
  refine Ev.icmp_same (tgt := 1224) dL_law_607 (by decide) ?_
  exact hgo _ ρ hC3 hM3

set_option maxRecDepth 100000 in
set_option maxHeartbeats 4000000 in
theorem law_10 {g : GC} (hL : g.2.2.2.2.2.1 ≤ 3072) (i : Nat) (hi : (i : Int) + 6 ≤ g.2.2.2.2.2.1) (s : SS) (σ : Sg) (hC : CI s σ) (hM : MI s σ) {Post : Option PV → Mem → Prop} (hgo : ∀ (s2 : SS) (ρ : Sg), CI s2 ρ → MI s2 ρ → Ev g mL_law 1224 [some (vS), some (vR (0)), some (vR (272)), some (vI (((i : Nat) : Int)))] [] (M0 (ρ)) 0 0 Post) : Ev g mL_law 612 [some (vS), some (vR (0)), some (vR (272)), some (vI (((i : Nat) : Int)))] [] (M0 (σ)) 0 0 (Post) := by
  refine Ev.aload_n dL_law_612 rfl rfl ?_
  refine Ev.aloadS dL_law_613 rfl rfl ?_
  refine Ev.iload_n dL_law_614 rfl rfl ?_
  refine Ev.iconst dL_law_615 ?_
  refine Ev.iadd dL_law_616 ?_
  refine Ev.sload (v := (sc g (i + 1))) rfl dL_law_617 (by omega) (by omega) (by omega) (sc_at (by omega)) ?_
  refine Ev.aloadS dL_law_618 rfl rfl ?_
  refine Ev.iload_n dL_law_619 rfl rfl ?_
  refine Ev.iconst dL_law_620 ?_
  refine Ev.iadd dL_law_621 ?_
  refine Ev.sload (v := (sc g (i + 2))) rfl dL_law_622 (by omega) (by omega) (by omega) (sc_at (by omega)) ?_
  refine Ev.callV_G (M2 := mX7_get) (args2 := [vI ((sc g (i + 1))), vI ((sc g (i + 2)))]) (rcv := 0) (q := (RX7, TX7, 20)) (ci := 7) dL_law_623 okX7_get (tbl_i 374 (by decide +kernel)) ovX7_get.1.1 ovX7_get.1.2 ovX7_get.2 (by decide) rfl rfl ltc_0 shc_0 rfl (Nat.le_of_ble_eq_true rfl) (Nat.le_of_ble_eq_true rfl) (c_get s σ hC ((sc g (i + 1))) sc_inR ((sc g (i + 2))) sc_inR) (fun v_ m_ hp_ => ?_) rfl
  obtain ⟨v, τ, rfl, rfl, hv, hC2, hk⟩ := hp_
  have hM2 := hM.keep hk
  show Ev g mL_law 626 [some (vS), some (vR (0)), some (vR (272)), some (vI (((i : Nat) : Int)))] [vI (v)] (M0 (τ)) 0 0 _
  refine Ev.aload_n dL_law_626 rfl rfl ?_
  refine Ev.aloadS dL_law_627 rfl rfl ?_
  refine Ev.iload_n dL_law_628 rfl rfl ?_
  refine Ev.iconst dL_law_629 ?_
  refine Ev.iadd dL_law_630 ?_
  refine Ev.sload (v := (sc g (i + 1))) rfl dL_law_631 (by omega) (by omega) (by omega) (sc_at (by omega)) ?_
  refine Ev.aloadS dL_law_632 rfl rfl ?_
  refine Ev.iload_n dL_law_633 rfl rfl ?_
  refine Ev.iconst dL_law_634 ?_
  refine Ev.iadd dL_law_635 ?_
  refine Ev.sload (v := (sc g (i + 2))) rfl dL_law_636 (by omega) (by omega) (by omega) (sc_at (by omega)) ?_
  refine Ev.callV_G (M2 := mX8_get) (args2 := [vI ((sc g (i + 1))), vI ((sc g (i + 2)))]) (rcv := 272) (q := (RX8, TX8, 34)) (ci := 8) dL_law_637 okX8_get (tbl_i 872 (by decide +kernel)) ovX8_get.1.1 ovX8_get.1.2 ovX8_get.2 (by decide) rfl rfl ltc_272 shc_272 rfl (Nat.le_of_ble_eq_true rfl) (Nat.le_of_ble_eq_true rfl) (r_get s τ hM2 ((sc g (i + 1))) sc_inR ((sc g (i + 2))) sc_inR) (fun v_ m_ hp_ => ?_) rfl
  obtain ⟨w, ρ, rfl, rfl, hw, hM3, hk2⟩ := hp_
  have hC3 := hC2.keep hk2
  show Ev g mL_law 640 [some (vS), some (vR (0)), some (vR (272)), some (vI (((i : Nat) : Int)))] [vI (w), vI (v)] (M0 (ρ)) 0 0 _
  obtain rfl : w = v := hw.trans hv.symm
  refine Ev.icmp_same (tgt := 1224) dL_law_640 (by decide) ?_
  exact hgo _ ρ hC3 hM3

set_option maxRecDepth 100000 in
set_option maxHeartbeats 4000000 in
theorem law_11 {g : GC} (hL : g.2.2.2.2.2.1 ≤ 3072) (i : Nat) (hi : (i : Int) + 6 ≤ g.2.2.2.2.2.1) (s : SS) (σ : Sg) (hC : CI s σ) (hM : MI s σ) {Post : Option PV → Mem → Prop} (hgo : ∀ (s2 : SS) (ρ : Sg), CI s2 ρ → MI s2 ρ → Ev g mL_law 1224 [some (vS), some (vR (0)), some (vR (272)), some (vI (((i : Nat) : Int)))] [] (M0 (ρ)) 0 0 Post) : Ev g mL_law 645 [some (vS), some (vR (0)), some (vR (272)), some (vI (((i : Nat) : Int)))] [] (M0 (σ)) 0 0 (Post) := by
  refine Ev.aload_n dL_law_645 rfl rfl ?_
  refine Ev.aloadS dL_law_646 rfl rfl ?_
  refine Ev.iload_n dL_law_647 rfl rfl ?_
  refine Ev.iconst dL_law_648 ?_
  refine Ev.iadd dL_law_649 ?_
  refine Ev.sload (v := (sc g (i + 1))) rfl dL_law_650 (by omega) (by omega) (by omega) (sc_at (by omega)) ?_
  refine Ev.aloadS dL_law_651 rfl rfl ?_
  refine Ev.iload_n dL_law_652 rfl rfl ?_
  refine Ev.iconst dL_law_653 ?_
  refine Ev.iadd dL_law_654 ?_
  refine Ev.sload (v := (sc g (i + 2))) rfl dL_law_655 (by omega) (by omega) (by omega) (sc_at (by omega)) ?_
  refine Ev.callV_G (M2 := mX7_about) (args2 := [vI ((sc g (i + 1))), vI ((sc g (i + 2)))]) (rcv := 0) (q := (RX7, TX7, 20)) (ci := 7) dL_law_656 okX7_about (tbl_i 378 (by decide +kernel)) ovX7_about.1.1 ovX7_about.1.2 ovX7_about.2 (by decide) rfl rfl ltc_0 shc_0 rfl (Nat.le_of_ble_eq_true rfl) (Nat.le_of_ble_eq_true rfl) (c_about s σ hC ((sc g (i + 1))) sc_inR ((sc g (i + 2))) sc_inR) (fun v_ m_ hp_ => ?_) rfl
  obtain ⟨v, τ, rfl, rfl, hv, hC2, hk⟩ := hp_
  have hM2 := hM.keep hk
  show Ev g mL_law 659 [some (vS), some (vR (0)), some (vR (272)), some (vI (((i : Nat) : Int)))] [vI (v)] (M0 (τ)) 0 0 _
  refine Ev.aload_n dL_law_659 rfl rfl ?_
  refine Ev.aloadS dL_law_660 rfl rfl ?_
  refine Ev.iload_n dL_law_661 rfl rfl ?_
  refine Ev.iconst dL_law_662 ?_
  refine Ev.iadd dL_law_663 ?_
  refine Ev.sload (v := (sc g (i + 1))) rfl dL_law_664 (by omega) (by omega) (by omega) (sc_at (by omega)) ?_
  refine Ev.aloadS dL_law_665 rfl rfl ?_
  refine Ev.iload_n dL_law_666 rfl rfl ?_
  refine Ev.iconst dL_law_667 ?_
  refine Ev.iadd dL_law_668 ?_
  refine Ev.sload (v := (sc g (i + 2))) rfl dL_law_669 (by omega) (by omega) (by omega) (sc_at (by omega)) ?_
  refine Ev.callV_G (M2 := mX8_about) (args2 := [vI ((sc g (i + 1))), vI ((sc g (i + 2)))]) (rcv := 272) (q := (RX8, TX8, 34)) (ci := 8) dL_law_670 okX8_about (tbl_i 876 (by decide +kernel)) ovX8_about.1.1 ovX8_about.1.2 ovX8_about.2 (by decide) rfl rfl ltc_272 shc_272 rfl (Nat.le_of_ble_eq_true rfl) (Nat.le_of_ble_eq_true rfl) (r_about s τ hM2 ((sc g (i + 1))) sc_inR ((sc g (i + 2))) sc_inR) (fun v_ m_ hp_ => ?_) rfl
  obtain ⟨w, ρ, rfl, rfl, hw, hM3, hk2⟩ := hp_
  have hC3 := hC2.keep hk2
  show Ev g mL_law 673 [some (vS), some (vR (0)), some (vR (272)), some (vI (((i : Nat) : Int)))] [vI (w), vI (v)] (M0 (ρ)) 0 0 _
  obtain rfl : w = v := hw.trans hv.symm
  refine Ev.icmp_same (tgt := 1224) dL_law_673 (by decide) ?_
  exact hgo _ ρ hC3 hM3

set_option maxRecDepth 100000 in
set_option maxHeartbeats 4000000 in
theorem law_12 {g : GC} (hL : g.2.2.2.2.2.1 ≤ 3072) (i : Nat) (hi : (i : Int) + 6 ≤ g.2.2.2.2.2.1) (s : SS) (σ : Sg) (hC : CI s σ) (hM : MI s σ) {Post : Option PV → Mem → Prop} (hgo : ∀ (s2 : SS) (ρ : Sg), CI s2 ρ → MI s2 ρ → Ev g mL_law 1224 [some (vS), some (vR (0)), some (vR (272)), some (vI (((i : Nat) : Int)))] [] (M0 (ρ)) 0 0 Post) : Ev g mL_law 678 [some (vS), some (vR (0)), some (vR (272)), some (vI (((i : Nat) : Int)))] [] (M0 (σ)) 0 0 (Post) := by
  refine Ev.aload_n dL_law_678 rfl rfl ?_
  refine Ev.callV_G (M2 := mX7_narrow) (args2 := []) (rcv := 0) (q := (RX7, TX7, 20)) (ci := 7) dL_law_679 okX7_narrow (tbl_i 382 (by decide +kernel)) ovX7_narrow.1.1 ovX7_narrow.1.2 ovX7_narrow.2 (by decide) rfl rfl ltc_0 shc_0 rfl (Nat.le_of_ble_eq_true rfl) (Nat.le_of_ble_eq_true rfl) (c_narrow s σ hC ) (fun v_ m_ hp_ => ?_) rfl
  obtain ⟨v, τ, rfl, rfl, hv, hC2, hk⟩ := hp_
  have hM2 := hM.keep hk
  show Ev g mL_law 682 [some (vS), some (vR (0)), some (vR (272)), some (vI (((i : Nat) : Int)))] [vI (v)] (M0 (τ)) 0 0 _
  refine Ev.aload_n dL_law_682 rfl rfl ?_
  refine Ev.callV_G (M2 := mX8_narrow) (args2 := []) (rcv := 272) (q := (RX8, TX8, 34)) (ci := 8) dL_law_683 okX8_narrow (tbl_i 880 (by decide +kernel)) ovX8_narrow.1.1 ovX8_narrow.1.2 ovX8_narrow.2 (by decide) rfl rfl ltc_272 shc_272 rfl (Nat.le_of_ble_eq_true rfl) (Nat.le_of_ble_eq_true rfl) (r_narrow s τ hM2 ) (fun v_ m_ hp_ => ?_) rfl
  obtain ⟨w, ρ, rfl, rfl, hw, hM3, hk2⟩ := hp_
  have hC3 := hC2.keep hk2
  show Ev g mL_law 686 [some (vS), some (vR (0)), some (vR (272)), some (vI (((i : Nat) : Int)))] [vI (w), vI (v)] (M0 (ρ)) 0 0 _
  obtain rfl : w = v := hw.trans hv.symm
  refine Ev.icmp_same (tgt := 1224) dL_law_686 (by decide) ?_
  exact hgo _ ρ hC3 hM3

set_option maxRecDepth 100000 in
set_option maxHeartbeats 4000000 in
theorem law_13 {g : GC} (hL : g.2.2.2.2.2.1 ≤ 3072) (i : Nat) (hi : (i : Int) + 6 ≤ g.2.2.2.2.2.1) (s : SS) (σ : Sg) (hC : CI s σ) (hM : MI s σ) {Post : Option PV → Mem → Prop} (hgo : ∀ (s2 : SS) (ρ : Sg), CI s2 ρ → MI s2 ρ → Ev g mL_law 1224 [some (vS), some (vR (0)), some (vR (272)), some (vI (((i : Nat) : Int)))] [] (M0 (ρ)) 0 0 Post) : Ev g mL_law 691 [some (vS), some (vR (0)), some (vR (272)), some (vI (((i : Nat) : Int)))] [] (M0 (σ)) 0 0 (Post) := by
  refine Ev.aload_n dL_law_691 rfl rfl ?_
  refine Ev.aloadS dL_law_692 rfl rfl ?_
  refine Ev.iload_n dL_law_693 rfl rfl ?_
  refine Ev.iconst dL_law_694 ?_
  refine Ev.iadd dL_law_695 ?_
  refine Ev.sload (v := (sc g (i + 1))) rfl dL_law_696 (by omega) (by omega) (by omega) (sc_at (by omega)) ?_
  refine Ev.callV_G (M2 := mX7_takes) (args2 := [vI ((sc g (i + 1)))]) (rcv := 0) (q := (RX7, TX7, 20)) (ci := 7) dL_law_697 okX7_takes (tbl_i 503 (by decide +kernel)) ovX7_takes.1.1 ovX7_takes.1.2 ovX7_takes.2 (by decide) rfl rfl ltc_0 shc_0 rfl (Nat.le_of_ble_eq_true rfl) (Nat.le_of_ble_eq_true rfl) (c_takes s σ hC ((sc g (i + 1))) sc_inR) (fun v_ m_ hp_ => ?_) rfl
  obtain ⟨v, τ, rfl, rfl, hv, hC2, hk⟩ := hp_
  have hM2 := hM.keep hk
  show Ev g mL_law 700 [some (vS), some (vR (0)), some (vR (272)), some (vI (((i : Nat) : Int)))] [vI (v)] (M0 (τ)) 0 0 _
  refine Ev.aload_n dL_law_700 rfl rfl ?_
  refine Ev.aloadS dL_law_701 rfl rfl ?_
  refine Ev.iload_n dL_law_702 rfl rfl ?_
  refine Ev.iconst dL_law_703 ?_
  refine Ev.iadd dL_law_704 ?_
  refine Ev.sload (v := (sc g (i + 1))) rfl dL_law_705 (by omega) (by omega) (by omega) (sc_at (by omega)) ?_
  refine Ev.callV_G (M2 := mX8_takes) (args2 := [vI ((sc g (i + 1)))]) (rcv := 272) (q := (RX8, TX8, 34)) (ci := 8) dL_law_706 okX8_takes (tbl_i 950 (by decide +kernel)) ovX8_takes.1.1 ovX8_takes.1.2 ovX8_takes.2 (by decide) rfl rfl ltc_272 shc_272 rfl (Nat.le_of_ble_eq_true rfl) (Nat.le_of_ble_eq_true rfl) (r_takes s τ hM2 ((sc g (i + 1))) sc_inR) (fun v_ m_ hp_ => ?_) rfl
  obtain ⟨w, ρ, rfl, rfl, hw, hM3, hk2⟩ := hp_
  have hC3 := hC2.keep hk2
  show Ev g mL_law 709 [some (vS), some (vR (0)), some (vR (272)), some (vI (((i : Nat) : Int)))] [vI (w), vI (v)] (M0 (ρ)) 0 0 _
  obtain rfl : w = v := hw.trans hv.symm
  refine Ev.icmp_same (tgt := 1224) dL_law_709 (by decide) ?_
  exact hgo _ ρ hC3 hM3

set_option maxRecDepth 100000 in
set_option maxHeartbeats 4000000 in
theorem law_14 {g : GC} (hL : g.2.2.2.2.2.1 ≤ 3072) (i : Nat) (hi : (i : Int) + 6 ≤ g.2.2.2.2.2.1) (s : SS) (σ : Sg) (hC : CI s σ) (hM : MI s σ) {Post : Option PV → Mem → Prop} (hgo : ∀ (s2 : SS) (ρ : Sg), CI s2 ρ → MI s2 ρ → Ev g mL_law 1224 [some (vS), some (vR (0)), some (vR (272)), some (vI (((i : Nat) : Int)))] [] (M0 (ρ)) 0 0 Post) : Ev g mL_law 714 [some (vS), some (vR (0)), some (vR (272)), some (vI (((i : Nat) : Int)))] [] (M0 (σ)) 0 0 (Post) := by
  refine Ev.aload_n dL_law_714 rfl rfl ?_
  refine Ev.aloadS dL_law_715 rfl rfl ?_
  refine Ev.iload_n dL_law_716 rfl rfl ?_
  refine Ev.iconst dL_law_717 ?_
  refine Ev.iadd dL_law_718 ?_
  refine Ev.sload (v := (sc g (i + 1))) rfl dL_law_719 (by omega) (by omega) (by omega) (sc_at (by omega)) ?_
  refine Ev.aloadS dL_law_720 rfl rfl ?_
  refine Ev.iload_n dL_law_721 rfl rfl ?_
  refine Ev.iconst dL_law_722 ?_
  refine Ev.iadd dL_law_723 ?_
  refine Ev.sload (v := (sc g (i + 2))) rfl dL_law_724 (by omega) (by omega) (by omega) (sc_at (by omega)) ?_
  refine Ev.aloadS dL_law_725 rfl rfl ?_
  refine Ev.iload_n dL_law_726 rfl rfl ?_
  refine Ev.iconst dL_law_727 ?_
  refine Ev.iadd dL_law_728 ?_
  refine Ev.sload (v := (sc g (i + 3))) rfl dL_law_729 (by omega) (by omega) (by omega) (sc_at (by omega)) ?_
  refine Ev.callV_G (M2 := mX7_step) (args2 := [vI ((sc g (i + 1))), vI ((sc g (i + 2))), vI ((sc g (i + 3)))]) (rcv := 0) (q := (RX7, TX7, 20)) (ci := 7) dL_law_730 okX7_step (tbl_i 513 (by decide +kernel)) ovX7_step.1.1 ovX7_step.1.2 ovX7_step.2 (by decide) rfl rfl ltc_0 shc_0 rfl (Nat.le_of_ble_eq_true rfl) (Nat.le_of_ble_eq_true rfl) (c_step s σ hC ((sc g (i + 1))) sc_inR ((sc g (i + 2))) sc_inR ((sc g (i + 3))) sc_inR) (fun v_ m_ hp_ => ?_) rfl
  obtain ⟨v, τ, rfl, rfl, hv, hC2, hk⟩ := hp_
  have hM2 := hM.keep hk
  show Ev g mL_law 733 [some (vS), some (vR (0)), some (vR (272)), some (vI (((i : Nat) : Int)))] [vI (v)] (M0 (τ)) 0 0 _
  refine Ev.aload_n dL_law_733 rfl rfl ?_
  refine Ev.aloadS dL_law_734 rfl rfl ?_
  refine Ev.iload_n dL_law_735 rfl rfl ?_
  refine Ev.iconst dL_law_736 ?_
  refine Ev.iadd dL_law_737 ?_
  refine Ev.sload (v := (sc g (i + 1))) rfl dL_law_738 (by omega) (by omega) (by omega) (sc_at (by omega)) ?_
  refine Ev.aloadS dL_law_739 rfl rfl ?_
  refine Ev.iload_n dL_law_740 rfl rfl ?_
  refine Ev.iconst dL_law_741 ?_
  refine Ev.iadd dL_law_742 ?_
  refine Ev.sload (v := (sc g (i + 2))) rfl dL_law_743 (by omega) (by omega) (by omega) (sc_at (by omega)) ?_
  refine Ev.aloadS dL_law_744 rfl rfl ?_
  refine Ev.iload_n dL_law_745 rfl rfl ?_
  refine Ev.iconst dL_law_746 ?_
  refine Ev.iadd dL_law_747 ?_
  refine Ev.sload (v := (sc g (i + 3))) rfl dL_law_748 (by omega) (by omega) (by omega) (sc_at (by omega)) ?_
  refine Ev.callV_G (M2 := mX8_step) (args2 := [vI ((sc g (i + 1))), vI ((sc g (i + 2))), vI ((sc g (i + 3)))]) (rcv := 272) (q := (RX8, TX8, 34)) (ci := 8) dL_law_749 okX8_step (tbl_i 954 (by decide +kernel)) ovX8_step.1.1 ovX8_step.1.2 ovX8_step.2 (by decide) rfl rfl ltc_272 shc_272 rfl (Nat.le_of_ble_eq_true rfl) (Nat.le_of_ble_eq_true rfl) (r_step s τ hM2 ((sc g (i + 1))) sc_inR ((sc g (i + 2))) sc_inR ((sc g (i + 3))) sc_inR) (fun v_ m_ hp_ => ?_) rfl
  obtain ⟨w, ρ, rfl, rfl, hw, hM3, hk2⟩ := hp_
  have hC3 := hC2.keep hk2
  show Ev g mL_law 752 [some (vS), some (vR (0)), some (vR (272)), some (vI (((i : Nat) : Int)))] [vI (w), vI (v)] (M0 (ρ)) 0 0 _
  obtain rfl : w = v := hw.trans hv.symm
  refine Ev.icmp_same (tgt := 1224) dL_law_752 (by decide) ?_
  exact hgo _ ρ hC3 hM3

set_option maxRecDepth 100000 in
set_option maxHeartbeats 4000000 in
theorem law_15 {g : GC} (hL : g.2.2.2.2.2.1 ≤ 3072) (i : Nat) (hi : (i : Int) + 6 ≤ g.2.2.2.2.2.1) (s : SS) (σ : Sg) (hC : CI s σ) (hM : MI s σ) {Post : Option PV → Mem → Prop} (hgo : ∀ (s2 : SS) (ρ : Sg), CI s2 ρ → MI s2 ρ → Ev g mL_law 1224 [some (vS), some (vR (0)), some (vR (272)), some (vI (((i : Nat) : Int)))] [] (M0 (ρ)) 0 0 Post) : Ev g mL_law 757 [some (vS), some (vR (0)), some (vR (272)), some (vI (((i : Nat) : Int)))] [] (M0 (σ)) 0 0 (Post) := by
  refine Ev.aload_n dL_law_757 rfl rfl ?_
  refine Ev.aloadS dL_law_758 rfl rfl ?_
  refine Ev.iload_n dL_law_759 rfl rfl ?_
  refine Ev.iconst dL_law_760 ?_
  refine Ev.iadd dL_law_761 ?_
  refine Ev.sload (v := (sc g (i + 1))) rfl dL_law_762 (by omega) (by omega) (by omega) (sc_at (by omega)) ?_
  refine Ev.callV_G (M2 := mX7_undo) (args2 := [vI ((sc g (i + 1)))]) (rcv := 0) (q := (RX7, TX7, 20)) (ci := 7) dL_law_763 okX7_undo (tbl_i 517 (by decide +kernel)) ovX7_undo.1.1 ovX7_undo.1.2 ovX7_undo.2 (by decide) rfl rfl ltc_0 shc_0 rfl (Nat.le_of_ble_eq_true rfl) (Nat.le_of_ble_eq_true rfl) (c_undo s σ hC ((sc g (i + 1))) sc_inR) (fun v_ m_ hp_ => ?_) rfl
  obtain ⟨v, τ, rfl, rfl, hv, hC2, hk⟩ := hp_
  have hM2 := hM.keep hk
  show Ev g mL_law 766 [some (vS), some (vR (0)), some (vR (272)), some (vI (((i : Nat) : Int)))] [vI (v)] (M0 (τ)) 0 0 _
  refine Ev.aload_n dL_law_766 rfl rfl ?_
  refine Ev.aloadS dL_law_767 rfl rfl ?_
  refine Ev.iload_n dL_law_768 rfl rfl ?_
  refine Ev.iconst dL_law_769 ?_
  refine Ev.iadd dL_law_770 ?_
  refine Ev.sload (v := (sc g (i + 1))) rfl dL_law_771 (by omega) (by omega) (by omega) (sc_at (by omega)) ?_
  refine Ev.callV_G (M2 := mX8_undo) (args2 := [vI ((sc g (i + 1)))]) (rcv := 272) (q := (RX8, TX8, 34)) (ci := 8) dL_law_772 okX8_undo (tbl_i 958 (by decide +kernel)) ovX8_undo.1.1 ovX8_undo.1.2 ovX8_undo.2 (by decide) rfl rfl ltc_272 shc_272 rfl (Nat.le_of_ble_eq_true rfl) (Nat.le_of_ble_eq_true rfl) (r_undo s τ hM2 ((sc g (i + 1))) sc_inR) (fun v_ m_ hp_ => ?_) rfl
  obtain ⟨w, ρ, rfl, rfl, hw, hM3, hk2⟩ := hp_
  have hC3 := hC2.keep hk2
  show Ev g mL_law 775 [some (vS), some (vR (0)), some (vR (272)), some (vI (((i : Nat) : Int)))] [vI (w), vI (v)] (M0 (ρ)) 0 0 _
  obtain rfl : w = v := hw.trans hv.symm
  refine Ev.icmp_same (tgt := 1224) dL_law_775 (by decide) ?_
  exact hgo _ ρ hC3 hM3

