set_option maxRecDepth 100000 in
set_option maxHeartbeats 4000000 in
theorem law_16 {g : GC} (hL : g.2.2.2.2.2.1 ≤ 3072) (i : Nat) (hi : (i : Int) + 6 ≤ g.2.2.2.2.2.1) (s : SS) (σ : Sg) (hC : CI s σ) (hM : MI s σ) {Post : Option PV → Mem → Prop} (hgo : ∀ (s2 : SS) (ρ : Sg), CI s2 ρ → MI s2 ρ → Ev g mL_law 1224 [some (vS), some (vR (0)), some (vR (272)), some (vI (((i : Nat) : Int)))] [] (M0 (ρ)) 0 0 Post) : Ev g mL_law 780 [some (vS), some (vR (0)), some (vR (272)), some (vI (((i : Nat) : Int)))] [] (M0 (σ)) 0 0 (Post) := by
  refine Ev.aload_n dL_law_780 rfl rfl ?_
  refine Ev.aloadS dL_law_781 rfl rfl ?_
  refine Ev.iload_n dL_law_782 rfl rfl ?_
  refine Ev.iconst dL_law_783 ?_
  refine Ev.iadd dL_law_784 ?_
  refine Ev.sload (v := (sc g (i + 1))) rfl dL_law_785 (by omega) (by omega) (by omega) (sc_at (by omega)) ?_
  refine Ev.aloadS dL_law_786 rfl rfl ?_
  refine Ev.iload_n dL_law_787 rfl rfl ?_
  refine Ev.iconst dL_law_788 ?_
  refine Ev.iadd dL_law_789 ?_
  refine Ev.sload (v := (sc g (i + 2))) rfl dL_law_790 (by omega) (by omega) (by omega) (sc_at (by omega)) ?_
  refine Ev.callV_G (M2 := mX7_range) (args2 := [vI ((sc g (i + 1))), vI ((sc g (i + 2)))]) (rcv := 0) (q := (RX7, TX7, 20)) (ci := 7) dL_law_791 okX7_range (tbl_i 521 (by decide +kernel)) ovX7_range.1.1 ovX7_range.1.2 ovX7_range.2 (by decide) rfl rfl ltc_0 shc_0 rfl (Nat.le_of_ble_eq_true rfl) (Nat.le_of_ble_eq_true rfl) (c_range s σ hC ((sc g (i + 1))) sc_inR ((sc g (i + 2))) sc_inR) (fun v_ m_ hp_ => ?_) rfl
  obtain ⟨v, τ, rfl, rfl, hv, hC2, hk⟩ := hp_
  have hM2 := hM.keep hk
  show Ev g mL_law 794 [some (vS), some (vR (0)), some (vR (272)), some (vI (((i : Nat) : Int)))] [vI (v)] (M0 (τ)) 0 0 _
  refine Ev.aload_n dL_law_794 rfl rfl ?_
  refine Ev.aloadS dL_law_795 rfl rfl ?_
  refine Ev.iload_n dL_law_796 rfl rfl ?_
  refine Ev.iconst dL_law_797 ?_
  refine Ev.iadd dL_law_798 ?_
  refine Ev.sload (v := (sc g (i + 1))) rfl dL_law_799 (by omega) (by omega) (by omega) (sc_at (by omega)) ?_
  refine Ev.aloadS dL_law_800 rfl rfl ?_
  refine Ev.iload_n dL_law_801 rfl rfl ?_
  refine Ev.iconst dL_law_802 ?_
  refine Ev.iadd dL_law_803 ?_
  refine Ev.sload (v := (sc g (i + 2))) rfl dL_law_804 (by omega) (by omega) (by omega) (sc_at (by omega)) ?_
  refine Ev.callV_G (M2 := mX8_range) (args2 := [vI ((sc g (i + 1))), vI ((sc g (i + 2)))]) (rcv := 272) (q := (RX8, TX8, 34)) (ci := 8) dL_law_805 okX8_range (tbl_i 962 (by decide +kernel)) ovX8_range.1.1 ovX8_range.1.2 ovX8_range.2 (by decide) rfl rfl ltc_272 shc_272 rfl (Nat.le_of_ble_eq_true rfl) (Nat.le_of_ble_eq_true rfl) (r_range s τ hM2 ((sc g (i + 1))) sc_inR ((sc g (i + 2))) sc_inR) (fun v_ m_ hp_ => ?_) rfl
  obtain ⟨w, ρ, rfl, rfl, hw, hM3, hk2⟩ := hp_
  have hC3 := hC2.keep hk2
  show Ev g mL_law 808 [some (vS), some (vR (0)), some (vR (272)), some (vI (((i : Nat) : Int)))] [vI (w), vI (v)] (M0 (ρ)) 0 0 _
  obtain rfl : w = v := hw.trans hv.symm
  refine Ev.icmp_same (tgt := 1224) dL_law_808 (by decide) ?_
  exact hgo _ ρ hC3 hM3

set_option maxRecDepth 100000 in
set_option maxHeartbeats 4000000 in
theorem law_17 {g : GC} (hL : g.2.2.2.2.2.1 ≤ 3072) (i : Nat) (hi : (i : Int) + 6 ≤ g.2.2.2.2.2.1) (s : SS) (σ : Sg) (hC : CI s σ) (hM : MI s σ) {Post : Option PV → Mem → Prop} (hgo : ∀ (s2 : SS) (ρ : Sg), CI s2 ρ → MI s2 ρ → Ev g mL_law 1224 [some (vS), some (vR (0)), some (vR (272)), some (vI (((i : Nat) : Int)))] [] (M0 (ρ)) 0 0 Post) : Ev g mL_law 813 [some (vS), some (vR (0)), some (vR (272)), some (vI (((i : Nat) : Int)))] [] (M0 (σ)) 0 0 (Post) := by
  refine Ev.aload_n dL_law_813 rfl rfl ?_
  refine Ev.aloadS dL_law_814 rfl rfl ?_
  refine Ev.iload_n dL_law_815 rfl rfl ?_
  refine Ev.iconst dL_law_816 ?_
  refine Ev.iadd dL_law_817 ?_
  refine Ev.sload (v := (sc g (i + 1))) rfl dL_law_818 (by omega) (by omega) (by omega) (sc_at (by omega)) ?_
  refine Ev.aloadS dL_law_819 rfl rfl ?_
  refine Ev.iload_n dL_law_820 rfl rfl ?_
  refine Ev.iconst dL_law_821 ?_
  refine Ev.iadd dL_law_822 ?_
  refine Ev.sload (v := (sc g (i + 2))) rfl dL_law_823 (by omega) (by omega) (by omega) (sc_at (by omega)) ?_
  refine Ev.callV_G (M2 := mX7_why) (args2 := [vI ((sc g (i + 1))), vI ((sc g (i + 2)))]) (rcv := 0) (q := (RX7, TX7, 20)) (ci := 7) dL_law_824 okX7_why (tbl_i 527 (by decide +kernel)) ovX7_why.1.1 ovX7_why.1.2 ovX7_why.2 (by decide) rfl rfl ltc_0 shc_0 rfl (Nat.le_of_ble_eq_true rfl) (Nat.le_of_ble_eq_true rfl) (c_why s σ hC ((sc g (i + 1))) sc_inR ((sc g (i + 2))) sc_inR) (fun v_ m_ hp_ => ?_) rfl
  obtain ⟨v, τ, rfl, rfl, hv, hC2, hk⟩ := hp_
  have hM2 := hM.keep hk
  show Ev g mL_law 827 [some (vS), some (vR (0)), some (vR (272)), some (vI (((i : Nat) : Int)))] [vI (v)] (M0 (τ)) 0 0 _
  refine Ev.aload_n dL_law_827 rfl rfl ?_
  refine Ev.aloadS dL_law_828 rfl rfl ?_
  refine Ev.iload_n dL_law_829 rfl rfl ?_
  refine Ev.iconst dL_law_830 ?_
  refine Ev.iadd dL_law_831 ?_
  refine Ev.sload (v := (sc g (i + 1))) rfl dL_law_832 (by omega) (by omega) (by omega) (sc_at (by omega)) ?_
  refine Ev.aloadS dL_law_833 rfl rfl ?_
  refine Ev.iload_n dL_law_834 rfl rfl ?_
  refine Ev.iconst dL_law_835 ?_
  refine Ev.iadd dL_law_836 ?_
  refine Ev.sload (v := (sc g (i + 2))) rfl dL_law_837 (by omega) (by omega) (by omega) (sc_at (by omega)) ?_
  refine Ev.callV_G (M2 := mX8_why) (args2 := [vI ((sc g (i + 1))), vI ((sc g (i + 2)))]) (rcv := 272) (q := (RX8, TX8, 34)) (ci := 8) dL_law_838 okX8_why (tbl_i 966 (by decide +kernel)) ovX8_why.1.1 ovX8_why.1.2 ovX8_why.2 (by decide) rfl rfl ltc_272 shc_272 rfl (Nat.le_of_ble_eq_true rfl) (Nat.le_of_ble_eq_true rfl) (r_why s τ hM2 ((sc g (i + 1))) sc_inR ((sc g (i + 2))) sc_inR) (fun v_ m_ hp_ => ?_) rfl
  obtain ⟨w, ρ, rfl, rfl, hw, hM3, hk2⟩ := hp_
  have hC3 := hC2.keep hk2
  show Ev g mL_law 841 [some (vS), some (vR (0)), some (vR (272)), some (vI (((i : Nat) : Int)))] [vI (w), vI (v)] (M0 (ρ)) 0 0 _
  obtain rfl : w = v := hw.trans hv.symm
  refine Ev.icmp_same (tgt := 1224) dL_law_841 (by decide) ?_
  exact hgo _ ρ hC3 hM3

set_option maxRecDepth 100000 in
set_option maxHeartbeats 4000000 in
theorem law_18 {g : GC} (hL : g.2.2.2.2.2.1 ≤ 3072) (i : Nat) (hi : (i : Int) + 6 ≤ g.2.2.2.2.2.1) (s : SS) (σ : Sg) (hC : CI s σ) (hM : MI s σ) {Post : Option PV → Mem → Prop} (hgo : ∀ (s2 : SS) (ρ : Sg), CI s2 ρ → MI s2 ρ → Ev g mL_law 1224 [some (vS), some (vR (0)), some (vR (272)), some (vI (((i : Nat) : Int)))] [] (M0 (ρ)) 0 0 Post) : Ev g mL_law 846 [some (vS), some (vR (0)), some (vR (272)), some (vI (((i : Nat) : Int)))] [] (M0 (σ)) 0 0 (Post) := by
  refine Ev.aload_n dL_law_846 rfl rfl ?_
  refine Ev.aloadS dL_law_847 rfl rfl ?_
  refine Ev.iload_n dL_law_848 rfl rfl ?_
  refine Ev.iconst dL_law_849 ?_
  refine Ev.iadd dL_law_850 ?_
  refine Ev.sload (v := (sc g (i + 1))) rfl dL_law_851 (by omega) (by omega) (by omega) (sc_at (by omega)) ?_
  refine Ev.callV_G (M2 := mX7_reason) (args2 := [vI ((sc g (i + 1)))]) (rcv := 0) (q := (RX7, TX7, 20)) (ci := 7) dL_law_852 okX7_reason (tbl_i 551 (by decide +kernel)) ovX7_reason.1.1 ovX7_reason.1.2 ovX7_reason.2 (by decide) rfl rfl ltc_0 shc_0 rfl (Nat.le_of_ble_eq_true rfl) (Nat.le_of_ble_eq_true rfl) (c_reason s σ hC ((sc g (i + 1))) sc_inR) (fun v_ m_ hp_ => ?_) rfl
  obtain ⟨v, τ, rfl, rfl, hv, hC2, hk⟩ := hp_
  have hM2 := hM.keep hk
  show Ev g mL_law 855 [some (vS), some (vR (0)), some (vR (272)), some (vI (((i : Nat) : Int)))] [vI (v)] (M0 (τ)) 0 0 _
  refine Ev.aload_n dL_law_855 rfl rfl ?_
  refine Ev.aloadS dL_law_856 rfl rfl ?_
  refine Ev.iload_n dL_law_857 rfl rfl ?_
  refine Ev.iconst dL_law_858 ?_
  refine Ev.iadd dL_law_859 ?_
  refine Ev.sload (v := (sc g (i + 1))) rfl dL_law_860 (by omega) (by omega) (by omega) (sc_at (by omega)) ?_
  refine Ev.callV_G (M2 := mX8_reason) (args2 := [vI ((sc g (i + 1)))]) (rcv := 272) (q := (RX8, TX8, 34)) (ci := 8) dL_law_861 okX8_reason (tbl_i 982 (by decide +kernel)) ovX8_reason.1.1 ovX8_reason.1.2 ovX8_reason.2 (by decide) rfl rfl ltc_272 shc_272 rfl (Nat.le_of_ble_eq_true rfl) (Nat.le_of_ble_eq_true rfl) (r_reason s τ hM2 ((sc g (i + 1))) sc_inR) (fun v_ m_ hp_ => ?_) rfl
  obtain ⟨w, ρ, rfl, rfl, hw, hM3, hk2⟩ := hp_
  have hC3 := hC2.keep hk2
  show Ev g mL_law 864 [some (vS), some (vR (0)), some (vR (272)), some (vI (((i : Nat) : Int)))] [vI (w), vI (v)] (M0 (ρ)) 0 0 _
  obtain rfl : w = v := hw.trans hv.symm
  refine Ev.icmp_same (tgt := 1224) dL_law_864 (by decide) ?_
  exact hgo _ ρ hC3 hM3

set_option maxRecDepth 100000 in
set_option maxHeartbeats 4000000 in
theorem law_19 {g : GC} (hL : g.2.2.2.2.2.1 ≤ 3072) (i : Nat) (hi : (i : Int) + 6 ≤ g.2.2.2.2.2.1) (s : SS) (σ : Sg) (hC : CI s σ) (hM : MI s σ) {Post : Option PV → Mem → Prop} (hgo : ∀ (s2 : SS) (ρ : Sg), CI s2 ρ → MI s2 ρ → Ev g mL_law 1224 [some (vS), some (vR (0)), some (vR (272)), some (vI (((i : Nat) : Int)))] [] (M0 (ρ)) 0 0 Post) : Ev g mL_law 869 [some (vS), some (vR (0)), some (vR (272)), some (vI (((i : Nat) : Int)))] [] (M0 (σ)) 0 0 (Post) := by
  refine Ev.aload_n dL_law_869 rfl rfl ?_
  refine Ev.callV_G (M2 := mX7_solve) (args2 := []) (rcv := 0) (q := (RX7, TX7, 20)) (ci := 7) dL_law_870 okX7_solve (tbl_i 555 (by decide +kernel)) ovX7_solve.1.1 ovX7_solve.1.2 ovX7_solve.2 (by decide) rfl rfl ltc_0 shc_0 rfl (Nat.le_of_ble_eq_true rfl) (Nat.le_of_ble_eq_true rfl) (c_solve s σ hC ) (fun v_ m_ hp_ => ?_) rfl
  obtain ⟨v, τ, rfl, rfl, hv, hC2, hk⟩ := hp_
  have hM2 := hM.keep hk
  show Ev g mL_law 873 [some (vS), some (vR (0)), some (vR (272)), some (vI (((i : Nat) : Int)))] [vI (v)] (M0 (τ)) 0 0 _
  refine Ev.aload_n dL_law_873 rfl rfl ?_
  refine Ev.callV_G (M2 := mX8_solve) (args2 := []) (rcv := 272) (q := (RX8, TX8, 34)) (ci := 8) dL_law_874 okX8_solve (tbl_i 986 (by decide +kernel)) ovX8_solve.1.1 ovX8_solve.1.2 ovX8_solve.2 (by decide) rfl rfl ltc_272 shc_272 rfl (Nat.le_of_ble_eq_true rfl) (Nat.le_of_ble_eq_true rfl) (r_solve s τ hM2 ) (fun v_ m_ hp_ => ?_) rfl
  obtain ⟨w, ρ, rfl, rfl, hw, hM3, hk2⟩ := hp_
  have hC3 := hC2.keep hk2
  show Ev g mL_law 877 [some (vS), some (vR (0)), some (vR (272)), some (vI (((i : Nat) : Int)))] [vI (w), vI (v)] (M0 (ρ)) 0 0 _
  obtain rfl : w = v := hw.trans hv.symm
  refine Ev.icmp_same (tgt := 1224) dL_law_877 (by decide) ?_
  exact hgo _ ρ hC3 hM3

set_option maxRecDepth 100000 in
set_option maxHeartbeats 4000000 in
theorem law_20 {g : GC} (hL : g.2.2.2.2.2.1 ≤ 3072) (i : Nat) (hi : (i : Int) + 6 ≤ g.2.2.2.2.2.1) (s : SS) (σ : Sg) (hC : CI s σ) (hM : MI s σ) {Post : Option PV → Mem → Prop} (hgo : ∀ (s2 : SS) (ρ : Sg), CI s2 ρ → MI s2 ρ → Ev g mL_law 1224 [some (vS), some (vR (0)), some (vR (272)), some (vI (((i : Nat) : Int)))] [] (M0 (ρ)) 0 0 Post) : Ev g mL_law 882 [some (vS), some (vR (0)), some (vR (272)), some (vI (((i : Nat) : Int)))] [] (M0 (σ)) 0 0 (Post) := by
  refine Ev.aload_n dL_law_882 rfl rfl ?_
  refine Ev.callV_G (M2 := mX7_next) (args2 := []) (rcv := 0) (q := (RX7, TX7, 20)) (ci := 7) dL_law_883 okX7_next (tbl_i 600 (by decide +kernel)) ovX7_next.1.1 ovX7_next.1.2 ovX7_next.2 (by decide) rfl rfl ltc_0 shc_0 rfl (Nat.le_of_ble_eq_true rfl) (Nat.le_of_ble_eq_true rfl) (c_next s σ hC ) (fun v_ m_ hp_ => ?_) rfl
  obtain ⟨v, τ, rfl, rfl, hv, hC2, hk⟩ := hp_
  have hM2 := hM.keep hk
  show Ev g mL_law 886 [some (vS), some (vR (0)), some (vR (272)), some (vI (((i : Nat) : Int)))] [vI (v)] (M0 (τ)) 0 0 _
  refine Ev.aload_n dL_law_886 rfl rfl ?_
  refine Ev.callV_G (M2 := mX8_next) (args2 := []) (rcv := 272) (q := (RX8, TX8, 34)) (ci := 8) dL_law_887 okX8_next (tbl_i 1043 (by decide +kernel)) ovX8_next.1.1 ovX8_next.1.2 ovX8_next.2 (by decide) rfl rfl ltc_272 shc_272 rfl (Nat.le_of_ble_eq_true rfl) (Nat.le_of_ble_eq_true rfl) (r_next s τ hM2 ) (fun v_ m_ hp_ => ?_) rfl
  obtain ⟨w, ρ, rfl, rfl, hw, hM3, hk2⟩ := hp_
  have hC3 := hC2.keep hk2
  show Ev g mL_law 890 [some (vS), some (vR (0)), some (vR (272)), some (vI (((i : Nat) : Int)))] [vI (w), vI (v)] (M0 (ρ)) 0 0 _
  obtain rfl : w = v := hw.trans hv.symm
  refine Ev.icmp_same (tgt := 1224) dL_law_890 (by decide) ?_
  exact hgo _ ρ hC3 hM3

set_option maxRecDepth 100000 in
set_option maxHeartbeats 4000000 in
theorem law_21 {g : GC} (hL : g.2.2.2.2.2.1 ≤ 3072) (i : Nat) (hi : (i : Int) + 6 ≤ g.2.2.2.2.2.1) (s : SS) (σ : Sg) (hC : CI s σ) (hM : MI s σ) {Post : Option PV → Mem → Prop} (hgo : ∀ (s2 : SS) (ρ : Sg), CI s2 ρ → MI s2 ρ → Ev g mL_law 1224 [some (vS), some (vR (0)), some (vR (272)), some (vI (((i : Nat) : Int)))] [] (M0 (ρ)) 0 0 Post) : Ev g mL_law 895 [some (vS), some (vR (0)), some (vR (272)), some (vI (((i : Nat) : Int)))] [] (M0 (σ)) 0 0 (Post) := by
  refine Ev.aload_n dL_law_895 rfl rfl ?_
  refine Ev.aloadS dL_law_896 rfl rfl ?_
  refine Ev.iload_n dL_law_897 rfl rfl ?_
  refine Ev.iconst dL_law_898 ?_
  refine Ev.iadd dL_law_899 ?_
  refine Ev.sload (v := (sc g (i + 1))) rfl dL_law_900 (by omega) (by omega) (by omega) (sc_at (by omega)) ?_
  refine Ev.callV_G (M2 := mX7_answer) (args2 := [vI ((sc g (i + 1)))]) (rcv := 0) (q := (RX7, TX7, 20)) (ci := 7) dL_law_901 okX7_answer (tbl_i 608 (by decide +kernel)) ovX7_answer.1.1 ovX7_answer.1.2 ovX7_answer.2 (by decide) rfl rfl ltc_0 shc_0 rfl (Nat.le_of_ble_eq_true rfl) (Nat.le_of_ble_eq_true rfl) (c_answer s σ hC ((sc g (i + 1))) sc_inR) (fun v_ m_ hp_ => ?_) rfl
  obtain ⟨v, τ, rfl, rfl, hv, hC2, hk⟩ := hp_
  have hM2 := hM.keep hk
  show Ev g mL_law 904 [some (vS), some (vR (0)), some (vR (272)), some (vI (((i : Nat) : Int)))] [vI (v)] (M0 (τ)) 0 0 _
  refine Ev.aload_n dL_law_904 rfl rfl ?_
  refine Ev.aloadS dL_law_905 rfl rfl ?_
  refine Ev.iload_n dL_law_906 rfl rfl ?_
  refine Ev.iconst dL_law_907 ?_
  refine Ev.iadd dL_law_908 ?_
  refine Ev.sload (v := (sc g (i + 1))) rfl dL_law_909 (by omega) (by omega) (by omega) (sc_at (by omega)) ?_
  refine Ev.callV_G (M2 := mX8_answer) (args2 := [vI ((sc g (i + 1)))]) (rcv := 272) (q := (RX8, TX8, 34)) (ci := 8) dL_law_910 okX8_answer (tbl_i 1051 (by decide +kernel)) ovX8_answer.1.1 ovX8_answer.1.2 ovX8_answer.2 (by decide) rfl rfl ltc_272 shc_272 rfl (Nat.le_of_ble_eq_true rfl) (Nat.le_of_ble_eq_true rfl) (r_answer s τ hM2 ((sc g (i + 1))) sc_inR) (fun v_ m_ hp_ => ?_) rfl
  obtain ⟨w, ρ, rfl, rfl, hw, hM3, hk2⟩ := hp_
  have hC3 := hC2.keep hk2
  show Ev g mL_law 913 [some (vS), some (vR (0)), some (vR (272)), some (vI (((i : Nat) : Int)))] [vI (w), vI (v)] (M0 (ρ)) 0 0 _
  obtain rfl : w = v := hw.trans hv.symm
  refine Ev.icmp_same (tgt := 1224) dL_law_913 (by decide) ?_
  exact hgo _ ρ hC3 hM3

set_option maxRecDepth 100000 in
set_option maxHeartbeats 4000000 in
theorem law_22 {g : GC} (hL : g.2.2.2.2.2.1 ≤ 3072) (i : Nat) (hi : (i : Int) + 6 ≤ g.2.2.2.2.2.1) (s : SS) (σ : Sg) (hC : CI s σ) (hM : MI s σ) {Post : Option PV → Mem → Prop} (hgo : ∀ (s2 : SS) (ρ : Sg), CI s2 ρ → MI s2 ρ → Ev g mL_law 1224 [some (vS), some (vR (0)), some (vR (272)), some (vI (((i : Nat) : Int)))] [] (M0 (ρ)) 0 0 Post) : Ev g mL_law 918 [some (vS), some (vR (0)), some (vR (272)), some (vI (((i : Nat) : Int)))] [] (M0 (σ)) 0 0 (Post) := by
  refine Ev.aload_n dL_law_918 rfl rfl ?_
  refine Ev.aloadS dL_law_919 rfl rfl ?_
  refine Ev.iload_n dL_law_920 rfl rfl ?_
  refine Ev.iconst dL_law_921 ?_
  refine Ev.iadd dL_law_922 ?_
  refine Ev.sload (v := (sc g (i + 1))) rfl dL_law_923 (by omega) (by omega) (by omega) (sc_at (by omega)) ?_
  refine Ev.callV_G (M2 := mX7_count) (args2 := [vI ((sc g (i + 1)))]) (rcv := 0) (q := (RX7, TX7, 20)) (ci := 7) dL_law_924 okX7_count (tbl_i 612 (by decide +kernel)) ovX7_count.1.1 ovX7_count.1.2 ovX7_count.2 (by decide) rfl rfl ltc_0 shc_0 rfl (Nat.le_of_ble_eq_true rfl) (Nat.le_of_ble_eq_true rfl) (c_count s σ hC ((sc g (i + 1))) sc_inR) (fun v_ m_ hp_ => ?_) rfl
  obtain ⟨v, τ, rfl, rfl, hv, hC2, hk⟩ := hp_
  have hM2 := hM.keep hk
  show Ev g mL_law 927 [some (vS), some (vR (0)), some (vR (272)), some (vI (((i : Nat) : Int)))] [vI (v)] (M0 (τ)) 0 0 _
  refine Ev.aload_n dL_law_927 rfl rfl ?_
  refine Ev.aloadS dL_law_928 rfl rfl ?_
  refine Ev.iload_n dL_law_929 rfl rfl ?_
  refine Ev.iconst dL_law_930 ?_
  refine Ev.iadd dL_law_931 ?_
  refine Ev.sload (v := (sc g (i + 1))) rfl dL_law_932 (by omega) (by omega) (by omega) (sc_at (by omega)) ?_
  refine Ev.callV_G (M2 := mX8_count) (args2 := [vI ((sc g (i + 1)))]) (rcv := 272) (q := (RX8, TX8, 34)) (ci := 8) dL_law_933 okX8_count (tbl_i 1055 (by decide +kernel)) ovX8_count.1.1 ovX8_count.1.2 ovX8_count.2 (by decide) rfl rfl ltc_272 shc_272 rfl (Nat.le_of_ble_eq_true rfl) (Nat.le_of_ble_eq_true rfl) (r_count s τ hM2 ((sc g (i + 1))) sc_inR) (fun v_ m_ hp_ => ?_) rfl
  obtain ⟨w, ρ, rfl, rfl, hw, hM3, hk2⟩ := hp_
  have hC3 := hC2.keep hk2
  show Ev g mL_law 936 [some (vS), some (vR (0)), some (vR (272)), some (vI (((i : Nat) : Int)))] [vI (w), vI (v)] (M0 (ρ)) 0 0 _
  obtain rfl : w = v := hw.trans hv.symm
  refine Ev.icmp_same (tgt := 1224) dL_law_936 (by decide) ?_
  exact hgo _ ρ hC3 hM3

set_option maxRecDepth 100000 in
set_option maxHeartbeats 4000000 in
theorem law_23 {g : GC} (hL : g.2.2.2.2.2.1 ≤ 3072) (i : Nat) (hi : (i : Int) + 6 ≤ g.2.2.2.2.2.1) (s : SS) (σ : Sg) (hC : CI s σ) (hM : MI s σ) {Post : Option PV → Mem → Prop} (hgo : ∀ (s2 : SS) (ρ : Sg), CI s2 ρ → MI s2 ρ → Ev g mL_law 1224 [some (vS), some (vR (0)), some (vR (272)), some (vI (((i : Nat) : Int)))] [] (M0 (ρ)) 0 0 Post) : Ev g mL_law 941 [some (vS), some (vR (0)), some (vR (272)), some (vI (((i : Nat) : Int)))] [] (M0 (σ)) 0 0 (Post) := by
  refine Ev.aload_n dL_law_941 rfl rfl ?_
  refine Ev.aloadS dL_law_942 rfl rfl ?_
  refine Ev.iload_n dL_law_943 rfl rfl ?_
  refine Ev.iconst dL_law_944 ?_
  refine Ev.iadd dL_law_945 ?_
  refine Ev.sload (v := (sc g (i + 1))) rfl dL_law_946 (by omega) (by omega) (by omega) (sc_at (by omega)) ?_
  refine Ev.aloadS dL_law_947 rfl rfl ?_
  refine Ev.iload_n dL_law_948 rfl rfl ?_
  refine Ev.iconst dL_law_949 ?_
  refine Ev.iadd dL_law_950 ?_
  refine Ev.sload (v := (sc g (i + 2))) rfl dL_law_951 (by omega) (by omega) (by omega) (sc_at (by omega)) ?_
  refine Ev.if_eq (tgt := 959) sc_inR dL_law_952 (by decide) (fun h952 => ?_) (fun h952 => ?_)
  · skip
    refine Ev.iconst dL_law_959 ?_
    refine Ev.callV_G (M2 := mX7_best) (args2 := [vI ((sc g (i + 1))), vI (0)]) (rcv := 0) (q := (RX7, TX7, 20)) (ci := 7) dL_law_960 okX7_best (tbl_i 616 (by decide +kernel)) ovX7_best.1.1 ovX7_best.1.2 ovX7_best.2 (by decide) rfl rfl ltc_0 shc_0 rfl (Nat.le_of_ble_eq_true rfl) (Nat.le_of_ble_eq_true rfl) (c_best s σ hC ((sc g (i + 1))) sc_inR 0 ⟨by decide, by decide⟩) (fun v_ m_ hp_ => ?_) rfl
    obtain ⟨v, τ0, rfl, rfl, hv, hC2, hk⟩ := hp_
    have hM2 := hM.keep hk
    show Ev g mL_law 963 [some (vS), some (vR (0)), some (vR (272)), some (vI (((i : Nat) : Int)))] [vI (v)] (M0 (τ0)) 0 0 _
    refine Ev.aload_n dL_law_963 rfl rfl ?_
    refine Ev.aloadS dL_law_964 rfl rfl ?_
    refine Ev.iload_n dL_law_965 rfl rfl ?_
    refine Ev.iconst dL_law_966 ?_
    refine Ev.iadd dL_law_967 ?_
    refine Ev.sload (v := (sc g (i + 1))) rfl dL_law_968 (by omega) (by omega) (by omega) (sc_at (by omega)) ?_
    refine Ev.aloadS dL_law_969 rfl rfl ?_
    refine Ev.iload_n dL_law_970 rfl rfl ?_
    refine Ev.iconst dL_law_971 ?_
    refine Ev.iadd dL_law_972 ?_
    refine Ev.sload (v := (sc g (i + 2))) rfl dL_law_973 (by omega) (by omega) (by omega) (sc_at (by omega)) ?_
    refine Ev.if_eq (tgt := 981) sc_inR dL_law_974 (by decide) (fun h974 => ?_) (fun h974 => ?_)
    · skip
      refine Ev.iconst dL_law_981 ?_
      refine Ev.callV_G (M2 := mX8_best) (args2 := [vI ((sc g (i + 1))), vI (0)]) (rcv := 272) (q := (RX8, TX8, 34)) (ci := 8) dL_law_982 okX8_best (tbl_i 1059 (by decide +kernel)) ovX8_best.1.1 ovX8_best.1.2 ovX8_best.2 (by decide) rfl rfl ltc_272 shc_272 rfl (Nat.le_of_ble_eq_true rfl) (Nat.le_of_ble_eq_true rfl) (r_best s τ0 hM2 ((sc g (i + 1))) sc_inR 0 ⟨by decide, by decide⟩) (fun v_ m_ hp_ => ?_) rfl
      obtain ⟨w, ρ, rfl, rfl, hw, hM3, hk2⟩ := hp_
      have hC3 := hC2.keep hk2
      show Ev g mL_law 985 [some (vS), some (vR (0)), some (vR (272)), some (vI (((i : Nat) : Int)))] [vI (w), vI (v)] (M0 (ρ)) 0 0 _
      obtain rfl : w = v := hw.trans hv.symm
      refine Ev.icmp_same (tgt := 1224) dL_law_985 (by decide) ?_
      exact hgo _ ρ hC3 hM3
    · exact absurd h974 (by omega)
  · skip
    refine Ev.iconst dL_law_955 ?_
    refine Ev.goto (tgt := 960) dL_law_956 (by decide) ?_
    refine Ev.callV_G (M2 := mX7_best) (args2 := [vI ((sc g (i + 1))), vI (1)]) (rcv := 0) (q := (RX7, TX7, 20)) (ci := 7) dL_law_960 okX7_best (tbl_i 616 (by decide +kernel)) ovX7_best.1.1 ovX7_best.1.2 ovX7_best.2 (by decide) rfl rfl ltc_0 shc_0 rfl (Nat.le_of_ble_eq_true rfl) (Nat.le_of_ble_eq_true rfl) (c_best s σ hC ((sc g (i + 1))) sc_inR 1 ⟨by decide, by decide⟩) (fun v_ m_ hp_ => ?_) rfl
    obtain ⟨v, τ, rfl, rfl, hv, hC2, hk⟩ := hp_
    have hM2 := hM.keep hk
    show Ev g mL_law 963 [some (vS), some (vR (0)), some (vR (272)), some (vI (((i : Nat) : Int)))] [vI (v)] (M0 (τ)) 0 0 _
    refine Ev.aload_n dL_law_963 rfl rfl ?_
    refine Ev.aloadS dL_law_964 rfl rfl ?_
    refine Ev.iload_n dL_law_965 rfl rfl ?_
    refine Ev.iconst dL_law_966 ?_
    refine Ev.iadd dL_law_967 ?_
    refine Ev.sload (v := (sc g (i + 1))) rfl dL_law_968 (by omega) (by omega) (by omega) (sc_at (by omega)) ?_
    refine Ev.aloadS dL_law_969 rfl rfl ?_
    refine Ev.iload_n dL_law_970 rfl rfl ?_
    refine Ev.iconst dL_law_971 ?_
    refine Ev.iadd dL_law_972 ?_
    refine Ev.sload (v := (sc g (i + 2))) rfl dL_law_973 (by omega) (by omega) (by omega) (sc_at (by omega)) ?_
    refine Ev.if_eq (tgt := 981) sc_inR dL_law_974 (by decide) (fun h974 => ?_) (fun h974 => ?_)
    · exact absurd h974 (by omega)
    · skip
      refine Ev.iconst dL_law_977 ?_
      refine Ev.goto (tgt := 982) dL_law_978 (by decide) ?_
      refine Ev.callV_G (M2 := mX8_best) (args2 := [vI ((sc g (i + 1))), vI (1)]) (rcv := 272) (q := (RX8, TX8, 34)) (ci := 8) dL_law_982 okX8_best (tbl_i 1059 (by decide +kernel)) ovX8_best.1.1 ovX8_best.1.2 ovX8_best.2 (by decide) rfl rfl ltc_272 shc_272 rfl (Nat.le_of_ble_eq_true rfl) (Nat.le_of_ble_eq_true rfl) (r_best s τ hM2 ((sc g (i + 1))) sc_inR 1 ⟨by decide, by decide⟩) (fun v_ m_ hp_ => ?_) rfl
      obtain ⟨w, ρ, rfl, rfl, hw, hM3, hk2⟩ := hp_
      have hC3 := hC2.keep hk2
      show Ev g mL_law 985 [some (vS), some (vR (0)), some (vR (272)), some (vI (((i : Nat) : Int)))] [vI (w), vI (v)] (M0 (ρ)) 0 0 _
      obtain rfl : w = v := hw.trans hv.symm
      refine Ev.icmp_same (tgt := 1224) dL_law_985 (by decide) ?_
      exact hgo _ ρ hC3 hM3

