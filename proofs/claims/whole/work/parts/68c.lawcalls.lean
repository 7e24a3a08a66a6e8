set_option maxRecDepth 100000 in
set_option maxHeartbeats 4000000 in
theorem law_24 {g : GC} (hL : g.2.2.2.2.2.1 ≤ 3072) (i : Nat) (hi : (i : Int) + 6 ≤ g.2.2.2.2.2.1) (s : SS) (σ : Sg) (hC : CI s σ) (hM : MI s σ) {Post : Option PV → Mem → Prop} (hgo : ∀ (s2 : SS) (ρ : Sg), CI s2 ρ → MI s2 ρ → Ev g mL_law 1224 [some (vS), some (vR (0)), some (vR (272)), some (vI (((i : Nat) : Int)))] [] (M0 (ρ)) 0 0 Post) : Ev g mL_law 990 [some (vS), some (vR (0)), some (vR (272)), some (vI (((i : Nat) : Int)))] [] (M0 (σ)) 0 0 (Post) := by
  refine Ev.aload_n dL_law_990 rfl rfl ?_
  refine Ev.aloadS dL_law_991 rfl rfl ?_
  refine Ev.iload_n dL_law_992 rfl rfl ?_
  refine Ev.iconst dL_law_993 ?_
  refine Ev.iadd dL_law_994 ?_
  refine Ev.sload (v := (sc g (i + 1))) rfl dL_law_995 (by omega) (by omega) (by omega) (sc_at (by omega)) ?_
  refine Ev.aloadS dL_law_996 rfl rfl ?_
  refine Ev.iload_n dL_law_997 rfl rfl ?_
  refine Ev.iconst dL_law_998 ?_
  refine Ev.iadd dL_law_999 ?_
  refine Ev.sload (v := (sc g (i + 2))) rfl dL_law_1000 (by omega) (by omega) (by omega) (sc_at (by omega)) ?_
  refine Ev.aloadS dL_law_1001 rfl rfl ?_
  refine Ev.iload_n dL_law_1002 rfl rfl ?_
  refine Ev.iconst dL_law_1003 ?_
  refine Ev.iadd dL_law_1004 ?_
  refine Ev.sload (v := (sc g (i + 3))) rfl dL_law_1005 (by omega) (by omega) (by omega) (sc_at (by omega)) ?_
  refine Ev.callV_G (M2 := mX7_has) (args2 := [vI ((sc g (i + 1))), vI ((sc g (i + 2))), vI ((sc g (i + 3)))]) (rcv := 0) (q := (RX7, TX7, 20)) (ci := 7) dL_law_1006 okX7_has (tbl_i 624 (by decide +kernel)) ovX7_has.1.1 ovX7_has.1.2 ovX7_has.2 (by decide) rfl rfl ltc_0 shc_0 rfl (Nat.le_of_ble_eq_true rfl) (Nat.le_of_ble_eq_true rfl) (c_has s σ hC ((sc g (i + 1))) sc_inR ((sc g (i + 2))) sc_inR ((sc g (i + 3))) sc_inR) (fun v_ m_ hp_ => ?_) rfl
  obtain ⟨v, τ, rfl, rfl, hv, hC2, hk⟩ := hp_
  have hM2 := hM.keep hk
  show Ev g mL_law 1009 [some (vS), some (vR (0)), some (vR (272)), some (vI (((i : Nat) : Int)))] [vI (v)] (M0 (τ)) 0 0 _
  refine Ev.aload_n dL_law_1009 rfl rfl ?_
  refine Ev.aloadS dL_law_1010 rfl rfl ?_
  refine Ev.iload_n dL_law_1011 rfl rfl ?_
  refine Ev.iconst dL_law_1012 ?_
  refine Ev.iadd dL_law_1013 ?_
  refine Ev.sload (v := (sc g (i + 1))) rfl dL_law_1014 (by omega) (by omega) (by omega) (sc_at (by omega)) ?_
  refine Ev.aloadS dL_law_1015 rfl rfl ?_
  refine Ev.iload_n dL_law_1016 rfl rfl ?_
  refine Ev.iconst dL_law_1017 ?_
  refine Ev.iadd dL_law_1018 ?_
  refine Ev.sload (v := (sc g (i + 2))) rfl dL_law_1019 (by omega) (by omega) (by omega) (sc_at (by omega)) ?_
  refine Ev.aloadS dL_law_1020 rfl rfl ?_
  refine Ev.iload_n dL_law_1021 rfl rfl ?_
  refine Ev.iconst dL_law_1022 ?_
  refine Ev.iadd dL_law_1023 ?_
  refine Ev.sload (v := (sc g (i + 3))) rfl dL_law_1024 (by omega) (by omega) (by omega) (sc_at (by omega)) ?_
  refine Ev.callV_G (M2 := mX8_has) (args2 := [vI ((sc g (i + 1))), vI ((sc g (i + 2))), vI ((sc g (i + 3)))]) (rcv := 272) (q := (RX8, TX8, 34)) (ci := 8) dL_law_1025 okX8_has (tbl_i 1063 (by decide +kernel)) ovX8_has.1.1 ovX8_has.1.2 ovX8_has.2 (by decide) rfl rfl ltc_272 shc_272 rfl (Nat.le_of_ble_eq_true rfl) (Nat.le_of_ble_eq_true rfl) (r_has s τ hM2 ((sc g (i + 1))) sc_inR ((sc g (i + 2))) sc_inR ((sc g (i + 3))) sc_inR) (fun v_ m_ hp_ => ?_) rfl
  obtain ⟨w, ρ, rfl, rfl, hw, hM3, hk2⟩ := hp_
  have hC3 := hC2.keep hk2
  show Ev g mL_law 1028 [some (vS), some (vR (0)), some (vR (272)), some (vI (((i : Nat) : Int)))] [vI (w), vI (v)] (M0 (ρ)) 0 0 _
  obtain rfl : w = v := hw.trans hv.symm
  refine Ev.icmp_same (tgt := 1224) dL_law_1028 (by decide) ?_
  exact hgo _ ρ hC3 hM3

set_option maxRecDepth 100000 in
set_option maxHeartbeats 4000000 in
theorem law_25 {g : GC} (hL : g.2.2.2.2.2.1 ≤ 3072) (i : Nat) (hi : (i : Int) + 6 ≤ g.2.2.2.2.2.1) (s : SS) (σ : Sg) (hC : CI s σ) (hM : MI s σ) {Post : Option PV → Mem → Prop} (hgo : ∀ (s2 : SS) (ρ : Sg), CI s2 ρ → MI s2 ρ → Ev g mL_law 1224 [some (vS), some (vR (0)), some (vR (272)), some (vI (((i : Nat) : Int)))] [] (M0 (ρ)) 0 0 Post) : Ev g mL_law 1033 [some (vS), some (vR (0)), some (vR (272)), some (vI (((i : Nat) : Int)))] [] (M0 (σ)) 0 0 (Post) := by
  refine Ev.aload_n dL_law_1033 rfl rfl ?_
  refine Ev.callV_G (M2 := mX7_core) (args2 := []) (rcv := 0) (q := (RX7, TX7, 20)) (ci := 7) dL_law_1034 okX7_core (tbl_i 628 (by decide +kernel)) ovX7_core.1.1 ovX7_core.1.2 ovX7_core.2 (by decide) rfl rfl ltc_0 shc_0 rfl (Nat.le_of_ble_eq_true rfl) (Nat.le_of_ble_eq_true rfl) (c_core s σ hC ) (fun v_ m_ hp_ => ?_) rfl
  obtain ⟨v, τ, rfl, rfl, hv, hC2, hk⟩ := hp_
  have hM2 := hM.keep hk
  show Ev g mL_law 1037 [some (vS), some (vR (0)), some (vR (272)), some (vI (((i : Nat) : Int)))] [vI (v)] (M0 (τ)) 0 0 _
  refine Ev.aload_n dL_law_1037 rfl rfl ?_
  refine Ev.callV_G (M2 := mX8_core) (args2 := []) (rcv := 272) (q := (RX8, TX8, 34)) (ci := 8) dL_law_1038 okX8_core (tbl_i 1067 (by decide +kernel)) ovX8_core.1.1 ovX8_core.1.2 ovX8_core.2 (by decide) rfl rfl ltc_272 shc_272 rfl (Nat.le_of_ble_eq_true rfl) (Nat.le_of_ble_eq_true rfl) (r_core s τ hM2 ) (fun v_ m_ hp_ => ?_) rfl
  obtain ⟨w, ρ, rfl, rfl, hw, hM3, hk2⟩ := hp_
  have hC3 := hC2.keep hk2
  show Ev g mL_law 1041 [some (vS), some (vR (0)), some (vR (272)), some (vI (((i : Nat) : Int)))] [vI (w), vI (v)] (M0 (ρ)) 0 0 _
  obtain rfl : w = v := hw.trans hv.symm
  refine Ev.icmp_same (tgt := 1224) dL_law_1041 (by decide) ?_
  exact hgo _ ρ hC3 hM3

set_option maxRecDepth 100000 in
set_option maxHeartbeats 4000000 in
theorem law_26 {g : GC} (hL : g.2.2.2.2.2.1 ≤ 3072) (i : Nat) (hi : (i : Int) + 6 ≤ g.2.2.2.2.2.1) (s : SS) (σ : Sg) (hC : CI s σ) (hM : MI s σ) {Post : Option PV → Mem → Prop} (hgo : ∀ (s2 : SS) (ρ : Sg), CI s2 ρ → MI s2 ρ → Ev g mL_law 1224 [some (vS), some (vR (0)), some (vR (272)), some (vI (((i : Nat) : Int)))] [] (M0 (ρ)) 0 0 Post) : Ev g mL_law 1046 [some (vS), some (vR (0)), some (vR (272)), some (vI (((i : Nat) : Int)))] [] (M0 (σ)) 0 0 (Post) := by
  refine Ev.aload_n dL_law_1046 rfl rfl ?_
  refine Ev.aloadS dL_law_1047 rfl rfl ?_
  refine Ev.iload_n dL_law_1048 rfl rfl ?_
  refine Ev.iconst dL_law_1049 ?_
  refine Ev.iadd dL_law_1050 ?_
  refine Ev.sload (v := (sc g (i + 1))) rfl dL_law_1051 (by omega) (by omega) (by omega) (sc_at (by omega)) ?_
  refine Ev.callV_G (M2 := mX7_line) (args2 := [vI ((sc g (i + 1)))]) (rcv := 0) (q := (RX7, TX7, 20)) (ci := 7) dL_law_1052 okX7_line (tbl_i 636 (by decide +kernel)) ovX7_line.1.1 ovX7_line.1.2 ovX7_line.2 (by decide) rfl rfl ltc_0 shc_0 rfl (Nat.le_of_ble_eq_true rfl) (Nat.le_of_ble_eq_true rfl) (c_line s σ hC ((sc g (i + 1))) sc_inR) (fun v_ m_ hp_ => ?_) rfl
  obtain ⟨v, τ, rfl, rfl, hv, hC2, hk⟩ := hp_
  have hM2 := hM.keep hk
  show Ev g mL_law 1055 [some (vS), some (vR (0)), some (vR (272)), some (vI (((i : Nat) : Int)))] [vI (v)] (M0 (τ)) 0 0 _
  refine Ev.aload_n dL_law_1055 rfl rfl ?_
  refine Ev.aloadS dL_law_1056 rfl rfl ?_
  refine Ev.iload_n dL_law_1057 rfl rfl ?_
  refine Ev.iconst dL_law_1058 ?_
  refine Ev.iadd dL_law_1059 ?_
  refine Ev.sload (v := (sc g (i + 1))) rfl dL_law_1060 (by omega) (by omega) (by omega) (sc_at (by omega)) ?_
  refine Ev.callV_G (M2 := mX8_line) (args2 := [vI ((sc g (i + 1)))]) (rcv := 272) (q := (RX8, TX8, 34)) (ci := 8) dL_law_1061 okX8_line (tbl_i 1075 (by decide +kernel)) ovX8_line.1.1 ovX8_line.1.2 ovX8_line.2 (by decide) rfl rfl ltc_272 shc_272 rfl (Nat.le_of_ble_eq_true rfl) (Nat.le_of_ble_eq_true rfl) (r_line s τ hM2 ((sc g (i + 1))) sc_inR) (fun v_ m_ hp_ => ?_) rfl
  obtain ⟨w, ρ, rfl, rfl, hw, hM3, hk2⟩ := hp_
  have hC3 := hC2.keep hk2
  show Ev g mL_law 1064 [some (vS), some (vR (0)), some (vR (272)), some (vI (((i : Nat) : Int)))] [vI (w), vI (v)] (M0 (ρ)) 0 0 _
  obtain rfl : w = v := hw.trans hv.symm
  refine Ev.icmp_same (tgt := 1224) dL_law_1064 (by decide) ?_
  exact hgo _ ρ hC3 hM3

set_option maxRecDepth 100000 in
set_option maxHeartbeats 4000000 in
theorem law_27 {g : GC} (hL : g.2.2.2.2.2.1 ≤ 3072) (i : Nat) (hi : (i : Int) + 6 ≤ g.2.2.2.2.2.1) (s : SS) (σ : Sg) (hC : CI s σ) (hM : MI s σ) {Post : Option PV → Mem → Prop} (hgo : ∀ (s2 : SS) (ρ : Sg), CI s2 ρ → MI s2 ρ → Ev g mL_law 1224 [some (vS), some (vR (0)), some (vR (272)), some (vI (((i : Nat) : Int)))] [] (M0 (ρ)) 0 0 Post) : Ev g mL_law 1069 [some (vS), some (vR (0)), some (vR (272)), some (vI (((i : Nat) : Int)))] [] (M0 (σ)) 0 0 (Post) := by
  refine Ev.aload_n dL_law_1069 rfl rfl ?_
  refine Ev.aloadS dL_law_1070 rfl rfl ?_
  refine Ev.iload_n dL_law_1071 rfl rfl ?_
  refine Ev.iconst dL_law_1072 ?_
  refine Ev.iadd dL_law_1073 ?_
  refine Ev.sload (v := (sc g (i + 1))) rfl dL_law_1074 (by omega) (by omega) (by omega) (sc_at (by omega)) ?_
  refine Ev.aloadS dL_law_1075 rfl rfl ?_
  refine Ev.iload_n dL_law_1076 rfl rfl ?_
  refine Ev.iconst dL_law_1077 ?_
  refine Ev.iadd dL_law_1078 ?_
  refine Ev.sload (v := (sc g (i + 2))) rfl dL_law_1079 (by omega) (by omega) (by omega) (sc_at (by omega)) ?_
  refine Ev.aloadS dL_law_1080 rfl rfl ?_
  refine Ev.iload_n dL_law_1081 rfl rfl ?_
  refine Ev.iconst dL_law_1082 ?_
  refine Ev.iadd dL_law_1083 ?_
  refine Ev.sload (v := (sc g (i + 3))) rfl dL_law_1084 (by omega) (by omega) (by omega) (sc_at (by omega)) ?_
  refine Ev.aloadS dL_law_1085 rfl rfl ?_
  refine Ev.iload_n dL_law_1086 rfl rfl ?_
  refine Ev.iconst dL_law_1087 ?_
  refine Ev.iadd dL_law_1088 ?_
  refine Ev.sload (v := (sc g (i + 4))) rfl dL_law_1089 (by omega) (by omega) (by omega) (sc_at (by omega)) ?_
  refine Ev.callV_G (M2 := mX7_says) (args2 := [vI ((sc g (i + 1))), vI ((sc g (i + 2))), vI ((sc g (i + 3))), vI ((sc g (i + 4)))]) (rcv := 0) (q := (RX7, TX7, 20)) (ci := 7) dL_law_1090 okX7_says (tbl_i 640 (by decide +kernel)) ovX7_says.1.1 ovX7_says.1.2 ovX7_says.2 (by decide) rfl rfl ltc_0 shc_0 rfl (Nat.le_of_ble_eq_true rfl) (Nat.le_of_ble_eq_true rfl) (c_says s σ hC ((sc g (i + 1))) sc_inR ((sc g (i + 2))) sc_inR ((sc g (i + 3))) sc_inR ((sc g (i + 4))) sc_inR) (fun v_ m_ hp_ => ?_) rfl
  obtain ⟨v, τ, rfl, rfl, hv, hC2, hk⟩ := hp_
  have hM2 := hM.keep hk
  show Ev g mL_law 1093 [some (vS), some (vR (0)), some (vR (272)), some (vI (((i : Nat) : Int)))] [vI (v)] (M0 (τ)) 0 0 _
  refine Ev.aload_n dL_law_1093 rfl rfl ?_
  refine Ev.aloadS dL_law_1094 rfl rfl ?_
  refine Ev.iload_n dL_law_1095 rfl rfl ?_
  refine Ev.iconst dL_law_1096 ?_
  refine Ev.iadd dL_law_1097 ?_
  refine Ev.sload (v := (sc g (i + 1))) rfl dL_law_1098 (by omega) (by omega) (by omega) (sc_at (by omega)) ?_
  refine Ev.aloadS dL_law_1099 rfl rfl ?_
  refine Ev.iload_n dL_law_1100 rfl rfl ?_
  refine Ev.iconst dL_law_1101 ?_
  refine Ev.iadd dL_law_1102 ?_
  refine Ev.sload (v := (sc g (i + 2))) rfl dL_law_1103 (by omega) (by omega) (by omega) (sc_at (by omega)) ?_
  refine Ev.aloadS dL_law_1104 rfl rfl ?_
  refine Ev.iload_n dL_law_1105 rfl rfl ?_
  refine Ev.iconst dL_law_1106 ?_
  refine Ev.iadd dL_law_1107 ?_
  refine Ev.sload (v := (sc g (i + 3))) rfl dL_law_1108 (by omega) (by omega) (by omega) (sc_at (by omega)) ?_
  refine Ev.aloadS dL_law_1109 rfl rfl ?_
  refine Ev.iload_n dL_law_1110 rfl rfl ?_
  refine Ev.iconst dL_law_1111 ?_
  refine Ev.iadd dL_law_1112 ?_
  refine Ev.sload (v := (sc g (i + 4))) rfl dL_law_1113 (by omega) (by omega) (by omega) (sc_at (by omega)) ?_
  refine Ev.callV_G (M2 := mX8_says) (args2 := [vI ((sc g (i + 1))), vI ((sc g (i + 2))), vI ((sc g (i + 3))), vI ((sc g (i + 4)))]) (rcv := 272) (q := (RX8, TX8, 34)) (ci := 8) dL_law_1114 okX8_says (tbl_i 1079 (by decide +kernel)) ovX8_says.1.1 ovX8_says.1.2 ovX8_says.2 (by decide) rfl rfl ltc_272 shc_272 rfl (Nat.le_of_ble_eq_true rfl) (Nat.le_of_ble_eq_true rfl) (r_says s τ hM2 ((sc g (i + 1))) sc_inR ((sc g (i + 2))) sc_inR ((sc g (i + 3))) sc_inR ((sc g (i + 4))) sc_inR) (fun v_ m_ hp_ => ?_) rfl
  obtain ⟨w, ρ, rfl, rfl, hw, hM3, hk2⟩ := hp_
  have hC3 := hC2.keep hk2
  show Ev g mL_law 1117 [some (vS), some (vR (0)), some (vR (272)), some (vI (((i : Nat) : Int)))] [vI (w), vI (v)] (M0 (ρ)) 0 0 _
  obtain rfl : w = v := hw.trans hv.symm
  refine Ev.icmp_same (tgt := 1224) dL_law_1117 (by decide) ?_
  exact hgo _ ρ hC3 hM3

set_option maxRecDepth 100000 in
set_option maxHeartbeats 4000000 in
theorem law_28 {g : GC} (hL : g.2.2.2.2.2.1 ≤ 3072) (i : Nat) (hi : (i : Int) + 6 ≤ g.2.2.2.2.2.1) (s : SS) (σ : Sg) (hC : CI s σ) (hM : MI s σ) {Post : Option PV → Mem → Prop} (hgo : ∀ (s2 : SS) (ρ : Sg), CI s2 ρ → MI s2 ρ → Ev g mL_law 1224 [some (vS), some (vR (0)), some (vR (272)), some (vI (((i : Nat) : Int)))] [] (M0 (ρ)) 0 0 Post) : Ev g mL_law 1122 [some (vS), some (vR (0)), some (vR (272)), some (vI (((i : Nat) : Int)))] [] (M0 (σ)) 0 0 (Post) := by
  refine Ev.aload_n dL_law_1122 rfl rfl ?_
  refine Ev.aloadS dL_law_1123 rfl rfl ?_
  refine Ev.iload_n dL_law_1124 rfl rfl ?_
  refine Ev.iconst dL_law_1125 ?_
  refine Ev.iadd dL_law_1126 ?_
  refine Ev.sload (v := (sc g (i + 1))) rfl dL_law_1127 (by omega) (by omega) (by omega) (sc_at (by omega)) ?_
  refine Ev.aloadS dL_law_1128 rfl rfl ?_
  refine Ev.iload_n dL_law_1129 rfl rfl ?_
  refine Ev.iconst dL_law_1130 ?_
  refine Ev.iadd dL_law_1131 ?_
  refine Ev.sload (v := (sc g (i + 2))) rfl dL_law_1132 (by omega) (by omega) (by omega) (sc_at (by omega)) ?_
  refine Ev.aloadS dL_law_1133 rfl rfl ?_
  refine Ev.iload_n dL_law_1134 rfl rfl ?_
  refine Ev.iconst dL_law_1135 ?_
  refine Ev.iadd dL_law_1136 ?_
  refine Ev.sload (v := (sc g (i + 3))) rfl dL_law_1137 (by omega) (by omega) (by omega) (sc_at (by omega)) ?_
  refine Ev.aloadS dL_law_1138 rfl rfl ?_
  refine Ev.iload_n dL_law_1139 rfl rfl ?_
  refine Ev.iconst dL_law_1140 ?_
  refine Ev.iadd dL_law_1141 ?_
  refine Ev.sload (v := (sc g (i + 4))) rfl dL_law_1142 (by omega) (by omega) (by omega) (sc_at (by omega)) ?_
  refine Ev.callV_G (M2 := mX7_forge) (args2 := [vI ((sc g (i + 1))), vI ((sc g (i + 2))), vI ((sc g (i + 3))), vI ((sc g (i + 4)))]) (rcv := 0) (q := (RX7, TX7, 20)) (ci := 7) dL_law_1143 okX7_forge (tbl_i 648 (by decide +kernel)) ovX7_forge.1.1 ovX7_forge.1.2 ovX7_forge.2 (by decide) rfl rfl ltc_0 shc_0 rfl (Nat.le_of_ble_eq_true rfl) (Nat.le_of_ble_eq_true rfl) (c_forge s σ hC ((sc g (i + 1))) sc_inR ((sc g (i + 2))) sc_inR ((sc g (i + 3))) sc_inR ((sc g (i + 4))) sc_inR) (fun v_ m_ hp_ => ?_) rfl
  obtain ⟨v, τ, rfl, rfl, hv, hC2, hk⟩ := hp_
  have hM2 := hM.keep hk
  show Ev g mL_law 1146 [some (vS), some (vR (0)), some (vR (272)), some (vI (((i : Nat) : Int)))] [vI (v)] (M0 (τ)) 0 0 _
  refine Ev.aload_n dL_law_1146 rfl rfl ?_
  refine Ev.aloadS dL_law_1147 rfl rfl ?_
  refine Ev.iload_n dL_law_1148 rfl rfl ?_
  refine Ev.iconst dL_law_1149 ?_
  refine Ev.iadd dL_law_1150 ?_
  refine Ev.sload (v := (sc g (i + 1))) rfl dL_law_1151 (by omega) (by omega) (by omega) (sc_at (by omega)) ?_
  refine Ev.aloadS dL_law_1152 rfl rfl ?_
  refine Ev.iload_n dL_law_1153 rfl rfl ?_
  refine Ev.iconst dL_law_1154 ?_
  refine Ev.iadd dL_law_1155 ?_
  refine Ev.sload (v := (sc g (i + 2))) rfl dL_law_1156 (by omega) (by omega) (by omega) (sc_at (by omega)) ?_
  refine Ev.aloadS dL_law_1157 rfl rfl ?_
  refine Ev.iload_n dL_law_1158 rfl rfl ?_
  refine Ev.iconst dL_law_1159 ?_
  refine Ev.iadd dL_law_1160 ?_
  refine Ev.sload (v := (sc g (i + 3))) rfl dL_law_1161 (by omega) (by omega) (by omega) (sc_at (by omega)) ?_
  refine Ev.aloadS dL_law_1162 rfl rfl ?_
  refine Ev.iload_n dL_law_1163 rfl rfl ?_
  refine Ev.iconst dL_law_1164 ?_
  refine Ev.iadd dL_law_1165 ?_
  refine Ev.sload (v := (sc g (i + 4))) rfl dL_law_1166 (by omega) (by omega) (by omega) (sc_at (by omega)) ?_
  refine Ev.callV_G (M2 := mX8_forge) (args2 := [vI ((sc g (i + 1))), vI ((sc g (i + 2))), vI ((sc g (i + 3))), vI ((sc g (i + 4)))]) (rcv := 272) (q := (RX8, TX8, 34)) (ci := 8) dL_law_1167 okX8_forge (tbl_i 1087 (by decide +kernel)) ovX8_forge.1.1 ovX8_forge.1.2 ovX8_forge.2 (by decide) rfl rfl ltc_272 shc_272 rfl (Nat.le_of_ble_eq_true rfl) (Nat.le_of_ble_eq_true rfl) (r_forge s τ hM2 ((sc g (i + 1))) sc_inR ((sc g (i + 2))) sc_inR ((sc g (i + 3))) sc_inR ((sc g (i + 4))) sc_inR) (fun v_ m_ hp_ => ?_) rfl
  obtain ⟨w, ρ, rfl, rfl, hw, hM3, hk2⟩ := hp_
  have hC3 := hC2.keep hk2
  show Ev g mL_law 1170 [some (vS), some (vR (0)), some (vR (272)), some (vI (((i : Nat) : Int)))] [vI (w), vI (v)] (M0 (ρ)) 0 0 _
  obtain rfl : w = v := hw.trans hv.symm
  refine Ev.icmp_same (tgt := 1224) dL_law_1170 (by decide) ?_
  exact hgo _ ρ hC3 hM3

set_option maxRecDepth 100000 in
set_option maxHeartbeats 4000000 in
theorem law_29 {g : GC} (hL : g.2.2.2.2.2.1 ≤ 3072) (i : Nat) (hi : (i : Int) + 6 ≤ g.2.2.2.2.2.1) (s : SS) (σ : Sg) (hC : CI s σ) (hM : MI s σ) {Post : Option PV → Mem → Prop} (hgo : ∀ (s2 : SS) (ρ : Sg), CI s2 ρ → MI s2 ρ → Ev g mL_law 1224 [some (vS), some (vR (0)), some (vR (272)), some (vI (((i : Nat) : Int)))] [] (M0 (ρ)) 0 0 Post) : Ev g mL_law 1175 [some (vS), some (vR (0)), some (vR (272)), some (vI (((i : Nat) : Int)))] [] (M0 (σ)) 0 0 (Post) := by
  refine Ev.aload_n dL_law_1175 rfl rfl ?_
  refine Ev.callV_G (M2 := mX7_check) (args2 := []) (rcv := 0) (q := (RX7, TX7, 20)) (ci := 7) dL_law_1176 okX7_check (tbl_i 652 (by decide +kernel)) ovX7_check.1.1 ovX7_check.1.2 ovX7_check.2 (by decide) rfl rfl ltc_0 shc_0 rfl (Nat.le_of_ble_eq_true rfl) (Nat.le_of_ble_eq_true rfl) (c_check s σ hC ) (fun v_ m_ hp_ => ?_) rfl
  obtain ⟨v, τ, rfl, rfl, hv, hC2, hk⟩ := hp_
  have hM2 := hM.keep hk
  show Ev g mL_law 1179 [some (vS), some (vR (0)), some (vR (272)), some (vI (((i : Nat) : Int)))] [vI (v)] (M0 (τ)) 0 0 _
  refine Ev.aload_n dL_law_1179 rfl rfl ?_
  refine Ev.callV_G (M2 := mX8_check) (args2 := []) (rcv := 272) (q := (RX8, TX8, 34)) (ci := 8) dL_law_1180 okX8_check (tbl_i 1091 (by decide +kernel)) ovX8_check.1.1 ovX8_check.1.2 ovX8_check.2 (by decide) rfl rfl ltc_272 shc_272 rfl (Nat.le_of_ble_eq_true rfl) (Nat.le_of_ble_eq_true rfl) (r_check s τ hM2 ) (fun v_ m_ hp_ => ?_) rfl
  obtain ⟨w, ρ, rfl, rfl, hw, hM3, hk2⟩ := hp_
  have hC3 := hC2.keep hk2
  show Ev g mL_law 1183 [some (vS), some (vR (0)), some (vR (272)), some (vI (((i : Nat) : Int)))] [vI (w), vI (v)] (M0 (ρ)) 0 0 _
  obtain rfl : w = v := hw.trans hv.symm
  refine Ev.icmp_same (tgt := 1224) dL_law_1183 (by decide) ?_
  exact hgo _ ρ hC3 hM3

set_option maxRecDepth 100000 in
set_option maxHeartbeats 4000000 in
theorem law_30 {g : GC} (hL : g.2.2.2.2.2.1 ≤ 3072) (i : Nat) (hi : (i : Int) + 6 ≤ g.2.2.2.2.2.1) (s : SS) (σ : Sg) (hC : CI s σ) (hM : MI s σ) {Post : Option PV → Mem → Prop} (hgo : ∀ (s2 : SS) (ρ : Sg), CI s2 ρ → MI s2 ρ → Ev g mL_law 1224 [some (vS), some (vR (0)), some (vR (272)), some (vI (((i : Nat) : Int)))] [] (M0 (ρ)) 0 0 Post) : Ev g mL_law 1188 [some (vS), some (vR (0)), some (vR (272)), some (vI (((i : Nat) : Int)))] [] (M0 (σ)) 0 0 (Post) := by
  refine Ev.aload_n dL_law_1188 rfl rfl ?_
  refine Ev.callV_G (M2 := mX7_refutes) (args2 := []) (rcv := 0) (q := (RX7, TX7, 20)) (ci := 7) dL_law_1189 okX7_refutes (tbl_i 668 (by decide +kernel)) ovX7_refutes.1.1 ovX7_refutes.1.2 ovX7_refutes.2 (by decide) rfl rfl ltc_0 shc_0 rfl (Nat.le_of_ble_eq_true rfl) (Nat.le_of_ble_eq_true rfl) (c_refutes s σ hC ) (fun v_ m_ hp_ => ?_) rfl
  obtain ⟨v, τ, rfl, rfl, hv, hC2, hk⟩ := hp_
  have hM2 := hM.keep hk
  show Ev g mL_law 1192 [some (vS), some (vR (0)), some (vR (272)), some (vI (((i : Nat) : Int)))] [vI (v)] (M0 (τ)) 0 0 _
  refine Ev.aload_n dL_law_1192 rfl rfl ?_
  refine Ev.callV_G (M2 := mX8_refutes) (args2 := []) (rcv := 272) (q := (RX8, TX8, 34)) (ci := 8) dL_law_1193 okX8_refutes (tbl_i 1111 (by decide +kernel)) ovX8_refutes.1.1 ovX8_refutes.1.2 ovX8_refutes.2 (by decide) rfl rfl ltc_272 shc_272 rfl (Nat.le_of_ble_eq_true rfl) (Nat.le_of_ble_eq_true rfl) (r_refutes s τ hM2 ) (fun v_ m_ hp_ => ?_) rfl
  obtain ⟨w, ρ, rfl, rfl, hw, hM3, hk2⟩ := hp_
  have hC3 := hC2.keep hk2
  show Ev g mL_law 1196 [some (vS), some (vR (0)), some (vR (272)), some (vI (((i : Nat) : Int)))] [vI (w), vI (v)] (M0 (ρ)) 0 0 _
  obtain rfl : w = v := hw.trans hv.symm
  refine Ev.icmp_same (tgt := 1224) dL_law_1196 (by decide) ?_
  exact hgo _ ρ hC3 hM3

set_option maxRecDepth 100000 in
set_option maxHeartbeats 4000000 in
theorem law_31 {g : GC} (hL : g.2.2.2.2.2.1 ≤ 3072) (i : Nat) (hi : (i : Int) + 6 ≤ g.2.2.2.2.2.1) (s : SS) (σ : Sg) (hC : CI s σ) (hM : MI s σ) {Post : Option PV → Mem → Prop} (hgo : ∀ (s2 : SS) (ρ : Sg), CI s2 ρ → MI s2 ρ → Ev g mL_law 1224 [some (vS), some (vR (0)), some (vR (272)), some (vI (((i : Nat) : Int)))] [] (M0 (ρ)) 0 0 Post) : Ev g mL_law 1201 [some (vS), some (vR (0)), some (vR (272)), some (vI (((i : Nat) : Int)))] [] (M0 (σ)) 0 0 (Post) := by
  refine Ev.aload_n dL_law_1201 rfl rfl ?_
  refine Ev.aloadS dL_law_1202 rfl rfl ?_
  refine Ev.iload_n dL_law_1203 rfl rfl ?_
  refine Ev.iconst dL_law_1204 ?_
  refine Ev.iadd dL_law_1205 ?_
  refine Ev.sload (v := (sc g (i + 1))) rfl dL_law_1206 (by omega) (by omega) (by omega) (sc_at (by omega)) ?_
  refine Ev.callV_G (M2 := mX7_total) (args2 := [vI ((sc g (i + 1)))]) (rcv := 0) (q := (RX7, TX7, 20)) (ci := 7) dL_law_1207 okX7_total (tbl_i 673 (by decide +kernel)) ovX7_total.1.1 ovX7_total.1.2 ovX7_total.2 (by decide) rfl rfl ltc_0 shc_0 rfl (Nat.le_of_ble_eq_true rfl) (Nat.le_of_ble_eq_true rfl) (c_total s σ hC ((sc g (i + 1))) sc_inR) (fun v_ m_ hp_ => ?_) rfl
  obtain ⟨v, τ, rfl, rfl, hv, hC2, hk⟩ := hp_
  have hM2 := hM.keep hk
  show Ev g mL_law 1210 [some (vS), some (vR (0)), some (vR (272)), some (vI (((i : Nat) : Int)))] [vI (v)] (M0 (τ)) 0 0 _
  refine Ev.aload_n dL_law_1210 rfl rfl ?_
  refine Ev.aloadS dL_law_1211 rfl rfl ?_
  refine Ev.iload_n dL_law_1212 rfl rfl ?_
  refine Ev.iconst dL_law_1213 ?_
  refine Ev.iadd dL_law_1214 ?_
  refine Ev.sload (v := (sc g (i + 1))) rfl dL_law_1215 (by omega) (by omega) (by omega) (sc_at (by omega)) ?_
  refine Ev.callV_G (M2 := mX8_total) (args2 := [vI ((sc g (i + 1)))]) (rcv := 272) (q := (RX8, TX8, 34)) (ci := 8) dL_law_1216 okX8_total (tbl_i 1115 (by decide +kernel)) ovX8_total.1.1 ovX8_total.1.2 ovX8_total.2 (by decide) rfl rfl ltc_272 shc_272 rfl (Nat.le_of_ble_eq_true rfl) (Nat.le_of_ble_eq_true rfl) (r_total s τ hM2 ((sc g (i + 1))) sc_inR) (fun v_ m_ hp_ => ?_) rfl
  obtain ⟨w, ρ, rfl, rfl, hw, hM3, hk2⟩ := hp_
  have hC3 := hC2.keep hk2
  show Ev g mL_law 1219 [some (vS), some (vR (0)), some (vR (272)), some (vI (((i : Nat) : Int)))] [vI (w), vI (v)] (M0 (ρ)) 0 0 _
  obtain rfl : w = v := hw.trans hv.symm
  refine Ev.icmp_same (tgt := 1224) dL_law_1219 (by decide) ?_
  exact hgo _ ρ hC3 hM3

