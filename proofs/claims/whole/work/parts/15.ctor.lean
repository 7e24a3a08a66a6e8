/-! THE CONSTRUCTORS, run on cells by number: what they make is the world of 14 -/
section EV
variable {g : GC} {M : MD} {pc : Nat} {pl : List (Option PV)} {st : List PV} {m : Mem} {nc ns : Nat} {Post : Option PV → Mem → Prop}
theorem Ev.callI_V {idx rcv n2 nc2 ns2 : Nat} {M2 : MD} {args2 : List PV} {mm : Mem} (hd : decode M.2.1 pc = .ok (.invokespecial idx, 3)) (hM2 : okM M2) (ho : okI M2 n2) (hw : Cond.methodLink M.1.cls idx M2.1 ∈ lw_tbl) (hdep : M2.2.2.2.2 + 1 ≤ M.2.2.2.2) (hn : args2.length = n2) (hl2 : (entL (vR rcv :: args2)).length ≤ M2.2.2.1) (hcat : catS st ≤ 8)
    (h2 : Ev g M2 0 (entP M2 (vR rcv :: args2)) [] m nc2 ns2 (fun v m' => v = none ∧ m' = mm)) (kk : Ev g M (pc + 3) pl st mm nc ns Post) {st0 : List PV} (hst : st0 = args2.reverse ++ vR rcv :: st) : Ev g M pc pl st0 m (nc2 + nc) (ns2 + ns) Post :=
  Ev.callI hd hM2 ho.1.2.2 ho.1.2.1 hw ho.1.1 ho.2 hdep hn hl2 hcat h2 (fun v m' hp => by obtain ⟨rfl, rfl⟩ := hp; exact kk) hst
theorem Ev.callIN_V {idx rcv n2 nc2 ns2 : Nat} {host : String} {M2 : MD} {args2 : List PV} {mm : Mem} (hd : decode M.2.1 pc = .ok (.invokespecial idx, 3)) (hM2 : okM M2) (ho : okI M2 n2) (hw : (M.1.cls, idx, M2.1, host) ∈ nestL) (hdep : M2.2.2.2.2 + 1 ≤ M.2.2.2.2) (hn : args2.length = n2) (hl2 : (entL (vR rcv :: args2)).length ≤ M2.2.2.1) (hcat : catS st ≤ 8)
    (h2 : Ev g M2 0 (entP M2 (vR rcv :: args2)) [] m nc2 ns2 (fun v m' => v = none ∧ m' = mm)) (kk : Ev g M (pc + 3) pl st mm nc ns Post) {st0 : List PV} (hst : st0 = args2.reverse ++ vR rcv :: st) : Ev g M pc pl st0 m (nc2 + nc) (ns2 + ns) Post :=
  Ev.callIN hd hM2 ho.1.2.2 ho.1.2.1 hw ho.1.1 ho.2 hdep hn hl2 hcat h2 (fun v m' hp => by obtain ⟨rfl, rfl⟩ := hp; exact kk) hst
theorem Ev.cstk {st' : List PV} (h : st = st') (kk : Ev g M pc pl st' m nc ns Post) : Ev g M pc pl st m nc ns Post := by rw [h]; exact kk
end EV
def ruleM (m : Mem) (c : Nat) : Mem := ((((((m.more (1, 6)).wr c 5 (some m.1)).more (1, 6)).wr c 6 (some (m.1 + 1))).more (1, 6)).wr c 7 (some (m.1 + 2)))
def lmA (m : Mem) (arr : Nat) : Nat → Mem
  | 0 => m
  | k + 1 => (ruleM ((lmA m arr k).more (0, 3)) (lmA m arr k).1).wr arr k (some (lmA m arr k).1)
theorem lmF {m : Mem} {arr f N : Nat} (h0 : 0 < m.1) (hs0 : m.2.1 0 = (0, 7)) (ha : arr < m.1) (hsa : m.2.1 arr = (4, N)) (hf : m.2.2.2 0 f = some arr) (hne : arr ≠ 0) : ∀ k, (lmA m arr k).1 = m.1 + 4 * k ∧ (lmA m arr k).2.1 0 = (0, 7) ∧ (lmA m arr k).2.1 arr = (4, N) ∧ (lmA m arr k).2.2.2 0 f = some arr := by
  intro k
  induction k with
  | zero => exact ⟨rfl, hs0, hsa, hf⟩
  | succ k ih =>
    obtain ⟨i1, i2, i3, i4⟩ := ih
    refine ⟨by show (lmA m arr k).1 + 1 + 1 + 1 + 1 = _; omega, ?_, ?_, ?_⟩
    · simp only [lmA, ruleM, up1]
      repeat rw [if_neg (by omega)]
      exact i2
    · simp only [lmA, ruleM, up1]
      repeat rw [if_neg (by omega)]
      exact i3
    · simp only [lmA, ruleM]
      repeat (first | rw [upC_ne (by omega)] | rw [up1_ne (by omega)])
      exact i4

set_option maxRecDepth 100000 in
set_option maxHeartbeats 4000000 in
theorem ct_rule {g : GC} {m : Mem} {c : Nat} (hc : c < m.1) (hs : m.2.1 c = (0, 3)) : Ev g mX3_init 0 [some (vR c)] [] m 3 18 (fun v m' => v = none ∧ m' = ruleM m c) := by
  have h1 : (m.more (1, 6)).2.1 c = (0, 3) := by rw [← hs]; exact up1_ne (by omega)
  have h2 : ((m.more (1, 6)).more (1, 6)).2.1 c = (0, 3) := by rw [← h1]; exact up1_ne (by show c ≠ m.1 + 1; omega)
  have h3 : (((m.more (1, 6)).more (1, 6)).more (1, 6)).2.1 c = (0, 3) := by rw [← h2]; exact up1_ne (by show c ≠ m.1 + 1 + 1; omega)
  refine Ev.aload_n dX3_init_0 rfl rfl ?_
  refine Ev.objI dX3_init_1 (tbl_i 54 (by decide +kernel)) (by decide) (Nat.le_of_ble_eq_true rfl) ?_
  refine Ev.aload_n dX3_init_4 rfl rfl ?_
  refine Ev.bipush (n := 6) (by decide) dX3_init_5 ?_
  refine Ev.newi (n := 6) (nc := 2) (ns := 12) dX3_init_7 (by decide) (by decide) ?_
  refine pf_X3_9 rfl rfl dX3_init_9 (by show c < m.1 + 1; omega) h1 ?_
  refine Ev.aload_n dX3_init_12 rfl rfl ?_
  refine Ev.bipush (n := 6) (by decide) dX3_init_13 ?_
  refine Ev.newi (n := 6) (nc := 1) (ns := 6) dX3_init_15 (by decide) (by decide) ?_
  refine pf_X3_15 rfl rfl dX3_init_17 (by show c < m.1 + 1 + 1; omega) h2 ?_
  refine Ev.aload_n dX3_init_20 rfl rfl ?_
  refine Ev.bipush (n := 6) (by decide) dX3_init_21 ?_
  refine Ev.newi (n := 6) (nc := 0) (ns := 0) dX3_init_23 (by decide) (by decide) ?_
  refine pf_X3_18 rfl rfl dX3_init_25 (by show c < m.1 + 1 + 1 + 1; omega) h3 ?_
  exact Ev.vreturn dX3_init_28 rfl ⟨rfl, rfl⟩
def cmA : Mem := Mem.more (0, fun _ => (0, 0), fun _ _ => 0, fun _ _ => none) (0, 7)
set_option maxRecDepth 100000 in
set_option maxHeartbeats 4000000 in
theorem ct_loop96 {g : GC} {m : Mem} {nc ns : Nat} {Post : Option PV → Mem → Prop} (h0 : 0 < m.1) (hs0 : m.2.1 0 = (0, 7)) (ha : 3 < m.1) (hsa : m.2.1 3 = (4, 16)) (hf : m.2.2.2 0 3 = some 3) : ∀ j k : Nat, k + j = 16 → Ev g mX7_init 121 [some (vR 0), some (vI ((16 : Nat) : Int)), none] [] (lmA m 3 16) nc ns Post → Ev g mX7_init 96 [some (vR 0), some (vI (k : Int)), none] [] (lmA m 3 k) (nc + 4 * j) (ns + 26 * j) Post := by
  intro j
  induction j with
  | zero =>
    intro k hk kk
    have : k = 16 := by omega
    subst this
    refine Ev.iload_n dX7_init_96 rfl rfl ?_
    refine Ev.bipush (n := 16) (by decide) dX7_init_97 ?_
    exact Ev.icmp_ge (tgt := 121) ⟨by decide, by decide⟩ ⟨by decide, by decide⟩ dX7_init_99 (by decide) (fun _ => kk) (fun h => absurd (by decide) h)
  | succ j ih =>
    intro k hk kk
    obtain ⟨f1, f2, f3, f4⟩ := lmF h0 hs0 ha hsa hf (by decide) k
    have hz : (lmA m 3 k).1 < (lmA m 3 k).1 + 1 := by omega
    refine Ev.iload_n dX7_init_96 rfl rfl ?_
    refine Ev.bipush (n := 16) (by decide) dX7_init_97 ?_
    refine Ev.icmp_ge (tgt := 121) ⟨by omega, by omega⟩ ⟨by decide, by decide⟩ dX7_init_99 (by decide) (fun h => absurd h (by omega)) (fun _ => ?_)
    refine Ev.aload_n dX7_init_102 rfl rfl ?_
    refine gf_X7_18 (x := some 3) rfl dX7_init_103 (by omega) f2 f4 ?_
    refine Ev.iload_n dX7_init_106 rfl rfl ?_
    rw [show nc + 4 * (j + 1) = (nc + 4 * j + 3) + 1 by omega, show ns + 26 * (j + 1) = (ns + 26 * j + 18) + 8 by omega]
    refine Ev.new (q := (RX3, TX3, 8)) (ci := 3) dX7_init_107 rfl (by decide) (tbl_i 22 (by decide +kernel)) (tbl_i 50 (by decide +kernel)) (tbl_i 3 (by decide +kernel)) ?_
    refine Ev.dupR dX7_init_110 ?_
    rw [show nc + 4 * j + 3 = 3 + (nc + 4 * j) by omega, show ns + 26 * j + 18 = 18 + (ns + 26 * j) by omega]
    refine Ev.callIN_V (M2 := mX3_init) (args2 := []) (host := "NarrowingKernel") (rcv := (lmA m 3 k).1) (nc2 := 3) (ns2 := 18) dX7_init_111 okX3_init oiX3_init (show _ ∈ nestL from by decide) (by decide) rfl (Nat.le_of_ble_eq_true rfl) (Nat.le_of_ble_eq_true rfl) (ct_rule hz up1_at) ?_ rfl
    refine Ev.rastore (n := 16) (i := (k : Int)) dX7_init_114 (by show _ < (lmA m 3 k).1 + 1 + 1 + 1 + 1; omega) ?_ (by decide) (by omega) (by omega) (by show _ < (lmA m 3 k).1 + 1 + 1 + 1 + 1; omega) ?_ ?_
    · simp only [ruleM, up1]
      repeat rw [if_neg (by omega)]
      exact f3
    · simp only [ruleM, up1]
      rw [if_neg (by omega), if_neg (by omega), if_neg (by omega)]
      exact if_pos trivial
    · refine Ev.iinc (pl' := [some (vR 0), some (vI ((k : Int) + 1)), none]) dX7_init_115 rfl (Nat.le_of_ble_eq_true rfl) rfl ?_
      refine Ev.goto (tgt := 96) dX7_init_118 (by decide) ?_
      exact ih (k + 1) (by omega) kk
set_option maxRecDepth 100000 in
set_option maxHeartbeats 4000000 in
theorem ct_loop123 {g : GC} {m : Mem} {nc ns : Nat} {Post : Option PV → Mem → Prop} (h0 : 0 < m.1) (hs0 : m.2.1 0 = (0, 7)) (ha : 22 < m.1) (hsa : m.2.1 22 = (4, 40)) (hf : m.2.2.2 0 12 = some 22) : ∀ j k : Nat, k + j = 40 → Ev g mX7_init 148 [some (vR 0), some (vI ((40 : Nat) : Int)), none] [] (lmA m 22 40) nc ns Post → Ev g mX7_init 123 [some (vR 0), some (vI (k : Int)), none] [] (lmA m 22 k) (nc + 4 * j) (ns + 26 * j) Post := by
  intro j
  induction j with
  | zero =>
    intro k hk kk
    have : k = 40 := by omega
    subst this
    refine Ev.iload_n dX7_init_123 rfl rfl ?_
    refine Ev.bipush (n := 40) (by decide) dX7_init_124 ?_
    exact Ev.icmp_ge (tgt := 148) ⟨by decide, by decide⟩ ⟨by decide, by decide⟩ dX7_init_126 (by decide) (fun _ => kk) (fun h => absurd (by decide) h)
  | succ j ih =>
    intro k hk kk
    obtain ⟨f1, f2, f3, f4⟩ := lmF h0 hs0 ha hsa hf (by decide) k
    have hz : (lmA m 22 k).1 < (lmA m 22 k).1 + 1 := by omega
    refine Ev.iload_n dX7_init_123 rfl rfl ?_
    refine Ev.bipush (n := 40) (by decide) dX7_init_124 ?_
    refine Ev.icmp_ge (tgt := 148) ⟨by omega, by omega⟩ ⟨by decide, by decide⟩ dX7_init_126 (by decide) (fun h => absurd h (by omega)) (fun _ => ?_)
    refine Ev.aload_n dX7_init_129 rfl rfl ?_
    refine gf_X7_39 (x := some 22) rfl dX7_init_130 (by omega) f2 f4 ?_
    refine Ev.iload_n dX7_init_133 rfl rfl ?_
    rw [show nc + 4 * (j + 1) = (nc + 4 * j + 3) + 1 by omega, show ns + 26 * (j + 1) = (ns + 26 * j + 18) + 8 by omega]
    refine Ev.new (q := (RX3, TX3, 8)) (ci := 3) dX7_init_134 rfl (by decide) (tbl_i 22 (by decide +kernel)) (tbl_i 50 (by decide +kernel)) (tbl_i 3 (by decide +kernel)) ?_
    refine Ev.dupR dX7_init_137 ?_
    rw [show nc + 4 * j + 3 = 3 + (nc + 4 * j) by omega, show ns + 26 * j + 18 = 18 + (ns + 26 * j) by omega]
    refine Ev.callIN_V (M2 := mX3_init) (args2 := []) (host := "NarrowingKernel") (rcv := (lmA m 22 k).1) (nc2 := 3) (ns2 := 18) dX7_init_138 okX3_init oiX3_init (show _ ∈ nestL from by decide) (by decide) rfl (Nat.le_of_ble_eq_true rfl) (Nat.le_of_ble_eq_true rfl) (ct_rule hz up1_at) ?_ rfl
    refine Ev.rastore (n := 40) (i := (k : Int)) dX7_init_141 (by show _ < (lmA m 22 k).1 + 1 + 1 + 1 + 1; omega) ?_ (by decide) (by omega) (by omega) (by show _ < (lmA m 22 k).1 + 1 + 1 + 1 + 1; omega) ?_ ?_
    · simp only [ruleM, up1]
      repeat rw [if_neg (by omega)]
      exact f3
    · simp only [ruleM, up1]
      rw [if_neg (by omega), if_neg (by omega), if_neg (by omega)]
      exact if_pos trivial
    · refine Ev.iinc (pl' := [some (vR 0), some (vI ((k : Int) + 1)), none]) dX7_init_142 rfl (Nat.le_of_ble_eq_true rfl) rfl ?_
      refine Ev.goto (tgt := 123) dX7_init_145 (by decide) ?_
      exact ih (k + 1) (by omega) kk
def cm0 : Mem := (((((((cmA).more (1, 10)).wr 0 0 (some 1)).more (1, 10)).wr 0 1 (some 2)).more (4, 16)).wr 0 3 (some 3)).more (0, 5)
def cm1 : Mem := ((((((cm0).more (1, 12)).wr 4 1 (some 5)).more (1, 12)).wr 4 2 (some 6)).grid 12 10).wr 4 3 (some 7)
set_option maxRecDepth 100000 in
set_option maxHeartbeats 4000000 in
theorem ct_X5_init_2 {g : GC} : Ev g mX5_init 0 [some (vR 4)] [] cm0 15 156 (fun v m' => v = none ∧ m' = cm1) := by
  refine Ev.aload_n dX5_init_0 rfl rfl ?_
  refine Ev.objI dX5_init_1 (tbl_i 29 (by decide +kernel)) (by decide) (Nat.le_of_ble_eq_true rfl) ?_
  refine Ev.aload_n dX5_init_4 rfl rfl ?_
  refine Ev.bipush (n := 12) (by decide) dX5_init_5 ?_
  refine Ev.newi (n := 12) (nc := 14) (ns := 144) dX5_init_7 (by decide) (by decide) ?_
  refine Ev.cstk (st' := [vR 5, vR 4]) (by decide +kernel) ?_
  refine pf_X5_9 rfl rfl dX5_init_9 (by decide +kernel) (by decide +kernel) ?_
  refine Ev.aload_n dX5_init_12 rfl rfl ?_
  refine Ev.bipush (n := 12) (by decide) dX5_init_13 ?_
  refine Ev.newi (n := 12) (nc := 13) (ns := 132) dX5_init_15 (by decide) (by decide) ?_
  refine Ev.cstk (st' := [vR 6, vR 4]) (by decide +kernel) ?_
  refine pf_X5_15 rfl rfl dX5_init_17 (by decide +kernel) (by decide +kernel) ?_
  refine Ev.aload_n dX5_init_20 rfl rfl ?_
  refine Ev.bipush (n := 12) (by decide) dX5_init_21 ?_
  refine Ev.bipush (n := 10) (by decide) dX5_init_23 ?_
  refine Ev.newm (n := 12) (k := 10) (nc := 0) (ns := 0) dX5_init_25 (tbl_i 30 (by decide +kernel)) (by decide) (by decide) (by decide) (by decide) ?_
  refine Ev.cstk (st' := [vR 7, vR 4]) (by decide +kernel) ?_
  refine pf_X5_20 rfl rfl dX5_init_29 (by decide +kernel) (by decide +kernel) ?_
  exact Ev.vreturn dX5_init_32 rfl ⟨rfl, rfl⟩
def cm2 : Mem := ((((((((((((((cm1).wr 0 7 (some 4)).more (1, 12)).wr 0 8 (some 20)).more (1, 10)).wr 0 10 (some 21)).wx 0 11 (-1)).more (4, 40)).wr 0 12 (some 22)).more (1, 40)).wr 0 13 (some 23)).more (1, 10)).wr 0 18 (some 24)).more (1, 10)).wr 0 19 (some 25)
def cm3 : Mem := lmA cm2 3 16
def cm4 : Mem := lmA cm3 22 40
def cm5 : Mem := (cm4).more (0, 6)
def cm6 : Mem := ((((((((((cm5).more (1, 6)).wr 250 0 (some 251)).grid 6 48).wr 250 1 (some 252)).wx 251 0 (-1)).wx 251 1 (-1)).wx 251 2 (-1)).wx 251 3 (-1)).wx 251 4 (-1)).wx 251 5 (-1)
set_option maxRecDepth 100000 in
set_option maxHeartbeats 4000000 in
theorem ct_X6_init_3 {g : GC} : Ev g mX6_init 0 [some (vR 250), none] [] cm5 8 300 (fun v m' => v = none ∧ m' = cm6) := by
  refine Ev.aload_n dX6_init_0 rfl rfl ?_
  refine Ev.objI dX6_init_1 (tbl_i 111 (by decide +kernel)) (by decide) (Nat.le_of_ble_eq_true rfl) ?_
  refine Ev.aload_n dX6_init_4 rfl rfl ?_
  refine Ev.bipush (n := 6) (by decide) dX6_init_5 ?_
  refine Ev.newi (n := 6) (nc := 7) (ns := 294) dX6_init_7 (by decide) (by decide) ?_
  refine Ev.cstk (st' := [vR 251, vR 250]) (by decide +kernel) ?_
  refine pf_X6_9 rfl rfl dX6_init_9 (by decide +kernel) (by decide +kernel) ?_
  refine Ev.aload_n dX6_init_12 rfl rfl ?_
  refine Ev.bipush (n := 6) (by decide) dX6_init_13 ?_
  refine Ev.bipush (n := 48) (by decide) dX6_init_15 ?_
  refine Ev.newm (n := 6) (k := 48) (nc := 0) (ns := 0) dX6_init_17 (tbl_i 112 (by decide +kernel)) (by decide) (by decide) (by decide) (by decide) ?_
  refine Ev.cstk (st' := [vR 252, vR 250]) (by decide +kernel) ?_
  refine pf_X6_17 rfl rfl dX6_init_21 (by decide +kernel) (by decide +kernel) ?_
  refine Ev.iconst dX6_init_24 ?_
  refine Ev.istore_n (pl' := [some (vR 250), some (vI (0))]) dX6_init_25 rfl (Nat.le_of_ble_eq_true rfl) rfl ?_
  refine Ev.iload_n dX6_init_26 rfl rfl ?_
  refine Ev.bipush (n := 6) (by decide) dX6_init_27 ?_
  refine Ev.icmp_ge (tgt := 45) ⟨by decide, by decide⟩ ⟨by decide, by decide⟩ dX6_init_29 (by decide) (fun h => absurd h (by decide)) (fun _ => ?_)
  refine Ev.aload_n dX6_init_32 rfl rfl ?_
  refine gf_X6_9 (x := some 251) rfl dX6_init_33 (by decide +kernel) (by decide +kernel) (by decide +kernel) ?_
  refine Ev.iload_n dX6_init_36 rfl rfl ?_
  refine Ev.iconst dX6_init_37 ?_
  refine Ev.iastore dX6_init_38 (by decide +kernel) (n := 6) (by decide +kernel) (by decide) (by decide) (by decide) ?_
  refine Ev.iinc (pl' := [some (vR 250), some (vI (1))]) dX6_init_39 rfl (Nat.le_of_ble_eq_true rfl) rfl ?_
  refine Ev.goto (tgt := 26) dX6_init_42 (by decide) ?_
  refine Ev.iload_n dX6_init_26 rfl rfl ?_
  refine Ev.bipush (n := 6) (by decide) dX6_init_27 ?_
  refine Ev.icmp_ge (tgt := 45) ⟨by decide, by decide⟩ ⟨by decide, by decide⟩ dX6_init_29 (by decide) (fun h => absurd h (by decide)) (fun _ => ?_)
  refine Ev.aload_n dX6_init_32 rfl rfl ?_
  refine gf_X6_9 (x := some 251) rfl dX6_init_33 (by decide +kernel) (by decide +kernel) (by decide +kernel) ?_
  refine Ev.iload_n dX6_init_36 rfl rfl ?_
  refine Ev.iconst dX6_init_37 ?_
  refine Ev.iastore dX6_init_38 (by decide +kernel) (n := 6) (by decide +kernel) (by decide) (by decide) (by decide) ?_
  refine Ev.iinc (pl' := [some (vR 250), some (vI (2))]) dX6_init_39 rfl (Nat.le_of_ble_eq_true rfl) rfl ?_
  refine Ev.goto (tgt := 26) dX6_init_42 (by decide) ?_
  refine Ev.iload_n dX6_init_26 rfl rfl ?_
  refine Ev.bipush (n := 6) (by decide) dX6_init_27 ?_
  refine Ev.icmp_ge (tgt := 45) ⟨by decide, by decide⟩ ⟨by decide, by decide⟩ dX6_init_29 (by decide) (fun h => absurd h (by decide)) (fun _ => ?_)
  refine Ev.aload_n dX6_init_32 rfl rfl ?_
  refine gf_X6_9 (x := some 251) rfl dX6_init_33 (by decide +kernel) (by decide +kernel) (by decide +kernel) ?_
  refine Ev.iload_n dX6_init_36 rfl rfl ?_
  refine Ev.iconst dX6_init_37 ?_
  refine Ev.iastore dX6_init_38 (by decide +kernel) (n := 6) (by decide +kernel) (by decide) (by decide) (by decide) ?_
  refine Ev.iinc (pl' := [some (vR 250), some (vI (3))]) dX6_init_39 rfl (Nat.le_of_ble_eq_true rfl) rfl ?_
  refine Ev.goto (tgt := 26) dX6_init_42 (by decide) ?_
  refine Ev.iload_n dX6_init_26 rfl rfl ?_
  refine Ev.bipush (n := 6) (by decide) dX6_init_27 ?_
  refine Ev.icmp_ge (tgt := 45) ⟨by decide, by decide⟩ ⟨by decide, by decide⟩ dX6_init_29 (by decide) (fun h => absurd h (by decide)) (fun _ => ?_)
  refine Ev.aload_n dX6_init_32 rfl rfl ?_
  refine gf_X6_9 (x := some 251) rfl dX6_init_33 (by decide +kernel) (by decide +kernel) (by decide +kernel) ?_
  refine Ev.iload_n dX6_init_36 rfl rfl ?_
  refine Ev.iconst dX6_init_37 ?_
  refine Ev.iastore dX6_init_38 (by decide +kernel) (n := 6) (by decide +kernel) (by decide) (by decide) (by decide) ?_
  refine Ev.iinc (pl' := [some (vR 250), some (vI (4))]) dX6_init_39 rfl (Nat.le_of_ble_eq_true rfl) rfl ?_
  refine Ev.goto (tgt := 26) dX6_init_42 (by decide) ?_
  refine Ev.iload_n dX6_init_26 rfl rfl ?_
  refine Ev.bipush (n := 6) (by decide) dX6_init_27 ?_
  refine Ev.icmp_ge (tgt := 45) ⟨by decide, by decide⟩ ⟨by decide, by decide⟩ dX6_init_29 (by decide) (fun h => absurd h (by decide)) (fun _ => ?_)
  refine Ev.aload_n dX6_init_32 rfl rfl ?_
  refine gf_X6_9 (x := some 251) rfl dX6_init_33 (by decide +kernel) (by decide +kernel) (by decide +kernel) ?_
  refine Ev.iload_n dX6_init_36 rfl rfl ?_
  refine Ev.iconst dX6_init_37 ?_
  refine Ev.iastore dX6_init_38 (by decide +kernel) (n := 6) (by decide +kernel) (by decide) (by decide) (by decide) ?_
  refine Ev.iinc (pl' := [some (vR 250), some (vI (5))]) dX6_init_39 rfl (Nat.le_of_ble_eq_true rfl) rfl ?_
  refine Ev.goto (tgt := 26) dX6_init_42 (by decide) ?_
  refine Ev.iload_n dX6_init_26 rfl rfl ?_
  refine Ev.bipush (n := 6) (by decide) dX6_init_27 ?_
  refine Ev.icmp_ge (tgt := 45) ⟨by decide, by decide⟩ ⟨by decide, by decide⟩ dX6_init_29 (by decide) (fun h => absurd h (by decide)) (fun _ => ?_)
  refine Ev.aload_n dX6_init_32 rfl rfl ?_
  refine gf_X6_9 (x := some 251) rfl dX6_init_33 (by decide +kernel) (by decide +kernel) (by decide +kernel) ?_
  refine Ev.iload_n dX6_init_36 rfl rfl ?_
  refine Ev.iconst dX6_init_37 ?_
  refine Ev.iastore dX6_init_38 (by decide +kernel) (n := 6) (by decide +kernel) (by decide) (by decide) (by decide) ?_
  refine Ev.iinc (pl' := [some (vR 250), some (vI (6))]) dX6_init_39 rfl (Nat.le_of_ble_eq_true rfl) rfl ?_
  refine Ev.goto (tgt := 26) dX6_init_42 (by decide) ?_
  refine Ev.iload_n dX6_init_26 rfl rfl ?_
  refine Ev.bipush (n := 6) (by decide) dX6_init_27 ?_
  refine Ev.icmp_ge (tgt := 45) ⟨by decide, by decide⟩ ⟨by decide, by decide⟩ dX6_init_29 (by decide) (fun _ => ?_) (fun h => absurd (by decide) h)
  exact Ev.vreturn dX6_init_45 rfl ⟨rfl, rfl⟩
def cm7 : Mem := (cm6).more (0, 0)
def cm8 : Mem := (cm7).wr 259 0 (some 250)
set_option maxRecDepth 100000 in
set_option maxHeartbeats 4000000 in
theorem ct_X0_init_4 {g : GC} : Ev g mX0_init 0 [some (vR 259), some (vR 250)] [] cm7 0 0 (fun v m' => v = none ∧ m' = cm8) := by
  refine Ev.aload_n dX0_init_0 rfl rfl ?_
  refine Ev.objI dX0_init_1 (tbl_i 129 (by decide +kernel)) (by decide) (Nat.le_of_ble_eq_true rfl) ?_
  refine Ev.aload_n dX0_init_4 rfl rfl ?_
  refine Ev.aload_n dX0_init_5 rfl rfl ?_
  refine pf_X0_7 rfl rfl dX0_init_6 (by decide +kernel) (by decide +kernel) ?_
  exact Ev.vreturn dX0_init_9 rfl ⟨rfl, rfl⟩
def cm9 : Mem := (((cm8).wr 0 6 (some 250)).more (0, 2)).more (0, 1)
def cm10 : Mem := (((((((((cm9).more (1, 10)).wr 261 1 (some 262)).more (1, 64)).wr 261 2 (some 263)).more (1, 31)).wr 261 3 (some 264)).more (1, 10)).wr 261 4 (some 265)).wr 261 0 (some 250)
set_option maxRecDepth 100000 in
set_option maxHeartbeats 4000000 in
theorem ct_X1_init_5 {g : GC} : Ev g mX1_init 0 [some (vR 261), some (vR 250)] [] cm9 4 115 (fun v m' => v = none ∧ m' = cm10) := by
  refine Ev.aload_n dX1_init_0 rfl rfl ?_
  refine Ev.objI dX1_init_1 (tbl_i 141 (by decide +kernel)) (by decide) (Nat.le_of_ble_eq_true rfl) ?_
  refine Ev.aload_n dX1_init_4 rfl rfl ?_
  refine Ev.bipush (n := 10) (by decide) dX1_init_5 ?_
  refine Ev.newi (n := 10) (nc := 3) (ns := 105) dX1_init_7 (by decide) (by decide) ?_
  refine Ev.cstk (st' := [vR 262, vR 261]) (by decide +kernel) ?_
  refine pf_X1_11 rfl rfl dX1_init_9 (by decide +kernel) (by decide +kernel) ?_
  refine Ev.aload_n dX1_init_12 rfl rfl ?_
  refine Ev.bipush (n := 64) (by decide) dX1_init_13 ?_
  refine Ev.newi (n := 64) (nc := 2) (ns := 41) dX1_init_15 (by decide) (by decide) ?_
  refine Ev.cstk (st' := [vR 263, vR 261]) (by decide +kernel) ?_
  refine pf_X1_17 rfl rfl dX1_init_17 (by decide +kernel) (by decide +kernel) ?_
  refine Ev.aload_n dX1_init_20 rfl rfl ?_
  refine Ev.bipush (n := 31) (by decide) dX1_init_21 ?_
  refine Ev.newi (n := 31) (nc := 1) (ns := 10) dX1_init_23 (by decide) (by decide) ?_
  refine Ev.cstk (st' := [vR 264, vR 261]) (by decide +kernel) ?_
  refine pf_X1_20 rfl rfl dX1_init_25 (by decide +kernel) (by decide +kernel) ?_
  refine Ev.aload_n dX1_init_28 rfl rfl ?_
  refine Ev.bipush (n := 10) (by decide) dX1_init_29 ?_
  refine Ev.newi (n := 10) (nc := 0) (ns := 0) dX1_init_31 (by decide) (by decide) ?_
  refine Ev.cstk (st' := [vR 265, vR 261]) (by decide +kernel) ?_
  refine pf_X1_23 rfl rfl dX1_init_33 (by decide +kernel) (by decide +kernel) ?_
  refine Ev.aload_n dX1_init_36 rfl rfl ?_
  refine Ev.aload_n dX1_init_37 rfl rfl ?_
  refine pf_X1_26 rfl rfl dX1_init_38 (by decide +kernel) (by decide +kernel) ?_
  exact Ev.vreturn dX1_init_41 rfl ⟨rfl, rfl⟩
def cm11 : Mem := ((cm10).wr 260 0 (some 261)).wr 260 1 (some 259)
set_option maxRecDepth 100000 in
set_option maxHeartbeats 4000000 in
theorem ct_X2_init_6 {g : GC} : Ev g mX2_init 0 [some (vR 260), some (vR 261), some (vR 259)] [] cm10 0 0 (fun v m' => v = none ∧ m' = cm11) := by
  refine Ev.aload_n dX2_init_0 rfl rfl ?_
  refine Ev.objI dX2_init_1 (tbl_i 162 (by decide +kernel)) (by decide) (Nat.le_of_ble_eq_true rfl) ?_
  refine Ev.aload_n dX2_init_4 rfl rfl ?_
  refine Ev.aload_n dX2_init_5 rfl rfl ?_
  refine pf_X2_9 rfl rfl dX2_init_6 (by decide +kernel) (by decide +kernel) ?_
  refine Ev.aload_n dX2_init_9 rfl rfl ?_
  refine Ev.aload_n dX2_init_10 rfl rfl ?_
  refine pf_X2_15 rfl rfl dX2_init_11 (by decide +kernel) (by decide +kernel) ?_
  exact Ev.vreturn dX2_init_14 rfl ⟨rfl, rfl⟩
def cm12 : Mem := ((cm11).wr 0 16 (some 260)).more (0, 4)
def cm13 : Mem := (((((((((((cm12).more (1, 10)).wr 266 1 (some 267)).more (1, 10)).wr 266 2 (some 268)).more (1, 10)).wr 266 3 (some 269)).more (1, 10)).wr 266 4 (some 270)).more (3, 11)).wr 266 5 (some 271)).wr 266 0 (some 259)
set_option maxRecDepth 100000 in
set_option maxHeartbeats 4000000 in
theorem ct_X4_init_7 {g : GC} : Ev g mX4_init 0 [some (vR 266), some (vR 259)] [] cm12 5 51 (fun v m' => v = none ∧ m' = cm13) := by
  refine Ev.aload_n dX4_init_0 rfl rfl ?_
  refine Ev.objI dX4_init_1 (tbl_i 175 (by decide +kernel)) (by decide) (Nat.le_of_ble_eq_true rfl) ?_
  refine Ev.aload_n dX4_init_4 rfl rfl ?_
  refine Ev.bipush (n := 10) (by decide) dX4_init_5 ?_
  refine Ev.newi (n := 10) (nc := 4) (ns := 41) dX4_init_7 (by decide) (by decide) ?_
  refine Ev.cstk (st' := [vR 267, vR 266]) (by decide +kernel) ?_
  refine pf_X4_9 rfl rfl dX4_init_9 (by decide +kernel) (by decide +kernel) ?_
  refine Ev.aload_n dX4_init_12 rfl rfl ?_
  refine Ev.bipush (n := 10) (by decide) dX4_init_13 ?_
  refine Ev.newi (n := 10) (nc := 3) (ns := 31) dX4_init_15 (by decide) (by decide) ?_
  refine Ev.cstk (st' := [vR 268, vR 266]) (by decide +kernel) ?_
  refine pf_X4_15 rfl rfl dX4_init_17 (by decide +kernel) (by decide +kernel) ?_
  refine Ev.aload_n dX4_init_20 rfl rfl ?_
  refine Ev.bipush (n := 10) (by decide) dX4_init_21 ?_
  refine Ev.newi (n := 10) (nc := 2) (ns := 21) dX4_init_23 (by decide) (by decide) ?_
  refine Ev.cstk (st' := [vR 269, vR 266]) (by decide +kernel) ?_
  refine pf_X4_18 rfl rfl dX4_init_25 (by decide +kernel) (by decide +kernel) ?_
  refine Ev.aload_n dX4_init_28 rfl rfl ?_
  refine Ev.bipush (n := 10) (by decide) dX4_init_29 ?_
  refine Ev.newi (n := 10) (nc := 1) (ns := 11) dX4_init_31 (by decide) (by decide) ?_
  refine Ev.cstk (st' := [vR 270, vR 266]) (by decide +kernel) ?_
  refine pf_X4_21 rfl rfl dX4_init_33 (by decide +kernel) (by decide +kernel) ?_
  refine Ev.aload_n dX4_init_36 rfl rfl ?_
  refine Ev.bipush (n := 11) (by decide) dX4_init_37 ?_
  refine Ev.newl (n := 11) (nc := 0) (ns := 0) dX4_init_39 (by decide) (by decide) ?_
  refine Ev.cstk (st' := [vR 271, vR 266]) (by decide +kernel) ?_
  refine pf_X4_24 rfl rfl dX4_init_41 (by decide +kernel) (by decide +kernel) ?_
  refine Ev.aload_n dX4_init_44 rfl rfl ?_
  refine Ev.aload_n dX4_init_45 rfl rfl ?_
  refine pf_X4_28 rfl rfl dX4_init_46 (by decide +kernel) (by decide +kernel) ?_
  exact Ev.vreturn dX4_init_49 rfl ⟨rfl, rfl⟩
def cm14 : Mem := (cm13).wr 0 17 (some 266)
set_option maxRecDepth 100000 in
set_option maxHeartbeats 4000000 in
theorem ct_X7_init_1 {g : GC} : Ev g mX7_init 0 [some (vR 0), none, none] [] cmA 271 2256 (fun v m' => v = none ∧ m' = cm14) := by
  refine Ev.aload_n dX7_init_0 rfl rfl ?_
  refine Ev.objI dX7_init_1 (tbl_i 19 (by decide +kernel)) (by decide) (Nat.le_of_ble_eq_true rfl) ?_
  refine Ev.aload_n dX7_init_4 rfl rfl ?_
  refine Ev.bipush (n := 10) (by decide) dX7_init_5 ?_
  refine Ev.newi (n := 10) (nc := 270) (ns := 2246) dX7_init_7 (by decide) (by decide) ?_
  refine Ev.cstk (st' := [vR 1, vR 0]) (by decide +kernel) ?_
  refine pf_X7_9 rfl rfl dX7_init_9 (by decide +kernel) (by decide +kernel) ?_
  refine Ev.aload_n dX7_init_12 rfl rfl ?_
  refine Ev.bipush (n := 10) (by decide) dX7_init_13 ?_
  refine Ev.newi (n := 10) (nc := 269) (ns := 2236) dX7_init_15 (by decide) (by decide) ?_
  refine Ev.cstk (st' := [vR 2, vR 0]) (by decide +kernel) ?_
  refine pf_X7_13 rfl rfl dX7_init_17 (by decide +kernel) (by decide +kernel) ?_
  refine Ev.aload_n dX7_init_20 rfl rfl ?_
  refine Ev.bipush (n := 16) (by decide) dX7_init_21 ?_
  refine Ev.newr (n := 16) (nc := 268) (ns := 2220) dX7_init_23 (tbl_i 22 (by decide +kernel)) (by decide) (by decide) ?_
  refine Ev.cstk (st' := [vR 3, vR 0]) (by decide +kernel) ?_
  refine pf_X7_18 rfl rfl dX7_init_26 (by decide +kernel) (by decide +kernel) ?_
  refine Ev.aload_n dX7_init_29 rfl rfl ?_
  refine Ev.new (q := (RX5, TX5, 4)) (nc := 267) (ns := 2216) (ci := 5) dX7_init_30 rfl (by decide) (tbl_i 24 (by decide +kernel)) (tbl_i 25 (by decide +kernel)) (tbl_i 2 (by decide +kernel)) ?_
  refine Ev.cstk (st' := [vR 4, vR 0]) (by decide +kernel) ?_
  refine Ev.dupR dX7_init_33 ?_
  refine Ev.callIN_V (M2 := mX5_init) (args2 := []) (host := "NarrowingKernel") (rcv := 4) (nc2 := 15) (ns2 := 156) (nc := 252) (ns := 2060) dX7_init_34 okX5_init oiX5_init (show _ ∈ nestL from by decide) (by decide) rfl (Nat.le_of_ble_eq_true rfl) (Nat.le_of_ble_eq_true rfl) ct_X5_init_2 ?_ rfl
  refine pf_X7_25 rfl rfl dX7_init_37 (by decide +kernel) (by decide +kernel) ?_
  refine Ev.aload_n dX7_init_40 rfl rfl ?_
  refine Ev.bipush (n := 12) (by decide) dX7_init_41 ?_
  refine Ev.newi (n := 12) (nc := 251) (ns := 2048) dX7_init_43 (by decide) (by decide) ?_
  refine Ev.cstk (st' := [vR 20, vR 0]) (by decide +kernel) ?_
  refine pf_X7_29 rfl rfl dX7_init_45 (by decide +kernel) (by decide +kernel) ?_
  refine Ev.aload_n dX7_init_48 rfl rfl ?_
  refine Ev.bipush (n := 10) (by decide) dX7_init_49 ?_
  refine Ev.newi (n := 10) (nc := 250) (ns := 2038) dX7_init_51 (by decide) (by decide) ?_
  refine Ev.cstk (st' := [vR 21, vR 0]) (by decide +kernel) ?_
  refine pf_X7_32 rfl rfl dX7_init_53 (by decide +kernel) (by decide +kernel) ?_
  refine Ev.aload_n dX7_init_56 rfl rfl ?_
  refine Ev.iconst dX7_init_57 ?_
  refine pf_X7_35 rfl dX7_init_58 (by decide +kernel) (by decide +kernel) ?_
  refine Ev.aload_n dX7_init_61 rfl rfl ?_
  refine Ev.bipush (n := 40) (by decide) dX7_init_62 ?_
  refine Ev.newr (n := 40) (nc := 249) (ns := 1998) dX7_init_64 (tbl_i 22 (by decide +kernel)) (by decide) (by decide) ?_
  refine Ev.cstk (st' := [vR 22, vR 0]) (by decide +kernel) ?_
  refine pf_X7_39 rfl rfl dX7_init_67 (by decide +kernel) (by decide +kernel) ?_
  refine Ev.aload_n dX7_init_70 rfl rfl ?_
  refine Ev.bipush (n := 40) (by decide) dX7_init_71 ?_
  refine Ev.newi (n := 40) (nc := 248) (ns := 1958) dX7_init_73 (by decide) (by decide) ?_
  refine Ev.cstk (st' := [vR 23, vR 0]) (by decide +kernel) ?_
  refine pf_X7_42 rfl rfl dX7_init_75 (by decide +kernel) (by decide +kernel) ?_
  refine Ev.aload_n dX7_init_78 rfl rfl ?_
  refine Ev.bipush (n := 10) (by decide) dX7_init_79 ?_
  refine Ev.newi (n := 10) (nc := 247) (ns := 1948) dX7_init_81 (by decide) (by decide) ?_
  refine Ev.cstk (st' := [vR 24, vR 0]) (by decide +kernel) ?_
  refine pf_X7_45 rfl rfl dX7_init_83 (by decide +kernel) (by decide +kernel) ?_
  refine Ev.aload_n dX7_init_86 rfl rfl ?_
  refine Ev.bipush (n := 10) (by decide) dX7_init_87 ?_
  refine Ev.newi (n := 10) (nc := 246) (ns := 1938) dX7_init_89 (by decide) (by decide) ?_
  refine Ev.cstk (st' := [vR 25, vR 0]) (by decide +kernel) ?_
  refine pf_X7_48 rfl rfl dX7_init_91 (by decide +kernel) (by decide +kernel) ?_
  refine Ev.iconst dX7_init_94 ?_
  refine Ev.istore_n (pl' := [some (vR 0), some (vI (0)), none]) dX7_init_95 rfl (Nat.le_of_ble_eq_true rfl) rfl ?_
  refine ct_loop96 (m := cm2) (nc := 182) (ns := 1522) (by decide +kernel) (by decide +kernel) (by decide +kernel) (by decide +kernel) (by decide +kernel) 16 0 rfl ?_
  show Ev g mX7_init 121 [some (vR 0), some (vI (16)), none] [] cm3 182 1522 _
  refine Ev.iconst dX7_init_121 ?_
  refine Ev.istore_n (pl' := [some (vR 0), some (vI (0)), none]) dX7_init_122 rfl (Nat.le_of_ble_eq_true rfl) rfl ?_
  refine ct_loop123 (m := cm3) (nc := 22) (ns := 482) (by decide +kernel) (by decide +kernel) (by decide +kernel) (by decide +kernel) (by decide +kernel) 40 0 rfl ?_
  show Ev g mX7_init 148 [some (vR 0), some (vI (40)), none] [] cm4 22 482 _
  refine Ev.new (q := (RX6, TX6, 2)) (nc := 21) (ns := 480) (ci := 6) dX7_init_148 rfl (by decide) (tbl_i 106 (by decide +kernel)) (tbl_i 107 (by decide +kernel)) (tbl_i 4 (by decide +kernel)) ?_
  refine Ev.cstk (st' := [vR 250]) (by decide +kernel) ?_
  refine Ev.dupR dX7_init_151 ?_
  refine Ev.callI_V (M2 := mX6_init) (args2 := []) (rcv := 250) (nc2 := 8) (ns2 := 300) (nc := 13) (ns := 180) dX7_init_152 okX6_init oiX6_init lk_X7_54 (by decide) rfl (Nat.le_of_ble_eq_true rfl) (Nat.le_of_ble_eq_true rfl) ct_X6_init_3 ?_ rfl
  refine Ev.astore_n (pl' := [some (vR 0), some (vR 250), none]) dX7_init_155 rfl (Nat.le_of_ble_eq_true rfl) rfl ?_
  refine Ev.new (q := (RX0, TX0, 1)) (nc := 12) (ns := 179) (ci := 0) dX7_init_156 rfl (by decide) (tbl_i 124 (by decide +kernel)) (tbl_i 125 (by decide +kernel)) (tbl_i 5 (by decide +kernel)) ?_
  refine Ev.cstk (st' := [vR 259]) (by decide +kernel) ?_
  refine Ev.dupR dX7_init_159 ?_
  refine Ev.aload_n dX7_init_160 rfl rfl ?_
  refine Ev.callI_V (M2 := mX0_init) (args2 := [vR 250]) (rcv := 259) (nc2 := 0) (ns2 := 0) (nc := 12) (ns := 179) dX7_init_161 okX0_init oiX0_init lk_X7_57 (by decide) rfl (Nat.le_of_ble_eq_true rfl) (Nat.le_of_ble_eq_true rfl) ct_X0_init_4 ?_ rfl
  refine Ev.astore_n (pl' := [some (vR 0), some (vR 250), some (vR 259)]) dX7_init_164 rfl (Nat.le_of_ble_eq_true rfl) rfl ?_
  refine Ev.aload_n dX7_init_165 rfl rfl ?_
  refine Ev.aload_n dX7_init_166 rfl rfl ?_
  refine pf_X7_60 rfl rfl dX7_init_167 (by decide +kernel) (by decide +kernel) ?_
  refine Ev.aload_n dX7_init_170 rfl rfl ?_
  refine Ev.new (q := (RX2, TX2, 2)) (nc := 11) (ns := 177) (ci := 2) dX7_init_171 rfl (by decide) (tbl_i 134 (by decide +kernel)) (tbl_i 135 (by decide +kernel)) (tbl_i 6 (by decide +kernel)) ?_
  refine Ev.cstk (st' := [vR 260, vR 0]) (by decide +kernel) ?_
  refine Ev.dupR dX7_init_174 ?_
  refine Ev.new (q := (RX1, TX1, 5)) (nc := 10) (ns := 172) (ci := 1) dX7_init_175 rfl (by decide) (tbl_i 136 (by decide +kernel)) (tbl_i 137 (by decide +kernel)) (tbl_i 7 (by decide +kernel)) ?_
  refine Ev.cstk (st' := [vR 261, vR 260, vR 260, vR 0]) (by decide +kernel) ?_
  refine Ev.dupR dX7_init_178 ?_
  refine Ev.aload_n dX7_init_179 rfl rfl ?_
  refine Ev.callI_V (M2 := mX1_init) (args2 := [vR 250]) (rcv := 261) (nc2 := 4) (ns2 := 115) (nc := 6) (ns := 57) dX7_init_180 okX1_init oiX1_init lk_X7_68 (by decide) rfl (Nat.le_of_ble_eq_true rfl) (Nat.le_of_ble_eq_true rfl) ct_X1_init_5 ?_ rfl
  refine Ev.aload_n dX7_init_183 rfl rfl ?_
  refine Ev.callI_V (M2 := mX2_init) (args2 := [vR 261, vR 259]) (rcv := 260) (nc2 := 0) (ns2 := 0) (nc := 6) (ns := 57) dX7_init_184 okX2_init oiX2_init lk_X7_69 (by decide) rfl (Nat.le_of_ble_eq_true rfl) (Nat.le_of_ble_eq_true rfl) ct_X2_init_6 ?_ rfl
  refine pf_X7_72 rfl rfl dX7_init_187 (by decide +kernel) (by decide +kernel) ?_
  refine Ev.aload_n dX7_init_190 rfl rfl ?_
  refine Ev.new (q := (RX4, TX4, 6)) (nc := 5) (ns := 51) (ci := 4) dX7_init_191 rfl (by decide) (tbl_i 170 (by decide +kernel)) (tbl_i 171 (by decide +kernel)) (tbl_i 8 (by decide +kernel)) ?_
  refine Ev.cstk (st' := [vR 266, vR 0]) (by decide +kernel) ?_
  refine Ev.dupR dX7_init_194 ?_
  refine Ev.aload_n dX7_init_195 rfl rfl ?_
  refine Ev.callI_V (M2 := mX4_init) (args2 := [vR 259]) (rcv := 266) (nc2 := 5) (ns2 := 51) (nc := 0) (ns := 0) dX7_init_196 okX4_init oiX4_init lk_X7_78 (by decide) rfl (Nat.le_of_ble_eq_true rfl) (Nat.le_of_ble_eq_true rfl) ct_X4_init_7 ?_ rfl
  refine pf_X7_81 rfl rfl dX7_init_199 (by decide +kernel) (by decide +kernel) ?_
  exact Ev.vreturn dX7_init_202 rfl ⟨rfl, rfl⟩
/-- the world of the class, and with it the reference's object -/
abbrev cmB : Mem := (272, sh0, sig0, rho0)
def cmC : Mem := cmB.more (0, 8)
def cm15 : Mem := (((((((((((((((((((((((((((((((((((((((((((((((((((((((((cmC).more (1, 10)).wr 272 2 (some 273)).more (1, 10)).wr 272 3 (some 274)).more (1, 12)).wr 272 5 (some 275)).more (1, 12)).wr 272 6 (some 276)).more (1, 120)).wr 272 7 (some 277)).more (1, 16)).wr 272 9 (some 278)).more (1, 16)).wr 272 10 (some 279)).more (1, 16)).wr 272 11 (some 280)).more (2, 16)).wr 272 12 (some 281)).more (1, 16)).wr 272 13 (some 282)).more (1, 96)).wr 272 14 (some 283)).more (1, 96)).wr 272 15 (some 284)).more (1, 96)).wr 272 16 (some 285)).more (1, 6)).wx 286 0 (-1)).wx 286 1 (-1)).wx 286 2 (-1)).wx 286 3 (-1)).wx 286 4 (-1)).wx 286 5 (-1)).wr 272 17 (some 286)).more (1, 288)).wr 272 18 (some 287)).more (1, 40)).wr 272 20 (some 288)).more (1, 40)).wr 272 21 (some 289)).more (1, 240)).wr 272 22 (some 290)).more (1, 240)).wr 272 23 (some 291)).more (1, 12)).wr 272 26 (some 292)).wx 272 27 (-9)).more (1, 10)).wr 272 28 (some 293)).more (1, 10)).wr 272 29 (some 294)).more (1, 10)).wr 272 30 (some 295)).more (1, 48)).wr 272 32 (some 296)).more (1, 10)).wr 272 33 (some 297)
set_option maxRecDepth 100000 in
set_option maxHeartbeats 4000000 in
theorem ct_X8_init_8 {g : GC} : Ev g mX8_init 0 [some (vR 272)] [] cmC 25 1486 (fun v m' => v = none ∧ m' = cm15) := by
  refine Ev.aload_n dX8_init_0 rfl rfl ?_
  refine Ev.objI dX8_init_1 (tbl_i 687 (by decide +kernel)) (by decide) (Nat.le_of_ble_eq_true rfl) ?_
  refine Ev.aload_n dX8_init_4 rfl rfl ?_
  refine Ev.bipush (n := 10) (by decide) dX8_init_5 ?_
  refine Ev.newi (n := 10) (nc := 24) (ns := 1476) dX8_init_7 (by decide) (by decide) ?_
  refine Ev.cstk (st' := [vR 273, vR 272]) (by decide +kernel) ?_
  refine pf_X8_7 rfl rfl dX8_init_9 (by decide +kernel) (by decide +kernel) ?_
  refine Ev.aload_n dX8_init_12 rfl rfl ?_
  refine Ev.bipush (n := 10) (by decide) dX8_init_13 ?_
  refine Ev.newi (n := 10) (nc := 23) (ns := 1466) dX8_init_15 (by decide) (by decide) ?_
  refine Ev.cstk (st' := [vR 274, vR 272]) (by decide +kernel) ?_
  refine pf_X8_13 rfl rfl dX8_init_17 (by decide +kernel) (by decide +kernel) ?_
  refine Ev.aload_n dX8_init_20 rfl rfl ?_
  refine Ev.bipush (n := 12) (by decide) dX8_init_21 ?_
  refine Ev.newi (n := 12) (nc := 22) (ns := 1454) dX8_init_23 (by decide) (by decide) ?_
  refine Ev.cstk (st' := [vR 275, vR 272]) (by decide +kernel) ?_
  refine pf_X8_16 rfl rfl dX8_init_25 (by decide +kernel) (by decide +kernel) ?_
  refine Ev.aload_n dX8_init_28 rfl rfl ?_
  refine Ev.bipush (n := 12) (by decide) dX8_init_29 ?_
  refine Ev.newi (n := 12) (nc := 21) (ns := 1442) dX8_init_31 (by decide) (by decide) ?_
  refine Ev.cstk (st' := [vR 276, vR 272]) (by decide +kernel) ?_
  refine pf_X8_19 rfl rfl dX8_init_33 (by decide +kernel) (by decide +kernel) ?_
  refine Ev.aload_n dX8_init_36 rfl rfl ?_
  refine Ev.bipush (n := 120) (by decide) dX8_init_37 ?_
  refine Ev.newi (n := 120) (nc := 20) (ns := 1322) dX8_init_39 (by decide) (by decide) ?_
  refine Ev.cstk (st' := [vR 277, vR 272]) (by decide +kernel) ?_
  refine pf_X8_22 rfl rfl dX8_init_41 (by decide +kernel) (by decide +kernel) ?_
  refine Ev.aload_n dX8_init_44 rfl rfl ?_
  refine Ev.bipush (n := 16) (by decide) dX8_init_45 ?_
  refine Ev.newi (n := 16) (nc := 19) (ns := 1306) dX8_init_47 (by decide) (by decide) ?_
  refine Ev.cstk (st' := [vR 278, vR 272]) (by decide +kernel) ?_
  refine pf_X8_25 rfl rfl dX8_init_49 (by decide +kernel) (by decide +kernel) ?_
  refine Ev.aload_n dX8_init_52 rfl rfl ?_
  refine Ev.bipush (n := 16) (by decide) dX8_init_53 ?_
  refine Ev.newi (n := 16) (nc := 18) (ns := 1290) dX8_init_55 (by decide) (by decide) ?_
  refine Ev.cstk (st' := [vR 279, vR 272]) (by decide +kernel) ?_
  refine pf_X8_28 rfl rfl dX8_init_57 (by decide +kernel) (by decide +kernel) ?_
  refine Ev.aload_n dX8_init_60 rfl rfl ?_
  refine Ev.bipush (n := 16) (by decide) dX8_init_61 ?_
  refine Ev.newi (n := 16) (nc := 17) (ns := 1274) dX8_init_63 (by decide) (by decide) ?_
  refine Ev.cstk (st' := [vR 280, vR 272]) (by decide +kernel) ?_
  refine pf_X8_31 rfl rfl dX8_init_65 (by decide +kernel) (by decide +kernel) ?_
  refine Ev.aload_n dX8_init_68 rfl rfl ?_
  refine Ev.bipush (n := 16) (by decide) dX8_init_69 ?_
  refine Ev.newz (n := 16) (nc := 16) (ns := 1258) dX8_init_71 (by decide) (by decide) ?_
  refine Ev.cstk (st' := [vR 281, vR 272]) (by decide +kernel) ?_
  refine pf_X8_34 rfl rfl dX8_init_73 (by decide +kernel) (by decide +kernel) ?_
  refine Ev.aload_n dX8_init_76 rfl rfl ?_
  refine Ev.bipush (n := 16) (by decide) dX8_init_77 ?_
  refine Ev.newi (n := 16) (nc := 15) (ns := 1242) dX8_init_79 (by decide) (by decide) ?_
  refine Ev.cstk (st' := [vR 282, vR 272]) (by decide +kernel) ?_
  refine pf_X8_38 rfl rfl dX8_init_81 (by decide +kernel) (by decide +kernel) ?_
  refine Ev.aload_n dX8_init_84 rfl rfl ?_
  refine Ev.bipush (n := 96) (by decide) dX8_init_85 ?_
  refine Ev.newi (n := 96) (nc := 14) (ns := 1146) dX8_init_87 (by decide) (by decide) ?_
  refine Ev.cstk (st' := [vR 283, vR 272]) (by decide +kernel) ?_
  refine pf_X8_41 rfl rfl dX8_init_89 (by decide +kernel) (by decide +kernel) ?_
  refine Ev.aload_n dX8_init_92 rfl rfl ?_
  refine Ev.bipush (n := 96) (by decide) dX8_init_93 ?_
  refine Ev.newi (n := 96) (nc := 13) (ns := 1050) dX8_init_95 (by decide) (by decide) ?_
  refine Ev.cstk (st' := [vR 284, vR 272]) (by decide +kernel) ?_
  refine pf_X8_44 rfl rfl dX8_init_97 (by decide +kernel) (by decide +kernel) ?_
  refine Ev.aload_n dX8_init_100 rfl rfl ?_
  refine Ev.bipush (n := 96) (by decide) dX8_init_101 ?_
  refine Ev.newi (n := 96) (nc := 12) (ns := 954) dX8_init_103 (by decide) (by decide) ?_
  refine Ev.cstk (st' := [vR 285, vR 272]) (by decide +kernel) ?_
  refine pf_X8_47 rfl rfl dX8_init_105 (by decide +kernel) (by decide +kernel) ?_
  refine Ev.aload_n dX8_init_108 rfl rfl ?_
  refine Ev.bipush (n := 6) (by decide) dX8_init_109 ?_
  refine Ev.newi (n := 6) (nc := 11) (ns := 948) dX8_init_111 (by decide) (by decide) ?_
  refine Ev.cstk (st' := [vR 286, vR 272]) (by decide +kernel) ?_
  refine Ev.dupR dX8_init_113 ?_
  refine Ev.iconst dX8_init_114 ?_
  refine Ev.iconst dX8_init_115 ?_
  refine Ev.iastore dX8_init_116 (by decide +kernel) (n := 6) (by decide +kernel) (by decide) (by decide) (by decide) ?_
  refine Ev.dupR dX8_init_117 ?_
  refine Ev.iconst dX8_init_118 ?_
  refine Ev.iconst dX8_init_119 ?_
  refine Ev.iastore dX8_init_120 (by decide +kernel) (n := 6) (by decide +kernel) (by decide) (by decide) (by decide) ?_
  refine Ev.dupR dX8_init_121 ?_
  refine Ev.iconst dX8_init_122 ?_
  refine Ev.iconst dX8_init_123 ?_
  refine Ev.iastore dX8_init_124 (by decide +kernel) (n := 6) (by decide +kernel) (by decide) (by decide) (by decide) ?_
  refine Ev.dupR dX8_init_125 ?_
  refine Ev.iconst dX8_init_126 ?_
  refine Ev.iconst dX8_init_127 ?_
  refine Ev.iastore dX8_init_128 (by decide +kernel) (n := 6) (by decide +kernel) (by decide) (by decide) (by decide) ?_
  refine Ev.dupR dX8_init_129 ?_
  refine Ev.iconst dX8_init_130 ?_
  refine Ev.iconst dX8_init_131 ?_
  refine Ev.iastore dX8_init_132 (by decide +kernel) (n := 6) (by decide +kernel) (by decide) (by decide) (by decide) ?_
  refine Ev.dupR dX8_init_133 ?_
  refine Ev.iconst dX8_init_134 ?_
  refine Ev.iconst dX8_init_135 ?_
  refine Ev.iastore dX8_init_136 (by decide +kernel) (n := 6) (by decide +kernel) (by decide) (by decide) (by decide) ?_
  refine pf_X8_50 rfl rfl dX8_init_137 (by decide +kernel) (by decide +kernel) ?_
  refine Ev.aload_n dX8_init_140 rfl rfl ?_
  refine Ev.sipush (n := 288) (by decide) dX8_init_141 ?_
  refine Ev.newi (n := 288) (nc := 10) (ns := 660) dX8_init_144 (by decide) (by decide) ?_
  refine Ev.cstk (st' := [vR 287, vR 272]) (by decide +kernel) ?_
  refine pf_X8_53 rfl rfl dX8_init_146 (by decide +kernel) (by decide +kernel) ?_
  refine Ev.aload_n dX8_init_149 rfl rfl ?_
  refine Ev.bipush (n := 40) (by decide) dX8_init_150 ?_
  refine Ev.newi (n := 40) (nc := 9) (ns := 620) dX8_init_152 (by decide) (by decide) ?_
  refine Ev.cstk (st' := [vR 288, vR 272]) (by decide +kernel) ?_
  refine pf_X8_56 rfl rfl dX8_init_154 (by decide +kernel) (by decide +kernel) ?_
  refine Ev.aload_n dX8_init_157 rfl rfl ?_
  refine Ev.bipush (n := 40) (by decide) dX8_init_158 ?_
  refine Ev.newi (n := 40) (nc := 8) (ns := 580) dX8_init_160 (by decide) (by decide) ?_
  refine Ev.cstk (st' := [vR 289, vR 272]) (by decide +kernel) ?_
  refine pf_X8_59 rfl rfl dX8_init_162 (by decide +kernel) (by decide +kernel) ?_
  refine Ev.aload_n dX8_init_165 rfl rfl ?_
  refine Ev.sipush (n := 240) (by decide) dX8_init_166 ?_
  refine Ev.newi (n := 240) (nc := 7) (ns := 340) dX8_init_169 (by decide) (by decide) ?_
  refine Ev.cstk (st' := [vR 290, vR 272]) (by decide +kernel) ?_
  refine pf_X8_62 rfl rfl dX8_init_171 (by decide +kernel) (by decide +kernel) ?_
  refine Ev.aload_n dX8_init_174 rfl rfl ?_
  refine Ev.sipush (n := 240) (by decide) dX8_init_175 ?_
  refine Ev.newi (n := 240) (nc := 6) (ns := 100) dX8_init_178 (by decide) (by decide) ?_
  refine Ev.cstk (st' := [vR 291, vR 272]) (by decide +kernel) ?_
  refine pf_X8_65 rfl rfl dX8_init_180 (by decide +kernel) (by decide +kernel) ?_
  refine Ev.aload_n dX8_init_183 rfl rfl ?_
  refine Ev.bipush (n := 12) (by decide) dX8_init_184 ?_
  refine Ev.newi (n := 12) (nc := 5) (ns := 88) dX8_init_186 (by decide) (by decide) ?_
  refine Ev.cstk (st' := [vR 292, vR 272]) (by decide +kernel) ?_
  refine pf_X8_68 rfl rfl dX8_init_188 (by decide +kernel) (by decide +kernel) ?_
  refine Ev.aload_n dX8_init_191 rfl rfl ?_
  refine Ev.bipush (n := -9) (by decide) dX8_init_192 ?_
  refine pf_X8_71 rfl dX8_init_194 (by decide +kernel) (by decide +kernel) ?_
  refine Ev.aload_n dX8_init_197 rfl rfl ?_
  refine Ev.bipush (n := 10) (by decide) dX8_init_198 ?_
  refine Ev.newi (n := 10) (nc := 4) (ns := 78) dX8_init_200 (by decide) (by decide) ?_
  refine Ev.cstk (st' := [vR 293, vR 272]) (by decide +kernel) ?_
  refine pf_X8_75 rfl rfl dX8_init_202 (by decide +kernel) (by decide +kernel) ?_
  refine Ev.aload_n dX8_init_205 rfl rfl ?_
  refine Ev.bipush (n := 10) (by decide) dX8_init_206 ?_
  refine Ev.newi (n := 10) (nc := 3) (ns := 68) dX8_init_208 (by decide) (by decide) ?_
  refine Ev.cstk (st' := [vR 294, vR 272]) (by decide +kernel) ?_
  refine pf_X8_78 rfl rfl dX8_init_210 (by decide +kernel) (by decide +kernel) ?_
  refine Ev.aload_n dX8_init_213 rfl rfl ?_
  refine Ev.bipush (n := 10) (by decide) dX8_init_214 ?_
  refine Ev.newi (n := 10) (nc := 2) (ns := 58) dX8_init_216 (by decide) (by decide) ?_
  refine Ev.cstk (st' := [vR 295, vR 272]) (by decide +kernel) ?_
  refine pf_X8_81 rfl rfl dX8_init_218 (by decide +kernel) (by decide +kernel) ?_
  refine Ev.aload_n dX8_init_221 rfl rfl ?_
  refine Ev.bipush (n := 48) (by decide) dX8_init_222 ?_
  refine Ev.newi (n := 48) (nc := 1) (ns := 10) dX8_init_224 (by decide) (by decide) ?_
  refine Ev.cstk (st' := [vR 296, vR 272]) (by decide +kernel) ?_
  refine pf_X8_84 rfl rfl dX8_init_226 (by decide +kernel) (by decide +kernel) ?_
  refine Ev.aload_n dX8_init_229 rfl rfl ?_
  refine Ev.bipush (n := 10) (by decide) dX8_init_230 ?_
  refine Ev.newi (n := 10) (nc := 0) (ns := 0) dX8_init_232 (by decide) (by decide) ?_
  refine Ev.cstk (st' := [vR 297, vR 272]) (by decide +kernel) ?_
  refine pf_X8_87 rfl rfl dX8_init_234 (by decide +kernel) (by decide +kernel) ?_
  exact Ev.vreturn dX8_init_237 rfl ⟨rfl, rfl⟩
/-- two memories that agree wherever there is something -/
def memE (a b : Mem) : Bool := (a.1 == b.1) && (List.range a.1).all fun c => (a.2.1 c == b.2.1 c) && (List.range (if (a.2.1 c).1 = 0 then cNf (a.2.1 c).2 else (a.2.1 c).2)).all fun i => (a.2.2.1 c i == b.2.2.1 c i) && (a.2.2.2 c i == b.2.2.2 c i)
set_option maxRecDepth 100000 in
theorem memE_B : memE cm14 cmB = true := by decide +kernel
set_option maxRecDepth 100000 in
theorem memE_0 : memE cm15 (M0 sig0) = true := by decide +kernel
-- ct_X7_init_1 cm14 ct_X8_init_8 cm15
