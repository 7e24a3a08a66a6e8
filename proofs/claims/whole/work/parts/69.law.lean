/-! THE LAW: its loop, its start; the claim -/
theorem iAnd31 (x : Int) : ∃ k : Nat, k < 32 ∧ iAnd x 31 = (k : Int) := by
  have h : ∃ n : Nat, Int32.ofInt x = nI n := ⟨(Int32.ofInt x).toBitVec.toNat, by
    apply Int32.toBitVec_inj.1
    show _ = BitVec.ofNat 32 _
    exact BitVec.eq_of_toNat_eq (by rw [BitVec.toNat_ofNat]; exact (Nat.mod_eq_of_lt (BitVec.isLt _)).symm)⟩
  obtain ⟨n, hn⟩ := h
  have h31 : n &&& 31 ≤ 31 := Nat.and_le_right
  refine ⟨n &&& 31, by omega, ?_⟩
  unfold iAnd
  rw [hn, show Int32.ofInt 31 = nI 31 from rfl, nx_and]
  exact nI_tI (by omega)
theorem Ev.slots {g : GC} {M : MD} {pc : Nat} {pl : List (Option PV)} {st : List PV} {m : Mem} {nc ns ns' : Nat} {Post : Option PV → Mem → Prop} (h : Ev g M pc pl st m nc ns Post) (hn : ns ≤ ns') : Ev g M pc pl st m nc ns' Post := by
  intro p e R s mi args below meth c C H locs cells slots ls Q hc hs' hR hS hl hk
  refine h p e R s mi args below meth c C H locs cells slots ls Q hc (by omega) hR hS hl fun v m' H' locs' pcE ls' a1 a2 a3 a4 => ?_
  exact W.widen (k := cells + nc) (n := slots + ns') (Nat.le_refl _) (by omega) (hk v m' H' locs' pcE ls' a1 a2 a3 a4)
/-- the state of new objects -/
def s0 : SS := ((0, fun _ => 0, fun _ => 0), (0, fun _ => (0, 0, 0, 0, fun _ => 0, fun _ => 0, fun _ => 0), 0, fun _ => -1, fun _ _ => 0), (0, fun _ => 0, fun _ => 0, fun _ _ => 0), (0, fun _ => 0), (-1, fun _ => 0), (0, fun _ => (0, 0, 0, 0, fun _ => 0, fun _ => 0, fun _ => 0), fun _ => 0), 0)
theorem sg0 {c i : Nat} (h1 : ¬ (c = 0 ∧ i = 11)) (h2 : ¬ (c = 251 ∧ i < 6)) (h3 : ¬ (c = 286 ∧ i < 6)) (h4 : ¬ (c = 272 ∧ i = 27)) : sig0 c i = 0 := by
  unfold sig0
  rw [if_neg h1, if_neg h2, if_neg h3, if_neg h4]
theorem ci0 : CI s0 sig0 := by
  refine ⟨⟨by decide, sg0 (by omega) (by omega) (by omega) (by omega), fun x hx => absurd hx (Nat.not_lt_zero x), fun x hx => absurd hx (Nat.not_lt_zero x)⟩, ⟨by decide, sg0 (by omega) (by omega) (by omega) (by omega), sg0 (by omega) (by omega) (by omega) (by omega), by decide, fun r hr => absurd hr (Nat.not_lt_zero r), fun r _ _ => ⟨sg0 (by omega) (by omega) (by omega) (by omega), sg0 (by omega) (by omega) (by omega) (by omega)⟩⟩, fun t ht => ⟨?_, ⟨(by show (-1 : Int) ≤ -1; decide), (by show (-1 : Int) ≤ 48; decide)⟩, fun j hj => ⟨sg0 (by omega) (by omega) (by omega) (by omega), (by show 0 < 16; decide)⟩⟩, ⟨by decide, sg0 (by omega) (by omega) (by omega) (by omega), fun k hk => absurd hk (Nat.not_lt_zero k)⟩, ⟨by decide, sg0 (by omega) (by omega) (by omega) (by omega), fun k hk => absurd hk (Nat.not_lt_zero k)⟩, ⟨by decide, rfl, fun x hx => absurd hx (by show ¬ (x : Int) < -1; omega)⟩, ⟨by decide, sg0 (by omega) (by omega) (by omega) (by omega), fun l hl => absurd hl (Nat.not_lt_zero l), fun l _ _ => ⟨sg0 (by omega) (by omega) (by omega) (by omega), sg0 (by omega) (by omega) (by omega) (by omega)⟩⟩, sg0 (by omega) (by omega) (by omega) (by omega), sg0 (by omega) (by omega) (by omega) (by omega)⟩
  show sig0 251 t = -1
  unfold sig0
  rw [if_neg (by omega), if_pos ⟨rfl, ht⟩]
theorem mi0 : MI s0 sig0 := by
  refine ⟨⟨by decide, sg0 (by omega) (by omega) (by omega) (by omega), fun x hx => absurd hx (Nat.not_lt_zero x), fun x hx => absurd hx (Nat.not_lt_zero x)⟩, ⟨by decide, sg0 (by omega) (by omega) (by omega) (by omega), by decide, fun r hr => absurd hr (Nat.not_lt_zero r)⟩, fun t ht => ⟨?_, ⟨(by show (-1 : Int) ≤ -1; decide), (by show (-1 : Int) ≤ 48; decide)⟩, fun j hj => ⟨sg0 (by omega) (by omega) (by omega) (by omega), (by show 0 < 16; decide)⟩⟩, ⟨by decide, sg0 (by omega) (by omega) (by omega) (by omega), fun k hk => absurd hk (Nat.not_lt_zero k)⟩, ⟨by decide, sg0 (by omega) (by omega) (by omega) (by omega), fun k hk => absurd hk (Nat.not_lt_zero k)⟩, ⟨by decide, rfl, fun x hx => absurd hx (by show ¬ (x : Int) < -1; omega)⟩, ⟨by decide, sg0 (by omega) (by omega) (by omega) (by omega), fun l hl => absurd hl (Nat.not_lt_zero l)⟩, sg0 (by omega) (by omega) (by omega) (by omega)⟩
  show sig0 286 t = -1
  unfold sig0
  rw [if_neg (by omega), if_neg (by omega), if_pos ⟨rfl, ht⟩]
set_option maxRecDepth 100000 in
set_option maxHeartbeats 4000000 in
theorem law_loop {g : GC} (hL : g.2.2.2.2.2.1 ≤ 3072) : ∀ n i : Nat, g.2.2.2.2.2.1 ≤ i + n → i ≤ 3072 → ∀ (s : SS) (σ : Sg), CI s σ → MI s σ → Ev g mL_law 18 [some (vS), some (vR (0)), some (vR (272)), some (vI (((i : Nat) : Int)))] [] (M0 (σ)) 0 0 (fun v _ => v = some (vI 1)) := by
  intro n
  induction n with
  | zero =>
    intro i hn hi72 s σ hC hM
    refine Ev.iload_n dL_law_18 rfl rfl ?_
    refine Ev.aloadS dL_law_19 rfl rfl ?_
    refine Ev.slen rfl dL_law_20 ?_
    refine Ev.bipush (n := 6) (by decide) dL_law_21 ?_
    refine Ev.isub dL_law_23 ?_
    refine Ev.icmp_gt (tgt := 1230) ⟨by omega, by omega⟩ ⟨by omega, by omega⟩ dL_law_24 (by decide) (fun h24 => ?_) (fun h24 => ?_)
    · skip
      refine Ev.iconst dL_law_1230 ?_
      exact Ev.zreturn dL_law_1231 rfl (Or.inr rfl) rfl
    · exact absurd h24 (by omega)
  | succ n ih =>
    intro i hn hi72 s σ hC hM
    refine Ev.iload_n dL_law_18 rfl rfl ?_
    refine Ev.aloadS dL_law_19 rfl rfl ?_
    refine Ev.slen rfl dL_law_20 ?_
    refine Ev.bipush (n := 6) (by decide) dL_law_21 ?_
    refine Ev.isub dL_law_23 ?_
    refine Ev.icmp_gt (tgt := 1230) ⟨by omega, by omega⟩ ⟨by omega, by omega⟩ dL_law_24 (by decide) (fun h24 => ?_) (fun h24 => ?_)
    · skip
      refine Ev.iconst dL_law_1230 ?_
      exact Ev.zreturn dL_law_1231 rfl (Or.inr rfl) rfl
    · skip
      refine Ev.aloadS dL_law_27 rfl rfl ?_
      refine Ev.iload_n dL_law_28 rfl rfl ?_
      refine Ev.sload (v := (sc g (i + 0))) rfl dL_law_29 (by omega) (by omega) (by omega) (sc_at (by omega)) ?_
      refine Ev.bipush (n := 31) (by decide) dL_law_30 ?_
      refine Ev.iand dL_law_32 ?_
      obtain ⟨q, hq, he⟩ := iAnd31 (sc g (i + 0))
      rw [he]
      have hnext : ∀ (s2 : SS) (ρ : Sg), CI s2 ρ → MI s2 ρ → Ev g mL_law 1224 [some (vS), some (vR (0)), some (vR (272)), some (vI (((i : Nat) : Int)))] [] (M0 (ρ)) 0 0 (fun v _ => v = some (vI 1)) := fun s2 ρ h1 h2 => by
        refine Ev.iinc (pl' := [some vS, some (vR (0)), some (vR (272)), some (vI (((i : Nat) : Int) + 6))]) dL_law_1224 rfl (Nat.le_of_ble_eq_true rfl) rfl ?_
        refine Ev.goto (tgt := 18) dL_law_1227 (by decide) ?_
        refine Ev.wk (pl' := [some (vS), some (vR (0)), some (vR (272)), some (vI ((((i + 6) : Nat) : Int)))]) ⟨rfl, ⟨rfl, ⟨rfl, ⟨vIe (by omega), trivial⟩⟩⟩⟩ ?_
        exact ih (i + 6) (by omega) (by omega) s2 ρ h1 h2
      match q, hq with
      | 0, _ => exact Ev.tableIn (tgt := 176) dL_law_33 ⟨by decide, by decide⟩ (by decide) (by decide) rfl (by decide) (law_0 hL i (by omega) s σ hC hM hnext)
      | 1, _ => exact Ev.tableIn (tgt := 209) dL_law_33 ⟨by decide, by decide⟩ (by decide) (by decide) rfl (by decide) (law_1 hL i (by omega) s σ hC hM hnext)
      | 2, _ => exact Ev.tableIn (tgt := 242) dL_law_33 ⟨by decide, by decide⟩ (by decide) (by decide) rfl (by decide) (law_2 hL i (by omega) s σ hC hM hnext)
      | 3, _ => exact Ev.tableIn (tgt := 285) dL_law_33 ⟨by decide, by decide⟩ (by decide) (by decide) rfl (by decide) (law_3 hL i (by omega) s σ hC hM hnext)
      | 4, _ => exact Ev.tableIn (tgt := 338) dL_law_33 ⟨by decide, by decide⟩ (by decide) (by decide) rfl (by decide) (law_4 hL i (by omega) s σ hC hM hnext)
      | 5, _ => exact Ev.tableIn (tgt := 391) dL_law_33 ⟨by decide, by decide⟩ (by decide) (by decide) rfl (by decide) (law_5 hL i (by omega) s σ hC hM hnext)
      | 6, _ => exact Ev.tableIn (tgt := 440) dL_law_33 ⟨by decide, by decide⟩ (by decide) (by decide) rfl (by decide) (law_6 hL i (by omega) s σ hC hM hnext)
      | 7, _ => exact Ev.tableIn (tgt := 483) dL_law_33 ⟨by decide, by decide⟩ (by decide) (by decide) rfl (by decide) (law_7 hL i (by omega) s σ hC hM hnext)
      | 8, _ => exact Ev.tableIn (tgt := 506) dL_law_33 ⟨by decide, by decide⟩ (by decide) (by decide) rfl (by decide) (law_8 hL i (by omega) s σ hC hM hnext)
      | 9, _ => exact Ev.tableIn (tgt := 549) dL_law_33 ⟨by decide, by decide⟩ (by decide) (by decide) rfl (by decide) (law_9 hL i (by omega) s σ hC hM hnext)
      | 10, _ => exact Ev.tableIn (tgt := 612) dL_law_33 ⟨by decide, by decide⟩ (by decide) (by decide) rfl (by decide) (law_10 hL i (by omega) s σ hC hM hnext)
      | 11, _ => exact Ev.tableIn (tgt := 645) dL_law_33 ⟨by decide, by decide⟩ (by decide) (by decide) rfl (by decide) (law_11 hL i (by omega) s σ hC hM hnext)
      | 12, _ => exact Ev.tableIn (tgt := 678) dL_law_33 ⟨by decide, by decide⟩ (by decide) (by decide) rfl (by decide) (law_12 hL i (by omega) s σ hC hM hnext)
      | 13, _ => exact Ev.tableIn (tgt := 691) dL_law_33 ⟨by decide, by decide⟩ (by decide) (by decide) rfl (by decide) (law_13 hL i (by omega) s σ hC hM hnext)
      | 14, _ => exact Ev.tableIn (tgt := 714) dL_law_33 ⟨by decide, by decide⟩ (by decide) (by decide) rfl (by decide) (law_14 hL i (by omega) s σ hC hM hnext)
      | 15, _ => exact Ev.tableIn (tgt := 757) dL_law_33 ⟨by decide, by decide⟩ (by decide) (by decide) rfl (by decide) (law_15 hL i (by omega) s σ hC hM hnext)
      | 16, _ => exact Ev.tableIn (tgt := 780) dL_law_33 ⟨by decide, by decide⟩ (by decide) (by decide) rfl (by decide) (law_16 hL i (by omega) s σ hC hM hnext)
      | 17, _ => exact Ev.tableIn (tgt := 813) dL_law_33 ⟨by decide, by decide⟩ (by decide) (by decide) rfl (by decide) (law_17 hL i (by omega) s σ hC hM hnext)
      | 18, _ => exact Ev.tableIn (tgt := 846) dL_law_33 ⟨by decide, by decide⟩ (by decide) (by decide) rfl (by decide) (law_18 hL i (by omega) s σ hC hM hnext)
      | 19, _ => exact Ev.tableIn (tgt := 869) dL_law_33 ⟨by decide, by decide⟩ (by decide) (by decide) rfl (by decide) (law_19 hL i (by omega) s σ hC hM hnext)
      | 20, _ => exact Ev.tableIn (tgt := 882) dL_law_33 ⟨by decide, by decide⟩ (by decide) (by decide) rfl (by decide) (law_20 hL i (by omega) s σ hC hM hnext)
      | 21, _ => exact Ev.tableIn (tgt := 895) dL_law_33 ⟨by decide, by decide⟩ (by decide) (by decide) rfl (by decide) (law_21 hL i (by omega) s σ hC hM hnext)
      | 22, _ => exact Ev.tableIn (tgt := 918) dL_law_33 ⟨by decide, by decide⟩ (by decide) (by decide) rfl (by decide) (law_22 hL i (by omega) s σ hC hM hnext)
      | 23, _ => exact Ev.tableIn (tgt := 941) dL_law_33 ⟨by decide, by decide⟩ (by decide) (by decide) rfl (by decide) (law_23 hL i (by omega) s σ hC hM hnext)
      | 24, _ => exact Ev.tableIn (tgt := 990) dL_law_33 ⟨by decide, by decide⟩ (by decide) (by decide) rfl (by decide) (law_24 hL i (by omega) s σ hC hM hnext)
      | 25, _ => exact Ev.tableIn (tgt := 1033) dL_law_33 ⟨by decide, by decide⟩ (by decide) (by decide) rfl (by decide) (law_25 hL i (by omega) s σ hC hM hnext)
      | 26, _ => exact Ev.tableIn (tgt := 1046) dL_law_33 ⟨by decide, by decide⟩ (by decide) (by decide) rfl (by decide) (law_26 hL i (by omega) s σ hC hM hnext)
      | 27, _ => exact Ev.tableIn (tgt := 1069) dL_law_33 ⟨by decide, by decide⟩ (by decide) (by decide) rfl (by decide) (law_27 hL i (by omega) s σ hC hM hnext)
      | 28, _ => exact Ev.tableIn (tgt := 1122) dL_law_33 ⟨by decide, by decide⟩ (by decide) (by decide) rfl (by decide) (law_28 hL i (by omega) s σ hC hM hnext)
      | 29, _ => exact Ev.tableIn (tgt := 1175) dL_law_33 ⟨by decide, by decide⟩ (by decide) (by decide) rfl (by decide) (law_29 hL i (by omega) s σ hC hM hnext)
      | 30, _ => exact Ev.tableIn (tgt := 1188) dL_law_33 ⟨by decide, by decide⟩ (by decide) (by decide) rfl (by decide) (law_30 hL i (by omega) s σ hC hM hnext)
      | 31, _ => exact Ev.tableIn (tgt := 1201) dL_law_33 ⟨by decide, by decide⟩ (by decide) (by decide) rfl (by decide) (law_31 hL i (by omega) s σ hC hM hnext)
      | q + 32, h => omega
set_option maxRecDepth 100000 in
set_option maxHeartbeats 4000000 in
theorem law_run (g : GC) : LawRun g := fun hL => by
  refine Ev.slots (ns := 3796) ?_ (by decide)
  refine Ev.new (q := (RX7, TX7, 20)) (ci := 7) (nc := 297) (ns := 3776) dL_law_0 rfl (by decide) (tbl_i 14 (by decide +kernel)) (tbl_i 15 (by decide +kernel)) (tbl_i 1 (by decide +kernel)) ?_
  refine Ev.dupR dL_law_3 ?_
  refine Ev.callI_V (M2 := mX7_init) (args2 := []) (rcv := 0) (nc2 := 271) (ns2 := 2256) (nc := 26) (ns := 1520) dL_law_4 okX7_init oiX7_init (tbl_i 16 (by decide +kernel)) (by decide) rfl (Nat.le_of_ble_eq_true rfl) (Nat.le_of_ble_eq_true rfl) ct_X7_init_1 ?_ rfl
  refine Ev.congr memE_B ?_
  refine Ev.astore_n (pl' := [some vS, some (vR 0), none, none]) dL_law_7 rfl (Nat.le_of_ble_eq_true rfl) rfl ?_
  refine Ev.new (q := (RX8, TX8, 34)) (ci := 8) (nc := 25) (ns := 1486) dL_law_8 rfl (by decide) (tbl_i 682 (by decide +kernel)) (tbl_i 683 (by decide +kernel)) (tbl_i 9 (by decide +kernel)) ?_
  refine Ev.dupR dL_law_11 ?_
  refine Ev.callI_V (M2 := mX8_init) (args2 := []) (rcv := 272) (nc2 := 25) (ns2 := 1486) (nc := 0) (ns := 0) dL_law_12 okX8_init oiX8_init (tbl_i 684 (by decide +kernel)) (by decide) rfl (Nat.le_of_ble_eq_true rfl) (Nat.le_of_ble_eq_true rfl) ct_X8_init_8 ?_ rfl
  refine Ev.congr memE_0 ?_
  refine Ev.astore_n (pl' := [some vS, some (vR 0), some (vR 272), none]) dL_law_15 rfl (Nat.le_of_ble_eq_true rfl) rfl ?_
  refine Ev.iconst dL_law_16 ?_
  refine Ev.istore_n (pl' := [some vS, some (vR 0), some (vR 272), some (vI (0))]) dL_law_17 rfl (Nat.le_of_ble_eq_true rfl) rfl ?_
  exact law_loop hL g.2.2.2.2.2.1 0 (by omega) (by omega) s0 sig0 ci0 mi0
