/-! THE CLASS: the search -/
set_option maxRecDepth 100000 in
set_option maxHeartbeats 4000000 in
theorem s4_find_l {g : GC} (σ : Sg) (U : Nat) (hU : U ≤ 10) (X : Rg) (rg : Nat) (hg : rg < 298) (hgs : sh0 rg = (1, 10)) (hgn : rg ∉ SK) (hX : AV σ rg U X) (Rf : Nat → RC) (w : Nat) (hw : w < 65536) (hC : ∀ r, r < 16 → w.testBit r = true → CR σ r (Rf r) ∧ WR U (Rf r)) (T : Tb) (hT : TVc σ T) (most : Nat) (hmo : 1 ≤ most ∧ most ≤ 20000) (hwy : wys X U ≤ 20000) (op : Nat → Nat) (hop : OpOk U X op) (hNE : NEm U X) : ∀ j q : Nat, q + j = 80001 → ∀ (τ : Sg) (d fd : Nat) (A : An) (L : Rg), Same SK σ τ → (∀ k, k < chN X U → τ 268 k = (op k : Int)) → (∀ s, s ≤ chN X U → τ 271 s = (duM Rf w X 16 s : Int)) → (∀ x, x < U → τ 267 x = (A x : Int)) → (∀ k, k < d → τ 269 k = (L k : Int)) → Dfs U T (16, Rf, fun r => w.testBit r = true) X op d A L fd → phi X op (chN X U) L d + q ≤ 80000 → fd ≤ most → (most = 1 → fd ≠ 0 → isLst U (isAns U T (16, Rf, fun r => w.testBit r = true) X) A) → Ev g mX4_find 57 [some (vR (266)), some (vR (rg)), some (vI (((U : Nat) : Int))), some (vR (3)), some (vL (((w : Nat) : Int))), none, some (vI (((most : Nat) : Int))), some (vI (((chN X U : Nat) : Int))), some (vI (((fd : Nat) : Int))), some (vI ((((d : Nat)) : Int) - 1)), some (vI (((q : Nat) : Int))), none] [] (M0 (τ)) 0 0 (retE (FindP σ U T (16, Rf, fun r => w.testBit r = true) X most)) := by
  intro j
  induction j with
  | zero =>
    intro q hij τ d fd A L hF hOp hDu hA hL hD hph hfm hls
    omega
  | succ j ih =>
    intro q hij τ d fd A L hF hOp hDu hA hL hD hph hfm hls
    have hcU := chN_le X U
    have hdK := hD.1
    refine Ev.iload dX4_find_57 rfl ?_
    refine Ev.if_lt (tgt := 187) ⟨by omega, by omega⟩ dX4_find_59 (by decide) (fun h59 => ?_) (fun h59 => ?_)
    · skip
      refine Ev.iload dX4_find_187 rfl ?_
      exact Ev.ireturn dX4_find_189 rfl (rE (FindP.of hNE hF hA (by first | (have hz : d = 0 := (by omega); subst hz; have := hD.end; omega) | (have := hD.le; omega)) hls))
    · skip
      obtain ⟨l, rfl⟩ : ∃ l, d = l + 1 := ⟨d - 1, by omega⟩
      refine Ev.wk (pl' := [some (vR (266)), some (vR (rg)), some (vI (((U : Nat) : Int))), some (vR (3)), some (vL (((w : Nat) : Int))), none, some (vI (((most : Nat) : Int))), some (vI (((chN X U : Nat) : Int))), some (vI (((fd : Nat) : Int))), some (vI (((l : Nat) : Int))), some (vI (((q : Nat) : Int))), none]) ⟨rfl, ⟨rfl, ⟨rfl, ⟨rfl, ⟨rfl, ⟨rfl, ⟨rfl, ⟨rfl, ⟨vIe (by omega), ⟨rfl, trivial⟩⟩⟩⟩⟩⟩⟩⟩⟩⟩ ?_
      have hlK : l < chN X U := hD.1
      have hol := hop.at hlK
      have hLl : L l < 65536 := sub_lt (hD.2.2.2.1 l (by omega)) (hNE _ hol.1).2
      refine Ev.iload dX4_find_62 rfl ?_
      refine Ev.iload dX4_find_64 rfl ?_
      refine Ev.icmp_ge (tgt := 187) ⟨by omega, by omega⟩ ⟨by omega, by omega⟩ dX4_find_66 (by decide) (fun h66 => ?_) (fun h66 => ?_)
      · skip
        refine Ev.iload dX4_find_187 rfl ?_
        exact Ev.ireturn dX4_find_189 rfl (rE (FindP.of hNE hF hA (by first | (have hz : d = 0 := (by omega); subst hz; have := hD.end; omega) | (have := hD.le; omega)) hls))
      · skip
        refine Ev.iload dX4_find_69 rfl ?_
        refine Ev.ldc (n := 1000000) (tbl_i 595 (by decide +kernel)) dX4_find_71 ?_
        refine Ev.icmp_ge (tgt := 187) ⟨by omega, by omega⟩ ⟨by decide, by decide⟩ dX4_find_73 (by decide) (fun h73 => ?_) (fun h73 => ?_)
        · exact absurd h73 (by omega)
        · skip
          refine Ev.aload_n dX4_find_76 rfl rfl ?_
          refine gf_X4_18 rfl dX4_find_77 ltc_266 shc_266 rfc_266_3 ?_
          refine Ev.iload dX4_find_80 rfl ?_
          refine Ev.iaload (v := ((L l : Nat) : Int)) dX4_find_82 ltc_269 shc_269 (by decide) (by omega) (by omega) (ldx rfl (hL l (by omega))) ?_
          refine Ev.istore (pl' := [some (vR (266)), some (vR (rg)), some (vI (((U : Nat) : Int))), some (vR (3)), some (vL (((w : Nat) : Int))), none, some (vI (((most : Nat) : Int))), some (vI (((chN X U : Nat) : Int))), some (vI (((fd : Nat) : Int))), some (vI (((l : Nat) : Int))), some (vI (((q : Nat) : Int))), some (vI (((L l : Nat) : Int)))]) dX4_find_83 (Nat.le_of_ble_eq_true rfl) rfl ?_
          refine Ev.iload dX4_find_85 rfl ?_
          refine Ev.if_ne (tgt := 96) ⟨by omega, by omega⟩ dX4_find_87 (by decide) (fun h87 => ?_) (fun h87 => ?_)
          · skip
            have hL0 : L l ≠ 0 := by omega
            have hlo := lo_lt hLl hL0
            refine Ev.aload_n dX4_find_96 rfl rfl ?_
            refine gf_X4_9 rfl dX4_find_97 ltc_266 shc_266 rfc_266_1 ?_
            refine Ev.aload_n dX4_find_100 rfl rfl ?_
            refine gf_X4_15 rfl dX4_find_101 ltc_266 shc_266 rfc_266_2 ?_
            refine Ev.iload dX4_find_104 rfl ?_
            refine Ev.iaload (v := ((op l : Nat) : Int)) dX4_find_106 ltc_268 shc_268 (by decide) (by omega) (by omega) (ldx rfl (hOp l (by omega))) ?_
            refine Ev.iload dX4_find_107 rfl ?_
            refine Ev.callS_I (M2 := mJ6_numberOfTrailingZeros_0f7a4) (args2 := [vI (((L l : Nat) : Int))]) dX4_find_109 okJ6_numberOfTrailingZeros_0f7a4 lk_X4_41 osJ6_numberOfTrailingZeros_0f7a4.1 osJ6_numberOfTrailingZeros_0f7a4.2 (by decide) rfl (Nat.le_of_ble_eq_true rfl) (Nat.le_of_ble_eq_true rfl) (sJ_ntz τ (L l) hLl hL0) ?_ rfl
            refine Ev.iastore dX4_find_112 ltc_267 shc_267 (by decide) (by omega) (Int.ofNat_lt.mpr (Nat.lt_of_lt_of_le hol.1 hU)) ?_
            refine Ev.aload_n dX4_find_113 rfl rfl ?_
            refine gf_X4_18 rfl dX4_find_114 ltc_266 shc_266 rfc_266_3 ?_
            refine Ev.iload dX4_find_117 rfl ?_
            refine Ev.iload dX4_find_119 rfl ?_
            refine Ev.iload dX4_find_121 rfl ?_
            refine Ev.iconst dX4_find_123 ?_
            refine Ev.isub dX4_find_124 ?_
            refine Ev.iand dX4_find_125 ?_
            rw [show (iAnd (((L l : Nat) : Int)) ((((L l : Nat) : Int) - 1))) = ((andN (L l) (2 ^ lo (L l)) : Nat) : Int) from by rw [show ((L l : Nat) : Int) - 1 = ((L l - 1 : Nat) : Int) by omega, iAnd_nat (by omega), clr_lo hLl hL0]]
            refine Ev.iastore dX4_find_126 ltc_269 shc_269 (by decide) (by omega) (by omega) ?_
            refine Ev.mem (τ := upC (upC τ 267 (op l) (lo (L l) : Int)) 269 l (andN (L l) (2 ^ lo (L l)) : Int)) (by simp only [Int.toNat_natCast]) ?_
            refine Ev.aload_n dX4_find_127 rfl rfl ?_
            refine Ev.aload_n dX4_find_128 rfl rfl ?_
            refine Ev.aload_n dX4_find_129 rfl rfl ?_
            refine gf_X4_24 rfl dX4_find_130 ltc_266 shc_266 rfc_266_5 ?_
            refine Ev.iload dX4_find_133 rfl ?_
            refine Ev.iconst dX4_find_135 ?_
            refine Ev.iadd dX4_find_136 ?_
            refine Ev.laload (v := ((duM Rf w X 16 ((l + 1)) : Nat) : Int)) dX4_find_137 ltc_271 shc_271 (by decide) (by omega) (by omega) (ldx rfl (show (upC (upC τ 267 (op l) (lo (L l) : Int)) 269 l (andN (L l) (2 ^ lo (L l)) : Int)) 271 ((l + 1)) = _ from by rw [upC_ne (by decide), upC_ne (by decide)]; exact hDu ((l + 1)) (by omega))) ?_
            have hNV : ∀ x, x < U → (upC (upC τ 267 (op l) (lo (L l) : Int)) 269 l (andN (L l) (2 ^ lo (L l)) : Int)) 267 x = (pkA op l A L x : Int) := (fun x hx => by rw [upC_ne (by decide)]; exact nv_up hA x hx)
            refine Ev.callV_I (M2 := mX4_allFit) (args2 := [vR (3), vL (((duM Rf w X 16 ((l + 1)) : Nat) : Int))]) (rcv := 266) (q := (RX4, TX4, 6)) (ci := 4) dX4_find_138 okX4_allFit lk_X4_36 ovX4_allFit.1.1 ovX4_allFit.1.2 ovX4_allFit.2 (by decide) rfl rfl ltc_266 shc_266 rfl (Nat.le_of_ble_eq_true rfl) (Nat.le_of_ble_eq_true rfl) (s4_allFit (upC (upC τ 267 (op l) (lo (L l) : Int)) 269 l (andN (L l) (2 ^ lo (L l)) : Int)) U T (hT.same ((hF.up (by decide)).up (by decide)) (fun c h1 h2 => nSK (by omega))) Rf w (fun r hr hb => ⟨(hC r hr hb).1.same ((hF.up (by decide)).up (by decide)) (fun j hj => nSK (by omega)), (hC r hr hb).2⟩) (pkA op l A L) (fun x hx => ⟨hNV x hx, (hD.pick (fun r hr hb => (hC r hr hb).2) hNE hop hL0).1 x hx⟩) (duM Rf w X 16 (l + 1)) (fun r hr => (duM_tb.mp hr).2.1) (duM_lt (by decide))) ?_ rfl
            refine Ev.if_ne (tgt := 147) bI_inR dX4_find_141 (by decide) (fun h141 => ?_) (fun h141 => ?_)
            · skip
              refine Ev.iload dX4_find_147 rfl ?_
              refine Ev.iconst dX4_find_149 ?_
              refine Ev.iadd dX4_find_150 ?_
              refine Ev.iload dX4_find_151 rfl ?_
              refine Ev.icmp_ne (tgt := 162) ⟨by omega, by omega⟩ ⟨by omega, by omega⟩ dX4_find_153 (by decide) (fun h153 => ?_) (fun h153 => ?_)
              · skip
                have hol2 := hop.at (show l + 1 < chN X U by omega)
                refine Ev.iinc (pl' := [some (vR (266)), some (vR (rg)), some (vI (((U : Nat) : Int))), some (vR (3)), some (vL (((w : Nat) : Int))), none, some (vI (((most : Nat) : Int))), some (vI (((chN X U : Nat) : Int))), some (vI (((fd : Nat) : Int))), some (vI (((l : Nat) : Int) + 1)), some (vI (((q : Nat) : Int))), some (vI (((L l : Nat) : Int)))]) dX4_find_162 rfl (Nat.le_of_ble_eq_true rfl) rfl ?_
                refine Ev.aload_n dX4_find_165 rfl rfl ?_
                refine gf_X4_18 rfl dX4_find_166 ltc_266 shc_266 rfc_266_3 ?_
                refine Ev.iload dX4_find_169 rfl ?_
                refine Ev.aload_n dX4_find_171 rfl rfl ?_
                refine Ev.aload_n dX4_find_172 rfl rfl ?_
                refine gf_X4_15 rfl dX4_find_173 ltc_266 shc_266 rfc_266_2 ?_
                refine Ev.iload dX4_find_176 rfl ?_
                refine Ev.iaload (v := ((op ((l + 1)) : Nat) : Int)) dX4_find_178 ltc_268 shc_268 (by decide) (by omega) (by omega) (ldx rfl (show (upC (upC τ 267 (op l) (lo (L l) : Int)) 269 l (andN (L l) (2 ^ lo (L l)) : Int)) 268 ((l + 1)) = _ from by rw [upC_ne (by decide), upC_ne (by decide)]; exact hOp ((l + 1)) (by omega))) ?_
                refine Ev.iaload (v := ((X (op ((l + 1))) : Nat) : Int)) dX4_find_179 hg hgs (by decide) (by omega) (Int.ofNat_lt.mpr (Nat.lt_of_lt_of_le hol2.1 hU)) (ldx rfl (show (upC (upC τ 267 (op l) (lo (L l) : Int)) 269 l (andN (L l) (2 ^ lo (L l)) : Int)) rg (op ((l + 1))) = _ from by rw [upC_ne (fun e => hgn (by rw [e]; decide)), upC_ne (fun e => hgn (by rw [e]; decide)), hF rg hgn]; exact (hX _ hol2.1).1)) ?_
                refine Ev.iastore dX4_find_180 ltc_269 shc_269 (by decide) (by omega) (by omega) ?_
                refine Ev.mem (τ := upC (upC (upC τ 267 (op l) (lo (L l) : Int)) 269 l (andN (L l) (2 ^ lo (L l)) : Int)) 269 (l + 1) (X (op (l + 1)) : Int)) (by rw [show ((l : Nat) : Int) + 1 = ((l + 1 : Nat) : Int) by omega]; simp only [Int.toNat_natCast]) ?_
                refine Ev.iinc (pl' := [some (vR (266)), some (vR (rg)), some (vI (((U : Nat) : Int))), some (vR (3)), some (vL (((w : Nat) : Int))), none, some (vI (((most : Nat) : Int))), some (vI (((chN X U : Nat) : Int))), some (vI (((fd : Nat) : Int))), some (vI (((l : Nat) : Int) + 1)), some (vI (((q : Nat) : Int) + 1)), some (vI (((L l : Nat) : Int)))]) dX4_find_181 rfl (Nat.le_of_ble_eq_true rfl) rfl ?_
                refine Ev.goto (tgt := 57) dX4_find_184 (by decide) ?_
                refine Ev.wk (pl' := [some (vR (266)), some (vR (rg)), some (vI (((U : Nat) : Int))), some (vR (3)), some (vL (((w : Nat) : Int))), none, some (vI (((most : Nat) : Int))), some (vI (((chN X U : Nat) : Int))), some (vI (((fd : Nat) : Int))), some (vI (((((l + 2) : Nat)) : Int) - 1)), some (vI ((((q + 1) : Nat) : Int))), none]) ⟨rfl, ⟨rfl, ⟨rfl, ⟨rfl, ⟨rfl, ⟨rfl, ⟨rfl, ⟨rfl, ⟨vIe (by omega), ⟨vIe (by omega), trivial⟩⟩⟩⟩⟩⟩⟩⟩⟩⟩ ?_
                exact ih (q + 1) (by omega) (upC (upC (upC τ 267 (op l) (lo (L l) : Int)) 269 l (andN (L l) (2 ^ lo (L l)) : Int)) 269 (l + 1) (X (op (l + 1)) : Int)) (l + 2) fd (pkA op l A L) (upY (pkL l L) (l + 1) (X (op (l + 1)))) (((hF.up (by decide)).up (by decide)).up (by decide)) (fun k hk => by rw [upC_ne (by decide), upC_ne (by decide), upC_ne (by decide)]; exact hOp k hk) (fun k hk => by rw [upC_ne (by decide), upC_ne (by decide), upC_ne (by decide)]; exact hDu k hk) (fun x hx => by rw [upC_ne (by decide), upC_ne (by decide)]; exact nv_up hA x hx) (lv_push (fun k hk => lv_up (fun k hk => by rw [upC_ne (by decide)]; exact hL k hk) k hk)) (hD.good (fun r hr hb => (hC r hr hb).2) hNE hop hL0 (fun r hr hd => bI_1.mp h141 r (duM_tb.mpr ⟨hr, hd⟩)) (by omega)) (by have := phi_good (X := X) (op := op) (K := chN X U) hLl hL0 (by omega); omega) hfm (fun h1 h2 => absurd h2 (by omega))
              · skip
                refine Ev.iinc (pl' := [some (vR (266)), some (vR (rg)), some (vI (((U : Nat) : Int))), some (vR (3)), some (vL (((w : Nat) : Int))), none, some (vI (((most : Nat) : Int))), some (vI (((chN X U : Nat) : Int))), some (vI (((fd : Nat) : Int) + 1)), some (vI (((l : Nat) : Int))), some (vI (((q : Nat) : Int))), some (vI (((L l : Nat) : Int)))]) dX4_find_156 rfl (Nat.le_of_ble_eq_true rfl) rfl ?_
                refine Ev.goto (tgt := 181) dX4_find_159 (by decide) ?_
                refine Ev.iinc (pl' := [some (vR (266)), some (vR (rg)), some (vI (((U : Nat) : Int))), some (vR (3)), some (vL (((w : Nat) : Int))), none, some (vI (((most : Nat) : Int))), some (vI (((chN X U : Nat) : Int))), some (vI (((fd : Nat) : Int) + 1)), some (vI (((l : Nat) : Int))), some (vI (((q : Nat) : Int) + 1)), some (vI (((L l : Nat) : Int)))]) dX4_find_181 rfl (Nat.le_of_ble_eq_true rfl) rfl ?_
                refine Ev.goto (tgt := 57) dX4_find_184 (by decide) ?_
                refine Ev.wk (pl' := [some (vR (266)), some (vR (rg)), some (vI (((U : Nat) : Int))), some (vR (3)), some (vL (((w : Nat) : Int))), none, some (vI (((most : Nat) : Int))), some (vI (((chN X U : Nat) : Int))), some (vI ((((fd + 1) : Nat) : Int))), some (vI (((((l + 1) : Nat)) : Int) - 1)), some (vI ((((q + 1) : Nat) : Int))), none]) ⟨rfl, ⟨rfl, ⟨rfl, ⟨rfl, ⟨rfl, ⟨rfl, ⟨rfl, ⟨vIe (by omega), ⟨vIe (by omega), ⟨vIe (by omega), trivial⟩⟩⟩⟩⟩⟩⟩⟩⟩⟩ ?_
                exact ih (q + 1) (by omega) (upC (upC τ 267 (op l) (lo (L l) : Int)) 269 l (andN (L l) (2 ^ lo (L l)) : Int)) (l + 1) (fd + 1) (pkA op l A L) (pkL l L) ((hF.up (by decide)).up (by decide)) (fun k hk => by rw [upC_ne (by decide), upC_ne (by decide)]; exact hOp k hk) (fun k hk => by rw [upC_ne (by decide), upC_ne (by decide)]; exact hDu k hk) (fun x hx => by rw [upC_ne (by decide)]; exact nv_up hA x hx) (fun k hk => lv_up (fun k hk => by rw [upC_ne (by decide)]; exact hL k hk) k hk) (hD.found (fun r hr hb => (hC r hr hb).2) hNE hop hL0 (fun r hr hd => bI_1.mp h141 r (duM_tb.mpr ⟨hr, hd⟩)) (by omega)).1 (by have := phi_bad (X := X) (op := op) (K := chN X U) hLl hL0; omega) (by omega) (fun h1 _ => (hD.found (fun r hr hb => (hC r hr hb).2) hNE hop hL0 (fun r hr hd => bI_1.mp h141 r (duM_tb.mpr ⟨hr, hd⟩)) (by omega)).2.2 (by omega))
            · skip
              refine Ev.goto (tgt := 181) dX4_find_144 (by decide) ?_
              refine Ev.iinc (pl' := [some (vR (266)), some (vR (rg)), some (vI (((U : Nat) : Int))), some (vR (3)), some (vL (((w : Nat) : Int))), none, some (vI (((most : Nat) : Int))), some (vI (((chN X U : Nat) : Int))), some (vI (((fd : Nat) : Int))), some (vI (((l : Nat) : Int))), some (vI (((q : Nat) : Int) + 1)), some (vI (((L l : Nat) : Int)))]) dX4_find_181 rfl (Nat.le_of_ble_eq_true rfl) rfl ?_
              refine Ev.goto (tgt := 57) dX4_find_184 (by decide) ?_
              refine Ev.wk (pl' := [some (vR (266)), some (vR (rg)), some (vI (((U : Nat) : Int))), some (vR (3)), some (vL (((w : Nat) : Int))), none, some (vI (((most : Nat) : Int))), some (vI (((chN X U : Nat) : Int))), some (vI (((fd : Nat) : Int))), some (vI (((((l + 1) : Nat)) : Int) - 1)), some (vI ((((q + 1) : Nat) : Int))), none]) ⟨rfl, ⟨rfl, ⟨rfl, ⟨rfl, ⟨rfl, ⟨rfl, ⟨rfl, ⟨rfl, ⟨vIe (by omega), ⟨vIe (by omega), trivial⟩⟩⟩⟩⟩⟩⟩⟩⟩⟩ ?_
              exact ih (q + 1) (by omega) (upC (upC τ 267 (op l) (lo (L l) : Int)) 269 l (andN (L l) (2 ^ lo (L l)) : Int)) (l + 1) fd (pkA op l A L) (pkL l L) ((hF.up (by decide)).up (by decide)) (fun k hk => by rw [upC_ne (by decide), upC_ne (by decide)]; exact hOp k hk) (fun k hk => by rw [upC_ne (by decide), upC_ne (by decide)]; exact hDu k hk) (fun x hx => by rw [upC_ne (by decide)]; exact nv_up hA x hx) (fun k hk => lv_up (fun k hk => by rw [upC_ne (by decide)]; exact hL k hk) k hk) (hD.bad (fun r hr hb => (hC r hr hb).2) hNE hop hL0 (fun z => bI_0.mp h141 (fun r hr => z r (duM_tb.mp hr).1 (duM_tb.mp hr).2))) (by have := phi_bad (X := X) (op := op) (K := chN X U) hLl hL0; omega) hfm (fun h1 h2 => absurd h2 (by omega))
          · skip
            refine Ev.iinc (pl' := [some (vR (266)), some (vR (rg)), some (vI (((U : Nat) : Int))), some (vR (3)), some (vL (((w : Nat) : Int))), none, some (vI (((most : Nat) : Int))), some (vI (((chN X U : Nat) : Int))), some (vI (((fd : Nat) : Int))), some (vI (((l : Nat) : Int) + (-1))), some (vI (((q : Nat) : Int))), some (vI (((L l : Nat) : Int)))]) dX4_find_90 rfl (Nat.le_of_ble_eq_true rfl) rfl ?_
            refine Ev.goto (tgt := 181) dX4_find_93 (by decide) ?_
            refine Ev.iinc (pl' := [some (vR (266)), some (vR (rg)), some (vI (((U : Nat) : Int))), some (vR (3)), some (vL (((w : Nat) : Int))), none, some (vI (((most : Nat) : Int))), some (vI (((chN X U : Nat) : Int))), some (vI (((fd : Nat) : Int))), some (vI (((l : Nat) : Int) + (-1))), some (vI (((q : Nat) : Int) + 1)), some (vI (((L l : Nat) : Int)))]) dX4_find_181 rfl (Nat.le_of_ble_eq_true rfl) rfl ?_
            refine Ev.goto (tgt := 57) dX4_find_184 (by decide) ?_
            refine Ev.wk (pl' := [some (vR (266)), some (vR (rg)), some (vI (((U : Nat) : Int))), some (vR (3)), some (vL (((w : Nat) : Int))), none, some (vI (((most : Nat) : Int))), some (vI (((chN X U : Nat) : Int))), some (vI (((fd : Nat) : Int))), some (vI ((((l : Nat)) : Int) - 1)), some (vI ((((q + 1) : Nat) : Int))), none]) ⟨rfl, ⟨rfl, ⟨rfl, ⟨rfl, ⟨rfl, ⟨rfl, ⟨rfl, ⟨rfl, ⟨vIe (by omega), ⟨vIe (by omega), trivial⟩⟩⟩⟩⟩⟩⟩⟩⟩⟩ ?_
            exact ih (q + 1) (by omega) τ l fd A L hF hOp hDu hA (fun k hk => hL k (by omega)) (hD.shut (by omega)) (by have := @phi_pop X op (chN X U) l L; omega) hfm hls

set_option maxRecDepth 100000 in
set_option maxHeartbeats 4000000 in
theorem s4_find {g : GC} (σ : Sg) (U : Nat) (hU : U ≤ 10) (X : Rg) (rg : Nat) (hg : rg < 298) (hgs : sh0 rg = (1, 10)) (hgn : rg ∉ SK) (hX : AV σ rg U X) (Rf : Nat → RC) (w : Nat) (hw : w < 65536) (hC : ∀ r, r < 16 → w.testBit r = true → CR σ r (Rf r) ∧ WR U (Rf r)) (T : Tb) (hT : TVc σ T) (most : Nat) (hmo : 1 ≤ most ∧ most ≤ 20000) (hwy : wys X U ≤ 20000) : Ev g mX4_find 0 [some (vR (266)), some (vR (rg)), some (vI (((U : Nat) : Int))), some (vR (3)), some (vL (((w : Nat) : Int))), none, some (vI (((most : Nat) : Int))), none, none, none, none, none] [] (M0 (σ)) 0 0 (retE (FindP σ U T (16, Rf, fun r => w.testBit r = true) X most)) := by
  have hNE : NEm U X := fun x hx => (hX x hx).2
  have hcU := chN_le X U
  refine Ev.aload_n dX4_find_0 rfl rfl ?_
  refine Ev.aload_n dX4_find_1 rfl rfl ?_
  refine Ev.iload_n dX4_find_2 rfl rfl ?_
  refine Ev.aload_n dX4_find_3 rfl rfl ?_
  refine Ev.lload dX4_find_4 rfl ?_
  refine Ev.callV_G (M2 := mX4_arrange) (args2 := [vR (rg), vI (((U : Nat) : Int)), vR (3), vL (((w : Nat) : Int))]) (rcv := 266) (q := (RX4, TX4, 6)) (ci := 4) dX4_find_6 okX4_arrange lk_X4_32 ovX4_arrange.1.1 ovX4_arrange.1.2 ovX4_arrange.2 (by decide) rfl rfl ltc_266 shc_266 rfl (Nat.le_of_ble_eq_true rfl) (Nat.le_of_ble_eq_true rfl) (s4_arrange σ U hU X rg hg hgs hgn hX Rf w hw hC) (fun v_ m_ hp_ => ?_) rfl
  obtain ⟨_, τ, rfl, rfl, rfl, hF, hN, ⟨op, hop, hOp⟩, hDu⟩ := hp_
  show Ev g mX4_find 9 [some (vR (266)), some (vR (rg)), some (vI (((U : Nat) : Int))), some (vR (3)), some (vL (((w : Nat) : Int))), none, some (vI (((most : Nat) : Int))), none, none, none, none, none] [vI (((chN X U : Nat) : Int))] (M0 (τ)) 0 0 _
  refine Ev.istore (pl' := [some (vR (266)), some (vR (rg)), some (vI (((U : Nat) : Int))), some (vR (3)), some (vL (((w : Nat) : Int))), none, some (vI (((most : Nat) : Int))), some (vI (((chN X U : Nat) : Int))), none, none, none, none]) dX4_find_9 (Nat.le_of_ble_eq_true rfl) rfl ?_
  refine Ev.aload_n dX4_find_11 rfl rfl ?_
  refine Ev.aload_n dX4_find_12 rfl rfl ?_
  refine Ev.aload_n dX4_find_13 rfl rfl ?_
  refine gf_X4_24 rfl dX4_find_14 ltc_266 shc_266 rfc_266_5 ?_
  refine Ev.iconst dX4_find_17 ?_
  refine Ev.laload (v := ((duM Rf w X 16 0 : Nat) : Int)) dX4_find_18 ltc_271 shc_271 (by decide) (by omega) (by omega) (ldx rfl (hDu 0 (by omega))) ?_
  refine Ev.callV_I (M2 := mX4_allFit) (args2 := [vR (3), vL (((duM Rf w X 16 0 : Nat) : Int))]) (rcv := 266) (q := (RX4, TX4, 6)) (ci := 4) dX4_find_19 okX4_allFit lk_X4_36 ovX4_allFit.1.1 ovX4_allFit.1.2 ovX4_allFit.2 (by decide) rfl rfl ltc_266 shc_266 rfl (Nat.le_of_ble_eq_true rfl) (Nat.le_of_ble_eq_true rfl) (s4_allFit τ U T (hT.same hF (fun c h1 h2 => nSK (by omega))) Rf w (fun r hr hb => ⟨(hC r hr hb).1.same hF (fun j hj => nSK (by omega)), (hC r hr hb).2⟩) (fun x => lo (X x)) (fun x hx => ⟨hN x hx, lo_lt (hNE x hx).2 (hNE x hx).1⟩) (duM Rf w X 16 0) (fun r hr => (duM_tb.mp hr).2.1) (duM_lt (by decide))) ?_ rfl
  refine Ev.if_ne (tgt := 27) bI_inR dX4_find_22 (by decide) (fun h22 => ?_) (fun h22 => ?_)
  · skip
    refine Ev.iload dX4_find_27 rfl ?_
    refine Ev.if_ne (tgt := 34) ⟨by omega, by omega⟩ dX4_find_29 (by decide) (fun h29 => ?_) (fun h29 => ?_)
    · skip
      have hK : 0 < chN X U := by omega
      have hol := hop.at hK
      refine Ev.iconst dX4_find_34 ?_
      refine Ev.istore (pl' := [some (vR (266)), some (vR (rg)), some (vI (((U : Nat) : Int))), some (vR (3)), some (vL (((w : Nat) : Int))), none, some (vI (((most : Nat) : Int))), some (vI (((chN X U : Nat) : Int))), some (vI (0)), none, none, none]) dX4_find_35 (Nat.le_of_ble_eq_true rfl) rfl ?_
      refine Ev.iconst dX4_find_37 ?_
      refine Ev.istore (pl' := [some (vR (266)), some (vR (rg)), some (vI (((U : Nat) : Int))), some (vR (3)), some (vL (((w : Nat) : Int))), none, some (vI (((most : Nat) : Int))), some (vI (((chN X U : Nat) : Int))), some (vI (0)), some (vI (0)), none, none]) dX4_find_38 (Nat.le_of_ble_eq_true rfl) rfl ?_
      refine Ev.aload_n dX4_find_40 rfl rfl ?_
      refine gf_X4_18 rfl dX4_find_41 ltc_266 shc_266 rfc_266_3 ?_
      refine Ev.iconst dX4_find_44 ?_
      refine Ev.aload_n dX4_find_45 rfl rfl ?_
      refine Ev.aload_n dX4_find_46 rfl rfl ?_
      refine gf_X4_15 rfl dX4_find_47 ltc_266 shc_266 rfc_266_2 ?_
      refine Ev.iconst dX4_find_50 ?_
      refine Ev.iaload (v := ((op 0 : Nat) : Int)) dX4_find_51 ltc_268 shc_268 (by decide) (by omega) (by omega) (ldx rfl (hOp 0 hK)) ?_
      refine Ev.iaload (v := ((X (op 0) : Nat) : Int)) dX4_find_52 hg hgs (by decide) (by omega) (Int.ofNat_lt.mpr (Nat.lt_of_lt_of_le hol.1 hU)) (ldx rfl ((congrFun (hF rg hgn) _).trans (hX _ hol.1).1)) ?_
      refine Ev.iastore dX4_find_53 ltc_269 shc_269 (by decide) (by omega) (by omega) ?_
      refine Ev.mem (τ := upC τ 269 0 (X (op 0) : Int)) rfl ?_
      refine Ev.iconst dX4_find_54 ?_
      refine Ev.istore (pl' := [some (vR (266)), some (vR (rg)), some (vI (((U : Nat) : Int))), some (vR (3)), some (vL (((w : Nat) : Int))), none, some (vI (((most : Nat) : Int))), some (vI (((chN X U : Nat) : Int))), some (vI (0)), some (vI (0)), some (vI (0)), none]) dX4_find_55 (Nat.le_of_ble_eq_true rfl) rfl ?_
      refine Ev.wk (pl' := [some (vR (266)), some (vR (rg)), some (vI (((U : Nat) : Int))), some (vR (3)), some (vL (((w : Nat) : Int))), none, some (vI (((most : Nat) : Int))), some (vI (((chN X U : Nat) : Int))), some (vI (((0 : Nat) : Int))), some (vI ((((1 : Nat)) : Int) - 1)), some (vI (((0 : Nat) : Int))), none]) ⟨rfl, ⟨rfl, ⟨rfl, ⟨rfl, ⟨rfl, ⟨rfl, ⟨rfl, ⟨vIe rfl, ⟨vIe rfl, ⟨vIe rfl, trivial⟩⟩⟩⟩⟩⟩⟩⟩⟩⟩ ?_
      exact (s4_find_l σ U hU X rg hg hgs hgn hX Rf w hw hC T hT most hmo hwy op hop hNE 80001 0 (by omega) (upC τ 269 0 (X (op 0) : Int)) 1 0 (fun x => lo (X x)) (fun _ => X (op 0)) (hF.up (by decide)) (fun k hk => by rw [upC_ne (by decide)]; exact hOp k hk) (fun k hk => by rw [upC_ne (by decide)]; exact hDu k hk) (fun k hk => by rw [upC_ne (by decide)]; exact hN k hk) (fun k hk => by rw [show k = 0 by omega]; exact upC_at) (Dfs.start (S := (16, Rf, fun r => w.testBit r = true)) hNE hop hK (fun _ _ => rfl) (fun r hr hd => bI_1.mp h22 r (duM_tb.mpr ⟨hr, hd⟩))) (phi_start hNE hop hK hwy) (by omega) (fun _ h => absurd rfl h))
    · skip
      refine Ev.iconst dX4_find_32 ?_
      exact Ev.ireturn dX4_find_33 rfl (rE (by have h1 := ans_one (S := (16, Rf, fun r => w.testBit r = true)) (T := T) (A := fun x => lo (X x)) (fun r hr hb => (hC r hr hb).2) hNE (show chN X U = 0 by omega) (fun _ _ => rfl) (fun r hr hd => bI_1.mp h22 r (duM_tb.mpr ⟨hr, hd⟩)); exact FindP.of (A := fun x => lo (X x)) (fd := 1) hNE hF hN (by rw [h1.1]; omega) (fun _ _ => h1.2)))
  · skip
    refine Ev.iconst dX4_find_25 ?_
    exact Ev.ireturn dX4_find_26 rfl (rE (FindP.of (A := fun x => lo (X x)) (fd := 0) hNE hF hN (by rw [ans_none (S := (16, Rf, fun r => w.testBit r = true)) (fun r hr hb => (hC r hr hb).2) hNE hop (A := fun x => lo (X x)) (fun _ _ => rfl) (fun z => bI_0.mp h22 (fun r hr => z r (duM_tb.mp hr).1 (duM_tb.mp hr).2))]; omega) (fun _ h => absurd rfl h)))

