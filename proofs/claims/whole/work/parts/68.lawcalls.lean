/-! THE LAW: each call -/
theorem Ev.icmp_same {g : GC} {M : MD} {pc : Nat} {pl : List (Option PV)} {st : List PV} {m : Mem} {nc ns : Nat} {Post : Option PV → Mem → Prop} {x : Int} {off : Int} {tgt : Nat} (hd : decode M.2.1 pc = .ok (.if_icmp .eq off, 3)) (ht : (pc : Int) + off = (tgt : Int)) (kt : Ev g M tgt pl st m nc ns Post) : Ev g M pc pl (vI x :: vI x :: st) m nc ns Post := by
  intro p e R s mi args below meth c C H locs cells slots ls Q hc hs' hR hS hl hk
  exact lv_icmp_eq C.1 C.2.1 hd ht (fun _ => kt p e R s mi args below meth c C H locs cells slots ls Q hc hs' hR hS hl hk) (fun h => absurd rfl h)
/-- an int of the script -/
def sc (g : GC) (j : Nat) : Int := (g.2.2.2.2.2.2 j).toInt
theorem sc_at {g : GC} {j : Int} {n : Nat} (h : j = (n : Int)) : (g.2.2.2.2.2.2 j.toNat).toInt = sc g n := by subst h; rfl
theorem sc_inR {g : GC} {j : Nat} : inR (sc g j) := ⟨Int32.le_toInt _, Int32.toInt_le _⟩
set_option maxRecDepth 100000 in
set_option maxHeartbeats 4000000 in
theorem law_0 {g : GC} (hL : g.2.2.2.2.2.1 ≤ 3072) (i : Nat) (hi : (i : Int) + 6 ≤ g.2.2.2.2.2.1) (s : SS) (σ : Sg) (hC : CI s σ) (hM : MI s σ) {Post : Option PV → Mem → Prop} (hgo : ∀ (s2 : SS) (ρ : Sg), CI s2 ρ → MI s2 ρ → Ev g mL_law 1224 [some (vS), some (vR (0)), some (vR (272)), some (vI (((i : Nat) : Int)))] [] (M0 (ρ)) 0 0 Post) : Ev g mL_law 176 [some (vS), some (vR (0)), some (vR (272)), some (vI (((i : Nat) : Int)))] [] (M0 (σ)) 0 0 (Post) := by
  refine Ev.aload_n dL_law_176 rfl rfl ?_
  refine Ev.aloadS dL_law_177 rfl rfl ?_
  refine Ev.iload_n dL_law_178 rfl rfl ?_
  refine Ev.iconst dL_law_179 ?_
  refine Ev.iadd dL_law_180 ?_
  refine Ev.sload (v := (sc g (i + 1))) rfl dL_law_181 (by omega) (by omega) (by omega) (sc_at (by omega)) ?_
  refine Ev.aloadS dL_law_182 rfl rfl ?_
  refine Ev.iload_n dL_law_183 rfl rfl ?_
  refine Ev.iconst dL_law_184 ?_
  refine Ev.iadd dL_law_185 ?_
  refine Ev.sload (v := (sc g (i + 2))) rfl dL_law_186 (by omega) (by omega) (by omega) (sc_at (by omega)) ?_
  refine Ev.callV_G (M2 := mX7_unknown) (args2 := [vI ((sc g (i + 1))), vI ((sc g (i + 2)))]) (rcv := 0) (q := (RX7, TX7, 20)) (ci := 7) dL_law_187 okX7_unknown (tbl_i 258 (by decide +kernel)) ovX7_unknown.1.1 ovX7_unknown.1.2 ovX7_unknown.2 (by decide) rfl rfl ltc_0 shc_0 rfl (Nat.le_of_ble_eq_true rfl) (Nat.le_of_ble_eq_true rfl) (c_unknown s σ hC ((sc g (i + 1))) sc_inR ((sc g (i + 2))) sc_inR) (fun v_ m_ hp_ => ?_) rfl
  obtain ⟨v, τ, rfl, rfl, hv, hC2, hk⟩ := hp_
  have hM2 := hM.keep hk
  show Ev g mL_law 190 [some (vS), some (vR (0)), some (vR (272)), some (vI (((i : Nat) : Int)))] [vI (v)] (M0 (τ)) 0 0 _
  refine Ev.aload_n dL_law_190 rfl rfl ?_
  refine Ev.aloadS dL_law_191 rfl rfl ?_
  refine Ev.iload_n dL_law_192 rfl rfl ?_
  refine Ev.iconst dL_law_193 ?_
  refine Ev.iadd dL_law_194 ?_
  refine Ev.sload (v := (sc g (i + 1))) rfl dL_law_195 (by omega) (by omega) (by omega) (sc_at (by omega)) ?_
  refine Ev.aloadS dL_law_196 rfl rfl ?_
  refine Ev.iload_n dL_law_197 rfl rfl ?_
  refine Ev.iconst dL_law_198 ?_
  refine Ev.iadd dL_law_199 ?_
  refine Ev.sload (v := (sc g (i + 2))) rfl dL_law_200 (by omega) (by omega) (by omega) (sc_at (by omega)) ?_
  refine Ev.callV_G (M2 := mX8_unknown) (args2 := [vI ((sc g (i + 1))), vI ((sc g (i + 2)))]) (rcv := 272) (q := (RX8, TX8, 34)) (ci := 8) dL_law_201 okX8_unknown (tbl_i 792 (by decide +kernel)) ovX8_unknown.1.1 ovX8_unknown.1.2 ovX8_unknown.2 (by decide) rfl rfl ltc_272 shc_272 rfl (Nat.le_of_ble_eq_true rfl) (Nat.le_of_ble_eq_true rfl) (r_unknown s τ hM2 ((sc g (i + 1))) sc_inR ((sc g (i + 2))) sc_inR) (fun v_ m_ hp_ => ?_) rfl
  obtain ⟨w, ρ, rfl, rfl, hw, hM3, hk2⟩ := hp_
  have hC3 := hC2.keep hk2
  show Ev g mL_law 204 [some (vS), some (vR (0)), some (vR (272)), some (vI (((i : Nat) : Int)))] [vI (w), vI (v)] (M0 (ρ)) 0 0 _
  obtain rfl : w = v := hw.trans hv.symm
  refine Ev.icmp_same (tgt := 1224) dL_law_204 (by decide) ?_
  exact hgo _ ρ hC3 hM3

set_option maxRecDepth 100000 in
set_option maxHeartbeats 4000000 in
theorem law_1 {g : GC} (hL : g.2.2.2.2.2.1 ≤ 3072) (i : Nat) (hi : (i : Int) + 6 ≤ g.2.2.2.2.2.1) (s : SS) (σ : Sg) (hC : CI s σ) (hM : MI s σ) {Post : Option PV → Mem → Prop} (hgo : ∀ (s2 : SS) (ρ : Sg), CI s2 ρ → MI s2 ρ → Ev g mL_law 1224 [some (vS), some (vR (0)), some (vR (272)), some (vI (((i : Nat) : Int)))] [] (M0 (ρ)) 0 0 Post) : Ev g mL_law 209 [some (vS), some (vR (0)), some (vR (272)), some (vI (((i : Nat) : Int)))] [] (M0 (σ)) 0 0 (Post) := by
  refine Ev.aload_n dL_law_209 rfl rfl ?_
  refine Ev.aloadS dL_law_210 rfl rfl ?_
  refine Ev.iload_n dL_law_211 rfl rfl ?_
  refine Ev.iconst dL_law_212 ?_
  refine Ev.iadd dL_law_213 ?_
  refine Ev.sload (v := (sc g (i + 1))) rfl dL_law_214 (by omega) (by omega) (by omega) (sc_at (by omega)) ?_
  refine Ev.aloadS dL_law_215 rfl rfl ?_
  refine Ev.iload_n dL_law_216 rfl rfl ?_
  refine Ev.iconst dL_law_217 ?_
  refine Ev.iadd dL_law_218 ?_
  refine Ev.sload (v := (sc g (i + 2))) rfl dL_law_219 (by omega) (by omega) (by omega) (sc_at (by omega)) ?_
  refine Ev.callV_G (M2 := mX7_hole) (args2 := [vI ((sc g (i + 1))), vI ((sc g (i + 2)))]) (rcv := 0) (q := (RX7, TX7, 20)) (ci := 7) dL_law_220 okX7_hole (tbl_i 272 (by decide +kernel)) ovX7_hole.1.1 ovX7_hole.1.2 ovX7_hole.2 (by decide) rfl rfl ltc_0 shc_0 rfl (Nat.le_of_ble_eq_true rfl) (Nat.le_of_ble_eq_true rfl) (c_hole s σ hC ((sc g (i + 1))) sc_inR ((sc g (i + 2))) sc_inR) (fun v_ m_ hp_ => ?_) rfl
  obtain ⟨v, τ, rfl, rfl, hv, hC2, hk⟩ := hp_
  have hM2 := hM.keep hk
  show Ev g mL_law 223 [some (vS), some (vR (0)), some (vR (272)), some (vI (((i : Nat) : Int)))] [vI (v)] (M0 (τ)) 0 0 _
  refine Ev.aload_n dL_law_223 rfl rfl ?_
  refine Ev.aloadS dL_law_224 rfl rfl ?_
  refine Ev.iload_n dL_law_225 rfl rfl ?_
  refine Ev.iconst dL_law_226 ?_
  refine Ev.iadd dL_law_227 ?_
  refine Ev.sload (v := (sc g (i + 1))) rfl dL_law_228 (by omega) (by omega) (by omega) (sc_at (by omega)) ?_
  refine Ev.aloadS dL_law_229 rfl rfl ?_
  refine Ev.iload_n dL_law_230 rfl rfl ?_
  refine Ev.iconst dL_law_231 ?_
  refine Ev.iadd dL_law_232 ?_
  refine Ev.sload (v := (sc g (i + 2))) rfl dL_law_233 (by omega) (by omega) (by omega) (sc_at (by omega)) ?_
  refine Ev.callV_G (M2 := mX8_hole) (args2 := [vI ((sc g (i + 1))), vI ((sc g (i + 2)))]) (rcv := 272) (q := (RX8, TX8, 34)) (ci := 8) dL_law_234 okX8_hole (tbl_i 808 (by decide +kernel)) ovX8_hole.1.1 ovX8_hole.1.2 ovX8_hole.2 (by decide) rfl rfl ltc_272 shc_272 rfl (Nat.le_of_ble_eq_true rfl) (Nat.le_of_ble_eq_true rfl) (r_hole s τ hM2 ((sc g (i + 1))) sc_inR ((sc g (i + 2))) sc_inR) (fun v_ m_ hp_ => ?_) rfl
  obtain ⟨w, ρ, rfl, rfl, hw, hM3, hk2⟩ := hp_
  have hC3 := hC2.keep hk2
  show Ev g mL_law 237 [some (vS), some (vR (0)), some (vR (272)), some (vI (((i : Nat) : Int)))] [vI (w), vI (v)] (M0 (ρ)) 0 0 _
  obtain rfl : w = v := hw.trans hv.symm
  refine Ev.icmp_same (tgt := 1224) dL_law_237 (by decide) ?_
  exact hgo _ ρ hC3 hM3

set_option maxRecDepth 100000 in
set_option maxHeartbeats 4000000 in
theorem law_2 {g : GC} (hL : g.2.2.2.2.2.1 ≤ 3072) (i : Nat) (hi : (i : Int) + 6 ≤ g.2.2.2.2.2.1) (s : SS) (σ : Sg) (hC : CI s σ) (hM : MI s σ) {Post : Option PV → Mem → Prop} (hgo : ∀ (s2 : SS) (ρ : Sg), CI s2 ρ → MI s2 ρ → Ev g mL_law 1224 [some (vS), some (vR (0)), some (vR (272)), some (vI (((i : Nat) : Int)))] [] (M0 (ρ)) 0 0 Post) : Ev g mL_law 242 [some (vS), some (vR (0)), some (vR (272)), some (vI (((i : Nat) : Int)))] [] (M0 (σ)) 0 0 (Post) := by
  refine Ev.aload_n dL_law_242 rfl rfl ?_
  refine Ev.aloadS dL_law_243 rfl rfl ?_
  refine Ev.iload_n dL_law_244 rfl rfl ?_
  refine Ev.iconst dL_law_245 ?_
  refine Ev.iadd dL_law_246 ?_
  refine Ev.sload (v := (sc g (i + 1))) rfl dL_law_247 (by omega) (by omega) (by omega) (sc_at (by omega)) ?_
  refine Ev.aloadS dL_law_248 rfl rfl ?_
  refine Ev.iload_n dL_law_249 rfl rfl ?_
  refine Ev.iconst dL_law_250 ?_
  refine Ev.iadd dL_law_251 ?_
  refine Ev.sload (v := (sc g (i + 2))) rfl dL_law_252 (by omega) (by omega) (by omega) (sc_at (by omega)) ?_
  refine Ev.aloadS dL_law_253 rfl rfl ?_
  refine Ev.iload_n dL_law_254 rfl rfl ?_
  refine Ev.iconst dL_law_255 ?_
  refine Ev.iadd dL_law_256 ?_
  refine Ev.sload (v := (sc g (i + 3))) rfl dL_law_257 (by omega) (by omega) (by omega) (sc_at (by omega)) ?_
  refine Ev.callV_G (M2 := mX7_rule) (args2 := [vI ((sc g (i + 1))), vI ((sc g (i + 2))), vI ((sc g (i + 3)))]) (rcv := 0) (q := (RX7, TX7, 20)) (ci := 7) dL_law_258 okX7_rule (tbl_i 289 (by decide +kernel)) ovX7_rule.1.1 ovX7_rule.1.2 ovX7_rule.2 (by decide) rfl rfl ltc_0 shc_0 rfl (Nat.le_of_ble_eq_true rfl) (Nat.le_of_ble_eq_true rfl) (c_rule s σ hC ((sc g (i + 1))) sc_inR ((sc g (i + 2))) sc_inR ((sc g (i + 3))) sc_inR) (fun v_ m_ hp_ => ?_) rfl
  obtain ⟨v, τ, rfl, rfl, hv, hC2, hk⟩ := hp_
  have hM2 := hM.keep hk
  show Ev g mL_law 261 [some (vS), some (vR (0)), some (vR (272)), some (vI (((i : Nat) : Int)))] [vI (v)] (M0 (τ)) 0 0 _
  refine Ev.aload_n dL_law_261 rfl rfl ?_
  refine Ev.aloadS dL_law_262 rfl rfl ?_
  refine Ev.iload_n dL_law_263 rfl rfl ?_
  refine Ev.iconst dL_law_264 ?_
  refine Ev.iadd dL_law_265 ?_
  refine Ev.sload (v := (sc g (i + 1))) rfl dL_law_266 (by omega) (by omega) (by omega) (sc_at (by omega)) ?_
  refine Ev.aloadS dL_law_267 rfl rfl ?_
  refine Ev.iload_n dL_law_268 rfl rfl ?_
  refine Ev.iconst dL_law_269 ?_
  refine Ev.iadd dL_law_270 ?_
  refine Ev.sload (v := (sc g (i + 2))) rfl dL_law_271 (by omega) (by omega) (by omega) (sc_at (by omega)) ?_
  refine Ev.aloadS dL_law_272 rfl rfl ?_
  refine Ev.iload_n dL_law_273 rfl rfl ?_
  refine Ev.iconst dL_law_274 ?_
  refine Ev.iadd dL_law_275 ?_
  refine Ev.sload (v := (sc g (i + 3))) rfl dL_law_276 (by omega) (by omega) (by omega) (sc_at (by omega)) ?_
  refine Ev.callV_G (M2 := mX8_rule) (args2 := [vI ((sc g (i + 1))), vI ((sc g (i + 2))), vI ((sc g (i + 3)))]) (rcv := 272) (q := (RX8, TX8, 34)) (ci := 8) dL_law_277 okX8_rule (tbl_i 819 (by decide +kernel)) ovX8_rule.1.1 ovX8_rule.1.2 ovX8_rule.2 (by decide) rfl rfl ltc_272 shc_272 rfl (Nat.le_of_ble_eq_true rfl) (Nat.le_of_ble_eq_true rfl) (r_rule s τ hM2 ((sc g (i + 1))) sc_inR ((sc g (i + 2))) sc_inR ((sc g (i + 3))) sc_inR) (fun v_ m_ hp_ => ?_) rfl
  obtain ⟨w, ρ, rfl, rfl, hw, hM3, hk2⟩ := hp_
  have hC3 := hC2.keep hk2
  show Ev g mL_law 280 [some (vS), some (vR (0)), some (vR (272)), some (vI (((i : Nat) : Int)))] [vI (w), vI (v)] (M0 (ρ)) 0 0 _
  obtain rfl : w = v := hw.trans hv.symm
  refine Ev.icmp_same (tgt := 1224) dL_law_280 (by decide) ?_
  exact hgo _ ρ hC3 hM3

set_option maxRecDepth 100000 in
set_option maxHeartbeats 4000000 in
theorem law_3 {g : GC} (hL : g.2.2.2.2.2.1 ≤ 3072) (i : Nat) (hi : (i : Int) + 6 ≤ g.2.2.2.2.2.1) (s : SS) (σ : Sg) (hC : CI s σ) (hM : MI s σ) {Post : Option PV → Mem → Prop} (hgo : ∀ (s2 : SS) (ρ : Sg), CI s2 ρ → MI s2 ρ → Ev g mL_law 1224 [some (vS), some (vR (0)), some (vR (272)), some (vI (((i : Nat) : Int)))] [] (M0 (ρ)) 0 0 Post) : Ev g mL_law 285 [some (vS), some (vR (0)), some (vR (272)), some (vI (((i : Nat) : Int)))] [] (M0 (σ)) 0 0 (Post) := by
  refine Ev.aload_n dL_law_285 rfl rfl ?_
  refine Ev.aloadS dL_law_286 rfl rfl ?_
  refine Ev.iload_n dL_law_287 rfl rfl ?_
  refine Ev.iconst dL_law_288 ?_
  refine Ev.iadd dL_law_289 ?_
  refine Ev.sload (v := (sc g (i + 1))) rfl dL_law_290 (by omega) (by omega) (by omega) (sc_at (by omega)) ?_
  refine Ev.aloadS dL_law_291 rfl rfl ?_
  refine Ev.iload_n dL_law_292 rfl rfl ?_
  refine Ev.iconst dL_law_293 ?_
  refine Ev.iadd dL_law_294 ?_
  refine Ev.sload (v := (sc g (i + 2))) rfl dL_law_295 (by omega) (by omega) (by omega) (sc_at (by omega)) ?_
  refine Ev.aloadS dL_law_296 rfl rfl ?_
  refine Ev.iload_n dL_law_297 rfl rfl ?_
  refine Ev.iconst dL_law_298 ?_
  refine Ev.iadd dL_law_299 ?_
  refine Ev.sload (v := (sc g (i + 3))) rfl dL_law_300 (by omega) (by omega) (by omega) (sc_at (by omega)) ?_
  refine Ev.aloadS dL_law_301 rfl rfl ?_
  refine Ev.iload_n dL_law_302 rfl rfl ?_
  refine Ev.iconst dL_law_303 ?_
  refine Ev.iadd dL_law_304 ?_
  refine Ev.sload (v := (sc g (i + 4))) rfl dL_law_305 (by omega) (by omega) (by omega) (sc_at (by omega)) ?_
  refine Ev.callV_G (M2 := mX7_part) (args2 := [vI ((sc g (i + 1))), vI ((sc g (i + 2))), vI ((sc g (i + 3))), vI ((sc g (i + 4)))]) (rcv := 0) (q := (RX7, TX7, 20)) (ci := 7) dL_law_306 okX7_part (tbl_i 300 (by decide +kernel)) ovX7_part.1.1 ovX7_part.1.2 ovX7_part.2 (by decide) rfl rfl ltc_0 shc_0 rfl (Nat.le_of_ble_eq_true rfl) (Nat.le_of_ble_eq_true rfl) (c_part s σ hC ((sc g (i + 1))) sc_inR ((sc g (i + 2))) sc_inR ((sc g (i + 3))) sc_inR ((sc g (i + 4))) sc_inR) (fun v_ m_ hp_ => ?_) rfl
  obtain ⟨v, τ, rfl, rfl, hv, hC2, hk⟩ := hp_
  have hM2 := hM.keep hk
  show Ev g mL_law 309 [some (vS), some (vR (0)), some (vR (272)), some (vI (((i : Nat) : Int)))] [vI (v)] (M0 (τ)) 0 0 _
  refine Ev.aload_n dL_law_309 rfl rfl ?_
  refine Ev.aloadS dL_law_310 rfl rfl ?_
  refine Ev.iload_n dL_law_311 rfl rfl ?_
  refine Ev.iconst dL_law_312 ?_
  refine Ev.iadd dL_law_313 ?_
  refine Ev.sload (v := (sc g (i + 1))) rfl dL_law_314 (by omega) (by omega) (by omega) (sc_at (by omega)) ?_
  refine Ev.aloadS dL_law_315 rfl rfl ?_
  refine Ev.iload_n dL_law_316 rfl rfl ?_
  refine Ev.iconst dL_law_317 ?_
  refine Ev.iadd dL_law_318 ?_
  refine Ev.sload (v := (sc g (i + 2))) rfl dL_law_319 (by omega) (by omega) (by omega) (sc_at (by omega)) ?_
  refine Ev.aloadS dL_law_320 rfl rfl ?_
  refine Ev.iload_n dL_law_321 rfl rfl ?_
  refine Ev.iconst dL_law_322 ?_
  refine Ev.iadd dL_law_323 ?_
  refine Ev.sload (v := (sc g (i + 3))) rfl dL_law_324 (by omega) (by omega) (by omega) (sc_at (by omega)) ?_
  refine Ev.aloadS dL_law_325 rfl rfl ?_
  refine Ev.iload_n dL_law_326 rfl rfl ?_
  refine Ev.iconst dL_law_327 ?_
  refine Ev.iadd dL_law_328 ?_
  refine Ev.sload (v := (sc g (i + 4))) rfl dL_law_329 (by omega) (by omega) (by omega) (sc_at (by omega)) ?_
  refine Ev.callV_G (M2 := mX8_part) (args2 := [vI ((sc g (i + 1))), vI ((sc g (i + 2))), vI ((sc g (i + 3))), vI ((sc g (i + 4)))]) (rcv := 272) (q := (RX8, TX8, 34)) (ci := 8) dL_law_330 okX8_part (tbl_i 828 (by decide +kernel)) ovX8_part.1.1 ovX8_part.1.2 ovX8_part.2 (by decide) rfl rfl ltc_272 shc_272 rfl (Nat.le_of_ble_eq_true rfl) (Nat.le_of_ble_eq_true rfl) (r_part s τ hM2 ((sc g (i + 1))) sc_inR ((sc g (i + 2))) sc_inR ((sc g (i + 3))) sc_inR ((sc g (i + 4))) sc_inR) (fun v_ m_ hp_ => ?_) rfl
  obtain ⟨w, ρ, rfl, rfl, hw, hM3, hk2⟩ := hp_
  have hC3 := hC2.keep hk2
  show Ev g mL_law 333 [some (vS), some (vR (0)), some (vR (272)), some (vI (((i : Nat) : Int)))] [vI (w), vI (v)] (M0 (ρ)) 0 0 _
  obtain rfl : w = v := hw.trans hv.symm
  refine Ev.icmp_same (tgt := 1224) dL_law_333 (by decide) ?_
  exact hgo _ ρ hC3 hM3

set_option maxRecDepth 100000 in
set_option maxHeartbeats 4000000 in
theorem law_4 {g : GC} (hL : g.2.2.2.2.2.1 ≤ 3072) (i : Nat) (hi : (i : Int) + 6 ≤ g.2.2.2.2.2.1) (s : SS) (σ : Sg) (hC : CI s σ) (hM : MI s σ) {Post : Option PV → Mem → Prop} (hgo : ∀ (s2 : SS) (ρ : Sg), CI s2 ρ → MI s2 ρ → Ev g mL_law 1224 [some (vS), some (vR (0)), some (vR (272)), some (vI (((i : Nat) : Int)))] [] (M0 (ρ)) 0 0 Post) : Ev g mL_law 338 [some (vS), some (vR (0)), some (vR (272)), some (vI (((i : Nat) : Int)))] [] (M0 (σ)) 0 0 (Post) := by
  refine Ev.aload_n dL_law_338 rfl rfl ?_
  refine Ev.aloadS dL_law_339 rfl rfl ?_
  refine Ev.iload_n dL_law_340 rfl rfl ?_
  refine Ev.iconst dL_law_341 ?_
  refine Ev.iadd dL_law_342 ?_
  refine Ev.sload (v := (sc g (i + 1))) rfl dL_law_343 (by omega) (by omega) (by omega) (sc_at (by omega)) ?_
  refine Ev.aloadS dL_law_344 rfl rfl ?_
  refine Ev.iload_n dL_law_345 rfl rfl ?_
  refine Ev.iconst dL_law_346 ?_
  refine Ev.iadd dL_law_347 ?_
  refine Ev.sload (v := (sc g (i + 2))) rfl dL_law_348 (by omega) (by omega) (by omega) (sc_at (by omega)) ?_
  refine Ev.aloadS dL_law_349 rfl rfl ?_
  refine Ev.iload_n dL_law_350 rfl rfl ?_
  refine Ev.iconst dL_law_351 ?_
  refine Ev.iadd dL_law_352 ?_
  refine Ev.sload (v := (sc g (i + 3))) rfl dL_law_353 (by omega) (by omega) (by omega) (sc_at (by omega)) ?_
  refine Ev.aloadS dL_law_354 rfl rfl ?_
  refine Ev.iload_n dL_law_355 rfl rfl ?_
  refine Ev.iconst dL_law_356 ?_
  refine Ev.iadd dL_law_357 ?_
  refine Ev.sload (v := (sc g (i + 4))) rfl dL_law_358 (by omega) (by omega) (by omega) (sc_at (by omega)) ?_
  refine Ev.callV_G (M2 := mX7_literal) (args2 := [vI ((sc g (i + 1))), vI ((sc g (i + 2))), vI ((sc g (i + 3))), vI ((sc g (i + 4)))]) (rcv := 0) (q := (RX7, TX7, 20)) (ci := 7) dL_law_359 okX7_literal (tbl_i 323 (by decide +kernel)) ovX7_literal.1.1 ovX7_literal.1.2 ovX7_literal.2 (by decide) rfl rfl ltc_0 shc_0 rfl (Nat.le_of_ble_eq_true rfl) (Nat.le_of_ble_eq_true rfl) (c_literal s σ hC ((sc g (i + 1))) sc_inR ((sc g (i + 2))) sc_inR ((sc g (i + 3))) sc_inR ((sc g (i + 4))) sc_inR) (fun v_ m_ hp_ => ?_) rfl
  obtain ⟨v, τ, rfl, rfl, hv, hC2, hk⟩ := hp_
  have hM2 := hM.keep hk
  show Ev g mL_law 362 [some (vS), some (vR (0)), some (vR (272)), some (vI (((i : Nat) : Int)))] [vI (v)] (M0 (τ)) 0 0 _
  refine Ev.aload_n dL_law_362 rfl rfl ?_
  refine Ev.aloadS dL_law_363 rfl rfl ?_
  refine Ev.iload_n dL_law_364 rfl rfl ?_
  refine Ev.iconst dL_law_365 ?_
  refine Ev.iadd dL_law_366 ?_
  refine Ev.sload (v := (sc g (i + 1))) rfl dL_law_367 (by omega) (by omega) (by omega) (sc_at (by omega)) ?_
  refine Ev.aloadS dL_law_368 rfl rfl ?_
  refine Ev.iload_n dL_law_369 rfl rfl ?_
  refine Ev.iconst dL_law_370 ?_
  refine Ev.iadd dL_law_371 ?_
  refine Ev.sload (v := (sc g (i + 2))) rfl dL_law_372 (by omega) (by omega) (by omega) (sc_at (by omega)) ?_
  refine Ev.aloadS dL_law_373 rfl rfl ?_
  refine Ev.iload_n dL_law_374 rfl rfl ?_
  refine Ev.iconst dL_law_375 ?_
  refine Ev.iadd dL_law_376 ?_
  refine Ev.sload (v := (sc g (i + 3))) rfl dL_law_377 (by omega) (by omega) (by omega) (sc_at (by omega)) ?_
  refine Ev.aloadS dL_law_378 rfl rfl ?_
  refine Ev.iload_n dL_law_379 rfl rfl ?_
  refine Ev.iconst dL_law_380 ?_
  refine Ev.iadd dL_law_381 ?_
  refine Ev.sload (v := (sc g (i + 4))) rfl dL_law_382 (by omega) (by omega) (by omega) (sc_at (by omega)) ?_
  refine Ev.callV_G (M2 := mX8_literal) (args2 := [vI ((sc g (i + 1))), vI ((sc g (i + 2))), vI ((sc g (i + 3))), vI ((sc g (i + 4)))]) (rcv := 272) (q := (RX8, TX8, 34)) (ci := 8) dL_law_383 okX8_literal (tbl_i 847 (by decide +kernel)) ovX8_literal.1.1 ovX8_literal.1.2 ovX8_literal.2 (by decide) rfl rfl ltc_272 shc_272 rfl (Nat.le_of_ble_eq_true rfl) (Nat.le_of_ble_eq_true rfl) (r_literal s τ hM2 ((sc g (i + 1))) sc_inR ((sc g (i + 2))) sc_inR ((sc g (i + 3))) sc_inR ((sc g (i + 4))) sc_inR) (fun v_ m_ hp_ => ?_) rfl
  obtain ⟨w, ρ, rfl, rfl, hw, hM3, hk2⟩ := hp_
  have hC3 := hC2.keep hk2
  show Ev g mL_law 386 [some (vS), some (vR (0)), some (vR (272)), some (vI (((i : Nat) : Int)))] [vI (w), vI (v)] (M0 (ρ)) 0 0 _
  obtain rfl : w = v := hw.trans hv.symm
  refine Ev.icmp_same (tgt := 1224) dL_law_386 (by decide) ?_
  exact hgo _ ρ hC3 hM3

set_option maxRecDepth 100000 in
set_option maxHeartbeats 4000000 in
theorem law_5 {g : GC} (hL : g.2.2.2.2.2.1 ≤ 3072) (i : Nat) (hi : (i : Int) + 6 ≤ g.2.2.2.2.2.1) (s : SS) (σ : Sg) (hC : CI s σ) (hM : MI s σ) {Post : Option PV → Mem → Prop} (hgo : ∀ (s2 : SS) (ρ : Sg), CI s2 ρ → MI s2 ρ → Ev g mL_law 1224 [some (vS), some (vR (0)), some (vR (272)), some (vI (((i : Nat) : Int)))] [] (M0 (ρ)) 0 0 Post) : Ev g mL_law 391 [some (vS), some (vR (0)), some (vR (272)), some (vI (((i : Nat) : Int)))] [] (M0 (σ)) 0 0 (Post) := by
  refine Ev.aload_n dL_law_391 rfl rfl ?_
  refine Ev.aloadS dL_law_392 rfl rfl ?_
  refine Ev.iload_n dL_law_393 rfl rfl ?_
  refine Ev.iconst dL_law_394 ?_
  refine Ev.iadd dL_law_395 ?_
  refine Ev.sload (v := (sc g (i + 1))) rfl dL_law_396 (by omega) (by omega) (by omega) (sc_at (by omega)) ?_
  refine Ev.aloadS dL_law_397 rfl rfl ?_
  refine Ev.iload_n dL_law_398 rfl rfl ?_
  refine Ev.iconst dL_law_399 ?_
  refine Ev.iadd dL_law_400 ?_
  refine Ev.sload (v := (sc g (i + 2))) rfl dL_law_401 (by omega) (by omega) (by omega) (sc_at (by omega)) ?_
  refine Ev.if_eq (tgt := 409) sc_inR dL_law_402 (by decide) (fun h402 => ?_) (fun h402 => ?_)
  · skip
    refine Ev.iconst dL_law_409 ?_
    refine Ev.callV_G (M2 := mX7_stand) (args2 := [vI ((sc g (i + 1))), vI (0)]) (rcv := 0) (q := (RX7, TX7, 20)) (ci := 7) dL_law_410 okX7_stand (tbl_i 334 (by decide +kernel)) ovX7_stand.1.1 ovX7_stand.1.2 ovX7_stand.2 (by decide) rfl rfl ltc_0 shc_0 rfl (Nat.le_of_ble_eq_true rfl) (Nat.le_of_ble_eq_true rfl) (c_stand s σ hC ((sc g (i + 1))) sc_inR 0 ⟨by decide, by decide⟩) (fun v_ m_ hp_ => ?_) rfl
    obtain ⟨v, τ0, rfl, rfl, hv, hC2, hk⟩ := hp_
    have hM2 := hM.keep hk
    show Ev g mL_law 413 [some (vS), some (vR (0)), some (vR (272)), some (vI (((i : Nat) : Int)))] [vI (v)] (M0 (τ0)) 0 0 _
    refine Ev.aload_n dL_law_413 rfl rfl ?_
    refine Ev.aloadS dL_law_414 rfl rfl ?_
    refine Ev.iload_n dL_law_415 rfl rfl ?_
    refine Ev.iconst dL_law_416 ?_
    refine Ev.iadd dL_law_417 ?_
    refine Ev.sload (v := (sc g (i + 1))) rfl dL_law_418 (by omega) (by omega) (by omega) (sc_at (by omega)) ?_
    refine Ev.aloadS dL_law_419 rfl rfl ?_
    refine Ev.iload_n dL_law_420 rfl rfl ?_
    refine Ev.iconst dL_law_421 ?_
    refine Ev.iadd dL_law_422 ?_
    refine Ev.sload (v := (sc g (i + 2))) rfl dL_law_423 (by omega) (by omega) (by omega) (sc_at (by omega)) ?_
    refine Ev.if_eq (tgt := 431) sc_inR dL_law_424 (by decide) (fun h424 => ?_) (fun h424 => ?_)
    · skip
      refine Ev.iconst dL_law_431 ?_
      refine Ev.callV_G (M2 := mX8_stand) (args2 := [vI ((sc g (i + 1))), vI (0)]) (rcv := 272) (q := (RX8, TX8, 34)) (ci := 8) dL_law_432 okX8_stand (tbl_i 852 (by decide +kernel)) ovX8_stand.1.1 ovX8_stand.1.2 ovX8_stand.2 (by decide) rfl rfl ltc_272 shc_272 rfl (Nat.le_of_ble_eq_true rfl) (Nat.le_of_ble_eq_true rfl) (r_stand s τ0 hM2 ((sc g (i + 1))) sc_inR 0 ⟨by decide, by decide⟩ (Or.inl rfl)) (fun v_ m_ hp_ => ?_) rfl
      obtain ⟨w, ρ, rfl, rfl, hw, hM3, hk2⟩ := hp_
      have hC3 := hC2.keep hk2
      show Ev g mL_law 435 [some (vS), some (vR (0)), some (vR (272)), some (vI (((i : Nat) : Int)))] [vI (w), vI (v)] (M0 (ρ)) 0 0 _
      obtain rfl : w = v := hw.trans hv.symm
      refine Ev.icmp_same (tgt := 1224) dL_law_435 (by decide) ?_
      exact hgo _ ρ hC3 hM3
    · exact absurd h424 (by omega)
  · skip
    refine Ev.iconst dL_law_405 ?_
    refine Ev.goto (tgt := 410) dL_law_406 (by decide) ?_
    refine Ev.callV_G (M2 := mX7_stand) (args2 := [vI ((sc g (i + 1))), vI (1)]) (rcv := 0) (q := (RX7, TX7, 20)) (ci := 7) dL_law_410 okX7_stand (tbl_i 334 (by decide +kernel)) ovX7_stand.1.1 ovX7_stand.1.2 ovX7_stand.2 (by decide) rfl rfl ltc_0 shc_0 rfl (Nat.le_of_ble_eq_true rfl) (Nat.le_of_ble_eq_true rfl) (c_stand s σ hC ((sc g (i + 1))) sc_inR 1 ⟨by decide, by decide⟩) (fun v_ m_ hp_ => ?_) rfl
    obtain ⟨v, τ, rfl, rfl, hv, hC2, hk⟩ := hp_
    have hM2 := hM.keep hk
    show Ev g mL_law 413 [some (vS), some (vR (0)), some (vR (272)), some (vI (((i : Nat) : Int)))] [vI (v)] (M0 (τ)) 0 0 _
    refine Ev.aload_n dL_law_413 rfl rfl ?_
    refine Ev.aloadS dL_law_414 rfl rfl ?_
    refine Ev.iload_n dL_law_415 rfl rfl ?_
    refine Ev.iconst dL_law_416 ?_
    refine Ev.iadd dL_law_417 ?_
    refine Ev.sload (v := (sc g (i + 1))) rfl dL_law_418 (by omega) (by omega) (by omega) (sc_at (by omega)) ?_
    refine Ev.aloadS dL_law_419 rfl rfl ?_
    refine Ev.iload_n dL_law_420 rfl rfl ?_
    refine Ev.iconst dL_law_421 ?_
    refine Ev.iadd dL_law_422 ?_
    refine Ev.sload (v := (sc g (i + 2))) rfl dL_law_423 (by omega) (by omega) (by omega) (sc_at (by omega)) ?_
    refine Ev.if_eq (tgt := 431) sc_inR dL_law_424 (by decide) (fun h424 => ?_) (fun h424 => ?_)
    · exact absurd h424 (by omega)
    · skip
      refine Ev.iconst dL_law_427 ?_
      refine Ev.goto (tgt := 432) dL_law_428 (by decide) ?_
      refine Ev.callV_G (M2 := mX8_stand) (args2 := [vI ((sc g (i + 1))), vI (1)]) (rcv := 272) (q := (RX8, TX8, 34)) (ci := 8) dL_law_432 okX8_stand (tbl_i 852 (by decide +kernel)) ovX8_stand.1.1 ovX8_stand.1.2 ovX8_stand.2 (by decide) rfl rfl ltc_272 shc_272 rfl (Nat.le_of_ble_eq_true rfl) (Nat.le_of_ble_eq_true rfl) (r_stand s τ hM2 ((sc g (i + 1))) sc_inR 1 ⟨by decide, by decide⟩ (Or.inr rfl)) (fun v_ m_ hp_ => ?_) rfl
      obtain ⟨w, ρ, rfl, rfl, hw, hM3, hk2⟩ := hp_
      have hC3 := hC2.keep hk2
      show Ev g mL_law 435 [some (vS), some (vR (0)), some (vR (272)), some (vI (((i : Nat) : Int)))] [vI (w), vI (v)] (M0 (ρ)) 0 0 _
      obtain rfl : w = v := hw.trans hv.symm
      refine Ev.icmp_same (tgt := 1224) dL_law_435 (by decide) ?_
      exact hgo _ ρ hC3 hM3

set_option maxRecDepth 100000 in
set_option maxHeartbeats 4000000 in
theorem law_6 {g : GC} (hL : g.2.2.2.2.2.1 ≤ 3072) (i : Nat) (hi : (i : Int) + 6 ≤ g.2.2.2.2.2.1) (s : SS) (σ : Sg) (hC : CI s σ) (hM : MI s σ) {Post : Option PV → Mem → Prop} (hgo : ∀ (s2 : SS) (ρ : Sg), CI s2 ρ → MI s2 ρ → Ev g mL_law 1224 [some (vS), some (vR (0)), some (vR (272)), some (vI (((i : Nat) : Int)))] [] (M0 (ρ)) 0 0 Post) : Ev g mL_law 440 [some (vS), some (vR (0)), some (vR (272)), some (vI (((i : Nat) : Int)))] [] (M0 (σ)) 0 0 (Post) := by
  refine Ev.aload_n dL_law_440 rfl rfl ?_
  refine Ev.aloadS dL_law_441 rfl rfl ?_
  refine Ev.iload_n dL_law_442 rfl rfl ?_
  refine Ev.iconst dL_law_443 ?_
  refine Ev.iadd dL_law_444 ?_
  refine Ev.sload (v := (sc g (i + 1))) rfl dL_law_445 (by omega) (by omega) (by omega) (sc_at (by omega)) ?_
  refine Ev.aloadS dL_law_446 rfl rfl ?_
  refine Ev.iload_n dL_law_447 rfl rfl ?_
  refine Ev.iconst dL_law_448 ?_
  refine Ev.iadd dL_law_449 ?_
  refine Ev.sload (v := (sc g (i + 2))) rfl dL_law_450 (by omega) (by omega) (by omega) (sc_at (by omega)) ?_
  refine Ev.aloadS dL_law_451 rfl rfl ?_
  refine Ev.iload_n dL_law_452 rfl rfl ?_
  refine Ev.iconst dL_law_453 ?_
  refine Ev.iadd dL_law_454 ?_
  refine Ev.sload (v := (sc g (i + 3))) rfl dL_law_455 (by omega) (by omega) (by omega) (sc_at (by omega)) ?_
  refine Ev.callV_G (M2 := mX7_table) (args2 := [vI ((sc g (i + 1))), vI ((sc g (i + 2))), vI ((sc g (i + 3)))]) (rcv := 0) (q := (RX7, TX7, 20)) (ci := 7) dL_law_456 okX7_table (tbl_i 343 (by decide +kernel)) ovX7_table.1.1 ovX7_table.1.2 ovX7_table.2 (by decide) rfl rfl ltc_0 shc_0 rfl (Nat.le_of_ble_eq_true rfl) (Nat.le_of_ble_eq_true rfl) (c_table s σ hC ((sc g (i + 1))) sc_inR ((sc g (i + 2))) sc_inR ((sc g (i + 3))) sc_inR) (fun v_ m_ hp_ => ?_) rfl
  obtain ⟨v, τ, rfl, rfl, hv, hC2, hk⟩ := hp_
  have hM2 := hM.keep hk
  show Ev g mL_law 459 [some (vS), some (vR (0)), some (vR (272)), some (vI (((i : Nat) : Int)))] [vI (v)] (M0 (τ)) 0 0 _
  refine Ev.aload_n dL_law_459 rfl rfl ?_
  refine Ev.aloadS dL_law_460 rfl rfl ?_
  refine Ev.iload_n dL_law_461 rfl rfl ?_
  refine Ev.iconst dL_law_462 ?_
  refine Ev.iadd dL_law_463 ?_
  refine Ev.sload (v := (sc g (i + 1))) rfl dL_law_464 (by omega) (by omega) (by omega) (sc_at (by omega)) ?_
  refine Ev.aloadS dL_law_465 rfl rfl ?_
  refine Ev.iload_n dL_law_466 rfl rfl ?_
  refine Ev.iconst dL_law_467 ?_
  refine Ev.iadd dL_law_468 ?_
  refine Ev.sload (v := (sc g (i + 2))) rfl dL_law_469 (by omega) (by omega) (by omega) (sc_at (by omega)) ?_
  refine Ev.aloadS dL_law_470 rfl rfl ?_
  refine Ev.iload_n dL_law_471 rfl rfl ?_
  refine Ev.iconst dL_law_472 ?_
  refine Ev.iadd dL_law_473 ?_
  refine Ev.sload (v := (sc g (i + 3))) rfl dL_law_474 (by omega) (by omega) (by omega) (sc_at (by omega)) ?_
  refine Ev.callV_G (M2 := mX8_table) (args2 := [vI ((sc g (i + 1))), vI ((sc g (i + 2))), vI ((sc g (i + 3)))]) (rcv := 272) (q := (RX8, TX8, 34)) (ci := 8) dL_law_475 okX8_table (tbl_i 856 (by decide +kernel)) ovX8_table.1.1 ovX8_table.1.2 ovX8_table.2 (by decide) rfl rfl ltc_272 shc_272 rfl (Nat.le_of_ble_eq_true rfl) (Nat.le_of_ble_eq_true rfl) (r_table s τ hM2 ((sc g (i + 1))) sc_inR ((sc g (i + 2))) sc_inR ((sc g (i + 3))) sc_inR) (fun v_ m_ hp_ => ?_) rfl
  obtain ⟨w, ρ, rfl, rfl, hw, hM3, hk2⟩ := hp_
  have hC3 := hC2.keep hk2
  show Ev g mL_law 478 [some (vS), some (vR (0)), some (vR (272)), some (vI (((i : Nat) : Int)))] [vI (w), vI (v)] (M0 (ρ)) 0 0 _
  obtain rfl : w = v := hw.trans hv.symm
  refine Ev.icmp_same (tgt := 1224) dL_law_478 (by decide) ?_
  exact hgo _ ρ hC3 hM3

set_option maxRecDepth 100000 in
set_option maxHeartbeats 4000000 in
theorem law_7 {g : GC} (hL : g.2.2.2.2.2.1 ≤ 3072) (i : Nat) (hi : (i : Int) + 6 ≤ g.2.2.2.2.2.1) (s : SS) (σ : Sg) (hC : CI s σ) (hM : MI s σ) {Post : Option PV → Mem → Prop} (hgo : ∀ (s2 : SS) (ρ : Sg), CI s2 ρ → MI s2 ρ → Ev g mL_law 1224 [some (vS), some (vR (0)), some (vR (272)), some (vI (((i : Nat) : Int)))] [] (M0 (ρ)) 0 0 Post) : Ev g mL_law 483 [some (vS), some (vR (0)), some (vR (272)), some (vI (((i : Nat) : Int)))] [] (M0 (σ)) 0 0 (Post) := by
  refine Ev.aload_n dL_law_483 rfl rfl ?_
  refine Ev.aloadS dL_law_484 rfl rfl ?_
  refine Ev.iload_n dL_law_485 rfl rfl ?_
  refine Ev.iconst dL_law_486 ?_
  refine Ev.iadd dL_law_487 ?_
  refine Ev.sload (v := (sc g (i + 1))) rfl dL_law_488 (by omega) (by omega) (by omega) (sc_at (by omega)) ?_
  refine Ev.callV_G (M2 := mX7_tear) (args2 := [vI ((sc g (i + 1)))]) (rcv := 0) (q := (RX7, TX7, 20)) (ci := 7) dL_law_489 okX7_tear (tbl_i 354 (by decide +kernel)) ovX7_tear.1.1 ovX7_tear.1.2 ovX7_tear.2 (by decide) rfl rfl ltc_0 shc_0 rfl (Nat.le_of_ble_eq_true rfl) (Nat.le_of_ble_eq_true rfl) (c_tear s σ hC ((sc g (i + 1))) sc_inR) (fun v_ m_ hp_ => ?_) rfl
  obtain ⟨v, τ, rfl, rfl, hv, hC2, hk⟩ := hp_
  have hM2 := hM.keep hk
  show Ev g mL_law 492 [some (vS), some (vR (0)), some (vR (272)), some (vI (((i : Nat) : Int)))] [vI (v)] (M0 (τ)) 0 0 _
  refine Ev.aload_n dL_law_492 rfl rfl ?_
  refine Ev.aloadS dL_law_493 rfl rfl ?_
  refine Ev.iload_n dL_law_494 rfl rfl ?_
  refine Ev.iconst dL_law_495 ?_
  refine Ev.iadd dL_law_496 ?_
  refine Ev.sload (v := (sc g (i + 1))) rfl dL_law_497 (by omega) (by omega) (by omega) (sc_at (by omega)) ?_
  refine Ev.callV_G (M2 := mX8_tear) (args2 := [vI ((sc g (i + 1)))]) (rcv := 272) (q := (RX8, TX8, 34)) (ci := 8) dL_law_498 okX8_tear (tbl_i 860 (by decide +kernel)) ovX8_tear.1.1 ovX8_tear.1.2 ovX8_tear.2 (by decide) rfl rfl ltc_272 shc_272 rfl (Nat.le_of_ble_eq_true rfl) (Nat.le_of_ble_eq_true rfl) (r_tear s τ hM2 ((sc g (i + 1))) sc_inR) (fun v_ m_ hp_ => ?_) rfl
  obtain ⟨w, ρ, rfl, rfl, hw, hM3, hk2⟩ := hp_
  have hC3 := hC2.keep hk2
  show Ev g mL_law 501 [some (vS), some (vR (0)), some (vR (272)), some (vI (((i : Nat) : Int)))] [vI (w), vI (v)] (M0 (ρ)) 0 0 _
  obtain rfl : w = v := hw.trans hv.symm
  refine Ev.icmp_same (tgt := 1224) dL_law_501 (by decide) ?_
  exact hgo _ ρ hC3 hM3

