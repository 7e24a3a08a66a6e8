/-! THE LAW: each call -/
theorem Ev.icmp_same {g : GC} {M : MD} {pc : Nat} {pl : List (Option PV)} {st : List PV} {m : Mem} {nc ns : Nat} {Post : Option PV → Mem → Prop} {x : Int} {off : Int} {tgt : Nat} (hd : decode M.2.1 pc = .ok (.if_icmp .eq off, 3)) (ht : (pc : Int) + off = (tgt : Int)) (kt : Ev g M tgt pl st m nc ns Post) : Ev g M pc pl (vI x :: vI x :: st) m nc ns Post := by
  intro p e R s mi args below meth c C H locs cells slots ls Q hc hs' hR hS hl hk
  exact lv_icmp_eq C.1 C.2.1 hd ht (fun _ => kt p e R s mi args below meth c C H locs cells slots ls Q hc hs' hR hS hl hk) (fun h => absurd rfl h)
/-- an int of the script -/
def sc (g : GC) (j : Nat) : Int := (g.2.2.2.2.2.2 j).toInt
theorem sc_at {g : GC} {j : Int} {n : Nat} (h : j = (n : Int)) : (g.2.2.2.2.2.2 j.toNat).toInt = sc g n := by subst h; rfl
theorem sc_inR {g : GC} {j : Nat} : inR (sc g j) := ⟨Int32.le_toInt _, Int32.toInt_le _⟩
set_option maxRecDepth 100000 in
set_option maxHeartbeats 4000000 in
theorem law_0 {g : GC} (hL : g.2.2.2.2.2.1 ≤ 3072) (i : Nat) (hi : (i : Int) + 6 ≤ g.2.2.2.2.2.1) (s : SS) (σ : Sg) (hC : CI s σ) (hM : MI s σ) {Post : Option PV → Mem → Prop} (hgo : ∀ (s2 : SS) (ρ : Sg), CI s2 ρ → MI s2 ρ → Ev g mL_law 1224 [some (vS), some (vR (0)), some (vR (272)), some (vI (((i : Nat) : Int)))] [] (M0 (ρ)) 0 0 Post) : Ev g mL_law 176 [some (vS), some (vR (0)), some (vR (272)), some (vI (((i : Nat) : Int)))] [] (M0 (σ)) 0 0 (Post) := by
  refine Ev.aload_n dL_law_176 rfl rfl ?_
  refine Ev.aloadS dL_law_177 rfl rfl ?_
  refine Ev.iload_n dL_law_178 rfl rfl ?_
  refine Ev.iconst dL_law_179 ?_
  refine Ev.iadd dL_law_180 ?_
  refine Ev.sload (v := (sc g (i + 1))) rfl dL_law_181 (by omega) (by omega) (by omega) (sc_at (by omega)) ?_
  refine Ev.aloadS dL_law_182 rfl rfl ?_
  refine Ev.iload_n dL_law_183 rfl rfl ?_
  refine Ev.iconst dL_law_184 ?_
  refine Ev.iadd dL_law_185 ?_
  refine Ev.sload (v := (sc g (i + 2))) rfl dL_law_186 (by omega) (by omega) (by omega) (sc_at (by omega)) ?_
  refine Ev.callV_G (M2 := mX7_unknown) (args2 := [vI ((sc g (i + 1))), vI ((sc g (i + 2)))]) (rcv := 0) (q := (RX7, TX7, 20)) (ci := 7) dL_law_187 okX7_unknown (tbl_i 258 (by decide +kernel)) ovX7_unknown.1.1 ovX7_unknown.1.2 ovX7_unknown.2 (by decide) rfl rfl ltc_0 shc_0 rfl (Nat.le_of_ble_eq_true rfl) (Nat.le_of_ble_eq_true rfl) (c_unknown s σ hC ((sc g (i + 1))) sc_inR ((sc g (i + 2))) sc_inR) (fun v_ m_ hp_ => ?_) rfl
  obtain ⟨v, τ, rfl, rfl, hv, hC2, hk⟩ := hp_
  have hM2 := hM.keep hk
  show Ev g mL_law 190 [some (vS), some (vR (0)), some (vR (272)), some (vI (((i : Nat) : Int)))] [vI (v)] (M0 (τ)) 0 0 _
  refine Ev.aload_n dL_law_190 rfl rfl ?_
  refine Ev.aloadS dL_law_191 rfl rfl ?_
  refine Ev.iload_n dL_law_192 rfl rfl ?_
  refine Ev.iconst dL_law_193 ?_
  refine Ev.iadd dL_law_194 ?_
  refine Ev.sload (v := (sc g (i + 1))) rfl dL_law_195 (by omega) (by omega) (by omega) (sc_at (by omega)) ?_
  refine Ev.aloadS dL_law_196 rfl rfl ?_
  refine Ev.iload_n dL_law_197 rfl rfl ?_
  refine Ev.iconst dL_law_198 ?_
  refine Ev.iadd dL_law_199 ?_
  refine Ev.sload (v := (sc g (i + 2))) rfl dL_law_200 (by omega) (by omega) (by omega) (sc_at (by omega)) ?_
  refine Ev.callV_G (M2 := mX8_unknown) (args2 := [vI ((sc g (i + 1))), vI ((sc g (i + 2)))]) (rcv := 272) (q := (RX8, TX8, 34)) (ci := 8) dL_law_201 okX8_unknown (tbl_i 792 (by decide +kernel)) ovX8_unknown.1.1 ovX8_unknown.1.2 ovX8_unknown.2 (by decide) rfl rfl ltc_272 shc_272 rfl (Nat.le_of_ble_eq_true rfl) (Nat.le_of_ble_eq_true rfl) (r_unknown s τ hM2 ((sc g (i + 1))) sc_inR ((sc g (i + 2))) sc_inR) (fun v_ m_ hp_ => ?_) rfl
  obtain ⟨w, ρ, rfl, rfl, hw, hM3, hk2⟩ := hp_
  have hC3 := hC2.keep hk2
  show Ev g mL_law 204 [some (vS), some (vR (0)), some (vR (272)), some (vI (((i : Nat) : Int)))] [vI (w), vI (v)] (M0 (ρ)) 0 0 _
  obtain rfl : w = v := hw.trans hv.symm
  refine Ev.icmp_same (tgt := 1224) dL_law_204 (by decide) ?_
  exact hgo _ ρ hC3 hM3

set_option maxRecDepth 100000 in
set_option maxHeartbeats 4000000 in
theorem law_1 {g : GC} (hL : g.2.2.2.2.2.1 ≤ 3072) (i : Nat) (hi : (i : Int) + 6 ≤ g.2.2.2.2.2.1) (s : SS) (σ : Sg) (hC : CI s σ) (hM : MI s σ) {Post : Option PV → Mem → Prop} (hgo : ∀ (s2 : SS) (ρ : Sg), CI s2 ρ → MI s2 ρ → Ev g mL_law 1224 [some (vS), some (vR (0)), some (vR (272)), some (vI (((i : Nat) : Int)))] [] (M0 (ρ)) 0 0 Post) : Ev g mL_law 209 [some (vS), some (vR (0)), some (vR (272)), some (vI (((i : Nat) : Int)))] [] (M0 (σ)) 0 0 (Post) := by
  refine Ev.aload_n dL_law_209 rfl rfl ?_
  refine Ev.aloadS dL_law_210 rfl rfl ?_
  refine Ev.iload_n dL_law_211 rfl rfl ?_
  refine Ev.iconst dL_law_212 ?_
  refine Ev.iadd dL_law_213 ?_
  refine Ev.sload (v := (sc g (i + 1))) rfl dL_law_214 (by omega) (by omega) (by omega) (sc_at (by omega)) ?_
  refine Ev.aloadS dL_law_215 rfl rfl ?_
  refine Ev.iload_n dL_law_216 rfl rfl ?_
  refine Ev.iconst dL_law_217 ?_
  refine Ev.iadd dL_law_218 ?_
  refine Ev.sload (v := (sc g (i + 2))) rfl dL_law_219 (by omega) (by omega) (by omega) (sc_at (by omega)) ?_
  refine Ev.callV_G (M2 := mX7_hole) (args2 := [vI ((sc g (i + 1))), vI ((sc g (i + 2)))]) (rcv := 0) (q := (RX7, TX7, 20)) (ci := 7) dL_law_220 okX7_hole (tbl_i 272 (by decide +kernel)) ovX7_hole.1.1 ovX7_hole.1.2 ovX7_hole.2 (by decide) rfl rfl ltc_0 shc_0 rfl (Nat.le_of_ble_eq_true rfl) (Nat.le_of_ble_eq_true rfl) (c_hole s σ hC ((sc g (i + 1))) sc_inR ((sc g (i + 2))) sc_inR) (fun v_ m_ hp_ => ?_) rfl
  obtain ⟨v, τ, rfl, rfl, hv, hC2, hk⟩ := hp_
  have hM2 := hM.keep hk
  show Ev g mL_law 223 [some (vS), some (vR (0)), some (vR (272)), some (vI (((i : Nat) : Int)))] [vI (v)] (M0 (τ)) 0 0 _
  refine Ev.aload_n dL_law_223 rfl rfl ?_
  refine Ev.aloadS dL_law_224 rfl rfl ?_
  refine Ev.iload_n dL_law_225 rfl rfl ?_
  refine Ev.iconst dL_law_226 ?_
  refine Ev.iadd dL_law_227 ?_
  refine Ev.sload (v := (sc g (i + 1))) rfl dL_law_228 (by omega) (by omega) (by omega) (sc_at (by omega)) ?_
  refine Ev.aloadS dL_law_229 rfl rfl ?_
  refine Ev.iload_n dL_law_230 rfl rfl ?_
  refine Ev.iconst dL_law_231 ?_
  refine Ev.iadd dL_law_232 ?_
  refine Ev.sload (v := (sc g (i + 2))) rfl dL_law_233 (by omega) (by omega) (by omega) (sc_at (by omega)) ?_
  refine Ev.callV_G (M2 := mX8_hole) (args2 := [vI ((sc g (i + 1))), vI ((sc g (i + 2)))]) (rcv := 272) (q := (RX8, TX8, 34)) (ci := 8) dL_law_234 okX8_hole (tbl_i 808 (by decide +kernel)) ovX8_hole.1.1 ovX8_hole.1.2 ovX8_hole.2 (by decide) rfl rfl ltc_272 shc_272 rfl (Nat.le_of_ble_eq_true rfl) (Nat.le_of_ble_eq_true rfl) (r_hole s τ hM2 ((sc g (i + 1))) sc_inR ((sc g (i + 2))) sc_inR) (fun v_ m_ hp_ => ?_) rfl
  obtain ⟨w, ρ, rfl, rfl, hw, hM3, hk2⟩ := hp_
  have hC3 := hC2.keep hk2
  show Ev g mL_law 237 [some (vS), some (vR (0)), some (vR (272)), some (vI (((i : Nat) : Int)))] [vI (w), vI (v)] (M0 (ρ)) 0 0 _
  obtain rfl : w = v := hw.trans hv.symm
  refine Ev.icmp_same (tgt := 1224) dL_law_237 (by decide) ?_
  exact hgo _ ρ hC3 hM3

set_option maxRecDepth 100000 in
set_option maxHeartbeats 4000000 in
theorem law_2 {g : GC} (hL : g.2.2.2.2.2.1 ≤ 3072) (i : Nat) (hi : (i : Int) + 6 ≤ g.2.2.2.2.2.1) (s : SS) (σ : Sg) (hC : CI s σ) (hM : MI s σ) {Post : Option PV → Mem → Prop} (hgo : ∀ (s2 : SS) (ρ : Sg), CI s2 ρ → MI s2 ρ → Ev g mL_law 1224 [some (vS), some (vR (0)), some (vR (272)), some (vI (((i : Nat) : Int)))] [] (M0 (ρ)) 0 0 Post) : Ev g mL_law 242 [some (vS), some (vR (0)), some (vR (272)), some (vI (((i : Nat) : Int)))] [] (M0 (σ)) 0 0 (Post) := by
  refine Ev.aload_n dL_law_242 rfl rfl ?_
  refine Ev.aloadS dL_law_243 rfl rfl ?_
  refine Ev.iload_n dL_law_244 rfl rfl ?_
  refine Ev.iconst dL_law_245 ?_
  refine Ev.iadd dL_law_246 ?_
  refine Ev.sload (v := (sc g (i + 1))) rfl dL_law_247 (by omega) (by omega) (by omega) (sc_at (by omega)) ?_
  refine Ev.aloadS dL_law_248 rfl rfl ?_
  refine Ev.iload_n dL_law_249 rfl rfl ?_
  refine Ev.iconst dL_law_250 ?_
  refine Ev.iadd dL_law_251 ?_
  refine Ev.sload (v := (sc g (i + 2))) rfl dL_law_252 (by omega) (by omega) (by omega) (sc_at (by omega)) ?_
  refine Ev.aloadS dL_law_253 rfl rfl ?_
  refine Ev.iload_n dL_law_254 rfl rfl ?_
  refine Ev.iconst dL_law_255 ?_
  refine Ev.iadd dL_law_256 ?_
  refine Ev.sload (v := (sc g (i + 3))) rfl dL_law_257 (by omega) (by omega) (by omega) (sc_at (by omega)) ?_
  refine Ev.callV_G (M2 := mX7_rule) (args2 := [vI ((sc g (i + 1))), vI ((sc g (i + 2))), vI ((sc g (i + 3)))]) (rcv := 0) (q := (RX7, TX7, 20)) (ci := 7) dL_law_258 okX7_rule (tbl_i 289 (by decide +kernel)) ovX7_rule.1.1 ovX7_rule.1.2 ovX7_rule.2 (by decide) rfl rfl ltc_0 shc_0 rfl (Nat.le_of_ble_eq_true rfl) (Nat.le_of_ble_eq_true rfl) (c_rule s σ hC ((sc g (i + 1))) sc_inR ((sc g (i + 2))) sc_inR ((sc g (i + 3))) sc_inR) (fun v_ m_ hp_ => ?_) rfl
  obtain ⟨v, τ, rfl, rfl, hv, hC2, hk⟩ := hp_
  have hM2 := hM.keep hk
  show Ev g mL_law 261 [some (vS), some (vR (0)), some (vR (272)), some (vI (((i : Nat) : Int)))] [vI (v)] (M0 (τ)) 0 0 _
  refine Ev.aload_n dL_law_261 rfl rfl ?_
  refine Ev.aloadS dL_law_262 rfl rfl ?_
  refine Ev.iload_n dL_law_263 rfl rfl ?_
  refine Ev.iconst dL_law_264 ?_
  refine Ev.iadd dL_law_265 ?_
  refine Ev.sload (v := (sc g (i + 1))) rfl dL_law_266 (by omega) (by omega) (by omega) (sc_at (by omega)) ?_
  refine Ev.aloadS dL_law_267 rfl rfl ?_
  refine Ev.iload_n dL_law_268 rfl rfl ?_
  refine Ev.iconst dL_law_269 ?_
  refine Ev.iadd dL_law_270 ?_
  refine Ev.sload (v := (sc g (i + 2))) rfl dL_law_271 (by omega) (by omega) (by omega) (sc_at (by omega)) ?_
  refine Ev.aloadS dL_law_272 rfl rfl ?_
  refine Ev.iload_n dL_law_273 rfl rfl ?_
  refine Ev.iconst dL_law_274 ?_
  refine Ev.iadd dL_law_275 ?_
  refine Ev.sload (v := (sc g (i + 3))) rfl dL_law_276 (by omega) (by omega) (by omega) (sc_at (by omega)) ?_
  refine Ev.callV_G (M2 := mX8_rule) (args2 := [vI ((sc g (i + 1))), vI ((sc g (i + 2))), vI ((sc g (i + 3)))]) (rcv := 272) (q := (RX8, TX8, 34)) (ci := 8) dL_law_277 okX8_rule (tbl_i 819 (by decide +kernel)) ovX8_rule.1.1 ovX8_rule.1.2 ovX8_rule.2 (by decide) rfl rfl ltc_272 shc_272 rfl (Nat.le_of_ble_eq_true rfl) (Nat.le_of_ble_eq_true rfl) (r_rule s τ hM2 ((sc g (i + 1))) sc_inR ((sc g (i + 2))) sc_inR ((sc g (i + 3))) sc_inR) (fun v_ m_ hp_ => ?_) rfl
  obtain ⟨w, ρ, rfl, rfl, hw, hM3, hk2⟩ := hp_
  have hC3 := hC2.keep hk2
  show Ev g mL_law 280 [some (vS), some (vR (0)), some (vR (272)), some (vI (((i : Nat) : Int)))] [vI (w), vI (v)] (M0 (ρ)) 0 0 _
  obtain rfl : w = v := hw.trans hv.symm
  refine Ev.icmp_same (tgt := 1224) dL_law_280 (by decide) ?_
  exact hgo _ ρ hC3 hM3

set_option maxRecDepth 100000 in
set_option maxHeartbeats 4000000 in
theorem law_3 {g : GC} (hL : g.2.2.2.2.2.1 ≤ 3072) (i : Nat) (hi : (i : Int) + 6 ≤ g.2.2.2.2.2.1) (s : SS) (σ : Sg) (hC : CI s σ) (hM : MI s σ) {Post : Option PV → Mem → Prop} (hgo : ∀ (s2 : SS) (ρ : Sg), CI s2 ρ → MI s2 ρ → Ev g mL_law 1224 [some (vS), some (vR (0)), some (vR (272)), some (vI (((i : Nat) : Int)))] [] (M0 (ρ)) 0 0 Post) : Ev g mL_law 285 [some (vS), some (vR (0)), some (vR (272)), some (vI (((i : Nat) : Int)))] [] (M0 (σ)) 0 0 (Post) := by
  refine Ev.aload_n dL_law_285 rfl rfl ?_
  refine Ev.aloadS dL_law_286 rfl rfl ?_
  refine Ev.iload_n dL_law_287 rfl rfl ?_
  refine Ev.iconst dL_law_288 ?_
  refine Ev.iadd dL_law_289 ?_
  refine Ev.sload (v := (sc g (i + 1))) rfl dL_law_290 (by omega) (by omega) (by omega) (sc_at (by omega)) ?_
  refine Ev.aloadS dL_law_291 rfl rfl ?_
  refine Ev.iload_n dL_law_292 rfl rfl ?_
  refine Ev.iconst dL_law_293 ?_
  refine Ev.iadd dL_law_294 ?_
  refine Ev.sload (v := (sc g (i + 2))) rfl dL_law_295 (by omega) (by omega) (by omega) (sc_at (by omega)) ?_
  refine Ev.aloadS dL_law_296 rfl rfl ?_
  refine Ev.iload_n dL_law_297 rfl rfl ?_
  refine Ev.iconst dL_law_298 ?_
  refine Ev.iadd dL_law_299 ?_
  refine Ev.sload (v := (sc g (i + 3))) rfl dL_law_300 (by omega) (by omega) (by omega) (sc_at (by omega)) ?_
  refine Ev.aloadS dL_law_301 rfl rfl ?_
  refine Ev.iload_n dL_law_302 rfl rfl ?_
  refine Ev.iconst dL_law_303 ?_
  refine Ev.iadd dL_law_304 ?_
  refine Ev.sload (v := (sc g (i + 4))) rfl dL_law_305 (by omega) (by omega) (by omega) (sc_at (by omega)) ?_
  refine Ev.callV_G (M2 := mX7_part) (args2 := [vI ((sc g (i + 1))), vI ((sc g (i + 2))), vI ((sc g (i + 3))), vI ((sc g (i + 4)))]) (rcv := 0) (q := (RX7, TX7, 20)) (ci := 7) dL_law_306 okX7_part (tbl_i 300 (by decide +kernel)) ovX7_part.1.1 ovX7_part.1.2 ovX7_part.2 (by decide) rfl rfl ltc_0 shc_0 rfl (Nat.le_of_ble_eq_true rfl) (Nat.le_of_ble_eq_true rfl) (c_part s σ hC ((sc g (i + 1))) sc_inR ((sc g (i + 2))) sc_inR ((sc g (i + 3))) sc_inR ((sc g (i + 4))) sc_inR) (fun v_ m_ hp_ => ?_) rfl
  obtain ⟨v, τ, rfl, rfl, hv, hC2, hk⟩ := hp_
  have hM2 := hM.keep hk
  show Ev g mL_law 309 [some (vS), some (vR (0)), some (vR (272)), some (vI (((i : Nat) : Int)))] [vI (v)] (M0 (τ)) 0 0 _
  refine Ev.aload_n dL_law_309 rfl rfl ?_
  refine Ev.aloadS dL_law_310 rfl rfl ?_
  refine Ev.iload_n dL_law_311 rfl rfl ?_
  refine Ev.iconst dL_law_312 ?_
  refine Ev.iadd dL_law_313 ?_
  refine Ev.sload (v := (sc g (i + 1))) rfl dL_law_314 (by omega) (by omega) (by omega) (sc_at (by omega)) ?_
  refine Ev.aloadS dL_law_315 rfl rfl ?_
  refine Ev.iload_n dL_law_316 rfl rfl ?_
  refine Ev.iconst dL_law_317 ?_
  refine Ev.iadd dL_law_318 ?_
  refine Ev.sload (v := (sc g (i + 2))) rfl dL_law_319 (by omega) (by omega) (by omega) (sc_at (by omega)) ?_
  refine Ev.aloadS dL_law_320 rfl rfl ?_
  refine Ev.iload_n dL_law_321 rfl rfl ?_
  refine Ev.iconst dL_law_322 ?_
  refine Ev.iadd dL_law_323 ?_
  refine Ev.sload (v := (sc g (i + 3))) rfl dL_law_324 (by omega) (by omega) (by omega) (sc_at (by omega)) ?_
  refine Ev.aloadS dL_law_325 rfl rfl ?_
  refine Ev.iload_n dL_law_326 rfl rfl ?_
  refine Ev.iconst dL_law_327 ?_
  refine Ev.iadd dL_law_328 ?_
  refine Ev.sload (v := (sc g (i + 4))) rfl dL_law_329 (by omega) (by omega) (by omega) (sc_at (by omega)) ?_
  refine Ev.callV_G (M2 := mX8_part) (args2 := [vI ((sc g (i + 1))), vI ((sc g (i + 2))), vI ((sc g (i + 3))), vI ((sc g (i + 4)))]) (rcv := 272) (q := (RX8, TX8, 34)) (ci := 8) dL_law_330 okX8_part (tbl_i 828 (by decide +kernel)) ovX8_part.1.1 ovX8_part.1.2 ovX8_part.2 (by decide) rfl rfl ltc_272 shc_272 rfl (Nat.le_of_ble_eq_true rfl) (Nat.le_of_ble_eq_true rfl) (r_part s τ hM2 ((sc g (i + 1))) sc_inR ((sc g (i + 2))) sc_inR ((sc g (i + 3))) sc_inR ((sc g (i + 4))) sc_inR) (fun v_ m_ hp_ => ?_) rfl
  obtain ⟨w, ρ, rfl, rfl, hw, hM3, hk2⟩ := hp_
  have hC3 := hC2.keep hk2
  show Ev g mL_law 333 [some (vS), some (vR (0)), some (vR (272)), some (vI (((i : Nat) : Int)))] [vI (w), vI (v)] (M0 (ρ)) 0 0 _
  obtain rfl : w = v := hw.trans hv.symm
  refine Ev.icmp_same (tgt := 1224) dL_law_333 (by decide) ?_
  exact hgo _ ρ hC3 hM3

set_option maxRecDepth 100000 in
set_option maxHeartbeats 4000000 in
theorem law_4 {g : GC} (hL : g.2.2.2.2.2.1 ≤ 3072) (i : Nat) (hi : (i : Int) + 6 ≤ g.2.2.2.2.2.1) (s : SS) (σ : Sg) (hC : CI s σ) (hM : MI s σ) {Post : Option PV → Mem → Prop} (hgo : ∀ (s2 : SS) (ρ : Sg), CI s2 ρ → MI s2 ρ → Ev g mL_law 1224 [some (vS), some (vR (0)), some (vR (272)), some (vI (((i : Nat) : Int)))] [] (M0 (ρ)) 0 0 Post) : Ev g mL_law 338 [some (vS), some (vR (0)), some (vR (272)), some (vI (((i : Nat) : Int)))] [] (M0 (σ)) 0 0 (Post) := by
  refine Ev.aload_n dL_law_338 rfl rfl ?_
  refine Ev.aloadS dL_law_339 rfl rfl ?_
  refine Ev.iload_n dL_law_340 rfl rfl ?_
  refine Ev.iconst dL_law_341 ?_
  refine Ev.iadd dL_law_342 ?_
  refine Ev.sload (v := (sc g (i + 1))) rfl dL_law_343 (by omega) (by omega) (by omega) (sc_at (by omega)) ?_
  refine Ev.aloadS dL_law_344 rfl rfl ?_
  refine Ev.iload_n dL_law_345 rfl rfl ?_
  refine Ev.iconst dL_law_346 ?_
  refine Ev.iadd dL_law_347 ?_
  refine Ev.sload (v := (sc g (i + 2))) rfl dL_law_348 (by omega) (by omega) (by omega) (sc_at (by omega)) ?_
  refine Ev.aloadS dL_law_349 rfl rfl ?_
  refine Ev.iload_n dL_law_350 rfl rfl ?_
  refine Ev.iconst dL_law_351 ?_
  refine Ev.iadd dL_law_352 ?_
  refine Ev.sload (v := (sc g (i + 3))) rfl dL_law_353 (by omega) (by omega) (by omega) (sc_at (by omega)) ?_
  refine Ev.aloadS dL_law_354 rfl rfl ?_
  refine Ev.iload_n dL_law_355 rfl rfl ?_
  refine Ev.iconst dL_law_356 ?_
  refine Ev.iadd dL_law_357 ?_
  refine Ev.sload (v := (sc g (i + 4))) rfl dL_law_358 (by omega) (by omega) (by omega) (sc_at (by omega)) ?_
  refine Ev.callV_G (M2 := mX7_literal) (args2 := [vI ((sc g (i + 1))), vI ((sc g (i + 2))), vI ((sc g (i + 3))), vI ((sc g (i + 4)))]) (rcv := 0) (q := (RX7, TX7, 20)) (ci := 7) dL_law_359 okX7_literal (tbl_i 323 (by decide +kernel)) ovX7_literal.1.1 ovX7_literal.1.2 ovX7_literal.2 (by decide) rfl rfl ltc_0 shc_0 rfl (Nat.le_of_ble_eq_true rfl) (Nat.le_of_ble_eq_true rfl) (c_literal s σ hC ((sc g (i + 1))) sc_inR ((sc g (i + 2))) sc_inR ((sc g (i + 3))) sc_inR ((sc g (i + 4))) sc_inR) (fun v_ m_ hp_ => ?_) rfl
  obtain ⟨v, τ, rfl, rfl, hv, hC2, hk⟩ := hp_
  have hM2 := hM.keep hk
  show Ev g mL_law 362 [some (vS), some (vR (0)), some (vR (272)), some (vI (((i : Nat) : Int)))] [vI (v)] (M0 (τ)) 0 0 _
  refine Ev.aload_n dL_law_362 rfl rfl ?_
  refine Ev.aloadS dL_law_363 rfl rfl ?_
  refine Ev.iload_n dL_law_364 rfl rfl ?_
  refine Ev.iconst dL_law_365 ?_
  refine Ev.iadd dL_law_366 ?_
  refine Ev.sload (v := (sc g (i + 1))) rfl dL_law_367 (by omega) (by omega) (by omega) (sc_at (by omega)) ?_
  refine Ev.aloadS dL_law_368 rfl rfl ?_
  refine Ev.iload_n dL_law_369 rfl rfl ?_
  refine Ev.iconst dL_law_370 ?_
  refine Ev.iadd dL_law_371 ?_
  refine Ev.sload (v := (sc g (i + 2))) rfl dL_law_372 (by omega) (by omega) (by omega) (sc_at (by omega)) ?_
  refine Ev.aloadS dL_law_373 rfl rfl ?_
  refine Ev.iload_n dL_law_374 rfl rfl ?_
  refine Ev.iconst dL_law_375 ?_
  refine Ev.iadd dL_law_376 ?_
  refine Ev.sload (v := (sc g (i + 3))) rfl dL_law_377 (by omega) (by omega) (by omega) (sc_at (by omega)) ?_
  refine Ev.aloadS dL_law_378 rfl rfl ?_
  refine Ev.iload_n dL_law_379 rfl rfl ?_
  refine Ev.iconst dL_law_380 ?_
  refine Ev.iadd dL_law_381 ?_
  refine Ev.sload (v := (sc g (i + 4))) rfl dL_law_382 (by omega) (by omega) (by omega) (sc_at (by omega)) ?_
  refine Ev.callV_G (M2 := mX8_literal) (args2 := [vI ((sc g (i + 1))), vI ((sc g (i + 2))), vI ((sc g (i + 3))), vI ((sc g (i + 4)))]) (rcv := 272) (q := (RX8, TX8, 34)) (ci := 8) dL_law_383 okX8_literal (tbl_i 847 (by decide +kernel)) ovX8_literal.1.1 ovX8_literal.1.2 ovX8_literal.2 (by decide) rfl rfl ltc_272 shc_272 rfl (Nat.le_of_ble_eq_true rfl) (Nat.le_of_ble_eq_true rfl) (r_literal s τ hM2 ((sc g (i + 1))) sc_inR ((sc g (i + 2))) sc_inR ((sc g (i + 3))) sc_inR ((sc g (i + 4))) sc_inR) (fun v_ m_ hp_ => ?_) rfl
  obtain ⟨w, ρ, rfl, rfl, hw, hM3, hk2⟩ := hp_
  have hC3 := hC2.keep hk2
  show Ev g mL_law 386 [some (vS), some (vR (0)), some (vR (272)), some (vI (((i : Nat) : Int)))] [vI (w), vI (v)] (M0 (ρ)) 0 0 _
  obtain rfl : w = v := hw.trans hv.symm
  refine Ev.icmp_same (tgt := 1224) dL_law_386 (by decide) ?_
  exact hgo _ ρ hC3 hM3

set_option maxRecDepth 100000 in
set_option maxHeartbeats 4000000 in
theorem law_5 {g : GC} (hL : g.2.2.2.2.2.1 ≤ 3072) (i : Nat) (hi : (i : Int) + 6 ≤ g.2.2.2.2.2.1) (s : SS) (σ : Sg) (hC : CI s σ) (hM : MI s σ) {Post : Option PV → Mem → Prop} (hgo : ∀ (s2 : SS) (ρ : Sg), CI s2 ρ → MI s2 ρ → Ev g mL_law 1224 [some (vS), some (vR (0)), some (vR (272)), some (vI (((i : Nat) : Int)))] [] (M0 (ρ)) 0 0 Post) : Ev g mL_law 391 [some (vS), some (vR (0)), some (vR (272)), some (vI (((i : Nat) : Int)))] [] (M0 (σ)) 0 0 (Post) := by
  refine Ev.aload_n dL_law_391 rfl rfl ?_
  refine Ev.aloadS dL_law_392 rfl rfl ?_
  refine Ev.iload_n dL_law_393 rfl rfl ?_
  refine Ev.iconst dL_law_394 ?_
  refine Ev.iadd dL_law_395 ?_
  refine Ev.sload (v := (sc g (i + 1))) rfl dL_law_396 (by omega) (by omega) (by omega) (sc_at (by omega)) ?_
  refine Ev.aloadS dL_law_397 rfl rfl ?_
  refine Ev.iload_n dL_law_398 rfl rfl ?_
  refine Ev.iconst dL_law_399 ?_
  refine Ev.iadd dL_law_400 ?_
  refine Ev.sload (v := (sc g (i + 2))) rfl dL_law_401 (by omega) (by omega) (by omega) (sc_at (by omega)) ?_
  refine Ev.if_eq (tgt := 409) sc_inR dL_law_402 (by decide) (fun h402 => ?_) (fun h402 => ?_)
  · skip
    refine Ev.iconst dL_law_409 ?_
    refine Ev.callV_G (M2 := mX7_stand) (args2 := [vI ((sc g (i + 1))), vI (0)]) (rcv := 0) (q := (RX7, TX7, 20)) (ci := 7) dL_law_410 okX7_stand (tbl_i 334 (by decide +kernel)) ovX7_stand.1.1 ovX7_stand.1.2 ovX7_stand.2 (by decide) rfl rfl ltc_0 shc_0 rfl (Nat.le_of_ble_eq_true rfl) (Nat.le_of_ble_eq_true rfl) (c_stand s σ hC ((sc g (i + 1))) sc_inR 0 ⟨by decide, by decide⟩) (fun v_ m_ hp_ => ?_) rfl
    obtain ⟨v, τ0, rfl, rfl, hv, hC2, hk⟩ := hp_
    have hM2 := hM.keep hk
    show Ev g mL_law 413 [some (vS), some (vR (0)), some (vR (272)), some (vI (((i : Nat) : Int)))] [vI (v)] (M0 (τ0)) 0 0 _
    refine Ev.aload_n dL_law_413 rfl rfl ?_
    refine Ev.aloadS dL_law_414 rfl rfl ?_
    refine Ev.iload_n dL_law_415 rfl rfl ?_
    refine Ev.iconst dL_law_416 ?_
    refine Ev.iadd dL_law_417 ?_
    refine Ev.sload (v := (sc g (i + 1))) rfl dL_law_418 (by omega) (by omega) (by omega) (sc_at (by omega)) ?_
    refine Ev.aloadS dL_law_419 rfl rfl ?_
    refine Ev.iload_n dL_law_420 rfl rfl ?_
    refine Ev.iconst dL_law_421 ?_
    refine Ev.iadd dL_law_422 ?_
    refine Ev.sload (v := (sc g (i + 2))) rfl dL_law_423 (by omega) (by omega) (by omega) (sc_at (by omega)) ?_
    refine Ev.if_eq (tgt := 431) sc_inR dL_law_424 (by decide) (fun h424 => ?_) (fun h424 => ?_)
    · skip
      refine Ev.iconst dL_law_431 ?_
      refine Ev.callV_G (M2 := mX8_stand) (args2 := [vI ((sc g (i + 1))), vI (0)]) (rcv := 272) (q := (RX8, TX8, 34)) (ci := 8) dL_law_432 okX8_stand (tbl_i 852 (by decide +kernel)) ovX8_stand.1.1 ovX8_stand.1.2 ovX8_stand.2 (by decide) rfl rfl ltc_272 shc_272 rfl (Nat.le_of_ble_eq_true rfl) (Nat.le_of_ble_eq_true rfl) (r_stand s τ0 hM2 ((sc g (i + 1))) sc_inR 0 ⟨by decide, by decide⟩ (Or.inl rfl)) (fun v_ m_ hp_ => ?_) rfl
      obtain ⟨w, ρ, rfl, rfl, hw, hM3, hk2⟩ := hp_
      have hC3 := hC2.keep hk2
      show Ev g mL_law 435 [some (vS), some (vR (0)), some (vR (272)), some (vI (((i : Nat) : Int)))] [vI (w), vI (v)] (M0 (ρ)) 0 0 _
      obtain rfl : w = v := hw.trans hv.symm
      refine Ev.icmp_same (tgt := 1224) dL_law_435 (by decide) ?_
      exact hgo _ ρ hC3 hM3
    · exact absurd h424 (by omega)
  · skip
    refine Ev.iconst dL_law_405 ?_
    refine Ev.goto (tgt := 410) dL_law_406 (by decide) ?_
    refine Ev.callV_G (M2 := mX7_stand) (args2 := [vI ((sc g (i + 1))), vI (1)]) (rcv := 0) (q := (RX7, TX7, 20)) (ci := 7) dL_law_410 okX7_stand (tbl_i 334 (by decide +kernel)) ovX7_stand.1.1 ovX7_stand.1.2 ovX7_stand.2 (by decide) rfl rfl ltc_0 shc_0 rfl (Nat.le_of_ble_eq_true rfl) (Nat.le_of_ble_eq_true rfl) (c_stand s σ hC ((sc g (i + 1))) sc_inR 1 ⟨by decide, by decide⟩) (fun v_ m_ hp_ => ?_) rfl
    obtain ⟨v, τ, rfl, rfl, hv, hC2, hk⟩ := hp_
    have hM2 := hM.keep hk
    show Ev g mL_law 413 [some (vS), some (vR (0)), some (vR (272)), some (vI (((i : Nat) : Int)))] [vI (v)] (M0 (τ)) 0 0 _
    refine Ev.aload_n dL_law_413 rfl rfl ?_
    refine Ev.aloadS dL_law_414 rfl rfl ?_
    refine Ev.iload_n dL_law_415 rfl rfl ?_
    refine Ev.iconst dL_law_416 ?_
    refine Ev.iadd dL_law_417 ?_
    refine Ev.sload (v := (sc g (i + 1))) rfl dL_law_418 (by omega) (by omega) (by omega) (sc_at (by omega)) ?_
    refine Ev.aloadS dL_law_419 rfl rfl ?_
    refine Ev.iload_n dL_law_420 rfl rfl ?_
    refine Ev.iconst dL_law_421 ?_
    refine Ev.iadd dL_law_422 ?_
    refine Ev.sload (v := (sc g (i + 2))) rfl dL_law_423 (by omega) (by omega) (by omega) (sc_at (by omega)) ?_
    refine Ev.if_eq (tgt := 431) sc_inR dL_law_424 (by decide) (fun h424 => ?_) (fun h424 => ?_)
    · exact absurd h424 (by omega)
    · skip
      refine Ev.iconst dL_law_427 ?_
      refine Ev.goto (tgt := 432) dL_law_428 (by decide) ?_
      refine Ev.callV_G (M2 := mX8_stand) (args2 := [vI ((sc g (i + 1))), vI (1)]) (rcv := 272) (q := (RX8, TX8, 34)) (ci := 8) dL_law_432 okX8_stand (tbl_i 852 (by decide +kernel)) ovX8_stand.1.1 ovX8_stand.1.2 ovX8_stand.2 (by decide) rfl rfl ltc_272 shc_272 rfl (Nat.le_of_ble_eq_true rfl) (Nat.le_of_ble_eq_true rfl) (r_stand s τ hM2 ((sc g (i + 1))) sc_inR 1 ⟨by decide, by decide⟩ (Or.inr rfl)) (fun v_ m_ hp_ => ?_) rfl
      obtain ⟨w, ρ, rfl, rfl, hw, hM3, hk2⟩ := hp_
      have hC3 := hC2.keep hk2
      show Ev g mL_law 435 [some (vS), some (vR (0)), some (vR (272)), some (vI (((i : Nat) : Int)))] [vI (w), vI (v)] (M0 (ρ)) 0 0 _
      obtain rfl : w = v := hw.trans hv.symm
      refine Ev.icmp_same (tgt := 1224) dL_law_435 (by decide) ?_
      exact hgo _ ρ hC3 hM3

set_option maxRecDepth 100000 in
set_option maxHeartbeats 4000000 in
theorem law_6 {g : GC} (hL : g.2.2.2.2.2.1 ≤ 3072) (i : Nat) (hi : (i : Int) + 6 ≤ g.2.2.2.2.2.1) (s : SS) (σ : Sg) (hC : CI s σ) (hM : MI s σ) {Post : Option PV → Mem → Prop} (hgo : ∀ (s2 : SS) (ρ : Sg), CI s2 ρ → MI s2 ρ → Ev g mL_law 1224 [some (vS), some (vR (0)), some (vR (272)), some (vI (((i : Nat) : Int)))] [] (M0 (ρ)) 0 0 Post) : Ev g mL_law 440 [some (vS), some (vR (0)), some (vR (272)), some (vI (((i : Nat) : Int)))] [] (M0 (σ)) 0 0 (Post) := by
  refine Ev.aload_n dL_law_440 rfl rfl ?_
  refine Ev.aloadS dL_law_441 rfl rfl ?_
  refine Ev.iload_n dL_law_442 rfl rfl ?_
  refine Ev.iconst dL_law_443 ?_
  refine Ev.iadd dL_law_444 ?_
  refine Ev.sload (v := (sc g (i + 1))) rfl dL_law_445 (by omega) (by omega) (by omega) (sc_at (by omega)) ?_
  refine Ev.aloadS dL_law_446 rfl rfl ?_
  refine Ev.iload_n dL_law_447 rfl rfl ?_
  refine Ev.iconst dL_law_448 ?_
  refine Ev.iadd dL_law_449 ?_
  refine Ev.sload (v := (sc g (i + 2))) rfl dL_law_450 (by omega) (by omega) (by omega) (sc_at (by omega)) ?_
  refine Ev.aloadS dL_law_451 rfl rfl ?_
  refine Ev.iload_n dL_law_452 rfl rfl ?_
  refine Ev.iconst dL_law_453 ?_
  refine Ev.iadd dL_law_454 ?_
  refine Ev.sload (v := (sc g (i + 3))) rfl dL_law_455 (by omega) (by omega) (by omega) (sc_at (by omega)) ?_
  refine Ev.callV_G (M2 := mX7_table) (args2 := [vI ((sc g (i + 1))), vI ((sc g (i + 2))), vI ((sc g (i + 3)))]) (rcv := 0) (q := (RX7, TX7, 20)) (ci := 7) dL_law_456 okX7_table (tbl_i 343 (by decide +kernel)) ovX7_table.1.1 ovX7_table.1.2 ovX7_table.2 (by decide) rfl rfl ltc_0 shc_0 rfl (Nat.le_of_ble_eq_true rfl) (Nat.le_of_ble_eq_true rfl) (c_table s σ hC ((sc g (i + 1))) sc_inR ((sc g (i + 2))) sc_inR ((sc g (i + 3))) sc_inR) (fun v_ m_ hp_ => ?_) rfl
  obtain ⟨v, τ, rfl, rfl, hv, hC2, hk⟩ := hp_
  have hM2 := hM.keep hk
  show Ev g mL_law 459 [some (vS), some (vR (0)), some (vR (272)), some (vI (((i : Nat) : Int)))] [vI (v)] (M0 (τ)) 0 0 _
  refine Ev.aload_n dL_law_459 rfl rfl ?_
  refine Ev.aloadS dL_law_460 rfl rfl ?_
  refine Ev.iload_n dL_law_461 rfl rfl ?_
  refine Ev.iconst dL_law_462 ?_
  refine Ev.iadd dL_law_463 ?_
  refine Ev.sload (v := (sc g (i + 1))) rfl dL_law_464 (by omega) (by omega) (by omega) (sc_at (by omega)) ?_
  refine Ev.aloadS dL_law_465 rfl rfl ?_
  refine Ev.iload_n dL_law_466 rfl rfl ?_
  refine Ev.iconst dL_law_467 ?_
  refine Ev.iadd dL_law_468 ?_
  refine Ev.sload (v := (sc g (i + 2))) rfl dL_law_469 (by omega) (by omega) (by omega) (sc_at (by omega)) ?_
  refine Ev.aloadS dL_law_470 rfl rfl ?_
  refine Ev.iload_n dL_law_471 rfl rfl ?_
  refine Ev.iconst dL_law_472 ?_
  refine Ev.iadd dL_law_473 ?_
  refine Ev.sload (v := (sc g (i + 3))) rfl dL_law_474 (by omega) (by omega) (by omega) (sc_at (by omega)) ?_
  refine Ev.callV_G (M2 := mX8_table) (args2 := [vI ((sc g (i + 1))), vI ((sc g (i + 2))), vI ((sc g (i + 3)))]) (rcv := 272) (q := (RX8, TX8, 34)) (ci := 8) dL_law_475 okX8_table (tbl_i 856 (by decide +kernel)) ovX8_table.1.1 ovX8_table.1.2 ovX8_table.2 (by decide) rfl rfl ltc_272 shc_272 rfl (Nat.le_of_ble_eq_true rfl) (Nat.le_of_ble_eq_true rfl) (r_table s τ hM2 ((sc g (i + 1))) sc_inR ((sc g (i + 2))) sc_inR ((sc g (i + 3))) sc_inR) (fun v_ m_ hp_ => ?_) rfl
  obtain ⟨w, ρ, rfl, rfl, hw, hM3, hk2⟩ := hp_
  have hC3 := hC2.keep hk2
  show Ev g mL_law 478 [some (vS), some (vR (0)), some (vR (272)), some (vI (((i : Nat) : Int)))] [vI (w), vI (v)] (M0 (ρ)) 0 0 _
  obtain rfl : w = v := hw.trans hv.symm
  refine Ev.icmp_same (tgt := 1224) dL_law_478 (by decide) ?_
  exact hgo _ ρ hC3 hM3

set_option maxRecDepth 100000 in
set_option maxHeartbeats 4000000 in
theorem law_7 {g : GC} (hL : g.2.2.2.2.2.1 ≤ 3072) (i : Nat) (hi : (i : Int) + 6 ≤ g.2.2.2.2.2.1) (s : SS) (σ : Sg) (hC : CI s σ) (hM : MI s σ) {Post : Option PV → Mem → Prop} (hgo : ∀ (s2 : SS) (ρ : Sg), CI s2 ρ → MI s2 ρ → Ev g mL_law 1224 [some (vS), some (vR (0)), some (vR (272)), some (vI (((i : Nat) : Int)))] [] (M0 (ρ)) 0 0 Post) : Ev g mL_law 483 [some (vS), some (vR (0)), some (vR (272)), some (vI (((i : Nat) : Int)))] [] (M0 (σ)) 0 0 (Post) := by
  refine Ev.aload_n dL_law_483 rfl rfl ?_
  refine Ev.aloadS dL_law_484 rfl rfl ?_
  refine Ev.iload_n dL_law_485 rfl rfl ?_
  refine Ev.iconst dL_law_486 ?_
  refine Ev.iadd dL_law_487 ?_
  refine Ev.sload (v := (sc g (i + 1))) rfl dL_law_488 (by omega) (by omega) (by omega) (sc_at (by omega)) ?_
  refine Ev.callV_G (M2 := mX7_tear) (args2 := [vI ((sc g (i + 1)))]) (rcv := 0) (q := (RX7, TX7, 20)) (ci := 7) dL_law_489 okX7_tear (tbl_i 354 (by decide +kernel)) ovX7_tear.1.1 ovX7_tear.1.2 ovX7_tear.2 (by decide) rfl rfl ltc_0 shc_0 rfl (Nat.le_of_ble_eq_true rfl) (Nat.le_of_ble_eq_true rfl) (c_tear s σ hC ((sc g (i + 1))) sc_inR) (fun v_ m_ hp_ => ?_) rfl
  obtain ⟨v, τ, rfl, rfl, hv, hC2, hk⟩ := hp_
  have hM2 := hM.keep hk
  show Ev g mL_law 492 [some (vS), some (vR (0)), some (vR (272)), some (vI (((i : Nat) : Int)))] [vI (v)] (M0 (τ)) 0 0 _
  refine Ev.aload_n dL_law_492 rfl rfl ?_
  refine Ev.aloadS dL_law_493 rfl rfl ?_
  refine Ev.iload_n dL_law_494 rfl rfl ?_
  refine Ev.iconst dL_law_495 ?_
  refine Ev.iadd dL_law_496 ?_
  refine Ev.sload (v := (sc g (i + 1))) rfl dL_law_497 (by omega) (by omega) (by omega) (sc_at (by omega)) ?_
  refine Ev.callV_G (M2 := mX8_tear) (args2 := [vI ((sc g (i + 1)))]) (rcv := 272) (q := (RX8, TX8, 34)) (ci := 8) dL_law_498 okX8_tear (tbl_i 860 (by decide +kernel)) ovX8_tear.1.1 ovX8_tear.1.2 ovX8_tear.2 (by decide) rfl rfl ltc_272 shc_272 rfl (Nat.le_of_ble_eq_true rfl) (Nat.le_of_ble_eq_true rfl) (r_tear s τ hM2 ((sc g (i + 1))) sc_inR) (fun v_ m_ hp_ => ?_) rfl
  obtain ⟨w, ρ, rfl, rfl, hw, hM3, hk2⟩ := hp_
  have hC3 := hC2.keep hk2
  show Ev g mL_law 501 [some (vS), some (vR (0)), some (vR (272)), some (vI (((i : Nat) : Int)))] [vI (w), vI (v)] (M0 (ρ)) 0 0 _
  obtain rfl : w = v := hw.trans hv.symm
  refine Ev.icmp_same (tgt := 1224) dL_law_501 (by decide) ?_
  exact hgo _ ρ hC3 hM3

set_option maxRecDepth 100000 in
set_option maxHeartbeats 4000000 in
theorem law_8 {g : GC} (hL : g.2.2.2.2.2.1 ≤ 3072) (i : Nat) (hi : (i : Int) + 6 ≤ g.2.2.2.2.2.1) (s : SS) (σ : Sg) (hC : CI s σ) (hM : MI s σ) {Post : Option PV → Mem → Prop} (hgo : ∀ (s2 : SS) (ρ : Sg), CI s2 ρ → MI s2 ρ → Ev g mL_law 1224 [some (vS), some (vR (0)), some (vR (272)), some (vI (((i : Nat) : Int)))] [] (M0 (ρ)) 0 0 Post) : Ev g mL_law 506 [some (vS), some (vR (0)), some (vR (272)), some (vI (((i : Nat) : Int)))] [] (M0 (σ)) 0 0 (Post) := by
  refine Ev.aload_n dL_law_506 rfl rfl ?_
  refine Ev.aloadS dL_law_507 rfl rfl ?_
  refine Ev.iload_n dL_law_508 rfl rfl ?_
  refine Ev.iconst dL_law_509 ?_
  refine Ev.iadd dL_law_510 ?_
  refine Ev.sload (v := (sc g (i + 1))) rfl dL_law_511 (by omega) (by omega) (by omega) (sc_at (by omega)) ?_
  refine Ev.aloadS dL_law_512 rfl rfl ?_
  refine Ev.iload_n dL_law_513 rfl rfl ?_
  refine Ev.iconst dL_law_514 ?_
  refine Ev.iadd dL_law_515 ?_
  refine Ev.sload (v := (sc g (i + 2))) rfl dL_law_516 (by omega) (by omega) (by omega) (sc_at (by omega)) ?_
  refine Ev.aloadS dL_law_517 rfl rfl ?_
  refine Ev.iload_n dL_law_518 rfl rfl ?_
  refine Ev.iconst dL_law_519 ?_
  refine Ev.iadd dL_law_520 ?_
  refine Ev.sload (v := (sc g (i + 3))) rfl dL_law_521 (by omega) (by omega) (by omega) (sc_at (by omega)) ?_
  refine Ev.callV_G (M2 := mX7_cell) (args2 := [vI ((sc g (i + 1))), vI ((sc g (i + 2))), vI ((sc g (i + 3)))]) (rcv := 0) (q := (RX7, TX7, 20)) (ci := 7) dL_law_522 okX7_cell (tbl_i 362 (by decide +kernel)) ovX7_cell.1.1 ovX7_cell.1.2 ovX7_cell.2 (by decide) rfl rfl ltc_0 shc_0 rfl (Nat.le_of_ble_eq_true rfl) (Nat.le_of_ble_eq_true rfl) (c_cell s σ hC ((sc g (i + 1))) sc_inR ((sc g (i + 2))) sc_inR ((sc g (i + 3))) sc_inR) (fun v_ m_ hp_ => ?_) rfl
  obtain ⟨v, τ, rfl, rfl, hv, hC2, hk⟩ := hp_
  have hM2 := hM.keep hk
  show Ev g mL_law 525 [some (vS), some (vR (0)), some (vR (272)), some (vI (((i : Nat) : Int)))] [vI (v)] (M0 (τ)) 0 0 _
  refine Ev.aload_n dL_law_525 rfl rfl ?_
  refine Ev.aloadS dL_law_526 rfl rfl ?_
  refine Ev.iload_n dL_law_527 rfl rfl ?_
  refine Ev.iconst dL_law_528 ?_
  refine Ev.iadd dL_law_529 ?_
  refine Ev.sload (v := (sc g (i + 1))) rfl dL_law_530 (by omega) (by omega) (by omega) (sc_at (by omega)) ?_
  refine Ev.aloadS dL_law_531 rfl rfl ?_
  refine Ev.iload_n dL_law_532 rfl rfl ?_
  refine Ev.iconst dL_law_533 ?_
  refine Ev.iadd dL_law_534 ?_
  refine Ev.sload (v := (sc g (i + 2))) rfl dL_law_535 (by omega) (by omega) (by omega) (sc_at (by omega)) ?_
  refine Ev.aloadS dL_law_536 rfl rfl ?_
  refine Ev.iload_n dL_law_537 rfl rfl ?_
  refine Ev.iconst dL_law_538 ?_
  refine Ev.iadd dL_law_539 ?_
  refine Ev.sload (v := (sc g (i + 3))) rfl dL_law_540 (by omega) (by omega) (by omega) (sc_at (by omega)) ?_
  refine Ev.callV_G (M2 := mX8_cell) (args2 := [vI ((sc g (i + 1))), vI ((sc g (i + 2))), vI ((sc g (i + 3)))]) (rcv := 272) (q := (RX8, TX8, 34)) (ci := 8) dL_law_541 okX8_cell (tbl_i 864 (by decide +kernel)) ovX8_cell.1.1 ovX8_cell.1.2 ovX8_cell.2 (by decide) rfl rfl ltc_272 shc_272 rfl (Nat.le_of_ble_eq_true rfl) (Nat.le_of_ble_eq_true rfl) (r_cell s τ hM2 ((sc g (i + 1))) sc_inR ((sc g (i + 2))) sc_inR ((sc g (i + 3))) sc_inR) (fun v_ m_ hp_ => ?_) rfl
  obtain ⟨w, ρ, rfl, rfl, hw, hM3, hk2⟩ := hp_
  have hC3 := hC2.keep hk2
  show Ev g mL_law 544 [some (vS), some (vR (0)), some (vR (272)), some (vI (((i : Nat) : Int)))] [vI (w), vI (v)] (M0 (ρ)) 0 0 _
  obtain rfl : w = v := hw.trans hv.symm
  refine Ev.icmp_same (tgt := 1224) dL_law_544 (by decide) ?_
  exact hgo _ ρ hC3 hM3

set_option maxRecDepth 100000 in
set_option maxHeartbeats 4000000 in
theorem law_9 {g : GC} (hL : g.2.2.2.2.2.1 ≤ 3072) (i : Nat) (hi : (i : Int) + 6 ≤ g.2.2.2.2.2.1) (s : SS) (σ : Sg) (hC : CI s σ) (hM : MI s σ) {Post : Option PV → Mem → Prop} (hgo : ∀ (s2 : SS) (ρ : Sg), CI s2 ρ → MI s2 ρ → Ev g mL_law 1224 [some (vS), some (vR (0)), some (vR (272)), some (vI (((i : Nat) : Int)))] [] (M0 (ρ)) 0 0 Post) : Ev g mL_law 549 [some (vS), some (vR (0)), some (vR (272)), some (vI (((i : Nat) : Int)))] [] (M0 (σ)) 0 0 (Post) := by
  refine Ev.aload_n dL_law_549 rfl rfl ?_
  refine Ev.aloadS dL_law_550 rfl rfl ?_
  refine Ev.iload_n dL_law_551 rfl rfl ?_
  refine Ev.iconst dL_law_552 ?_
  refine Ev.iadd dL_law_553 ?_
  refine Ev.sload (v := (sc g (i + 1))) rfl dL_law_554 (by omega) (by omega) (by omega) (sc_at (by omega)) ?_
  refine Ev.aloadS dL_law_555 rfl rfl ?_
  refine Ev.iload_n dL_law_556 rfl rfl ?_
  refine Ev.iconst dL_law_557 ?_
  refine Ev.iadd dL_law_558 ?_
  refine Ev.sload (v := (sc g (i + 2))) rfl dL_law_559 (by omega) (by omega) (by omega) (sc_at (by omega)) ?_
  refine Ev.aloadS dL_law_560 rfl rfl ?_
  refine Ev.iload_n dL_law_561 rfl rfl ?_
  refine Ev.iconst dL_law_562 ?_
  refine Ev.iadd dL_law_563 ?_
  refine Ev.sload (v := (sc g (i + 3))) rfl dL_law_564 (by omega) (by omega) (by omega) (sc_at (by omega)) ?_
  refine Ev.aloadS dL_law_565 rfl rfl ?_
  refine Ev.iload_n dL_law_566 rfl rfl ?_
  refine Ev.iconst dL_law_567 ?_
  refine Ev.iadd dL_law_568 ?_
  refine Ev.sload (v := (sc g (i + 4))) rfl dL_law_569 (by omega) (by omega) (by omega) (sc_at (by omega)) ?_
  refine Ev.aloadS dL_law_570 rfl rfl ?_
  refine Ev.iload_n dL_law_571 rfl rfl ?_
  refine Ev.iconst dL_law_572 ?_
  refine Ev.iadd dL_law_573 ?_
  refine Ev.sload (v := (sc g (i + 5))) rfl dL_law_574 (by omega) (by omega) (by omega) (sc_at (by omega)) ?_
  refine Ev.callV_G (M2 := mX7_copy) (args2 := [vI ((sc g (i + 1))), vI ((sc g (i + 2))), vI ((sc g (i + 3))), vI ((sc g (i + 4))), vI ((sc g (i + 5)))]) (rcv := 0) (q := (RX7, TX7, 20)) (ci := 7) dL_law_575 okX7_copy (tbl_i 370 (by decide +kernel)) ovX7_copy.1.1 ovX7_copy.1.2 ovX7_copy.2 (by decide) rfl rfl ltc_0 shc_0 rfl (Nat.le_of_ble_eq_true rfl) (Nat.le_of_ble_eq_true rfl) (c_copy s σ hC ((sc g (i + 1))) sc_inR ((sc g (i + 2))) sc_inR ((sc g (i + 3))) sc_inR ((sc g (i + 4))) sc_inR ((sc g (i + 5))) sc_inR) (fun v_ m_ hp_ => ?_) rfl
  obtain ⟨v, τ, rfl, rfl, hv, hC2, hk⟩ := hp_
  have hM2 := hM.keep hk
  show Ev g mL_law 578 [some (vS), some (vR (0)), some (vR (272)), some (vI (((i : Nat) : Int)))] [vI (v)] (M0 (τ)) 0 0 _
  refine Ev.aload_n dL_law_578 rfl rfl ?_
  refine Ev.aloadS dL_law_579 rfl rfl ?_
  refine Ev.iload_n dL_law_580 rfl rfl ?_
  refine Ev.iconst dL_law_581 ?_
  refine Ev.iadd dL_law_582 ?_
  refine Ev.sload (v := (sc g (i + 1))) rfl dL_law_583 (by omega) (by omega) (by omega) (sc_at (by omega)) ?_
  refine Ev.aloadS dL_law_584 rfl rfl ?_
  refine Ev.iload_n dL_law_585 rfl rfl ?_
  refine Ev.iconst dL_law_586 ?_
  refine Ev.iadd dL_law_587 ?_
  refine Ev.sload (v := (sc g (i + 2))) rfl dL_law_588 (by omega) (by omega) (by omega) (sc_at (by omega)) ?_
  refine Ev.aloadS dL_law_589 rfl rfl ?_
  refine Ev.iload_n dL_law_590 rfl rfl ?_
  refine Ev.iconst dL_law_591 ?_
  refine Ev.iadd dL_law_592 ?_
  refine Ev.sload (v := (sc g (i + 3))) rfl dL_law_593 (by omega) (by omega) (by omega) (sc_at (by omega)) ?_
  refine Ev.aloadS dL_law_594 rfl rfl ?_
  refine Ev.iload_n dL_law_595 rfl rfl ?_
  refine Ev.iconst dL_law_596 ?_
  refine Ev.iadd dL_law_597 ?_
  refine Ev.sload (v := (sc g (i + 4))) rfl dL_law_598 (by omega) (by omega) (by omega) (sc_at (by omega)) ?_
  refine Ev.aloadS dL_law_599 rfl rfl ?_
  refine Ev.iload_n dL_law_600 rfl rfl ?_
  refine Ev.iconst dL_law_601 ?_
  refine Ev.iadd dL_law_602 ?_
  refine Ev.sload (v := (sc g (i + 5))) rfl dL_law_603 (by omega) (by omega) (by omega) (sc_at (by omega)) ?_
  refine Ev.callV_G (M2 := mX8_copy) (args2 := [vI ((sc g (i + 1))), vI ((sc g (i + 2))), vI ((sc g (i + 3))), vI ((sc g (i + 4))), vI ((sc g (i + 5)))]) (rcv := 272) (q := (RX8, TX8, 34)) (ci := 8) dL_law_604 okX8_copy (tbl_i 868 (by decide +kernel)) ovX8_copy.1.1 ovX8_copy.1.2 ovX8_copy.2 (by decide) rfl rfl ltc_272 shc_272 rfl (Nat.le_of_ble_eq_true rfl) (Nat.le_of_ble_eq_true rfl) (r_copy s τ hM2 ((sc g (i + 1))) sc_inR ((sc g (i + 2))) sc_inR ((sc g (i + 3))) sc_inR ((sc g (i + 4))) sc_inR ((sc g (i + 5))) sc_inR) (fun v_ m_ hp_ => ?_) rfl
  obtain ⟨w, ρ, rfl, rfl, hw, hM3, hk2⟩ := hp_
  have hC3 := hC2.keep hk2
  show Ev g mL_law 607 [some (vS), some (vR (0)), some (vR (272)), some (vI (((i : Nat) : Int)))] [vI (w), vI (v)] (M0 (ρ)) 0 0 _
  obtain rfl : w = v := hw.trans hv.symm
  refine Ev.icmp_same (tgt := 1224) dL_law_607 (by decide) ?_
  exact hgo _ ρ hC3 hM3

set_option maxRecDepth 100000 in
set_option maxHeartbeats 4000000 in
theorem law_10 {g : GC} (hL : g.2.2.2.2.2.1 ≤ 3072) (i : Nat) (hi : (i : Int) + 6 ≤ g.2.2.2.2.2.1) (s : SS) (σ : Sg) (hC : CI s σ) (hM : MI s σ) {Post : Option PV → Mem → Prop} (hgo : ∀ (s2 : SS) (ρ : Sg), CI s2 ρ → MI s2 ρ → Ev g mL_law 1224 [some (vS), some (vR (0)), some (vR (272)), some (vI (((i : Nat) : Int)))] [] (M0 (ρ)) 0 0 Post) : Ev g mL_law 612 [some (vS), some (vR (0)), some (vR (272)), some (vI (((i : Nat) : Int)))] [] (M0 (σ)) 0 0 (Post) := by
  refine Ev.aload_n dL_law_612 rfl rfl ?_
  refine Ev.aloadS dL_law_613 rfl rfl ?_
  refine Ev.iload_n dL_law_614 rfl rfl ?_
  refine Ev.iconst dL_law_615 ?_
  refine Ev.iadd dL_law_616 ?_
  refine Ev.sload (v := (sc g (i + 1))) rfl dL_law_617 (by omega) (by omega) (by omega) (sc_at (by omega)) ?_
  refine Ev.aloadS dL_law_618 rfl rfl ?_
  refine Ev.iload_n dL_law_619 rfl rfl ?_
  refine Ev.iconst dL_law_620 ?_
  refine Ev.iadd dL_law_621 ?_
  refine Ev.sload (v := (sc g (i + 2))) rfl dL_law_622 (by omega) (by omega) (by omega) (sc_at (by omega)) ?_
  refine Ev.callV_G (M2 := mX7_get) (args2 := [vI ((sc g (i + 1))), vI ((sc g (i + 2)))]) (rcv := 0) (q := (RX7, TX7, 20)) (ci := 7) dL_law_623 okX7_get (tbl_i 374 (by decide +kernel)) ovX7_get.1.1 ovX7_get.1.2 ovX7_get.2 (by decide) rfl rfl ltc_0 shc_0 rfl (Nat.le_of_ble_eq_true rfl) (Nat.le_of_ble_eq_true rfl) (c_get s σ hC ((sc g (i + 1))) sc_inR ((sc g (i + 2))) sc_inR) (fun v_ m_ hp_ => ?_) rfl
  obtain ⟨v, τ, rfl, rfl, hv, hC2, hk⟩ := hp_
  have hM2 := hM.keep hk
  show Ev g mL_law 626 [some (vS), some (vR (0)), some (vR (272)), some (vI (((i : Nat) : Int)))] [vI (v)] (M0 (τ)) 0 0 _
  refine Ev.aload_n dL_law_626 rfl rfl ?_
  refine Ev.aloadS dL_law_627 rfl rfl ?_
  refine Ev.iload_n dL_law_628 rfl rfl ?_
  refine Ev.iconst dL_law_629 ?_
  refine Ev.iadd dL_law_630 ?_
  refine Ev.sload (v := (sc g (i + 1))) rfl dL_law_631 (by omega) (by omega) (by omega) (sc_at (by omega)) ?_
  refine Ev.aloadS dL_law_632 rfl rfl ?_
  refine Ev.iload_n dL_law_633 rfl rfl ?_
  refine Ev.iconst dL_law_634 ?_
  refine Ev.iadd dL_law_635 ?_
  refine Ev.sload (v := (sc g (i + 2))) rfl dL_law_636 (by omega) (by omega) (by omega) (sc_at (by omega)) ?_
  refine Ev.callV_G (M2 := mX8_get) (args2 := [vI ((sc g (i + 1))), vI ((sc g (i + 2)))]) (rcv := 272) (q := (RX8, TX8, 34)) (ci := 8) dL_law_637 okX8_get (tbl_i 872 (by decide +kernel)) ovX8_get.1.1 ovX8_get.1.2 ovX8_get.2 (by decide) rfl rfl ltc_272 shc_272 rfl (Nat.le_of_ble_eq_true rfl) (Nat.le_of_ble_eq_true rfl) (r_get s τ hM2 ((sc g (i + 1))) sc_inR ((sc g (i + 2))) sc_inR) (fun v_ m_ hp_ => ?_) rfl
  obtain ⟨w, ρ, rfl, rfl, hw, hM3, hk2⟩ := hp_
  have hC3 := hC2.keep hk2
  show Ev g mL_law 640 [some (vS), some (vR (0)), some (vR (272)), some (vI (((i : Nat) : Int)))] [vI (w), vI (v)] (M0 (ρ)) 0 0 _
  obtain rfl : w = v := hw.trans hv.symm
  refine Ev.icmp_same (tgt := 1224) dL_law_640 (by decide) ?_
  exact hgo _ ρ hC3 hM3

set_option maxRecDepth 100000 in
set_option maxHeartbeats 4000000 in
theorem law_11 {g : GC} (hL : g.2.2.2.2.2.1 ≤ 3072) (i : Nat) (hi : (i : Int) + 6 ≤ g.2.2.2.2.2.1) (s : SS) (σ : Sg) (hC : CI s σ) (hM : MI s σ) {Post : Option PV → Mem → Prop} (hgo : ∀ (s2 : SS) (ρ : Sg), CI s2 ρ → MI s2 ρ → Ev g mL_law 1224 [some (vS), some (vR (0)), some (vR (272)), some (vI (((i : Nat) : Int)))] [] (M0 (ρ)) 0 0 Post) : Ev g mL_law 645 [some (vS), some (vR (0)), some (vR (272)), some (vI (((i : Nat) : Int)))] [] (M0 (σ)) 0 0 (Post) := by
  refine Ev.aload_n dL_law_645 rfl rfl ?_
  refine Ev.aloadS dL_law_646 rfl rfl ?_
  refine Ev.iload_n dL_law_647 rfl rfl ?_
  refine Ev.iconst dL_law_648 ?_
  refine Ev.iadd dL_law_649 ?_
  refine Ev.sload (v := (sc g (i + 1))) rfl dL_law_650 (by omega) (by omega) (by omega) (sc_at (by omega)) ?_
  refine Ev.aloadS dL_law_651 rfl rfl ?_
  refine Ev.iload_n dL_law_652 rfl rfl ?_
  refine Ev.iconst dL_law_653 ?_
  refine Ev.iadd dL_law_654 ?_
  refine Ev.sload (v := (sc g (i + 2))) rfl dL_law_655 (by omega) (by omega) (by omega) (sc_at (by omega)) ?_
  refine Ev.callV_G (M2 := mX7_about) (args2 := [vI ((sc g (i + 1))), vI ((sc g (i + 2)))]) (rcv := 0) (q := (RX7, TX7, 20)) (ci := 7) dL_law_656 okX7_about (tbl_i 378 (by decide +kernel)) ovX7_about.1.1 ovX7_about.1.2 ovX7_about.2 (by decide) rfl rfl ltc_0 shc_0 rfl (Nat.le_of_ble_eq_true rfl) (Nat.le_of_ble_eq_true rfl) (c_about s σ hC ((sc g (i + 1))) sc_inR ((sc g (i + 2))) sc_inR) (fun v_ m_ hp_ => ?_) rfl
  obtain ⟨v, τ, rfl, rfl, hv, hC2, hk⟩ := hp_
  have hM2 := hM.keep hk
  show Ev g mL_law 659 [some (vS), some (vR (0)), some (vR (272)), some (vI (((i : Nat) : Int)))] [vI (v)] (M0 (τ)) 0 0 _
  refine Ev.aload_n dL_law_659 rfl rfl ?_
  refine Ev.aloadS dL_law_660 rfl rfl ?_
  refine Ev.iload_n dL_law_661 rfl rfl ?_
  refine Ev.iconst dL_law_662 ?_
  refine Ev.iadd dL_law_663 ?_
  refine Ev.sload (v := (sc g (i + 1))) rfl dL_law_664 (by omega) (by omega) (by omega) (sc_at (by omega)) ?_
  refine Ev.aloadS dL_law_665 rfl rfl ?_
  refine Ev.iload_n dL_law_666 rfl rfl ?_
  refine Ev.iconst dL_law_667 ?_
  refine Ev.iadd dL_law_668 ?_
  refine Ev.sload (v := (sc g (i + 2))) rfl dL_law_669 (by omega) (by omega) (by omega) (sc_at (by omega)) ?_
  refine Ev.callV_G (M2 := mX8_about) (args2 := [vI ((sc g (i + 1))), vI ((sc g (i + 2)))]) (rcv := 272) (q := (RX8, TX8, 34)) (ci := 8) dL_law_670 okX8_about (tbl_i 876 (by decide +kernel)) ovX8_about.1.1 ovX8_about.1.2 ovX8_about.2 (by decide) rfl rfl ltc_272 shc_272 rfl (Nat.le_of_ble_eq_true rfl) (Nat.le_of_ble_eq_true rfl) (r_about s τ hM2 ((sc g (i + 1))) sc_inR ((sc g (i + 2))) sc_inR) (fun v_ m_ hp_ => ?_) rfl
  obtain ⟨w, ρ, rfl, rfl, hw, hM3, hk2⟩ := hp_
  have hC3 := hC2.keep hk2
  show Ev g mL_law 673 [some (vS), some (vR (0)), some (vR (272)), some (vI (((i : Nat) : Int)))] [vI (w), vI (v)] (M0 (ρ)) 0 0 _
  obtain rfl : w = v := hw.trans hv.symm
  refine Ev.icmp_same (tgt := 1224) dL_law_673 (by decide) ?_
  exact hgo _ ρ hC3 hM3

set_option maxRecDepth 100000 in
set_option maxHeartbeats 4000000 in
theorem law_12 {g : GC} (hL : g.2.2.2.2.2.1 ≤ 3072) (i : Nat) (hi : (i : Int) + 6 ≤ g.2.2.2.2.2.1) (s : SS) (σ : Sg) (hC : CI s σ) (hM : MI s σ) {Post : Option PV → Mem → Prop} (hgo : ∀ (s2 : SS) (ρ : Sg), CI s2 ρ → MI s2 ρ → Ev g mL_law 1224 [some (vS), some (vR (0)), some (vR (272)), some (vI (((i : Nat) : Int)))] [] (M0 (ρ)) 0 0 Post) : Ev g mL_law 678 [some (vS), some (vR (0)), some (vR (272)), some (vI (((i : Nat) : Int)))] [] (M0 (σ)) 0 0 (Post) := by
  refine Ev.aload_n dL_law_678 rfl rfl ?_
  refine Ev.callV_G (M2 := mX7_narrow) (args2 := []) (rcv := 0) (q := (RX7, TX7, 20)) (ci := 7) dL_law_679 okX7_narrow (tbl_i 382 (by decide +kernel)) ovX7_narrow.1.1 ovX7_narrow.1.2 ovX7_narrow.2 (by decide) rfl rfl ltc_0 shc_0 rfl (Nat.le_of_ble_eq_true rfl) (Nat.le_of_ble_eq_true rfl) (c_narrow s σ hC ) (fun v_ m_ hp_ => ?_) rfl
  obtain ⟨v, τ, rfl, rfl, hv, hC2, hk⟩ := hp_
  have hM2 := hM.keep hk
  show Ev g mL_law 682 [some (vS), some (vR (0)), some (vR (272)), some (vI (((i : Nat) : Int)))] [vI (v)] (M0 (τ)) 0 0 _
  refine Ev.aload_n dL_law_682 rfl rfl ?_
  refine Ev.callV_G (M2 := mX8_narrow) (args2 := []) (rcv := 272) (q := (RX8, TX8, 34)) (ci := 8) dL_law_683 okX8_narrow (tbl_i 880 (by decide +kernel)) ovX8_narrow.1.1 ovX8_narrow.1.2 ovX8_narrow.2 (by decide) rfl rfl ltc_272 shc_272 rfl (Nat.le_of_ble_eq_true rfl) (Nat.le_of_ble_eq_true rfl) (r_narrow s τ hM2 ) (fun v_ m_ hp_ => ?_) rfl
  obtain ⟨w, ρ, rfl, rfl, hw, hM3, hk2⟩ := hp_
  have hC3 := hC2.keep hk2
  show Ev g mL_law 686 [some (vS), some (vR (0)), some (vR (272)), some (vI (((i : Nat) : Int)))] [vI (w), vI (v)] (M0 (ρ)) 0 0 _
  obtain rfl : w = v := hw.trans hv.symm
  refine Ev.icmp_same (tgt := 1224) dL_law_686 (by decide) ?_
  exact hgo _ ρ hC3 hM3

set_option maxRecDepth 100000 in
set_option maxHeartbeats 4000000 in
theorem law_13 {g : GC} (hL : g.2.2.2.2.2.1 ≤ 3072) (i : Nat) (hi : (i : Int) + 6 ≤ g.2.2.2.2.2.1) (s : SS) (σ : Sg) (hC : CI s σ) (hM : MI s σ) {Post : Option PV → Mem → Prop} (hgo : ∀ (s2 : SS) (ρ : Sg), CI s2 ρ → MI s2 ρ → Ev g mL_law 1224 [some (vS), some (vR (0)), some (vR (272)), some (vI (((i : Nat) : Int)))] [] (M0 (ρ)) 0 0 Post) : Ev g mL_law 691 [some (vS), some (vR (0)), some (vR (272)), some (vI (((i : Nat) : Int)))] [] (M0 (σ)) 0 0 (Post) := by
  refine Ev.aload_n dL_law_691 rfl rfl ?_
  refine Ev.aloadS dL_law_692 rfl rfl ?_
  refine Ev.iload_n dL_law_693 rfl rfl ?_
  refine Ev.iconst dL_law_694 ?_
  refine Ev.iadd dL_law_695 ?_
  refine Ev.sload (v := (sc g (i + 1))) rfl dL_law_696 (by omega) (by omega) (by omega) (sc_at (by omega)) ?_
  refine Ev.callV_G (M2 := mX7_takes) (args2 := [vI ((sc g (i + 1)))]) (rcv := 0) (q := (RX7, TX7, 20)) (ci := 7) dL_law_697 okX7_takes (tbl_i 503 (by decide +kernel)) ovX7_takes.1.1 ovX7_takes.1.2 ovX7_takes.2 (by decide) rfl rfl ltc_0 shc_0 rfl (Nat.le_of_ble_eq_true rfl) (Nat.le_of_ble_eq_true rfl) (c_takes s σ hC ((sc g (i + 1))) sc_inR) (fun v_ m_ hp_ => ?_) rfl
  obtain ⟨v, τ, rfl, rfl, hv, hC2, hk⟩ := hp_
  have hM2 := hM.keep hk
  show Ev g mL_law 700 [some (vS), some (vR (0)), some (vR (272)), some (vI (((i : Nat) : Int)))] [vI (v)] (M0 (τ)) 0 0 _
  refine Ev.aload_n dL_law_700 rfl rfl ?_
  refine Ev.aloadS dL_law_701 rfl rfl ?_
  refine Ev.iload_n dL_law_702 rfl rfl ?_
  refine Ev.iconst dL_law_703 ?_
  refine Ev.iadd dL_law_704 ?_
  refine Ev.sload (v := (sc g (i + 1))) rfl dL_law_705 (by omega) (by omega) (by omega) (sc_at (by omega)) ?_
  refine Ev.callV_G (M2 := mX8_takes) (args2 := [vI ((sc g (i + 1)))]) (rcv := 272) (q := (RX8, TX8, 34)) (ci := 8) dL_law_706 okX8_takes (tbl_i 950 (by decide +kernel)) ovX8_takes.1.1 ovX8_takes.1.2 ovX8_takes.2 (by decide) rfl rfl ltc_272 shc_272 rfl (Nat.le_of_ble_eq_true rfl) (Nat.le_of_ble_eq_true rfl) (r_takes s τ hM2 ((sc g (i + 1))) sc_inR) (fun v_ m_ hp_ => ?_) rfl
  obtain ⟨w, ρ, rfl, rfl, hw, hM3, hk2⟩ := hp_
  have hC3 := hC2.keep hk2
  show Ev g mL_law 709 [some (vS), some (vR (0)), some (vR (272)), some (vI (((i : Nat) : Int)))] [vI (w), vI (v)] (M0 (ρ)) 0 0 _
  obtain rfl : w = v := hw.trans hv.symm
  refine Ev.icmp_same (tgt := 1224) dL_law_709 (by decide) ?_
  exact hgo _ ρ hC3 hM3

set_option maxRecDepth 100000 in
set_option maxHeartbeats 4000000 in
theorem law_14 {g : GC} (hL : g.2.2.2.2.2.1 ≤ 3072) (i : Nat) (hi : (i : Int) + 6 ≤ g.2.2.2.2.2.1) (s : SS) (σ : Sg) (hC : CI s σ) (hM : MI s σ) {Post : Option PV → Mem → Prop} (hgo : ∀ (s2 : SS) (ρ : Sg), CI s2 ρ → MI s2 ρ → Ev g mL_law 1224 [some (vS), some (vR (0)), some (vR (272)), some (vI (((i : Nat) : Int)))] [] (M0 (ρ)) 0 0 Post) : Ev g mL_law 714 [some (vS), some (vR (0)), some (vR (272)), some (vI (((i : Nat) : Int)))] [] (M0 (σ)) 0 0 (Post) := by
  refine Ev.aload_n dL_law_714 rfl rfl ?_
  refine Ev.aloadS dL_law_715 rfl rfl ?_
  refine Ev.iload_n dL_law_716 rfl rfl ?_
  refine Ev.iconst dL_law_717 ?_
  refine Ev.iadd dL_law_718 ?_
  refine Ev.sload (v := (sc g (i + 1))) rfl dL_law_719 (by omega) (by omega) (by omega) (sc_at (by omega)) ?_
  refine Ev.aloadS dL_law_720 rfl rfl ?_
  refine Ev.iload_n dL_law_721 rfl rfl ?_
  refine Ev.iconst dL_law_722 ?_
  refine Ev.iadd dL_law_723 ?_
  refine Ev.sload (v := (sc g (i + 2))) rfl dL_law_724 (by omega) (by omega) (by omega) (sc_at (by omega)) ?_
  refine Ev.aloadS dL_law_725 rfl rfl ?_
  refine Ev.iload_n dL_law_726 rfl rfl ?_
  refine Ev.iconst dL_law_727 ?_
  refine Ev.iadd dL_law_728 ?_
  refine Ev.sload (v := (sc g (i + 3))) rfl dL_law_729 (by omega) (by omega) (by omega) (sc_at (by omega)) ?_
  refine Ev.callV_G (M2 := mX7_step) (args2 := [vI ((sc g (i + 1))), vI ((sc g (i + 2))), vI ((sc g (i + 3)))]) (rcv := 0) (q := (RX7, TX7, 20)) (ci := 7) dL_law_730 okX7_step (tbl_i 513 (by decide +kernel)) ovX7_step.1.1 ovX7_step.1.2 ovX7_step.2 (by decide) rfl rfl ltc_0 shc_0 rfl (Nat.le_of_ble_eq_true rfl) (Nat.le_of_ble_eq_true rfl) (c_step s σ hC ((sc g (i + 1))) sc_inR ((sc g (i + 2))) sc_inR ((sc g (i + 3))) sc_inR) (fun v_ m_ hp_ => ?_) rfl
  obtain ⟨v, τ, rfl, rfl, hv, hC2, hk⟩ := hp_
  have hM2 := hM.keep hk
  show Ev g mL_law 733 [some (vS), some (vR (0)), some (vR (272)), some (vI (((i : Nat) : Int)))] [vI (v)] (M0 (τ)) 0 0 _
  refine Ev.aload_n dL_law_733 rfl rfl ?_
  refine Ev.aloadS dL_law_734 rfl rfl ?_
  refine Ev.iload_n dL_law_735 rfl rfl ?_
  refine Ev.iconst dL_law_736 ?_
  refine Ev.iadd dL_law_737 ?_
  refine Ev.sload (v := (sc g (i + 1))) rfl dL_law_738 (by omega) (by omega) (by omega) (sc_at (by omega)) ?_
  refine Ev.aloadS dL_law_739 rfl rfl ?_
  refine Ev.iload_n dL_law_740 rfl rfl ?_
  refine Ev.iconst dL_law_741 ?_
  refine Ev.iadd dL_law_742 ?_
  refine Ev.sload (v := (sc g (i + 2))) rfl dL_law_743 (by omega) (by omega) (by omega) (sc_at (by omega)) ?_
  refine Ev.aloadS dL_law_744 rfl rfl ?_
  refine Ev.iload_n dL_law_745 rfl rfl ?_
  refine Ev.iconst dL_law_746 ?_
  refine Ev.iadd dL_law_747 ?_
  refine Ev.sload (v := (sc g (i + 3))) rfl dL_law_748 (by omega) (by omega) (by omega) (sc_at (by omega)) ?_
  refine Ev.callV_G (M2 := mX8_step) (args2 := [vI ((sc g (i + 1))), vI ((sc g (i + 2))), vI ((sc g (i + 3)))]) (rcv := 272) (q := (RX8, TX8, 34)) (ci := 8) dL_law_749 okX8_step (tbl_i 954 (by decide +kernel)) ovX8_step.1.1 ovX8_step.1.2 ovX8_step.2 (by decide) rfl rfl ltc_272 shc_272 rfl (Nat.le_of_ble_eq_true rfl) (Nat.le_of_ble_eq_true rfl) (r_step s τ hM2 ((sc g (i + 1))) sc_inR ((sc g (i + 2))) sc_inR ((sc g (i + 3))) sc_inR) (fun v_ m_ hp_ => ?_) rfl
  obtain ⟨w, ρ, rfl, rfl, hw, hM3, hk2⟩ := hp_
  have hC3 := hC2.keep hk2
  show Ev g mL_law 752 [some (vS), some (vR (0)), some (vR (272)), some (vI (((i : Nat) : Int)))] [vI (w), vI (v)] (M0 (ρ)) 0 0 _
  obtain rfl : w = v := hw.trans hv.symm
  refine Ev.icmp_same (tgt := 1224) dL_law_752 (by decide) ?_
  exact hgo _ ρ hC3 hM3

set_option maxRecDepth 100000 in
set_option maxHeartbeats 4000000 in
theorem law_15 {g : GC} (hL : g.2.2.2.2.2.1 ≤ 3072) (i : Nat) (hi : (i : Int) + 6 ≤ g.2.2.2.2.2.1) (s : SS) (σ : Sg) (hC : CI s σ) (hM : MI s σ) {Post : Option PV → Mem → Prop} (hgo : ∀ (s2 : SS) (ρ : Sg), CI s2 ρ → MI s2 ρ → Ev g mL_law 1224 [some (vS), some (vR (0)), some (vR (272)), some (vI (((i : Nat) : Int)))] [] (M0 (ρ)) 0 0 Post) : Ev g mL_law 757 [some (vS), some (vR (0)), some (vR (272)), some (vI (((i : Nat) : Int)))] [] (M0 (σ)) 0 0 (Post) := by
  refine Ev.aload_n dL_law_757 rfl rfl ?_
  refine Ev.aloadS dL_law_758 rfl rfl ?_
  refine Ev.iload_n dL_law_759 rfl rfl ?_
  refine Ev.iconst dL_law_760 ?_
  refine Ev.iadd dL_law_761 ?_
  refine Ev.sload (v := (sc g (i + 1))) rfl dL_law_762 (by omega) (by omega) (by omega) (sc_at (by omega)) ?_
  refine Ev.callV_G (M2 := mX7_undo) (args2 := [vI ((sc g (i + 1)))]) (rcv := 0) (q := (RX7, TX7, 20)) (ci := 7) dL_law_763 okX7_undo (tbl_i 517 (by decide +kernel)) ovX7_undo.1.1 ovX7_undo.1.2 ovX7_undo.2 (by decide) rfl rfl ltc_0 shc_0 rfl (Nat.le_of_ble_eq_true rfl) (Nat.le_of_ble_eq_true rfl) (c_undo s σ hC ((sc g (i + 1))) sc_inR) (fun v_ m_ hp_ => ?_) rfl
  obtain ⟨v, τ, rfl, rfl, hv, hC2, hk⟩ := hp_
  have hM2 := hM.keep hk
  show Ev g mL_law 766 [some (vS), some (vR (0)), some (vR (272)), some (vI (((i : Nat) : Int)))] [vI (v)] (M0 (τ)) 0 0 _
  refine Ev.aload_n dL_law_766 rfl rfl ?_
  refine Ev.aloadS dL_law_767 rfl rfl ?_
  refine Ev.iload_n dL_law_768 rfl rfl ?_
  refine Ev.iconst dL_law_769 ?_
  refine Ev.iadd dL_law_770 ?_
  refine Ev.sload (v := (sc g (i + 1))) rfl dL_law_771 (by omega) (by omega) (by omega) (sc_at (by omega)) ?_
  refine Ev.callV_G (M2 := mX8_undo) (args2 := [vI ((sc g (i + 1)))]) (rcv := 272) (q := (RX8, TX8, 34)) (ci := 8) dL_law_772 okX8_undo (tbl_i 958 (by decide +kernel)) ovX8_undo.1.1 ovX8_undo.1.2 ovX8_undo.2 (by decide) rfl rfl ltc_272 shc_272 rfl (Nat.le_of_ble_eq_true rfl) (Nat.le_of_ble_eq_true rfl) (r_undo s τ hM2 ((sc g (i + 1))) sc_inR) (fun v_ m_ hp_ => ?_) rfl
  obtain ⟨w, ρ, rfl, rfl, hw, hM3, hk2⟩ := hp_
  have hC3 := hC2.keep hk2
  show Ev g mL_law 775 [some (vS), some (vR (0)), some (vR (272)), some (vI (((i : Nat) : Int)))] [vI (w), vI (v)] (M0 (ρ)) 0 0 _
  obtain rfl : w = v := hw.trans hv.symm
  refine Ev.icmp_same (tgt := 1224) dL_law_775 (by decide) ?_
  exact hgo _ ρ hC3 hM3

set_option maxRecDepth 100000 in
set_option maxHeartbeats 4000000 in
theorem law_16 {g : GC} (hL : g.2.2.2.2.2.1 ≤ 3072) (i : Nat) (hi : (i : Int) + 6 ≤ g.2.2.2.2.2.1) (s : SS) (σ : Sg) (hC : CI s σ) (hM : MI s σ) {Post : Option PV → Mem → Prop} (hgo : ∀ (s2 : SS) (ρ : Sg), CI s2 ρ → MI s2 ρ → Ev g mL_law 1224 [some (vS), some (vR (0)), some (vR (272)), some (vI (((i : Nat) : Int)))] [] (M0 (ρ)) 0 0 Post) : Ev g mL_law 780 [some (vS), some (vR (0)), some (vR (272)), some (vI (((i : Nat) : Int)))] [] (M0 (σ)) 0 0 (Post) := by
  refine Ev.aload_n dL_law_780 rfl rfl ?_
  refine Ev.aloadS dL_law_781 rfl rfl ?_
  refine Ev.iload_n dL_law_782 rfl rfl ?_
  refine Ev.iconst dL_law_783 ?_
  refine Ev.iadd dL_law_784 ?_
  refine Ev.sload (v := (sc g (i + 1))) rfl dL_law_785 (by omega) (by omega) (by omega) (sc_at (by omega)) ?_
  refine Ev.aloadS dL_law_786 rfl rfl ?_
  refine Ev.iload_n dL_law_787 rfl rfl ?_
  refine Ev.iconst dL_law_788 ?_
  refine Ev.iadd dL_law_789 ?_
  refine Ev.sload (v := (sc g (i + 2))) rfl dL_law_790 (by omega) (by omega) (by omega) (sc_at (by omega)) ?_
  refine Ev.callV_G (M2 := mX7_range) (args2 := [vI ((sc g (i + 1))), vI ((sc g (i + 2)))]) (rcv := 0) (q := (RX7, TX7, 20)) (ci := 7) dL_law_791 okX7_range (tbl_i 521 (by decide +kernel)) ovX7_range.1.1 ovX7_range.1.2 ovX7_range.2 (by decide) rfl rfl ltc_0 shc_0 rfl (Nat.le_of_ble_eq_true rfl) (Nat.le_of_ble_eq_true rfl) (c_range s σ hC ((sc g (i + 1))) sc_inR ((sc g (i + 2))) sc_inR) (fun v_ m_ hp_ => ?_) rfl
  obtain ⟨v, τ, rfl, rfl, hv, hC2, hk⟩ := hp_
  have hM2 := hM.keep hk
  show Ev g mL_law 794 [some (vS), some (vR (0)), some (vR (272)), some (vI (((i : Nat) : Int)))] [vI (v)] (M0 (τ)) 0 0 _
  refine Ev.aload_n dL_law_794 rfl rfl ?_
  refine Ev.aloadS dL_law_795 rfl rfl ?_
  refine Ev.iload_n dL_law_796 rfl rfl ?_
  refine Ev.iconst dL_law_797 ?_
  refine Ev.iadd dL_law_798 ?_
  refine Ev.sload (v := (sc g (i + 1))) rfl dL_law_799 (by omega) (by omega) (by omega) (sc_at (by omega)) ?_
  refine Ev.aloadS dL_law_800 rfl rfl ?_
  refine Ev.iload_n dL_law_801 rfl rfl ?_
  refine Ev.iconst dL_law_802 ?_
  refine Ev.iadd dL_law_803 ?_
  refine Ev.sload (v := (sc g (i + 2))) rfl dL_law_804 (by omega) (by omega) (by omega) (sc_at (by omega)) ?_
  refine Ev.callV_G (M2 := mX8_range) (args2 := [vI ((sc g (i + 1))), vI ((sc g (i + 2)))]) (rcv := 272) (q := (RX8, TX8, 34)) (ci := 8) dL_law_805 okX8_range (tbl_i 962 (by decide +kernel)) ovX8_range.1.1 ovX8_range.1.2 ovX8_range.2 (by decide) rfl rfl ltc_272 shc_272 rfl (Nat.le_of_ble_eq_true rfl) (Nat.le_of_ble_eq_true rfl) (r_range s τ hM2 ((sc g (i + 1))) sc_inR ((sc g (i + 2))) sc_inR) (fun v_ m_ hp_ => ?_) rfl
  obtain ⟨w, ρ, rfl, rfl, hw, hM3, hk2⟩ := hp_
  have hC3 := hC2.keep hk2
  show Ev g mL_law 808 [some (vS), some (vR (0)), some (vR (272)), some (vI (((i : Nat) : Int)))] [vI (w), vI (v)] (M0 (ρ)) 0 0 _
  obtain rfl : w = v := hw.trans hv.symm
  refine Ev.icmp_same (tgt := 1224) dL_law_808 (by decide) ?_
  exact hgo _ ρ hC3 hM3

set_option maxRecDepth 100000 in
set_option maxHeartbeats 4000000 in
theorem law_17 {g : GC} (hL : g.2.2.2.2.2.1 ≤ 3072) (i : Nat) (hi : (i : Int) + 6 ≤ g.2.2.2.2.2.1) (s : SS) (σ : Sg) (hC : CI s σ) (hM : MI s σ) {Post : Option PV → Mem → Prop} (hgo : ∀ (s2 : SS) (ρ : Sg), CI s2 ρ → MI s2 ρ → Ev g mL_law 1224 [some (vS), some (vR (0)), some (vR (272)), some (vI (((i : Nat) : Int)))] [] (M0 (ρ)) 0 0 Post) : Ev g mL_law 813 [some (vS), some (vR (0)), some (vR (272)), some (vI (((i : Nat) : Int)))] [] (M0 (σ)) 0 0 (Post) := by
  refine Ev.aload_n dL_law_813 rfl rfl ?_
  refine Ev.aloadS dL_law_814 rfl rfl ?_
  refine Ev.iload_n dL_law_815 rfl rfl ?_
  refine Ev.iconst dL_law_816 ?_
  refine Ev.iadd dL_law_817 ?_
  refine Ev.sload (v := (sc g (i + 1))) rfl dL_law_818 (by omega) (by omega) (by omega) (sc_at (by omega)) ?_
  refine Ev.aloadS dL_law_819 rfl rfl ?_
  refine Ev.iload_n dL_law_820 rfl rfl ?_
  refine Ev.iconst dL_law_821 ?_
  refine Ev.iadd dL_law_822 ?_
  refine Ev.sload (v := (sc g (i + 2))) rfl dL_law_823 (by omega) (by omega) (by omega) (sc_at (by omega)) ?_
  refine Ev.callV_G (M2 := mX7_why) (args2 := [vI ((sc g (i + 1))), vI ((sc g (i + 2)))]) (rcv := 0) (q := (RX7, TX7, 20)) (ci := 7) dL_law_824 okX7_why (tbl_i 527 (by decide +kernel)) ovX7_why.1.1 ovX7_why.1.2 ovX7_why.2 (by decide) rfl rfl ltc_0 shc_0 rfl (Nat.le_of_ble_eq_true rfl) (Nat.le_of_ble_eq_true rfl) (c_why s σ hC ((sc g (i + 1))) sc_inR ((sc g (i + 2))) sc_inR) (fun v_ m_ hp_ => ?_) rfl
  obtain ⟨v, τ, rfl, rfl, hv, hC2, hk⟩ := hp_
  have hM2 := hM.keep hk
  show Ev g mL_law 827 [some (vS), some (vR (0)), some (vR (272)), some (vI (((i : Nat) : Int)))] [vI (v)] (M0 (τ)) 0 0 _
  refine Ev.aload_n dL_law_827 rfl rfl ?_
  refine Ev.aloadS dL_law_828 rfl rfl ?_
  refine Ev.iload_n dL_law_829 rfl rfl ?_
  refine Ev.iconst dL_law_830 ?_
  refine Ev.iadd dL_law_831 ?_
  refine Ev.sload (v := (sc g (i + 1))) rfl dL_law_832 (by omega) (by omega) (by omega) (sc_at (by omega)) ?_
  refine Ev.aloadS dL_law_833 rfl rfl ?_
  refine Ev.iload_n dL_law_834 rfl rfl ?_
  refine Ev.iconst dL_law_835 ?_
  refine Ev.iadd dL_law_836 ?_
  refine Ev.sload (v := (sc g (i + 2))) rfl dL_law_837 (by omega) (by omega) (by omega) (sc_at (by omega)) ?_
  refine Ev.callV_G (M2 := mX8_why) (args2 := [vI ((sc g (i + 1))), vI ((sc g (i + 2)))]) (rcv := 272) (q := (RX8, TX8, 34)) (ci := 8) dL_law_838 okX8_why (tbl_i 966 (by decide +kernel)) ovX8_why.1.1 ovX8_why.1.2 ovX8_why.2 (by decide) rfl rfl ltc_272 shc_272 rfl (Nat.le_of_ble_eq_true rfl) (Nat.le_of_ble_eq_true rfl) (r_why s τ hM2 ((sc g (i + 1))) sc_inR ((sc g (i + 2))) sc_inR) (fun v_ m_ hp_ => ?_) rfl
  obtain ⟨w, ρ, rfl, rfl, hw, hM3, hk2⟩ := hp_
  have hC3 := hC2.keep hk2
  show Ev g mL_law 841 [some (vS), some (vR (0)), some (vR (272)), some (vI (((i : Nat) : Int)))] [vI (w), vI (v)] (M0 (ρ)) 0 0 _
  obtain rfl : w = v := hw.trans hv.symm
  refine Ev.icmp_same (tgt := 1224) dL_law_841 (by decide) ?_
  exact hgo _ ρ hC3 hM3

set_option maxRecDepth 100000 in
set_option maxHeartbeats 4000000 in
theorem law_18 {g : GC} (hL : g.2.2.2.2.2.1 ≤ 3072) (i : Nat) (hi : (i : Int) + 6 ≤ g.2.2.2.2.2.1) (s : SS) (σ : Sg) (hC : CI s σ) (hM : MI s σ) {Post : Option PV → Mem → Prop} (hgo : ∀ (s2 : SS) (ρ : Sg), CI s2 ρ → MI s2 ρ → Ev g mL_law 1224 [some (vS), some (vR (0)), some (vR (272)), some (vI (((i : Nat) : Int)))] [] (M0 (ρ)) 0 0 Post) : Ev g mL_law 846 [some (vS), some (vR (0)), some (vR (272)), some (vI (((i : Nat) : Int)))] [] (M0 (σ)) 0 0 (Post) := by
  refine Ev.aload_n dL_law_846 rfl rfl ?_
  refine Ev.aloadS dL_law_847 rfl rfl ?_
  refine Ev.iload_n dL_law_848 rfl rfl ?_
  refine Ev.iconst dL_law_849 ?_
  refine Ev.iadd dL_law_850 ?_
  refine Ev.sload (v := (sc g (i + 1))) rfl dL_law_851 (by omega) (by omega) (by omega) (sc_at (by omega)) ?_
  refine Ev.callV_G (M2 := mX7_reason) (args2 := [vI ((sc g (i + 1)))]) (rcv := 0) (q := (RX7, TX7, 20)) (ci := 7) dL_law_852 okX7_reason (tbl_i 551 (by decide +kernel)) ovX7_reason.1.1 ovX7_reason.1.2 ovX7_reason.2 (by decide) rfl rfl ltc_0 shc_0 rfl (Nat.le_of_ble_eq_true rfl) (Nat.le_of_ble_eq_true rfl) (c_reason s σ hC ((sc g (i + 1))) sc_inR) (fun v_ m_ hp_ => ?_) rfl
  obtain ⟨v, τ, rfl, rfl, hv, hC2, hk⟩ := hp_
  have hM2 := hM.keep hk
  show Ev g mL_law 855 [some (vS), some (vR (0)), some (vR (272)), some (vI (((i : Nat) : Int)))] [vI (v)] (M0 (τ)) 0 0 _
  refine Ev.aload_n dL_law_855 rfl rfl ?_
  refine Ev.aloadS dL_law_856 rfl rfl ?_
  refine Ev.iload_n dL_law_857 rfl rfl ?_
  refine Ev.iconst dL_law_858 ?_
  refine Ev.iadd dL_law_859 ?_
  refine Ev.sload (v := (sc g (i + 1))) rfl dL_law_860 (by omega) (by omega) (by omega) (sc_at (by omega)) ?_
  refine Ev.callV_G (M2 := mX8_reason) (args2 := [vI ((sc g (i + 1)))]) (rcv := 272) (q := (RX8, TX8, 34)) (ci := 8) dL_law_861 okX8_reason (tbl_i 982 (by decide +kernel)) ovX8_reason.1.1 ovX8_reason.1.2 ovX8_reason.2 (by decide) rfl rfl ltc_272 shc_272 rfl (Nat.le_of_ble_eq_true rfl) (Nat.le_of_ble_eq_true rfl) (r_reason s τ hM2 ((sc g (i + 1))) sc_inR) (fun v_ m_ hp_ => ?_) rfl
  obtain ⟨w, ρ, rfl, rfl, hw, hM3, hk2⟩ := hp_
  have hC3 := hC2.keep hk2
  show Ev g mL_law 864 [some (vS), some (vR (0)), some (vR (272)), some (vI (((i : Nat) : Int)))] [vI (w), vI (v)] (M0 (ρ)) 0 0 _
  obtain rfl : w = v := hw.trans hv.symm
  refine Ev.icmp_same (tgt := 1224) dL_law_864 (by decide) ?_
  exact hgo _ ρ hC3 hM3

set_option maxRecDepth 100000 in
set_option maxHeartbeats 4000000 in
theorem law_19 {g : GC} (hL : g.2.2.2.2.2.1 ≤ 3072) (i : Nat) (hi : (i : Int) + 6 ≤ g.2.2.2.2.2.1) (s : SS) (σ : Sg) (hC : CI s σ) (hM : MI s σ) {Post : Option PV → Mem → Prop} (hgo : ∀ (s2 : SS) (ρ : Sg), CI s2 ρ → MI s2 ρ → Ev g mL_law 1224 [some (vS), some (vR (0)), some (vR (272)), some (vI (((i : Nat) : Int)))] [] (M0 (ρ)) 0 0 Post) : Ev g mL_law 869 [some (vS), some (vR (0)), some (vR (272)), some (vI (((i : Nat) : Int)))] [] (M0 (σ)) 0 0 (Post) := by
  refine Ev.aload_n dL_law_869 rfl rfl ?_
  refine Ev.callV_G (M2 := mX7_solve) (args2 := []) (rcv := 0) (q := (RX7, TX7, 20)) (ci := 7) dL_law_870 okX7_solve (tbl_i 555 (by decide +kernel)) ovX7_solve.1.1 ovX7_solve.1.2 ovX7_solve.2 (by decide) rfl rfl ltc_0 shc_0 rfl (Nat.le_of_ble_eq_true rfl) (Nat.le_of_ble_eq_true rfl) (c_solve s σ hC ) (fun v_ m_ hp_ => ?_) rfl
  obtain ⟨v, τ, rfl, rfl, hv, hC2, hk⟩ := hp_
  have hM2 := hM.keep hk
  show Ev g mL_law 873 [some (vS), some (vR (0)), some (vR (272)), some (vI (((i : Nat) : Int)))] [vI (v)] (M0 (τ)) 0 0 _
  refine Ev.aload_n dL_law_873 rfl rfl ?_
  refine Ev.callV_G (M2 := mX8_solve) (args2 := []) (rcv := 272) (q := (RX8, TX8, 34)) (ci := 8) dL_law_874 okX8_solve (tbl_i 986 (by decide +kernel)) ovX8_solve.1.1 ovX8_solve.1.2 ovX8_solve.2 (by decide) rfl rfl ltc_272 shc_272 rfl (Nat.le_of_ble_eq_true rfl) (Nat.le_of_ble_eq_true rfl) (r_solve s τ hM2 ) (fun v_ m_ hp_ => ?_) rfl
  obtain ⟨w, ρ, rfl, rfl, hw, hM3, hk2⟩ := hp_
  have hC3 := hC2.keep hk2
  show Ev g mL_law 877 [some (vS), some (vR (0)), some (vR (272)), some (vI (((i : Nat) : Int)))] [vI (w), vI (v)] (M0 (ρ)) 0 0 _
  obtain rfl : w = v := hw.trans hv.symm
  refine Ev.icmp_same (tgt := 1224) dL_law_877 (by decide) ?_
  exact hgo _ ρ hC3 hM3

set_option maxRecDepth 100000 in
set_option maxHeartbeats 4000000 in
theorem law_20 {g : GC} (hL : g.2.2.2.2.2.1 ≤ 3072) (i : Nat) (hi : (i : Int) + 6 ≤ g.2.2.2.2.2.1) (s : SS) (σ : Sg) (hC : CI s σ) (hM : MI s σ) {Post : Option PV → Mem → Prop} (hgo : ∀ (s2 : SS) (ρ : Sg), CI s2 ρ → MI s2 ρ → Ev g mL_law 1224 [some (vS), some (vR (0)), some (vR (272)), some (vI (((i : Nat) : Int)))] [] (M0 (ρ)) 0 0 Post) : Ev g mL_law 882 [some (vS), some (vR (0)), some (vR (272)), some (vI (((i : Nat) : Int)))] [] (M0 (σ)) 0 0 (Post) := by
  refine Ev.aload_n dL_law_882 rfl rfl ?_
  refine Ev.callV_G (M2 := mX7_next) (args2 := []) (rcv := 0) (q := (RX7, TX7, 20)) (ci := 7) dL_law_883 okX7_next (tbl_i 600 (by decide +kernel)) ovX7_next.1.1 ovX7_next.1.2 ovX7_next.2 (by decide) rfl rfl ltc_0 shc_0 rfl (Nat.le_of_ble_eq_true rfl) (Nat.le_of_ble_eq_true rfl) (c_next s σ hC ) (fun v_ m_ hp_ => ?_) rfl
  obtain ⟨v, τ, rfl, rfl, hv, hC2, hk⟩ := hp_
  have hM2 := hM.keep hk
  show Ev g mL_law 886 [some (vS), some (vR (0)), some (vR (272)), some (vI (((i : Nat) : Int)))] [vI (v)] (M0 (τ)) 0 0 _
  refine Ev.aload_n dL_law_886 rfl rfl ?_
  refine Ev.callV_G (M2 := mX8_next) (args2 := []) (rcv := 272) (q := (RX8, TX8, 34)) (ci := 8) dL_law_887 okX8_next (tbl_i 1043 (by decide +kernel)) ovX8_next.1.1 ovX8_next.1.2 ovX8_next.2 (by decide) rfl rfl ltc_272 shc_272 rfl (Nat.le_of_ble_eq_true rfl) (Nat.le_of_ble_eq_true rfl) (r_next s τ hM2 ) (fun v_ m_ hp_ => ?_) rfl
  obtain ⟨w, ρ, rfl, rfl, hw, hM3, hk2⟩ := hp_
  have hC3 := hC2.keep hk2
  show Ev g mL_law 890 [some (vS), some (vR (0)), some (vR (272)), some (vI (((i : Nat) : Int)))] [vI (w), vI (v)] (M0 (ρ)) 0 0 _
  obtain rfl : w = v := hw.trans hv.symm
  refine Ev.icmp_same (tgt := 1224) dL_law_890 (by decide) ?_
  exact hgo _ ρ hC3 hM3

set_option maxRecDepth 100000 in
set_option maxHeartbeats 4000000 in
theorem law_21 {g : GC} (hL : g.2.2.2.2.2.1 ≤ 3072) (i : Nat) (hi : (i : Int) + 6 ≤ g.2.2.2.2.2.1) (s : SS) (σ : Sg) (hC : CI s σ) (hM : MI s σ) {Post : Option PV → Mem → Prop} (hgo : ∀ (s2 : SS) (ρ : Sg), CI s2 ρ → MI s2 ρ → Ev g mL_law 1224 [some (vS), some (vR (0)), some (vR (272)), some (vI (((i : Nat) : Int)))] [] (M0 (ρ)) 0 0 Post) : Ev g mL_law 895 [some (vS), some (vR (0)), some (vR (272)), some (vI (((i : Nat) : Int)))] [] (M0 (σ)) 0 0 (Post) := by
  refine Ev.aload_n dL_law_895 rfl rfl ?_
  refine Ev.aloadS dL_law_896 rfl rfl ?_
  refine Ev.iload_n dL_law_897 rfl rfl ?_
  refine Ev.iconst dL_law_898 ?_
  refine Ev.iadd dL_law_899 ?_
  refine Ev.sload (v := (sc g (i + 1))) rfl dL_law_900 (by omega) (by omega) (by omega) (sc_at (by omega)) ?_
  refine Ev.callV_G (M2 := mX7_answer) (args2 := [vI ((sc g (i + 1)))]) (rcv := 0) (q := (RX7, TX7, 20)) (ci := 7) dL_law_901 okX7_answer (tbl_i 608 (by decide +kernel)) ovX7_answer.1.1 ovX7_answer.1.2 ovX7_answer.2 (by decide) rfl rfl ltc_0 shc_0 rfl (Nat.le_of_ble_eq_true rfl) (Nat.le_of_ble_eq_true rfl) (c_answer s σ hC ((sc g (i + 1))) sc_inR) (fun v_ m_ hp_ => ?_) rfl
  obtain ⟨v, τ, rfl, rfl, hv, hC2, hk⟩ := hp_
  have hM2 := hM.keep hk
  show Ev g mL_law 904 [some (vS), some (vR (0)), some (vR (272)), some (vI (((i : Nat) : Int)))] [vI (v)] (M0 (τ)) 0 0 _
  refine Ev.aload_n dL_law_904 rfl rfl ?_
  refine Ev.aloadS dL_law_905 rfl rfl ?_
  refine Ev.iload_n dL_law_906 rfl rfl ?_
  refine Ev.iconst dL_law_907 ?_
  refine Ev.iadd dL_law_908 ?_
  refine Ev.sload (v := (sc g (i + 1))) rfl dL_law_909 (by omega) (by omega) (by omega) (sc_at (by omega)) ?_
  refine Ev.callV_G (M2 := mX8_answer) (args2 := [vI ((sc g (i + 1)))]) (rcv := 272) (q := (RX8, TX8, 34)) (ci := 8) dL_law_910 okX8_answer (tbl_i 1051 (by decide +kernel)) ovX8_answer.1.1 ovX8_answer.1.2 ovX8_answer.2 (by decide) rfl rfl ltc_272 shc_272 rfl (Nat.le_of_ble_eq_true rfl) (Nat.le_of_ble_eq_true rfl) (r_answer s τ hM2 ((sc g (i + 1))) sc_inR) (fun v_ m_ hp_ => ?_) rfl
  obtain ⟨w, ρ, rfl, rfl, hw, hM3, hk2⟩ := hp_
  have hC3 := hC2.keep hk2
  show Ev g mL_law 913 [some (vS), some (vR (0)), some (vR (272)), some (vI (((i : Nat) : Int)))] [vI (w), vI (v)] (M0 (ρ)) 0 0 _
  obtain rfl : w = v := hw.trans hv.symm
  refine Ev.icmp_same (tgt := 1224) dL_law_913 (by decide) ?_
  exact hgo _ ρ hC3 hM3

set_option maxRecDepth 100000 in
set_option maxHeartbeats 4000000 in
theorem law_22 {g : GC} (hL : g.2.2.2.2.2.1 ≤ 3072) (i : Nat) (hi : (i : Int) + 6 ≤ g.2.2.2.2.2.1) (s : SS) (σ : Sg) (hC : CI s σ) (hM : MI s σ) {Post : Option PV → Mem → Prop} (hgo : ∀ (s2 : SS) (ρ : Sg), CI s2 ρ → MI s2 ρ → Ev g mL_law 1224 [some (vS), some (vR (0)), some (vR (272)), some (vI (((i : Nat) : Int)))] [] (M0 (ρ)) 0 0 Post) : Ev g mL_law 918 [some (vS), some (vR (0)), some (vR (272)), some (vI (((i : Nat) : Int)))] [] (M0 (σ)) 0 0 (Post) := by
  refine Ev.aload_n dL_law_918 rfl rfl ?_
  refine Ev.aloadS dL_law_919 rfl rfl ?_
  refine Ev.iload_n dL_law_920 rfl rfl ?_
  refine Ev.iconst dL_law_921 ?_
  refine Ev.iadd dL_law_922 ?_
  refine Ev.sload (v := (sc g (i + 1))) rfl dL_law_923 (by omega) (by omega) (by omega) (sc_at (by omega)) ?_
  refine Ev.callV_G (M2 := mX7_count) (args2 := [vI ((sc g (i + 1)))]) (rcv := 0) (q := (RX7, TX7, 20)) (ci := 7) dL_law_924 okX7_count (tbl_i 612 (by decide +kernel)) ovX7_count.1.1 ovX7_count.1.2 ovX7_count.2 (by decide) rfl rfl ltc_0 shc_0 rfl (Nat.le_of_ble_eq_true rfl) (Nat.le_of_ble_eq_true rfl) (c_count s σ hC ((sc g (i + 1))) sc_inR) (fun v_ m_ hp_ => ?_) rfl
  obtain ⟨v, τ, rfl, rfl, hv, hC2, hk⟩ := hp_
  have hM2 := hM.keep hk
  show Ev g mL_law 927 [some (vS), some (vR (0)), some (vR (272)), some (vI (((i : Nat) : Int)))] [vI (v)] (M0 (τ)) 0 0 _
  refine Ev.aload_n dL_law_927 rfl rfl ?_
  refine Ev.aloadS dL_law_928 rfl rfl ?_
  refine Ev.iload_n dL_law_929 rfl rfl ?_
  refine Ev.iconst dL_law_930 ?_
  refine Ev.iadd dL_law_931 ?_
  refine Ev.sload (v := (sc g (i + 1))) rfl dL_law_932 (by omega) (by omega) (by omega) (sc_at (by omega)) ?_
  refine Ev.callV_G (M2 := mX8_count) (args2 := [vI ((sc g (i + 1)))]) (rcv := 272) (q := (RX8, TX8, 34)) (ci := 8) dL_law_933 okX8_count (tbl_i 1055 (by decide +kernel)) ovX8_count.1.1 ovX8_count.1.2 ovX8_count.2 (by decide) rfl rfl ltc_272 shc_272 rfl (Nat.le_of_ble_eq_true rfl) (Nat.le_of_ble_eq_true rfl) (r_count s τ hM2 ((sc g (i + 1))) sc_inR) (fun v_ m_ hp_ => ?_) rfl
  obtain ⟨w, ρ, rfl, rfl, hw, hM3, hk2⟩ := hp_
  have hC3 := hC2.keep hk2
  show Ev g mL_law 936 [some (vS), some (vR (0)), some (vR (272)), some (vI (((i : Nat) : Int)))] [vI (w), vI (v)] (M0 (ρ)) 0 0 _
  obtain rfl : w = v := hw.trans hv.symm
  refine Ev.icmp_same (tgt := 1224) dL_law_936 (by decide) ?_
  exact hgo _ ρ hC3 hM3

set_option maxRecDepth 100000 in
set_option maxHeartbeats 4000000 in
theorem law_23 {g : GC} (hL : g.2.2.2.2.2.1 ≤ 3072) (i : Nat) (hi : (i : Int) + 6 ≤ g.2.2.2.2.2.1) (s : SS) (σ : Sg) (hC : CI s σ) (hM : MI s σ) {Post : Option PV → Mem → Prop} (hgo : ∀ (s2 : SS) (ρ : Sg), CI s2 ρ → MI s2 ρ → Ev g mL_law 1224 [some (vS), some (vR (0)), some (vR (272)), some (vI (((i : Nat) : Int)))] [] (M0 (ρ)) 0 0 Post) : Ev g mL_law 941 [some (vS), some (vR (0)), some (vR (272)), some (vI (((i : Nat) : Int)))] [] (M0 (σ)) 0 0 (Post) := by
  refine Ev.aload_n dL_law_941 rfl rfl ?_
  refine Ev.aloadS dL_law_942 rfl rfl ?_
  refine Ev.iload_n dL_law_943 rfl rfl ?_
  refine Ev.iconst dL_law_944 ?_
  refine Ev.iadd dL_law_945 ?_
  refine Ev.sload (v := (sc g (i + 1))) rfl dL_law_946 (by omega) (by omega) (by omega) (sc_at (by omega)) ?_
  refine Ev.aloadS dL_law_947 rfl rfl ?_
  refine Ev.iload_n dL_law_948 rfl rfl ?_
  refine Ev.iconst dL_law_949 ?_
  refine Ev.iadd dL_law_950 ?_
  refine Ev.sload (v := (sc g (i + 2))) rfl dL_law_951 (by omega) (by omega) (by omega) (sc_at (by omega)) ?_
  refine Ev.if_eq (tgt := 959) sc_inR dL_law_952 (by decide) (fun h952 => ?_) (fun h952 => ?_)
  · skip
    refine Ev.iconst dL_law_959 ?_
    refine Ev.callV_G (M2 := mX7_best) (args2 := [vI ((sc g (i + 1))), vI (0)]) (rcv := 0) (q := (RX7, TX7, 20)) (ci := 7) dL_law_960 okX7_best (tbl_i 616 (by decide +kernel)) ovX7_best.1.1 ovX7_best.1.2 ovX7_best.2 (by decide) rfl rfl ltc_0 shc_0 rfl (Nat.le_of_ble_eq_true rfl) (Nat.le_of_ble_eq_true rfl) (c_best s σ hC ((sc g (i + 1))) sc_inR 0 ⟨by decide, by decide⟩) (fun v_ m_ hp_ => ?_) rfl
    obtain ⟨v, τ0, rfl, rfl, hv, hC2, hk⟩ := hp_
    have hM2 := hM.keep hk
    show Ev g mL_law 963 [some (vS), some (vR (0)), some (vR (272)), some (vI (((i : Nat) : Int)))] [vI (v)] (M0 (τ0)) 0 0 _
    refine Ev.aload_n dL_law_963 rfl rfl ?_
    refine Ev.aloadS dL_law_964 rfl rfl ?_
    refine Ev.iload_n dL_law_965 rfl rfl ?_
    refine Ev.iconst dL_law_966 ?_
    refine Ev.iadd dL_law_967 ?_
    refine Ev.sload (v := (sc g (i + 1))) rfl dL_law_968 (by omega) (by omega) (by omega) (sc_at (by omega)) ?_
    refine Ev.aloadS dL_law_969 rfl rfl ?_
    refine Ev.iload_n dL_law_970 rfl rfl ?_
    refine Ev.iconst dL_law_971 ?_
    refine Ev.iadd dL_law_972 ?_
    refine Ev.sload (v := (sc g (i + 2))) rfl dL_law_973 (by omega) (by omega) (by omega) (sc_at (by omega)) ?_
    refine Ev.if_eq (tgt := 981) sc_inR dL_law_974 (by decide) (fun h974 => ?_) (fun h974 => ?_)
    · skip
      refine Ev.iconst dL_law_981 ?_
      refine Ev.callV_G (M2 := mX8_best) (args2 := [vI ((sc g (i + 1))), vI (0)]) (rcv := 272) (q := (RX8, TX8, 34)) (ci := 8) dL_law_982 okX8_best (tbl_i 1059 (by decide +kernel)) ovX8_best.1.1 ovX8_best.1.2 ovX8_best.2 (by decide) rfl rfl ltc_272 shc_272 rfl (Nat.le_of_ble_eq_true rfl) (Nat.le_of_ble_eq_true rfl) (r_best s τ0 hM2 ((sc g (i + 1))) sc_inR 0 ⟨by decide, by decide⟩) (fun v_ m_ hp_ => ?_) rfl
      obtain ⟨w, ρ, rfl, rfl, hw, hM3, hk2⟩ := hp_
      have hC3 := hC2.keep hk2
      show Ev g mL_law 985 [some (vS), some (vR (0)), some (vR (272)), some (vI (((i : Nat) : Int)))] [vI (w), vI (v)] (M0 (ρ)) 0 0 _
      obtain rfl : w = v := hw.trans hv.symm
      refine Ev.icmp_same (tgt := 1224) dL_law_985 (by decide) ?_
      exact hgo _ ρ hC3 hM3
    · exact absurd h974 (by omega)
  · skip
    refine Ev.iconst dL_law_955 ?_
    refine Ev.goto (tgt := 960) dL_law_956 (by decide) ?_
    refine Ev.callV_G (M2 := mX7_best) (args2 := [vI ((sc g (i + 1))), vI (1)]) (rcv := 0) (q := (RX7, TX7, 20)) (ci := 7) dL_law_960 okX7_best (tbl_i 616 (by decide +kernel)) ovX7_best.1.1 ovX7_best.1.2 ovX7_best.2 (by decide) rfl rfl ltc_0 shc_0 rfl (Nat.le_of_ble_eq_true rfl) (Nat.le_of_ble_eq_true rfl) (c_best s σ hC ((sc g (i + 1))) sc_inR 1 ⟨by decide, by decide⟩) (fun v_ m_ hp_ => ?_) rfl
    obtain ⟨v, τ, rfl, rfl, hv, hC2, hk⟩ := hp_
    have hM2 := hM.keep hk
    show Ev g mL_law 963 [some (vS), some (vR (0)), some (vR (272)), some (vI (((i : Nat) : Int)))] [vI (v)] (M0 (τ)) 0 0 _
    refine Ev.aload_n dL_law_963 rfl rfl ?_
    refine Ev.aloadS dL_law_964 rfl rfl ?_
    refine Ev.iload_n dL_law_965 rfl rfl ?_
    refine Ev.iconst dL_law_966 ?_
    refine Ev.iadd dL_law_967 ?_
    refine Ev.sload (v := (sc g (i + 1))) rfl dL_law_968 (by omega) (by omega) (by omega) (sc_at (by omega)) ?_
    refine Ev.aloadS dL_law_969 rfl rfl ?_
    refine Ev.iload_n dL_law_970 rfl rfl ?_
    refine Ev.iconst dL_law_971 ?_
    refine Ev.iadd dL_law_972 ?_
    refine Ev.sload (v := (sc g (i + 2))) rfl dL_law_973 (by omega) (by omega) (by omega) (sc_at (by omega)) ?_
    refine Ev.if_eq (tgt := 981) sc_inR dL_law_974 (by decide) (fun h974 => ?_) (fun h974 => ?_)
    · exact absurd h974 (by omega)
    · skip
      refine Ev.iconst dL_law_977 ?_
      refine Ev.goto (tgt := 982) dL_law_978 (by decide) ?_
      refine Ev.callV_G (M2 := mX8_best) (args2 := [vI ((sc g (i + 1))), vI (1)]) (rcv := 272) (q := (RX8, TX8, 34)) (ci := 8) dL_law_982 okX8_best (tbl_i 1059 (by decide +kernel)) ovX8_best.1.1 ovX8_best.1.2 ovX8_best.2 (by decide) rfl rfl ltc_272 shc_272 rfl (Nat.le_of_ble_eq_true rfl) (Nat.le_of_ble_eq_true rfl) (r_best s τ hM2 ((sc g (i + 1))) sc_inR 1 ⟨by decide, by decide⟩) (fun v_ m_ hp_ => ?_) rfl
      obtain ⟨w, ρ, rfl, rfl, hw, hM3, hk2⟩ := hp_
      have hC3 := hC2.keep hk2
      show Ev g mL_law 985 [some (vS), some (vR (0)), some (vR (272)), some (vI (((i : Nat) : Int)))] [vI (w), vI (v)] (M0 (ρ)) 0 0 _
      obtain rfl : w = v := hw.trans hv.symm
      refine Ev.icmp_same (tgt := 1224) dL_law_985 (by decide) ?_
      exact hgo _ ρ hC3 hM3

set_option maxRecDepth 100000 in
set_option maxHeartbeats 4000000 in
theorem law_24 {g : GC} (hL : g.2.2.2.2.2.1 ≤ 3072) (i : Nat) (hi : (i : Int) + 6 ≤ g.2.2.2.2.2.1) (s : SS) (σ : Sg) (hC : CI s σ) (hM : MI s σ) {Post : Option PV → Mem → Prop} (hgo : ∀ (s2 : SS) (ρ : Sg), CI s2 ρ → MI s2 ρ → Ev g mL_law 1224 [some (vS), some (vR (0)), some (vR (272)), some (vI (((i : Nat) : Int)))] [] (M0 (ρ)) 0 0 Post) : Ev g mL_law 990 [some (vS), some (vR (0)), some (vR (272)), some (vI (((i : Nat) : Int)))] [] (M0 (σ)) 0 0 (Post) := by
  refine Ev.aload_n dL_law_990 rfl rfl ?_
  refine Ev.aloadS dL_law_991 rfl rfl ?_
  refine Ev.iload_n dL_law_992 rfl rfl ?_
  refine Ev.iconst dL_law_993 ?_
  refine Ev.iadd dL_law_994 ?_
  refine Ev.sload (v := (sc g (i + 1))) rfl dL_law_995 (by omega) (by omega) (by omega) (sc_at (by omega)) ?_
  refine Ev.aloadS dL_law_996 rfl rfl ?_
  refine Ev.iload_n dL_law_997 rfl rfl ?_
  refine Ev.iconst dL_law_998 ?_
  refine Ev.iadd dL_law_999 ?_
  refine Ev.sload (v := (sc g (i + 2))) rfl dL_law_1000 (by omega) (by omega) (by omega) (sc_at (by omega)) ?_
  refine Ev.aloadS dL_law_1001 rfl rfl ?_
  refine Ev.iload_n dL_law_1002 rfl rfl ?_
  refine Ev.iconst dL_law_1003 ?_
  refine Ev.iadd dL_law_1004 ?_
  refine Ev.sload (v := (sc g (i + 3))) rfl dL_law_1005 (by omega) (by omega) (by omega) (sc_at (by omega)) ?_
  refine Ev.callV_G (M2 := mX7_has) (args2 := [vI ((sc g (i + 1))), vI ((sc g (i + 2))), vI ((sc g (i + 3)))]) (rcv := 0) (q := (RX7, TX7, 20)) (ci := 7) dL_law_1006 okX7_has (tbl_i 624 (by decide +kernel)) ovX7_has.1.1 ovX7_has.1.2 ovX7_has.2 (by decide) rfl rfl ltc_0 shc_0 rfl (Nat.le_of_ble_eq_true rfl) (Nat.le_of_ble_eq_true rfl) (c_has s σ hC ((sc g (i + 1))) sc_inR ((sc g (i + 2))) sc_inR ((sc g (i + 3))) sc_inR) (fun v_ m_ hp_ => ?_) rfl
  obtain ⟨v, τ, rfl, rfl, hv, hC2, hk⟩ := hp_
  have hM2 := hM.keep hk
  show Ev g mL_law 1009 [some (vS), some (vR (0)), some (vR (272)), some (vI (((i : Nat) : Int)))] [vI (v)] (M0 (τ)) 0 0 _
  refine Ev.aload_n dL_law_1009 rfl rfl ?_
  refine Ev.aloadS dL_law_1010 rfl rfl ?_
  refine Ev.iload_n dL_law_1011 rfl rfl ?_
  refine Ev.iconst dL_law_1012 ?_
  refine Ev.iadd dL_law_1013 ?_
  refine Ev.sload (v := (sc g (i + 1))) rfl dL_law_1014 (by omega) (by omega) (by omega) (sc_at (by omega)) ?_
  refine Ev.aloadS dL_law_1015 rfl rfl ?_
  refine Ev.iload_n dL_law_1016 rfl rfl ?_
  refine Ev.iconst dL_law_1017 ?_
  refine Ev.iadd dL_law_1018 ?_
  refine Ev.sload (v := (sc g (i + 2))) rfl dL_law_1019 (by omega) (by omega) (by omega) (sc_at (by omega)) ?_
  refine Ev.aloadS dL_law_1020 rfl rfl ?_
  refine Ev.iload_n dL_law_1021 rfl rfl ?_
  refine Ev.iconst dL_law_1022 ?_
  refine Ev.iadd dL_law_1023 ?_
  refine Ev.sload (v := (sc g (i + 3))) rfl dL_law_1024 (by omega) (by omega) (by omega) (sc_at (by omega)) ?_
  refine Ev.callV_G (M2 := mX8_has) (args2 := [vI ((sc g (i + 1))), vI ((sc g (i + 2))), vI ((sc g (i + 3)))]) (rcv := 272) (q := (RX8, TX8, 34)) (ci := 8) dL_law_1025 okX8_has (tbl_i 1063 (by decide +kernel)) ovX8_has.1.1 ovX8_has.1.2 ovX8_has.2 (by decide) rfl rfl ltc_272 shc_272 rfl (Nat.le_of_ble_eq_true rfl) (Nat.le_of_ble_eq_true rfl) (r_has s τ hM2 ((sc g (i + 1))) sc_inR ((sc g (i + 2))) sc_inR ((sc g (i + 3))) sc_inR) (fun v_ m_ hp_ => ?_) rfl
  obtain ⟨w, ρ, rfl, rfl, hw, hM3, hk2⟩ := hp_
  have hC3 := hC2.keep hk2
  show Ev g mL_law 1028 [some (vS), some (vR (0)), some (vR (272)), some (vI (((i : Nat) : Int)))] [vI (w), vI (v)] (M0 (ρ)) 0 0 _
  obtain rfl : w = v := hw.trans hv.symm
  refine Ev.icmp_same (tgt := 1224) dL_law_1028 (by decide) ?_
  exact hgo _ ρ hC3 hM3

set_option maxRecDepth 100000 in
set_option maxHeartbeats 4000000 in
theorem law_25 {g : GC} (hL : g.2.2.2.2.2.1 ≤ 3072) (i : Nat) (hi : (i : Int) + 6 ≤ g.2.2.2.2.2.1) (s : SS) (σ : Sg) (hC : CI s σ) (hM : MI s σ) {Post : Option PV → Mem → Prop} (hgo : ∀ (s2 : SS) (ρ : Sg), CI s2 ρ → MI s2 ρ → Ev g mL_law 1224 [some (vS), some (vR (0)), some (vR (272)), some (vI (((i : Nat) : Int)))] [] (M0 (ρ)) 0 0 Post) : Ev g mL_law 1033 [some (vS), some (vR (0)), some (vR (272)), some (vI (((i : Nat) : Int)))] [] (M0 (σ)) 0 0 (Post) := by
  refine Ev.aload_n dL_law_1033 rfl rfl ?_
  refine Ev.callV_G (M2 := mX7_core) (args2 := []) (rcv := 0) (q := (RX7, TX7, 20)) (ci := 7) dL_law_1034 okX7_core (tbl_i 628 (by decide +kernel)) ovX7_core.1.1 ovX7_core.1.2 ovX7_core.2 (by decide) rfl rfl ltc_0 shc_0 rfl (Nat.le_of_ble_eq_true rfl) (Nat.le_of_ble_eq_true rfl) (c_core s σ hC ) (fun v_ m_ hp_ => ?_) rfl
  obtain ⟨v, τ, rfl, rfl, hv, hC2, hk⟩ := hp_
  have hM2 := hM.keep hk
  show Ev g mL_law 1037 [some (vS), some (vR (0)), some (vR (272)), some (vI (((i : Nat) : Int)))] [vI (v)] (M0 (τ)) 0 0 _
  refine Ev.aload_n dL_law_1037 rfl rfl ?_
  refine Ev.callV_G (M2 := mX8_core) (args2 := []) (rcv := 272) (q := (RX8, TX8, 34)) (ci := 8) dL_law_1038 okX8_core (tbl_i 1067 (by decide +kernel)) ovX8_core.1.1 ovX8_core.1.2 ovX8_core.2 (by decide) rfl rfl ltc_272 shc_272 rfl (Nat.le_of_ble_eq_true rfl) (Nat.le_of_ble_eq_true rfl) (r_core s τ hM2 ) (fun v_ m_ hp_ => ?_) rfl
  obtain ⟨w, ρ, rfl, rfl, hw, hM3, hk2⟩ := hp_
  have hC3 := hC2.keep hk2
  show Ev g mL_law 1041 [some (vS), some (vR (0)), some (vR (272)), some (vI (((i : Nat) : Int)))] [vI (w), vI (v)] (M0 (ρ)) 0 0 _
  obtain rfl : w = v := hw.trans hv.symm
  refine Ev.icmp_same (tgt := 1224) dL_law_1041 (by decide) ?_
  exact hgo _ ρ hC3 hM3

set_option maxRecDepth 100000 in
set_option maxHeartbeats 4000000 in
theorem law_26 {g : GC} (hL : g.2.2.2.2.2.1 ≤ 3072) (i : Nat) (hi : (i : Int) + 6 ≤ g.2.2.2.2.2.1) (s : SS) (σ : Sg) (hC : CI s σ) (hM : MI s σ) {Post : Option PV → Mem → Prop} (hgo : ∀ (s2 : SS) (ρ : Sg), CI s2 ρ → MI s2 ρ → Ev g mL_law 1224 [some (vS), some (vR (0)), some (vR (272)), some (vI (((i : Nat) : Int)))] [] (M0 (ρ)) 0 0 Post) : Ev g mL_law 1046 [some (vS), some (vR (0)), some (vR (272)), some (vI (((i : Nat) : Int)))] [] (M0 (σ)) 0 0 (Post) := by
  refine Ev.aload_n dL_law_1046 rfl rfl ?_
  refine Ev.aloadS dL_law_1047 rfl rfl ?_
  refine Ev.iload_n dL_law_1048 rfl rfl ?_
  refine Ev.iconst dL_law_1049 ?_
  refine Ev.iadd dL_law_1050 ?_
  refine Ev.sload (v := (sc g (i + 1))) rfl dL_law_1051 (by omega) (by omega) (by omega) (sc_at (by omega)) ?_
  refine Ev.callV_G (M2 := mX7_line) (args2 := [vI ((sc g (i + 1)))]) (rcv := 0) (q := (RX7, TX7, 20)) (ci := 7) dL_law_1052 okX7_line (tbl_i 636 (by decide +kernel)) ovX7_line.1.1 ovX7_line.1.2 ovX7_line.2 (by decide) rfl rfl ltc_0 shc_0 rfl (Nat.le_of_ble_eq_true rfl) (Nat.le_of_ble_eq_true rfl) (c_line s σ hC ((sc g (i + 1))) sc_inR) (fun v_ m_ hp_ => ?_) rfl
  obtain ⟨v, τ, rfl, rfl, hv, hC2, hk⟩ := hp_
  have hM2 := hM.keep hk
  show Ev g mL_law 1055 [some (vS), some (vR (0)), some (vR (272)), some (vI (((i : Nat) : Int)))] [vI (v)] (M0 (τ)) 0 0 _
  refine Ev.aload_n dL_law_1055 rfl rfl ?_
  refine Ev.aloadS dL_law_1056 rfl rfl ?_
  refine Ev.iload_n dL_law_1057 rfl rfl ?_
  refine Ev.iconst dL_law_1058 ?_
  refine Ev.iadd dL_law_1059 ?_
  refine Ev.sload (v := (sc g (i + 1))) rfl dL_law_1060 (by omega) (by omega) (by omega) (sc_at (by omega)) ?_
  refine Ev.callV_G (M2 := mX8_line) (args2 := [vI ((sc g (i + 1)))]) (rcv := 272) (q := (RX8, TX8, 34)) (ci := 8) dL_law_1061 okX8_line (tbl_i 1075 (by decide +kernel)) ovX8_line.1.1 ovX8_line.1.2 ovX8_line.2 (by decide) rfl rfl ltc_272 shc_272 rfl (Nat.le_of_ble_eq_true rfl) (Nat.le_of_ble_eq_true rfl) (r_line s τ hM2 ((sc g (i + 1))) sc_inR) (fun v_ m_ hp_ => ?_) rfl
  obtain ⟨w, ρ, rfl, rfl, hw, hM3, hk2⟩ := hp_
  have hC3 := hC2.keep hk2
  show Ev g mL_law 1064 [some (vS), some (vR (0)), some (vR (272)), some (vI (((i : Nat) : Int)))] [vI (w), vI (v)] (M0 (ρ)) 0 0 _
  obtain rfl : w = v := hw.trans hv.symm
  refine Ev.icmp_same (tgt := 1224) dL_law_1064 (by decide) ?_
  exact hgo _ ρ hC3 hM3

set_option maxRecDepth 100000 in
set_option maxHeartbeats 4000000 in
theorem law_27 {g : GC} (hL : g.2.2.2.2.2.1 ≤ 3072) (i : Nat) (hi : (i : Int) + 6 ≤ g.2.2.2.2.2.1) (s : SS) (σ : Sg) (hC : CI s σ) (hM : MI s σ) {Post : Option PV → Mem → Prop} (hgo : ∀ (s2 : SS) (ρ : Sg), CI s2 ρ → MI s2 ρ → Ev g mL_law 1224 [some (vS), some (vR (0)), some (vR (272)), some (vI (((i : Nat) : Int)))] [] (M0 (ρ)) 0 0 Post) : Ev g mL_law 1069 [some (vS), some (vR (0)), some (vR (272)), some (vI (((i : Nat) : Int)))] [] (M0 (σ)) 0 0 (Post) := by
  refine Ev.aload_n dL_law_1069 rfl rfl ?_
  refine Ev.aloadS dL_law_1070 rfl rfl ?_
  refine Ev.iload_n dL_law_1071 rfl rfl ?_
  refine Ev.iconst dL_law_1072 ?_
  refine Ev.iadd dL_law_1073 ?_
  refine Ev.sload (v := (sc g (i + 1))) rfl dL_law_1074 (by omega) (by omega) (by omega) (sc_at (by omega)) ?_
  refine Ev.aloadS dL_law_1075 rfl rfl ?_
  refine Ev.iload_n dL_law_1076 rfl rfl ?_
  refine Ev.iconst dL_law_1077 ?_
  refine Ev.iadd dL_law_1078 ?_
  refine Ev.sload (v := (sc g (i + 2))) rfl dL_law_1079 (by omega) (by omega) (by omega) (sc_at (by omega)) ?_
  refine Ev.aloadS dL_law_1080 rfl rfl ?_
  refine Ev.iload_n dL_law_1081 rfl rfl ?_
  refine Ev.iconst dL_law_1082 ?_
  refine Ev.iadd dL_law_1083 ?_
  refine Ev.sload (v := (sc g (i + 3))) rfl dL_law_1084 (by omega) (by omega) (by omega) (sc_at (by omega)) ?_
  refine Ev.aloadS dL_law_1085 rfl rfl ?_
  refine Ev.iload_n dL_law_1086 rfl rfl ?_
  refine Ev.iconst dL_law_1087 ?_
  refine Ev.iadd dL_law_1088 ?_
  refine Ev.sload (v := (sc g (i + 4))) rfl dL_law_1089 (by omega) (by omega) (by omega) (sc_at (by omega)) ?_
  refine Ev.callV_G (M2 := mX7_says) (args2 := [vI ((sc g (i + 1))), vI ((sc g (i + 2))), vI ((sc g (i + 3))), vI ((sc g (i + 4)))]) (rcv := 0) (q := (RX7, TX7, 20)) (ci := 7) dL_law_1090 okX7_says (tbl_i 640 (by decide +kernel)) ovX7_says.1.1 ovX7_says.1.2 ovX7_says.2 (by decide) rfl rfl ltc_0 shc_0 rfl (Nat.le_of_ble_eq_true rfl) (Nat.le_of_ble_eq_true rfl) (c_says s σ hC ((sc g (i + 1))) sc_inR ((sc g (i + 2))) sc_inR ((sc g (i + 3))) sc_inR ((sc g (i + 4))) sc_inR) (fun v_ m_ hp_ => ?_) rfl
  obtain ⟨v, τ, rfl, rfl, hv, hC2, hk⟩ := hp_
  have hM2 := hM.keep hk
  show Ev g mL_law 1093 [some (vS), some (vR (0)), some (vR (272)), some (vI (((i : Nat) : Int)))] [vI (v)] (M0 (τ)) 0 0 _
  refine Ev.aload_n dL_law_1093 rfl rfl ?_
  refine Ev.aloadS dL_law_1094 rfl rfl ?_
  refine Ev.iload_n dL_law_1095 rfl rfl ?_
  refine Ev.iconst dL_law_1096 ?_
  refine Ev.iadd dL_law_1097 ?_
  refine Ev.sload (v := (sc g (i + 1))) rfl dL_law_1098 (by omega) (by omega) (by omega) (sc_at (by omega)) ?_
  refine Ev.aloadS dL_law_1099 rfl rfl ?_
  refine Ev.iload_n dL_law_1100 rfl rfl ?_
  refine Ev.iconst dL_law_1101 ?_
  refine Ev.iadd dL_law_1102 ?_
  refine Ev.sload (v := (sc g (i + 2))) rfl dL_law_1103 (by omega) (by omega) (by omega) (sc_at (by omega)) ?_
  refine Ev.aloadS dL_law_1104 rfl rfl ?_
  refine Ev.iload_n dL_law_1105 rfl rfl ?_
  refine Ev.iconst dL_law_1106 ?_
  refine Ev.iadd dL_law_1107 ?_
  refine Ev.sload (v := (sc g (i + 3))) rfl dL_law_1108 (by omega) (by omega) (by omega) (sc_at (by omega)) ?_
  refine Ev.aloadS dL_law_1109 rfl rfl ?_
  refine Ev.iload_n dL_law_1110 rfl rfl ?_
  refine Ev.iconst dL_law_1111 ?_
  refine Ev.iadd dL_law_1112 ?_
  refine Ev.sload (v := (sc g (i + 4))) rfl dL_law_1113 (by omega) (by omega) (by omega) (sc_at (by omega)) ?_
  refine Ev.callV_G (M2 := mX8_says) (args2 := [vI ((sc g (i + 1))), vI ((sc g (i + 2))), vI ((sc g (i + 3))), vI ((sc g (i + 4)))]) (rcv := 272) (q := (RX8, TX8, 34)) (ci := 8) dL_law_1114 okX8_says (tbl_i 1079 (by decide +kernel)) ovX8_says.1.1 ovX8_says.1.2 ovX8_says.2 (by decide) rfl rfl ltc_272 shc_272 rfl (Nat.le_of_ble_eq_true rfl) (Nat.le_of_ble_eq_true rfl) (r_says s τ hM2 ((sc g (i + 1))) sc_inR ((sc g (i + 2))) sc_inR ((sc g (i + 3))) sc_inR ((sc g (i + 4))) sc_inR) (fun v_ m_ hp_ => ?_) rfl
  obtain ⟨w, ρ, rfl, rfl, hw, hM3, hk2⟩ := hp_
  have hC3 := hC2.keep hk2
  show Ev g mL_law 1117 [some (vS), some (vR (0)), some (vR (272)), some (vI (((i : Nat) : Int)))] [vI (w), vI (v)] (M0 (ρ)) 0 0 _
  obtain rfl : w = v := hw.trans hv.symm
  refine Ev.icmp_same (tgt := 1224) dL_law_1117 (by decide) ?_
  exact hgo _ ρ hC3 hM3

set_option maxRecDepth 100000 in
set_option maxHeartbeats 4000000 in
theorem law_28 {g : GC} (hL : g.2.2.2.2.2.1 ≤ 3072) (i : Nat) (hi : (i : Int) + 6 ≤ g.2.2.2.2.2.1) (s : SS) (σ : Sg) (hC : CI s σ) (hM : MI s σ) {Post : Option PV → Mem → Prop} (hgo : ∀ (s2 : SS) (ρ : Sg), CI s2 ρ → MI s2 ρ → Ev g mL_law 1224 [some (vS), some (vR (0)), some (vR (272)), some (vI (((i : Nat) : Int)))] [] (M0 (ρ)) 0 0 Post) : Ev g mL_law 1122 [some (vS), some (vR (0)), some (vR (272)), some (vI (((i : Nat) : Int)))] [] (M0 (σ)) 0 0 (Post) := by
  refine Ev.aload_n dL_law_1122 rfl rfl ?_
  refine Ev.aloadS dL_law_1123 rfl rfl ?_
  refine Ev.iload_n dL_law_1124 rfl rfl ?_
  refine Ev.iconst dL_law_1125 ?_
  refine Ev.iadd dL_law_1126 ?_
  refine Ev.sload (v := (sc g (i + 1))) rfl dL_law_1127 (by omega) (by omega) (by omega) (sc_at (by omega)) ?_
  refine Ev.aloadS dL_law_1128 rfl rfl ?_
  refine Ev.iload_n dL_law_1129 rfl rfl ?_
  refine Ev.iconst dL_law_1130 ?_
  refine Ev.iadd dL_law_1131 ?_
  refine Ev.sload (v := (sc g (i + 2))) rfl dL_law_1132 (by omega) (by omega) (by omega) (sc_at (by omega)) ?_
  refine Ev.aloadS dL_law_1133 rfl rfl ?_
  refine Ev.iload_n dL_law_1134 rfl rfl ?_
  refine Ev.iconst dL_law_1135 ?_
  refine Ev.iadd dL_law_1136 ?_
  refine Ev.sload (v := (sc g (i + 3))) rfl dL_law_1137 (by omega) (by omega) (by omega) (sc_at (by omega)) ?_
  refine Ev.aloadS dL_law_1138 rfl rfl ?_
  refine Ev.iload_n dL_law_1139 rfl rfl ?_
  refine Ev.iconst dL_law_1140 ?_
  refine Ev.iadd dL_law_1141 ?_
  refine Ev.sload (v := (sc g (i + 4))) rfl dL_law_1142 (by omega) (by omega) (by omega) (sc_at (by omega)) ?_
  refine Ev.callV_G (M2 := mX7_forge) (args2 := [vI ((sc g (i + 1))), vI ((sc g (i + 2))), vI ((sc g (i + 3))), vI ((sc g (i + 4)))]) (rcv := 0) (q := (RX7, TX7, 20)) (ci := 7) dL_law_1143 okX7_forge (tbl_i 648 (by decide +kernel)) ovX7_forge.1.1 ovX7_forge.1.2 ovX7_forge.2 (by decide) rfl rfl ltc_0 shc_0 rfl (Nat.le_of_ble_eq_true rfl) (Nat.le_of_ble_eq_true rfl) (c_forge s σ hC ((sc g (i + 1))) sc_inR ((sc g (i + 2))) sc_inR ((sc g (i + 3))) sc_inR ((sc g (i + 4))) sc_inR) (fun v_ m_ hp_ => ?_) rfl
  obtain ⟨v, τ, rfl, rfl, hv, hC2, hk⟩ := hp_
  have hM2 := hM.keep hk
  show Ev g mL_law 1146 [some (vS), some (vR (0)), some (vR (272)), some (vI (((i : Nat) : Int)))] [vI (v)] (M0 (τ)) 0 0 _
  refine Ev.aload_n dL_law_1146 rfl rfl ?_
  refine Ev.aloadS dL_law_1147 rfl rfl ?_
  refine Ev.iload_n dL_law_1148 rfl rfl ?_
  refine Ev.iconst dL_law_1149 ?_
  refine Ev.iadd dL_law_1150 ?_
  refine Ev.sload (v := (sc g (i + 1))) rfl dL_law_1151 (by omega) (by omega) (by omega) (sc_at (by omega)) ?_
  refine Ev.aloadS dL_law_1152 rfl rfl ?_
  refine Ev.iload_n dL_law_1153 rfl rfl ?_
  refine Ev.iconst dL_law_1154 ?_
  refine Ev.iadd dL_law_1155 ?_
  refine Ev.sload (v := (sc g (i + 2))) rfl dL_law_1156 (by omega) (by omega) (by omega) (sc_at (by omega)) ?_
  refine Ev.aloadS dL_law_1157 rfl rfl ?_
  refine Ev.iload_n dL_law_1158 rfl rfl ?_
  refine Ev.iconst dL_law_1159 ?_
  refine Ev.iadd dL_law_1160 ?_
  refine Ev.sload (v := (sc g (i + 3))) rfl dL_law_1161 (by omega) (by omega) (by omega) (sc_at (by omega)) ?_
  refine Ev.aloadS dL_law_1162 rfl rfl ?_
  refine Ev.iload_n dL_law_1163 rfl rfl ?_
  refine Ev.iconst dL_law_1164 ?_
  refine Ev.iadd dL_law_1165 ?_
  refine Ev.sload (v := (sc g (i + 4))) rfl dL_law_1166 (by omega) (by omega) (by omega) (sc_at (by omega)) ?_
  refine Ev.callV_G (M2 := mX8_forge) (args2 := [vI ((sc g (i + 1))), vI ((sc g (i + 2))), vI ((sc g (i + 3))), vI ((sc g (i + 4)))]) (rcv := 272) (q := (RX8, TX8, 34)) (ci := 8) dL_law_1167 okX8_forge (tbl_i 1087 (by decide +kernel)) ovX8_forge.1.1 ovX8_forge.1.2 ovX8_forge.2 (by decide) rfl rfl ltc_272 shc_272 rfl (Nat.le_of_ble_eq_true rfl) (Nat.le_of_ble_eq_true rfl) (r_forge s τ hM2 ((sc g (i + 1))) sc_inR ((sc g (i + 2))) sc_inR ((sc g (i + 3))) sc_inR ((sc g (i + 4))) sc_inR) (fun v_ m_ hp_ => ?_) rfl
  obtain ⟨w, ρ, rfl, rfl, hw, hM3, hk2⟩ := hp_
  have hC3 := hC2.keep hk2
  show Ev g mL_law 1170 [some (vS), some (vR (0)), some (vR (272)), some (vI (((i : Nat) : Int)))] [vI (w), vI (v)] (M0 (ρ)) 0 0 _
  obtain rfl : w = v := hw.trans hv.symm
  refine Ev.icmp_same (tgt := 1224) dL_law_1170 (by decide) ?_
  exact hgo _ ρ hC3 hM3

set_option maxRecDepth 100000 in
set_option maxHeartbeats 4000000 in
theorem law_29 {g : GC} (hL : g.2.2.2.2.2.1 ≤ 3072) (i : Nat) (hi : (i : Int) + 6 ≤ g.2.2.2.2.2.1) (s : SS) (σ : Sg) (hC : CI s σ) (hM : MI s σ) {Post : Option PV → Mem → Prop} (hgo : ∀ (s2 : SS) (ρ : Sg), CI s2 ρ → MI s2 ρ → Ev g mL_law 1224 [some (vS), some (vR (0)), some (vR (272)), some (vI (((i : Nat) : Int)))] [] (M0 (ρ)) 0 0 Post) : Ev g mL_law 1175 [some (vS), some (vR (0)), some (vR (272)), some (vI (((i : Nat) : Int)))] [] (M0 (σ)) 0 0 (Post) := by
  refine Ev.aload_n dL_law_1175 rfl rfl ?_
  refine Ev.callV_G (M2 := mX7_check) (args2 := []) (rcv := 0) (q := (RX7, TX7, 20)) (ci := 7) dL_law_1176 okX7_check (tbl_i 652 (by decide +kernel)) ovX7_check.1.1 ovX7_check.1.2 ovX7_check.2 (by decide) rfl rfl ltc_0 shc_0 rfl (Nat.le_of_ble_eq_true rfl) (Nat.le_of_ble_eq_true rfl) (c_check s σ hC ) (fun v_ m_ hp_ => ?_) rfl
  obtain ⟨v, τ, rfl, rfl, hv, hC2, hk⟩ := hp_
  have hM2 := hM.keep hk
  show Ev g mL_law 1179 [some (vS), some (vR (0)), some (vR (272)), some (vI (((i : Nat) : Int)))] [vI (v)] (M0 (τ)) 0 0 _
  refine Ev.aload_n dL_law_1179 rfl rfl ?_
  refine Ev.callV_G (M2 := mX8_check) (args2 := []) (rcv := 272) (q := (RX8, TX8, 34)) (ci := 8) dL_law_1180 okX8_check (tbl_i 1091 (by decide +kernel)) ovX8_check.1.1 ovX8_check.1.2 ovX8_check.2 (by decide) rfl rfl ltc_272 shc_272 rfl (Nat.le_of_ble_eq_true rfl) (Nat.le_of_ble_eq_true rfl) (r_check s τ hM2 ) (fun v_ m_ hp_ => ?_) rfl
  obtain ⟨w, ρ, rfl, rfl, hw, hM3, hk2⟩ := hp_
  have hC3 := hC2.keep hk2
  show Ev g mL_law 1183 [some (vS), some (vR (0)), some (vR (272)), some (vI (((i : Nat) : Int)))] [vI (w), vI (v)] (M0 (ρ)) 0 0 _
  obtain rfl : w = v := hw.trans hv.symm
  refine Ev.icmp_same (tgt := 1224) dL_law_1183 (by decide) ?_
  exact hgo _ ρ hC3 hM3

set_option maxRecDepth 100000 in
set_option maxHeartbeats 4000000 in
theorem law_30 {g : GC} (hL : g.2.2.2.2.2.1 ≤ 3072) (i : Nat) (hi : (i : Int) + 6 ≤ g.2.2.2.2.2.1) (s : SS) (σ : Sg) (hC : CI s σ) (hM : MI s σ) {Post : Option PV → Mem → Prop} (hgo : ∀ (s2 : SS) (ρ : Sg), CI s2 ρ → MI s2 ρ → Ev g mL_law 1224 [some (vS), some (vR (0)), some (vR (272)), some (vI (((i : Nat) : Int)))] [] (M0 (ρ)) 0 0 Post) : Ev g mL_law 1188 [some (vS), some (vR (0)), some (vR (272)), some (vI (((i : Nat) : Int)))] [] (M0 (σ)) 0 0 (Post) := by
  refine Ev.aload_n dL_law_1188 rfl rfl ?_
  refine Ev.callV_G (M2 := mX7_refutes) (args2 := []) (rcv := 0) (q := (RX7, TX7, 20)) (ci := 7) dL_law_1189 okX7_refutes (tbl_i 668 (by decide +kernel)) ovX7_refutes.1.1 ovX7_refutes.1.2 ovX7_refutes.2 (by decide) rfl rfl ltc_0 shc_0 rfl (Nat.le_of_ble_eq_true rfl) (Nat.le_of_ble_eq_true rfl) (c_refutes s σ hC ) (fun v_ m_ hp_ => ?_) rfl
  obtain ⟨v, τ, rfl, rfl, hv, hC2, hk⟩ := hp_
  have hM2 := hM.keep hk
  show Ev g mL_law 1192 [some (vS), some (vR (0)), some (vR (272)), some (vI (((i : Nat) : Int)))] [vI (v)] (M0 (τ)) 0 0 _
  refine Ev.aload_n dL_law_1192 rfl rfl ?_
  refine Ev.callV_G (M2 := mX8_refutes) (args2 := []) (rcv := 272) (q := (RX8, TX8, 34)) (ci := 8) dL_law_1193 okX8_refutes (tbl_i 1111 (by decide +kernel)) ovX8_refutes.1.1 ovX8_refutes.1.2 ovX8_refutes.2 (by decide) rfl rfl ltc_272 shc_272 rfl (Nat.le_of_ble_eq_true rfl) (Nat.le_of_ble_eq_true rfl) (r_refutes s τ hM2 ) (fun v_ m_ hp_ => ?_) rfl
  obtain ⟨w, ρ, rfl, rfl, hw, hM3, hk2⟩ := hp_
  have hC3 := hC2.keep hk2
  show Ev g mL_law 1196 [some (vS), some (vR (0)), some (vR (272)), some (vI (((i : Nat) : Int)))] [vI (w), vI (v)] (M0 (ρ)) 0 0 _
  obtain rfl : w = v := hw.trans hv.symm
  refine Ev.icmp_same (tgt := 1224) dL_law_1196 (by decide) ?_
  exact hgo _ ρ hC3 hM3

set_option maxRecDepth 100000 in
set_option maxHeartbeats 4000000 in
theorem law_31 {g : GC} (hL : g.2.2.2.2.2.1 ≤ 3072) (i : Nat) (hi : (i : Int) + 6 ≤ g.2.2.2.2.2.1) (s : SS) (σ : Sg) (hC : CI s σ) (hM : MI s σ) {Post : Option PV → Mem → Prop} (hgo : ∀ (s2 : SS) (ρ : Sg), CI s2 ρ → MI s2 ρ → Ev g mL_law 1224 [some (vS), some (vR (0)), some (vR (272)), some (vI (((i : Nat) : Int)))] [] (M0 (ρ)) 0 0 Post) : Ev g mL_law 1201 [some (vS), some (vR (0)), some (vR (272)), some (vI (((i : Nat) : Int)))] [] (M0 (σ)) 0 0 (Post) := by
  refine Ev.aload_n dL_law_1201 rfl rfl ?_
  refine Ev.aloadS dL_law_1202 rfl rfl ?_
  refine Ev.iload_n dL_law_1203 rfl rfl ?_
  refine Ev.iconst dL_law_1204 ?_
  refine Ev.iadd dL_law_1205 ?_
  refine Ev.sload (v := (sc g (i + 1))) rfl dL_law_1206 (by omega) (by omega) (by omega) (sc_at (by omega)) ?_
  refine Ev.callV_G (M2 := mX7_total) (args2 := [vI ((sc g (i + 1)))]) (rcv := 0) (q := (RX7, TX7, 20)) (ci := 7) dL_law_1207 okX7_total (tbl_i 673 (by decide +kernel)) ovX7_total.1.1 ovX7_total.1.2 ovX7_total.2 (by decide) rfl rfl ltc_0 shc_0 rfl (Nat.le_of_ble_eq_true rfl) (Nat.le_of_ble_eq_true rfl) (c_total s σ hC ((sc g (i + 1))) sc_inR) (fun v_ m_ hp_ => ?_) rfl
  obtain ⟨v, τ, rfl, rfl, hv, hC2, hk⟩ := hp_
  have hM2 := hM.keep hk
  show Ev g mL_law 1210 [some (vS), some (vR (0)), some (vR (272)), some (vI (((i : Nat) : Int)))] [vI (v)] (M0 (τ)) 0 0 _
  refine Ev.aload_n dL_law_1210 rfl rfl ?_
  refine Ev.aloadS dL_law_1211 rfl rfl ?_
  refine Ev.iload_n dL_law_1212 rfl rfl ?_
  refine Ev.iconst dL_law_1213 ?_
  refine Ev.iadd dL_law_1214 ?_
  refine Ev.sload (v := (sc g (i + 1))) rfl dL_law_1215 (by omega) (by omega) (by omega) (sc_at (by omega)) ?_
  refine Ev.callV_G (M2 := mX8_total) (args2 := [vI ((sc g (i + 1)))]) (rcv := 272) (q := (RX8, TX8, 34)) (ci := 8) dL_law_1216 okX8_total (tbl_i 1115 (by decide +kernel)) ovX8_total.1.1 ovX8_total.1.2 ovX8_total.2 (by decide) rfl rfl ltc_272 shc_272 rfl (Nat.le_of_ble_eq_true rfl) (Nat.le_of_ble_eq_true rfl) (r_total s τ hM2 ((sc g (i + 1))) sc_inR) (fun v_ m_ hp_ => ?_) rfl
  obtain ⟨w, ρ, rfl, rfl, hw, hM3, hk2⟩ := hp_
  have hC3 := hC2.keep hk2
  show Ev g mL_law 1219 [some (vS), some (vR (0)), some (vR (272)), some (vI (((i : Nat) : Int)))] [vI (w), vI (v)] (M0 (ρ)) 0 0 _
  obtain rfl : w = v := hw.trans hv.symm
  refine Ev.icmp_same (tgt := 1224) dL_law_1219 (by decide) ?_
  exact hgo _ ρ hC3 hM3

