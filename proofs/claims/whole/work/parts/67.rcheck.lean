/-! THE REFERENCE: what a line from a rule is worth; check, refutes -/
theorem tM_ne {s : SS} {l r : Nat} (hG : ∀ x, x < sU s → sG s x ≠ 0 ∧ sG s x < 65536) : ∀ x, x < sU s → tM s l r x ≠ 0 ∧ tM s l r x < 65536 := fun x hx => by
  by_cases e : ofR (sR s r) x ∨ ofR (sL s l) x
  · rw [tM_t e]; exact hG x hx
  · rw [tM_f e]; exact ⟨by decide, by decide⟩
/-- wanting of a line from a rule: numbers that the line shuts out and the rule lets -/
def noP (s : SS) (l r : Nat) : An → Prop := fun B => InR (sU s) (tM s l r) B ∧ fls (sL s l) B ∧ fit (sB s) (sR s r) B
theorem noP_cong {s : SS} {l r : Nat} {A B : An} (hL : WR (sU s) (sL s l)) (hR : WR (sU s) (sR s r)) (h : ∀ x, x < sU s → A x = B x) (z : noP s l r A) : noP s l r B := ⟨InR.cong h z.1, fun k hk => by rw [← h _ (hL.2.1 k hk)]; exact z.2.1 k hk, fit_cong (fun k hk => h _ (hR.2.1 k hk)) z.2.2⟩
set_option maxRecDepth 100000 in
set_option maxHeartbeats 4000000 in
theorem rM_br_a {g : GC} (s : SS) (σ1 : Sg) (hM1 : MI s σ1) (l kr : Nat) (hl : l < sM s) (hkr : kr < sN s) (x : Nat) (hx : x < sU s) {Post : Option PV → Mem → Prop} (hgo : Ev g mX8_byRule 82 [some (vR (272)), some (vI (((l : Nat) : Int))), some (vI (((kr : Nat) : Int))), some (vI (((x : Nat) : Int))), some (vI (bI (∃ k, k < rN (sR s kr) ∧ rO (sR s kr) k = x))), none] [] (M0 (σ1)) 0 0 Post) : ∀ j K : Nat, K + j = rN (sR s kr) → Ev g mX8_byRule 37 [some (vR (272)), some (vI (((l : Nat) : Int))), some (vI (((kr : Nat) : Int))), some (vI (((x : Nat) : Int))), some (vI (bI (∃ k, k < K ∧ rO (sR s kr) k = x))), some (vI ((((6 * kr + K) : Nat) : Int)))] [] (M0 (σ1)) 0 0 (Post) := by
  intro j
  induction j with
  | zero =>
    intro K hij
    obtain ⟨hu1, hu2, hu3, hu4, hu5, hu6, hu7, hu8⟩ := id hM1
    have hU := hu1.1
    have hN := hu2.1
    have hD := hu4.1
    have hMl := hu7.1
    have hQ := hu5.1
    have hMr := hu2.2.2.2 kr hkr
    have hLk := hu7.2.2 l hl
    have hn6 := hMr.2.1.1.2.1
    have hl6 := hLk.2.1.1.2.1
    have hk16 : kr < 16 := by omega
    refine Ev.iload dX8_byRule_37 rfl ?_
    refine Ev.bipush (n := 6) (by decide) dX8_byRule_39 ?_
    refine Ev.iload_n dX8_byRule_41 rfl rfl ?_
    refine Ev.imul dX8_byRule_42 ?_
    refine Ev.aload_n dX8_byRule_43 rfl rfl ?_
    refine gf_X8_38 rfl dX8_byRule_44 ltc_272 shc_272 rfc_272_13 ?_
    refine Ev.iload_n dX8_byRule_47 rfl rfl ?_
    refine Ev.iaload (v := ((rN (sR s kr) : Nat) : Int)) dX8_byRule_48 ltc_282 shc_282 (by decide) (by omega) (by omega) (ldx rfl (hu2.2.2.2 kr (by omega)).1.2.2.2.1) ?_
    refine Ev.iadd dX8_byRule_49 ?_
    refine Ev.icmp_ge (tgt := 82) ⟨by omega, by omega⟩ ⟨by omega, by omega⟩ dX8_byRule_50 (by decide) (fun h50 => ?_) (fun h50 => ?_)
    · skip
      refine Ev.wk (pl' := [some (vR (272)), some (vI (((l : Nat) : Int))), some (vI (((kr : Nat) : Int))), some (vI (((x : Nat) : Int))), some (vI (bI (∃ k, k < rN (sR s kr) ∧ rO (sR s kr) k = x))), none]) ⟨rfl, ⟨rfl, ⟨rfl, ⟨rfl, ⟨vIe (by rw [show K = rN (sR s kr) by omega]), trivial⟩⟩⟩⟩⟩ ?_
      exact hgo
    · exact absurd h50 (by omega)
  | succ j ih =>
    intro K hij
    obtain ⟨hu1, hu2, hu3, hu4, hu5, hu6, hu7, hu8⟩ := id hM1
    have hU := hu1.1
    have hN := hu2.1
    have hD := hu4.1
    have hMl := hu7.1
    have hQ := hu5.1
    have hMr := hu2.2.2.2 kr hkr
    have hLk := hu7.2.2 l hl
    have hn6 := hMr.2.1.1.2.1
    have hl6 := hLk.2.1.1.2.1
    have hk16 : kr < 16 := by omega
    have hox := hMr.2.1.2.1 K (by omega)
    refine Ev.iload dX8_byRule_37 rfl ?_
    refine Ev.bipush (n := 6) (by decide) dX8_byRule_39 ?_
    refine Ev.iload_n dX8_byRule_41 rfl rfl ?_
    refine Ev.imul dX8_byRule_42 ?_
    refine Ev.aload_n dX8_byRule_43 rfl rfl ?_
    refine gf_X8_38 rfl dX8_byRule_44 ltc_272 shc_272 rfc_272_13 ?_
    refine Ev.iload_n dX8_byRule_47 rfl rfl ?_
    refine Ev.iaload (v := ((rN (sR s kr) : Nat) : Int)) dX8_byRule_48 ltc_282 shc_282 (by decide) (by omega) (by omega) (ldx rfl (hu2.2.2.2 kr (by omega)).1.2.2.2.1) ?_
    refine Ev.iadd dX8_byRule_49 ?_
    refine Ev.icmp_ge (tgt := 82) ⟨by omega, by omega⟩ ⟨by omega, by omega⟩ dX8_byRule_50 (by decide) (fun h50 => ?_) (fun h50 => ?_)
    · exact absurd h50 (by omega)
    · skip
      refine Ev.iload dX8_byRule_53 rfl ?_
      refine Ev.if_ne (tgt := 69) bI_inR dX8_byRule_55 (by decide) (fun h55 => ?_) (fun h55 => ?_)
      · skip
        have q55 := bI_1.mp h55
        refine Ev.iconst dX8_byRule_69 ?_
        refine Ev.goto (tgt := 74) dX8_byRule_70 (by decide) ?_
        refine Ev.istore (pl' := [some (vR (272)), some (vI (((l : Nat) : Int))), some (vI (((kr : Nat) : Int))), some (vI (((x : Nat) : Int))), some (vI (1)), some (vI ((((6 * kr + K) : Nat) : Int)))]) dX8_byRule_74 (Nat.le_of_ble_eq_true rfl) rfl ?_
        refine Ev.iinc (pl' := [some (vR (272)), some (vI (((l : Nat) : Int))), some (vI (((kr : Nat) : Int))), some (vI (((x : Nat) : Int))), some (vI (1)), some (vI ((((6 * kr + K) : Nat) : Int) + 1))]) dX8_byRule_76 rfl (Nat.le_of_ble_eq_true rfl) rfl ?_
        refine Ev.goto (tgt := 37) dX8_byRule_79 (by decide) ?_
        refine Ev.wk (pl' := [some (vR (272)), some (vI (((l : Nat) : Int))), some (vI (((kr : Nat) : Int))), some (vI (((x : Nat) : Int))), some (vI (bI (∃ k, k < (K + 1) ∧ rO (sR s kr) k = x))), some (vI ((((6 * kr + (K + 1)) : Nat) : Int)))]) ⟨rfl, ⟨rfl, ⟨rfl, ⟨rfl, ⟨vIe (by first | exact bI_t (by obtain ⟨k, z1, z2⟩ := q55; exact ⟨k, by omega, z2⟩) | exact bI_t ⟨K, by omega, by omega⟩ | exact bI_f (fun z => q55 (by obtain ⟨j, z1, z2⟩ := z; exact ⟨j, (by have : j ≠ K := (fun e => by rw [e] at z2; omega); omega), z2⟩))), ⟨vIe (by omega), trivial⟩⟩⟩⟩⟩⟩ ?_
        exact ih (K + 1) (by omega)
      · skip
        have q55 := bI_0.mp h55
        refine Ev.aload_n dX8_byRule_58 rfl rfl ?_
        refine gf_X8_41 rfl dX8_byRule_59 ltc_272 shc_272 rfc_272_14 ?_
        refine Ev.iload dX8_byRule_62 rfl ?_
        refine Ev.iaload (v := ((rO (sR s kr) K : Nat) : Int)) dX8_byRule_64 ltc_283 shc_283 (by decide) (by omega) (by omega) (ldx rfl (hMr.1.2.2.2.2 K (by omega)).1) ?_
        refine Ev.iload_n dX8_byRule_65 rfl rfl ?_
        refine Ev.icmp_ne (tgt := 73) ⟨by omega, by omega⟩ ⟨by omega, by omega⟩ dX8_byRule_66 (by decide) (fun h66 => ?_) (fun h66 => ?_)
        · skip
          refine Ev.iconst dX8_byRule_73 ?_
          refine Ev.istore (pl' := [some (vR (272)), some (vI (((l : Nat) : Int))), some (vI (((kr : Nat) : Int))), some (vI (((x : Nat) : Int))), some (vI (0)), some (vI ((((6 * kr + K) : Nat) : Int)))]) dX8_byRule_74 (Nat.le_of_ble_eq_true rfl) rfl ?_
          refine Ev.iinc (pl' := [some (vR (272)), some (vI (((l : Nat) : Int))), some (vI (((kr : Nat) : Int))), some (vI (((x : Nat) : Int))), some (vI (0)), some (vI ((((6 * kr + K) : Nat) : Int) + 1))]) dX8_byRule_76 rfl (Nat.le_of_ble_eq_true rfl) rfl ?_
          refine Ev.goto (tgt := 37) dX8_byRule_79 (by decide) ?_
          refine Ev.wk (pl' := [some (vR (272)), some (vI (((l : Nat) : Int))), some (vI (((kr : Nat) : Int))), some (vI (((x : Nat) : Int))), some (vI (bI (∃ k, k < (K + 1) ∧ rO (sR s kr) k = x))), some (vI ((((6 * kr + (K + 1)) : Nat) : Int)))]) ⟨rfl, ⟨rfl, ⟨rfl, ⟨rfl, ⟨vIe (by first | exact bI_t (by obtain ⟨k, z1, z2⟩ := q55; exact ⟨k, by omega, z2⟩) | exact bI_t ⟨K, by omega, by omega⟩ | exact bI_f (fun z => q55 (by obtain ⟨j, z1, z2⟩ := z; exact ⟨j, (by have : j ≠ K := (fun e => by rw [e] at z2; omega); omega), z2⟩))), ⟨vIe (by omega), trivial⟩⟩⟩⟩⟩⟩ ?_
          exact ih (K + 1) (by omega)
        · skip
          refine Ev.iconst dX8_byRule_69 ?_
          refine Ev.goto (tgt := 74) dX8_byRule_70 (by decide) ?_
          refine Ev.istore (pl' := [some (vR (272)), some (vI (((l : Nat) : Int))), some (vI (((kr : Nat) : Int))), some (vI (((x : Nat) : Int))), some (vI (1)), some (vI ((((6 * kr + K) : Nat) : Int)))]) dX8_byRule_74 (Nat.le_of_ble_eq_true rfl) rfl ?_
          refine Ev.iinc (pl' := [some (vR (272)), some (vI (((l : Nat) : Int))), some (vI (((kr : Nat) : Int))), some (vI (((x : Nat) : Int))), some (vI (1)), some (vI ((((6 * kr + K) : Nat) : Int) + 1))]) dX8_byRule_76 rfl (Nat.le_of_ble_eq_true rfl) rfl ?_
          refine Ev.goto (tgt := 37) dX8_byRule_79 (by decide) ?_
          refine Ev.wk (pl' := [some (vR (272)), some (vI (((l : Nat) : Int))), some (vI (((kr : Nat) : Int))), some (vI (((x : Nat) : Int))), some (vI (bI (∃ k, k < (K + 1) ∧ rO (sR s kr) k = x))), some (vI ((((6 * kr + (K + 1)) : Nat) : Int)))]) ⟨rfl, ⟨rfl, ⟨rfl, ⟨rfl, ⟨vIe (by first | exact bI_t (by obtain ⟨k, z1, z2⟩ := q55; exact ⟨k, by omega, z2⟩) | exact bI_t ⟨K, by omega, by omega⟩ | exact bI_f (fun z => q55 (by obtain ⟨j, z1, z2⟩ := z; exact ⟨j, (by have : j ≠ K := (fun e => by rw [e] at z2; omega); omega), z2⟩))), ⟨vIe (by omega), trivial⟩⟩⟩⟩⟩⟩ ?_
          exact ih (K + 1) (by omega)

set_option maxRecDepth 100000 in
set_option maxHeartbeats 4000000 in
theorem rM_br_b {g : GC} (s : SS) (σ1 : Sg) (hM1 : MI s σ1) (l kr : Nat) (hl : l < sM s) (hkr : kr < sN s) (x : Nat) (hx : x < sU s) {Post : Option PV → Mem → Prop} (hgo : Ev g mX8_byRule 133 [some (vR (272)), some (vI (((l : Nat) : Int))), some (vI (((kr : Nat) : Int))), some (vI (((x : Nat) : Int))), some (vI (bI (ofR (sR s kr) x ∨ ofR (sL s l) x))), none] [] (M0 (σ1)) 0 0 Post) : ∀ j K : Nat, K + j = rN (sL s l) → Ev g mX8_byRule 88 [some (vR (272)), some (vI (((l : Nat) : Int))), some (vI (((kr : Nat) : Int))), some (vI (((x : Nat) : Int))), some (vI (bI (ofR (sR s kr) x ∨ ∃ k, k < K ∧ rO (sL s l) k = x))), some (vI ((((6 * l + K) : Nat) : Int)))] [] (M0 (σ1)) 0 0 (Post) := by
  intro j
  induction j with
  | zero =>
    intro K hij
    obtain ⟨hu1, hu2, hu3, hu4, hu5, hu6, hu7, hu8⟩ := id hM1
    have hU := hu1.1
    have hN := hu2.1
    have hD := hu4.1
    have hMl := hu7.1
    have hQ := hu5.1
    have hMr := hu2.2.2.2 kr hkr
    have hLk := hu7.2.2 l hl
    have hn6 := hMr.2.1.1.2.1
    have hl6 := hLk.2.1.1.2.1
    have hk16 : kr < 16 := by omega
    refine Ev.iload dX8_byRule_88 rfl ?_
    refine Ev.bipush (n := 6) (by decide) dX8_byRule_90 ?_
    refine Ev.iload_n dX8_byRule_92 rfl rfl ?_
    refine Ev.imul dX8_byRule_93 ?_
    refine Ev.aload_n dX8_byRule_94 rfl rfl ?_
    refine gf_X8_59 rfl dX8_byRule_95 ltc_272 shc_272 rfc_272_21 ?_
    refine Ev.iload_n dX8_byRule_98 rfl rfl ?_
    refine Ev.iaload (v := ((rN (sL s l) : Nat) : Int)) dX8_byRule_99 ltc_289 shc_289 (by decide) (by omega) (by omega) (ldx rfl hLk.1.1) ?_
    refine Ev.iadd dX8_byRule_100 ?_
    refine Ev.icmp_ge (tgt := 133) ⟨by omega, by omega⟩ ⟨by omega, by omega⟩ dX8_byRule_101 (by decide) (fun h101 => ?_) (fun h101 => ?_)
    · skip
      refine Ev.wk (pl' := [some (vR (272)), some (vI (((l : Nat) : Int))), some (vI (((kr : Nat) : Int))), some (vI (((x : Nat) : Int))), some (vI (bI (ofR (sR s kr) x ∨ ofR (sL s l) x))), none]) ⟨rfl, ⟨rfl, ⟨rfl, ⟨rfl, ⟨vIe (by rw [show K = rN (sL s l) by omega]; rfl), trivial⟩⟩⟩⟩⟩ ?_
      exact hgo
    · exact absurd h101 (by omega)
  | succ j ih =>
    intro K hij
    obtain ⟨hu1, hu2, hu3, hu4, hu5, hu6, hu7, hu8⟩ := id hM1
    have hU := hu1.1
    have hN := hu2.1
    have hD := hu4.1
    have hMl := hu7.1
    have hQ := hu5.1
    have hMr := hu2.2.2.2 kr hkr
    have hLk := hu7.2.2 l hl
    have hn6 := hMr.2.1.1.2.1
    have hl6 := hLk.2.1.1.2.1
    have hk16 : kr < 16 := by omega
    have hox := hLk.2.1.2.1 K (by omega)
    refine Ev.iload dX8_byRule_88 rfl ?_
    refine Ev.bipush (n := 6) (by decide) dX8_byRule_90 ?_
    refine Ev.iload_n dX8_byRule_92 rfl rfl ?_
    refine Ev.imul dX8_byRule_93 ?_
    refine Ev.aload_n dX8_byRule_94 rfl rfl ?_
    refine gf_X8_59 rfl dX8_byRule_95 ltc_272 shc_272 rfc_272_21 ?_
    refine Ev.iload_n dX8_byRule_98 rfl rfl ?_
    refine Ev.iaload (v := ((rN (sL s l) : Nat) : Int)) dX8_byRule_99 ltc_289 shc_289 (by decide) (by omega) (by omega) (ldx rfl hLk.1.1) ?_
    refine Ev.iadd dX8_byRule_100 ?_
    refine Ev.icmp_ge (tgt := 133) ⟨by omega, by omega⟩ ⟨by omega, by omega⟩ dX8_byRule_101 (by decide) (fun h101 => ?_) (fun h101 => ?_)
    · exact absurd h101 (by omega)
    · skip
      refine Ev.iload dX8_byRule_104 rfl ?_
      refine Ev.if_ne (tgt := 120) bI_inR dX8_byRule_106 (by decide) (fun h106 => ?_) (fun h106 => ?_)
      · skip
        have q106 := bI_1.mp h106
        refine Ev.iconst dX8_byRule_120 ?_
        refine Ev.goto (tgt := 125) dX8_byRule_121 (by decide) ?_
        refine Ev.istore (pl' := [some (vR (272)), some (vI (((l : Nat) : Int))), some (vI (((kr : Nat) : Int))), some (vI (((x : Nat) : Int))), some (vI (1)), some (vI ((((6 * l + K) : Nat) : Int)))]) dX8_byRule_125 (Nat.le_of_ble_eq_true rfl) rfl ?_
        refine Ev.iinc (pl' := [some (vR (272)), some (vI (((l : Nat) : Int))), some (vI (((kr : Nat) : Int))), some (vI (((x : Nat) : Int))), some (vI (1)), some (vI ((((6 * l + K) : Nat) : Int) + 1))]) dX8_byRule_127 rfl (Nat.le_of_ble_eq_true rfl) rfl ?_
        refine Ev.goto (tgt := 88) dX8_byRule_130 (by decide) ?_
        refine Ev.wk (pl' := [some (vR (272)), some (vI (((l : Nat) : Int))), some (vI (((kr : Nat) : Int))), some (vI (((x : Nat) : Int))), some (vI (bI (ofR (sR s kr) x ∨ ∃ k, k < (K + 1) ∧ rO (sL s l) k = x))), some (vI ((((6 * l + (K + 1)) : Nat) : Int)))]) ⟨rfl, ⟨rfl, ⟨rfl, ⟨rfl, ⟨vIe (by first | exact bI_t (by rcases q106 with z | ⟨k, z1, z2⟩; exact Or.inl z; exact Or.inr ⟨k, by omega, z2⟩) | exact bI_t (Or.inr ⟨K, by omega, by omega⟩) | exact bI_f (fun z => q106 (by rcases z with z | ⟨j, z1, z2⟩; exact Or.inl z; exact Or.inr ⟨j, (by have : j ≠ K := (fun e => by rw [e] at z2; omega); omega), z2⟩))), ⟨vIe (by omega), trivial⟩⟩⟩⟩⟩⟩ ?_
        exact ih (K + 1) (by omega)
      · skip
        have q106 := bI_0.mp h106
        refine Ev.aload_n dX8_byRule_109 rfl rfl ?_
        refine gf_X8_62 rfl dX8_byRule_110 ltc_272 shc_272 rfc_272_22 ?_
        refine Ev.iload dX8_byRule_113 rfl ?_
        refine Ev.iaload (v := ((rO (sL s l) K : Nat) : Int)) dX8_byRule_115 ltc_290 shc_290 (by decide) (by omega) (by omega) (ldx rfl (hLk.1.2 K (by omega)).1) ?_
        refine Ev.iload_n dX8_byRule_116 rfl rfl ?_
        refine Ev.icmp_ne (tgt := 124) ⟨by omega, by omega⟩ ⟨by omega, by omega⟩ dX8_byRule_117 (by decide) (fun h117 => ?_) (fun h117 => ?_)
        · skip
          refine Ev.iconst dX8_byRule_124 ?_
          refine Ev.istore (pl' := [some (vR (272)), some (vI (((l : Nat) : Int))), some (vI (((kr : Nat) : Int))), some (vI (((x : Nat) : Int))), some (vI (0)), some (vI ((((6 * l + K) : Nat) : Int)))]) dX8_byRule_125 (Nat.le_of_ble_eq_true rfl) rfl ?_
          refine Ev.iinc (pl' := [some (vR (272)), some (vI (((l : Nat) : Int))), some (vI (((kr : Nat) : Int))), some (vI (((x : Nat) : Int))), some (vI (0)), some (vI ((((6 * l + K) : Nat) : Int) + 1))]) dX8_byRule_127 rfl (Nat.le_of_ble_eq_true rfl) rfl ?_
          refine Ev.goto (tgt := 88) dX8_byRule_130 (by decide) ?_
          refine Ev.wk (pl' := [some (vR (272)), some (vI (((l : Nat) : Int))), some (vI (((kr : Nat) : Int))), some (vI (((x : Nat) : Int))), some (vI (bI (ofR (sR s kr) x ∨ ∃ k, k < (K + 1) ∧ rO (sL s l) k = x))), some (vI ((((6 * l + (K + 1)) : Nat) : Int)))]) ⟨rfl, ⟨rfl, ⟨rfl, ⟨rfl, ⟨vIe (by first | exact bI_t (by rcases q106 with z | ⟨k, z1, z2⟩; exact Or.inl z; exact Or.inr ⟨k, by omega, z2⟩) | exact bI_t (Or.inr ⟨K, by omega, by omega⟩) | exact bI_f (fun z => q106 (by rcases z with z | ⟨j, z1, z2⟩; exact Or.inl z; exact Or.inr ⟨j, (by have : j ≠ K := (fun e => by rw [e] at z2; omega); omega), z2⟩))), ⟨vIe (by omega), trivial⟩⟩⟩⟩⟩⟩ ?_
          exact ih (K + 1) (by omega)
        · skip
          refine Ev.iconst dX8_byRule_120 ?_
          refine Ev.goto (tgt := 125) dX8_byRule_121 (by decide) ?_
          refine Ev.istore (pl' := [some (vR (272)), some (vI (((l : Nat) : Int))), some (vI (((kr : Nat) : Int))), some (vI (((x : Nat) : Int))), some (vI (1)), some (vI ((((6 * l + K) : Nat) : Int)))]) dX8_byRule_125 (Nat.le_of_ble_eq_true rfl) rfl ?_
          refine Ev.iinc (pl' := [some (vR (272)), some (vI (((l : Nat) : Int))), some (vI (((kr : Nat) : Int))), some (vI (((x : Nat) : Int))), some (vI (1)), some (vI ((((6 * l + K) : Nat) : Int) + 1))]) dX8_byRule_127 rfl (Nat.le_of_ble_eq_true rfl) rfl ?_
          refine Ev.goto (tgt := 88) dX8_byRule_130 (by decide) ?_
          refine Ev.wk (pl' := [some (vR (272)), some (vI (((l : Nat) : Int))), some (vI (((kr : Nat) : Int))), some (vI (((x : Nat) : Int))), some (vI (bI (ofR (sR s kr) x ∨ ∃ k, k < (K + 1) ∧ rO (sL s l) k = x))), some (vI ((((6 * l + (K + 1)) : Nat) : Int)))]) ⟨rfl, ⟨rfl, ⟨rfl, ⟨rfl, ⟨vIe (by first | exact bI_t (by rcases q106 with z | ⟨k, z1, z2⟩; exact Or.inl z; exact Or.inr ⟨k, by omega, z2⟩) | exact bI_t (Or.inr ⟨K, by omega, by omega⟩) | exact bI_f (fun z => q106 (by rcases z with z | ⟨j, z1, z2⟩; exact Or.inl z; exact Or.inr ⟨j, (by have : j ≠ K := (fun e => by rw [e] at z2; omega); omega), z2⟩))), ⟨vIe (by omega), trivial⟩⟩⟩⟩⟩⟩ ?_
          exact ih (K + 1) (by omega)

set_option maxRecDepth 100000 in
set_option maxHeartbeats 4000000 in
theorem rM_br_c {g : GC} (s : SS) (σ1 : Sg) (hM1 : MI s σ1) (l kr : Nat) (hl : l < sM s) (hkr : kr < sN s) (A : An) (hA : ∀ x, x < sU s → σ1 297 x = (A x : Int)) (hl16 : lt16 (sU s) A) {Post : Option PV → Mem → Prop} (hgo : Ev g mX8_byRule 248 [some (vR (272)), some (vI (((l : Nat) : Int))), some (vI (((kr : Nat) : Int))), some (vI (1)), some (vI (bI (fls (sL s l) A))), none] [] (M0 (σ1)) 0 0 Post) : ∀ j K : Nat, K + j = rN (sL s l) → Ev g mX8_byRule 189 [some (vR (272)), some (vI (((l : Nat) : Int))), some (vI (((kr : Nat) : Int))), some (vI (1)), some (vI (bI (∀ k, k < K → (rA (sL s l) k).toNat.testBit (A (rO (sL s l) k)) = false))), some (vI ((((6 * l + K) : Nat) : Int)))] [] (M0 (σ1)) 0 0 (Post) := by
  intro j
  induction j with
  | zero =>
    intro K hij
    obtain ⟨hu1, hu2, hu3, hu4, hu5, hu6, hu7, hu8⟩ := id hM1
    have hU := hu1.1
    have hN := hu2.1
    have hD := hu4.1
    have hMl := hu7.1
    have hQ := hu5.1
    have hMr := hu2.2.2.2 kr hkr
    have hLk := hu7.2.2 l hl
    have hn6 := hMr.2.1.1.2.1
    have hl6 := hLk.2.1.1.2.1
    have hk16 : kr < 16 := by omega
    refine Ev.iload dX8_byRule_189 rfl ?_
    refine Ev.bipush (n := 6) (by decide) dX8_byRule_191 ?_
    refine Ev.iload_n dX8_byRule_193 rfl rfl ?_
    refine Ev.imul dX8_byRule_194 ?_
    refine Ev.aload_n dX8_byRule_195 rfl rfl ?_
    refine gf_X8_59 rfl dX8_byRule_196 ltc_272 shc_272 rfc_272_21 ?_
    refine Ev.iload_n dX8_byRule_199 rfl rfl ?_
    refine Ev.iaload (v := ((rN (sL s l) : Nat) : Int)) dX8_byRule_200 ltc_289 shc_289 (by decide) (by omega) (by omega) (ldx rfl hLk.1.1) ?_
    refine Ev.iadd dX8_byRule_201 ?_
    refine Ev.icmp_ge (tgt := 248) ⟨by omega, by omega⟩ ⟨by omega, by omega⟩ dX8_byRule_202 (by decide) (fun h202 => ?_) (fun h202 => ?_)
    · skip
      refine Ev.wk (pl' := [some (vR (272)), some (vI (((l : Nat) : Int))), some (vI (((kr : Nat) : Int))), some (vI (1)), some (vI (bI (fls (sL s l) A))), none]) ⟨rfl, ⟨rfl, ⟨rfl, ⟨rfl, ⟨vIe (by rw [show K = rN (sL s l) by omega]; rfl), trivial⟩⟩⟩⟩⟩ ?_
      exact hgo
    · exact absurd h202 (by omega)
  | succ j ih =>
    intro K hij
    obtain ⟨hu1, hu2, hu3, hu4, hu5, hu6, hu7, hu8⟩ := id hM1
    have hU := hu1.1
    have hN := hu2.1
    have hD := hu4.1
    have hMl := hu7.1
    have hQ := hu5.1
    have hMr := hu2.2.2.2 kr hkr
    have hLk := hu7.2.2 l hl
    have hn6 := hMr.2.1.1.2.1
    have hl6 := hLk.2.1.1.2.1
    have hk16 : kr < 16 := by omega
    have hox := hLk.2.1.2.1 K (by omega)
    have hao := hl16 _ hox
    have hra := hLk.2.1.2.2.2.2.2.1 hLk.2.2.1 K (by omega)
    have hran : (rA (sL s l) K).toNat < 65536 := by omega
    refine Ev.iload dX8_byRule_189 rfl ?_
    refine Ev.bipush (n := 6) (by decide) dX8_byRule_191 ?_
    refine Ev.iload_n dX8_byRule_193 rfl rfl ?_
    refine Ev.imul dX8_byRule_194 ?_
    refine Ev.aload_n dX8_byRule_195 rfl rfl ?_
    refine gf_X8_59 rfl dX8_byRule_196 ltc_272 shc_272 rfc_272_21 ?_
    refine Ev.iload_n dX8_byRule_199 rfl rfl ?_
    refine Ev.iaload (v := ((rN (sL s l) : Nat) : Int)) dX8_byRule_200 ltc_289 shc_289 (by decide) (by omega) (by omega) (ldx rfl hLk.1.1) ?_
    refine Ev.iadd dX8_byRule_201 ?_
    refine Ev.icmp_ge (tgt := 248) ⟨by omega, by omega⟩ ⟨by omega, by omega⟩ dX8_byRule_202 (by decide) (fun h202 => ?_) (fun h202 => ?_)
    · exact absurd h202 (by omega)
    · skip
      refine Ev.iload dX8_byRule_205 rfl ?_
      refine Ev.if_eq (tgt := 239) bI_inR dX8_byRule_207 (by decide) (fun h207 => ?_) (fun h207 => ?_)
      · skip
        have q207 := bI_0.mp h207
        refine Ev.iconst dX8_byRule_239 ?_
        refine Ev.istore (pl' := [some (vR (272)), some (vI (((l : Nat) : Int))), some (vI (((kr : Nat) : Int))), some (vI (1)), some (vI (0)), some (vI ((((6 * l + K) : Nat) : Int)))]) dX8_byRule_240 (Nat.le_of_ble_eq_true rfl) rfl ?_
        refine Ev.iinc (pl' := [some (vR (272)), some (vI (((l : Nat) : Int))), some (vI (((kr : Nat) : Int))), some (vI (1)), some (vI (0)), some (vI ((((6 * l + K) : Nat) : Int) + 1))]) dX8_byRule_242 rfl (Nat.le_of_ble_eq_true rfl) rfl ?_
        refine Ev.goto (tgt := 189) dX8_byRule_245 (by decide) ?_
        refine Ev.wk (pl' := [some (vR (272)), some (vI (((l : Nat) : Int))), some (vI (((kr : Nat) : Int))), some (vI (1)), some (vI (bI (∀ k, k < (K + 1) → (rA (sL s l) k).toNat.testBit (A (rO (sL s l) k)) = false))), some (vI ((((6 * l + (K + 1)) : Nat) : Int)))]) ⟨rfl, ⟨rfl, ⟨rfl, ⟨rfl, ⟨vIe (by first | exact bI_t (fun k hk => (Nat.lt_or_ge k K).elim (q207 k) (fun e => by rw [show k = K by omega]; exact b2_0.mp (by omega))) | exact bI_f (fun z => q207 (fun k hk => z k (by omega))) | exact bI_f (fun z => absurd (z K (by omega)) (by rw [b2_ne.mp h232]; decide))), ⟨vIe (by omega), trivial⟩⟩⟩⟩⟩⟩ ?_
        exact ih (K + 1) (by omega)
      · skip
        have q207 := bI_1.mp h207
        refine Ev.aload_n dX8_byRule_210 rfl rfl ?_
        refine gf_X8_65 rfl dX8_byRule_211 ltc_272 shc_272 rfc_272_23 ?_
        refine Ev.iload dX8_byRule_214 rfl ?_
        refine Ev.iaload (v := (((rA (sL s l) K).toNat : Nat) : Int)) dX8_byRule_216 ltc_291 shc_291 (by decide) (by omega) (by omega) (ldx rfl (((hLk.1.2 K (by omega)).2).trans (Int.toNat_of_nonneg hra.1).symm)) ?_
        refine Ev.aload_n dX8_byRule_217 rfl rfl ?_
        refine gf_X8_87 rfl dX8_byRule_218 ltc_272 shc_272 rfc_272_33 ?_
        refine Ev.aload_n dX8_byRule_221 rfl rfl ?_
        refine gf_X8_62 rfl dX8_byRule_222 ltc_272 shc_272 rfc_272_22 ?_
        refine Ev.iload dX8_byRule_225 rfl ?_
        refine Ev.iaload (v := ((rO (sL s l) K : Nat) : Int)) dX8_byRule_227 ltc_290 shc_290 (by decide) (by omega) (by omega) (ldx rfl (hLk.1.2 K (by omega)).1) ?_
        refine Ev.iaload (v := ((A (rO (sL s l) K) : Nat) : Int)) dX8_byRule_228 ltc_297 shc_297 (by decide) (by omega) (by omega) (ldx rfl (hA _ hox)) ?_
        refine Ev.ishr dX8_byRule_229 ?_
        refine Ev.iconst dX8_byRule_230 ?_
        refine Ev.iand dX8_byRule_231 ?_
        rw [show (iAnd ((iShr ((((rA (sL s l) K).toNat : Nat) : Int)) (((A (rO (sL s l) K) : Nat) : Int)))) (1)) = (((b2 ((rA (sL s l) K).toNat.testBit (A (rO (sL s l) K)))) : Nat) : Int) from bit_nat (by omega) (by omega)]
        refine Ev.if_ne (tgt := 239) b2_inR dX8_byRule_232 (by decide) (fun h232 => ?_) (fun h232 => ?_)
        · skip
          refine Ev.iconst dX8_byRule_239 ?_
          refine Ev.istore (pl' := [some (vR (272)), some (vI (((l : Nat) : Int))), some (vI (((kr : Nat) : Int))), some (vI (1)), some (vI (0)), some (vI ((((6 * l + K) : Nat) : Int)))]) dX8_byRule_240 (Nat.le_of_ble_eq_true rfl) rfl ?_
          refine Ev.iinc (pl' := [some (vR (272)), some (vI (((l : Nat) : Int))), some (vI (((kr : Nat) : Int))), some (vI (1)), some (vI (0)), some (vI ((((6 * l + K) : Nat) : Int) + 1))]) dX8_byRule_242 rfl (Nat.le_of_ble_eq_true rfl) rfl ?_
          refine Ev.goto (tgt := 189) dX8_byRule_245 (by decide) ?_
          refine Ev.wk (pl' := [some (vR (272)), some (vI (((l : Nat) : Int))), some (vI (((kr : Nat) : Int))), some (vI (1)), some (vI (bI (∀ k, k < (K + 1) → (rA (sL s l) k).toNat.testBit (A (rO (sL s l) k)) = false))), some (vI ((((6 * l + (K + 1)) : Nat) : Int)))]) ⟨rfl, ⟨rfl, ⟨rfl, ⟨rfl, ⟨vIe (by first | exact bI_t (fun k hk => (Nat.lt_or_ge k K).elim (q207 k) (fun e => by rw [show k = K by omega]; exact b2_0.mp (by omega))) | exact bI_f (fun z => q207 (fun k hk => z k (by omega))) | exact bI_f (fun z => absurd (z K (by omega)) (by rw [b2_ne.mp h232]; decide))), ⟨vIe (by omega), trivial⟩⟩⟩⟩⟩⟩ ?_
          exact ih (K + 1) (by omega)
        · skip
          refine Ev.iconst dX8_byRule_235 ?_
          refine Ev.goto (tgt := 240) dX8_byRule_236 (by decide) ?_
          refine Ev.istore (pl' := [some (vR (272)), some (vI (((l : Nat) : Int))), some (vI (((kr : Nat) : Int))), some (vI (1)), some (vI (1)), some (vI ((((6 * l + K) : Nat) : Int)))]) dX8_byRule_240 (Nat.le_of_ble_eq_true rfl) rfl ?_
          refine Ev.iinc (pl' := [some (vR (272)), some (vI (((l : Nat) : Int))), some (vI (((kr : Nat) : Int))), some (vI (1)), some (vI (1)), some (vI ((((6 * l + K) : Nat) : Int) + 1))]) dX8_byRule_242 rfl (Nat.le_of_ble_eq_true rfl) rfl ?_
          refine Ev.goto (tgt := 189) dX8_byRule_245 (by decide) ?_
          refine Ev.wk (pl' := [some (vR (272)), some (vI (((l : Nat) : Int))), some (vI (((kr : Nat) : Int))), some (vI (1)), some (vI (bI (∀ k, k < (K + 1) → (rA (sL s l) k).toNat.testBit (A (rO (sL s l) k)) = false))), some (vI ((((6 * l + (K + 1)) : Nat) : Int)))]) ⟨rfl, ⟨rfl, ⟨rfl, ⟨rfl, ⟨vIe (by first | exact bI_t (fun k hk => (Nat.lt_or_ge k K).elim (q207 k) (fun e => by rw [show k = K by omega]; exact b2_0.mp (by omega))) | exact bI_f (fun z => q207 (fun k hk => z k (by omega))) | exact bI_f (fun z => absurd (z K (by omega)) (by rw [b2_ne.mp h232]; decide))), ⟨vIe (by omega), trivial⟩⟩⟩⟩⟩⟩ ?_
          exact ih (K + 1) (by omega)

set_option maxRecDepth 100000 in
set_option maxHeartbeats 4000000 in
theorem rM_br_s {g : GC} (s : SS) (σ1 : Sg) (hM1 : MI s σ1) (l kr : Nat) (hl : l < sM s) (hkr : kr < sN s) (hon : ¬ (sW s).testBit kr = false) (hw : ¬ 20000 < wys (tM s l kr) (sU s)) : ∀ j K : Nat, K + j = 16 ^ sU s → ∀ (τ : Sg) (A : An), MI s τ → ScM σ1 τ → AV τ 294 (sU s) (tM s l kr) → InR (sU s) (tM s l kr) A → (∀ x, x < sU s → τ 297 x = (A x : Int)) → K ≤ kod (sU s) A → (∀ B, noP s l kr B → kod (sU s) A ≤ kod (sU s) B) → Ev g mX8_byRule 176 [some (vR (272)), some (vI (((l : Nat) : Int))), some (vI (((kr : Nat) : Int))), some (vI (1)), none, none] [] (M0 (τ)) 0 0 (retE (fun v τ => v = howR s l kr ∧ ScM σ1 τ)) := by
  intro j
  induction j with
  | zero =>
    intro K hij τ A hMt hS hX hI hA hKA hno
    exact absurd (kod_lt (InR.lt (fun x hx => (hX x hx).2.2) hI)) (by omega)
  | succ j ih =>
    intro K hij τ A hMt hS hX hI hA hKA hno
    have hu1 : u1 τ (sU s) (sG s) (sX s) := (hMt).1
    have hu2 : u2 τ (sU s) (sN s) (sR s) (sW s) := (hMt).2.1
    have hu3 : TVm τ (sB s) := (hMt).2.2.1
    have hu4 : u4 τ (sU s) (sD s) (sO s) (sP s) (sH s) := (hMt).2.2.2.1
    have hu7 : u7 τ (sU s) (sN s) (sM s) (sL s) (sK s) := (hMt).2.2.2.2.2.2.1
    have hU := hu1.1
    have hN := hu2.1
    have hD := hu4.1
    have hMl := hu7.1
    have hMr := hu2.2.2.2 kr hkr
    have hLk := hu7.2.2 l hl
    have hn6 := hMr.2.1.1.2.1
    have hl6 := hLk.2.1.1.2.1
    have hk16 : kr < 16 := by omega
    have hXl := fun x (hx : x < sU s) => (hX x hx).2.2
    have hl16 := InR.lt hXl hI
    refine Ev.iload_n dX8_byRule_176 rfl rfl ?_
    refine Ev.if_eq (tgt := 271) ⟨by decide, by decide⟩ dX8_byRule_177 (by decide) (fun h177 => ?_) (fun h177 => ?_)
    · exact absurd h177 (by decide)
    · skip
      refine Ev.iconst dX8_byRule_180 ?_
      refine Ev.istore (pl' := [some (vR (272)), some (vI (((l : Nat) : Int))), some (vI (((kr : Nat) : Int))), some (vI (1)), some (vI (1)), none]) dX8_byRule_181 (Nat.le_of_ble_eq_true rfl) rfl ?_
      refine Ev.bipush (n := 6) (by decide) dX8_byRule_183 ?_
      refine Ev.iload_n dX8_byRule_185 rfl rfl ?_
      refine Ev.imul dX8_byRule_186 ?_
      refine Ev.istore (pl' := [some (vR (272)), some (vI (((l : Nat) : Int))), some (vI (((kr : Nat) : Int))), some (vI (1)), some (vI (1)), some (vI ((6 * ((l : Nat) : Int))))]) dX8_byRule_187 (Nat.le_of_ble_eq_true rfl) rfl ?_
      refine Ev.wk (pl' := [some (vR (272)), some (vI (((l : Nat) : Int))), some (vI (((kr : Nat) : Int))), some (vI (1)), some (vI (bI (∀ k, k < 0 → (rA (sL s l) k).toNat.testBit (A (rO (sL s l) k)) = false))), some (vI ((((6 * l + 0) : Nat) : Int)))]) ⟨rfl, ⟨rfl, ⟨rfl, ⟨rfl, ⟨vIe (bI_t (fun k hk => absurd hk (by omega))), ⟨vIe (by omega), trivial⟩⟩⟩⟩⟩⟩ ?_
      refine rM_br_c s τ hMt l kr hl hkr A hA hl16 ?_ (rN (sL s l)) 0 (by omega)
      refine Ev.iload dX8_byRule_248 rfl ?_
      refine Ev.if_eq (tgt := 263) bI_inR dX8_byRule_250 (by decide) (fun h250 => ?_) (fun h250 => ?_)
      · skip
        have q250 := bI_0.mp h250
        refine Ev.aload_n dX8_byRule_263 rfl rfl ?_
        refine Ev.callV_G (M2 := mX8_goesOn) (args2 := []) (rcv := 272) (q := (RX8, TX8, 34)) (ci := 8) dX8_byRule_264 okX8_goesOn lk_X8_266 ovX8_goesOn.1.1 ovX8_goesOn.1.2 ovX8_goesOn.2 (by decide) rfl rfl ltc_272 shc_272 rfl (Nat.le_of_ble_eq_true rfl) (Nat.le_of_ble_eq_true rfl) (sM_goesOn τ (sU s) hU hu1.2.1 (tM s l kr) hX.az hX.ne A hI hA) (fun v_ m_ hp_ => ?_) rfl
        obtain ⟨v9, τ2, rfl, rfl, hF2, hvv⟩ := hp_
        rcases hvv with ⟨rfl, A2, hI2, hA2, hk2, hb2⟩ | ⟨rfl, hz2⟩
        · skip
          show Ev g mX8_byRule 267 [some (vR (272)), some (vI (((l : Nat) : Int))), some (vI (((kr : Nat) : Int))), some (vI (1)), some (vI (bI (fls (sL s l) A))), none] [vI (1)] (M0 (τ2)) 0 0 _
          refine Ev.istore_n (pl' := [some (vR (272)), some (vI (((l : Nat) : Int))), some (vI (((kr : Nat) : Int))), some (vI (1)), some (vI (bI (fls (sL s l) A))), none]) dX8_byRule_267 rfl (Nat.le_of_ble_eq_true rfl) rfl ?_
          refine Ev.goto (tgt := 176) dX8_byRule_268 (by decide) ?_
          refine Ev.wk (pl' := [some (vR (272)), some (vI (((l : Nat) : Int))), some (vI (((kr : Nat) : Int))), some (vI (1)), none, none]) ⟨rfl, ⟨rfl, ⟨rfl, ⟨rfl, trivial⟩⟩⟩⟩ ?_
          exact ih (K + 1) (by omega) τ2 A2 (hMt.scr (S297 hF2)) (hS.tr (S297 hF2)) (hX.same hF2 (by decide)) hI2 hA2 (by omega) (srch_step (P := (noP s l kr)) (fun A B h z => noP_cong hLk.2.1 hMr.2.1 h z) (fun B z => z.1) hXl hI (by first | exact (fun z => q250 z.2.1) | exact (fun z => q258 z.2.2)) hno hb2)
        · skip
          show Ev g mX8_byRule 267 [some (vR (272)), some (vI (((l : Nat) : Int))), some (vI (((kr : Nat) : Int))), some (vI (1)), some (vI (bI (fls (sL s l) A))), none] [vI (0)] (M0 (τ2)) 0 0 _
          refine Ev.istore_n (pl' := [some (vR (272)), some (vI (((l : Nat) : Int))), some (vI (((kr : Nat) : Int))), some (vI (0)), some (vI (bI (fls (sL s l) A))), none]) dX8_byRule_267 rfl (Nat.le_of_ble_eq_true rfl) rfl ?_
          refine Ev.goto (tgt := 176) dX8_byRule_268 (by decide) ?_
          refine Ev.iload_n dX8_byRule_176 rfl rfl ?_
          refine Ev.if_eq (tgt := 271) ⟨by decide, by decide⟩ dX8_byRule_177 (by decide) (fun h177 => ?_) (fun h177 => ?_)
          · skip
            refine Ev.iconst dX8_byRule_271 ?_
            exact Ev.ireturn dX8_byRule_272 rfl (rE ⟨by unfold howR; rw [ifP_f hon, ifP_f hw]; exact bI_t (fun z => srch_end (P := (noP s l kr)) (fun A B h z => noP_cong hLk.2.1 hMr.2.1 h z) (fun B z => z.1) hXl hI (by first | exact (fun z => q250 z.2.1) | exact (fun z => q258 z.2.2)) hno hz2 z), hS.tr (S297 hF2)⟩)
          · exact absurd h177 (by decide)
      · skip
        have q250 := bI_1.mp h250
        refine Ev.aload_n dX8_byRule_253 rfl rfl ?_
        refine Ev.iload_n dX8_byRule_254 rfl rfl ?_
        refine Ev.callV_I (M2 := mX8_fits) (args2 := [vI (((kr : Nat) : Int))]) (rcv := 272) (q := (RX8, TX8, 34)) (ci := 8) dX8_byRule_255 okX8_fits lk_X8_245 ovX8_fits.1.1 ovX8_fits.1.2 ovX8_fits.2 (by decide) rfl rfl ltc_272 shc_272 rfl (Nat.le_of_ble_eq_true rfl) (Nat.le_of_ble_eq_true rfl) (sM_fits τ kr (sU s) (sR s kr) A hk16 hMr.1 hMr.2.1 (fun k hk => ⟨hA _ (hMr.2.1.2.1 k hk), hl16 _ (hMr.2.1.2.1 k hk)⟩) (sB s) hu3) ?_ rfl
        refine Ev.if_eq (tgt := 263) bI_inR dX8_byRule_258 (by decide) (fun h258 => ?_) (fun h258 => ?_)
        · skip
          have q258 := bI_0.mp h258
          refine Ev.aload_n dX8_byRule_263 rfl rfl ?_
          refine Ev.callV_G (M2 := mX8_goesOn) (args2 := []) (rcv := 272) (q := (RX8, TX8, 34)) (ci := 8) dX8_byRule_264 okX8_goesOn lk_X8_266 ovX8_goesOn.1.1 ovX8_goesOn.1.2 ovX8_goesOn.2 (by decide) rfl rfl ltc_272 shc_272 rfl (Nat.le_of_ble_eq_true rfl) (Nat.le_of_ble_eq_true rfl) (sM_goesOn τ (sU s) hU hu1.2.1 (tM s l kr) hX.az hX.ne A hI hA) (fun v_ m_ hp_ => ?_) rfl
          obtain ⟨v9, τ2, rfl, rfl, hF2, hvv⟩ := hp_
          rcases hvv with ⟨rfl, A2, hI2, hA2, hk2, hb2⟩ | ⟨rfl, hz2⟩
          · skip
            show Ev g mX8_byRule 267 [some (vR (272)), some (vI (((l : Nat) : Int))), some (vI (((kr : Nat) : Int))), some (vI (1)), some (vI (bI (fls (sL s l) A))), none] [vI (1)] (M0 (τ2)) 0 0 _
            refine Ev.istore_n (pl' := [some (vR (272)), some (vI (((l : Nat) : Int))), some (vI (((kr : Nat) : Int))), some (vI (1)), some (vI (bI (fls (sL s l) A))), none]) dX8_byRule_267 rfl (Nat.le_of_ble_eq_true rfl) rfl ?_
            refine Ev.goto (tgt := 176) dX8_byRule_268 (by decide) ?_
            refine Ev.wk (pl' := [some (vR (272)), some (vI (((l : Nat) : Int))), some (vI (((kr : Nat) : Int))), some (vI (1)), none, none]) ⟨rfl, ⟨rfl, ⟨rfl, ⟨rfl, trivial⟩⟩⟩⟩ ?_
            exact ih (K + 1) (by omega) τ2 A2 (hMt.scr (S297 hF2)) (hS.tr (S297 hF2)) (hX.same hF2 (by decide)) hI2 hA2 (by omega) (srch_step (P := (noP s l kr)) (fun A B h z => noP_cong hLk.2.1 hMr.2.1 h z) (fun B z => z.1) hXl hI (by first | exact (fun z => q250 z.2.1) | exact (fun z => q258 z.2.2)) hno hb2)
          · skip
            show Ev g mX8_byRule 267 [some (vR (272)), some (vI (((l : Nat) : Int))), some (vI (((kr : Nat) : Int))), some (vI (1)), some (vI (bI (fls (sL s l) A))), none] [vI (0)] (M0 (τ2)) 0 0 _
            refine Ev.istore_n (pl' := [some (vR (272)), some (vI (((l : Nat) : Int))), some (vI (((kr : Nat) : Int))), some (vI (0)), some (vI (bI (fls (sL s l) A))), none]) dX8_byRule_267 rfl (Nat.le_of_ble_eq_true rfl) rfl ?_
            refine Ev.goto (tgt := 176) dX8_byRule_268 (by decide) ?_
            refine Ev.iload_n dX8_byRule_176 rfl rfl ?_
            refine Ev.if_eq (tgt := 271) ⟨by decide, by decide⟩ dX8_byRule_177 (by decide) (fun h177 => ?_) (fun h177 => ?_)
            · skip
              refine Ev.iconst dX8_byRule_271 ?_
              exact Ev.ireturn dX8_byRule_272 rfl (rE ⟨by unfold howR; rw [ifP_f hon, ifP_f hw]; exact bI_t (fun z => srch_end (P := (noP s l kr)) (fun A B h z => noP_cong hLk.2.1 hMr.2.1 h z) (fun B z => z.1) hXl hI (by first | exact (fun z => q250 z.2.1) | exact (fun z => q258 z.2.2)) hno hz2 z), hS.tr (S297 hF2)⟩)
            · exact absurd h177 (by decide)
        · skip
          have q258 := bI_1.mp h258
          refine Ev.iconst dX8_byRule_261 ?_
          exact Ev.ireturn dX8_byRule_262 rfl (rE ⟨by unfold howR; rw [ifP_f hon, ifP_f hw]; exact bI_f (fun z => z ⟨A, hI, q250, q258⟩), hS⟩)

theorem up294 {σ : Sg} {i : Nat} {v : Int} : ScM σ (upC σ 294 i v) := fun c j h _ _ _ => by rw [upC_ne h]
set_option maxRecDepth 100000 in
set_option maxHeartbeats 4000000 in
theorem rM_br_x {g : GC} (s : SS) (σ1 : Sg) (hM1 : MI s σ1) (l kr : Nat) (hl : l < sM s) (hkr : kr < sN s) (hon : ¬ (sW s).testBit kr = false) : ∀ j x : Nat, x + j = sU s → ∀ ρ : Sg, MI s ρ → ScM σ1 ρ → (∀ y, y < x → ρ 294 y = ((tM s l kr) y : Int)) → Ev g mX8_byRule 20 [some (vR (272)), some (vI (((l : Nat) : Int))), some (vI (((kr : Nat) : Int))), some (vI (((x : Nat) : Int))), none, none] [] (M0 (ρ)) 0 0 (retE (fun v τ => v = howR s l kr ∧ ScM σ1 τ)) := by
  intro j
  induction j with
  | zero =>
    intro x hij ρ hMt hS hw
    have hu1 : u1 ρ (sU s) (sG s) (sX s) := (hMt).1
    have hu2 : u2 ρ (sU s) (sN s) (sR s) (sW s) := (hMt).2.1
    have hu3 : TVm ρ (sB s) := (hMt).2.2.1
    have hu4 : u4 ρ (sU s) (sD s) (sO s) (sP s) (sH s) := (hMt).2.2.2.1
    have hu7 : u7 ρ (sU s) (sN s) (sM s) (sL s) (sK s) := (hMt).2.2.2.2.2.2.1
    have hU := hu1.1
    have hN := hu2.1
    have hD := hu4.1
    have hMl := hu7.1
    have hMr := hu2.2.2.2 kr hkr
    have hLk := hu7.2.2 l hl
    have hn6 := hMr.2.1.1.2.1
    have hl6 := hLk.2.1.1.2.1
    have hk16 : kr < 16 := by omega
    refine Ev.iload_n dX8_byRule_20 rfl rfl ?_
    refine Ev.aload_n dX8_byRule_21 rfl rfl ?_
    refine gf_X8_93 (x := ((sU s : Nat) : Int)) rfl dX8_byRule_22 ltc_272 shc_272 hu1.2.1 ?_
    refine Ev.icmp_ge (tgt := 160) ⟨by omega, by omega⟩ ⟨by omega, by omega⟩ dX8_byRule_25 (by decide) (fun h25 => ?_) (fun h25 => ?_)
    · skip
      have hAv : AV ρ 294 (sU s) (tM s l kr) := fun y hy => ⟨hw y (by omega), tM_ne (fun x hx => (hu1.2.2.1 x hx).2) y hy⟩
      refine Ev.aload_n dX8_byRule_160 rfl rfl ?_
      refine Ev.callV_I (M2 := mX8_isFar) (args2 := []) (rcv := 272) (q := (RX8, TX8, 34)) (ci := 8) dX8_byRule_161 okX8_isFar lk_X8_250 ovX8_isFar.1.1 ovX8_isFar.1.2 ovX8_isFar.2 (by decide) rfl rfl ltc_272 shc_272 rfl (Nat.le_of_ble_eq_true rfl) (Nat.le_of_ble_eq_true rfl) (sM_isFar ρ (sU s) hU hu1.2.1 (tM s l kr) hAv.az hAv.ne) ?_ rfl
      refine Ev.if_eq (tgt := 170) bI_inR dX8_byRule_164 (by decide) (fun h164 => ?_) (fun h164 => ?_)
      · skip
        have q164 := bI_0.mp h164
        refine Ev.aload_n dX8_byRule_170 rfl rfl ?_
        refine Ev.callV_G (M2 := mX8_first) (args2 := []) (rcv := 272) (q := (RX8, TX8, 34)) (ci := 8) dX8_byRule_171 okX8_first lk_X8_257 ovX8_first.1.1 ovX8_first.1.2 ovX8_first.2 (by decide) rfl rfl ltc_272 shc_272 rfl (Nat.le_of_ble_eq_true rfl) (Nat.le_of_ble_eq_true rfl) (sM_first ρ (sU s) hU hu1.2.1 (tM s l kr) hAv.az) (fun v_ m_ hp_ => ?_) rfl
        obtain ⟨τ2, rfl, rfl, hF, hG⟩ := hp_
        show Ev g mX8_byRule 174 [some (vR (272)), some (vI (((l : Nat) : Int))), some (vI (((kr : Nat) : Int))), some (vI (((x : Nat) : Int))), none, none] [] (M0 (τ2)) 0 0 _
        refine Ev.iconst dX8_byRule_174 ?_
        refine Ev.istore_n (pl' := [some (vR (272)), some (vI (((l : Nat) : Int))), some (vI (((kr : Nat) : Int))), some (vI (1)), none, none]) dX8_byRule_175 rfl (Nat.le_of_ble_eq_true rfl) rfl ?_
        refine Ev.wk (pl' := [some (vR (272)), some (vI (((l : Nat) : Int))), some (vI (((kr : Nat) : Int))), some (vI (1)), none, none]) ⟨rfl, ⟨rfl, ⟨rfl, ⟨rfl, trivial⟩⟩⟩⟩ ?_
        exact rM_br_s s σ1 hM1 l kr hl hkr hon q164 (16 ^ sU s) 0 (by omega) τ2 _ (hMt.scr (S297 hF)) (hS.tr (S297 hF)) (hAv.same hF (by decide)) (lo_in hAv.ne) hG (Nat.zero_le _) (srch_0 (P := (noP s l kr)) (fun B z => z.1))
      · skip
        have q164 := bI_1.mp h164
        refine Ev.bipush (n := -5) (by decide) dX8_byRule_167 ?_
        exact Ev.ireturn dX8_byRule_169 rfl (rE ⟨by unfold howR; rw [ifP_f hon, ifP_t q164], hS⟩)
    · exact absurd h25 (by omega)
  | succ j ih =>
    intro x hij ρ hMt hS hw
    have hu1 : u1 ρ (sU s) (sG s) (sX s) := (hMt).1
    have hu2 : u2 ρ (sU s) (sN s) (sR s) (sW s) := (hMt).2.1
    have hu3 : TVm ρ (sB s) := (hMt).2.2.1
    have hu4 : u4 ρ (sU s) (sD s) (sO s) (sP s) (sH s) := (hMt).2.2.2.1
    have hu7 : u7 ρ (sU s) (sN s) (sM s) (sL s) (sK s) := (hMt).2.2.2.2.2.2.1
    have hU := hu1.1
    have hN := hu2.1
    have hD := hu4.1
    have hMl := hu7.1
    have hMr := hu2.2.2.2 kr hkr
    have hLk := hu7.2.2 l hl
    have hn6 := hMr.2.1.1.2.1
    have hl6 := hLk.2.1.1.2.1
    have hk16 : kr < 16 := by omega
    refine Ev.iload_n dX8_byRule_20 rfl rfl ?_
    refine Ev.aload_n dX8_byRule_21 rfl rfl ?_
    refine gf_X8_93 (x := ((sU s : Nat) : Int)) rfl dX8_byRule_22 ltc_272 shc_272 hu1.2.1 ?_
    refine Ev.icmp_ge (tgt := 160) ⟨by omega, by omega⟩ ⟨by omega, by omega⟩ dX8_byRule_25 (by decide) (fun h25 => ?_) (fun h25 => ?_)
    · exact absurd h25 (by omega)
    · skip
      refine Ev.iconst dX8_byRule_28 ?_
      refine Ev.istore (pl' := [some (vR (272)), some (vI (((l : Nat) : Int))), some (vI (((kr : Nat) : Int))), some (vI (((x : Nat) : Int))), some (vI (0)), none]) dX8_byRule_29 (Nat.le_of_ble_eq_true rfl) rfl ?_
      refine Ev.bipush (n := 6) (by decide) dX8_byRule_31 ?_
      refine Ev.iload_n dX8_byRule_33 rfl rfl ?_
      refine Ev.imul dX8_byRule_34 ?_
      refine Ev.istore (pl' := [some (vR (272)), some (vI (((l : Nat) : Int))), some (vI (((kr : Nat) : Int))), some (vI (((x : Nat) : Int))), some (vI (0)), some (vI ((6 * ((kr : Nat) : Int))))]) dX8_byRule_35 (Nat.le_of_ble_eq_true rfl) rfl ?_
      refine Ev.wk (pl' := [some (vR (272)), some (vI (((l : Nat) : Int))), some (vI (((kr : Nat) : Int))), some (vI (((x : Nat) : Int))), some (vI (bI (∃ k, k < 0 ∧ rO (sR s kr) k = x))), some (vI ((((6 * kr + 0) : Nat) : Int)))]) ⟨rfl, ⟨rfl, ⟨rfl, ⟨rfl, ⟨vIe (bI_f (fun ⟨_, z, _⟩ => absurd z (by omega))), ⟨vIe (by omega), trivial⟩⟩⟩⟩⟩⟩ ?_
      refine rM_br_a s ρ hMt l kr hl hkr x (by omega) ?_ (rN (sR s kr)) 0 (by omega)
      refine Ev.bipush (n := 6) (by decide) dX8_byRule_82 ?_
      refine Ev.iload_n dX8_byRule_84 rfl rfl ?_
      refine Ev.imul dX8_byRule_85 ?_
      refine Ev.istore (pl' := [some (vR (272)), some (vI (((l : Nat) : Int))), some (vI (((kr : Nat) : Int))), some (vI (((x : Nat) : Int))), some (vI (bI (∃ k, k < rN (sR s kr) ∧ rO (sR s kr) k = x))), some (vI ((6 * ((l : Nat) : Int))))]) dX8_byRule_86 (Nat.le_of_ble_eq_true rfl) rfl ?_
      refine Ev.wk (pl' := [some (vR (272)), some (vI (((l : Nat) : Int))), some (vI (((kr : Nat) : Int))), some (vI (((x : Nat) : Int))), some (vI (bI (ofR (sR s kr) x ∨ ∃ k, k < 0 ∧ rO (sL s l) k = x))), some (vI ((((6 * l + 0) : Nat) : Int)))]) ⟨rfl, ⟨rfl, ⟨rfl, ⟨rfl, ⟨vIe (bI_congr ⟨Or.inl, fun z => z.elim id (fun ⟨_, y, _⟩ => absurd y (by omega))⟩), ⟨vIe (by omega), trivial⟩⟩⟩⟩⟩⟩ ?_
      refine rM_br_b s ρ hMt l kr hl hkr x (by omega) ?_ (rN (sL s l)) 0 (by omega)
      refine Ev.aload_n dX8_byRule_133 rfl rfl ?_
      refine gf_X8_78 rfl dX8_byRule_134 ltc_272 shc_272 rfc_272_29 ?_
      refine Ev.iload_n dX8_byRule_137 rfl rfl ?_
      refine Ev.iload dX8_byRule_138 rfl ?_
      refine Ev.if_eq (tgt := 152) bI_inR dX8_byRule_140 (by decide) (fun h140 => ?_) (fun h140 => ?_)
      · skip
        have q140 := bI_0.mp h140
        refine Ev.iconst dX8_byRule_152 ?_
        refine Ev.iastore dX8_byRule_153 ltc_294 shc_294 (by decide) (by omega) (by omega) ?_
        refine Ev.iinc (pl' := [some (vR (272)), some (vI (((l : Nat) : Int))), some (vI (((kr : Nat) : Int))), some (vI (((x : Nat) : Int) + 1)), some (vI (bI (ofR (sR s kr) x ∨ ofR (sL s l) x))), none]) dX8_byRule_154 rfl (Nat.le_of_ble_eq_true rfl) rfl ?_
        refine Ev.goto (tgt := 20) dX8_byRule_157 (by decide) ?_
        refine Ev.mem (τ := upC ρ 294 x ((tM s l kr) x : Int)) (upi rfl (by first | rw [tM_t q140] | (rw [tM_f q140]; rfl) | rw [tM_f q140])) ?_
        refine Ev.wk (pl' := [some (vR (272)), some (vI (((l : Nat) : Int))), some (vI (((kr : Nat) : Int))), some (vI ((((x + 1) : Nat) : Int))), none, none]) ⟨rfl, ⟨rfl, ⟨rfl, ⟨vIe (by omega), trivial⟩⟩⟩⟩ ?_
        exact ih (x + 1) (by omega) _ (hMt.scr up294) (hS.tr up294) (fun y hy => (Nat.lt_or_ge y x).elim (fun e => (upC_self (by omega)).trans (hw y e)) (fun e => by rw [show y = x by omega]; exact upC_at))
      · skip
        have q140 := bI_1.mp h140
        refine Ev.aload_n dX8_byRule_143 rfl rfl ?_
        refine gf_X8_7 rfl dX8_byRule_144 ltc_272 shc_272 rfc_272_2 ?_
        refine Ev.iload_n dX8_byRule_147 rfl rfl ?_
        refine Ev.iaload (v := ((sG s x : Nat) : Int)) dX8_byRule_148 ltc_273 shc_273 (by decide) (by omega) (by omega) (ldx rfl (hu1.2.2.1 x (by omega)).1) ?_
        refine Ev.goto (tgt := 153) dX8_byRule_149 (by decide) ?_
        refine Ev.iastore dX8_byRule_153 ltc_294 shc_294 (by decide) (by omega) (by omega) ?_
        refine Ev.iinc (pl' := [some (vR (272)), some (vI (((l : Nat) : Int))), some (vI (((kr : Nat) : Int))), some (vI (((x : Nat) : Int) + 1)), some (vI (bI (ofR (sR s kr) x ∨ ofR (sL s l) x))), none]) dX8_byRule_154 rfl (Nat.le_of_ble_eq_true rfl) rfl ?_
        refine Ev.goto (tgt := 20) dX8_byRule_157 (by decide) ?_
        refine Ev.mem (τ := upC ρ 294 x ((tM s l kr) x : Int)) (upi rfl (by first | rw [tM_t q140] | (rw [tM_f q140]; rfl) | rw [tM_f q140])) ?_
        refine Ev.wk (pl' := [some (vR (272)), some (vI (((l : Nat) : Int))), some (vI (((kr : Nat) : Int))), some (vI ((((x + 1) : Nat) : Int))), none, none]) ⟨rfl, ⟨rfl, ⟨rfl, ⟨vIe (by omega), trivial⟩⟩⟩⟩ ?_
        exact ih (x + 1) (by omega) _ (hMt.scr up294) (hS.tr up294) (fun y hy => (Nat.lt_or_ge y x).elim (fun e => (upC_self (by omega)).trans (hw y e)) (fun e => by rw [show y = x by omega]; exact upC_at))

set_option maxRecDepth 100000 in
set_option maxHeartbeats 4000000 in
theorem rM_byRule {g : GC} (s : SS) (σ1 : Sg) (hM1 : MI s σ1) (l kr : Nat) (hl : l < sM s) (hkr : kr < sN s) (hk : sK s l = (kr : Int)) : Ev g mX8_byRule 0 [some (vR (272)), some (vI (((l : Nat) : Int))), none, none, none, none] [] (M0 (σ1)) 0 0 (retE (fun v τ => v = howR s l kr ∧ ScM σ1 τ)) := by
  obtain ⟨hu1, hu2, hu3, hu4, hu5, hu6, hu7, hu8⟩ := id hM1
  have hU := hu1.1
  have hN := hu2.1
  have hD := hu4.1
  have hMl := hu7.1
  have hQ := hu5.1
  refine Ev.aload_n dX8_byRule_0 rfl rfl ?_
  refine gf_X8_56 rfl dX8_byRule_1 ltc_272 shc_272 rfc_272_20 ?_
  refine Ev.iload_n dX8_byRule_4 rfl rfl ?_
  refine Ev.iaload (v := ((kr : Nat) : Int)) dX8_byRule_5 ltc_288 shc_288 (by decide) (by omega) (by omega) (ldx rfl ((hu7.2.2 l hl).2.2.2.1.trans hk)) ?_
  refine Ev.istore_n (pl' := [some (vR (272)), some (vI (((l : Nat) : Int))), some (vI (((kr : Nat) : Int))), none, none, none]) dX8_byRule_6 rfl (Nat.le_of_ble_eq_true rfl) rfl ?_
  refine Ev.aload_n dX8_byRule_7 rfl rfl ?_
  refine gf_X8_34 rfl dX8_byRule_8 ltc_272 shc_272 rfc_272_12 ?_
  refine Ev.iload_n dX8_byRule_11 rfl rfl ?_
  refine Ev.zaload (v := ((b2 ((sW s).testBit kr) : Nat) : Int)) dX8_byRule_12 ltc_281 shc_281 (by decide) (by omega) (by omega) (ldx rfl (hu2.2.2.2 kr (by omega)).2.2) ?_
  refine Ev.if_ne (tgt := 18) b2_inR dX8_byRule_13 (by decide) (fun h13 => ?_) (fun h13 => ?_)
  · skip
    have hon : ¬ (sW s).testBit kr = false := by rw [b2_ne.mp h13]; decide
    refine Ev.iconst dX8_byRule_18 ?_
    refine Ev.istore_n (pl' := [some (vR (272)), some (vI (((l : Nat) : Int))), some (vI (((kr : Nat) : Int))), some (vI (0)), none, none]) dX8_byRule_19 rfl (Nat.le_of_ble_eq_true rfl) rfl ?_
    refine Ev.wk (pl' := [some (vR (272)), some (vI (((l : Nat) : Int))), some (vI (((kr : Nat) : Int))), some (vI (((0 : Nat) : Int))), none, none]) ⟨rfl, ⟨rfl, ⟨rfl, ⟨vIe rfl, trivial⟩⟩⟩⟩ ?_
    exact rM_br_x s σ1 hM1 l kr hl hkr hon (sU s) 0 (by omega) σ1 hM1 (fun _ _ _ _ _ _ => rfl) (fun y hy => absurd hy (by omega))
  · skip
    refine Ev.iconst dX8_byRule_16 ?_
    exact Ev.ireturn dX8_byRule_17 rfl (rE ⟨by unfold howR; rw [ifP_t (b2_0.mp (by omega))], fun _ _ _ _ _ _ => rfl⟩)

set_option maxRecDepth 100000 in
set_option maxHeartbeats 4000000 in
theorem rM_fw_l {g : GC} (s : SS) (σ1 : Sg) : ∀ j l : Nat, l + j = sM s → ∀ τ : Sg, MI s τ → ScM σ1 τ → o_chk s = fw (howL s) (sM s - l) l → Ev g mX8_firstWrong 2 [some (vR (272)), some (vI (((l : Nat) : Int))), none] [] (M0 (τ)) 0 0 (retE (fun v τ => v = o_chk s ∧ MI s τ ∧ ScM σ1 τ)) := by
  intro j
  induction j with
  | zero =>
    intro l hij τ hM1 hS he
    obtain ⟨hu1, hu2, hu3, hu4, hu5, hu6, hu7, hu8⟩ := id hM1
    have hU := hu1.1
    have hN := hu2.1
    have hD := hu4.1
    have hMl := hu7.1
    have hQ := hu5.1
    refine Ev.iload_n dX8_firstWrong_2 rfl rfl ?_
    refine Ev.aload_n dX8_firstWrong_3 rfl rfl ?_
    refine gf_X8_275 (x := ((sM s : Nat) : Int)) rfl dX8_firstWrong_4 ltc_272 shc_272 hu7.2.1 ?_
    refine Ev.icmp_ge (tgt := 59) ⟨by omega, by omega⟩ ⟨by omega, by omega⟩ dX8_firstWrong_7 (by decide) (fun h7 => ?_) (fun h7 => ?_)
    · skip
      refine Ev.bipush (n := -9) (by decide) dX8_firstWrong_59 ?_
      exact Ev.ireturn dX8_firstWrong_61 rfl (rE ⟨(by rw [he, show sM s - l = 0 by omega]; rfl), hM1, hS⟩)
    · exact absurd h7 (by omega)
  | succ j ih =>
    intro l hij τ hM1 hS he
    obtain ⟨hu1, hu2, hu3, hu4, hu5, hu6, hu7, hu8⟩ := id hM1
    have hU := hu1.1
    have hN := hu2.1
    have hD := hu4.1
    have hMl := hu7.1
    have hQ := hu5.1
    have hb5 := (hu7.2.2 l (by omega)).2.2.2.2
    have hee : sM s - l = (sM s - (l + 1)) + 1 := by omega
    have hor := @howL_or s l
    have howI : inR (howL s l) := ⟨by omega, by omega⟩
    refine Ev.iload_n dX8_firstWrong_2 rfl rfl ?_
    refine Ev.aload_n dX8_firstWrong_3 rfl rfl ?_
    refine gf_X8_275 (x := ((sM s : Nat) : Int)) rfl dX8_firstWrong_4 ltc_272 shc_272 hu7.2.1 ?_
    refine Ev.icmp_ge (tgt := 59) ⟨by omega, by omega⟩ ⟨by omega, by omega⟩ dX8_firstWrong_7 (by decide) (fun h7 => ?_) (fun h7 => ?_)
    · exact absurd h7 (by omega)
    · skip
      refine Ev.aload_n dX8_firstWrong_10 rfl rfl ?_
      refine gf_X8_56 rfl dX8_firstWrong_11 ltc_272 shc_272 rfc_272_20 ?_
      refine Ev.iload_n dX8_firstWrong_14 rfl rfl ?_
      refine Ev.iaload (v := sK s l) dX8_firstWrong_15 ltc_288 shc_288 (by decide) (by omega) (by omega) (ldx rfl (hu7.2.2 l (by omega)).2.2.2.1) ?_
      refine Ev.bipush (n := -9) (by decide) dX8_firstWrong_16 ?_
      refine Ev.icmp_ne (tgt := 29) ⟨by omega, by omega⟩ ⟨by decide, by decide⟩ dX8_firstWrong_18 (by decide) (fun h18 => ?_) (fun h18 => ?_)
      · skip
        obtain ⟨kr, hkr⟩ : ∃ k : Nat, sK s l = (k : Int) := ⟨(sK s l).toNat, by omega⟩
        have hwR : howR s l kr = howL s l := by unfold howL; rw [ifP_f (by omega), hkr]; rfl
        refine Ev.aload_n dX8_firstWrong_29 rfl rfl ?_
        refine Ev.iload_n dX8_firstWrong_30 rfl rfl ?_
        refine Ev.callV_G (M2 := mX8_byRule) (args2 := [vI (((l : Nat) : Int))]) (rcv := 272) (q := (RX8, TX8, 34)) (ci := 8) dX8_firstWrong_31 okX8_byRule lk_X8_287 ovX8_byRule.1.1 ovX8_byRule.1.2 ovX8_byRule.2 (by decide) rfl rfl ltc_272 shc_272 rfl (Nat.le_of_ble_eq_true rfl) (Nat.le_of_ble_eq_true rfl) (rM_byRule s τ hM1 l kr (by omega) (by omega) hkr) (fun v_ m_ hp_ => ?_) rfl
        obtain ⟨_, τ2, rfl, rfl, rfl, hS1⟩ := hp_
        rw [hwR]
        have hS := hS.tr hS1
        have hM1 := hM1.scr hS1
        obtain ⟨hu1, hu2, hu3, hu4, hu5, hu6, hu7, hu8⟩ := id hM1
        have hU := hu1.1
        have hN := hu2.1
        have hD := hu4.1
        have hMl := hu7.1
        have hQ := hu5.1
        show Ev g mX8_firstWrong 34 [some (vR (272)), some (vI (((l : Nat) : Int))), none] [vI (howL s l)] (M0 (τ2)) 0 0 _
        refine Ev.istore_n (pl' := [some (vR (272)), some (vI (((l : Nat) : Int))), some (vI (howL s l))]) dX8_firstWrong_34 rfl (Nat.le_of_ble_eq_true rfl) rfl ?_
        refine Ev.iload_n dX8_firstWrong_35 rfl rfl ?_
        refine Ev.iconst dX8_firstWrong_36 ?_
        refine Ev.icmp_eq (tgt := 53) howI ⟨by decide, by decide⟩ dX8_firstWrong_37 (by decide) (fun h37 => ?_) (fun h37 => ?_)
        · skip
          refine Ev.iinc (pl' := [some (vR (272)), some (vI (((l : Nat) : Int) + 1)), some (vI (howL s l))]) dX8_firstWrong_53 rfl (Nat.le_of_ble_eq_true rfl) rfl ?_
          refine Ev.goto (tgt := 2) dX8_firstWrong_56 (by decide) ?_
          refine Ev.wk (pl' := [some (vR (272)), some (vI ((((l + 1) : Nat) : Int))), none]) ⟨rfl, ⟨vIe (by omega), trivial⟩⟩ ?_
          exact ih (l + 1) (by omega) τ2 hM1 hS (by rw [he, hee, fw_1 (by omega)])
        · skip
          refine Ev.iload_n dX8_firstWrong_40 rfl rfl ?_
          refine Ev.bipush (n := -5) (by decide) dX8_firstWrong_41 ?_
          refine Ev.icmp_ne (tgt := 51) howI ⟨by decide, by decide⟩ dX8_firstWrong_43 (by decide) (fun h43 => ?_) (fun h43 => ?_)
          · skip
            refine Ev.iload_n dX8_firstWrong_51 rfl rfl ?_
            exact Ev.ireturn dX8_firstWrong_52 rfl (rE ⟨(by rw [he, hee, fw_0 (by omega)]), hM1, hS⟩)
          · skip
            refine Ev.bipush (n := -5) (by decide) dX8_firstWrong_46 ?_
            refine Ev.goto (tgt := 52) dX8_firstWrong_48 (by decide) ?_
            exact Ev.ireturn dX8_firstWrong_52 rfl (rE ⟨(by rw [he, hee, fw_5 h43]), hM1, hS⟩)
      · skip
        have hwL : bI (¬ Alive (sU s) (sB s) (sSl s l) (cutL s l)) = howL s l := by unfold howL; rw [ifP_t (by omega)]
        refine Ev.aload_n dX8_firstWrong_21 rfl rfl ?_
        refine Ev.iload_n dX8_firstWrong_22 rfl rfl ?_
        refine Ev.callV_G (M2 := mX8_byLines) (args2 := [vI (((l : Nat) : Int))]) (rcv := 272) (q := (RX8, TX8, 34)) (ci := 8) dX8_firstWrong_23 okX8_byLines lk_X8_284 ovX8_byLines.1.1 ovX8_byLines.1.2 ovX8_byLines.2 (by decide) rfl rfl ltc_272 shc_272 rfl (Nat.le_of_ble_eq_true rfl) (Nat.le_of_ble_eq_true rfl) (sM_byLines τ (sU s) hU hu1.2.1 (sG s) (sX s) (fun x hx => ⟨(hu1.2.2.1 x hx).1, (hu1.2.2.1 x hx).2.2⟩) (fun x hx => ⟨(hu1.2.2.2 x hx).1, (hu1.2.2.2 x hx).2.2⟩) (sB s) (sM s) hMl (sL s) (fun r hr => ⟨(hu7.2.2 r hr).1, (hu7.2.2 r hr).2.1, (hu7.2.2 r hr).2.2.1⟩) l (by omega)) (fun v_ m_ hp_ => ?_) rfl
        obtain ⟨_, τ2, rfl, rfl, rfl, hSm⟩ := hp_
        rw [hwL]
        have hS1 := hSm.scr
        have hS := hS.tr hS1
        have hM1 := hM1.scr hS1
        obtain ⟨hu1, hu2, hu3, hu4, hu5, hu6, hu7, hu8⟩ := id hM1
        have hU := hu1.1
        have hN := hu2.1
        have hD := hu4.1
        have hMl := hu7.1
        have hQ := hu5.1
        show Ev g mX8_firstWrong 26 [some (vR (272)), some (vI (((l : Nat) : Int))), none] [vI (howL s l)] (M0 (τ2)) 0 0 _
        refine Ev.goto (tgt := 34) dX8_firstWrong_26 (by decide) ?_
        refine Ev.istore_n (pl' := [some (vR (272)), some (vI (((l : Nat) : Int))), some (vI (howL s l))]) dX8_firstWrong_34 rfl (Nat.le_of_ble_eq_true rfl) rfl ?_
        refine Ev.iload_n dX8_firstWrong_35 rfl rfl ?_
        refine Ev.iconst dX8_firstWrong_36 ?_
        refine Ev.icmp_eq (tgt := 53) howI ⟨by decide, by decide⟩ dX8_firstWrong_37 (by decide) (fun h37 => ?_) (fun h37 => ?_)
        · skip
          refine Ev.iinc (pl' := [some (vR (272)), some (vI (((l : Nat) : Int) + 1)), some (vI (howL s l))]) dX8_firstWrong_53 rfl (Nat.le_of_ble_eq_true rfl) rfl ?_
          refine Ev.goto (tgt := 2) dX8_firstWrong_56 (by decide) ?_
          refine Ev.wk (pl' := [some (vR (272)), some (vI ((((l + 1) : Nat) : Int))), none]) ⟨rfl, ⟨vIe (by omega), trivial⟩⟩ ?_
          exact ih (l + 1) (by omega) τ2 hM1 hS (by rw [he, hee, fw_1 (by omega)])
        · skip
          refine Ev.iload_n dX8_firstWrong_40 rfl rfl ?_
          refine Ev.bipush (n := -5) (by decide) dX8_firstWrong_41 ?_
          refine Ev.icmp_ne (tgt := 51) howI ⟨by decide, by decide⟩ dX8_firstWrong_43 (by decide) (fun h43 => ?_) (fun h43 => ?_)
          · skip
            refine Ev.iload_n dX8_firstWrong_51 rfl rfl ?_
            exact Ev.ireturn dX8_firstWrong_52 rfl (rE ⟨(by rw [he, hee, fw_0 (by omega)]), hM1, hS⟩)
          · skip
            refine Ev.bipush (n := -5) (by decide) dX8_firstWrong_46 ?_
            refine Ev.goto (tgt := 52) dX8_firstWrong_48 (by decide) ?_
            exact Ev.ireturn dX8_firstWrong_52 rfl (rE ⟨(by rw [he, hee, fw_5 h43]), hM1, hS⟩)

set_option maxRecDepth 100000 in
set_option maxHeartbeats 4000000 in
theorem rM_firstWrong {g : GC} (s : SS) (σ1 : Sg) (hM1 : MI s σ1) : Ev g mX8_firstWrong 0 [some (vR (272)), none, none] [] (M0 (σ1)) 0 0 (retE (fun v τ => v = o_chk s ∧ MI s τ ∧ ScM σ1 τ)) := by
  refine Ev.iconst dX8_firstWrong_0 ?_
  refine Ev.istore_n (pl' := [some (vR (272)), some (vI (0)), none]) dX8_firstWrong_1 rfl (Nat.le_of_ble_eq_true rfl) rfl ?_
  refine Ev.wk (pl' := [some (vR (272)), some (vI (((0 : Nat) : Int))), none]) ⟨rfl, ⟨vIe rfl, trivial⟩⟩ ?_
  exact rM_fw_l s σ1 (sM s) 0 (by omega) σ1 hM1 (fun _ _ _ _ _ _ => rfl) rfl

set_option maxRecDepth 100000 in
set_option maxHeartbeats 4000000 in
theorem r_check {g : GC} (s : SS) (σ : Sg) (hM : MI s σ) : Ev g mX8_check 0 [some (vR (272))] [] (M0 (σ)) 0 0 (retE (MP σ (o_check s))) := by
  refine Ev.aload_n dX8_check_0 rfl rfl ?_
  refine Ev.iconst dX8_check_1 ?_
  refine pf_X8_90 rfl dX8_check_2 ltc_272 shc_272 ?_
  obtain ⟨σ1, hs1⟩ : ∃ ρ : Sg, ρ = upC σ 272 0 0 := ⟨_, rfl⟩
  refine Ev.mem (τ := σ1) hs1.symm ?_
  have hM1 : MI s σ1 := by rw [hs1]; exact hM.th
  have hk0 : ∀ c, c < 272 → σ1 c = σ c := fun c hc => by rw [hs1]; exact upC_ne (by omega)
  obtain ⟨hu1, hu2, hu3, hu4, hu5, hu6, hu7, hu8⟩ := id hM1
  have hU := hu1.1
  have hN := hu2.1
  have hD := hu4.1
  have hMl := hu7.1
  have hQ := hu5.1
  refine Ev.aload_n dX8_check_5 rfl rfl ?_
  refine Ev.callV_G (M2 := mX8_firstWrong) (args2 := []) (rcv := 272) (q := (RX8, TX8, 34)) (ci := 8) dX8_check_6 okX8_firstWrong lk_X8_290 ovX8_firstWrong.1.1 ovX8_firstWrong.1.2 ovX8_firstWrong.2 (by decide) rfl rfl ltc_272 shc_272 rfl (Nat.le_of_ble_eq_true rfl) (Nat.le_of_ble_eq_true rfl) (rM_firstWrong s σ1 hM1) (fun v_ m_ hp_ => ?_) rfl
  obtain ⟨_, τ, rfl, rfl, rfl, hM1, hS⟩ := hp_
  have hk0 := fun c (h : c < 272) => (hS.lo c h).trans (hk0 c h)
  have hcb : -9 ≤ o_chk s ∧ o_chk s ≤ ((sM s : Nat) : Int) + ((0 : Nat) : Int) := fw_bd (howL s) (sM s) 0
  obtain ⟨hu1, hu2, hu3, hu4, hu5, hu6, hu7, hu8⟩ := id hM1
  have hU := hu1.1
  have hN := hu2.1
  have hD := hu4.1
  have hMl := hu7.1
  have hQ := hu5.1
  show Ev g mX8_check 9 [some (vR (272))] [vI (o_chk s)] (M0 (τ)) 0 0 _
  exact Ev.ireturn dX8_check_9 rfl (rE (by unfold MP o_check; (repeat rw [Int.toNat_natCast]); exact ⟨rfl, hM1, hk0⟩))

set_option maxRecDepth 100000 in
set_option maxHeartbeats 4000000 in
theorem r_ref_l {g : GC} (s : SS) (σ σ1 : Sg) (hM1 : MI s σ1) (hk0 : ∀ c, c < 272 → σ1 c = σ c) (h8 : ¬ o_chk s = -5) : ∀ j l : Nat, l + j = sM s → Ev g mX8_refutes 23 [some (vR (272)), some (vI (o_chk s)), some (vI (bI (∃ q, q < l ∧ rN (sL s q) = 0))), some (vI (((l : Nat) : Int)))] [] (M0 (σ1)) 0 0 (retE (MP σ (o_refutes s))) := by
  intro j
  induction j with
  | zero =>
    intro l hij
    obtain ⟨hu1, hu2, hu3, hu4, hu5, hu6, hu7, hu8⟩ := id hM1
    have hU := hu1.1
    have hN := hu2.1
    have hD := hu4.1
    have hMl := hu7.1
    have hQ := hu5.1
    have hcb : -9 ≤ o_chk s ∧ o_chk s ≤ ((sM s : Nat) : Int) + ((0 : Nat) : Int) := fw_bd (howL s) (sM s) 0
    refine Ev.iload_n dX8_refutes_23 rfl rfl ?_
    refine Ev.aload_n dX8_refutes_24 rfl rfl ?_
    refine gf_X8_275 (x := ((sM s : Nat) : Int)) rfl dX8_refutes_25 ltc_272 shc_272 hu7.2.1 ?_
    refine Ev.icmp_ge (tgt := 56) ⟨by omega, by omega⟩ ⟨by omega, by omega⟩ dX8_refutes_28 (by decide) (fun h28 => ?_) (fun h28 => ?_)
    · skip
      refine Ev.iload_n dX8_refutes_56 rfl rfl ?_
      refine Ev.bipush (n := -9) (by decide) dX8_refutes_57 ?_
      refine Ev.icmp_ne (tgt := 70) ⟨by omega, by omega⟩ ⟨by decide, by decide⟩ dX8_refutes_59 (by decide) (fun h59 => ?_) (fun h59 => ?_)
      · skip
        refine Ev.iconst dX8_refutes_70 ?_
        exact Ev.ireturn dX8_refutes_71 rfl (rE (by unfold MP o_refutes; rw [ifP_f h8]; exact ⟨bI_f (fun z => by first | exact h59 z.1 | (have y := q63; rw [show l = sM s by omega] at y; exact y z.2)), hM1, hk0⟩))
      · skip
        refine Ev.iload_n dX8_refutes_62 rfl rfl ?_
        refine Ev.if_eq (tgt := 70) bI_inR dX8_refutes_63 (by decide) (fun h63 => ?_) (fun h63 => ?_)
        · skip
          have q63 := bI_0.mp h63
          refine Ev.iconst dX8_refutes_70 ?_
          exact Ev.ireturn dX8_refutes_71 rfl (rE (by unfold MP o_refutes; rw [ifP_f h8]; exact ⟨bI_f (fun z => by first | exact h59 z.1 | (have y := q63; rw [show l = sM s by omega] at y; exact y z.2)), hM1, hk0⟩))
        · skip
          have q63 := bI_1.mp h63
          refine Ev.iconst dX8_refutes_66 ?_
          refine Ev.goto (tgt := 71) dX8_refutes_67 (by decide) ?_
          exact Ev.ireturn dX8_refutes_71 rfl (rE (by unfold MP o_refutes; rw [ifP_f h8]; exact ⟨bI_t ⟨by omega, by have z := q63; rw [show l = sM s by omega] at z; exact z⟩, hM1, hk0⟩))
    · exact absurd h28 (by omega)
  | succ j ih =>
    intro l hij
    obtain ⟨hu1, hu2, hu3, hu4, hu5, hu6, hu7, hu8⟩ := id hM1
    have hU := hu1.1
    have hN := hu2.1
    have hD := hu4.1
    have hMl := hu7.1
    have hQ := hu5.1
    have hcb : -9 ≤ o_chk s ∧ o_chk s ≤ ((sM s : Nat) : Int) + ((0 : Nat) : Int) := fw_bd (howL s) (sM s) 0
    have hl6 := (hu7.2.2 l (by omega)).2.1.1.2.1
    refine Ev.iload_n dX8_refutes_23 rfl rfl ?_
    refine Ev.aload_n dX8_refutes_24 rfl rfl ?_
    refine gf_X8_275 (x := ((sM s : Nat) : Int)) rfl dX8_refutes_25 ltc_272 shc_272 hu7.2.1 ?_
    refine Ev.icmp_ge (tgt := 56) ⟨by omega, by omega⟩ ⟨by omega, by omega⟩ dX8_refutes_28 (by decide) (fun h28 => ?_) (fun h28 => ?_)
    · exact absurd h28 (by omega)
    · skip
      refine Ev.iload_n dX8_refutes_31 rfl rfl ?_
      refine Ev.if_ne (tgt := 44) bI_inR dX8_refutes_32 (by decide) (fun h32 => ?_) (fun h32 => ?_)
      · skip
        have q32 := bI_1.mp h32
        refine Ev.iconst dX8_refutes_44 ?_
        refine Ev.goto (tgt := 49) dX8_refutes_45 (by decide) ?_
        refine Ev.istore_n (pl' := [some (vR (272)), some (vI (o_chk s)), some (vI (1)), some (vI (((l : Nat) : Int)))]) dX8_refutes_49 rfl (Nat.le_of_ble_eq_true rfl) rfl ?_
        refine Ev.iinc (pl' := [some (vR (272)), some (vI (o_chk s)), some (vI (1)), some (vI (((l : Nat) : Int) + 1))]) dX8_refutes_50 rfl (Nat.le_of_ble_eq_true rfl) rfl ?_
        refine Ev.goto (tgt := 23) dX8_refutes_53 (by decide) ?_
        refine Ev.wk (pl' := [some (vR (272)), some (vI (o_chk s)), some (vI (bI (∃ q, q < (l + 1) ∧ rN (sL s q) = 0))), some (vI ((((l + 1) : Nat) : Int)))]) ⟨rfl, ⟨rfl, ⟨vIe (by first | exact bI_t (by obtain ⟨q, z1, z2⟩ := q32; exact ⟨q, by omega, z2⟩) | exact bI_t ⟨l, by omega, by omega⟩ | exact bI_f (fun z => q32 (by obtain ⟨j, z1, z2⟩ := z; exact ⟨j, (by have : j ≠ l := (fun e => by rw [e] at z2; omega); omega), z2⟩))), ⟨vIe (by omega), trivial⟩⟩⟩⟩ ?_
        exact ih (l + 1) (by omega)
      · skip
        have q32 := bI_0.mp h32
        refine Ev.aload_n dX8_refutes_35 rfl rfl ?_
        refine gf_X8_59 rfl dX8_refutes_36 ltc_272 shc_272 rfc_272_21 ?_
        refine Ev.iload_n dX8_refutes_39 rfl rfl ?_
        refine Ev.iaload (v := ((rN (sL s l) : Nat) : Int)) dX8_refutes_40 ltc_289 shc_289 (by decide) (by omega) (by omega) (ldx rfl (hu7.2.2 l (by omega)).1.1) ?_
        refine Ev.if_ne (tgt := 48) ⟨by omega, by omega⟩ dX8_refutes_41 (by decide) (fun h41 => ?_) (fun h41 => ?_)
        · skip
          refine Ev.iconst dX8_refutes_48 ?_
          refine Ev.istore_n (pl' := [some (vR (272)), some (vI (o_chk s)), some (vI (0)), some (vI (((l : Nat) : Int)))]) dX8_refutes_49 rfl (Nat.le_of_ble_eq_true rfl) rfl ?_
          refine Ev.iinc (pl' := [some (vR (272)), some (vI (o_chk s)), some (vI (0)), some (vI (((l : Nat) : Int) + 1))]) dX8_refutes_50 rfl (Nat.le_of_ble_eq_true rfl) rfl ?_
          refine Ev.goto (tgt := 23) dX8_refutes_53 (by decide) ?_
          refine Ev.wk (pl' := [some (vR (272)), some (vI (o_chk s)), some (vI (bI (∃ q, q < (l + 1) ∧ rN (sL s q) = 0))), some (vI ((((l + 1) : Nat) : Int)))]) ⟨rfl, ⟨rfl, ⟨vIe (by first | exact bI_t (by obtain ⟨q, z1, z2⟩ := q32; exact ⟨q, by omega, z2⟩) | exact bI_t ⟨l, by omega, by omega⟩ | exact bI_f (fun z => q32 (by obtain ⟨j, z1, z2⟩ := z; exact ⟨j, (by have : j ≠ l := (fun e => by rw [e] at z2; omega); omega), z2⟩))), ⟨vIe (by omega), trivial⟩⟩⟩⟩ ?_
          exact ih (l + 1) (by omega)
        · skip
          refine Ev.iconst dX8_refutes_44 ?_
          refine Ev.goto (tgt := 49) dX8_refutes_45 (by decide) ?_
          refine Ev.istore_n (pl' := [some (vR (272)), some (vI (o_chk s)), some (vI (1)), some (vI (((l : Nat) : Int)))]) dX8_refutes_49 rfl (Nat.le_of_ble_eq_true rfl) rfl ?_
          refine Ev.iinc (pl' := [some (vR (272)), some (vI (o_chk s)), some (vI (1)), some (vI (((l : Nat) : Int) + 1))]) dX8_refutes_50 rfl (Nat.le_of_ble_eq_true rfl) rfl ?_
          refine Ev.goto (tgt := 23) dX8_refutes_53 (by decide) ?_
          refine Ev.wk (pl' := [some (vR (272)), some (vI (o_chk s)), some (vI (bI (∃ q, q < (l + 1) ∧ rN (sL s q) = 0))), some (vI ((((l + 1) : Nat) : Int)))]) ⟨rfl, ⟨rfl, ⟨vIe (by first | exact bI_t (by obtain ⟨q, z1, z2⟩ := q32; exact ⟨q, by omega, z2⟩) | exact bI_t ⟨l, by omega, by omega⟩ | exact bI_f (fun z => q32 (by obtain ⟨j, z1, z2⟩ := z; exact ⟨j, (by have : j ≠ l := (fun e => by rw [e] at z2; omega); omega), z2⟩))), ⟨vIe (by omega), trivial⟩⟩⟩⟩ ?_
          exact ih (l + 1) (by omega)

set_option maxRecDepth 100000 in
set_option maxHeartbeats 4000000 in
theorem r_refutes {g : GC} (s : SS) (σ : Sg) (hM : MI s σ) : Ev g mX8_refutes 0 [some (vR (272)), none, none, none] [] (M0 (σ)) 0 0 (retE (MP σ (o_refutes s))) := by
  refine Ev.aload_n dX8_refutes_0 rfl rfl ?_
  refine Ev.iconst dX8_refutes_1 ?_
  refine pf_X8_90 rfl dX8_refutes_2 ltc_272 shc_272 ?_
  obtain ⟨σ1, hs1⟩ : ∃ ρ : Sg, ρ = upC σ 272 0 0 := ⟨_, rfl⟩
  refine Ev.mem (τ := σ1) hs1.symm ?_
  have hM1 : MI s σ1 := by rw [hs1]; exact hM.th
  have hk0 : ∀ c, c < 272 → σ1 c = σ c := fun c hc => by rw [hs1]; exact upC_ne (by omega)
  obtain ⟨hu1, hu2, hu3, hu4, hu5, hu6, hu7, hu8⟩ := id hM1
  have hU := hu1.1
  have hN := hu2.1
  have hD := hu4.1
  have hMl := hu7.1
  have hQ := hu5.1
  refine Ev.aload_n dX8_refutes_5 rfl rfl ?_
  refine Ev.callV_G (M2 := mX8_firstWrong) (args2 := []) (rcv := 272) (q := (RX8, TX8, 34)) (ci := 8) dX8_refutes_6 okX8_firstWrong lk_X8_290 ovX8_firstWrong.1.1 ovX8_firstWrong.1.2 ovX8_firstWrong.2 (by decide) rfl rfl ltc_272 shc_272 rfl (Nat.le_of_ble_eq_true rfl) (Nat.le_of_ble_eq_true rfl) (rM_firstWrong s σ1 hM1) (fun v_ m_ hp_ => ?_) rfl
  obtain ⟨_, τ, rfl, rfl, rfl, hM1, hS⟩ := hp_
  have hk0 := fun c (h : c < 272) => (hS.lo c h).trans (hk0 c h)
  have hcb : -9 ≤ o_chk s ∧ o_chk s ≤ ((sM s : Nat) : Int) + ((0 : Nat) : Int) := fw_bd (howL s) (sM s) 0
  obtain ⟨hu1, hu2, hu3, hu4, hu5, hu6, hu7, hu8⟩ := id hM1
  have hU := hu1.1
  have hN := hu2.1
  have hD := hu4.1
  have hMl := hu7.1
  have hQ := hu5.1
  show Ev g mX8_refutes 9 [some (vR (272)), none, none, none] [vI (o_chk s)] (M0 (τ)) 0 0 _
  refine Ev.istore_n (pl' := [some (vR (272)), some (vI (o_chk s)), none, none]) dX8_refutes_9 rfl (Nat.le_of_ble_eq_true rfl) rfl ?_
  refine Ev.iload_n dX8_refutes_10 rfl rfl ?_
  refine Ev.bipush (n := -5) (by decide) dX8_refutes_11 ?_
  refine Ev.icmp_ne (tgt := 19) ⟨by omega, by omega⟩ ⟨by decide, by decide⟩ dX8_refutes_13 (by decide) (fun h13 => ?_) (fun h13 => ?_)
  · skip
    refine Ev.iconst dX8_refutes_19 ?_
    refine Ev.istore_n (pl' := [some (vR (272)), some (vI (o_chk s)), some (vI (0)), none]) dX8_refutes_20 rfl (Nat.le_of_ble_eq_true rfl) rfl ?_
    refine Ev.iconst dX8_refutes_21 ?_
    refine Ev.istore_n (pl' := [some (vR (272)), some (vI (o_chk s)), some (vI (0)), some (vI (0))]) dX8_refutes_22 rfl (Nat.le_of_ble_eq_true rfl) rfl ?_
    refine Ev.wk (pl' := [some (vR (272)), some (vI (o_chk s)), some (vI (bI (∃ q, q < 0 ∧ rN (sL s q) = 0))), some (vI (((0 : Nat) : Int)))]) ⟨rfl, ⟨rfl, ⟨vIe (bI_f (fun ⟨q, z, _⟩ => absurd z (by omega))), ⟨vIe rfl, trivial⟩⟩⟩⟩ ?_
    exact r_ref_l s σ τ hM1 hk0 h13 (sM s) 0 (by omega)
  · skip
    refine Ev.bipush (n := -5) (by decide) dX8_refutes_16 ?_
    exact Ev.ireturn dX8_refutes_18 rfl (rE (by unfold MP o_refutes; rw [ifP_t h13]; exact ⟨rfl, hM1, hk0⟩))

