/-! THE REFERENCE: count, best, has -/
theorem ans_same {s : SS} {X : Rg} {A B : An} (hS : SyOk (sU s) (sS s)) (hA : lt16 (sU s) A) (hB : ansP s X B) (h : kod (sU s) B = kod (sU s) A) : (∀ x, x < sU s → B x = A x) ∧ ansP s X A := by
  have e := kod_inj (ansP_lt hB) hA h
  exact ⟨e, ansP_cong hS e hB⟩
theorem cnt_y {s : SS} {A : An} {Q : An → Prop} (hS : SyOk (sU s) (sS s)) (hA : lt16 (sU s) A) (hq : ∀ B, ansP s (sX s) B → (Q B ↔ kod (sU s) B ≤ kod (sU s) A)) (hp : ansP s (sX s) A) : nmb (sU s) (fun B => ansP s (sX s) B ∧ Q B) = nmb (sU s) (fun B => ansP s (sX s) B ∧ kod (sU s) B < kod (sU s) A) + 1 := by
  have e : nmb (sU s) (fun B => ansP s (sX s) B ∧ Q B) = nmb (sU s) (fun B => (ansP s (sX s) B ∧ kod (sU s) B < kod (sU s) A) ∨ (ansP s (sX s) B ∧ kod (sU s) B = kod (sU s) A)) := nmb_congr fun B _ => by
    constructor
    · rintro ⟨h1, h2⟩
      have h3 := (hq B h1).mp h2
      rcases Nat.lt_or_ge (kod (sU s) B) (kod (sU s) A) with h | h
      · exact Or.inl ⟨h1, h⟩
      · exact Or.inr ⟨h1, by omega⟩
    · rintro (⟨h1, h2⟩ | ⟨h1, h2⟩)
      · exact ⟨h1, (hq B h1).mpr (by omega)⟩
      · exact ⟨h1, (hq B h1).mpr (by omega)⟩
  rw [e, nmb_or (fun B z => by have h1 := z.1.2; have h2 := z.2.2; omega)]
  congr 1
  exact nmb_1 hA fun B hB => ⟨fun z => kod_inj hB hA z.2, fun z => ⟨ansP_cong hS (fun x hx => (z x hx).symm) hp, kod_cong z⟩⟩
theorem cnt_n {s : SS} {A : An} {Q : An → Prop} (hS : SyOk (sU s) (sS s)) (hA : lt16 (sU s) A) (hq : ∀ B, ansP s (sX s) B → (Q B ↔ kod (sU s) B ≤ kod (sU s) A)) (hp : ¬ ansP s (sX s) A) : nmb (sU s) (fun B => ansP s (sX s) B ∧ Q B) = nmb (sU s) (fun B => ansP s (sX s) B ∧ kod (sU s) B < kod (sU s) A) := nmb_congr fun B _ => by
  constructor
  · rintro ⟨h1, h2⟩
    have h3 := (hq B h1).mp h2
    rcases Nat.lt_or_ge (kod (sU s) B) (kod (sU s) A) with h | h
    · exact ⟨h1, h⟩
    · exact absurd (ans_same hS hA h1 (by omega)).2 hp
  · rintro ⟨h1, h2⟩
    exact ⟨h1, (hq B h1).mpr (by omega)⟩
theorem cnt_z {s : SS} {Q : An → Prop} (h : ∀ B, ansP s (sX s) B → Q B) : nmb (sU s) (fun B => ansP s (sX s) B ∧ Q B) = nmb (sU s) (ansP s (sX s)) := nmb_congr fun B _ => ⟨fun z => z.1, fun z => ⟨z, h B z⟩⟩
/-- which number is the better one -/
def btr (g : Int) (a b : Nat) : Prop := (g = 0 ∧ a < b) ∨ (g ≠ 0 ∧ b < a)
theorem btr_no {g : Int} {a : Nat} : ¬ btr g a a := by rintro (⟨_, h⟩ | ⟨_, h⟩) <;> omega
/-- the best answer among some: none yet, or the least of the best ones -/
def InvB (s : SS) (kx : Nat) (g a : Int) (v : An) (D : An → Prop) : Prop := (a = -1 ∧ ∀ B, ansP s (sX s) B → ¬ D B) ∨ (a = (sU s : Int) ∧ ansP s (sX s) v ∧ D v ∧ ∀ B, ansP s (sX s) B → D B → ¬ btr g (B kx) (v kx) ∧ (B kx = v kx → kod (sU s) v ≤ kod (sU s) B))
theorem InvB.a {s : SS} {kx : Nat} {g a : Int} {v : An} {D : An → Prop} (h : InvB s kx g a v D) : a = -1 ∨ a = (sU s : Int) := h.imp And.left And.left
theorem InvB.cg {s : SS} {kx : Nat} {g a : Int} {v : An} {D D' : An → Prop} (h : InvB s kx g a v D) (e : ∀ B, ansP s (sX s) B → (D' B ↔ D B)) : InvB s kx g a v D' := by
  rcases h with ⟨h1, h2⟩ | ⟨h1, h2, h3, h4⟩
  · exact Or.inl ⟨h1, fun B hB z => h2 B hB ((e B hB).mp z)⟩
  · exact Or.inr ⟨h1, h2, (e v h2).mpr h3, fun B hB z => h4 B hB ((e B hB).mp z)⟩
theorem InvB.n {s : SS} {kx : Nat} {g a : Int} {v A : An} (hS : SyOk (sU s) (sS s)) (hA : lt16 (sU s) A) (h : InvB s kx g a v (fun B => kod (sU s) B < kod (sU s) A)) (hp : ¬ ansP s (sX s) A) : InvB s kx g a v (fun B => kod (sU s) B ≤ kod (sU s) A) := h.cg fun B hB => by
  constructor
  · intro z
    rcases Nat.lt_or_ge (kod (sU s) B) (kod (sU s) A) with e | e
    · exact e
    · exact absurd (ans_same hS hA hB (Nat.le_antisymm z e)).2 hp
  · intro z
    exact Nat.le_of_lt z
theorem InvB.w {s : SS} {kx : Nat} {g a : Int} {v A : An} (hS : SyOk (sU s) (sS s)) (hA : lt16 (sU s) A) (hx : kx < sU s) (h : InvB s kx g a v (fun B => kod (sU s) B < kod (sU s) A)) (ha : a = (sU s : Int)) (hb : ¬ btr g (A kx) (v kx)) : InvB s kx g a v (fun B => kod (sU s) B ≤ kod (sU s) A) := by
  rcases h with ⟨h1, h2⟩ | ⟨h1, h2, h3, h4⟩
  · exact absurd h1 (by omega)
  · refine Or.inr ⟨h1, h2, Nat.le_of_lt h3, fun B hB z => ?_⟩
    rcases Nat.lt_or_ge (kod (sU s) B) (kod (sU s) A) with e | e
    · exact h4 B hB e
    · have e2 := (ans_same hS hA hB (Nat.le_antisymm z e)).1 kx hx
      rw [e2]
      exact ⟨hb, fun _ => by have h5 : kod (sU s) v < kod (sU s) A := h3; omega⟩
theorem InvB.y {s : SS} {kx : Nat} {g a : Int} {v A : An} (hS : SyOk (sU s) (sS s)) (hA : lt16 (sU s) A) (hx : kx < sU s) (h : InvB s kx g a v (fun B => kod (sU s) B < kod (sU s) A)) (hb : a = -1 ∨ btr g (A kx) (v kx)) (hp : ansP s (sX s) A) : InvB s kx g (sU s) A (fun B => kod (sU s) B ≤ kod (sU s) A) := by
  refine Or.inr ⟨rfl, hp, Nat.le_refl _, fun B hB z => ?_⟩
  rcases Nat.lt_or_ge (kod (sU s) B) (kod (sU s) A) with e | e
  · rcases h with ⟨h1, h2⟩ | ⟨h1, h2, h3, h4⟩
    · exact absurd e (h2 B hB)
    · have h5 := (h4 B hB e).1
      rcases hb with hb | hb
      · omega
      · unfold btr at h5 hb ⊢
        exact ⟨by omega, fun z => by omega⟩
  · have e2 := (ans_same hS hA hB (Nat.le_antisymm z e)).1 kx hx
    rw [e2]
    exact ⟨btr_no, fun _ => e⟩
theorem bst_of {s : SS} {kx : Nat} {g : Int} {v : An} (hx : kx < sU s) (hv : ansP s (sX s) v) (h : ∀ B, ansP s (sX s) B → ¬ btr g (B kx) (v kx)) : bstV s kx g = v kx := by
  have hl := ansP_lt hv kx hx
  unfold bstV
  by_cases e : g = 0
  · rw [ifP_t e]
    exact bst_lo ⟨v, hv, rfl⟩ hl fun u hu ⟨B, z1, z2⟩ => h B z1 (Or.inl ⟨e, by omega⟩)
  · rw [ifP_f e]
    have h1 := bst_hi (s := s) (x := kx) (i := 15 - v kx) ⟨v, hv, by omega⟩ (by omega) fun u hu ⟨B, z1, z2⟩ => h B z1 (Or.inr ⟨e, by omega⟩)
    omega
theorem InvB.end {s : SS} {kx : Nat} {g : Int} {v : An} {D : An → Prop} {a : Int} (hx : kx < sU s) (h : InvB s kx g a v D) (hD : ∀ B, ansP s (sX s) B → D B) (ha : a ≠ -1) : a = (sU s : Int) ∧ ansP s (sX s) v ∧ bstV s kx g = v kx ∧ ∀ y, y < sU s → lstA (sU s) (fun B => ansP s (sX s) B ∧ B kx = bstV s kx g) y = v y := by
  rcases h with ⟨h1, h2⟩ | ⟨h1, h2, h3, h4⟩
  · exact absurd h1 ha
  · have e := bst_of hx h2 (fun B hB => (h4 B hB (hD B hB)).1)
    refine ⟨h1, h2, e, lstA_eq (fun B z => ansP_lt z.1) ⟨⟨h2, e.symm⟩, fun B z => ?_⟩⟩
    exact (h4 B z.1 (hD B z.1)).2 (by rw [z.2, e])
theorem InvB.end0 {s : SS} {kx : Nat} {g : Int} {v : An} {D : An → Prop} (h : InvB s kx g (-1) v D) (hD : ∀ B, ansP s (sX s) B → D B) : ¬ ∃ B, ansP s (sX s) B := fun ⟨B, hB⟩ => by
  rcases h with ⟨h1, h2⟩ | ⟨h1, _⟩
  · exact h2 B hB (hD B hB)
  · omega
/-- is there an answer among some, of which a bit is so -/
def hasD (s : SS) (kx n : Nat) (b : Bool) (D : An → Prop) : Prop := ∃ B, ansP s (sX s) B ∧ D B ∧ n.testBit (B kx) = b
theorem hs_up {s : SS} {kx n : Nat} {b : Bool} {A : An} {Q : An → Prop} {b5 t5 : Int} (hS : SyOk (sU s) (sS s)) (hA : lt16 (sU s) A) (hx : kx < sU s) (h5 : b5 = bI (hasD s kx n b (fun B => kod (sU s) B < kod (sU s) A))) (hq : ∀ B, ansP s (sX s) B → (Q B ↔ kod (sU s) B ≤ kod (sU s) A)) (h : (t5 = 1 ∧ (b5 = 1 ∨ (ansP s (sX s) A ∧ n.testBit (A kx) = b))) ∨ (t5 = b5 ∧ ¬ (ansP s (sX s) A ∧ n.testBit (A kx) = b)) ∨ (t5 = b5 ∧ b5 = 1)) : t5 = bI (hasD s kx n b Q) := by
  have hup : hasD s kx n b (fun B => kod (sU s) B < kod (sU s) A) → hasD s kx n b Q := fun ⟨B, z1, z2, z3⟩ => ⟨B, z1, (hq B z1).mpr (Nat.le_of_lt z2), z3⟩
  have h1 : b5 = 1 → hasD s kx n b (fun B => kod (sU s) B < kod (sU s) A) := fun e => bI_1.mp (by rw [← h5, e]; decide)
  rcases h with ⟨rfl, h | ⟨h2, h3⟩⟩ | ⟨rfl, h2⟩ | ⟨rfl, h2⟩
  · exact bI_t (hup (h1 h))
  · exact bI_t ⟨A, h2, (hq A h2).mpr (Nat.le_refl _), h3⟩
  · rw [h5]
    congr 1
    refine propext ⟨hup, fun ⟨B, z1, z2, z3⟩ => ?_⟩
    have z4 := (hq B z1).mp z2
    rcases Nat.lt_or_ge (kod (sU s) B) (kod (sU s) A) with e | e
    · exact ⟨B, z1, e, z3⟩
    · have e2 := ans_same hS hA z1 (Nat.le_antisymm z4 e)
      exact absurd ⟨e2.2, by rw [← e2.1 kx hx]; exact z3⟩ h2
  · rw [h2]
    exact bI_t (hup (h1 h2))
theorem hs_all {s : SS} {kx n : Nat} {b : Bool} {Q : An → Prop} (h : ∀ B, ansP s (sX s) B → Q B) : hasD s kx n b Q = ∃ B, ansP s (sX s) B ∧ n.testBit (B kx) = b := propext ⟨fun ⟨B, z1, _, z3⟩ => ⟨B, z1, z3⟩, fun ⟨B, z1, z3⟩ => ⟨B, z1, h B z1, z3⟩⟩
theorem hs_0 {s : SS} {kx n : Nat} {b : Bool} : (0 : Int) = bI (hasD s kx n b (fun B => kod (sU s) B < kod (sU s) (fun x => lo (NX s (sX s) x)))) := bI_f (fun ⟨B, z1, z2, _⟩ => by have := srch_0 (P := ansP s (sX s)) (fun B z => z.2.1) B z1; omega)
set_option maxRecDepth 100000 in
set_option maxHeartbeats 4000000 in
theorem r_count_l {g : GC} (s : SS) (σ : Sg) (hal : AL s (sX s)) (hfar : ¬ farP s (sX s)) (km : Nat) (hm : 1 ≤ km ∧ km ≤ 20000) : ∀ j K : Nat, K + j = 16 ^ sU s → ∀ (τ : Sg) (A : An) (n : Nat), MI s τ → (∀ c, c < 272 → τ c = σ c) → AV τ 294 (sU s) (NX s (sX s)) → InR (sU s) (NX s (sX s)) A → (∀ x, x < sU s → τ 297 x = (A x : Int)) → K ≤ kod (sU s) A → n ≤ km → n = nmb (sU s) (fun B => ansP s (sX s) B ∧ kod (sU s) B < kod (sU s) A) → Ev g mX8_count 49 [some (vR (272)), some (vI (((km : Nat) : Int))), some (vI (((n : Nat) : Int))), some (vI (1))] [] (M0 (τ)) 0 0 (retE (MP σ (o_count s (km : Int)))) := by
  intro j
  induction j with
  | zero =>
    intro K hij τ A n hM1 hk0 hX hI hA hKA hnk hne
    exact absurd (kod_lt (InR.lt (fun x hx => (hX x hx).2.2) hI)) (by omega)
  | succ j ih =>
    intro K hij τ A n hM1 hk0 hX hI hA hKA hnk hne
    obtain ⟨hu1, hu2, hu3, hu4, hu5, hu6, hu7, hu8⟩ := id hM1
    have hU := hu1.1
    have hN := hu2.1
    have hD := hu4.1
    have hMl := hu7.1
    have hQ := hu5.1
    have hXl := fun x (hx : x < sU s) => (hX x hx).2.2
    have hl16 := InR.lt hXl hI
    have hsy : SyOk (sU s) (sS s) := MI.sy hM1
    have hnt : nmb (sU s) (fun B => ansP s (sX s) B ∧ kod (sU s) B < kod (sU s) A) ≤ nmb (sU s) (ansP s (sX s)) := nmb_le (fun B _ z => z.1)
    refine Ev.iload_n dX8_count_49 rfl rfl ?_
    refine Ev.if_eq (tgt := 81) ⟨by decide, by decide⟩ dX8_count_50 (by decide) (fun h50 => ?_) (fun h50 => ?_)
    · exact absurd h50 (by decide)
    · skip
      refine Ev.iload_n dX8_count_53 rfl rfl ?_
      refine Ev.iload_n dX8_count_54 rfl rfl ?_
      refine Ev.icmp_ge (tgt := 81) ⟨by omega, by omega⟩ ⟨by omega, by omega⟩ dX8_count_55 (by decide) (fun h55 => ?_) (fun h55 => ?_)
      · skip
        refine Ev.iload_n dX8_count_81 rfl rfl ?_
        exact Ev.ireturn dX8_count_82 rfl (rE (by unfold MP o_count; (repeat rw [Int.toNat_natCast]); rw [ifP_f (by omega), ifP_f hfar]; exact ⟨(by show _ = ((min km (nmb (sU s) (ansP s (sX s))) : Nat) : Int); rw [Nat.min_def]; split <;> omega), hM1, hk0⟩))
      · skip
        refine Ev.iload_n dX8_count_58 rfl rfl ?_
        refine Ev.aload_n dX8_count_59 rfl rfl ?_
        refine Ev.callV_I (M2 := mX8_fitsAll) (args2 := []) (rcv := 272) (q := (RX8, TX8, 34)) (ci := 8) dX8_count_60 okX8_fitsAll lk_X8_260 ovX8_fitsAll.1.1 ovX8_fitsAll.1.2 ovX8_fitsAll.2 (by decide) rfl rfl ltc_272 shc_272 rfl (Nat.le_of_ble_eq_true rfl) (Nat.le_of_ble_eq_true rfl) (sM_fitsAll τ (sU s) (sN s) hN hu2.2.1 (sB s) hu3 (sR s) (sW s) hu2.2.2.1 (fun r hr => ⟨(hu2.2.2.2 r hr).1, (hu2.2.2.2 r hr).2.1⟩) (fun r hr => (hu2.2.2.2 r hr).2.2) A (fun x hx => ⟨hA x hx, hl16 x hx⟩)) ?_ rfl
        refine Ev.if_eq (tgt := 70) bI_inR dX8_count_63 (by decide) (fun h63 => ?_) (fun h63 => ?_)
        · skip
          have q63 := bI_0.mp h63
          refine Ev.iconst dX8_count_70 ?_
          refine Ev.iadd dX8_count_71 ?_
          refine Ev.istore_n (pl' := [some (vR (272)), some (vI (((km : Nat) : Int))), some (vI ((((n : Nat) : Int) + 0))), some (vI (1))]) dX8_count_72 rfl (Nat.le_of_ble_eq_true rfl) rfl ?_
          refine Ev.aload_n dX8_count_73 rfl rfl ?_
          refine Ev.callV_G (M2 := mX8_goesOn) (args2 := []) (rcv := 272) (q := (RX8, TX8, 34)) (ci := 8) dX8_count_74 okX8_goesOn lk_X8_266 ovX8_goesOn.1.1 ovX8_goesOn.1.2 ovX8_goesOn.2 (by decide) rfl rfl ltc_272 shc_272 rfl (Nat.le_of_ble_eq_true rfl) (Nat.le_of_ble_eq_true rfl) (sM_goesOn τ (sU s) hU hu1.2.1 (NX s (sX s)) hX.az hX.ne A hI hA) (fun v_ m_ hp_ => ?_) rfl
          obtain ⟨v9, τ2, rfl, rfl, hF2, hvv⟩ := hp_
          rcases hvv with ⟨rfl, A2, hI2, hA2, hk2, hb2⟩ | ⟨rfl, hz2⟩
          · skip
            have hq : ∀ B, ansP s (sX s) B → (kod (sU s) B < kod (sU s) A2 ↔ kod (sU s) B ≤ kod (sU s) A) := fun B z => ⟨hb2 B z.2.1, fun y => by omega⟩
            have hnn : nmb (sU s) (fun B => ansP s (sX s) B ∧ kod (sU s) B < kod (sU s) A2) = nmb (sU s) (fun B => ansP s (sX s) B ∧ kod (sU s) B < kod (sU s) A) := cnt_n hsy hl16 hq (fun z => q63 z.2.2)
            show Ev g mX8_count 77 [some (vR (272)), some (vI (((km : Nat) : Int))), some (vI ((((n : Nat) : Int) + 0))), some (vI (1))] [vI (1)] (M0 (τ2)) 0 0 _
            refine Ev.istore_n (pl' := [some (vR (272)), some (vI (((km : Nat) : Int))), some (vI ((((n : Nat) : Int) + 0))), some (vI (1))]) dX8_count_77 rfl (Nat.le_of_ble_eq_true rfl) rfl ?_
            refine Ev.goto (tgt := 49) dX8_count_78 (by decide) ?_
            refine Ev.wk (pl' := [some (vR (272)), some (vI (((km : Nat) : Int))), some (vI ((((n + 0) : Nat) : Int))), some (vI (1))]) ⟨rfl, ⟨rfl, ⟨vIe (by omega), ⟨rfl, trivial⟩⟩⟩⟩ ?_
            exact ih (K + 1) (by omega) τ2 A2 (n + 0) (hM1.scr (S297 hF2)) (fun c h => ((S297 hF2).lo c h).trans (hk0 c h)) (hX.same hF2 (by decide)) hI2 hA2 (by omega) (by omega) (by omega)
          · skip
            have hq : ∀ B, ansP s (sX s) B → (kod (sU s) B ≤ kod (sU s) A ↔ kod (sU s) B ≤ kod (sU s) A) := fun B z => Iff.rfl
            have hnn : nmb (sU s) (ansP s (sX s)) = nmb (sU s) (fun B => ansP s (sX s) B ∧ kod (sU s) B < kod (sU s) A) := (cnt_z (fun B z => hz2 B z.2.1)).symm.trans (cnt_n hsy hl16 hq (fun z => q63 z.2.2))
            have hM1 := hM1.scr (S297 hF2)
            have hk0 := fun c (h : c < 272) => ((S297 hF2).lo c h).trans (hk0 c h)
            show Ev g mX8_count 77 [some (vR (272)), some (vI (((km : Nat) : Int))), some (vI ((((n : Nat) : Int) + 0))), some (vI (1))] [vI (0)] (M0 (τ2)) 0 0 _
            refine Ev.istore_n (pl' := [some (vR (272)), some (vI (((km : Nat) : Int))), some (vI ((((n : Nat) : Int) + 0))), some (vI (0))]) dX8_count_77 rfl (Nat.le_of_ble_eq_true rfl) rfl ?_
            refine Ev.goto (tgt := 49) dX8_count_78 (by decide) ?_
            refine Ev.iload_n dX8_count_49 rfl rfl ?_
            refine Ev.if_eq (tgt := 81) ⟨by decide, by decide⟩ dX8_count_50 (by decide) (fun h50 => ?_) (fun h50 => ?_)
            · skip
              refine Ev.iload_n dX8_count_81 rfl rfl ?_
              exact Ev.ireturn dX8_count_82 rfl (rE (by unfold MP o_count; (repeat rw [Int.toNat_natCast]); rw [ifP_f (by omega), ifP_f hfar]; exact ⟨(by show _ = ((min km (nmb (sU s) (ansP s (sX s))) : Nat) : Int); rw [Nat.min_def]; split <;> omega), hM1, hk0⟩))
            · exact absurd h50 (by decide)
        · skip
          have q63 := bI_1.mp h63
          refine Ev.iconst dX8_count_66 ?_
          refine Ev.goto (tgt := 71) dX8_count_67 (by decide) ?_
          refine Ev.iadd dX8_count_71 ?_
          refine Ev.istore_n (pl' := [some (vR (272)), some (vI (((km : Nat) : Int))), some (vI ((((n : Nat) : Int) + 1))), some (vI (1))]) dX8_count_72 rfl (Nat.le_of_ble_eq_true rfl) rfl ?_
          refine Ev.aload_n dX8_count_73 rfl rfl ?_
          refine Ev.callV_G (M2 := mX8_goesOn) (args2 := []) (rcv := 272) (q := (RX8, TX8, 34)) (ci := 8) dX8_count_74 okX8_goesOn lk_X8_266 ovX8_goesOn.1.1 ovX8_goesOn.1.2 ovX8_goesOn.2 (by decide) rfl rfl ltc_272 shc_272 rfl (Nat.le_of_ble_eq_true rfl) (Nat.le_of_ble_eq_true rfl) (sM_goesOn τ (sU s) hU hu1.2.1 (NX s (sX s)) hX.az hX.ne A hI hA) (fun v_ m_ hp_ => ?_) rfl
          obtain ⟨v9, τ2, rfl, rfl, hF2, hvv⟩ := hp_
          rcases hvv with ⟨rfl, A2, hI2, hA2, hk2, hb2⟩ | ⟨rfl, hz2⟩
          · skip
            have hq : ∀ B, ansP s (sX s) B → (kod (sU s) B < kod (sU s) A2 ↔ kod (sU s) B ≤ kod (sU s) A) := fun B z => ⟨hb2 B z.2.1, fun y => by omega⟩
            have hnn : nmb (sU s) (fun B => ansP s (sX s) B ∧ kod (sU s) B < kod (sU s) A2) = nmb (sU s) (fun B => ansP s (sX s) B ∧ kod (sU s) B < kod (sU s) A) + 1 := cnt_y hsy hl16 hq ⟨hal, hI, q63⟩
            show Ev g mX8_count 77 [some (vR (272)), some (vI (((km : Nat) : Int))), some (vI ((((n : Nat) : Int) + 1))), some (vI (1))] [vI (1)] (M0 (τ2)) 0 0 _
            refine Ev.istore_n (pl' := [some (vR (272)), some (vI (((km : Nat) : Int))), some (vI ((((n : Nat) : Int) + 1))), some (vI (1))]) dX8_count_77 rfl (Nat.le_of_ble_eq_true rfl) rfl ?_
            refine Ev.goto (tgt := 49) dX8_count_78 (by decide) ?_
            refine Ev.wk (pl' := [some (vR (272)), some (vI (((km : Nat) : Int))), some (vI ((((n + 1) : Nat) : Int))), some (vI (1))]) ⟨rfl, ⟨rfl, ⟨vIe (by omega), ⟨rfl, trivial⟩⟩⟩⟩ ?_
            exact ih (K + 1) (by omega) τ2 A2 (n + 1) (hM1.scr (S297 hF2)) (fun c h => ((S297 hF2).lo c h).trans (hk0 c h)) (hX.same hF2 (by decide)) hI2 hA2 (by omega) (by omega) (by omega)
          · skip
            have hq : ∀ B, ansP s (sX s) B → (kod (sU s) B ≤ kod (sU s) A ↔ kod (sU s) B ≤ kod (sU s) A) := fun B z => Iff.rfl
            have hnn : nmb (sU s) (ansP s (sX s)) = nmb (sU s) (fun B => ansP s (sX s) B ∧ kod (sU s) B < kod (sU s) A) + 1 := (cnt_z (fun B z => hz2 B z.2.1)).symm.trans (cnt_y hsy hl16 hq ⟨hal, hI, q63⟩)
            have hM1 := hM1.scr (S297 hF2)
            have hk0 := fun c (h : c < 272) => ((S297 hF2).lo c h).trans (hk0 c h)
            show Ev g mX8_count 77 [some (vR (272)), some (vI (((km : Nat) : Int))), some (vI ((((n : Nat) : Int) + 1))), some (vI (1))] [vI (0)] (M0 (τ2)) 0 0 _
            refine Ev.istore_n (pl' := [some (vR (272)), some (vI (((km : Nat) : Int))), some (vI ((((n : Nat) : Int) + 1))), some (vI (0))]) dX8_count_77 rfl (Nat.le_of_ble_eq_true rfl) rfl ?_
            refine Ev.goto (tgt := 49) dX8_count_78 (by decide) ?_
            refine Ev.iload_n dX8_count_49 rfl rfl ?_
            refine Ev.if_eq (tgt := 81) ⟨by decide, by decide⟩ dX8_count_50 (by decide) (fun h50 => ?_) (fun h50 => ?_)
            · skip
              refine Ev.iload_n dX8_count_81 rfl rfl ?_
              exact Ev.ireturn dX8_count_82 rfl (rE (by unfold MP o_count; (repeat rw [Int.toNat_natCast]); rw [ifP_f (by omega), ifP_f hfar]; exact ⟨(by show _ = ((min km (nmb (sU s) (ansP s (sX s))) : Nat) : Int); rw [Nat.min_def]; split <;> omega), hM1, hk0⟩))
            · exact absurd h50 (by decide)

set_option maxRecDepth 100000 in
set_option maxHeartbeats 4000000 in
theorem r_count {g : GC} (s : SS) (σ : Sg) (hM : MI s σ) (m : Int) (h_m : inR m) : Ev g mX8_count 0 [some (vR (272)), some (vI (m)), none, none] [] (M0 (σ)) 0 0 (retE (MP σ (o_count s m))) := by
  refine Ev.aload_n dX8_count_0 rfl rfl ?_
  refine Ev.iconst dX8_count_1 ?_
  refine pf_X8_90 rfl dX8_count_2 ltc_272 shc_272 ?_
  obtain ⟨σ1, hs1⟩ : ∃ ρ : Sg, ρ = upC σ 272 0 0 := ⟨_, rfl⟩
  refine Ev.mem (τ := σ1) hs1.symm ?_
  have hM1 : MI s σ1 := by rw [hs1]; exact hM.th
  have hk0 : ∀ c, c < 272 → σ1 c = σ c := fun c hc => by rw [hs1]; exact upC_ne (by omega)
  obtain ⟨hu1, hu2, hu3, hu4, hu5, hu6, hu7, hu8⟩ := id hM1
  have hU := hu1.1
  have hN := hu2.1
  have hD := hu4.1
  have hMl := hu7.1
  have hQ := hu5.1
  refine Ev.iload_n dX8_count_5 rfl rfl ?_
  refine Ev.i2l ⟨by omega, by omega⟩ dX8_count_6 ?_
  refine Ev.lconst 1 rfl dX8_count_7 ?_
  refine Ev.ldc2 (n := 20000) (tbl_i 998 (by decide +kernel)) dX8_count_8 ?_
  refine Ev.callS_I (M2 := mX8_in) (args2 := [vL (m), vL (1), vL (20000)]) dX8_count_11 okX8_in lk_X8_96 osX8_in.1 osX8_in.2 (by decide) rfl (Nat.le_of_ble_eq_true rfl) (Nat.le_of_ble_eq_true rfl) (sM_in σ1 (m) (1) (20000) ⟨by omega, by omega⟩ ⟨by omega, by omega⟩ ⟨by omega, by omega⟩) ?_ rfl
  refine Ev.if_ne (tgt := 20) bI_inR dX8_count_14 (by decide) (fun h14 => ?_) (fun h14 => ?_)
  · skip
    have q14 := bI_1.mp h14
    obtain ⟨km, rfl⟩ : ∃ n_ : Nat, m = (n_ : Int) := ⟨m.toNat, by omega⟩
    refine Ev.aload_n dX8_count_20 rfl rfl ?_
    refine Ev.callV_G (M2 := mX8_begun) (args2 := []) (rcv := 272) (q := (RX8, TX8, 34)) (ci := 8) dX8_count_21 okX8_begun lk_X8_253 ovX8_begun.1.1 ovX8_begun.1.2 ovX8_begun.2 (by decide) rfl rfl ltc_272 shc_272 rfl (Nat.le_of_ble_eq_true rfl) (Nat.le_of_ble_eq_true rfl) (rM_begun s σ1 hM1) (fun v_ m_ hp_ => ?_) rfl
    obtain ⟨v, τ, rfl, rfl, hS1, hvv⟩ := hp_
    have hk0 := fun c (h : c < 272) => (hS1.lo c h).trans (hk0 c h)
    have hM1 := hM1.scr hS1
    obtain ⟨hu1, hu2, hu3, hu4, hu5, hu6, hu7, hu8⟩ := id hM1
    have hU := hu1.1
    have hN := hu2.1
    have hD := hu4.1
    have hMl := hu7.1
    have hQ := hu5.1
    rcases hvv with ⟨rfl, hfar⟩ | ⟨rfl, hfar, hd, hXw, Yw, hYw⟩
    · skip
      show Ev g mX8_count 24 [some (vR (272)), some (vI (((km : Nat) : Int))), none, none] [vI (-5)] (M0 (τ)) 0 0 _
      refine Ev.if_eq (tgt := 30) ⟨by decide, by decide⟩ dX8_count_24 (by decide) (fun h24 => ?_) (fun h24 => ?_)
      · exact absurd h24 (by decide)
      · skip
        refine Ev.bipush (n := -5) (by decide) dX8_count_27 ?_
        exact Ev.ireturn dX8_count_29 rfl (rE (by unfold MP o_count; (repeat rw [Int.toNat_natCast]); rw [ifP_f (by omega), ifP_t hfar]; exact ⟨rfl, hM1, hk0⟩))
    · skip
      show Ev g mX8_count 24 [some (vR (272)), some (vI (((km : Nat) : Int))), none, none] [vI (0)] (M0 (τ)) 0 0 _
      refine Ev.if_eq (tgt := 30) ⟨by decide, by decide⟩ dX8_count_24 (by decide) (fun h24 => ?_) (fun h24 => ?_)
      · skip
        refine Ev.iconst dX8_count_30 ?_
        refine Ev.istore_n (pl' := [some (vR (272)), some (vI (((km : Nat) : Int))), some (vI (0)), none]) dX8_count_31 rfl (Nat.le_of_ble_eq_true rfl) rfl ?_
        refine Ev.aload_n dX8_count_32 rfl rfl ?_
        refine gf_X8_197 (x := bI (¬ AL s (sX s))) rfl dX8_count_33 ltc_272 shc_272 hd ?_
        refine Ev.if_ne (tgt := 43) bI_inR dX8_count_36 (by decide) (fun h36 => ?_) (fun h36 => ?_)
        · skip
          have q36 := bI_1.mp h36
          refine Ev.iconst dX8_count_43 ?_
          refine Ev.istore_n (pl' := [some (vR (272)), some (vI (((km : Nat) : Int))), some (vI (0)), some (vI (0))]) dX8_count_44 rfl (Nat.le_of_ble_eq_true rfl) rfl ?_
          refine Ev.aload_n dX8_count_45 rfl rfl ?_
          refine Ev.callV_G (M2 := mX8_first) (args2 := []) (rcv := 272) (q := (RX8, TX8, 34)) (ci := 8) dX8_count_46 okX8_first lk_X8_257 ovX8_first.1.1 ovX8_first.1.2 ovX8_first.2 (by decide) rfl rfl ltc_272 shc_272 rfl (Nat.le_of_ble_eq_true rfl) (Nat.le_of_ble_eq_true rfl) (sM_first τ (sU s) hU hu1.2.1 Yw hYw) (fun v_ m_ hp_ => ?_) rfl
          obtain ⟨τ2, rfl, rfl, hF, hG⟩ := hp_
          have hM1 := hM1.scr (S297 hF)
          have hk0 := fun c (h : c < 272) => ((S297 hF).lo c h).trans (hk0 c h)
          show Ev g mX8_count 49 [some (vR (272)), some (vI (((km : Nat) : Int))), some (vI (0)), some (vI (0))] [] (M0 (τ2)) 0 0 _
          refine Ev.iload_n dX8_count_49 rfl rfl ?_
          refine Ev.if_eq (tgt := 81) ⟨by decide, by decide⟩ dX8_count_50 (by decide) (fun h50 => ?_) (fun h50 => ?_)
          · skip
            refine Ev.iload_n dX8_count_81 rfl rfl ?_
            exact Ev.ireturn dX8_count_82 rfl (rE (by unfold MP o_count; (repeat rw [Int.toNat_natCast]); rw [ifP_f (by omega), ifP_f hfar]; exact ⟨(by show _ = ((min km (nmb (sU s) (ansP s (sX s))) : Nat) : Int); rw [nmb_0 (fun B _ z => q36 z.1), Nat.min_zero]; rfl), hM1, hk0⟩))
          · exact absurd h50 (by decide)
        · skip
          have q36 := bI_0.mp h36
          have hal : AL s (sX s) := Classical.byContradiction q36
          refine Ev.iconst dX8_count_39 ?_
          refine Ev.goto (tgt := 44) dX8_count_40 (by decide) ?_
          refine Ev.istore_n (pl' := [some (vR (272)), some (vI (((km : Nat) : Int))), some (vI (0)), some (vI (1))]) dX8_count_44 rfl (Nat.le_of_ble_eq_true rfl) rfl ?_
          refine Ev.aload_n dX8_count_45 rfl rfl ?_
          refine Ev.callV_G (M2 := mX8_first) (args2 := []) (rcv := 272) (q := (RX8, TX8, 34)) (ci := 8) dX8_count_46 okX8_first lk_X8_257 ovX8_first.1.1 ovX8_first.1.2 ovX8_first.2 (by decide) rfl rfl ltc_272 shc_272 rfl (Nat.le_of_ble_eq_true rfl) (Nat.le_of_ble_eq_true rfl) (sM_first τ (sU s) hU hu1.2.1 (NX s (sX s)) (hXw hal).az) (fun v_ m_ hp_ => ?_) rfl
          obtain ⟨τ2, rfl, rfl, hF, hG⟩ := hp_
          have hM1 := hM1.scr (S297 hF)
          have hk0 := fun c (h : c < 272) => ((S297 hF).lo c h).trans (hk0 c h)
          show Ev g mX8_count 49 [some (vR (272)), some (vI (((km : Nat) : Int))), some (vI (0)), some (vI (1))] [] (M0 (τ2)) 0 0 _
          refine Ev.wk (pl' := [some (vR (272)), some (vI (((km : Nat) : Int))), some (vI (((0 : Nat) : Int))), some (vI (1))]) ⟨rfl, ⟨rfl, ⟨vIe rfl, ⟨rfl, trivial⟩⟩⟩⟩ ?_
          exact r_count_l s σ hal hfar km ⟨by omega, by omega⟩ (16 ^ sU s) 0 (by omega) τ2 _ 0 hM1 hk0 ((hXw hal).same hF (by decide)) (lo_in (hXw hal).ne) hG (Nat.zero_le _) (Nat.zero_le _) (nmb_0 (fun B _ z => by have h1 := srch_0 (P := (ansP s (sX s))) (fun B z => z.2.1) B z.1; have h2 := z.2; omega)).symm
      · exact absurd h24 (by decide)
  · skip
    have q14 := bI_0.mp h14
    refine Ev.bipush (n := -2) (by decide) dX8_count_17 ?_
    exact Ev.ireturn dX8_count_19 rfl (rE (by unfold MP o_count; (repeat rw [Int.toNat_natCast]); rw [ifP_t (by omega)]; exact ⟨rfl, hM1, hk0⟩))

theorem wA_u6 {s : SS} {σ : Sg} {a : Int} {v : An} (h : MI (wA s a v) σ) : u6 σ a v := h.2.2.2.2.2.1
theorem MI.lst {s : SS} {σ : Sg} {a : Int} {v C : An} (h : MI (wA s a v) σ) (ha : a = (sU s : Int)) (e : ∀ y, y < sU s → C y = v y) (hv : lt16 (sU s) v) : MI (wA s (sU s) C) σ := by
  subst ha
  obtain ⟨hu1, hu2, hu3, hu4, hu5, hu6, hu7, hu8⟩ := h
  exact ⟨hu1, hu2, hu3, hu4, hu5, ⟨hu6.1, hu6.2.1, fun x hx => by
    have h1 : x < sU s := by have : (x : Int) < ((sU s : Nat) : Int) := hx; omega
    have h2 := hu6.2.2 x hx
    show σ 293 x = (C x : Int) ∧ C x < 16
    rw [e x h1]; exact h2⟩, hu7, hu8⟩
theorem MI.ans1 {s : SS} {σ : Sg} {a : Int} {v w : An} (h : MI (wA s a v) σ) (ha : a = -1) : MI (wA s (-1) w) σ := by
  subst ha
  obtain ⟨hu1, hu2, hu3, hu4, hu5, hu6, hu7, hu8⟩ := h
  exact ⟨hu1, hu2, hu3, hu4, hu5, ⟨hu6.1, hu6.2.1, fun x hx => absurd hx (by show ¬ (x : Int) < -1; omega)⟩, hu7, hu8⟩
set_option maxRecDepth 100000 in
set_option maxHeartbeats 4000000 in
theorem r_best_l {g : GC} (s : SS) (σ : Sg) (hal : AL s (sX s)) (hfar : ¬ farP s (sX s)) (kx : Nat) (hx : kx < sU s) (g_ : Int) (h_g_ : inR g_) : ∀ j K : Nat, K + j = 16 ^ sU s → ∀ (τ : Sg) (A : An) (a : Int) (v : An), MI (wA s a v) τ → (∀ c, c < 272 → τ c = σ c) → AV τ 294 (sU s) (NX s (sX s)) → InR (sU s) (NX s (sX s)) A → (∀ x, x < sU s → τ 297 x = (A x : Int)) → K ≤ kod (sU s) A → InvB s kx g_ a v (fun B => kod (sU s) B < kod (sU s) A) → Ev g mX8_best 48 [some (vR (272)), some (vI (((kx : Nat) : Int))), some (vI (g_)), some (vI (1)), none] [] (M0 (τ)) 0 0 (retE (MP σ (o_best s (kx : Int) g_))) := by
  intro j
  induction j with
  | zero =>
    intro K hij τ A a v hM2 hk0 hX hI hA hKA hinv
    exact absurd (kod_lt (InR.lt (fun x hx => (hX x hx).2.2) hI)) (by omega)
  | succ j ih =>
    intro K hij τ A a v hM2 hk0 hX hI hA hKA hinv
    have hu1 : u1 τ (sU s) (sG s) (sX s) := (hM2).1
    have hu2 : u2 τ (sU s) (sN s) (sR s) (sW s) := (hM2).2.1
    have hu3 : TVm τ (sB s) := (hM2).2.2.1
    have hu4 : u4 τ (sU s) (sD s) (sO s) (sP s) (sH s) := (hM2).2.2.2.1
    have hu7 : u7 τ (sU s) (sN s) (sM s) (sL s) (sK s) := (hM2).2.2.2.2.2.2.1
    have hU := hu1.1
    have hN := hu2.1
    have hD := hu4.1
    have hMl := hu7.1
    have hu6 : u6 τ a v := hM2.2.2.2.2.2.1
    have h27 := u6_27 hu6
    have ha := hinv.a
    have ha6 := hu6.1
    have hXl := fun x (hx : x < sU s) => (hX x hx).2.2
    have hl16 := InR.lt hXl hI
    have hsy : SyOk (sU s) (sS s) := by have h := hM2.sy; exact h
    have hax := hl16 kx hx
    have hvx : a ≠ -1 → v kx < 16 := fun z => (hu6.2.2 kx (by omega)).2
    refine Ev.iload_n dX8_best_48 rfl rfl ?_
    refine Ev.if_eq (tgt := 129) ⟨by decide, by decide⟩ dX8_best_49 (by decide) (fun h49 => ?_) (fun h49 => ?_)
    · exact absurd h49 (by decide)
    · skip
      refine Ev.aload_n dX8_best_52 rfl rfl ?_
      refine gf_X8_71 (x := (τ 272 27)) rfl dX8_best_53 ltc_272 shc_272 rfl ?_
      refine Ev.bipush (n := -9) (by decide) dX8_best_56 ?_
      refine Ev.icmp_eq (tgt := 98) ⟨by omega, by omega⟩ ⟨by decide, by decide⟩ dX8_best_58 (by decide) (fun h58 => ?_) (fun h58 => ?_)
      · skip
        refine Ev.iconst dX8_best_98 ?_
        refine Ev.goto (tgt := 103) dX8_best_99 (by decide) ?_
        refine Ev.istore (pl' := [some (vR (272)), some (vI (((kx : Nat) : Int))), some (vI (g_)), some (vI (1)), some (vI (1))]) dX8_best_103 (Nat.le_of_ble_eq_true rfl) rfl ?_
        refine Ev.iload dX8_best_105 rfl ?_
        refine Ev.if_eq (tgt := 121) ⟨by decide, by decide⟩ dX8_best_107 (by decide) (fun h107 => ?_) (fun h107 => ?_)
        · exact absurd h107 (by decide)
        · skip
          refine Ev.aload_n dX8_best_110 rfl rfl ?_
          refine Ev.callV_I (M2 := mX8_fitsAll) (args2 := []) (rcv := 272) (q := (RX8, TX8, 34)) (ci := 8) dX8_best_111 okX8_fitsAll lk_X8_260 ovX8_fitsAll.1.1 ovX8_fitsAll.1.2 ovX8_fitsAll.2 (by decide) rfl rfl ltc_272 shc_272 rfl (Nat.le_of_ble_eq_true rfl) (Nat.le_of_ble_eq_true rfl) (sM_fitsAll τ (sU s) (sN s) hN hu2.2.1 (sB s) hu3 (sR s) (sW s) hu2.2.2.1 (fun r hr => ⟨(hu2.2.2.2 r hr).1, (hu2.2.2.2 r hr).2.1⟩) (fun r hr => (hu2.2.2.2 r hr).2.2) A (fun x hx => ⟨hA x hx, hl16 x hx⟩)) ?_ rfl
          refine Ev.if_eq (tgt := 121) bI_inR dX8_best_114 (by decide) (fun h114 => ?_) (fun h114 => ?_)
          · skip
            have q114 := bI_0.mp h114
            refine Ev.aload_n dX8_best_121 rfl rfl ?_
            refine Ev.callV_G (M2 := mX8_goesOn) (args2 := []) (rcv := 272) (q := (RX8, TX8, 34)) (ci := 8) dX8_best_122 okX8_goesOn lk_X8_266 ovX8_goesOn.1.1 ovX8_goesOn.1.2 ovX8_goesOn.2 (by decide) rfl rfl ltc_272 shc_272 rfl (Nat.le_of_ble_eq_true rfl) (Nat.le_of_ble_eq_true rfl) (sM_goesOn τ (sU s) hU hu1.2.1 (NX s (sX s)) hX.az hX.ne A hI hA) (fun v_ m_ hp_ => ?_) rfl
            obtain ⟨v9, τ3, rfl, rfl, hF2, hvv⟩ := hp_
            rcases hvv with ⟨rfl, A2, hI2, hA2, hk2, hb2⟩ | ⟨rfl, hz2⟩
            · skip
              have hq : ∀ B, ansP s (sX s) B → (kod (sU s) B < kod (sU s) A2 ↔ kod (sU s) B ≤ kod (sU s) A) := fun B z => ⟨hb2 B z.2.1, fun y => by omega⟩
              have hin : InvB s kx g_ a v (fun B => kod (sU s) B ≤ kod (sU s) A) := (hinv.n hsy hl16 (fun z => q114 z.2.2))
              show Ev g mX8_best 125 [some (vR (272)), some (vI (((kx : Nat) : Int))), some (vI (g_)), some (vI (1)), some (vI (1))] [vI (1)] (M0 (τ3)) 0 0 _
              refine Ev.istore_n (pl' := [some (vR (272)), some (vI (((kx : Nat) : Int))), some (vI (g_)), some (vI (1)), some (vI (1))]) dX8_best_125 rfl (Nat.le_of_ble_eq_true rfl) rfl ?_
              refine Ev.goto (tgt := 48) dX8_best_126 (by decide) ?_
              refine Ev.wk (pl' := [some (vR (272)), some (vI (((kx : Nat) : Int))), some (vI (g_)), some (vI (1)), none]) ⟨rfl, ⟨rfl, ⟨rfl, ⟨rfl, trivial⟩⟩⟩⟩ ?_
              exact ih (K + 1) (by omega) τ3 A2 a v (hM2.scr (S297 hF2)) (fun c h => ((S297 hF2).lo c h).trans (hk0 c h)) (hX.same hF2 (by decide)) hI2 hA2 (by omega) (hin.cg hq)
            · skip
              have hin : InvB s kx g_ a v (fun B => kod (sU s) B ≤ kod (sU s) A) := (hinv.n hsy hl16 (fun z => q114 z.2.2))
              have hM2 := hM2.scr (S297 hF2)
              have hk0 := fun c (h : c < 272) => ((S297 hF2).lo c h).trans (hk0 c h)
              have hu6 : u6 τ3 a v := hM2.2.2.2.2.2.1
              have h27 := u6_27 hu6
              show Ev g mX8_best 125 [some (vR (272)), some (vI (((kx : Nat) : Int))), some (vI (g_)), some (vI (1)), some (vI (1))] [vI (0)] (M0 (τ3)) 0 0 _
              refine Ev.istore_n (pl' := [some (vR (272)), some (vI (((kx : Nat) : Int))), some (vI (g_)), some (vI (0)), some (vI (1))]) dX8_best_125 rfl (Nat.le_of_ble_eq_true rfl) rfl ?_
              refine Ev.goto (tgt := 48) dX8_best_126 (by decide) ?_
              refine Ev.iload_n dX8_best_48 rfl rfl ?_
              refine Ev.if_eq (tgt := 129) ⟨by decide, by decide⟩ dX8_best_49 (by decide) (fun h49 => ?_) (fun h49 => ?_)
              · skip
                refine Ev.aload_n dX8_best_129 rfl rfl ?_
                refine gf_X8_71 (x := (τ3 272 27)) rfl dX8_best_130 ltc_272 shc_272 rfl ?_
                refine Ev.bipush (n := -9) (by decide) dX8_best_133 ?_
                refine Ev.icmp_ne (tgt := 143) ⟨by omega, by omega⟩ ⟨by decide, by decide⟩ dX8_best_135 (by decide) (fun h135 => ?_) (fun h135 => ?_)
                · skip
                  refine Ev.aload_n dX8_best_143 rfl rfl ?_
                  refine gf_X8_75 rfl dX8_best_144 ltc_272 shc_272 rfc_272_28 ?_
                  refine Ev.iload_n dX8_best_147 rfl rfl ?_
                  refine Ev.iaload (v := ((v kx : Nat) : Int)) dX8_best_148 ltc_293 shc_293 (by decide) (by omega) (by omega) (ldx rfl (hu6.2.2 kx (by omega)).1) ?_
                  exact Ev.ireturn dX8_best_149 rfl (rE (by have hed := hin.end hx (fun B z => hz2 B z.2.1) (by omega); unfold MP o_best; (repeat rw [Int.toNat_natCast]); rw [ifP_f (by omega), ifP_f hfar, ifP_t ⟨_, hed.2.1⟩]; exact ⟨(by rw [hed.2.2.1]), (hM2.lst hed.1 hed.2.2.2 (ansP_lt hed.2.1)), hk0⟩))
                · skip
                  refine Ev.bipush (n := -9) (by decide) dX8_best_138 ?_
                  refine Ev.goto (tgt := 149) dX8_best_140 (by decide) ?_
                  exact Ev.ireturn dX8_best_149 rfl (rE (by unfold MP o_best; (repeat rw [Int.toNat_natCast]); rw [ifP_f (by omega), ifP_f hfar, ifP_f ((show InvB s kx g_ (-1) _ (fun B => kod (sU s) B ≤ kod (sU s) A) from by first | exact hin | (rw [show a = -1 by omega] at hin; exact hin)).end0 (fun B z => hz2 B z.2.1))]; exact ⟨rfl, (by first | exact hM2.ans1 (by omega)), hk0⟩))
              · exact absurd h49 (by decide)
          · skip
            have q114 := bI_1.mp h114
            refine Ev.aload_n dX8_best_117 rfl rfl ?_
            refine Ev.callV_G (M2 := mX8_keep) (args2 := []) (rcv := 272) (q := (RX8, TX8, 34)) (ci := 8) dX8_best_118 okX8_keep lk_X8_263 ovX8_keep.1.1 ovX8_keep.1.2 ovX8_keep.2 (by decide) rfl rfl ltc_272 shc_272 rfl (Nat.le_of_ble_eq_true rfl) (Nat.le_of_ble_eq_true rfl) (sM_keep τ (sU s) hU hu1.2.1 A hA) (fun v_ m_ hp_ => ?_) rfl
            obtain ⟨τ2, rfl, rfl, hkF, hk27, hk293⟩ := hp_
            have hM2 : MI (wA s (sU s) A) τ2 := hM2.kept hkF hk27 (fun x hx => ⟨hk293 x hx, hl16 x hx⟩)
            have hk0 := fun c (h : c < 272) => (kpF hkF c h).trans (hk0 c h)
            have hu1 : u1 τ2 (sU s) (sG s) (sX s) := (hM2).1
            have hu2 : u2 τ2 (sU s) (sN s) (sR s) (sW s) := (hM2).2.1
            have hu3 : TVm τ2 (sB s) := (hM2).2.2.1
            have hu4 : u4 τ2 (sU s) (sD s) (sO s) (sP s) (sH s) := (hM2).2.2.2.1
            have hu7 : u7 τ2 (sU s) (sN s) (sM s) (sL s) (sK s) := (hM2).2.2.2.2.2.2.1
            have hU := hu1.1
            have hN := hu2.1
            have hD := hu4.1
            have hMl := hu7.1
            have hXk : AV τ2 294 (sU s) (NX s (sX s)) := fun x hx => ⟨(hkF 294 x (by decide) (fun z => absurd z (by decide))).trans (hX x hx).1, (hX x hx).2⟩
            have hAk : ∀ x, x < sU s → τ2 297 x = (A x : Int) := fun x hx => (hkF 297 x (by decide) (fun z => absurd z (by decide))).trans (hA x hx)
            show Ev g mX8_best 121 [some (vR (272)), some (vI (((kx : Nat) : Int))), some (vI (g_)), some (vI (1)), some (vI (1))] [] (M0 (τ2)) 0 0 _
            refine Ev.aload_n dX8_best_121 rfl rfl ?_
            refine Ev.callV_G (M2 := mX8_goesOn) (args2 := []) (rcv := 272) (q := (RX8, TX8, 34)) (ci := 8) dX8_best_122 okX8_goesOn lk_X8_266 ovX8_goesOn.1.1 ovX8_goesOn.1.2 ovX8_goesOn.2 (by decide) rfl rfl ltc_272 shc_272 rfl (Nat.le_of_ble_eq_true rfl) (Nat.le_of_ble_eq_true rfl) (sM_goesOn τ2 (sU s) hU hu1.2.1 (NX s (sX s)) hXk.az hXk.ne A hI hAk) (fun v_ m_ hp_ => ?_) rfl
            obtain ⟨v9, τ3, rfl, rfl, hF2, hvv⟩ := hp_
            rcases hvv with ⟨rfl, A2, hI2, hA2, hk2, hb2⟩ | ⟨rfl, hz2⟩
            · skip
              have hq : ∀ B, ansP s (sX s) B → (kod (sU s) B < kod (sU s) A2 ↔ kod (sU s) B ≤ kod (sU s) A) := fun B z => ⟨hb2 B z.2.1, fun y => by omega⟩
              have hin : InvB s kx g_ (sU s : Int) A (fun B => kod (sU s) B ≤ kod (sU s) A) := (hinv.y hsy hl16 hx (by first | exact Or.inl (by omega) | exact Or.inr (Or.inl ⟨by omega, by omega⟩) | exact Or.inr (Or.inr ⟨by omega, by omega⟩)) ⟨hal, hI, q114⟩)
              show Ev g mX8_best 125 [some (vR (272)), some (vI (((kx : Nat) : Int))), some (vI (g_)), some (vI (1)), some (vI (1))] [vI (1)] (M0 (τ3)) 0 0 _
              refine Ev.istore_n (pl' := [some (vR (272)), some (vI (((kx : Nat) : Int))), some (vI (g_)), some (vI (1)), some (vI (1))]) dX8_best_125 rfl (Nat.le_of_ble_eq_true rfl) rfl ?_
              refine Ev.goto (tgt := 48) dX8_best_126 (by decide) ?_
              refine Ev.wk (pl' := [some (vR (272)), some (vI (((kx : Nat) : Int))), some (vI (g_)), some (vI (1)), none]) ⟨rfl, ⟨rfl, ⟨rfl, ⟨rfl, trivial⟩⟩⟩⟩ ?_
              exact ih (K + 1) (by omega) τ3 A2 ((sU s : Int)) A (hM2.scr (S297 hF2)) (fun c h => ((S297 hF2).lo c h).trans (hk0 c h)) (hXk.same hF2 (by decide)) hI2 hA2 (by omega) (hin.cg hq)
            · skip
              have hin : InvB s kx g_ (sU s : Int) A (fun B => kod (sU s) B ≤ kod (sU s) A) := (hinv.y hsy hl16 hx (by first | exact Or.inl (by omega) | exact Or.inr (Or.inl ⟨by omega, by omega⟩) | exact Or.inr (Or.inr ⟨by omega, by omega⟩)) ⟨hal, hI, q114⟩)
              have hM2 := hM2.scr (S297 hF2)
              have hk0 := fun c (h : c < 272) => ((S297 hF2).lo c h).trans (hk0 c h)
              have hu6 : u6 τ3 (sU s : Int) A := hM2.2.2.2.2.2.1
              have h27 := u6_27 hu6
              show Ev g mX8_best 125 [some (vR (272)), some (vI (((kx : Nat) : Int))), some (vI (g_)), some (vI (1)), some (vI (1))] [vI (0)] (M0 (τ3)) 0 0 _
              refine Ev.istore_n (pl' := [some (vR (272)), some (vI (((kx : Nat) : Int))), some (vI (g_)), some (vI (0)), some (vI (1))]) dX8_best_125 rfl (Nat.le_of_ble_eq_true rfl) rfl ?_
              refine Ev.goto (tgt := 48) dX8_best_126 (by decide) ?_
              refine Ev.iload_n dX8_best_48 rfl rfl ?_
              refine Ev.if_eq (tgt := 129) ⟨by decide, by decide⟩ dX8_best_49 (by decide) (fun h49 => ?_) (fun h49 => ?_)
              · skip
                refine Ev.aload_n dX8_best_129 rfl rfl ?_
                refine gf_X8_71 (x := (τ3 272 27)) rfl dX8_best_130 ltc_272 shc_272 rfl ?_
                refine Ev.bipush (n := -9) (by decide) dX8_best_133 ?_
                refine Ev.icmp_ne (tgt := 143) ⟨by omega, by omega⟩ ⟨by decide, by decide⟩ dX8_best_135 (by decide) (fun h135 => ?_) (fun h135 => ?_)
                · skip
                  refine Ev.aload_n dX8_best_143 rfl rfl ?_
                  refine gf_X8_75 rfl dX8_best_144 ltc_272 shc_272 rfc_272_28 ?_
                  refine Ev.iload_n dX8_best_147 rfl rfl ?_
                  refine Ev.iaload (v := ((A kx : Nat) : Int)) dX8_best_148 ltc_293 shc_293 (by decide) (by omega) (by omega) (ldx rfl (hu6.2.2 kx (by omega)).1) ?_
                  exact Ev.ireturn dX8_best_149 rfl (rE (by have hed := hin.end hx (fun B z => hz2 B z.2.1) (by omega); unfold MP o_best; (repeat rw [Int.toNat_natCast]); rw [ifP_f (by omega), ifP_f hfar, ifP_t ⟨_, hed.2.1⟩]; exact ⟨(by rw [hed.2.2.1]), (hM2.lst hed.1 hed.2.2.2 (ansP_lt hed.2.1)), hk0⟩))
                · skip
                  refine Ev.bipush (n := -9) (by decide) dX8_best_138 ?_
                  refine Ev.goto (tgt := 149) dX8_best_140 (by decide) ?_
                  exact Ev.ireturn dX8_best_149 rfl (absurd h135 (by omega))
              · exact absurd h49 (by decide)
      · skip
        refine Ev.iload_n dX8_best_61 rfl rfl ?_
        refine Ev.if_eq (tgt := 83) ⟨by omega, by omega⟩ dX8_best_62 (by decide) (fun h62 => ?_) (fun h62 => ?_)
        · skip
          refine Ev.aload_n dX8_best_83 rfl rfl ?_
          refine gf_X8_87 rfl dX8_best_84 ltc_272 shc_272 rfc_272_33 ?_
          refine Ev.iload_n dX8_best_87 rfl rfl ?_
          refine Ev.iaload (v := ((A kx : Nat) : Int)) dX8_best_88 ltc_297 shc_297 (by decide) (by omega) (by omega) (ldx rfl (hA kx hx)) ?_
          refine Ev.aload_n dX8_best_89 rfl rfl ?_
          refine gf_X8_75 rfl dX8_best_90 ltc_272 shc_272 rfc_272_28 ?_
          refine Ev.iload_n dX8_best_93 rfl rfl ?_
          refine Ev.iaload (v := ((v kx : Nat) : Int)) dX8_best_94 ltc_293 shc_293 (by decide) (by omega) (by omega) (ldx rfl (hu6.2.2 kx (by omega)).1) ?_
          refine Ev.icmp_ge (tgt := 102) ⟨by omega, by omega⟩ ⟨by omega, by omega⟩ dX8_best_95 (by decide) (fun h95 => ?_) (fun h95 => ?_)
          · skip
            refine Ev.iconst dX8_best_102 ?_
            refine Ev.istore (pl' := [some (vR (272)), some (vI (((kx : Nat) : Int))), some (vI (g_)), some (vI (1)), some (vI (0))]) dX8_best_103 (Nat.le_of_ble_eq_true rfl) rfl ?_
            refine Ev.iload dX8_best_105 rfl ?_
            refine Ev.if_eq (tgt := 121) ⟨by decide, by decide⟩ dX8_best_107 (by decide) (fun h107 => ?_) (fun h107 => ?_)
            · skip
              refine Ev.aload_n dX8_best_121 rfl rfl ?_
              refine Ev.callV_G (M2 := mX8_goesOn) (args2 := []) (rcv := 272) (q := (RX8, TX8, 34)) (ci := 8) dX8_best_122 okX8_goesOn lk_X8_266 ovX8_goesOn.1.1 ovX8_goesOn.1.2 ovX8_goesOn.2 (by decide) rfl rfl ltc_272 shc_272 rfl (Nat.le_of_ble_eq_true rfl) (Nat.le_of_ble_eq_true rfl) (sM_goesOn τ (sU s) hU hu1.2.1 (NX s (sX s)) hX.az hX.ne A hI hA) (fun v_ m_ hp_ => ?_) rfl
              obtain ⟨v9, τ3, rfl, rfl, hF2, hvv⟩ := hp_
              rcases hvv with ⟨rfl, A2, hI2, hA2, hk2, hb2⟩ | ⟨rfl, hz2⟩
              · skip
                have hq : ∀ B, ansP s (sX s) B → (kod (sU s) B < kod (sU s) A2 ↔ kod (sU s) B ≤ kod (sU s) A) := fun B z => ⟨hb2 B z.2.1, fun y => by omega⟩
                have hin : InvB s kx g_ a v (fun B => kod (sU s) B ≤ kod (sU s) A) := (hinv.w hsy hl16 hx (by omega) (by unfold btr; omega))
                show Ev g mX8_best 125 [some (vR (272)), some (vI (((kx : Nat) : Int))), some (vI (g_)), some (vI (1)), some (vI (0))] [vI (1)] (M0 (τ3)) 0 0 _
                refine Ev.istore_n (pl' := [some (vR (272)), some (vI (((kx : Nat) : Int))), some (vI (g_)), some (vI (1)), some (vI (0))]) dX8_best_125 rfl (Nat.le_of_ble_eq_true rfl) rfl ?_
                refine Ev.goto (tgt := 48) dX8_best_126 (by decide) ?_
                refine Ev.wk (pl' := [some (vR (272)), some (vI (((kx : Nat) : Int))), some (vI (g_)), some (vI (1)), none]) ⟨rfl, ⟨rfl, ⟨rfl, ⟨rfl, trivial⟩⟩⟩⟩ ?_
                exact ih (K + 1) (by omega) τ3 A2 a v (hM2.scr (S297 hF2)) (fun c h => ((S297 hF2).lo c h).trans (hk0 c h)) (hX.same hF2 (by decide)) hI2 hA2 (by omega) (hin.cg hq)
              · skip
                have hin : InvB s kx g_ a v (fun B => kod (sU s) B ≤ kod (sU s) A) := (hinv.w hsy hl16 hx (by omega) (by unfold btr; omega))
                have hM2 := hM2.scr (S297 hF2)
                have hk0 := fun c (h : c < 272) => ((S297 hF2).lo c h).trans (hk0 c h)
                have hu6 : u6 τ3 a v := hM2.2.2.2.2.2.1
                have h27 := u6_27 hu6
                show Ev g mX8_best 125 [some (vR (272)), some (vI (((kx : Nat) : Int))), some (vI (g_)), some (vI (1)), some (vI (0))] [vI (0)] (M0 (τ3)) 0 0 _
                refine Ev.istore_n (pl' := [some (vR (272)), some (vI (((kx : Nat) : Int))), some (vI (g_)), some (vI (0)), some (vI (0))]) dX8_best_125 rfl (Nat.le_of_ble_eq_true rfl) rfl ?_
                refine Ev.goto (tgt := 48) dX8_best_126 (by decide) ?_
                refine Ev.iload_n dX8_best_48 rfl rfl ?_
                refine Ev.if_eq (tgt := 129) ⟨by decide, by decide⟩ dX8_best_49 (by decide) (fun h49 => ?_) (fun h49 => ?_)
                · skip
                  refine Ev.aload_n dX8_best_129 rfl rfl ?_
                  refine gf_X8_71 (x := (τ3 272 27)) rfl dX8_best_130 ltc_272 shc_272 rfl ?_
                  refine Ev.bipush (n := -9) (by decide) dX8_best_133 ?_
                  refine Ev.icmp_ne (tgt := 143) ⟨by omega, by omega⟩ ⟨by decide, by decide⟩ dX8_best_135 (by decide) (fun h135 => ?_) (fun h135 => ?_)
                  · skip
                    refine Ev.aload_n dX8_best_143 rfl rfl ?_
                    refine gf_X8_75 rfl dX8_best_144 ltc_272 shc_272 rfc_272_28 ?_
                    refine Ev.iload_n dX8_best_147 rfl rfl ?_
                    refine Ev.iaload (v := ((v kx : Nat) : Int)) dX8_best_148 ltc_293 shc_293 (by decide) (by omega) (by omega) (ldx rfl (hu6.2.2 kx (by omega)).1) ?_
                    exact Ev.ireturn dX8_best_149 rfl (rE (by have hed := hin.end hx (fun B z => hz2 B z.2.1) (by omega); unfold MP o_best; (repeat rw [Int.toNat_natCast]); rw [ifP_f (by omega), ifP_f hfar, ifP_t ⟨_, hed.2.1⟩]; exact ⟨(by rw [hed.2.2.1]), (hM2.lst hed.1 hed.2.2.2 (ansP_lt hed.2.1)), hk0⟩))
                  · skip
                    refine Ev.bipush (n := -9) (by decide) dX8_best_138 ?_
                    refine Ev.goto (tgt := 149) dX8_best_140 (by decide) ?_
                    exact Ev.ireturn dX8_best_149 rfl (rE (by unfold MP o_best; (repeat rw [Int.toNat_natCast]); rw [ifP_f (by omega), ifP_f hfar, ifP_f ((show InvB s kx g_ (-1) _ (fun B => kod (sU s) B ≤ kod (sU s) A) from by first | exact hin | (rw [show a = -1 by omega] at hin; exact hin)).end0 (fun B z => hz2 B z.2.1))]; exact ⟨rfl, (by first | exact hM2.ans1 (by omega)), hk0⟩))
                · exact absurd h49 (by decide)
            · exact absurd h107 (by decide)
          · skip
            refine Ev.iconst dX8_best_98 ?_
            refine Ev.goto (tgt := 103) dX8_best_99 (by decide) ?_
            refine Ev.istore (pl' := [some (vR (272)), some (vI (((kx : Nat) : Int))), some (vI (g_)), some (vI (1)), some (vI (1))]) dX8_best_103 (Nat.le_of_ble_eq_true rfl) rfl ?_
            refine Ev.iload dX8_best_105 rfl ?_
            refine Ev.if_eq (tgt := 121) ⟨by decide, by decide⟩ dX8_best_107 (by decide) (fun h107 => ?_) (fun h107 => ?_)
            · exact absurd h107 (by decide)
            · skip
              refine Ev.aload_n dX8_best_110 rfl rfl ?_
              refine Ev.callV_I (M2 := mX8_fitsAll) (args2 := []) (rcv := 272) (q := (RX8, TX8, 34)) (ci := 8) dX8_best_111 okX8_fitsAll lk_X8_260 ovX8_fitsAll.1.1 ovX8_fitsAll.1.2 ovX8_fitsAll.2 (by decide) rfl rfl ltc_272 shc_272 rfl (Nat.le_of_ble_eq_true rfl) (Nat.le_of_ble_eq_true rfl) (sM_fitsAll τ (sU s) (sN s) hN hu2.2.1 (sB s) hu3 (sR s) (sW s) hu2.2.2.1 (fun r hr => ⟨(hu2.2.2.2 r hr).1, (hu2.2.2.2 r hr).2.1⟩) (fun r hr => (hu2.2.2.2 r hr).2.2) A (fun x hx => ⟨hA x hx, hl16 x hx⟩)) ?_ rfl
              refine Ev.if_eq (tgt := 121) bI_inR dX8_best_114 (by decide) (fun h114 => ?_) (fun h114 => ?_)
              · skip
                have q114 := bI_0.mp h114
                refine Ev.aload_n dX8_best_121 rfl rfl ?_
                refine Ev.callV_G (M2 := mX8_goesOn) (args2 := []) (rcv := 272) (q := (RX8, TX8, 34)) (ci := 8) dX8_best_122 okX8_goesOn lk_X8_266 ovX8_goesOn.1.1 ovX8_goesOn.1.2 ovX8_goesOn.2 (by decide) rfl rfl ltc_272 shc_272 rfl (Nat.le_of_ble_eq_true rfl) (Nat.le_of_ble_eq_true rfl) (sM_goesOn τ (sU s) hU hu1.2.1 (NX s (sX s)) hX.az hX.ne A hI hA) (fun v_ m_ hp_ => ?_) rfl
                obtain ⟨v9, τ3, rfl, rfl, hF2, hvv⟩ := hp_
                rcases hvv with ⟨rfl, A2, hI2, hA2, hk2, hb2⟩ | ⟨rfl, hz2⟩
                · skip
                  have hq : ∀ B, ansP s (sX s) B → (kod (sU s) B < kod (sU s) A2 ↔ kod (sU s) B ≤ kod (sU s) A) := fun B z => ⟨hb2 B z.2.1, fun y => by omega⟩
                  have hin : InvB s kx g_ a v (fun B => kod (sU s) B ≤ kod (sU s) A) := (hinv.n hsy hl16 (fun z => q114 z.2.2))
                  show Ev g mX8_best 125 [some (vR (272)), some (vI (((kx : Nat) : Int))), some (vI (g_)), some (vI (1)), some (vI (1))] [vI (1)] (M0 (τ3)) 0 0 _
                  refine Ev.istore_n (pl' := [some (vR (272)), some (vI (((kx : Nat) : Int))), some (vI (g_)), some (vI (1)), some (vI (1))]) dX8_best_125 rfl (Nat.le_of_ble_eq_true rfl) rfl ?_
                  refine Ev.goto (tgt := 48) dX8_best_126 (by decide) ?_
                  refine Ev.wk (pl' := [some (vR (272)), some (vI (((kx : Nat) : Int))), some (vI (g_)), some (vI (1)), none]) ⟨rfl, ⟨rfl, ⟨rfl, ⟨rfl, trivial⟩⟩⟩⟩ ?_
                  exact ih (K + 1) (by omega) τ3 A2 a v (hM2.scr (S297 hF2)) (fun c h => ((S297 hF2).lo c h).trans (hk0 c h)) (hX.same hF2 (by decide)) hI2 hA2 (by omega) (hin.cg hq)
                · skip
                  have hin : InvB s kx g_ a v (fun B => kod (sU s) B ≤ kod (sU s) A) := (hinv.n hsy hl16 (fun z => q114 z.2.2))
                  have hM2 := hM2.scr (S297 hF2)
                  have hk0 := fun c (h : c < 272) => ((S297 hF2).lo c h).trans (hk0 c h)
                  have hu6 : u6 τ3 a v := hM2.2.2.2.2.2.1
                  have h27 := u6_27 hu6
                  show Ev g mX8_best 125 [some (vR (272)), some (vI (((kx : Nat) : Int))), some (vI (g_)), some (vI (1)), some (vI (1))] [vI (0)] (M0 (τ3)) 0 0 _
                  refine Ev.istore_n (pl' := [some (vR (272)), some (vI (((kx : Nat) : Int))), some (vI (g_)), some (vI (0)), some (vI (1))]) dX8_best_125 rfl (Nat.le_of_ble_eq_true rfl) rfl ?_
                  refine Ev.goto (tgt := 48) dX8_best_126 (by decide) ?_
                  refine Ev.iload_n dX8_best_48 rfl rfl ?_
                  refine Ev.if_eq (tgt := 129) ⟨by decide, by decide⟩ dX8_best_49 (by decide) (fun h49 => ?_) (fun h49 => ?_)
                  · skip
                    refine Ev.aload_n dX8_best_129 rfl rfl ?_
                    refine gf_X8_71 (x := (τ3 272 27)) rfl dX8_best_130 ltc_272 shc_272 rfl ?_
                    refine Ev.bipush (n := -9) (by decide) dX8_best_133 ?_
                    refine Ev.icmp_ne (tgt := 143) ⟨by omega, by omega⟩ ⟨by decide, by decide⟩ dX8_best_135 (by decide) (fun h135 => ?_) (fun h135 => ?_)
                    · skip
                      refine Ev.aload_n dX8_best_143 rfl rfl ?_
                      refine gf_X8_75 rfl dX8_best_144 ltc_272 shc_272 rfc_272_28 ?_
                      refine Ev.iload_n dX8_best_147 rfl rfl ?_
                      refine Ev.iaload (v := ((v kx : Nat) : Int)) dX8_best_148 ltc_293 shc_293 (by decide) (by omega) (by omega) (ldx rfl (hu6.2.2 kx (by omega)).1) ?_
                      exact Ev.ireturn dX8_best_149 rfl (rE (by have hed := hin.end hx (fun B z => hz2 B z.2.1) (by omega); unfold MP o_best; (repeat rw [Int.toNat_natCast]); rw [ifP_f (by omega), ifP_f hfar, ifP_t ⟨_, hed.2.1⟩]; exact ⟨(by rw [hed.2.2.1]), (hM2.lst hed.1 hed.2.2.2 (ansP_lt hed.2.1)), hk0⟩))
                    · skip
                      refine Ev.bipush (n := -9) (by decide) dX8_best_138 ?_
                      refine Ev.goto (tgt := 149) dX8_best_140 (by decide) ?_
                      exact Ev.ireturn dX8_best_149 rfl (rE (by unfold MP o_best; (repeat rw [Int.toNat_natCast]); rw [ifP_f (by omega), ifP_f hfar, ifP_f ((show InvB s kx g_ (-1) _ (fun B => kod (sU s) B ≤ kod (sU s) A) from by first | exact hin | (rw [show a = -1 by omega] at hin; exact hin)).end0 (fun B z => hz2 B z.2.1))]; exact ⟨rfl, (by first | exact hM2.ans1 (by omega)), hk0⟩))
                  · exact absurd h49 (by decide)
              · skip
                have q114 := bI_1.mp h114
                refine Ev.aload_n dX8_best_117 rfl rfl ?_
                refine Ev.callV_G (M2 := mX8_keep) (args2 := []) (rcv := 272) (q := (RX8, TX8, 34)) (ci := 8) dX8_best_118 okX8_keep lk_X8_263 ovX8_keep.1.1 ovX8_keep.1.2 ovX8_keep.2 (by decide) rfl rfl ltc_272 shc_272 rfl (Nat.le_of_ble_eq_true rfl) (Nat.le_of_ble_eq_true rfl) (sM_keep τ (sU s) hU hu1.2.1 A hA) (fun v_ m_ hp_ => ?_) rfl
                obtain ⟨τ2, rfl, rfl, hkF, hk27, hk293⟩ := hp_
                have hM2 : MI (wA s (sU s) A) τ2 := hM2.kept hkF hk27 (fun x hx => ⟨hk293 x hx, hl16 x hx⟩)
                have hk0 := fun c (h : c < 272) => (kpF hkF c h).trans (hk0 c h)
                have hu1 : u1 τ2 (sU s) (sG s) (sX s) := (hM2).1
                have hu2 : u2 τ2 (sU s) (sN s) (sR s) (sW s) := (hM2).2.1
                have hu3 : TVm τ2 (sB s) := (hM2).2.2.1
                have hu4 : u4 τ2 (sU s) (sD s) (sO s) (sP s) (sH s) := (hM2).2.2.2.1
                have hu7 : u7 τ2 (sU s) (sN s) (sM s) (sL s) (sK s) := (hM2).2.2.2.2.2.2.1
                have hU := hu1.1
                have hN := hu2.1
                have hD := hu4.1
                have hMl := hu7.1
                have hXk : AV τ2 294 (sU s) (NX s (sX s)) := fun x hx => ⟨(hkF 294 x (by decide) (fun z => absurd z (by decide))).trans (hX x hx).1, (hX x hx).2⟩
                have hAk : ∀ x, x < sU s → τ2 297 x = (A x : Int) := fun x hx => (hkF 297 x (by decide) (fun z => absurd z (by decide))).trans (hA x hx)
                show Ev g mX8_best 121 [some (vR (272)), some (vI (((kx : Nat) : Int))), some (vI (g_)), some (vI (1)), some (vI (1))] [] (M0 (τ2)) 0 0 _
                refine Ev.aload_n dX8_best_121 rfl rfl ?_
                refine Ev.callV_G (M2 := mX8_goesOn) (args2 := []) (rcv := 272) (q := (RX8, TX8, 34)) (ci := 8) dX8_best_122 okX8_goesOn lk_X8_266 ovX8_goesOn.1.1 ovX8_goesOn.1.2 ovX8_goesOn.2 (by decide) rfl rfl ltc_272 shc_272 rfl (Nat.le_of_ble_eq_true rfl) (Nat.le_of_ble_eq_true rfl) (sM_goesOn τ2 (sU s) hU hu1.2.1 (NX s (sX s)) hXk.az hXk.ne A hI hAk) (fun v_ m_ hp_ => ?_) rfl
                obtain ⟨v9, τ3, rfl, rfl, hF2, hvv⟩ := hp_
                rcases hvv with ⟨rfl, A2, hI2, hA2, hk2, hb2⟩ | ⟨rfl, hz2⟩
                · skip
                  have hq : ∀ B, ansP s (sX s) B → (kod (sU s) B < kod (sU s) A2 ↔ kod (sU s) B ≤ kod (sU s) A) := fun B z => ⟨hb2 B z.2.1, fun y => by omega⟩
                  have hin : InvB s kx g_ (sU s : Int) A (fun B => kod (sU s) B ≤ kod (sU s) A) := (hinv.y hsy hl16 hx (by first | exact Or.inl (by omega) | exact Or.inr (Or.inl ⟨by omega, by omega⟩) | exact Or.inr (Or.inr ⟨by omega, by omega⟩)) ⟨hal, hI, q114⟩)
                  show Ev g mX8_best 125 [some (vR (272)), some (vI (((kx : Nat) : Int))), some (vI (g_)), some (vI (1)), some (vI (1))] [vI (1)] (M0 (τ3)) 0 0 _
                  refine Ev.istore_n (pl' := [some (vR (272)), some (vI (((kx : Nat) : Int))), some (vI (g_)), some (vI (1)), some (vI (1))]) dX8_best_125 rfl (Nat.le_of_ble_eq_true rfl) rfl ?_
                  refine Ev.goto (tgt := 48) dX8_best_126 (by decide) ?_
                  refine Ev.wk (pl' := [some (vR (272)), some (vI (((kx : Nat) : Int))), some (vI (g_)), some (vI (1)), none]) ⟨rfl, ⟨rfl, ⟨rfl, ⟨rfl, trivial⟩⟩⟩⟩ ?_
                  exact ih (K + 1) (by omega) τ3 A2 ((sU s : Int)) A (hM2.scr (S297 hF2)) (fun c h => ((S297 hF2).lo c h).trans (hk0 c h)) (hXk.same hF2 (by decide)) hI2 hA2 (by omega) (hin.cg hq)
                · skip
                  have hin : InvB s kx g_ (sU s : Int) A (fun B => kod (sU s) B ≤ kod (sU s) A) := (hinv.y hsy hl16 hx (by first | exact Or.inl (by omega) | exact Or.inr (Or.inl ⟨by omega, by omega⟩) | exact Or.inr (Or.inr ⟨by omega, by omega⟩)) ⟨hal, hI, q114⟩)
                  have hM2 := hM2.scr (S297 hF2)
                  have hk0 := fun c (h : c < 272) => ((S297 hF2).lo c h).trans (hk0 c h)
                  have hu6 : u6 τ3 (sU s : Int) A := hM2.2.2.2.2.2.1
                  have h27 := u6_27 hu6
                  show Ev g mX8_best 125 [some (vR (272)), some (vI (((kx : Nat) : Int))), some (vI (g_)), some (vI (1)), some (vI (1))] [vI (0)] (M0 (τ3)) 0 0 _
                  refine Ev.istore_n (pl' := [some (vR (272)), some (vI (((kx : Nat) : Int))), some (vI (g_)), some (vI (0)), some (vI (1))]) dX8_best_125 rfl (Nat.le_of_ble_eq_true rfl) rfl ?_
                  refine Ev.goto (tgt := 48) dX8_best_126 (by decide) ?_
                  refine Ev.iload_n dX8_best_48 rfl rfl ?_
                  refine Ev.if_eq (tgt := 129) ⟨by decide, by decide⟩ dX8_best_49 (by decide) (fun h49 => ?_) (fun h49 => ?_)
                  · skip
                    refine Ev.aload_n dX8_best_129 rfl rfl ?_
                    refine gf_X8_71 (x := (τ3 272 27)) rfl dX8_best_130 ltc_272 shc_272 rfl ?_
                    refine Ev.bipush (n := -9) (by decide) dX8_best_133 ?_
                    refine Ev.icmp_ne (tgt := 143) ⟨by omega, by omega⟩ ⟨by decide, by decide⟩ dX8_best_135 (by decide) (fun h135 => ?_) (fun h135 => ?_)
                    · skip
                      refine Ev.aload_n dX8_best_143 rfl rfl ?_
                      refine gf_X8_75 rfl dX8_best_144 ltc_272 shc_272 rfc_272_28 ?_
                      refine Ev.iload_n dX8_best_147 rfl rfl ?_
                      refine Ev.iaload (v := ((A kx : Nat) : Int)) dX8_best_148 ltc_293 shc_293 (by decide) (by omega) (by omega) (ldx rfl (hu6.2.2 kx (by omega)).1) ?_
                      exact Ev.ireturn dX8_best_149 rfl (rE (by have hed := hin.end hx (fun B z => hz2 B z.2.1) (by omega); unfold MP o_best; (repeat rw [Int.toNat_natCast]); rw [ifP_f (by omega), ifP_f hfar, ifP_t ⟨_, hed.2.1⟩]; exact ⟨(by rw [hed.2.2.1]), (hM2.lst hed.1 hed.2.2.2 (ansP_lt hed.2.1)), hk0⟩))
                    · skip
                      refine Ev.bipush (n := -9) (by decide) dX8_best_138 ?_
                      refine Ev.goto (tgt := 149) dX8_best_140 (by decide) ?_
                      exact Ev.ireturn dX8_best_149 rfl (absurd h135 (by omega))
                  · exact absurd h49 (by decide)
        · skip
          refine Ev.aload_n dX8_best_65 rfl rfl ?_
          refine gf_X8_87 rfl dX8_best_66 ltc_272 shc_272 rfc_272_33 ?_
          refine Ev.iload_n dX8_best_69 rfl rfl ?_
          refine Ev.iaload (v := ((A kx : Nat) : Int)) dX8_best_70 ltc_297 shc_297 (by decide) (by omega) (by omega) (ldx rfl (hA kx hx)) ?_
          refine Ev.aload_n dX8_best_71 rfl rfl ?_
          refine gf_X8_75 rfl dX8_best_72 ltc_272 shc_272 rfc_272_28 ?_
          refine Ev.iload_n dX8_best_75 rfl rfl ?_
          refine Ev.iaload (v := ((v kx : Nat) : Int)) dX8_best_76 ltc_293 shc_293 (by decide) (by omega) (by omega) (ldx rfl (hu6.2.2 kx (by omega)).1) ?_
          refine Ev.icmp_le (tgt := 102) ⟨by omega, by omega⟩ ⟨by omega, by omega⟩ dX8_best_77 (by decide) (fun h77 => ?_) (fun h77 => ?_)
          · skip
            refine Ev.iconst dX8_best_102 ?_
            refine Ev.istore (pl' := [some (vR (272)), some (vI (((kx : Nat) : Int))), some (vI (g_)), some (vI (1)), some (vI (0))]) dX8_best_103 (Nat.le_of_ble_eq_true rfl) rfl ?_
            refine Ev.iload dX8_best_105 rfl ?_
            refine Ev.if_eq (tgt := 121) ⟨by decide, by decide⟩ dX8_best_107 (by decide) (fun h107 => ?_) (fun h107 => ?_)
            · skip
              refine Ev.aload_n dX8_best_121 rfl rfl ?_
              refine Ev.callV_G (M2 := mX8_goesOn) (args2 := []) (rcv := 272) (q := (RX8, TX8, 34)) (ci := 8) dX8_best_122 okX8_goesOn lk_X8_266 ovX8_goesOn.1.1 ovX8_goesOn.1.2 ovX8_goesOn.2 (by decide) rfl rfl ltc_272 shc_272 rfl (Nat.le_of_ble_eq_true rfl) (Nat.le_of_ble_eq_true rfl) (sM_goesOn τ (sU s) hU hu1.2.1 (NX s (sX s)) hX.az hX.ne A hI hA) (fun v_ m_ hp_ => ?_) rfl
              obtain ⟨v9, τ3, rfl, rfl, hF2, hvv⟩ := hp_
              rcases hvv with ⟨rfl, A2, hI2, hA2, hk2, hb2⟩ | ⟨rfl, hz2⟩
              · skip
                have hq : ∀ B, ansP s (sX s) B → (kod (sU s) B < kod (sU s) A2 ↔ kod (sU s) B ≤ kod (sU s) A) := fun B z => ⟨hb2 B z.2.1, fun y => by omega⟩
                have hin : InvB s kx g_ a v (fun B => kod (sU s) B ≤ kod (sU s) A) := (hinv.w hsy hl16 hx (by omega) (by unfold btr; omega))
                show Ev g mX8_best 125 [some (vR (272)), some (vI (((kx : Nat) : Int))), some (vI (g_)), some (vI (1)), some (vI (0))] [vI (1)] (M0 (τ3)) 0 0 _
                refine Ev.istore_n (pl' := [some (vR (272)), some (vI (((kx : Nat) : Int))), some (vI (g_)), some (vI (1)), some (vI (0))]) dX8_best_125 rfl (Nat.le_of_ble_eq_true rfl) rfl ?_
                refine Ev.goto (tgt := 48) dX8_best_126 (by decide) ?_
                refine Ev.wk (pl' := [some (vR (272)), some (vI (((kx : Nat) : Int))), some (vI (g_)), some (vI (1)), none]) ⟨rfl, ⟨rfl, ⟨rfl, ⟨rfl, trivial⟩⟩⟩⟩ ?_
                exact ih (K + 1) (by omega) τ3 A2 a v (hM2.scr (S297 hF2)) (fun c h => ((S297 hF2).lo c h).trans (hk0 c h)) (hX.same hF2 (by decide)) hI2 hA2 (by omega) (hin.cg hq)
              · skip
                have hin : InvB s kx g_ a v (fun B => kod (sU s) B ≤ kod (sU s) A) := (hinv.w hsy hl16 hx (by omega) (by unfold btr; omega))
                have hM2 := hM2.scr (S297 hF2)
                have hk0 := fun c (h : c < 272) => ((S297 hF2).lo c h).trans (hk0 c h)
                have hu6 : u6 τ3 a v := hM2.2.2.2.2.2.1
                have h27 := u6_27 hu6
                show Ev g mX8_best 125 [some (vR (272)), some (vI (((kx : Nat) : Int))), some (vI (g_)), some (vI (1)), some (vI (0))] [vI (0)] (M0 (τ3)) 0 0 _
                refine Ev.istore_n (pl' := [some (vR (272)), some (vI (((kx : Nat) : Int))), some (vI (g_)), some (vI (0)), some (vI (0))]) dX8_best_125 rfl (Nat.le_of_ble_eq_true rfl) rfl ?_
                refine Ev.goto (tgt := 48) dX8_best_126 (by decide) ?_
                refine Ev.iload_n dX8_best_48 rfl rfl ?_
                refine Ev.if_eq (tgt := 129) ⟨by decide, by decide⟩ dX8_best_49 (by decide) (fun h49 => ?_) (fun h49 => ?_)
                · skip
                  refine Ev.aload_n dX8_best_129 rfl rfl ?_
                  refine gf_X8_71 (x := (τ3 272 27)) rfl dX8_best_130 ltc_272 shc_272 rfl ?_
                  refine Ev.bipush (n := -9) (by decide) dX8_best_133 ?_
                  refine Ev.icmp_ne (tgt := 143) ⟨by omega, by omega⟩ ⟨by decide, by decide⟩ dX8_best_135 (by decide) (fun h135 => ?_) (fun h135 => ?_)
                  · skip
                    refine Ev.aload_n dX8_best_143 rfl rfl ?_
                    refine gf_X8_75 rfl dX8_best_144 ltc_272 shc_272 rfc_272_28 ?_
                    refine Ev.iload_n dX8_best_147 rfl rfl ?_
                    refine Ev.iaload (v := ((v kx : Nat) : Int)) dX8_best_148 ltc_293 shc_293 (by decide) (by omega) (by omega) (ldx rfl (hu6.2.2 kx (by omega)).1) ?_
                    exact Ev.ireturn dX8_best_149 rfl (rE (by have hed := hin.end hx (fun B z => hz2 B z.2.1) (by omega); unfold MP o_best; (repeat rw [Int.toNat_natCast]); rw [ifP_f (by omega), ifP_f hfar, ifP_t ⟨_, hed.2.1⟩]; exact ⟨(by rw [hed.2.2.1]), (hM2.lst hed.1 hed.2.2.2 (ansP_lt hed.2.1)), hk0⟩))
                  · skip
                    refine Ev.bipush (n := -9) (by decide) dX8_best_138 ?_
                    refine Ev.goto (tgt := 149) dX8_best_140 (by decide) ?_
                    exact Ev.ireturn dX8_best_149 rfl (rE (by unfold MP o_best; (repeat rw [Int.toNat_natCast]); rw [ifP_f (by omega), ifP_f hfar, ifP_f ((show InvB s kx g_ (-1) _ (fun B => kod (sU s) B ≤ kod (sU s) A) from by first | exact hin | (rw [show a = -1 by omega] at hin; exact hin)).end0 (fun B z => hz2 B z.2.1))]; exact ⟨rfl, (by first | exact hM2.ans1 (by omega)), hk0⟩))
                · exact absurd h49 (by decide)
            · exact absurd h107 (by decide)
          · skip
            refine Ev.goto (tgt := 98) dX8_best_80 (by decide) ?_
            refine Ev.iconst dX8_best_98 ?_
            refine Ev.goto (tgt := 103) dX8_best_99 (by decide) ?_
            refine Ev.istore (pl' := [some (vR (272)), some (vI (((kx : Nat) : Int))), some (vI (g_)), some (vI (1)), some (vI (1))]) dX8_best_103 (Nat.le_of_ble_eq_true rfl) rfl ?_
            refine Ev.iload dX8_best_105 rfl ?_
            refine Ev.if_eq (tgt := 121) ⟨by decide, by decide⟩ dX8_best_107 (by decide) (fun h107 => ?_) (fun h107 => ?_)
            · exact absurd h107 (by decide)
            · skip
              refine Ev.aload_n dX8_best_110 rfl rfl ?_
              refine Ev.callV_I (M2 := mX8_fitsAll) (args2 := []) (rcv := 272) (q := (RX8, TX8, 34)) (ci := 8) dX8_best_111 okX8_fitsAll lk_X8_260 ovX8_fitsAll.1.1 ovX8_fitsAll.1.2 ovX8_fitsAll.2 (by decide) rfl rfl ltc_272 shc_272 rfl (Nat.le_of_ble_eq_true rfl) (Nat.le_of_ble_eq_true rfl) (sM_fitsAll τ (sU s) (sN s) hN hu2.2.1 (sB s) hu3 (sR s) (sW s) hu2.2.2.1 (fun r hr => ⟨(hu2.2.2.2 r hr).1, (hu2.2.2.2 r hr).2.1⟩) (fun r hr => (hu2.2.2.2 r hr).2.2) A (fun x hx => ⟨hA x hx, hl16 x hx⟩)) ?_ rfl
              refine Ev.if_eq (tgt := 121) bI_inR dX8_best_114 (by decide) (fun h114 => ?_) (fun h114 => ?_)
              · skip
                have q114 := bI_0.mp h114
                refine Ev.aload_n dX8_best_121 rfl rfl ?_
                refine Ev.callV_G (M2 := mX8_goesOn) (args2 := []) (rcv := 272) (q := (RX8, TX8, 34)) (ci := 8) dX8_best_122 okX8_goesOn lk_X8_266 ovX8_goesOn.1.1 ovX8_goesOn.1.2 ovX8_goesOn.2 (by decide) rfl rfl ltc_272 shc_272 rfl (Nat.le_of_ble_eq_true rfl) (Nat.le_of_ble_eq_true rfl) (sM_goesOn τ (sU s) hU hu1.2.1 (NX s (sX s)) hX.az hX.ne A hI hA) (fun v_ m_ hp_ => ?_) rfl
                obtain ⟨v9, τ3, rfl, rfl, hF2, hvv⟩ := hp_
                rcases hvv with ⟨rfl, A2, hI2, hA2, hk2, hb2⟩ | ⟨rfl, hz2⟩
                · skip
                  have hq : ∀ B, ansP s (sX s) B → (kod (sU s) B < kod (sU s) A2 ↔ kod (sU s) B ≤ kod (sU s) A) := fun B z => ⟨hb2 B z.2.1, fun y => by omega⟩
                  have hin : InvB s kx g_ a v (fun B => kod (sU s) B ≤ kod (sU s) A) := (hinv.n hsy hl16 (fun z => q114 z.2.2))
                  show Ev g mX8_best 125 [some (vR (272)), some (vI (((kx : Nat) : Int))), some (vI (g_)), some (vI (1)), some (vI (1))] [vI (1)] (M0 (τ3)) 0 0 _
                  refine Ev.istore_n (pl' := [some (vR (272)), some (vI (((kx : Nat) : Int))), some (vI (g_)), some (vI (1)), some (vI (1))]) dX8_best_125 rfl (Nat.le_of_ble_eq_true rfl) rfl ?_
                  refine Ev.goto (tgt := 48) dX8_best_126 (by decide) ?_
                  refine Ev.wk (pl' := [some (vR (272)), some (vI (((kx : Nat) : Int))), some (vI (g_)), some (vI (1)), none]) ⟨rfl, ⟨rfl, ⟨rfl, ⟨rfl, trivial⟩⟩⟩⟩ ?_
                  exact ih (K + 1) (by omega) τ3 A2 a v (hM2.scr (S297 hF2)) (fun c h => ((S297 hF2).lo c h).trans (hk0 c h)) (hX.same hF2 (by decide)) hI2 hA2 (by omega) (hin.cg hq)
                · skip
                  have hin : InvB s kx g_ a v (fun B => kod (sU s) B ≤ kod (sU s) A) := (hinv.n hsy hl16 (fun z => q114 z.2.2))
                  have hM2 := hM2.scr (S297 hF2)
                  have hk0 := fun c (h : c < 272) => ((S297 hF2).lo c h).trans (hk0 c h)
                  have hu6 : u6 τ3 a v := hM2.2.2.2.2.2.1
                  have h27 := u6_27 hu6
                  show Ev g mX8_best 125 [some (vR (272)), some (vI (((kx : Nat) : Int))), some (vI (g_)), some (vI (1)), some (vI (1))] [vI (0)] (M0 (τ3)) 0 0 _
                  refine Ev.istore_n (pl' := [some (vR (272)), some (vI (((kx : Nat) : Int))), some (vI (g_)), some (vI (0)), some (vI (1))]) dX8_best_125 rfl (Nat.le_of_ble_eq_true rfl) rfl ?_
                  refine Ev.goto (tgt := 48) dX8_best_126 (by decide) ?_
                  refine Ev.iload_n dX8_best_48 rfl rfl ?_
                  refine Ev.if_eq (tgt := 129) ⟨by decide, by decide⟩ dX8_best_49 (by decide) (fun h49 => ?_) (fun h49 => ?_)
                  · skip
                    refine Ev.aload_n dX8_best_129 rfl rfl ?_
                    refine gf_X8_71 (x := (τ3 272 27)) rfl dX8_best_130 ltc_272 shc_272 rfl ?_
                    refine Ev.bipush (n := -9) (by decide) dX8_best_133 ?_
                    refine Ev.icmp_ne (tgt := 143) ⟨by omega, by omega⟩ ⟨by decide, by decide⟩ dX8_best_135 (by decide) (fun h135 => ?_) (fun h135 => ?_)
                    · skip
                      refine Ev.aload_n dX8_best_143 rfl rfl ?_
                      refine gf_X8_75 rfl dX8_best_144 ltc_272 shc_272 rfc_272_28 ?_
                      refine Ev.iload_n dX8_best_147 rfl rfl ?_
                      refine Ev.iaload (v := ((v kx : Nat) : Int)) dX8_best_148 ltc_293 shc_293 (by decide) (by omega) (by omega) (ldx rfl (hu6.2.2 kx (by omega)).1) ?_
                      exact Ev.ireturn dX8_best_149 rfl (rE (by have hed := hin.end hx (fun B z => hz2 B z.2.1) (by omega); unfold MP o_best; (repeat rw [Int.toNat_natCast]); rw [ifP_f (by omega), ifP_f hfar, ifP_t ⟨_, hed.2.1⟩]; exact ⟨(by rw [hed.2.2.1]), (hM2.lst hed.1 hed.2.2.2 (ansP_lt hed.2.1)), hk0⟩))
                    · skip
                      refine Ev.bipush (n := -9) (by decide) dX8_best_138 ?_
                      refine Ev.goto (tgt := 149) dX8_best_140 (by decide) ?_
                      exact Ev.ireturn dX8_best_149 rfl (rE (by unfold MP o_best; (repeat rw [Int.toNat_natCast]); rw [ifP_f (by omega), ifP_f hfar, ifP_f ((show InvB s kx g_ (-1) _ (fun B => kod (sU s) B ≤ kod (sU s) A) from by first | exact hin | (rw [show a = -1 by omega] at hin; exact hin)).end0 (fun B z => hz2 B z.2.1))]; exact ⟨rfl, (by first | exact hM2.ans1 (by omega)), hk0⟩))
                  · exact absurd h49 (by decide)
              · skip
                have q114 := bI_1.mp h114
                refine Ev.aload_n dX8_best_117 rfl rfl ?_
                refine Ev.callV_G (M2 := mX8_keep) (args2 := []) (rcv := 272) (q := (RX8, TX8, 34)) (ci := 8) dX8_best_118 okX8_keep lk_X8_263 ovX8_keep.1.1 ovX8_keep.1.2 ovX8_keep.2 (by decide) rfl rfl ltc_272 shc_272 rfl (Nat.le_of_ble_eq_true rfl) (Nat.le_of_ble_eq_true rfl) (sM_keep τ (sU s) hU hu1.2.1 A hA) (fun v_ m_ hp_ => ?_) rfl
                obtain ⟨τ2, rfl, rfl, hkF, hk27, hk293⟩ := hp_
                have hM2 : MI (wA s (sU s) A) τ2 := hM2.kept hkF hk27 (fun x hx => ⟨hk293 x hx, hl16 x hx⟩)
                have hk0 := fun c (h : c < 272) => (kpF hkF c h).trans (hk0 c h)
                have hu1 : u1 τ2 (sU s) (sG s) (sX s) := (hM2).1
                have hu2 : u2 τ2 (sU s) (sN s) (sR s) (sW s) := (hM2).2.1
                have hu3 : TVm τ2 (sB s) := (hM2).2.2.1
                have hu4 : u4 τ2 (sU s) (sD s) (sO s) (sP s) (sH s) := (hM2).2.2.2.1
                have hu7 : u7 τ2 (sU s) (sN s) (sM s) (sL s) (sK s) := (hM2).2.2.2.2.2.2.1
                have hU := hu1.1
                have hN := hu2.1
                have hD := hu4.1
                have hMl := hu7.1
                have hXk : AV τ2 294 (sU s) (NX s (sX s)) := fun x hx => ⟨(hkF 294 x (by decide) (fun z => absurd z (by decide))).trans (hX x hx).1, (hX x hx).2⟩
                have hAk : ∀ x, x < sU s → τ2 297 x = (A x : Int) := fun x hx => (hkF 297 x (by decide) (fun z => absurd z (by decide))).trans (hA x hx)
                show Ev g mX8_best 121 [some (vR (272)), some (vI (((kx : Nat) : Int))), some (vI (g_)), some (vI (1)), some (vI (1))] [] (M0 (τ2)) 0 0 _
                refine Ev.aload_n dX8_best_121 rfl rfl ?_
                refine Ev.callV_G (M2 := mX8_goesOn) (args2 := []) (rcv := 272) (q := (RX8, TX8, 34)) (ci := 8) dX8_best_122 okX8_goesOn lk_X8_266 ovX8_goesOn.1.1 ovX8_goesOn.1.2 ovX8_goesOn.2 (by decide) rfl rfl ltc_272 shc_272 rfl (Nat.le_of_ble_eq_true rfl) (Nat.le_of_ble_eq_true rfl) (sM_goesOn τ2 (sU s) hU hu1.2.1 (NX s (sX s)) hXk.az hXk.ne A hI hAk) (fun v_ m_ hp_ => ?_) rfl
                obtain ⟨v9, τ3, rfl, rfl, hF2, hvv⟩ := hp_
                rcases hvv with ⟨rfl, A2, hI2, hA2, hk2, hb2⟩ | ⟨rfl, hz2⟩
                · skip
                  have hq : ∀ B, ansP s (sX s) B → (kod (sU s) B < kod (sU s) A2 ↔ kod (sU s) B ≤ kod (sU s) A) := fun B z => ⟨hb2 B z.2.1, fun y => by omega⟩
                  have hin : InvB s kx g_ (sU s : Int) A (fun B => kod (sU s) B ≤ kod (sU s) A) := (hinv.y hsy hl16 hx (by first | exact Or.inl (by omega) | exact Or.inr (Or.inl ⟨by omega, by omega⟩) | exact Or.inr (Or.inr ⟨by omega, by omega⟩)) ⟨hal, hI, q114⟩)
                  show Ev g mX8_best 125 [some (vR (272)), some (vI (((kx : Nat) : Int))), some (vI (g_)), some (vI (1)), some (vI (1))] [vI (1)] (M0 (τ3)) 0 0 _
                  refine Ev.istore_n (pl' := [some (vR (272)), some (vI (((kx : Nat) : Int))), some (vI (g_)), some (vI (1)), some (vI (1))]) dX8_best_125 rfl (Nat.le_of_ble_eq_true rfl) rfl ?_
                  refine Ev.goto (tgt := 48) dX8_best_126 (by decide) ?_
                  refine Ev.wk (pl' := [some (vR (272)), some (vI (((kx : Nat) : Int))), some (vI (g_)), some (vI (1)), none]) ⟨rfl, ⟨rfl, ⟨rfl, ⟨rfl, trivial⟩⟩⟩⟩ ?_
                  exact ih (K + 1) (by omega) τ3 A2 ((sU s : Int)) A (hM2.scr (S297 hF2)) (fun c h => ((S297 hF2).lo c h).trans (hk0 c h)) (hXk.same hF2 (by decide)) hI2 hA2 (by omega) (hin.cg hq)
                · skip
                  have hin : InvB s kx g_ (sU s : Int) A (fun B => kod (sU s) B ≤ kod (sU s) A) := (hinv.y hsy hl16 hx (by first | exact Or.inl (by omega) | exact Or.inr (Or.inl ⟨by omega, by omega⟩) | exact Or.inr (Or.inr ⟨by omega, by omega⟩)) ⟨hal, hI, q114⟩)
                  have hM2 := hM2.scr (S297 hF2)
                  have hk0 := fun c (h : c < 272) => ((S297 hF2).lo c h).trans (hk0 c h)
                  have hu6 : u6 τ3 (sU s : Int) A := hM2.2.2.2.2.2.1
                  have h27 := u6_27 hu6
                  show Ev g mX8_best 125 [some (vR (272)), some (vI (((kx : Nat) : Int))), some (vI (g_)), some (vI (1)), some (vI (1))] [vI (0)] (M0 (τ3)) 0 0 _
                  refine Ev.istore_n (pl' := [some (vR (272)), some (vI (((kx : Nat) : Int))), some (vI (g_)), some (vI (0)), some (vI (1))]) dX8_best_125 rfl (Nat.le_of_ble_eq_true rfl) rfl ?_
                  refine Ev.goto (tgt := 48) dX8_best_126 (by decide) ?_
                  refine Ev.iload_n dX8_best_48 rfl rfl ?_
                  refine Ev.if_eq (tgt := 129) ⟨by decide, by decide⟩ dX8_best_49 (by decide) (fun h49 => ?_) (fun h49 => ?_)
                  · skip
                    refine Ev.aload_n dX8_best_129 rfl rfl ?_
                    refine gf_X8_71 (x := (τ3 272 27)) rfl dX8_best_130 ltc_272 shc_272 rfl ?_
                    refine Ev.bipush (n := -9) (by decide) dX8_best_133 ?_
                    refine Ev.icmp_ne (tgt := 143) ⟨by omega, by omega⟩ ⟨by decide, by decide⟩ dX8_best_135 (by decide) (fun h135 => ?_) (fun h135 => ?_)
                    · skip
                      refine Ev.aload_n dX8_best_143 rfl rfl ?_
                      refine gf_X8_75 rfl dX8_best_144 ltc_272 shc_272 rfc_272_28 ?_
                      refine Ev.iload_n dX8_best_147 rfl rfl ?_
                      refine Ev.iaload (v := ((A kx : Nat) : Int)) dX8_best_148 ltc_293 shc_293 (by decide) (by omega) (by omega) (ldx rfl (hu6.2.2 kx (by omega)).1) ?_
                      exact Ev.ireturn dX8_best_149 rfl (rE (by have hed := hin.end hx (fun B z => hz2 B z.2.1) (by omega); unfold MP o_best; (repeat rw [Int.toNat_natCast]); rw [ifP_f (by omega), ifP_f hfar, ifP_t ⟨_, hed.2.1⟩]; exact ⟨(by rw [hed.2.2.1]), (hM2.lst hed.1 hed.2.2.2 (ansP_lt hed.2.1)), hk0⟩))
                    · skip
                      refine Ev.bipush (n := -9) (by decide) dX8_best_138 ?_
                      refine Ev.goto (tgt := 149) dX8_best_140 (by decide) ?_
                      exact Ev.ireturn dX8_best_149 rfl (absurd h135 (by omega))
                  · exact absurd h49 (by decide)

set_option maxRecDepth 100000 in
set_option maxHeartbeats 4000000 in
theorem r_best {g : GC} (s : SS) (σ : Sg) (hM : MI s σ) (x : Int) (h_x : inR x) (g_ : Int) (h_g_ : inR g_) : Ev g mX8_best 0 [some (vR (272)), some (vI (x)), some (vI (g_)), none, none] [] (M0 (σ)) 0 0 (retE (MP σ (o_best s x g_))) := by
  refine Ev.aload_n dX8_best_0 rfl rfl ?_
  refine Ev.iconst dX8_best_1 ?_
  refine pf_X8_90 rfl dX8_best_2 ltc_272 shc_272 ?_
  obtain ⟨σ1, hs1⟩ : ∃ ρ : Sg, ρ = upC σ 272 0 0 := ⟨_, rfl⟩
  refine Ev.mem (τ := σ1) hs1.symm ?_
  have hM1 : MI s σ1 := by rw [hs1]; exact hM.th
  have hk0 : ∀ c, c < 272 → σ1 c = σ c := fun c hc => by rw [hs1]; exact upC_ne (by omega)
  obtain ⟨hu1, hu2, hu3, hu4, hu5, hu6, hu7, hu8⟩ := id hM1
  have hU := hu1.1
  have hN := hu2.1
  have hD := hu4.1
  have hMl := hu7.1
  have hQ := hu5.1
  refine Ev.aload_n dX8_best_5 rfl rfl ?_
  refine Ev.iload_n dX8_best_6 rfl rfl ?_
  refine Ev.callV_I (M2 := mX8_noUnknown) (args2 := [vI (x)]) (rcv := 272) (q := (RX8, TX8, 34)) (ci := 8) dX8_best_7 okX8_noUnknown lk_X8_119 ovX8_noUnknown.1.1 ovX8_noUnknown.1.2 ovX8_noUnknown.2 (by decide) rfl rfl ltc_272 shc_272 rfl (Nat.le_of_ble_eq_true rfl) (Nat.le_of_ble_eq_true rfl) (sM_noUnknown σ1 (sU s) hU hu1.2.1 (x) ⟨by omega, by omega⟩) ?_ rfl
  refine Ev.if_eq (tgt := 15) bI_inR dX8_best_10 (by decide) (fun h10 => ?_) (fun h10 => ?_)
  · skip
    have q10 := bI_0.mp h10
    obtain ⟨kx, rfl⟩ : ∃ n_ : Nat, x = (n_ : Int) := ⟨x.toNat, by omega⟩
    refine Ev.aload_n dX8_best_15 rfl rfl ?_
    refine Ev.callV_G (M2 := mX8_begun) (args2 := []) (rcv := 272) (q := (RX8, TX8, 34)) (ci := 8) dX8_best_16 okX8_begun lk_X8_253 ovX8_begun.1.1 ovX8_begun.1.2 ovX8_begun.2 (by decide) rfl rfl ltc_272 shc_272 rfl (Nat.le_of_ble_eq_true rfl) (Nat.le_of_ble_eq_true rfl) (rM_begun s σ1 hM1) (fun v_ m_ hp_ => ?_) rfl
    obtain ⟨v, τ, rfl, rfl, hS1, hvv⟩ := hp_
    have hk0 := fun c (h : c < 272) => (hS1.lo c h).trans (hk0 c h)
    have hM1 := hM1.scr hS1
    obtain ⟨hu1, hu2, hu3, hu4, hu5, hu6, hu7, hu8⟩ := id hM1
    have hU := hu1.1
    have hN := hu2.1
    have hD := hu4.1
    have hMl := hu7.1
    have hQ := hu5.1
    rcases hvv with ⟨rfl, hfar⟩ | ⟨rfl, hfar, hd, hXw, Yw, hYw⟩
    · skip
      show Ev g mX8_best 19 [some (vR (272)), some (vI (((kx : Nat) : Int))), some (vI (g_)), none, none] [vI (-5)] (M0 (τ)) 0 0 _
      refine Ev.if_eq (tgt := 25) ⟨by decide, by decide⟩ dX8_best_19 (by decide) (fun h19 => ?_) (fun h19 => ?_)
      · exact absurd h19 (by decide)
      · skip
        refine Ev.bipush (n := -5) (by decide) dX8_best_22 ?_
        exact Ev.ireturn dX8_best_24 rfl (rE (by unfold MP o_best; (repeat rw [Int.toNat_natCast]); rw [ifP_f (by omega), ifP_t hfar]; exact ⟨rfl, hM1, hk0⟩))
    · skip
      show Ev g mX8_best 19 [some (vR (272)), some (vI (((kx : Nat) : Int))), some (vI (g_)), none, none] [vI (0)] (M0 (τ)) 0 0 _
      refine Ev.if_eq (tgt := 25) ⟨by decide, by decide⟩ dX8_best_19 (by decide) (fun h19 => ?_) (fun h19 => ?_)
      · skip
        refine Ev.aload_n dX8_best_25 rfl rfl ?_
        refine Ev.bipush (n := -9) (by decide) dX8_best_26 ?_
        refine pf_X8_71 rfl dX8_best_28 ltc_272 shc_272 ?_
        obtain ⟨ρ, hρ⟩ : ∃ ρ : Sg, ρ = upC (τ) 272 27 (-9) := ⟨_, rfl⟩
        refine Ev.mem (τ := ρ) hρ.symm ?_
        have hM2 : MI (wA s (-1) (sV s)) ρ := by rw [hρ]; exact hM1.unans
        have hk0 : ∀ c, c < 272 → ρ c = σ c := fun c h => by rw [hρ]; exact (upC_ne (by omega)).trans (hk0 c h)
        have hd : ρ 272 31 = bI (¬ AL s (sX s)) := by rw [hρ]; exact (upC_self (by decide)).trans hd
        have hXw : AL s (sX s) → AV ρ 294 (sU s) (NX s (sX s)) := fun z => by rw [hρ]; exact (hXw z).up27 (by decide)
        have hYw : AW ρ (sU s) Yw := fun x hx => by rw [hρ, upC_ne (by decide)]; exact hYw x hx
        have hu1 : u1 ρ (sU s) (sG s) (sX s) := (hM2).1
        have hu2 : u2 ρ (sU s) (sN s) (sR s) (sW s) := (hM2).2.1
        have hu3 : TVm ρ (sB s) := (hM2).2.2.1
        have hu4 : u4 ρ (sU s) (sD s) (sO s) (sP s) (sH s) := (hM2).2.2.2.1
        have hu7 : u7 ρ (sU s) (sN s) (sM s) (sL s) (sK s) := (hM2).2.2.2.2.2.2.1
        have hU := hu1.1
        have hN := hu2.1
        have hD := hu4.1
        have hMl := hu7.1
        refine Ev.aload_n dX8_best_31 rfl rfl ?_
        refine gf_X8_197 (x := bI (¬ AL s (sX s))) rfl dX8_best_32 ltc_272 shc_272 hd ?_
        refine Ev.if_ne (tgt := 42) bI_inR dX8_best_35 (by decide) (fun h35 => ?_) (fun h35 => ?_)
        · skip
          have q35 := bI_1.mp h35
          refine Ev.iconst dX8_best_42 ?_
          refine Ev.istore_n (pl' := [some (vR (272)), some (vI (((kx : Nat) : Int))), some (vI (g_)), some (vI (0)), none]) dX8_best_43 rfl (Nat.le_of_ble_eq_true rfl) rfl ?_
          refine Ev.aload_n dX8_best_44 rfl rfl ?_
          refine Ev.callV_G (M2 := mX8_first) (args2 := []) (rcv := 272) (q := (RX8, TX8, 34)) (ci := 8) dX8_best_45 okX8_first lk_X8_257 ovX8_first.1.1 ovX8_first.1.2 ovX8_first.2 (by decide) rfl rfl ltc_272 shc_272 rfl (Nat.le_of_ble_eq_true rfl) (Nat.le_of_ble_eq_true rfl) (sM_first ρ (sU s) hU hu1.2.1 Yw hYw) (fun v_ m_ hp_ => ?_) rfl
          obtain ⟨τ2, rfl, rfl, hF, hG⟩ := hp_
          have hM2 := hM2.scr (S297 hF)
          have hk0 := fun c (h : c < 272) => ((S297 hF).lo c h).trans (hk0 c h)
          have h27 := u6_27 (wA_u6 hM2)
          show Ev g mX8_best 48 [some (vR (272)), some (vI (((kx : Nat) : Int))), some (vI (g_)), some (vI (0)), none] [] (M0 (τ2)) 0 0 _
          refine Ev.iload_n dX8_best_48 rfl rfl ?_
          refine Ev.if_eq (tgt := 129) ⟨by decide, by decide⟩ dX8_best_49 (by decide) (fun h49 => ?_) (fun h49 => ?_)
          · skip
            refine Ev.aload_n dX8_best_129 rfl rfl ?_
            refine gf_X8_71 (x := (τ2 272 27)) rfl dX8_best_130 ltc_272 shc_272 rfl ?_
            refine Ev.bipush (n := -9) (by decide) dX8_best_133 ?_
            refine Ev.icmp_ne (tgt := 143) ⟨by omega, by omega⟩ ⟨by decide, by decide⟩ dX8_best_135 (by decide) (fun h135 => ?_) (fun h135 => ?_)
            · exact absurd h135 (by omega)
            · skip
              refine Ev.bipush (n := -9) (by decide) dX8_best_138 ?_
              refine Ev.goto (tgt := 149) dX8_best_140 (by decide) ?_
              exact Ev.ireturn dX8_best_149 rfl (rE (by unfold MP o_best; (repeat rw [Int.toNat_natCast]); rw [ifP_f (by omega), ifP_f hfar, ifP_f (ansP_no q35)]; exact ⟨rfl, hM2, hk0⟩))
          · exact absurd h49 (by decide)
        · skip
          have q35 := bI_0.mp h35
          have hal : AL s (sX s) := Classical.byContradiction q35
          refine Ev.iconst dX8_best_38 ?_
          refine Ev.goto (tgt := 43) dX8_best_39 (by decide) ?_
          refine Ev.istore_n (pl' := [some (vR (272)), some (vI (((kx : Nat) : Int))), some (vI (g_)), some (vI (1)), none]) dX8_best_43 rfl (Nat.le_of_ble_eq_true rfl) rfl ?_
          refine Ev.aload_n dX8_best_44 rfl rfl ?_
          refine Ev.callV_G (M2 := mX8_first) (args2 := []) (rcv := 272) (q := (RX8, TX8, 34)) (ci := 8) dX8_best_45 okX8_first lk_X8_257 ovX8_first.1.1 ovX8_first.1.2 ovX8_first.2 (by decide) rfl rfl ltc_272 shc_272 rfl (Nat.le_of_ble_eq_true rfl) (Nat.le_of_ble_eq_true rfl) (sM_first ρ (sU s) hU hu1.2.1 (NX s (sX s)) (hXw hal).az) (fun v_ m_ hp_ => ?_) rfl
          obtain ⟨τ2, rfl, rfl, hF, hG⟩ := hp_
          have hM2 := hM2.scr (S297 hF)
          have hk0 := fun c (h : c < 272) => ((S297 hF).lo c h).trans (hk0 c h)
          have h27 := u6_27 (wA_u6 hM2)
          show Ev g mX8_best 48 [some (vR (272)), some (vI (((kx : Nat) : Int))), some (vI (g_)), some (vI (1)), none] [] (M0 (τ2)) 0 0 _
          refine Ev.wk (pl' := [some (vR (272)), some (vI (((kx : Nat) : Int))), some (vI (g_)), some (vI (1)), none]) ⟨rfl, ⟨rfl, ⟨rfl, ⟨rfl, trivial⟩⟩⟩⟩ ?_
          exact r_best_l s σ hal hfar kx (by omega) g_ h_g_ (16 ^ sU s) 0 (by omega) τ2 _ (-1) (sV s) hM2 hk0 ((hXw hal).same hF (by decide)) (lo_in (hXw hal).ne) hG (Nat.zero_le _) (Or.inl ⟨rfl, fun B z y => by have h1 := srch_0 (P := (ansP s (sX s))) (fun B z => z.2.1) B z; omega⟩)
      · exact absurd h19 (by decide)
  · skip
    have q10 := bI_1.mp h10
    refine Ev.iconst dX8_best_13 ?_
    exact Ev.ireturn dX8_best_14 rfl (rE (by unfold MP o_best; (repeat rw [Int.toNat_natCast]); rw [ifP_t (by omega)]; exact ⟨rfl, hM1, hk0⟩))

set_option maxRecDepth 100000 in
set_option maxHeartbeats 4000000 in
theorem r_has_x {g : GC} (s : SS) (σ σ1 : Sg) (hM1 : MI s σ1) (hk0 : ∀ c, c < 272 → σ1 c = σ c) (hfar : ¬ farP s (sX s)) (kx : Nat) (hx : kx < sU s) (k : Int) (h_k : 0 ≤ k ∧ k ≤ 3) (kv : Nat) (hkv : kv < 16) (b5 b6 : Int) (n5 : b5 = bI (∃ B, ansP s (sX s) B ∧ (nS k kv).testBit (B kx) = true)) (n6 : b6 = bI (∃ B, ansP s (sX s) B ∧ (nS k kv).testBit (B kx) = false)) : Ev g mX8_has 178 [some (vR (272)), some (vI (((kx : Nat) : Int))), some (vI (k)), some (vI (((kv : Nat) : Int))), some (vI (((nS k kv : Nat) : Int))), some (vI (b5)), some (vI (b6)), none, none] [] (M0 (σ1)) 0 0 (retE (MP σ (o_has s (kx : Int) k (kv : Int)))) := by
  have hb5 : b5 = 0 ∨ b5 = 1 := by rw [n5]; exact bI_or
  have hb6 : b6 = 0 ∨ b6 = 1 := by rw [n6]; exact bI_or
  refine Ev.iload dX8_has_178 rfl ?_
  refine Ev.if_eq (tgt := 196) ⟨by omega, by omega⟩ dX8_has_180 (by decide) (fun h180 => ?_) (fun h180 => ?_)
  · skip
    refine Ev.iload dX8_has_196 rfl ?_
    refine Ev.if_eq (tgt := 205) ⟨by omega, by omega⟩ dX8_has_198 (by decide) (fun h198 => ?_) (fun h198 => ?_)
    · skip
      refine Ev.iconst dX8_has_205 ?_
      exact Ev.ireturn dX8_has_206 rfl (rE (by unfold MP o_has; (repeat rw [Int.toNat_natCast]); rw [ifP_f (by omega), ifP_f (by omega), ifP_f hfar]; exact ⟨(by show _ = ifP _ _ _; rw [ifP_f (bI_0.mp (by rw [← n5]; omega))]; rw [ifP_f (bI_0.mp (by rw [← n6]; omega))]), hM1, hk0⟩))
    · skip
      refine Ev.iconst dX8_has_201 ?_
      refine Ev.goto (tgt := 206) dX8_has_202 (by decide) ?_
      exact Ev.ireturn dX8_has_206 rfl (rE (by unfold MP o_has; (repeat rw [Int.toNat_natCast]); rw [ifP_f (by omega), ifP_f (by omega), ifP_f hfar]; exact ⟨(by show _ = ifP _ _ _; rw [ifP_f (bI_0.mp (by rw [← n5]; omega))]; rw [ifP_t (bI_1.mp (by rw [← n6]; omega))]), hM1, hk0⟩))
  · skip
    refine Ev.iload dX8_has_183 rfl ?_
    refine Ev.if_eq (tgt := 192) ⟨by omega, by omega⟩ dX8_has_185 (by decide) (fun h185 => ?_) (fun h185 => ?_)
    · skip
      refine Ev.iconst dX8_has_192 ?_
      refine Ev.goto (tgt := 206) dX8_has_193 (by decide) ?_
      exact Ev.ireturn dX8_has_206 rfl (rE (by unfold MP o_has; (repeat rw [Int.toNat_natCast]); rw [ifP_f (by omega), ifP_f (by omega), ifP_f hfar]; exact ⟨(by show _ = ifP _ _ _; rw [ifP_t (bI_1.mp (by rw [← n5]; omega))]; rw [ifP_f (bI_0.mp (by rw [← n6]; omega))]), hM1, hk0⟩))
    · skip
      refine Ev.iconst dX8_has_188 ?_
      refine Ev.goto (tgt := 206) dX8_has_189 (by decide) ?_
      exact Ev.ireturn dX8_has_206 rfl (rE (by unfold MP o_has; (repeat rw [Int.toNat_natCast]); rw [ifP_f (by omega), ifP_f (by omega), ifP_f hfar]; exact ⟨(by show _ = ifP _ _ _; rw [ifP_t (bI_1.mp (by rw [← n5]; omega))]; rw [ifP_t (bI_1.mp (by rw [← n6]; omega))]), hM1, hk0⟩))

set_option maxRecDepth 100000 in
set_option maxHeartbeats 4000000 in
theorem r_has_l {g : GC} (s : SS) (σ : Sg) (hal : AL s (sX s)) (hfar : ¬ farP s (sX s)) (kx : Nat) (hx : kx < sU s) (k : Int) (h_k : 0 ≤ k ∧ k ≤ 3) (kv : Nat) (hkv : kv < 16) : ∀ j K : Nat, K + j = 16 ^ sU s → ∀ (τ : Sg) (A : An) (b5 b6 : Int), MI s τ → (∀ c, c < 272 → τ c = σ c) → AV τ 294 (sU s) (NX s (sX s)) → InR (sU s) (NX s (sX s)) A → (∀ x, x < sU s → τ 297 x = (A x : Int)) → K ≤ kod (sU s) A → b5 = bI (hasD s kx (nS k kv) true (fun B => kod (sU s) B < kod (sU s) A)) → b6 = bI (hasD s kx (nS k kv) false (fun B => kod (sU s) B < kod (sU s) A)) → Ev g mX8_has 83 [some (vR (272)), some (vI (((kx : Nat) : Int))), some (vI (k)), some (vI (((kv : Nat) : Int))), some (vI (((nS k kv : Nat) : Int))), some (vI (b5)), some (vI (b6)), some (vI (1)), none] [] (M0 (τ)) 0 0 (retE (MP σ (o_has s (kx : Int) k (kv : Int)))) := by
  intro j
  induction j with
  | zero =>
    intro K hij τ A b5 b6 hM1 hk0 hX hI hA hKA h5 h6
    exact absurd (kod_lt (InR.lt (fun x hx => (hX x hx).2.2) hI)) (by omega)
  | succ j ih =>
    intro K hij τ A b5 b6 hM1 hk0 hX hI hA hKA h5 h6
    obtain ⟨hu1, hu2, hu3, hu4, hu5, hu6, hu7, hu8⟩ := id hM1
    have hU := hu1.1
    have hN := hu2.1
    have hD := hu4.1
    have hMl := hu7.1
    have hQ := hu5.1
    have hXl := fun x (hx : x < sU s) => (hX x hx).2.2
    have hl16 := InR.lt hXl hI
    have hsy : SyOk (sU s) (sS s) := MI.sy hM1
    have hb5 : b5 = 0 ∨ b5 = 1 := by rw [h5]; exact bI_or
    have hb6 : b6 = 0 ∨ b6 = 1 := by rw [h6]; exact bI_or
    have hax := hl16 kx hx
    have hnl : nS k kv < 65536 := nS_lt (by omega)
    have hbl := @b2_le ((nS k kv).testBit (A kx))
    refine Ev.iload dX8_has_83 rfl ?_
    refine Ev.if_eq (tgt := 178) ⟨by decide, by decide⟩ dX8_has_85 (by decide) (fun h85 => ?_) (fun h85 => ?_)
    · exact absurd h85 (by decide)
    · skip
      refine Ev.iload dX8_has_88 rfl ?_
      refine Ev.aload_n dX8_has_90 rfl rfl ?_
      refine gf_X8_87 rfl dX8_has_91 ltc_272 shc_272 rfc_272_33 ?_
      refine Ev.iload_n dX8_has_94 rfl rfl ?_
      refine Ev.iaload (v := ((A kx : Nat) : Int)) dX8_has_95 ltc_297 shc_297 (by decide) (by omega) (by omega) (ldx rfl (hA kx hx)) ?_
      refine Ev.ishr dX8_has_96 ?_
      refine Ev.iconst dX8_has_97 ?_
      refine Ev.iand dX8_has_98 ?_
      rw [show (iAnd ((iShr (((nS k kv : Nat) : Int)) (((A kx : Nat) : Int)))) (1)) = (((b2 ((nS k kv).testBit (A kx))) : Nat) : Int) from bit_nat (by omega) (by omega)]
      refine Ev.iconst dX8_has_99 ?_
      refine Ev.icmp_ne (tgt := 107) b2_inR ⟨by decide, by decide⟩ dX8_has_100 (by decide) (fun h100 => ?_) (fun h100 => ?_)
      · skip
        refine Ev.iconst dX8_has_107 ?_
        refine Ev.istore (pl' := [some (vR (272)), some (vI (((kx : Nat) : Int))), some (vI (k)), some (vI (((kv : Nat) : Int))), some (vI (((nS k kv : Nat) : Int))), some (vI (b5)), some (vI (b6)), some (vI (1)), some (vI (0))]) dX8_has_108 (Nat.le_of_ble_eq_true rfl) rfl ?_
        refine Ev.iload dX8_has_110 rfl ?_
        refine Ev.if_eq (tgt := 123) ⟨by decide, by decide⟩ dX8_has_112 (by decide) (fun h112 => ?_) (fun h112 => ?_)
        · skip
          refine Ev.iload dX8_has_123 rfl ?_
          refine Ev.if_ne (tgt := 169) ⟨by omega, by omega⟩ dX8_has_125 (by decide) (fun h125 => ?_) (fun h125 => ?_)
          · skip
            refine Ev.aload_n dX8_has_169 rfl rfl ?_
            refine Ev.callV_G (M2 := mX8_goesOn) (args2 := []) (rcv := 272) (q := (RX8, TX8, 34)) (ci := 8) dX8_has_170 okX8_goesOn lk_X8_266 ovX8_goesOn.1.1 ovX8_goesOn.1.2 ovX8_goesOn.2 (by decide) rfl rfl ltc_272 shc_272 rfl (Nat.le_of_ble_eq_true rfl) (Nat.le_of_ble_eq_true rfl) (sM_goesOn τ (sU s) hU hu1.2.1 (NX s (sX s)) hX.az hX.ne A hI hA) (fun v_ m_ hp_ => ?_) rfl
            obtain ⟨v9, τ2, rfl, rfl, hF2, hvv⟩ := hp_
            rcases hvv with ⟨rfl, A2, hI2, hA2, hk2, hb2⟩ | ⟨rfl, hz2⟩
            · skip
              have hq : ∀ B, ansP s (sX s) B → (kod (sU s) B < kod (sU s) A2 ↔ kod (sU s) B ≤ kod (sU s) A) := fun B z => ⟨hb2 B z.2.1, fun y => by omega⟩
              have n5 : (b5 : Int) = bI (hasD s kx (nS k kv) true (fun B => kod (sU s) B < kod (sU s) A2)) := hs_up hsy hl16 hx h5 hq (by first | exact Or.inl ⟨rfl, Or.inl (by omega)⟩ | exact Or.inl ⟨rfl, Or.inr ⟨⟨hal, hI, q132⟩, b2_ne.mp (by omega)⟩⟩ | exact Or.inr (Or.inl ⟨by omega, fun z => q132 z.1.2.2⟩) | exact Or.inr (Or.inl ⟨by omega, fun z => absurd (z.2.symm.trans (b2_0.mp (by omega))) (by decide)⟩) | exact Or.inr (Or.inr ⟨by omega, by omega⟩))
              have n6 : (b6 : Int) = bI (hasD s kx (nS k kv) false (fun B => kod (sU s) B < kod (sU s) A2)) := hs_up hsy hl16 hx h6 hq (by first | exact Or.inl ⟨rfl, Or.inl (by omega)⟩ | exact Or.inl ⟨rfl, Or.inr ⟨⟨hal, hI, q132⟩, b2_0.mp (by omega)⟩⟩ | exact Or.inr (Or.inl ⟨by omega, fun z => q132 z.1.2.2⟩) | exact Or.inr (Or.inl ⟨by omega, fun z => absurd (z.2.symm.trans (b2_ne.mp (by omega))) (by decide)⟩) | exact Or.inr (Or.inr ⟨by omega, by omega⟩))
              show Ev g mX8_has 173 [some (vR (272)), some (vI (((kx : Nat) : Int))), some (vI (k)), some (vI (((kv : Nat) : Int))), some (vI (((nS k kv : Nat) : Int))), some (vI (b5)), some (vI (b6)), some (vI (1)), some (vI (0))] [vI (1)] (M0 (τ2)) 0 0 _
              refine Ev.istore (pl' := [some (vR (272)), some (vI (((kx : Nat) : Int))), some (vI (k)), some (vI (((kv : Nat) : Int))), some (vI (((nS k kv : Nat) : Int))), some (vI (b5)), some (vI (b6)), some (vI (1)), some (vI (0))]) dX8_has_173 (Nat.le_of_ble_eq_true rfl) rfl ?_
              refine Ev.goto (tgt := 83) dX8_has_175 (by decide) ?_
              refine Ev.wk (pl' := [some (vR (272)), some (vI (((kx : Nat) : Int))), some (vI (k)), some (vI (((kv : Nat) : Int))), some (vI (((nS k kv : Nat) : Int))), some (vI (b5)), some (vI (b6)), some (vI (1)), none]) ⟨rfl, ⟨rfl, ⟨rfl, ⟨rfl, ⟨rfl, ⟨rfl, ⟨rfl, ⟨rfl, trivial⟩⟩⟩⟩⟩⟩⟩⟩ ?_
              exact ih (K + 1) (by omega) τ2 A2 b5 b6 (hM1.scr (S297 hF2)) (fun c h => ((S297 hF2).lo c h).trans (hk0 c h)) (hX.same hF2 (by decide)) hI2 hA2 (by omega) n5 n6
            · skip
              have hq : ∀ B, ansP s (sX s) B → (kod (sU s) B ≤ kod (sU s) A ↔ kod (sU s) B ≤ kod (sU s) A) := fun B z => Iff.rfl
              have n5 : (b5 : Int) = bI (hasD s kx (nS k kv) true (fun B => kod (sU s) B ≤ kod (sU s) A)) := hs_up hsy hl16 hx h5 hq (by first | exact Or.inl ⟨rfl, Or.inl (by omega)⟩ | exact Or.inl ⟨rfl, Or.inr ⟨⟨hal, hI, q132⟩, b2_ne.mp (by omega)⟩⟩ | exact Or.inr (Or.inl ⟨by omega, fun z => q132 z.1.2.2⟩) | exact Or.inr (Or.inl ⟨by omega, fun z => absurd (z.2.symm.trans (b2_0.mp (by omega))) (by decide)⟩) | exact Or.inr (Or.inr ⟨by omega, by omega⟩))
              have n6 : (b6 : Int) = bI (hasD s kx (nS k kv) false (fun B => kod (sU s) B ≤ kod (sU s) A)) := hs_up hsy hl16 hx h6 hq (by first | exact Or.inl ⟨rfl, Or.inl (by omega)⟩ | exact Or.inl ⟨rfl, Or.inr ⟨⟨hal, hI, q132⟩, b2_0.mp (by omega)⟩⟩ | exact Or.inr (Or.inl ⟨by omega, fun z => q132 z.1.2.2⟩) | exact Or.inr (Or.inl ⟨by omega, fun z => absurd (z.2.symm.trans (b2_ne.mp (by omega))) (by decide)⟩) | exact Or.inr (Or.inr ⟨by omega, by omega⟩))
              rw [hs_all (s := s) (fun B z => hz2 B z.2.1)] at n5 n6
              have hM1 := hM1.scr (S297 hF2)
              have hk0 := fun c (h : c < 272) => ((S297 hF2).lo c h).trans (hk0 c h)
              show Ev g mX8_has 173 [some (vR (272)), some (vI (((kx : Nat) : Int))), some (vI (k)), some (vI (((kv : Nat) : Int))), some (vI (((nS k kv : Nat) : Int))), some (vI (b5)), some (vI (b6)), some (vI (1)), some (vI (0))] [vI (0)] (M0 (τ2)) 0 0 _
              refine Ev.istore (pl' := [some (vR (272)), some (vI (((kx : Nat) : Int))), some (vI (k)), some (vI (((kv : Nat) : Int))), some (vI (((nS k kv : Nat) : Int))), some (vI (b5)), some (vI (b6)), some (vI (0)), some (vI (0))]) dX8_has_173 (Nat.le_of_ble_eq_true rfl) rfl ?_
              refine Ev.goto (tgt := 83) dX8_has_175 (by decide) ?_
              refine Ev.iload dX8_has_83 rfl ?_
              refine Ev.if_eq (tgt := 178) ⟨by decide, by decide⟩ dX8_has_85 (by decide) (fun h85 => ?_) (fun h85 => ?_)
              · skip
                refine Ev.wk (pl' := [some (vR (272)), some (vI (((kx : Nat) : Int))), some (vI (k)), some (vI (((kv : Nat) : Int))), some (vI (((nS k kv : Nat) : Int))), some (vI (b5)), some (vI (b6)), none, none]) ⟨rfl, ⟨rfl, ⟨rfl, ⟨rfl, ⟨rfl, ⟨rfl, ⟨rfl, trivial⟩⟩⟩⟩⟩⟩⟩ ?_
                exact r_has_x s σ τ2 hM1 hk0 hfar kx hx k h_k kv hkv b5 b6 n5 n6
              · exact absurd h85 (by decide)
          · skip
            refine Ev.aload_n dX8_has_128 rfl rfl ?_
            refine Ev.callV_I (M2 := mX8_fitsAll) (args2 := []) (rcv := 272) (q := (RX8, TX8, 34)) (ci := 8) dX8_has_129 okX8_fitsAll lk_X8_260 ovX8_fitsAll.1.1 ovX8_fitsAll.1.2 ovX8_fitsAll.2 (by decide) rfl rfl ltc_272 shc_272 rfl (Nat.le_of_ble_eq_true rfl) (Nat.le_of_ble_eq_true rfl) (sM_fitsAll τ (sU s) (sN s) hN hu2.2.1 (sB s) hu3 (sR s) (sW s) hu2.2.2.1 (fun r hr => ⟨(hu2.2.2.2 r hr).1, (hu2.2.2.2 r hr).2.1⟩) (fun r hr => (hu2.2.2.2 r hr).2.2) A (fun x hx => ⟨hA x hx, hl16 x hx⟩)) ?_ rfl
            refine Ev.if_eq (tgt := 169) bI_inR dX8_has_132 (by decide) (fun h132 => ?_) (fun h132 => ?_)
            · skip
              have q132 := bI_0.mp h132
              refine Ev.aload_n dX8_has_169 rfl rfl ?_
              refine Ev.callV_G (M2 := mX8_goesOn) (args2 := []) (rcv := 272) (q := (RX8, TX8, 34)) (ci := 8) dX8_has_170 okX8_goesOn lk_X8_266 ovX8_goesOn.1.1 ovX8_goesOn.1.2 ovX8_goesOn.2 (by decide) rfl rfl ltc_272 shc_272 rfl (Nat.le_of_ble_eq_true rfl) (Nat.le_of_ble_eq_true rfl) (sM_goesOn τ (sU s) hU hu1.2.1 (NX s (sX s)) hX.az hX.ne A hI hA) (fun v_ m_ hp_ => ?_) rfl
              obtain ⟨v9, τ2, rfl, rfl, hF2, hvv⟩ := hp_
              rcases hvv with ⟨rfl, A2, hI2, hA2, hk2, hb2⟩ | ⟨rfl, hz2⟩
              · skip
                have hq : ∀ B, ansP s (sX s) B → (kod (sU s) B < kod (sU s) A2 ↔ kod (sU s) B ≤ kod (sU s) A) := fun B z => ⟨hb2 B z.2.1, fun y => by omega⟩
                have n5 : (b5 : Int) = bI (hasD s kx (nS k kv) true (fun B => kod (sU s) B < kod (sU s) A2)) := hs_up hsy hl16 hx h5 hq (by first | exact Or.inl ⟨rfl, Or.inl (by omega)⟩ | exact Or.inl ⟨rfl, Or.inr ⟨⟨hal, hI, q132⟩, b2_ne.mp (by omega)⟩⟩ | exact Or.inr (Or.inl ⟨by omega, fun z => q132 z.1.2.2⟩) | exact Or.inr (Or.inl ⟨by omega, fun z => absurd (z.2.symm.trans (b2_0.mp (by omega))) (by decide)⟩) | exact Or.inr (Or.inr ⟨by omega, by omega⟩))
                have n6 : (b6 : Int) = bI (hasD s kx (nS k kv) false (fun B => kod (sU s) B < kod (sU s) A2)) := hs_up hsy hl16 hx h6 hq (by first | exact Or.inl ⟨rfl, Or.inl (by omega)⟩ | exact Or.inl ⟨rfl, Or.inr ⟨⟨hal, hI, q132⟩, b2_0.mp (by omega)⟩⟩ | exact Or.inr (Or.inl ⟨by omega, fun z => q132 z.1.2.2⟩) | exact Or.inr (Or.inl ⟨by omega, fun z => absurd (z.2.symm.trans (b2_ne.mp (by omega))) (by decide)⟩) | exact Or.inr (Or.inr ⟨by omega, by omega⟩))
                show Ev g mX8_has 173 [some (vR (272)), some (vI (((kx : Nat) : Int))), some (vI (k)), some (vI (((kv : Nat) : Int))), some (vI (((nS k kv : Nat) : Int))), some (vI (b5)), some (vI (b6)), some (vI (1)), some (vI (0))] [vI (1)] (M0 (τ2)) 0 0 _
                refine Ev.istore (pl' := [some (vR (272)), some (vI (((kx : Nat) : Int))), some (vI (k)), some (vI (((kv : Nat) : Int))), some (vI (((nS k kv : Nat) : Int))), some (vI (b5)), some (vI (b6)), some (vI (1)), some (vI (0))]) dX8_has_173 (Nat.le_of_ble_eq_true rfl) rfl ?_
                refine Ev.goto (tgt := 83) dX8_has_175 (by decide) ?_
                refine Ev.wk (pl' := [some (vR (272)), some (vI (((kx : Nat) : Int))), some (vI (k)), some (vI (((kv : Nat) : Int))), some (vI (((nS k kv : Nat) : Int))), some (vI (b5)), some (vI (b6)), some (vI (1)), none]) ⟨rfl, ⟨rfl, ⟨rfl, ⟨rfl, ⟨rfl, ⟨rfl, ⟨rfl, ⟨rfl, trivial⟩⟩⟩⟩⟩⟩⟩⟩ ?_
                exact ih (K + 1) (by omega) τ2 A2 b5 b6 (hM1.scr (S297 hF2)) (fun c h => ((S297 hF2).lo c h).trans (hk0 c h)) (hX.same hF2 (by decide)) hI2 hA2 (by omega) n5 n6
              · skip
                have hq : ∀ B, ansP s (sX s) B → (kod (sU s) B ≤ kod (sU s) A ↔ kod (sU s) B ≤ kod (sU s) A) := fun B z => Iff.rfl
                have n5 : (b5 : Int) = bI (hasD s kx (nS k kv) true (fun B => kod (sU s) B ≤ kod (sU s) A)) := hs_up hsy hl16 hx h5 hq (by first | exact Or.inl ⟨rfl, Or.inl (by omega)⟩ | exact Or.inl ⟨rfl, Or.inr ⟨⟨hal, hI, q132⟩, b2_ne.mp (by omega)⟩⟩ | exact Or.inr (Or.inl ⟨by omega, fun z => q132 z.1.2.2⟩) | exact Or.inr (Or.inl ⟨by omega, fun z => absurd (z.2.symm.trans (b2_0.mp (by omega))) (by decide)⟩) | exact Or.inr (Or.inr ⟨by omega, by omega⟩))
                have n6 : (b6 : Int) = bI (hasD s kx (nS k kv) false (fun B => kod (sU s) B ≤ kod (sU s) A)) := hs_up hsy hl16 hx h6 hq (by first | exact Or.inl ⟨rfl, Or.inl (by omega)⟩ | exact Or.inl ⟨rfl, Or.inr ⟨⟨hal, hI, q132⟩, b2_0.mp (by omega)⟩⟩ | exact Or.inr (Or.inl ⟨by omega, fun z => q132 z.1.2.2⟩) | exact Or.inr (Or.inl ⟨by omega, fun z => absurd (z.2.symm.trans (b2_ne.mp (by omega))) (by decide)⟩) | exact Or.inr (Or.inr ⟨by omega, by omega⟩))
                rw [hs_all (s := s) (fun B z => hz2 B z.2.1)] at n5 n6
                have hM1 := hM1.scr (S297 hF2)
                have hk0 := fun c (h : c < 272) => ((S297 hF2).lo c h).trans (hk0 c h)
                show Ev g mX8_has 173 [some (vR (272)), some (vI (((kx : Nat) : Int))), some (vI (k)), some (vI (((kv : Nat) : Int))), some (vI (((nS k kv : Nat) : Int))), some (vI (b5)), some (vI (b6)), some (vI (1)), some (vI (0))] [vI (0)] (M0 (τ2)) 0 0 _
                refine Ev.istore (pl' := [some (vR (272)), some (vI (((kx : Nat) : Int))), some (vI (k)), some (vI (((kv : Nat) : Int))), some (vI (((nS k kv : Nat) : Int))), some (vI (b5)), some (vI (b6)), some (vI (0)), some (vI (0))]) dX8_has_173 (Nat.le_of_ble_eq_true rfl) rfl ?_
                refine Ev.goto (tgt := 83) dX8_has_175 (by decide) ?_
                refine Ev.iload dX8_has_83 rfl ?_
                refine Ev.if_eq (tgt := 178) ⟨by decide, by decide⟩ dX8_has_85 (by decide) (fun h85 => ?_) (fun h85 => ?_)
                · skip
                  refine Ev.wk (pl' := [some (vR (272)), some (vI (((kx : Nat) : Int))), some (vI (k)), some (vI (((kv : Nat) : Int))), some (vI (((nS k kv : Nat) : Int))), some (vI (b5)), some (vI (b6)), none, none]) ⟨rfl, ⟨rfl, ⟨rfl, ⟨rfl, ⟨rfl, ⟨rfl, ⟨rfl, trivial⟩⟩⟩⟩⟩⟩⟩ ?_
                  exact r_has_x s σ τ2 hM1 hk0 hfar kx hx k h_k kv hkv b5 b6 n5 n6
                · exact absurd h85 (by decide)
            · skip
              have q132 := bI_1.mp h132
              refine Ev.iload dX8_has_135 rfl ?_
              refine Ev.if_ne (tgt := 145) ⟨by omega, by omega⟩ dX8_has_137 (by decide) (fun h137 => ?_) (fun h137 => ?_)
              · skip
                refine Ev.iconst dX8_has_145 ?_
                refine Ev.goto (tgt := 150) dX8_has_146 (by decide) ?_
                refine Ev.istore (pl' := [some (vR (272)), some (vI (((kx : Nat) : Int))), some (vI (k)), some (vI (((kv : Nat) : Int))), some (vI (((nS k kv : Nat) : Int))), some (vI (1)), some (vI (b6)), some (vI (1)), some (vI (0))]) dX8_has_150 (Nat.le_of_ble_eq_true rfl) rfl ?_
                refine Ev.iload dX8_has_152 rfl ?_
                refine Ev.if_ne (tgt := 162) ⟨by omega, by omega⟩ dX8_has_154 (by decide) (fun h154 => ?_) (fun h154 => ?_)
                · skip
                  refine Ev.iconst dX8_has_162 ?_
                  refine Ev.goto (tgt := 167) dX8_has_163 (by decide) ?_
                  refine Ev.istore (pl' := [some (vR (272)), some (vI (((kx : Nat) : Int))), some (vI (k)), some (vI (((kv : Nat) : Int))), some (vI (((nS k kv : Nat) : Int))), some (vI (1)), some (vI (1)), some (vI (1)), some (vI (0))]) dX8_has_167 (Nat.le_of_ble_eq_true rfl) rfl ?_
                  refine Ev.aload_n dX8_has_169 rfl rfl ?_
                  refine Ev.callV_G (M2 := mX8_goesOn) (args2 := []) (rcv := 272) (q := (RX8, TX8, 34)) (ci := 8) dX8_has_170 okX8_goesOn lk_X8_266 ovX8_goesOn.1.1 ovX8_goesOn.1.2 ovX8_goesOn.2 (by decide) rfl rfl ltc_272 shc_272 rfl (Nat.le_of_ble_eq_true rfl) (Nat.le_of_ble_eq_true rfl) (sM_goesOn τ (sU s) hU hu1.2.1 (NX s (sX s)) hX.az hX.ne A hI hA) (fun v_ m_ hp_ => ?_) rfl
                  obtain ⟨v9, τ2, rfl, rfl, hF2, hvv⟩ := hp_
                  rcases hvv with ⟨rfl, A2, hI2, hA2, hk2, hb2⟩ | ⟨rfl, hz2⟩
                  · skip
                    have hq : ∀ B, ansP s (sX s) B → (kod (sU s) B < kod (sU s) A2 ↔ kod (sU s) B ≤ kod (sU s) A) := fun B z => ⟨hb2 B z.2.1, fun y => by omega⟩
                    have n5 : (1 : Int) = bI (hasD s kx (nS k kv) true (fun B => kod (sU s) B < kod (sU s) A2)) := hs_up hsy hl16 hx h5 hq (by first | exact Or.inl ⟨rfl, Or.inl (by omega)⟩ | exact Or.inl ⟨rfl, Or.inr ⟨⟨hal, hI, q132⟩, b2_ne.mp (by omega)⟩⟩ | exact Or.inr (Or.inl ⟨by omega, fun z => q132 z.1.2.2⟩) | exact Or.inr (Or.inl ⟨by omega, fun z => absurd (z.2.symm.trans (b2_0.mp (by omega))) (by decide)⟩) | exact Or.inr (Or.inr ⟨by omega, by omega⟩))
                    have n6 : (1 : Int) = bI (hasD s kx (nS k kv) false (fun B => kod (sU s) B < kod (sU s) A2)) := hs_up hsy hl16 hx h6 hq (by first | exact Or.inl ⟨rfl, Or.inl (by omega)⟩ | exact Or.inl ⟨rfl, Or.inr ⟨⟨hal, hI, q132⟩, b2_0.mp (by omega)⟩⟩ | exact Or.inr (Or.inl ⟨by omega, fun z => q132 z.1.2.2⟩) | exact Or.inr (Or.inl ⟨by omega, fun z => absurd (z.2.symm.trans (b2_ne.mp (by omega))) (by decide)⟩) | exact Or.inr (Or.inr ⟨by omega, by omega⟩))
                    show Ev g mX8_has 173 [some (vR (272)), some (vI (((kx : Nat) : Int))), some (vI (k)), some (vI (((kv : Nat) : Int))), some (vI (((nS k kv : Nat) : Int))), some (vI (1)), some (vI (1)), some (vI (1)), some (vI (0))] [vI (1)] (M0 (τ2)) 0 0 _
                    refine Ev.istore (pl' := [some (vR (272)), some (vI (((kx : Nat) : Int))), some (vI (k)), some (vI (((kv : Nat) : Int))), some (vI (((nS k kv : Nat) : Int))), some (vI (1)), some (vI (1)), some (vI (1)), some (vI (0))]) dX8_has_173 (Nat.le_of_ble_eq_true rfl) rfl ?_
                    refine Ev.goto (tgt := 83) dX8_has_175 (by decide) ?_
                    refine Ev.wk (pl' := [some (vR (272)), some (vI (((kx : Nat) : Int))), some (vI (k)), some (vI (((kv : Nat) : Int))), some (vI (((nS k kv : Nat) : Int))), some (vI (1)), some (vI (1)), some (vI (1)), none]) ⟨rfl, ⟨rfl, ⟨rfl, ⟨rfl, ⟨rfl, ⟨rfl, ⟨rfl, ⟨rfl, trivial⟩⟩⟩⟩⟩⟩⟩⟩ ?_
                    exact ih (K + 1) (by omega) τ2 A2 1 1 (hM1.scr (S297 hF2)) (fun c h => ((S297 hF2).lo c h).trans (hk0 c h)) (hX.same hF2 (by decide)) hI2 hA2 (by omega) n5 n6
                  · skip
                    have hq : ∀ B, ansP s (sX s) B → (kod (sU s) B ≤ kod (sU s) A ↔ kod (sU s) B ≤ kod (sU s) A) := fun B z => Iff.rfl
                    have n5 : (1 : Int) = bI (hasD s kx (nS k kv) true (fun B => kod (sU s) B ≤ kod (sU s) A)) := hs_up hsy hl16 hx h5 hq (by first | exact Or.inl ⟨rfl, Or.inl (by omega)⟩ | exact Or.inl ⟨rfl, Or.inr ⟨⟨hal, hI, q132⟩, b2_ne.mp (by omega)⟩⟩ | exact Or.inr (Or.inl ⟨by omega, fun z => q132 z.1.2.2⟩) | exact Or.inr (Or.inl ⟨by omega, fun z => absurd (z.2.symm.trans (b2_0.mp (by omega))) (by decide)⟩) | exact Or.inr (Or.inr ⟨by omega, by omega⟩))
                    have n6 : (1 : Int) = bI (hasD s kx (nS k kv) false (fun B => kod (sU s) B ≤ kod (sU s) A)) := hs_up hsy hl16 hx h6 hq (by first | exact Or.inl ⟨rfl, Or.inl (by omega)⟩ | exact Or.inl ⟨rfl, Or.inr ⟨⟨hal, hI, q132⟩, b2_0.mp (by omega)⟩⟩ | exact Or.inr (Or.inl ⟨by omega, fun z => q132 z.1.2.2⟩) | exact Or.inr (Or.inl ⟨by omega, fun z => absurd (z.2.symm.trans (b2_ne.mp (by omega))) (by decide)⟩) | exact Or.inr (Or.inr ⟨by omega, by omega⟩))
                    rw [hs_all (s := s) (fun B z => hz2 B z.2.1)] at n5 n6
                    have hM1 := hM1.scr (S297 hF2)
                    have hk0 := fun c (h : c < 272) => ((S297 hF2).lo c h).trans (hk0 c h)
                    show Ev g mX8_has 173 [some (vR (272)), some (vI (((kx : Nat) : Int))), some (vI (k)), some (vI (((kv : Nat) : Int))), some (vI (((nS k kv : Nat) : Int))), some (vI (1)), some (vI (1)), some (vI (1)), some (vI (0))] [vI (0)] (M0 (τ2)) 0 0 _
                    refine Ev.istore (pl' := [some (vR (272)), some (vI (((kx : Nat) : Int))), some (vI (k)), some (vI (((kv : Nat) : Int))), some (vI (((nS k kv : Nat) : Int))), some (vI (1)), some (vI (1)), some (vI (0)), some (vI (0))]) dX8_has_173 (Nat.le_of_ble_eq_true rfl) rfl ?_
                    refine Ev.goto (tgt := 83) dX8_has_175 (by decide) ?_
                    refine Ev.iload dX8_has_83 rfl ?_
                    refine Ev.if_eq (tgt := 178) ⟨by decide, by decide⟩ dX8_has_85 (by decide) (fun h85 => ?_) (fun h85 => ?_)
                    · skip
                      refine Ev.wk (pl' := [some (vR (272)), some (vI (((kx : Nat) : Int))), some (vI (k)), some (vI (((kv : Nat) : Int))), some (vI (((nS k kv : Nat) : Int))), some (vI (1)), some (vI (1)), none, none]) ⟨rfl, ⟨rfl, ⟨rfl, ⟨rfl, ⟨rfl, ⟨rfl, ⟨rfl, trivial⟩⟩⟩⟩⟩⟩⟩ ?_
                      exact r_has_x s σ τ2 hM1 hk0 hfar kx hx k h_k kv hkv 1 1 n5 n6
                    · exact absurd h85 (by decide)
                · skip
                  refine Ev.iload dX8_has_157 rfl ?_
                  refine Ev.if_ne (tgt := 166) ⟨by decide, by decide⟩ dX8_has_159 (by decide) (fun h159 => ?_) (fun h159 => ?_)
                  · exact absurd h159 (by decide)
                  · skip
                    refine Ev.iconst dX8_has_162 ?_
                    refine Ev.goto (tgt := 167) dX8_has_163 (by decide) ?_
                    refine Ev.istore (pl' := [some (vR (272)), some (vI (((kx : Nat) : Int))), some (vI (k)), some (vI (((kv : Nat) : Int))), some (vI (((nS k kv : Nat) : Int))), some (vI (1)), some (vI (1)), some (vI (1)), some (vI (0))]) dX8_has_167 (Nat.le_of_ble_eq_true rfl) rfl ?_
                    refine Ev.aload_n dX8_has_169 rfl rfl ?_
                    refine Ev.callV_G (M2 := mX8_goesOn) (args2 := []) (rcv := 272) (q := (RX8, TX8, 34)) (ci := 8) dX8_has_170 okX8_goesOn lk_X8_266 ovX8_goesOn.1.1 ovX8_goesOn.1.2 ovX8_goesOn.2 (by decide) rfl rfl ltc_272 shc_272 rfl (Nat.le_of_ble_eq_true rfl) (Nat.le_of_ble_eq_true rfl) (sM_goesOn τ (sU s) hU hu1.2.1 (NX s (sX s)) hX.az hX.ne A hI hA) (fun v_ m_ hp_ => ?_) rfl
                    obtain ⟨v9, τ2, rfl, rfl, hF2, hvv⟩ := hp_
                    rcases hvv with ⟨rfl, A2, hI2, hA2, hk2, hb2⟩ | ⟨rfl, hz2⟩
                    · skip
                      have hq : ∀ B, ansP s (sX s) B → (kod (sU s) B < kod (sU s) A2 ↔ kod (sU s) B ≤ kod (sU s) A) := fun B z => ⟨hb2 B z.2.1, fun y => by omega⟩
                      have n5 : (1 : Int) = bI (hasD s kx (nS k kv) true (fun B => kod (sU s) B < kod (sU s) A2)) := hs_up hsy hl16 hx h5 hq (by first | exact Or.inl ⟨rfl, Or.inl (by omega)⟩ | exact Or.inl ⟨rfl, Or.inr ⟨⟨hal, hI, q132⟩, b2_ne.mp (by omega)⟩⟩ | exact Or.inr (Or.inl ⟨by omega, fun z => q132 z.1.2.2⟩) | exact Or.inr (Or.inl ⟨by omega, fun z => absurd (z.2.symm.trans (b2_0.mp (by omega))) (by decide)⟩) | exact Or.inr (Or.inr ⟨by omega, by omega⟩))
                      have n6 : (1 : Int) = bI (hasD s kx (nS k kv) false (fun B => kod (sU s) B < kod (sU s) A2)) := hs_up hsy hl16 hx h6 hq (by first | exact Or.inl ⟨rfl, Or.inl (by omega)⟩ | exact Or.inl ⟨rfl, Or.inr ⟨⟨hal, hI, q132⟩, b2_0.mp (by omega)⟩⟩ | exact Or.inr (Or.inl ⟨by omega, fun z => q132 z.1.2.2⟩) | exact Or.inr (Or.inl ⟨by omega, fun z => absurd (z.2.symm.trans (b2_ne.mp (by omega))) (by decide)⟩) | exact Or.inr (Or.inr ⟨by omega, by omega⟩))
                      show Ev g mX8_has 173 [some (vR (272)), some (vI (((kx : Nat) : Int))), some (vI (k)), some (vI (((kv : Nat) : Int))), some (vI (((nS k kv : Nat) : Int))), some (vI (1)), some (vI (1)), some (vI (1)), some (vI (0))] [vI (1)] (M0 (τ2)) 0 0 _
                      refine Ev.istore (pl' := [some (vR (272)), some (vI (((kx : Nat) : Int))), some (vI (k)), some (vI (((kv : Nat) : Int))), some (vI (((nS k kv : Nat) : Int))), some (vI (1)), some (vI (1)), some (vI (1)), some (vI (0))]) dX8_has_173 (Nat.le_of_ble_eq_true rfl) rfl ?_
                      refine Ev.goto (tgt := 83) dX8_has_175 (by decide) ?_
                      refine Ev.wk (pl' := [some (vR (272)), some (vI (((kx : Nat) : Int))), some (vI (k)), some (vI (((kv : Nat) : Int))), some (vI (((nS k kv : Nat) : Int))), some (vI (1)), some (vI (1)), some (vI (1)), none]) ⟨rfl, ⟨rfl, ⟨rfl, ⟨rfl, ⟨rfl, ⟨rfl, ⟨rfl, ⟨rfl, trivial⟩⟩⟩⟩⟩⟩⟩⟩ ?_
                      exact ih (K + 1) (by omega) τ2 A2 1 1 (hM1.scr (S297 hF2)) (fun c h => ((S297 hF2).lo c h).trans (hk0 c h)) (hX.same hF2 (by decide)) hI2 hA2 (by omega) n5 n6
                    · skip
                      have hq : ∀ B, ansP s (sX s) B → (kod (sU s) B ≤ kod (sU s) A ↔ kod (sU s) B ≤ kod (sU s) A) := fun B z => Iff.rfl
                      have n5 : (1 : Int) = bI (hasD s kx (nS k kv) true (fun B => kod (sU s) B ≤ kod (sU s) A)) := hs_up hsy hl16 hx h5 hq (by first | exact Or.inl ⟨rfl, Or.inl (by omega)⟩ | exact Or.inl ⟨rfl, Or.inr ⟨⟨hal, hI, q132⟩, b2_ne.mp (by omega)⟩⟩ | exact Or.inr (Or.inl ⟨by omega, fun z => q132 z.1.2.2⟩) | exact Or.inr (Or.inl ⟨by omega, fun z => absurd (z.2.symm.trans (b2_0.mp (by omega))) (by decide)⟩) | exact Or.inr (Or.inr ⟨by omega, by omega⟩))
                      have n6 : (1 : Int) = bI (hasD s kx (nS k kv) false (fun B => kod (sU s) B ≤ kod (sU s) A)) := hs_up hsy hl16 hx h6 hq (by first | exact Or.inl ⟨rfl, Or.inl (by omega)⟩ | exact Or.inl ⟨rfl, Or.inr ⟨⟨hal, hI, q132⟩, b2_0.mp (by omega)⟩⟩ | exact Or.inr (Or.inl ⟨by omega, fun z => q132 z.1.2.2⟩) | exact Or.inr (Or.inl ⟨by omega, fun z => absurd (z.2.symm.trans (b2_ne.mp (by omega))) (by decide)⟩) | exact Or.inr (Or.inr ⟨by omega, by omega⟩))
                      rw [hs_all (s := s) (fun B z => hz2 B z.2.1)] at n5 n6
                      have hM1 := hM1.scr (S297 hF2)
                      have hk0 := fun c (h : c < 272) => ((S297 hF2).lo c h).trans (hk0 c h)
                      show Ev g mX8_has 173 [some (vR (272)), some (vI (((kx : Nat) : Int))), some (vI (k)), some (vI (((kv : Nat) : Int))), some (vI (((nS k kv : Nat) : Int))), some (vI (1)), some (vI (1)), some (vI (1)), some (vI (0))] [vI (0)] (M0 (τ2)) 0 0 _
                      refine Ev.istore (pl' := [some (vR (272)), some (vI (((kx : Nat) : Int))), some (vI (k)), some (vI (((kv : Nat) : Int))), some (vI (((nS k kv : Nat) : Int))), some (vI (1)), some (vI (1)), some (vI (0)), some (vI (0))]) dX8_has_173 (Nat.le_of_ble_eq_true rfl) rfl ?_
                      refine Ev.goto (tgt := 83) dX8_has_175 (by decide) ?_
                      refine Ev.iload dX8_has_83 rfl ?_
                      refine Ev.if_eq (tgt := 178) ⟨by decide, by decide⟩ dX8_has_85 (by decide) (fun h85 => ?_) (fun h85 => ?_)
                      · skip
                        refine Ev.wk (pl' := [some (vR (272)), some (vI (((kx : Nat) : Int))), some (vI (k)), some (vI (((kv : Nat) : Int))), some (vI (((nS k kv : Nat) : Int))), some (vI (1)), some (vI (1)), none, none]) ⟨rfl, ⟨rfl, ⟨rfl, ⟨rfl, ⟨rfl, ⟨rfl, ⟨rfl, trivial⟩⟩⟩⟩⟩⟩⟩ ?_
                        exact r_has_x s σ τ2 hM1 hk0 hfar kx hx k h_k kv hkv 1 1 n5 n6
                      · exact absurd h85 (by decide)
              · skip
                refine Ev.iload dX8_has_140 rfl ?_
                refine Ev.if_eq (tgt := 149) ⟨by decide, by decide⟩ dX8_has_142 (by decide) (fun h142 => ?_) (fun h142 => ?_)
                · skip
                  refine Ev.iconst dX8_has_149 ?_
                  refine Ev.istore (pl' := [some (vR (272)), some (vI (((kx : Nat) : Int))), some (vI (k)), some (vI (((kv : Nat) : Int))), some (vI (((nS k kv : Nat) : Int))), some (vI (0)), some (vI (b6)), some (vI (1)), some (vI (0))]) dX8_has_150 (Nat.le_of_ble_eq_true rfl) rfl ?_
                  refine Ev.iload dX8_has_152 rfl ?_
                  refine Ev.if_ne (tgt := 162) ⟨by omega, by omega⟩ dX8_has_154 (by decide) (fun h154 => ?_) (fun h154 => ?_)
                  · skip
                    refine Ev.iconst dX8_has_162 ?_
                    refine Ev.goto (tgt := 167) dX8_has_163 (by decide) ?_
                    refine Ev.istore (pl' := [some (vR (272)), some (vI (((kx : Nat) : Int))), some (vI (k)), some (vI (((kv : Nat) : Int))), some (vI (((nS k kv : Nat) : Int))), some (vI (0)), some (vI (1)), some (vI (1)), some (vI (0))]) dX8_has_167 (Nat.le_of_ble_eq_true rfl) rfl ?_
                    refine Ev.aload_n dX8_has_169 rfl rfl ?_
                    refine Ev.callV_G (M2 := mX8_goesOn) (args2 := []) (rcv := 272) (q := (RX8, TX8, 34)) (ci := 8) dX8_has_170 okX8_goesOn lk_X8_266 ovX8_goesOn.1.1 ovX8_goesOn.1.2 ovX8_goesOn.2 (by decide) rfl rfl ltc_272 shc_272 rfl (Nat.le_of_ble_eq_true rfl) (Nat.le_of_ble_eq_true rfl) (sM_goesOn τ (sU s) hU hu1.2.1 (NX s (sX s)) hX.az hX.ne A hI hA) (fun v_ m_ hp_ => ?_) rfl
                    obtain ⟨v9, τ2, rfl, rfl, hF2, hvv⟩ := hp_
                    rcases hvv with ⟨rfl, A2, hI2, hA2, hk2, hb2⟩ | ⟨rfl, hz2⟩
                    · skip
                      have hq : ∀ B, ansP s (sX s) B → (kod (sU s) B < kod (sU s) A2 ↔ kod (sU s) B ≤ kod (sU s) A) := fun B z => ⟨hb2 B z.2.1, fun y => by omega⟩
                      have n5 : (0 : Int) = bI (hasD s kx (nS k kv) true (fun B => kod (sU s) B < kod (sU s) A2)) := hs_up hsy hl16 hx h5 hq (by first | exact Or.inl ⟨rfl, Or.inl (by omega)⟩ | exact Or.inl ⟨rfl, Or.inr ⟨⟨hal, hI, q132⟩, b2_ne.mp (by omega)⟩⟩ | exact Or.inr (Or.inl ⟨by omega, fun z => q132 z.1.2.2⟩) | exact Or.inr (Or.inl ⟨by omega, fun z => absurd (z.2.symm.trans (b2_0.mp (by omega))) (by decide)⟩) | exact Or.inr (Or.inr ⟨by omega, by omega⟩))
                      have n6 : (1 : Int) = bI (hasD s kx (nS k kv) false (fun B => kod (sU s) B < kod (sU s) A2)) := hs_up hsy hl16 hx h6 hq (by first | exact Or.inl ⟨rfl, Or.inl (by omega)⟩ | exact Or.inl ⟨rfl, Or.inr ⟨⟨hal, hI, q132⟩, b2_0.mp (by omega)⟩⟩ | exact Or.inr (Or.inl ⟨by omega, fun z => q132 z.1.2.2⟩) | exact Or.inr (Or.inl ⟨by omega, fun z => absurd (z.2.symm.trans (b2_ne.mp (by omega))) (by decide)⟩) | exact Or.inr (Or.inr ⟨by omega, by omega⟩))
                      show Ev g mX8_has 173 [some (vR (272)), some (vI (((kx : Nat) : Int))), some (vI (k)), some (vI (((kv : Nat) : Int))), some (vI (((nS k kv : Nat) : Int))), some (vI (0)), some (vI (1)), some (vI (1)), some (vI (0))] [vI (1)] (M0 (τ2)) 0 0 _
                      refine Ev.istore (pl' := [some (vR (272)), some (vI (((kx : Nat) : Int))), some (vI (k)), some (vI (((kv : Nat) : Int))), some (vI (((nS k kv : Nat) : Int))), some (vI (0)), some (vI (1)), some (vI (1)), some (vI (0))]) dX8_has_173 (Nat.le_of_ble_eq_true rfl) rfl ?_
                      refine Ev.goto (tgt := 83) dX8_has_175 (by decide) ?_
                      refine Ev.wk (pl' := [some (vR (272)), some (vI (((kx : Nat) : Int))), some (vI (k)), some (vI (((kv : Nat) : Int))), some (vI (((nS k kv : Nat) : Int))), some (vI (0)), some (vI (1)), some (vI (1)), none]) ⟨rfl, ⟨rfl, ⟨rfl, ⟨rfl, ⟨rfl, ⟨rfl, ⟨rfl, ⟨rfl, trivial⟩⟩⟩⟩⟩⟩⟩⟩ ?_
                      exact ih (K + 1) (by omega) τ2 A2 0 1 (hM1.scr (S297 hF2)) (fun c h => ((S297 hF2).lo c h).trans (hk0 c h)) (hX.same hF2 (by decide)) hI2 hA2 (by omega) n5 n6
                    · skip
                      have hq : ∀ B, ansP s (sX s) B → (kod (sU s) B ≤ kod (sU s) A ↔ kod (sU s) B ≤ kod (sU s) A) := fun B z => Iff.rfl
                      have n5 : (0 : Int) = bI (hasD s kx (nS k kv) true (fun B => kod (sU s) B ≤ kod (sU s) A)) := hs_up hsy hl16 hx h5 hq (by first | exact Or.inl ⟨rfl, Or.inl (by omega)⟩ | exact Or.inl ⟨rfl, Or.inr ⟨⟨hal, hI, q132⟩, b2_ne.mp (by omega)⟩⟩ | exact Or.inr (Or.inl ⟨by omega, fun z => q132 z.1.2.2⟩) | exact Or.inr (Or.inl ⟨by omega, fun z => absurd (z.2.symm.trans (b2_0.mp (by omega))) (by decide)⟩) | exact Or.inr (Or.inr ⟨by omega, by omega⟩))
                      have n6 : (1 : Int) = bI (hasD s kx (nS k kv) false (fun B => kod (sU s) B ≤ kod (sU s) A)) := hs_up hsy hl16 hx h6 hq (by first | exact Or.inl ⟨rfl, Or.inl (by omega)⟩ | exact Or.inl ⟨rfl, Or.inr ⟨⟨hal, hI, q132⟩, b2_0.mp (by omega)⟩⟩ | exact Or.inr (Or.inl ⟨by omega, fun z => q132 z.1.2.2⟩) | exact Or.inr (Or.inl ⟨by omega, fun z => absurd (z.2.symm.trans (b2_ne.mp (by omega))) (by decide)⟩) | exact Or.inr (Or.inr ⟨by omega, by omega⟩))
                      rw [hs_all (s := s) (fun B z => hz2 B z.2.1)] at n5 n6
                      have hM1 := hM1.scr (S297 hF2)
                      have hk0 := fun c (h : c < 272) => ((S297 hF2).lo c h).trans (hk0 c h)
                      show Ev g mX8_has 173 [some (vR (272)), some (vI (((kx : Nat) : Int))), some (vI (k)), some (vI (((kv : Nat) : Int))), some (vI (((nS k kv : Nat) : Int))), some (vI (0)), some (vI (1)), some (vI (1)), some (vI (0))] [vI (0)] (M0 (τ2)) 0 0 _
                      refine Ev.istore (pl' := [some (vR (272)), some (vI (((kx : Nat) : Int))), some (vI (k)), some (vI (((kv : Nat) : Int))), some (vI (((nS k kv : Nat) : Int))), some (vI (0)), some (vI (1)), some (vI (0)), some (vI (0))]) dX8_has_173 (Nat.le_of_ble_eq_true rfl) rfl ?_
                      refine Ev.goto (tgt := 83) dX8_has_175 (by decide) ?_
                      refine Ev.iload dX8_has_83 rfl ?_
                      refine Ev.if_eq (tgt := 178) ⟨by decide, by decide⟩ dX8_has_85 (by decide) (fun h85 => ?_) (fun h85 => ?_)
                      · skip
                        refine Ev.wk (pl' := [some (vR (272)), some (vI (((kx : Nat) : Int))), some (vI (k)), some (vI (((kv : Nat) : Int))), some (vI (((nS k kv : Nat) : Int))), some (vI (0)), some (vI (1)), none, none]) ⟨rfl, ⟨rfl, ⟨rfl, ⟨rfl, ⟨rfl, ⟨rfl, ⟨rfl, trivial⟩⟩⟩⟩⟩⟩⟩ ?_
                        exact r_has_x s σ τ2 hM1 hk0 hfar kx hx k h_k kv hkv 0 1 n5 n6
                      · exact absurd h85 (by decide)
                  · skip
                    refine Ev.iload dX8_has_157 rfl ?_
                    refine Ev.if_ne (tgt := 166) ⟨by decide, by decide⟩ dX8_has_159 (by decide) (fun h159 => ?_) (fun h159 => ?_)
                    · exact absurd h159 (by decide)
                    · skip
                      refine Ev.iconst dX8_has_162 ?_
                      refine Ev.goto (tgt := 167) dX8_has_163 (by decide) ?_
                      refine Ev.istore (pl' := [some (vR (272)), some (vI (((kx : Nat) : Int))), some (vI (k)), some (vI (((kv : Nat) : Int))), some (vI (((nS k kv : Nat) : Int))), some (vI (0)), some (vI (1)), some (vI (1)), some (vI (0))]) dX8_has_167 (Nat.le_of_ble_eq_true rfl) rfl ?_
                      refine Ev.aload_n dX8_has_169 rfl rfl ?_
                      refine Ev.callV_G (M2 := mX8_goesOn) (args2 := []) (rcv := 272) (q := (RX8, TX8, 34)) (ci := 8) dX8_has_170 okX8_goesOn lk_X8_266 ovX8_goesOn.1.1 ovX8_goesOn.1.2 ovX8_goesOn.2 (by decide) rfl rfl ltc_272 shc_272 rfl (Nat.le_of_ble_eq_true rfl) (Nat.le_of_ble_eq_true rfl) (sM_goesOn τ (sU s) hU hu1.2.1 (NX s (sX s)) hX.az hX.ne A hI hA) (fun v_ m_ hp_ => ?_) rfl
                      obtain ⟨v9, τ2, rfl, rfl, hF2, hvv⟩ := hp_
                      rcases hvv with ⟨rfl, A2, hI2, hA2, hk2, hb2⟩ | ⟨rfl, hz2⟩
                      · skip
                        have hq : ∀ B, ansP s (sX s) B → (kod (sU s) B < kod (sU s) A2 ↔ kod (sU s) B ≤ kod (sU s) A) := fun B z => ⟨hb2 B z.2.1, fun y => by omega⟩
                        have n5 : (0 : Int) = bI (hasD s kx (nS k kv) true (fun B => kod (sU s) B < kod (sU s) A2)) := hs_up hsy hl16 hx h5 hq (by first | exact Or.inl ⟨rfl, Or.inl (by omega)⟩ | exact Or.inl ⟨rfl, Or.inr ⟨⟨hal, hI, q132⟩, b2_ne.mp (by omega)⟩⟩ | exact Or.inr (Or.inl ⟨by omega, fun z => q132 z.1.2.2⟩) | exact Or.inr (Or.inl ⟨by omega, fun z => absurd (z.2.symm.trans (b2_0.mp (by omega))) (by decide)⟩) | exact Or.inr (Or.inr ⟨by omega, by omega⟩))
                        have n6 : (1 : Int) = bI (hasD s kx (nS k kv) false (fun B => kod (sU s) B < kod (sU s) A2)) := hs_up hsy hl16 hx h6 hq (by first | exact Or.inl ⟨rfl, Or.inl (by omega)⟩ | exact Or.inl ⟨rfl, Or.inr ⟨⟨hal, hI, q132⟩, b2_0.mp (by omega)⟩⟩ | exact Or.inr (Or.inl ⟨by omega, fun z => q132 z.1.2.2⟩) | exact Or.inr (Or.inl ⟨by omega, fun z => absurd (z.2.symm.trans (b2_ne.mp (by omega))) (by decide)⟩) | exact Or.inr (Or.inr ⟨by omega, by omega⟩))
                        show Ev g mX8_has 173 [some (vR (272)), some (vI (((kx : Nat) : Int))), some (vI (k)), some (vI (((kv : Nat) : Int))), some (vI (((nS k kv : Nat) : Int))), some (vI (0)), some (vI (1)), some (vI (1)), some (vI (0))] [vI (1)] (M0 (τ2)) 0 0 _
                        refine Ev.istore (pl' := [some (vR (272)), some (vI (((kx : Nat) : Int))), some (vI (k)), some (vI (((kv : Nat) : Int))), some (vI (((nS k kv : Nat) : Int))), some (vI (0)), some (vI (1)), some (vI (1)), some (vI (0))]) dX8_has_173 (Nat.le_of_ble_eq_true rfl) rfl ?_
                        refine Ev.goto (tgt := 83) dX8_has_175 (by decide) ?_
                        refine Ev.wk (pl' := [some (vR (272)), some (vI (((kx : Nat) : Int))), some (vI (k)), some (vI (((kv : Nat) : Int))), some (vI (((nS k kv : Nat) : Int))), some (vI (0)), some (vI (1)), some (vI (1)), none]) ⟨rfl, ⟨rfl, ⟨rfl, ⟨rfl, ⟨rfl, ⟨rfl, ⟨rfl, ⟨rfl, trivial⟩⟩⟩⟩⟩⟩⟩⟩ ?_
                        exact ih (K + 1) (by omega) τ2 A2 0 1 (hM1.scr (S297 hF2)) (fun c h => ((S297 hF2).lo c h).trans (hk0 c h)) (hX.same hF2 (by decide)) hI2 hA2 (by omega) n5 n6
                      · skip
                        have hq : ∀ B, ansP s (sX s) B → (kod (sU s) B ≤ kod (sU s) A ↔ kod (sU s) B ≤ kod (sU s) A) := fun B z => Iff.rfl
                        have n5 : (0 : Int) = bI (hasD s kx (nS k kv) true (fun B => kod (sU s) B ≤ kod (sU s) A)) := hs_up hsy hl16 hx h5 hq (by first | exact Or.inl ⟨rfl, Or.inl (by omega)⟩ | exact Or.inl ⟨rfl, Or.inr ⟨⟨hal, hI, q132⟩, b2_ne.mp (by omega)⟩⟩ | exact Or.inr (Or.inl ⟨by omega, fun z => q132 z.1.2.2⟩) | exact Or.inr (Or.inl ⟨by omega, fun z => absurd (z.2.symm.trans (b2_0.mp (by omega))) (by decide)⟩) | exact Or.inr (Or.inr ⟨by omega, by omega⟩))
                        have n6 : (1 : Int) = bI (hasD s kx (nS k kv) false (fun B => kod (sU s) B ≤ kod (sU s) A)) := hs_up hsy hl16 hx h6 hq (by first | exact Or.inl ⟨rfl, Or.inl (by omega)⟩ | exact Or.inl ⟨rfl, Or.inr ⟨⟨hal, hI, q132⟩, b2_0.mp (by omega)⟩⟩ | exact Or.inr (Or.inl ⟨by omega, fun z => q132 z.1.2.2⟩) | exact Or.inr (Or.inl ⟨by omega, fun z => absurd (z.2.symm.trans (b2_ne.mp (by omega))) (by decide)⟩) | exact Or.inr (Or.inr ⟨by omega, by omega⟩))
                        rw [hs_all (s := s) (fun B z => hz2 B z.2.1)] at n5 n6
                        have hM1 := hM1.scr (S297 hF2)
                        have hk0 := fun c (h : c < 272) => ((S297 hF2).lo c h).trans (hk0 c h)
                        show Ev g mX8_has 173 [some (vR (272)), some (vI (((kx : Nat) : Int))), some (vI (k)), some (vI (((kv : Nat) : Int))), some (vI (((nS k kv : Nat) : Int))), some (vI (0)), some (vI (1)), some (vI (1)), some (vI (0))] [vI (0)] (M0 (τ2)) 0 0 _
                        refine Ev.istore (pl' := [some (vR (272)), some (vI (((kx : Nat) : Int))), some (vI (k)), some (vI (((kv : Nat) : Int))), some (vI (((nS k kv : Nat) : Int))), some (vI (0)), some (vI (1)), some (vI (0)), some (vI (0))]) dX8_has_173 (Nat.le_of_ble_eq_true rfl) rfl ?_
                        refine Ev.goto (tgt := 83) dX8_has_175 (by decide) ?_
                        refine Ev.iload dX8_has_83 rfl ?_
                        refine Ev.if_eq (tgt := 178) ⟨by decide, by decide⟩ dX8_has_85 (by decide) (fun h85 => ?_) (fun h85 => ?_)
                        · skip
                          refine Ev.wk (pl' := [some (vR (272)), some (vI (((kx : Nat) : Int))), some (vI (k)), some (vI (((kv : Nat) : Int))), some (vI (((nS k kv : Nat) : Int))), some (vI (0)), some (vI (1)), none, none]) ⟨rfl, ⟨rfl, ⟨rfl, ⟨rfl, ⟨rfl, ⟨rfl, ⟨rfl, trivial⟩⟩⟩⟩⟩⟩⟩ ?_
                          exact r_has_x s σ τ2 hM1 hk0 hfar kx hx k h_k kv hkv 0 1 n5 n6
                        · exact absurd h85 (by decide)
                · exact absurd h142 (by decide)
        · exact absurd h112 (by decide)
      · skip
        refine Ev.iconst dX8_has_103 ?_
        refine Ev.goto (tgt := 108) dX8_has_104 (by decide) ?_
        refine Ev.istore (pl' := [some (vR (272)), some (vI (((kx : Nat) : Int))), some (vI (k)), some (vI (((kv : Nat) : Int))), some (vI (((nS k kv : Nat) : Int))), some (vI (b5)), some (vI (b6)), some (vI (1)), some (vI (1))]) dX8_has_108 (Nat.le_of_ble_eq_true rfl) rfl ?_
        refine Ev.iload dX8_has_110 rfl ?_
        refine Ev.if_eq (tgt := 123) ⟨by decide, by decide⟩ dX8_has_112 (by decide) (fun h112 => ?_) (fun h112 => ?_)
        · exact absurd h112 (by decide)
        · skip
          refine Ev.iload dX8_has_115 rfl ?_
          refine Ev.if_ne (tgt := 169) ⟨by omega, by omega⟩ dX8_has_117 (by decide) (fun h117 => ?_) (fun h117 => ?_)
          · skip
            refine Ev.aload_n dX8_has_169 rfl rfl ?_
            refine Ev.callV_G (M2 := mX8_goesOn) (args2 := []) (rcv := 272) (q := (RX8, TX8, 34)) (ci := 8) dX8_has_170 okX8_goesOn lk_X8_266 ovX8_goesOn.1.1 ovX8_goesOn.1.2 ovX8_goesOn.2 (by decide) rfl rfl ltc_272 shc_272 rfl (Nat.le_of_ble_eq_true rfl) (Nat.le_of_ble_eq_true rfl) (sM_goesOn τ (sU s) hU hu1.2.1 (NX s (sX s)) hX.az hX.ne A hI hA) (fun v_ m_ hp_ => ?_) rfl
            obtain ⟨v9, τ2, rfl, rfl, hF2, hvv⟩ := hp_
            rcases hvv with ⟨rfl, A2, hI2, hA2, hk2, hb2⟩ | ⟨rfl, hz2⟩
            · skip
              have hq : ∀ B, ansP s (sX s) B → (kod (sU s) B < kod (sU s) A2 ↔ kod (sU s) B ≤ kod (sU s) A) := fun B z => ⟨hb2 B z.2.1, fun y => by omega⟩
              have n5 : (b5 : Int) = bI (hasD s kx (nS k kv) true (fun B => kod (sU s) B < kod (sU s) A2)) := hs_up hsy hl16 hx h5 hq (by first | exact Or.inl ⟨rfl, Or.inl (by omega)⟩ | exact Or.inl ⟨rfl, Or.inr ⟨⟨hal, hI, q132⟩, b2_ne.mp (by omega)⟩⟩ | exact Or.inr (Or.inl ⟨by omega, fun z => q132 z.1.2.2⟩) | exact Or.inr (Or.inl ⟨by omega, fun z => absurd (z.2.symm.trans (b2_0.mp (by omega))) (by decide)⟩) | exact Or.inr (Or.inr ⟨by omega, by omega⟩))
              have n6 : (b6 : Int) = bI (hasD s kx (nS k kv) false (fun B => kod (sU s) B < kod (sU s) A2)) := hs_up hsy hl16 hx h6 hq (by first | exact Or.inl ⟨rfl, Or.inl (by omega)⟩ | exact Or.inl ⟨rfl, Or.inr ⟨⟨hal, hI, q132⟩, b2_0.mp (by omega)⟩⟩ | exact Or.inr (Or.inl ⟨by omega, fun z => q132 z.1.2.2⟩) | exact Or.inr (Or.inl ⟨by omega, fun z => absurd (z.2.symm.trans (b2_ne.mp (by omega))) (by decide)⟩) | exact Or.inr (Or.inr ⟨by omega, by omega⟩))
              show Ev g mX8_has 173 [some (vR (272)), some (vI (((kx : Nat) : Int))), some (vI (k)), some (vI (((kv : Nat) : Int))), some (vI (((nS k kv : Nat) : Int))), some (vI (b5)), some (vI (b6)), some (vI (1)), some (vI (1))] [vI (1)] (M0 (τ2)) 0 0 _
              refine Ev.istore (pl' := [some (vR (272)), some (vI (((kx : Nat) : Int))), some (vI (k)), some (vI (((kv : Nat) : Int))), some (vI (((nS k kv : Nat) : Int))), some (vI (b5)), some (vI (b6)), some (vI (1)), some (vI (1))]) dX8_has_173 (Nat.le_of_ble_eq_true rfl) rfl ?_
              refine Ev.goto (tgt := 83) dX8_has_175 (by decide) ?_
              refine Ev.wk (pl' := [some (vR (272)), some (vI (((kx : Nat) : Int))), some (vI (k)), some (vI (((kv : Nat) : Int))), some (vI (((nS k kv : Nat) : Int))), some (vI (b5)), some (vI (b6)), some (vI (1)), none]) ⟨rfl, ⟨rfl, ⟨rfl, ⟨rfl, ⟨rfl, ⟨rfl, ⟨rfl, ⟨rfl, trivial⟩⟩⟩⟩⟩⟩⟩⟩ ?_
              exact ih (K + 1) (by omega) τ2 A2 b5 b6 (hM1.scr (S297 hF2)) (fun c h => ((S297 hF2).lo c h).trans (hk0 c h)) (hX.same hF2 (by decide)) hI2 hA2 (by omega) n5 n6
            · skip
              have hq : ∀ B, ansP s (sX s) B → (kod (sU s) B ≤ kod (sU s) A ↔ kod (sU s) B ≤ kod (sU s) A) := fun B z => Iff.rfl
              have n5 : (b5 : Int) = bI (hasD s kx (nS k kv) true (fun B => kod (sU s) B ≤ kod (sU s) A)) := hs_up hsy hl16 hx h5 hq (by first | exact Or.inl ⟨rfl, Or.inl (by omega)⟩ | exact Or.inl ⟨rfl, Or.inr ⟨⟨hal, hI, q132⟩, b2_ne.mp (by omega)⟩⟩ | exact Or.inr (Or.inl ⟨by omega, fun z => q132 z.1.2.2⟩) | exact Or.inr (Or.inl ⟨by omega, fun z => absurd (z.2.symm.trans (b2_0.mp (by omega))) (by decide)⟩) | exact Or.inr (Or.inr ⟨by omega, by omega⟩))
              have n6 : (b6 : Int) = bI (hasD s kx (nS k kv) false (fun B => kod (sU s) B ≤ kod (sU s) A)) := hs_up hsy hl16 hx h6 hq (by first | exact Or.inl ⟨rfl, Or.inl (by omega)⟩ | exact Or.inl ⟨rfl, Or.inr ⟨⟨hal, hI, q132⟩, b2_0.mp (by omega)⟩⟩ | exact Or.inr (Or.inl ⟨by omega, fun z => q132 z.1.2.2⟩) | exact Or.inr (Or.inl ⟨by omega, fun z => absurd (z.2.symm.trans (b2_ne.mp (by omega))) (by decide)⟩) | exact Or.inr (Or.inr ⟨by omega, by omega⟩))
              rw [hs_all (s := s) (fun B z => hz2 B z.2.1)] at n5 n6
              have hM1 := hM1.scr (S297 hF2)
              have hk0 := fun c (h : c < 272) => ((S297 hF2).lo c h).trans (hk0 c h)
              show Ev g mX8_has 173 [some (vR (272)), some (vI (((kx : Nat) : Int))), some (vI (k)), some (vI (((kv : Nat) : Int))), some (vI (((nS k kv : Nat) : Int))), some (vI (b5)), some (vI (b6)), some (vI (1)), some (vI (1))] [vI (0)] (M0 (τ2)) 0 0 _
              refine Ev.istore (pl' := [some (vR (272)), some (vI (((kx : Nat) : Int))), some (vI (k)), some (vI (((kv : Nat) : Int))), some (vI (((nS k kv : Nat) : Int))), some (vI (b5)), some (vI (b6)), some (vI (0)), some (vI (1))]) dX8_has_173 (Nat.le_of_ble_eq_true rfl) rfl ?_
              refine Ev.goto (tgt := 83) dX8_has_175 (by decide) ?_
              refine Ev.iload dX8_has_83 rfl ?_
              refine Ev.if_eq (tgt := 178) ⟨by decide, by decide⟩ dX8_has_85 (by decide) (fun h85 => ?_) (fun h85 => ?_)
              · skip
                refine Ev.wk (pl' := [some (vR (272)), some (vI (((kx : Nat) : Int))), some (vI (k)), some (vI (((kv : Nat) : Int))), some (vI (((nS k kv : Nat) : Int))), some (vI (b5)), some (vI (b6)), none, none]) ⟨rfl, ⟨rfl, ⟨rfl, ⟨rfl, ⟨rfl, ⟨rfl, ⟨rfl, trivial⟩⟩⟩⟩⟩⟩⟩ ?_
                exact r_has_x s σ τ2 hM1 hk0 hfar kx hx k h_k kv hkv b5 b6 n5 n6
              · exact absurd h85 (by decide)
          · skip
            refine Ev.goto (tgt := 128) dX8_has_120 (by decide) ?_
            refine Ev.aload_n dX8_has_128 rfl rfl ?_
            refine Ev.callV_I (M2 := mX8_fitsAll) (args2 := []) (rcv := 272) (q := (RX8, TX8, 34)) (ci := 8) dX8_has_129 okX8_fitsAll lk_X8_260 ovX8_fitsAll.1.1 ovX8_fitsAll.1.2 ovX8_fitsAll.2 (by decide) rfl rfl ltc_272 shc_272 rfl (Nat.le_of_ble_eq_true rfl) (Nat.le_of_ble_eq_true rfl) (sM_fitsAll τ (sU s) (sN s) hN hu2.2.1 (sB s) hu3 (sR s) (sW s) hu2.2.2.1 (fun r hr => ⟨(hu2.2.2.2 r hr).1, (hu2.2.2.2 r hr).2.1⟩) (fun r hr => (hu2.2.2.2 r hr).2.2) A (fun x hx => ⟨hA x hx, hl16 x hx⟩)) ?_ rfl
            refine Ev.if_eq (tgt := 169) bI_inR dX8_has_132 (by decide) (fun h132 => ?_) (fun h132 => ?_)
            · skip
              have q132 := bI_0.mp h132
              refine Ev.aload_n dX8_has_169 rfl rfl ?_
              refine Ev.callV_G (M2 := mX8_goesOn) (args2 := []) (rcv := 272) (q := (RX8, TX8, 34)) (ci := 8) dX8_has_170 okX8_goesOn lk_X8_266 ovX8_goesOn.1.1 ovX8_goesOn.1.2 ovX8_goesOn.2 (by decide) rfl rfl ltc_272 shc_272 rfl (Nat.le_of_ble_eq_true rfl) (Nat.le_of_ble_eq_true rfl) (sM_goesOn τ (sU s) hU hu1.2.1 (NX s (sX s)) hX.az hX.ne A hI hA) (fun v_ m_ hp_ => ?_) rfl
              obtain ⟨v9, τ2, rfl, rfl, hF2, hvv⟩ := hp_
              rcases hvv with ⟨rfl, A2, hI2, hA2, hk2, hb2⟩ | ⟨rfl, hz2⟩
              · skip
                have hq : ∀ B, ansP s (sX s) B → (kod (sU s) B < kod (sU s) A2 ↔ kod (sU s) B ≤ kod (sU s) A) := fun B z => ⟨hb2 B z.2.1, fun y => by omega⟩
                have n5 : (b5 : Int) = bI (hasD s kx (nS k kv) true (fun B => kod (sU s) B < kod (sU s) A2)) := hs_up hsy hl16 hx h5 hq (by first | exact Or.inl ⟨rfl, Or.inl (by omega)⟩ | exact Or.inl ⟨rfl, Or.inr ⟨⟨hal, hI, q132⟩, b2_ne.mp (by omega)⟩⟩ | exact Or.inr (Or.inl ⟨by omega, fun z => q132 z.1.2.2⟩) | exact Or.inr (Or.inl ⟨by omega, fun z => absurd (z.2.symm.trans (b2_0.mp (by omega))) (by decide)⟩) | exact Or.inr (Or.inr ⟨by omega, by omega⟩))
                have n6 : (b6 : Int) = bI (hasD s kx (nS k kv) false (fun B => kod (sU s) B < kod (sU s) A2)) := hs_up hsy hl16 hx h6 hq (by first | exact Or.inl ⟨rfl, Or.inl (by omega)⟩ | exact Or.inl ⟨rfl, Or.inr ⟨⟨hal, hI, q132⟩, b2_0.mp (by omega)⟩⟩ | exact Or.inr (Or.inl ⟨by omega, fun z => q132 z.1.2.2⟩) | exact Or.inr (Or.inl ⟨by omega, fun z => absurd (z.2.symm.trans (b2_ne.mp (by omega))) (by decide)⟩) | exact Or.inr (Or.inr ⟨by omega, by omega⟩))
                show Ev g mX8_has 173 [some (vR (272)), some (vI (((kx : Nat) : Int))), some (vI (k)), some (vI (((kv : Nat) : Int))), some (vI (((nS k kv : Nat) : Int))), some (vI (b5)), some (vI (b6)), some (vI (1)), some (vI (1))] [vI (1)] (M0 (τ2)) 0 0 _
                refine Ev.istore (pl' := [some (vR (272)), some (vI (((kx : Nat) : Int))), some (vI (k)), some (vI (((kv : Nat) : Int))), some (vI (((nS k kv : Nat) : Int))), some (vI (b5)), some (vI (b6)), some (vI (1)), some (vI (1))]) dX8_has_173 (Nat.le_of_ble_eq_true rfl) rfl ?_
                refine Ev.goto (tgt := 83) dX8_has_175 (by decide) ?_
                refine Ev.wk (pl' := [some (vR (272)), some (vI (((kx : Nat) : Int))), some (vI (k)), some (vI (((kv : Nat) : Int))), some (vI (((nS k kv : Nat) : Int))), some (vI (b5)), some (vI (b6)), some (vI (1)), none]) ⟨rfl, ⟨rfl, ⟨rfl, ⟨rfl, ⟨rfl, ⟨rfl, ⟨rfl, ⟨rfl, trivial⟩⟩⟩⟩⟩⟩⟩⟩ ?_
                exact ih (K + 1) (by omega) τ2 A2 b5 b6 (hM1.scr (S297 hF2)) (fun c h => ((S297 hF2).lo c h).trans (hk0 c h)) (hX.same hF2 (by decide)) hI2 hA2 (by omega) n5 n6
              · skip
                have hq : ∀ B, ansP s (sX s) B → (kod (sU s) B ≤ kod (sU s) A ↔ kod (sU s) B ≤ kod (sU s) A) := fun B z => Iff.rfl
                have n5 : (b5 : Int) = bI (hasD s kx (nS k kv) true (fun B => kod (sU s) B ≤ kod (sU s) A)) := hs_up hsy hl16 hx h5 hq (by first | exact Or.inl ⟨rfl, Or.inl (by omega)⟩ | exact Or.inl ⟨rfl, Or.inr ⟨⟨hal, hI, q132⟩, b2_ne.mp (by omega)⟩⟩ | exact Or.inr (Or.inl ⟨by omega, fun z => q132 z.1.2.2⟩) | exact Or.inr (Or.inl ⟨by omega, fun z => absurd (z.2.symm.trans (b2_0.mp (by omega))) (by decide)⟩) | exact Or.inr (Or.inr ⟨by omega, by omega⟩))
                have n6 : (b6 : Int) = bI (hasD s kx (nS k kv) false (fun B => kod (sU s) B ≤ kod (sU s) A)) := hs_up hsy hl16 hx h6 hq (by first | exact Or.inl ⟨rfl, Or.inl (by omega)⟩ | exact Or.inl ⟨rfl, Or.inr ⟨⟨hal, hI, q132⟩, b2_0.mp (by omega)⟩⟩ | exact Or.inr (Or.inl ⟨by omega, fun z => q132 z.1.2.2⟩) | exact Or.inr (Or.inl ⟨by omega, fun z => absurd (z.2.symm.trans (b2_ne.mp (by omega))) (by decide)⟩) | exact Or.inr (Or.inr ⟨by omega, by omega⟩))
                rw [hs_all (s := s) (fun B z => hz2 B z.2.1)] at n5 n6
                have hM1 := hM1.scr (S297 hF2)
                have hk0 := fun c (h : c < 272) => ((S297 hF2).lo c h).trans (hk0 c h)
                show Ev g mX8_has 173 [some (vR (272)), some (vI (((kx : Nat) : Int))), some (vI (k)), some (vI (((kv : Nat) : Int))), some (vI (((nS k kv : Nat) : Int))), some (vI (b5)), some (vI (b6)), some (vI (1)), some (vI (1))] [vI (0)] (M0 (τ2)) 0 0 _
                refine Ev.istore (pl' := [some (vR (272)), some (vI (((kx : Nat) : Int))), some (vI (k)), some (vI (((kv : Nat) : Int))), some (vI (((nS k kv : Nat) : Int))), some (vI (b5)), some (vI (b6)), some (vI (0)), some (vI (1))]) dX8_has_173 (Nat.le_of_ble_eq_true rfl) rfl ?_
                refine Ev.goto (tgt := 83) dX8_has_175 (by decide) ?_
                refine Ev.iload dX8_has_83 rfl ?_
                refine Ev.if_eq (tgt := 178) ⟨by decide, by decide⟩ dX8_has_85 (by decide) (fun h85 => ?_) (fun h85 => ?_)
                · skip
                  refine Ev.wk (pl' := [some (vR (272)), some (vI (((kx : Nat) : Int))), some (vI (k)), some (vI (((kv : Nat) : Int))), some (vI (((nS k kv : Nat) : Int))), some (vI (b5)), some (vI (b6)), none, none]) ⟨rfl, ⟨rfl, ⟨rfl, ⟨rfl, ⟨rfl, ⟨rfl, ⟨rfl, trivial⟩⟩⟩⟩⟩⟩⟩ ?_
                  exact r_has_x s σ τ2 hM1 hk0 hfar kx hx k h_k kv hkv b5 b6 n5 n6
                · exact absurd h85 (by decide)
            · skip
              have q132 := bI_1.mp h132
              refine Ev.iload dX8_has_135 rfl ?_
              refine Ev.if_ne (tgt := 145) ⟨by omega, by omega⟩ dX8_has_137 (by decide) (fun h137 => ?_) (fun h137 => ?_)
              · skip
                refine Ev.iconst dX8_has_145 ?_
                refine Ev.goto (tgt := 150) dX8_has_146 (by decide) ?_
                refine Ev.istore (pl' := [some (vR (272)), some (vI (((kx : Nat) : Int))), some (vI (k)), some (vI (((kv : Nat) : Int))), some (vI (((nS k kv : Nat) : Int))), some (vI (1)), some (vI (b6)), some (vI (1)), some (vI (1))]) dX8_has_150 (Nat.le_of_ble_eq_true rfl) rfl ?_
                refine Ev.iload dX8_has_152 rfl ?_
                refine Ev.if_ne (tgt := 162) ⟨by omega, by omega⟩ dX8_has_154 (by decide) (fun h154 => ?_) (fun h154 => ?_)
                · skip
                  refine Ev.iconst dX8_has_162 ?_
                  refine Ev.goto (tgt := 167) dX8_has_163 (by decide) ?_
                  refine Ev.istore (pl' := [some (vR (272)), some (vI (((kx : Nat) : Int))), some (vI (k)), some (vI (((kv : Nat) : Int))), some (vI (((nS k kv : Nat) : Int))), some (vI (1)), some (vI (1)), some (vI (1)), some (vI (1))]) dX8_has_167 (Nat.le_of_ble_eq_true rfl) rfl ?_
                  refine Ev.aload_n dX8_has_169 rfl rfl ?_
                  refine Ev.callV_G (M2 := mX8_goesOn) (args2 := []) (rcv := 272) (q := (RX8, TX8, 34)) (ci := 8) dX8_has_170 okX8_goesOn lk_X8_266 ovX8_goesOn.1.1 ovX8_goesOn.1.2 ovX8_goesOn.2 (by decide) rfl rfl ltc_272 shc_272 rfl (Nat.le_of_ble_eq_true rfl) (Nat.le_of_ble_eq_true rfl) (sM_goesOn τ (sU s) hU hu1.2.1 (NX s (sX s)) hX.az hX.ne A hI hA) (fun v_ m_ hp_ => ?_) rfl
                  obtain ⟨v9, τ2, rfl, rfl, hF2, hvv⟩ := hp_
                  rcases hvv with ⟨rfl, A2, hI2, hA2, hk2, hb2⟩ | ⟨rfl, hz2⟩
                  · skip
                    have hq : ∀ B, ansP s (sX s) B → (kod (sU s) B < kod (sU s) A2 ↔ kod (sU s) B ≤ kod (sU s) A) := fun B z => ⟨hb2 B z.2.1, fun y => by omega⟩
                    have n5 : (1 : Int) = bI (hasD s kx (nS k kv) true (fun B => kod (sU s) B < kod (sU s) A2)) := hs_up hsy hl16 hx h5 hq (by first | exact Or.inl ⟨rfl, Or.inl (by omega)⟩ | exact Or.inl ⟨rfl, Or.inr ⟨⟨hal, hI, q132⟩, b2_ne.mp (by omega)⟩⟩ | exact Or.inr (Or.inl ⟨by omega, fun z => q132 z.1.2.2⟩) | exact Or.inr (Or.inl ⟨by omega, fun z => absurd (z.2.symm.trans (b2_0.mp (by omega))) (by decide)⟩) | exact Or.inr (Or.inr ⟨by omega, by omega⟩))
                    have n6 : (1 : Int) = bI (hasD s kx (nS k kv) false (fun B => kod (sU s) B < kod (sU s) A2)) := hs_up hsy hl16 hx h6 hq (by first | exact Or.inl ⟨rfl, Or.inl (by omega)⟩ | exact Or.inl ⟨rfl, Or.inr ⟨⟨hal, hI, q132⟩, b2_0.mp (by omega)⟩⟩ | exact Or.inr (Or.inl ⟨by omega, fun z => q132 z.1.2.2⟩) | exact Or.inr (Or.inl ⟨by omega, fun z => absurd (z.2.symm.trans (b2_ne.mp (by omega))) (by decide)⟩) | exact Or.inr (Or.inr ⟨by omega, by omega⟩))
                    show Ev g mX8_has 173 [some (vR (272)), some (vI (((kx : Nat) : Int))), some (vI (k)), some (vI (((kv : Nat) : Int))), some (vI (((nS k kv : Nat) : Int))), some (vI (1)), some (vI (1)), some (vI (1)), some (vI (1))] [vI (1)] (M0 (τ2)) 0 0 _
                    refine Ev.istore (pl' := [some (vR (272)), some (vI (((kx : Nat) : Int))), some (vI (k)), some (vI (((kv : Nat) : Int))), some (vI (((nS k kv : Nat) : Int))), some (vI (1)), some (vI (1)), some (vI (1)), some (vI (1))]) dX8_has_173 (Nat.le_of_ble_eq_true rfl) rfl ?_
                    refine Ev.goto (tgt := 83) dX8_has_175 (by decide) ?_
                    refine Ev.wk (pl' := [some (vR (272)), some (vI (((kx : Nat) : Int))), some (vI (k)), some (vI (((kv : Nat) : Int))), some (vI (((nS k kv : Nat) : Int))), some (vI (1)), some (vI (1)), some (vI (1)), none]) ⟨rfl, ⟨rfl, ⟨rfl, ⟨rfl, ⟨rfl, ⟨rfl, ⟨rfl, ⟨rfl, trivial⟩⟩⟩⟩⟩⟩⟩⟩ ?_
                    exact ih (K + 1) (by omega) τ2 A2 1 1 (hM1.scr (S297 hF2)) (fun c h => ((S297 hF2).lo c h).trans (hk0 c h)) (hX.same hF2 (by decide)) hI2 hA2 (by omega) n5 n6
                  · skip
                    have hq : ∀ B, ansP s (sX s) B → (kod (sU s) B ≤ kod (sU s) A ↔ kod (sU s) B ≤ kod (sU s) A) := fun B z => Iff.rfl
                    have n5 : (1 : Int) = bI (hasD s kx (nS k kv) true (fun B => kod (sU s) B ≤ kod (sU s) A)) := hs_up hsy hl16 hx h5 hq (by first | exact Or.inl ⟨rfl, Or.inl (by omega)⟩ | exact Or.inl ⟨rfl, Or.inr ⟨⟨hal, hI, q132⟩, b2_ne.mp (by omega)⟩⟩ | exact Or.inr (Or.inl ⟨by omega, fun z => q132 z.1.2.2⟩) | exact Or.inr (Or.inl ⟨by omega, fun z => absurd (z.2.symm.trans (b2_0.mp (by omega))) (by decide)⟩) | exact Or.inr (Or.inr ⟨by omega, by omega⟩))
                    have n6 : (1 : Int) = bI (hasD s kx (nS k kv) false (fun B => kod (sU s) B ≤ kod (sU s) A)) := hs_up hsy hl16 hx h6 hq (by first | exact Or.inl ⟨rfl, Or.inl (by omega)⟩ | exact Or.inl ⟨rfl, Or.inr ⟨⟨hal, hI, q132⟩, b2_0.mp (by omega)⟩⟩ | exact Or.inr (Or.inl ⟨by omega, fun z => q132 z.1.2.2⟩) | exact Or.inr (Or.inl ⟨by omega, fun z => absurd (z.2.symm.trans (b2_ne.mp (by omega))) (by decide)⟩) | exact Or.inr (Or.inr ⟨by omega, by omega⟩))
                    rw [hs_all (s := s) (fun B z => hz2 B z.2.1)] at n5 n6
                    have hM1 := hM1.scr (S297 hF2)
                    have hk0 := fun c (h : c < 272) => ((S297 hF2).lo c h).trans (hk0 c h)
                    show Ev g mX8_has 173 [some (vR (272)), some (vI (((kx : Nat) : Int))), some (vI (k)), some (vI (((kv : Nat) : Int))), some (vI (((nS k kv : Nat) : Int))), some (vI (1)), some (vI (1)), some (vI (1)), some (vI (1))] [vI (0)] (M0 (τ2)) 0 0 _
                    refine Ev.istore (pl' := [some (vR (272)), some (vI (((kx : Nat) : Int))), some (vI (k)), some (vI (((kv : Nat) : Int))), some (vI (((nS k kv : Nat) : Int))), some (vI (1)), some (vI (1)), some (vI (0)), some (vI (1))]) dX8_has_173 (Nat.le_of_ble_eq_true rfl) rfl ?_
                    refine Ev.goto (tgt := 83) dX8_has_175 (by decide) ?_
                    refine Ev.iload dX8_has_83 rfl ?_
                    refine Ev.if_eq (tgt := 178) ⟨by decide, by decide⟩ dX8_has_85 (by decide) (fun h85 => ?_) (fun h85 => ?_)
                    · skip
                      refine Ev.wk (pl' := [some (vR (272)), some (vI (((kx : Nat) : Int))), some (vI (k)), some (vI (((kv : Nat) : Int))), some (vI (((nS k kv : Nat) : Int))), some (vI (1)), some (vI (1)), none, none]) ⟨rfl, ⟨rfl, ⟨rfl, ⟨rfl, ⟨rfl, ⟨rfl, ⟨rfl, trivial⟩⟩⟩⟩⟩⟩⟩ ?_
                      exact r_has_x s σ τ2 hM1 hk0 hfar kx hx k h_k kv hkv 1 1 n5 n6
                    · exact absurd h85 (by decide)
                · skip
                  refine Ev.iload dX8_has_157 rfl ?_
                  refine Ev.if_ne (tgt := 166) ⟨by decide, by decide⟩ dX8_has_159 (by decide) (fun h159 => ?_) (fun h159 => ?_)
                  · skip
                    refine Ev.iconst dX8_has_166 ?_
                    refine Ev.istore (pl' := [some (vR (272)), some (vI (((kx : Nat) : Int))), some (vI (k)), some (vI (((kv : Nat) : Int))), some (vI (((nS k kv : Nat) : Int))), some (vI (1)), some (vI (0)), some (vI (1)), some (vI (1))]) dX8_has_167 (Nat.le_of_ble_eq_true rfl) rfl ?_
                    refine Ev.aload_n dX8_has_169 rfl rfl ?_
                    refine Ev.callV_G (M2 := mX8_goesOn) (args2 := []) (rcv := 272) (q := (RX8, TX8, 34)) (ci := 8) dX8_has_170 okX8_goesOn lk_X8_266 ovX8_goesOn.1.1 ovX8_goesOn.1.2 ovX8_goesOn.2 (by decide) rfl rfl ltc_272 shc_272 rfl (Nat.le_of_ble_eq_true rfl) (Nat.le_of_ble_eq_true rfl) (sM_goesOn τ (sU s) hU hu1.2.1 (NX s (sX s)) hX.az hX.ne A hI hA) (fun v_ m_ hp_ => ?_) rfl
                    obtain ⟨v9, τ2, rfl, rfl, hF2, hvv⟩ := hp_
                    rcases hvv with ⟨rfl, A2, hI2, hA2, hk2, hb2⟩ | ⟨rfl, hz2⟩
                    · skip
                      have hq : ∀ B, ansP s (sX s) B → (kod (sU s) B < kod (sU s) A2 ↔ kod (sU s) B ≤ kod (sU s) A) := fun B z => ⟨hb2 B z.2.1, fun y => by omega⟩
                      have n5 : (1 : Int) = bI (hasD s kx (nS k kv) true (fun B => kod (sU s) B < kod (sU s) A2)) := hs_up hsy hl16 hx h5 hq (by first | exact Or.inl ⟨rfl, Or.inl (by omega)⟩ | exact Or.inl ⟨rfl, Or.inr ⟨⟨hal, hI, q132⟩, b2_ne.mp (by omega)⟩⟩ | exact Or.inr (Or.inl ⟨by omega, fun z => q132 z.1.2.2⟩) | exact Or.inr (Or.inl ⟨by omega, fun z => absurd (z.2.symm.trans (b2_0.mp (by omega))) (by decide)⟩) | exact Or.inr (Or.inr ⟨by omega, by omega⟩))
                      have n6 : (0 : Int) = bI (hasD s kx (nS k kv) false (fun B => kod (sU s) B < kod (sU s) A2)) := hs_up hsy hl16 hx h6 hq (by first | exact Or.inl ⟨rfl, Or.inl (by omega)⟩ | exact Or.inl ⟨rfl, Or.inr ⟨⟨hal, hI, q132⟩, b2_0.mp (by omega)⟩⟩ | exact Or.inr (Or.inl ⟨by omega, fun z => q132 z.1.2.2⟩) | exact Or.inr (Or.inl ⟨by omega, fun z => absurd (z.2.symm.trans (b2_ne.mp (by omega))) (by decide)⟩) | exact Or.inr (Or.inr ⟨by omega, by omega⟩))
                      show Ev g mX8_has 173 [some (vR (272)), some (vI (((kx : Nat) : Int))), some (vI (k)), some (vI (((kv : Nat) : Int))), some (vI (((nS k kv : Nat) : Int))), some (vI (1)), some (vI (0)), some (vI (1)), some (vI (1))] [vI (1)] (M0 (τ2)) 0 0 _
                      refine Ev.istore (pl' := [some (vR (272)), some (vI (((kx : Nat) : Int))), some (vI (k)), some (vI (((kv : Nat) : Int))), some (vI (((nS k kv : Nat) : Int))), some (vI (1)), some (vI (0)), some (vI (1)), some (vI (1))]) dX8_has_173 (Nat.le_of_ble_eq_true rfl) rfl ?_
                      refine Ev.goto (tgt := 83) dX8_has_175 (by decide) ?_
                      refine Ev.wk (pl' := [some (vR (272)), some (vI (((kx : Nat) : Int))), some (vI (k)), some (vI (((kv : Nat) : Int))), some (vI (((nS k kv : Nat) : Int))), some (vI (1)), some (vI (0)), some (vI (1)), none]) ⟨rfl, ⟨rfl, ⟨rfl, ⟨rfl, ⟨rfl, ⟨rfl, ⟨rfl, ⟨rfl, trivial⟩⟩⟩⟩⟩⟩⟩⟩ ?_
                      exact ih (K + 1) (by omega) τ2 A2 1 0 (hM1.scr (S297 hF2)) (fun c h => ((S297 hF2).lo c h).trans (hk0 c h)) (hX.same hF2 (by decide)) hI2 hA2 (by omega) n5 n6
                    · skip
                      have hq : ∀ B, ansP s (sX s) B → (kod (sU s) B ≤ kod (sU s) A ↔ kod (sU s) B ≤ kod (sU s) A) := fun B z => Iff.rfl
                      have n5 : (1 : Int) = bI (hasD s kx (nS k kv) true (fun B => kod (sU s) B ≤ kod (sU s) A)) := hs_up hsy hl16 hx h5 hq (by first | exact Or.inl ⟨rfl, Or.inl (by omega)⟩ | exact Or.inl ⟨rfl, Or.inr ⟨⟨hal, hI, q132⟩, b2_ne.mp (by omega)⟩⟩ | exact Or.inr (Or.inl ⟨by omega, fun z => q132 z.1.2.2⟩) | exact Or.inr (Or.inl ⟨by omega, fun z => absurd (z.2.symm.trans (b2_0.mp (by omega))) (by decide)⟩) | exact Or.inr (Or.inr ⟨by omega, by omega⟩))
                      have n6 : (0 : Int) = bI (hasD s kx (nS k kv) false (fun B => kod (sU s) B ≤ kod (sU s) A)) := hs_up hsy hl16 hx h6 hq (by first | exact Or.inl ⟨rfl, Or.inl (by omega)⟩ | exact Or.inl ⟨rfl, Or.inr ⟨⟨hal, hI, q132⟩, b2_0.mp (by omega)⟩⟩ | exact Or.inr (Or.inl ⟨by omega, fun z => q132 z.1.2.2⟩) | exact Or.inr (Or.inl ⟨by omega, fun z => absurd (z.2.symm.trans (b2_ne.mp (by omega))) (by decide)⟩) | exact Or.inr (Or.inr ⟨by omega, by omega⟩))
                      rw [hs_all (s := s) (fun B z => hz2 B z.2.1)] at n5 n6
                      have hM1 := hM1.scr (S297 hF2)
                      have hk0 := fun c (h : c < 272) => ((S297 hF2).lo c h).trans (hk0 c h)
                      show Ev g mX8_has 173 [some (vR (272)), some (vI (((kx : Nat) : Int))), some (vI (k)), some (vI (((kv : Nat) : Int))), some (vI (((nS k kv : Nat) : Int))), some (vI (1)), some (vI (0)), some (vI (1)), some (vI (1))] [vI (0)] (M0 (τ2)) 0 0 _
                      refine Ev.istore (pl' := [some (vR (272)), some (vI (((kx : Nat) : Int))), some (vI (k)), some (vI (((kv : Nat) : Int))), some (vI (((nS k kv : Nat) : Int))), some (vI (1)), some (vI (0)), some (vI (0)), some (vI (1))]) dX8_has_173 (Nat.le_of_ble_eq_true rfl) rfl ?_
                      refine Ev.goto (tgt := 83) dX8_has_175 (by decide) ?_
                      refine Ev.iload dX8_has_83 rfl ?_
                      refine Ev.if_eq (tgt := 178) ⟨by decide, by decide⟩ dX8_has_85 (by decide) (fun h85 => ?_) (fun h85 => ?_)
                      · skip
                        refine Ev.wk (pl' := [some (vR (272)), some (vI (((kx : Nat) : Int))), some (vI (k)), some (vI (((kv : Nat) : Int))), some (vI (((nS k kv : Nat) : Int))), some (vI (1)), some (vI (0)), none, none]) ⟨rfl, ⟨rfl, ⟨rfl, ⟨rfl, ⟨rfl, ⟨rfl, ⟨rfl, trivial⟩⟩⟩⟩⟩⟩⟩ ?_
                        exact r_has_x s σ τ2 hM1 hk0 hfar kx hx k h_k kv hkv 1 0 n5 n6
                      · exact absurd h85 (by decide)
                  · exact absurd h159 (by decide)
              · skip
                refine Ev.iload dX8_has_140 rfl ?_
                refine Ev.if_eq (tgt := 149) ⟨by decide, by decide⟩ dX8_has_142 (by decide) (fun h142 => ?_) (fun h142 => ?_)
                · exact absurd h142 (by decide)
                · skip
                  refine Ev.iconst dX8_has_145 ?_
                  refine Ev.goto (tgt := 150) dX8_has_146 (by decide) ?_
                  refine Ev.istore (pl' := [some (vR (272)), some (vI (((kx : Nat) : Int))), some (vI (k)), some (vI (((kv : Nat) : Int))), some (vI (((nS k kv : Nat) : Int))), some (vI (1)), some (vI (b6)), some (vI (1)), some (vI (1))]) dX8_has_150 (Nat.le_of_ble_eq_true rfl) rfl ?_
                  refine Ev.iload dX8_has_152 rfl ?_
                  refine Ev.if_ne (tgt := 162) ⟨by omega, by omega⟩ dX8_has_154 (by decide) (fun h154 => ?_) (fun h154 => ?_)
                  · skip
                    refine Ev.iconst dX8_has_162 ?_
                    refine Ev.goto (tgt := 167) dX8_has_163 (by decide) ?_
                    refine Ev.istore (pl' := [some (vR (272)), some (vI (((kx : Nat) : Int))), some (vI (k)), some (vI (((kv : Nat) : Int))), some (vI (((nS k kv : Nat) : Int))), some (vI (1)), some (vI (1)), some (vI (1)), some (vI (1))]) dX8_has_167 (Nat.le_of_ble_eq_true rfl) rfl ?_
                    refine Ev.aload_n dX8_has_169 rfl rfl ?_
                    refine Ev.callV_G (M2 := mX8_goesOn) (args2 := []) (rcv := 272) (q := (RX8, TX8, 34)) (ci := 8) dX8_has_170 okX8_goesOn lk_X8_266 ovX8_goesOn.1.1 ovX8_goesOn.1.2 ovX8_goesOn.2 (by decide) rfl rfl ltc_272 shc_272 rfl (Nat.le_of_ble_eq_true rfl) (Nat.le_of_ble_eq_true rfl) (sM_goesOn τ (sU s) hU hu1.2.1 (NX s (sX s)) hX.az hX.ne A hI hA) (fun v_ m_ hp_ => ?_) rfl
                    obtain ⟨v9, τ2, rfl, rfl, hF2, hvv⟩ := hp_
                    rcases hvv with ⟨rfl, A2, hI2, hA2, hk2, hb2⟩ | ⟨rfl, hz2⟩
                    · skip
                      have hq : ∀ B, ansP s (sX s) B → (kod (sU s) B < kod (sU s) A2 ↔ kod (sU s) B ≤ kod (sU s) A) := fun B z => ⟨hb2 B z.2.1, fun y => by omega⟩
                      have n5 : (1 : Int) = bI (hasD s kx (nS k kv) true (fun B => kod (sU s) B < kod (sU s) A2)) := hs_up hsy hl16 hx h5 hq (by first | exact Or.inl ⟨rfl, Or.inl (by omega)⟩ | exact Or.inl ⟨rfl, Or.inr ⟨⟨hal, hI, q132⟩, b2_ne.mp (by omega)⟩⟩ | exact Or.inr (Or.inl ⟨by omega, fun z => q132 z.1.2.2⟩) | exact Or.inr (Or.inl ⟨by omega, fun z => absurd (z.2.symm.trans (b2_0.mp (by omega))) (by decide)⟩) | exact Or.inr (Or.inr ⟨by omega, by omega⟩))
                      have n6 : (1 : Int) = bI (hasD s kx (nS k kv) false (fun B => kod (sU s) B < kod (sU s) A2)) := hs_up hsy hl16 hx h6 hq (by first | exact Or.inl ⟨rfl, Or.inl (by omega)⟩ | exact Or.inl ⟨rfl, Or.inr ⟨⟨hal, hI, q132⟩, b2_0.mp (by omega)⟩⟩ | exact Or.inr (Or.inl ⟨by omega, fun z => q132 z.1.2.2⟩) | exact Or.inr (Or.inl ⟨by omega, fun z => absurd (z.2.symm.trans (b2_ne.mp (by omega))) (by decide)⟩) | exact Or.inr (Or.inr ⟨by omega, by omega⟩))
                      show Ev g mX8_has 173 [some (vR (272)), some (vI (((kx : Nat) : Int))), some (vI (k)), some (vI (((kv : Nat) : Int))), some (vI (((nS k kv : Nat) : Int))), some (vI (1)), some (vI (1)), some (vI (1)), some (vI (1))] [vI (1)] (M0 (τ2)) 0 0 _
                      refine Ev.istore (pl' := [some (vR (272)), some (vI (((kx : Nat) : Int))), some (vI (k)), some (vI (((kv : Nat) : Int))), some (vI (((nS k kv : Nat) : Int))), some (vI (1)), some (vI (1)), some (vI (1)), some (vI (1))]) dX8_has_173 (Nat.le_of_ble_eq_true rfl) rfl ?_
                      refine Ev.goto (tgt := 83) dX8_has_175 (by decide) ?_
                      refine Ev.wk (pl' := [some (vR (272)), some (vI (((kx : Nat) : Int))), some (vI (k)), some (vI (((kv : Nat) : Int))), some (vI (((nS k kv : Nat) : Int))), some (vI (1)), some (vI (1)), some (vI (1)), none]) ⟨rfl, ⟨rfl, ⟨rfl, ⟨rfl, ⟨rfl, ⟨rfl, ⟨rfl, ⟨rfl, trivial⟩⟩⟩⟩⟩⟩⟩⟩ ?_
                      exact ih (K + 1) (by omega) τ2 A2 1 1 (hM1.scr (S297 hF2)) (fun c h => ((S297 hF2).lo c h).trans (hk0 c h)) (hX.same hF2 (by decide)) hI2 hA2 (by omega) n5 n6
                    · skip
                      have hq : ∀ B, ansP s (sX s) B → (kod (sU s) B ≤ kod (sU s) A ↔ kod (sU s) B ≤ kod (sU s) A) := fun B z => Iff.rfl
                      have n5 : (1 : Int) = bI (hasD s kx (nS k kv) true (fun B => kod (sU s) B ≤ kod (sU s) A)) := hs_up hsy hl16 hx h5 hq (by first | exact Or.inl ⟨rfl, Or.inl (by omega)⟩ | exact Or.inl ⟨rfl, Or.inr ⟨⟨hal, hI, q132⟩, b2_ne.mp (by omega)⟩⟩ | exact Or.inr (Or.inl ⟨by omega, fun z => q132 z.1.2.2⟩) | exact Or.inr (Or.inl ⟨by omega, fun z => absurd (z.2.symm.trans (b2_0.mp (by omega))) (by decide)⟩) | exact Or.inr (Or.inr ⟨by omega, by omega⟩))
                      have n6 : (1 : Int) = bI (hasD s kx (nS k kv) false (fun B => kod (sU s) B ≤ kod (sU s) A)) := hs_up hsy hl16 hx h6 hq (by first | exact Or.inl ⟨rfl, Or.inl (by omega)⟩ | exact Or.inl ⟨rfl, Or.inr ⟨⟨hal, hI, q132⟩, b2_0.mp (by omega)⟩⟩ | exact Or.inr (Or.inl ⟨by omega, fun z => q132 z.1.2.2⟩) | exact Or.inr (Or.inl ⟨by omega, fun z => absurd (z.2.symm.trans (b2_ne.mp (by omega))) (by decide)⟩) | exact Or.inr (Or.inr ⟨by omega, by omega⟩))
                      rw [hs_all (s := s) (fun B z => hz2 B z.2.1)] at n5 n6
                      have hM1 := hM1.scr (S297 hF2)
                      have hk0 := fun c (h : c < 272) => ((S297 hF2).lo c h).trans (hk0 c h)
                      show Ev g mX8_has 173 [some (vR (272)), some (vI (((kx : Nat) : Int))), some (vI (k)), some (vI (((kv : Nat) : Int))), some (vI (((nS k kv : Nat) : Int))), some (vI (1)), some (vI (1)), some (vI (1)), some (vI (1))] [vI (0)] (M0 (τ2)) 0 0 _
                      refine Ev.istore (pl' := [some (vR (272)), some (vI (((kx : Nat) : Int))), some (vI (k)), some (vI (((kv : Nat) : Int))), some (vI (((nS k kv : Nat) : Int))), some (vI (1)), some (vI (1)), some (vI (0)), some (vI (1))]) dX8_has_173 (Nat.le_of_ble_eq_true rfl) rfl ?_
                      refine Ev.goto (tgt := 83) dX8_has_175 (by decide) ?_
                      refine Ev.iload dX8_has_83 rfl ?_
                      refine Ev.if_eq (tgt := 178) ⟨by decide, by decide⟩ dX8_has_85 (by decide) (fun h85 => ?_) (fun h85 => ?_)
                      · skip
                        refine Ev.wk (pl' := [some (vR (272)), some (vI (((kx : Nat) : Int))), some (vI (k)), some (vI (((kv : Nat) : Int))), some (vI (((nS k kv : Nat) : Int))), some (vI (1)), some (vI (1)), none, none]) ⟨rfl, ⟨rfl, ⟨rfl, ⟨rfl, ⟨rfl, ⟨rfl, ⟨rfl, trivial⟩⟩⟩⟩⟩⟩⟩ ?_
                        exact r_has_x s σ τ2 hM1 hk0 hfar kx hx k h_k kv hkv 1 1 n5 n6
                      · exact absurd h85 (by decide)
                  · skip
                    refine Ev.iload dX8_has_157 rfl ?_
                    refine Ev.if_ne (tgt := 166) ⟨by decide, by decide⟩ dX8_has_159 (by decide) (fun h159 => ?_) (fun h159 => ?_)
                    · skip
                      refine Ev.iconst dX8_has_166 ?_
                      refine Ev.istore (pl' := [some (vR (272)), some (vI (((kx : Nat) : Int))), some (vI (k)), some (vI (((kv : Nat) : Int))), some (vI (((nS k kv : Nat) : Int))), some (vI (1)), some (vI (0)), some (vI (1)), some (vI (1))]) dX8_has_167 (Nat.le_of_ble_eq_true rfl) rfl ?_
                      refine Ev.aload_n dX8_has_169 rfl rfl ?_
                      refine Ev.callV_G (M2 := mX8_goesOn) (args2 := []) (rcv := 272) (q := (RX8, TX8, 34)) (ci := 8) dX8_has_170 okX8_goesOn lk_X8_266 ovX8_goesOn.1.1 ovX8_goesOn.1.2 ovX8_goesOn.2 (by decide) rfl rfl ltc_272 shc_272 rfl (Nat.le_of_ble_eq_true rfl) (Nat.le_of_ble_eq_true rfl) (sM_goesOn τ (sU s) hU hu1.2.1 (NX s (sX s)) hX.az hX.ne A hI hA) (fun v_ m_ hp_ => ?_) rfl
                      obtain ⟨v9, τ2, rfl, rfl, hF2, hvv⟩ := hp_
                      rcases hvv with ⟨rfl, A2, hI2, hA2, hk2, hb2⟩ | ⟨rfl, hz2⟩
                      · skip
                        have hq : ∀ B, ansP s (sX s) B → (kod (sU s) B < kod (sU s) A2 ↔ kod (sU s) B ≤ kod (sU s) A) := fun B z => ⟨hb2 B z.2.1, fun y => by omega⟩
                        have n5 : (1 : Int) = bI (hasD s kx (nS k kv) true (fun B => kod (sU s) B < kod (sU s) A2)) := hs_up hsy hl16 hx h5 hq (by first | exact Or.inl ⟨rfl, Or.inl (by omega)⟩ | exact Or.inl ⟨rfl, Or.inr ⟨⟨hal, hI, q132⟩, b2_ne.mp (by omega)⟩⟩ | exact Or.inr (Or.inl ⟨by omega, fun z => q132 z.1.2.2⟩) | exact Or.inr (Or.inl ⟨by omega, fun z => absurd (z.2.symm.trans (b2_0.mp (by omega))) (by decide)⟩) | exact Or.inr (Or.inr ⟨by omega, by omega⟩))
                        have n6 : (0 : Int) = bI (hasD s kx (nS k kv) false (fun B => kod (sU s) B < kod (sU s) A2)) := hs_up hsy hl16 hx h6 hq (by first | exact Or.inl ⟨rfl, Or.inl (by omega)⟩ | exact Or.inl ⟨rfl, Or.inr ⟨⟨hal, hI, q132⟩, b2_0.mp (by omega)⟩⟩ | exact Or.inr (Or.inl ⟨by omega, fun z => q132 z.1.2.2⟩) | exact Or.inr (Or.inl ⟨by omega, fun z => absurd (z.2.symm.trans (b2_ne.mp (by omega))) (by decide)⟩) | exact Or.inr (Or.inr ⟨by omega, by omega⟩))
                        show Ev g mX8_has 173 [some (vR (272)), some (vI (((kx : Nat) : Int))), some (vI (k)), some (vI (((kv : Nat) : Int))), some (vI (((nS k kv : Nat) : Int))), some (vI (1)), some (vI (0)), some (vI (1)), some (vI (1))] [vI (1)] (M0 (τ2)) 0 0 _
                        refine Ev.istore (pl' := [some (vR (272)), some (vI (((kx : Nat) : Int))), some (vI (k)), some (vI (((kv : Nat) : Int))), some (vI (((nS k kv : Nat) : Int))), some (vI (1)), some (vI (0)), some (vI (1)), some (vI (1))]) dX8_has_173 (Nat.le_of_ble_eq_true rfl) rfl ?_
                        refine Ev.goto (tgt := 83) dX8_has_175 (by decide) ?_
                        refine Ev.wk (pl' := [some (vR (272)), some (vI (((kx : Nat) : Int))), some (vI (k)), some (vI (((kv : Nat) : Int))), some (vI (((nS k kv : Nat) : Int))), some (vI (1)), some (vI (0)), some (vI (1)), none]) ⟨rfl, ⟨rfl, ⟨rfl, ⟨rfl, ⟨rfl, ⟨rfl, ⟨rfl, ⟨rfl, trivial⟩⟩⟩⟩⟩⟩⟩⟩ ?_
                        exact ih (K + 1) (by omega) τ2 A2 1 0 (hM1.scr (S297 hF2)) (fun c h => ((S297 hF2).lo c h).trans (hk0 c h)) (hX.same hF2 (by decide)) hI2 hA2 (by omega) n5 n6
                      · skip
                        have hq : ∀ B, ansP s (sX s) B → (kod (sU s) B ≤ kod (sU s) A ↔ kod (sU s) B ≤ kod (sU s) A) := fun B z => Iff.rfl
                        have n5 : (1 : Int) = bI (hasD s kx (nS k kv) true (fun B => kod (sU s) B ≤ kod (sU s) A)) := hs_up hsy hl16 hx h5 hq (by first | exact Or.inl ⟨rfl, Or.inl (by omega)⟩ | exact Or.inl ⟨rfl, Or.inr ⟨⟨hal, hI, q132⟩, b2_ne.mp (by omega)⟩⟩ | exact Or.inr (Or.inl ⟨by omega, fun z => q132 z.1.2.2⟩) | exact Or.inr (Or.inl ⟨by omega, fun z => absurd (z.2.symm.trans (b2_0.mp (by omega))) (by decide)⟩) | exact Or.inr (Or.inr ⟨by omega, by omega⟩))
                        have n6 : (0 : Int) = bI (hasD s kx (nS k kv) false (fun B => kod (sU s) B ≤ kod (sU s) A)) := hs_up hsy hl16 hx h6 hq (by first | exact Or.inl ⟨rfl, Or.inl (by omega)⟩ | exact Or.inl ⟨rfl, Or.inr ⟨⟨hal, hI, q132⟩, b2_0.mp (by omega)⟩⟩ | exact Or.inr (Or.inl ⟨by omega, fun z => q132 z.1.2.2⟩) | exact Or.inr (Or.inl ⟨by omega, fun z => absurd (z.2.symm.trans (b2_ne.mp (by omega))) (by decide)⟩) | exact Or.inr (Or.inr ⟨by omega, by omega⟩))
                        rw [hs_all (s := s) (fun B z => hz2 B z.2.1)] at n5 n6
                        have hM1 := hM1.scr (S297 hF2)
                        have hk0 := fun c (h : c < 272) => ((S297 hF2).lo c h).trans (hk0 c h)
                        show Ev g mX8_has 173 [some (vR (272)), some (vI (((kx : Nat) : Int))), some (vI (k)), some (vI (((kv : Nat) : Int))), some (vI (((nS k kv : Nat) : Int))), some (vI (1)), some (vI (0)), some (vI (1)), some (vI (1))] [vI (0)] (M0 (τ2)) 0 0 _
                        refine Ev.istore (pl' := [some (vR (272)), some (vI (((kx : Nat) : Int))), some (vI (k)), some (vI (((kv : Nat) : Int))), some (vI (((nS k kv : Nat) : Int))), some (vI (1)), some (vI (0)), some (vI (0)), some (vI (1))]) dX8_has_173 (Nat.le_of_ble_eq_true rfl) rfl ?_
                        refine Ev.goto (tgt := 83) dX8_has_175 (by decide) ?_
                        refine Ev.iload dX8_has_83 rfl ?_
                        refine Ev.if_eq (tgt := 178) ⟨by decide, by decide⟩ dX8_has_85 (by decide) (fun h85 => ?_) (fun h85 => ?_)
                        · skip
                          refine Ev.wk (pl' := [some (vR (272)), some (vI (((kx : Nat) : Int))), some (vI (k)), some (vI (((kv : Nat) : Int))), some (vI (((nS k kv : Nat) : Int))), some (vI (1)), some (vI (0)), none, none]) ⟨rfl, ⟨rfl, ⟨rfl, ⟨rfl, ⟨rfl, ⟨rfl, ⟨rfl, trivial⟩⟩⟩⟩⟩⟩⟩ ?_
                          exact r_has_x s σ τ2 hM1 hk0 hfar kx hx k h_k kv hkv 1 0 n5 n6
                        · exact absurd h85 (by decide)
                    · exact absurd h159 (by decide)

set_option maxRecDepth 100000 in
set_option maxHeartbeats 4000000 in
theorem r_has {g : GC} (s : SS) (σ : Sg) (hM : MI s σ) (x : Int) (h_x : inR x) (k : Int) (h_k : inR k) (v : Int) (h_v : inR v) : Ev g mX8_has 0 [some (vR (272)), some (vI (x)), some (vI (k)), some (vI (v)), none, none, none, none, none] [] (M0 (σ)) 0 0 (retE (MP σ (o_has s x k v))) := by
  refine Ev.aload_n dX8_has_0 rfl rfl ?_
  refine Ev.iconst dX8_has_1 ?_
  refine pf_X8_90 rfl dX8_has_2 ltc_272 shc_272 ?_
  obtain ⟨σ1, hs1⟩ : ∃ ρ : Sg, ρ = upC σ 272 0 0 := ⟨_, rfl⟩
  refine Ev.mem (τ := σ1) hs1.symm ?_
  have hM1 : MI s σ1 := by rw [hs1]; exact hM.th
  have hk0 : ∀ c, c < 272 → σ1 c = σ c := fun c hc => by rw [hs1]; exact upC_ne (by omega)
  obtain ⟨hu1, hu2, hu3, hu4, hu5, hu6, hu7, hu8⟩ := id hM1
  have hU := hu1.1
  have hN := hu2.1
  have hD := hu4.1
  have hMl := hu7.1
  have hQ := hu5.1
  refine Ev.aload_n dX8_has_5 rfl rfl ?_
  refine Ev.iload_n dX8_has_6 rfl rfl ?_
  refine Ev.callV_I (M2 := mX8_noUnknown) (args2 := [vI (x)]) (rcv := 272) (q := (RX8, TX8, 34)) (ci := 8) dX8_has_7 okX8_noUnknown lk_X8_119 ovX8_noUnknown.1.1 ovX8_noUnknown.1.2 ovX8_noUnknown.2 (by decide) rfl rfl ltc_272 shc_272 rfl (Nat.le_of_ble_eq_true rfl) (Nat.le_of_ble_eq_true rfl) (sM_noUnknown σ1 (sU s) hU hu1.2.1 (x) ⟨by omega, by omega⟩) ?_ rfl
  refine Ev.if_eq (tgt := 15) bI_inR dX8_has_10 (by decide) (fun h10 => ?_) (fun h10 => ?_)
  · skip
    have q10 := bI_0.mp h10
    obtain ⟨kx, rfl⟩ : ∃ n_ : Nat, x = (n_ : Int) := ⟨x.toNat, by omega⟩
    refine Ev.iload_n dX8_has_15 rfl rfl ?_
    refine Ev.i2l ⟨by omega, by omega⟩ dX8_has_16 ?_
    refine Ev.lconst 0 rfl dX8_has_17 ?_
    refine Ev.ldc2 (n := 3) (tbl_i 851 (by decide +kernel)) dX8_has_18 ?_
    refine Ev.callS_I (M2 := mX8_in) (args2 := [vL (k), vL (0), vL (3)]) dX8_has_21 okX8_in lk_X8_96 osX8_in.1 osX8_in.2 (by decide) rfl (Nat.le_of_ble_eq_true rfl) (Nat.le_of_ble_eq_true rfl) (sM_in σ1 (k) (0) (3) ⟨by omega, by omega⟩ ⟨by omega, by omega⟩ ⟨by omega, by omega⟩) ?_ rfl
    refine Ev.if_eq (tgt := 39) bI_inR dX8_has_24 (by decide) (fun h24 => ?_) (fun h24 => ?_)
    · skip
      have q24 := bI_0.mp h24
      refine Ev.bipush (n := -2) (by decide) dX8_has_39 ?_
      exact Ev.ireturn dX8_has_41 rfl (rE (by unfold MP o_has; (repeat rw [Int.toNat_natCast]); rw [ifP_f (by omega), ifP_t (by omega)]; exact ⟨rfl, hM1, hk0⟩))
    · skip
      have q24 := bI_1.mp h24
      refine Ev.iload_n dX8_has_27 rfl rfl ?_
      refine Ev.i2l ⟨by omega, by omega⟩ dX8_has_28 ?_
      refine Ev.lconst 0 rfl dX8_has_29 ?_
      refine Ev.ldc2 (n := 15) (tbl_i 796 (by decide +kernel)) dX8_has_30 ?_
      refine Ev.callS_I (M2 := mX8_in) (args2 := [vL (v), vL (0), vL (15)]) dX8_has_33 okX8_in lk_X8_96 osX8_in.1 osX8_in.2 (by decide) rfl (Nat.le_of_ble_eq_true rfl) (Nat.le_of_ble_eq_true rfl) (sM_in σ1 (v) (0) (15) ⟨by omega, by omega⟩ ⟨by omega, by omega⟩ ⟨by omega, by omega⟩) ?_ rfl
      refine Ev.if_ne (tgt := 42) bI_inR dX8_has_36 (by decide) (fun h36 => ?_) (fun h36 => ?_)
      · skip
        have q36 := bI_1.mp h36
        obtain ⟨kv, rfl⟩ : ∃ n_ : Nat, v = (n_ : Int) := ⟨v.toNat, by omega⟩
        refine Ev.aload_n dX8_has_42 rfl rfl ?_
        refine Ev.callV_G (M2 := mX8_begun) (args2 := []) (rcv := 272) (q := (RX8, TX8, 34)) (ci := 8) dX8_has_43 okX8_begun lk_X8_253 ovX8_begun.1.1 ovX8_begun.1.2 ovX8_begun.2 (by decide) rfl rfl ltc_272 shc_272 rfl (Nat.le_of_ble_eq_true rfl) (Nat.le_of_ble_eq_true rfl) (rM_begun s σ1 hM1) (fun v_ m_ hp_ => ?_) rfl
        obtain ⟨v, τ, rfl, rfl, hS1, hvv⟩ := hp_
        have hk0 := fun c (h : c < 272) => (hS1.lo c h).trans (hk0 c h)
        have hM1 := hM1.scr hS1
        obtain ⟨hu1, hu2, hu3, hu4, hu5, hu6, hu7, hu8⟩ := id hM1
        have hU := hu1.1
        have hN := hu2.1
        have hD := hu4.1
        have hMl := hu7.1
        have hQ := hu5.1
        rcases hvv with ⟨rfl, hfar⟩ | ⟨rfl, hfar, hd, hXw, Yw, hYw⟩
        · skip
          show Ev g mX8_has 46 [some (vR (272)), some (vI (((kx : Nat) : Int))), some (vI (k)), some (vI (((kv : Nat) : Int))), none, none, none, none, none] [vI (-5)] (M0 (τ)) 0 0 _
          refine Ev.if_eq (tgt := 52) ⟨by decide, by decide⟩ dX8_has_46 (by decide) (fun h46 => ?_) (fun h46 => ?_)
          · exact absurd h46 (by decide)
          · skip
            refine Ev.bipush (n := -5) (by decide) dX8_has_49 ?_
            exact Ev.ireturn dX8_has_51 rfl (rE (by unfold MP o_has; (repeat rw [Int.toNat_natCast]); rw [ifP_f (by omega), ifP_f (by omega), ifP_t hfar]; exact ⟨rfl, hM1, hk0⟩))
        · skip
          show Ev g mX8_has 46 [some (vR (272)), some (vI (((kx : Nat) : Int))), some (vI (k)), some (vI (((kv : Nat) : Int))), none, none, none, none, none] [vI (0)] (M0 (τ)) 0 0 _
          refine Ev.if_eq (tgt := 52) ⟨by decide, by decide⟩ dX8_has_46 (by decide) (fun h46 => ?_) (fun h46 => ?_)
          · skip
            refine Ev.iload_n dX8_has_52 rfl rfl ?_
            refine Ev.iload_n dX8_has_53 rfl rfl ?_
            refine Ev.callS_I (M2 := mX8_bits) (args2 := [vI (k), vI (((kv : Nat) : Int))]) dX8_has_54 okX8_bits lk_X8_112 osX8_bits.1 osX8_bits.2 (by decide) rfl (Nat.le_of_ble_eq_true rfl) (Nat.le_of_ble_eq_true rfl) (sM_bits τ (k) kv (by omega) (by omega)) ?_ rfl
            refine Ev.istore (pl' := [some (vR (272)), some (vI (((kx : Nat) : Int))), some (vI (k)), some (vI (((kv : Nat) : Int))), some (vI (((nS (k) kv : Nat) : Int))), none, none, none, none]) dX8_has_57 (Nat.le_of_ble_eq_true rfl) rfl ?_
            refine Ev.iconst dX8_has_59 ?_
            refine Ev.istore (pl' := [some (vR (272)), some (vI (((kx : Nat) : Int))), some (vI (k)), some (vI (((kv : Nat) : Int))), some (vI (((nS (k) kv : Nat) : Int))), some (vI (0)), none, none, none]) dX8_has_60 (Nat.le_of_ble_eq_true rfl) rfl ?_
            refine Ev.iconst dX8_has_62 ?_
            refine Ev.istore (pl' := [some (vR (272)), some (vI (((kx : Nat) : Int))), some (vI (k)), some (vI (((kv : Nat) : Int))), some (vI (((nS (k) kv : Nat) : Int))), some (vI (0)), some (vI (0)), none, none]) dX8_has_63 (Nat.le_of_ble_eq_true rfl) rfl ?_
            refine Ev.aload_n dX8_has_65 rfl rfl ?_
            refine gf_X8_197 (x := bI (¬ AL s (sX s))) rfl dX8_has_66 ltc_272 shc_272 hd ?_
            refine Ev.if_ne (tgt := 76) bI_inR dX8_has_69 (by decide) (fun h69 => ?_) (fun h69 => ?_)
            · skip
              have q69 := bI_1.mp h69
              refine Ev.iconst dX8_has_76 ?_
              refine Ev.istore (pl' := [some (vR (272)), some (vI (((kx : Nat) : Int))), some (vI (k)), some (vI (((kv : Nat) : Int))), some (vI (((nS (k) kv : Nat) : Int))), some (vI (0)), some (vI (0)), some (vI (0)), none]) dX8_has_77 (Nat.le_of_ble_eq_true rfl) rfl ?_
              refine Ev.aload_n dX8_has_79 rfl rfl ?_
              refine Ev.callV_G (M2 := mX8_first) (args2 := []) (rcv := 272) (q := (RX8, TX8, 34)) (ci := 8) dX8_has_80 okX8_first lk_X8_257 ovX8_first.1.1 ovX8_first.1.2 ovX8_first.2 (by decide) rfl rfl ltc_272 shc_272 rfl (Nat.le_of_ble_eq_true rfl) (Nat.le_of_ble_eq_true rfl) (sM_first τ (sU s) hU hu1.2.1 Yw hYw) (fun v_ m_ hp_ => ?_) rfl
              obtain ⟨τ2, rfl, rfl, hF, hG⟩ := hp_
              have hM1 := hM1.scr (S297 hF)
              have hk0 := fun c (h : c < 272) => ((S297 hF).lo c h).trans (hk0 c h)
              show Ev g mX8_has 83 [some (vR (272)), some (vI (((kx : Nat) : Int))), some (vI (k)), some (vI (((kv : Nat) : Int))), some (vI (((nS (k) kv : Nat) : Int))), some (vI (0)), some (vI (0)), some (vI (0)), none] [] (M0 (τ2)) 0 0 _
              refine Ev.iload dX8_has_83 rfl ?_
              refine Ev.if_eq (tgt := 178) ⟨by decide, by decide⟩ dX8_has_85 (by decide) (fun h85 => ?_) (fun h85 => ?_)
              · skip
                refine Ev.iload dX8_has_178 rfl ?_
                refine Ev.if_eq (tgt := 196) ⟨by decide, by decide⟩ dX8_has_180 (by decide) (fun h180 => ?_) (fun h180 => ?_)
                · skip
                  refine Ev.iload dX8_has_196 rfl ?_
                  refine Ev.if_eq (tgt := 205) ⟨by decide, by decide⟩ dX8_has_198 (by decide) (fun h198 => ?_) (fun h198 => ?_)
                  · skip
                    refine Ev.iconst dX8_has_205 ?_
                    exact Ev.ireturn dX8_has_206 rfl (rE (by unfold MP o_has; (repeat rw [Int.toNat_natCast]); rw [ifP_f (by omega), ifP_f (by omega), ifP_f hfar]; exact ⟨(by show _ = ifP _ _ _; rw [ifP_f (fun ⟨B, z, _⟩ => q69 z.1), ifP_f (fun ⟨B, z, _⟩ => q69 z.1)]), hM1, hk0⟩))
                  · exact absurd h198 (by decide)
                · exact absurd h180 (by decide)
              · exact absurd h85 (by decide)
            · skip
              have q69 := bI_0.mp h69
              have hal : AL s (sX s) := Classical.byContradiction q69
              refine Ev.iconst dX8_has_72 ?_
              refine Ev.goto (tgt := 77) dX8_has_73 (by decide) ?_
              refine Ev.istore (pl' := [some (vR (272)), some (vI (((kx : Nat) : Int))), some (vI (k)), some (vI (((kv : Nat) : Int))), some (vI (((nS (k) kv : Nat) : Int))), some (vI (0)), some (vI (0)), some (vI (1)), none]) dX8_has_77 (Nat.le_of_ble_eq_true rfl) rfl ?_
              refine Ev.aload_n dX8_has_79 rfl rfl ?_
              refine Ev.callV_G (M2 := mX8_first) (args2 := []) (rcv := 272) (q := (RX8, TX8, 34)) (ci := 8) dX8_has_80 okX8_first lk_X8_257 ovX8_first.1.1 ovX8_first.1.2 ovX8_first.2 (by decide) rfl rfl ltc_272 shc_272 rfl (Nat.le_of_ble_eq_true rfl) (Nat.le_of_ble_eq_true rfl) (sM_first τ (sU s) hU hu1.2.1 (NX s (sX s)) (hXw hal).az) (fun v_ m_ hp_ => ?_) rfl
              obtain ⟨τ2, rfl, rfl, hF, hG⟩ := hp_
              have hM1 := hM1.scr (S297 hF)
              have hk0 := fun c (h : c < 272) => ((S297 hF).lo c h).trans (hk0 c h)
              show Ev g mX8_has 83 [some (vR (272)), some (vI (((kx : Nat) : Int))), some (vI (k)), some (vI (((kv : Nat) : Int))), some (vI (((nS (k) kv : Nat) : Int))), some (vI (0)), some (vI (0)), some (vI (1)), none] [] (M0 (τ2)) 0 0 _
              refine Ev.wk (pl' := [some (vR (272)), some (vI (((kx : Nat) : Int))), some (vI (k)), some (vI (((kv : Nat) : Int))), some (vI (((nS k kv : Nat) : Int))), some (vI (0)), some (vI (0)), some (vI (1)), none]) ⟨rfl, ⟨rfl, ⟨rfl, ⟨rfl, ⟨vIe (by omega), ⟨rfl, ⟨rfl, ⟨rfl, trivial⟩⟩⟩⟩⟩⟩⟩⟩ ?_
              exact r_has_l s σ hal hfar kx (by omega) k ⟨by omega, by omega⟩ kv (by omega) (16 ^ sU s) 0 (by omega) τ2 _ 0 0 hM1 hk0 ((hXw hal).same hF (by decide)) (lo_in (hXw hal).ne) hG (Nat.zero_le _) hs_0 hs_0
          · exact absurd h46 (by decide)
      · skip
        have q36 := bI_0.mp h36
        refine Ev.bipush (n := -2) (by decide) dX8_has_39 ?_
        exact Ev.ireturn dX8_has_41 rfl (rE (by unfold MP o_has; (repeat rw [Int.toNat_natCast]); rw [ifP_f (by omega), ifP_t (by omega)]; exact ⟨rfl, hM1, hk0⟩))
  · skip
    have q10 := bI_1.mp h10
    refine Ev.iconst dX8_has_13 ?_
    exact Ev.ireturn dX8_has_14 rfl (rE (by unfold MP o_has; (repeat rw [Int.toNat_natCast]); rw [ifP_t (by omega)]; exact ⟨rfl, hM1, hk0⟩))

