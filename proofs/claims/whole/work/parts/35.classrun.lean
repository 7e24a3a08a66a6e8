/-! THE CLASS: narrowing run to its end -/
theorem b2_inL {b : Bool} : inL ((b2 b : Nat) : Int) := by cases b <;> exact ⟨by decide, by decide⟩
theorem lCmp_b2 {b : Bool} : lCmp ((b2 b : Nat) : Int) 0 = ((b2 b : Nat) : Int) := by cases b <;> rfl
abbrev WK : List Nat := [24, 262, 263, 264, 265]
theorem nWK {c : Nat} (h : c < 262) (h2 : c ≠ 24) : c ∉ WK := by simp [WK]; omega
def frI : Bool → Nat → Int
  | true, _ => -1
  | false, c => (c : Int)
def frM : Bool → Nat → Nat → Nat
  | true, m, _ => m
  | false, m, x => m &&& x
theorem iOr_m1 (x : Int) : iOr (-1) x = -1 := by
  unfold iOr
  have e : Int32.ofInt (-1) ||| Int32.ofInt x = Int32.ofInt (-1) := by
    apply Int32.toBitVec_inj.1
    show BitVec.allOnes 32 ||| (Int32.ofInt x).toBitVec = BitVec.allOnes 32
    apply BitVec.eq_of_getLsbD_eq
    intro i hi
    rw [BitVec.getLsbD_or, BitVec.getLsbD_allOnes]
    simp [hi]
  rw [e]
  exact i32_toInt ⟨by decide, by decide⟩
theorem fr_or {b : Bool} {f c : Nat} (hf : f < 1024) (hc : c < 1024) : iOr (frI b f) (c : Int) = frI b (f ||| c) := by
  cases b
  · exact iOr_nat (by omega) (by omega)
  · exact iOr_m1 _
theorem fr_and {b : Bool} {m x : Nat} (hm : m < 1024) : iAnd (m : Int) (frI b x) = ((frM b m x : Nat) : Int) := by
  cases b
  · exact iAnd_nat (Or.inl (by omega))
  · have h := iAnd_not (a := m) (b := 0) (by omega)
    have e : andN m 0 = m := by
      apply Nat.eq_of_testBit_eq
      intro i
      rw [andN_tb, Nat.zero_testBit]
      simp
    rw [e] at h
    exact h
theorem frM_lt {b : Bool} {m x : Nat} (hm : m < 1024) : frM b m x < 1024 := by
  cases b
  · exact and_ltN hm
  · exact hm
theorem frI_inR {b : Bool} {f : Nat} (hf : f < 1024) : inR (frI b f) := by
  cases b
  · exact ⟨by show -2147483648 ≤ (f : Int); omega, by show (f : Int) ≤ 2147483647; omega⟩
  · exact ⟨by show (-2147483648 : Int) ≤ -1; decide, by show (-1 : Int) ≤ 2147483647; decide⟩
theorem frI_0 {b : Bool} {f : Nat} (h : frI b f = 0) : b = false ∧ f = 0 := by
  cases b
  · exact ⟨rfl, by have : (f : Int) = 0 := h; omega⟩
  · exact absurd h (by show ¬ ((-1 : Int) = 0); decide)
theorem frM_0 {b : Bool} {m f c : Nat} (h : frM b m (f ||| c) = 0) {y : Nat} (hy : m.testBit y = true) : b = false ∧ f.testBit y = false ∧ c.testBit y = false := by
  cases b
  · have h2 : (m &&& (f ||| c)).testBit y = false := by rw [show m &&& (f ||| c) = 0 from h, Nat.zero_testBit]
    rw [Nat.testBit_and, hy, Nat.testBit_or] at h2
    simp at h2
    exact ⟨rfl, h2⟩
  · rw [show m = 0 from h, Nat.zero_testBit] at hy
    cases hy
def upY (Y : Rg) (x v : Nat) : Rg := fun y => if y = x then v else Y y
theorem upY_at {Y : Rg} {x v : Nat} : upY Y x v x = v := if_pos rfl
theorem upY_ne {Y : Rg} {x v y : Nat} (h : y ≠ x) : upY Y x v y = Y y := if_neg h
theorem av_up {τ : Sg} {c U x l : Nat} {Y : Rg} {j v : Int} (hj : j = (x : Int)) (hv : v = (l : Int)) (h0 : l ≠ 0) (hl : l < 65536) (h : AV τ c U Y) : AV (upC τ c j.toNat v) c U (upY Y x l) := fun y hy => by
  subst hj; subst hv
  rw [show ((x : Nat) : Int).toNat = x from rfl]
  by_cases e : y = x
  · subst e
    rw [upC_at, upY_at]
    exact ⟨rfl, h0, hl⟩
  · rw [upC_self e, upY_ne e]
    exact h y hy
/-- what a run of narrowing ends with -/
def RunP (σ : Sg) (U : Nat) (T : Tb) (S : Sy) (X0 : Rg) (v : Int) (τ : Sg) : Prop := v = bI (Alive U T S X0) ∧ Same WK σ τ ∧ τ 263 0 = 0 ∧ (Alive U T S X0 → AV τ 24 U (narX U T S X0))
theorem RunP.no {σ τ : Sg} {U : Nat} {T : Tb} {S : Sy} {X0 : Rg} (h : ¬ Alive U T S X0) (hF : Same WK σ τ) (hJ : τ 263 0 = 0) : RunP σ U T S X0 0 τ := ⟨bI_f h, hF, hJ, fun z => absurd z h⟩
theorem RunP.yes {σ τ : Sg} {U : Nat} {T : Tb} {S : Sy} {X0 X : Rg} (hb : Bare T S) (h : NarOk U T S X0 X) (hF : Same WK σ τ) (hJ : τ 263 0 = 0) (hX : AV τ 24 U X) : RunP σ U T S X0 1 τ := ⟨bI_t ⟨hb, X, h⟩, hF, hJ, fun _ x hx => by rw [narX_eq h x hx]; exact hX x hx⟩
theorem Same.sub {σ τ ρ : Sg} (h : Same WK σ τ) (h2 : Same [24] τ ρ) : Same WK σ ρ := h.tr (h2.wide fun c hc => by simp at hc; subst hc; decide)
/-- rules of which no unknown is fresh take nothing -/
def Cl0 (T : Tb) (S : Sy) (b : Bool) (f : Nat) (X : Rg) : Prop := ∀ r, r < S.1 → S.2.2 r → (∀ k, k < rN (S.2.1 r) → b = false ∧ f.testBit (rO (S.2.1 r) k) = false) → StabR T (S.2.1 r) X
theorem Cl0.at {U : Nat} {T : Tb} {S : Sy} {b : Bool} {f c r : Nat} {X0 Xr X : Rg} (hS : SyOk U S) (h : Cl0 T S b f Xr) (hr : r < S.1) (hon : S.2.2 r) (hXr : NEm U Xr) (hg : Chg U c Xr X) (hk : ∀ k, k < rN (S.2.1 r) → b = false ∧ f.testBit (rO (S.2.1 r) k) = false ∧ c.testBit (rO (S.2.1 r) k) = false) : StabR T (S.2.1 r) X :=
  StabR.cong (hS r hr hon) (fun k hk => hXr _ ((hS r hr hon).2.1 k hk)) (fun k hk2 => (hg.1 _ ((hS r hr hon).2.1 k hk2) (hk k hk2).2.2).symm) (h r hr hon fun k hk2 => ⟨(hk k hk2).1, (hk k hk2).2.1⟩)
theorem Cln.up {T : Tb} {S : Sy} {c r : Nat} {X : Rg} (h : Cln T S c X r) (h2 : S.2.2 r → (∀ k, k < rN (S.2.1 r) → c.testBit (rO (S.2.1 r) k) = false) → StabR T (S.2.1 r) X) : Cln T S c X (r + 1) := fun q hq hon hk => by
  rcases Nat.lt_or_ge q r with h3 | h3
  · exact h q h3 hon hk
  · have e : q = r := by omega
    subst e
    exact h2 hon hk
theorem Cln.look {U : Nat} {T : Tb} {S : Sy} {c c2 r : Nat} {X Y : Rg} (hS : SyOk U S) (hr : r < S.1) (hon : S.2.2 r) (hX : NEm U X) (h : Cln T S c X r) (hcut : Cut T U (S.2.1 r) X Y (rN (S.2.1 r))) (hcc : ∀ x, x < U → c2.testBit x = false → c.testBit x = false ∧ Y x = X x) : Cln T S c2 Y (r + 1) := fun q hq honq hk => by
  rcases Nat.lt_or_ge q r with h3 | h3
  · have hW := hS q (by omega) honq
    exact StabR.cong hW (fun k hk => hX _ (hW.2.1 k hk)) (fun k hk2 => ((hcc _ (hW.2.1 k hk2) (hk k hk2)).2).symm) (h q h3 honq fun k hk2 => (hcc _ (hW.2.1 k hk2) (hk k hk2)).1)
  · have e : q = r := by omega
    subst e
    have hW := hS q hr hon
    exact hcut.stab hW (fun k hk => hX _ (hW.2.1 k hk)) (fun k hk2 => (hcc _ (hW.2.1 k hk2) (hk k hk2)).2)
theorem mem_f {U : Nat} {R : RC} {b : Bool} {f c : Nat} (hW : WR U R) (h : frM b (memM R) (f ||| c) = 0) {k : Nat} (hk : k < rN R) : b = false ∧ f.testBit (rO R k) = false ∧ c.testBit (rO R k) = false := frM_0 h ((memM_tb hW (rO R k)).mpr ⟨k, hk, rfl⟩)
set_option maxRecDepth 100000 in
set_option maxHeartbeats 4000000 in
theorem s2_empty_l {g : GC} (σ : Sg) (U : Nat) (T : Tb) (hT : TVc σ T) (ra b n : Nat) (hra : ra < 298) (hras : sh0 ra = (4, n)) (hrs : ∀ r, r < n → rho0 ra r = some (26 + 4 * (b + r))) (hbn : b + n ≤ 56) (Rf : Nat → RC) (w : Nat) (hw : w < 2 ^ 62) (hC : ∀ r, r < n → w.testBit r = true → CR σ (b + r) (Rf r) ∧ WR U (Rf r)) (hU : U ≤ 10) (rg : Nat) (hg : rg < 298) (hgs : sh0 rg = (1, 10)) : ∀ j i : Nat, i + j = n → (∀ r, r < i → w.testBit r = true → rN (Rf r) = 0 → fit T (Rf r) (fun _ => 0)) → Ev g mX2_emptyRulesFit 3 [some (vR (260)), some (vR (ra)), some (vL (((w : Nat) : Int))), none, some (vR (rg)), some (vI (((i : Nat) : Int)))] [] (M0 (σ)) 0 0 (retI (bI (Bare T (n, Rf, fun r => w.testBit r = true))) σ) := by
  intro j
  induction j with
  | zero =>
    intro i hij hno
    refine Ev.iload dX2_emptyRulesFit_3 rfl ?_
    refine Ev.aload_n dX2_emptyRulesFit_5 rfl rfl ?_
    refine Ev.ralen dX2_emptyRulesFit_6 hra hras ?_
    refine Ev.icmp_ge (tgt := 55) ⟨by omega, by omega⟩ ⟨by omega, by omega⟩ dX2_emptyRulesFit_7 (by decide) (fun h7 => ?_) (fun h7 => ?_)
    · skip
      refine Ev.iconst dX2_emptyRulesFit_55 ?_
      exact Ev.zreturn dX2_emptyRulesFit_56 rfl (Or.inr rfl) (rI (bI_t (fun r hr hb h0 => hno r (by have h9 : r < n := hr; omega) hb h0)) rfl)
    · exact absurd h7 (by omega)
  | succ j ih =>
    intro i hij hno
    refine Ev.iload dX2_emptyRulesFit_3 rfl ?_
    refine Ev.aload_n dX2_emptyRulesFit_5 rfl rfl ?_
    refine Ev.ralen dX2_emptyRulesFit_6 hra hras ?_
    refine Ev.icmp_ge (tgt := 55) ⟨by omega, by omega⟩ ⟨by omega, by omega⟩ dX2_emptyRulesFit_7 (by decide) (fun h7 => ?_) (fun h7 => ?_)
    · exact absurd h7 (by omega)
    · skip
      refine Ev.lload_n dX2_emptyRulesFit_10 rfl rfl ?_
      refine Ev.iload dX2_emptyRulesFit_11 rfl ?_
      refine Ev.lshr dX2_emptyRulesFit_13 ?_
      refine Ev.lconst 1 rfl dX2_emptyRulesFit_14 ?_
      refine Ev.land dX2_emptyRulesFit_15 ?_
      rw [show (lAnd ((lShr (((w : Nat) : Int)) (((i : Nat) : Int)))) (1)) = ((b2 (Nat.testBit w i) : Nat) : Int) from lbit_nat (by omega) (by omega)]
      refine Ev.lconst 0 rfl dX2_emptyRulesFit_16 ?_
      refine Ev.lcmp b2_inL ⟨by decide, by decide⟩ dX2_emptyRulesFit_17 ?_
      rw [show (lCmp (((b2 (Nat.testBit w i) : Nat) : Int)) (0)) = (((b2 (Nat.testBit w i)) : Nat) : Int) from lCmp_b2]
      refine Ev.if_eq (tgt := 49) b2_inR dX2_emptyRulesFit_18 (by decide) (fun h18 => ?_) (fun h18 => ?_)
      · skip
        refine Ev.iinc (pl' := [some (vR (260)), some (vR (ra)), some (vL (((w : Nat) : Int))), none, some (vR (rg)), some (vI (((i : Nat) : Int) + 1))]) dX2_emptyRulesFit_49 rfl (Nat.le_of_ble_eq_true rfl) rfl ?_
        refine Ev.goto (tgt := 3) dX2_emptyRulesFit_52 (by decide) ?_
        refine Ev.wk (pl' := [some (vR (260)), some (vR (ra)), some (vL (((w : Nat) : Int))), none, some (vR (rg)), some (vI ((((i + 1) : Nat) : Int)))]) ⟨rfl, ⟨rfl, ⟨rfl, ⟨rfl, ⟨vIe (by omega), trivial⟩⟩⟩⟩⟩ ?_
        exact ih (i + 1) (by omega) (fun r hr hb h0 => (Nat.lt_or_ge r i).elim (fun e => hno r e hb h0) (fun e => by have e2 : r = i := (by omega); subst e2; first | exact bI_1.mp (by assumption) | exact absurd hb (by rw [b2_0.mp h18]; decide) | exact absurd h0 (by omega)))
      · skip
        have hbit := b2_ne.mp h18
        have hCi := hC i (by omega) hbit
        have hn6i := hCi.2.1.2.1
        refine Ev.aload_n dX2_emptyRulesFit_21 rfl rfl ?_
        refine Ev.iload dX2_emptyRulesFit_22 rfl ?_
        refine Ev.raload dX2_emptyRulesFit_24 hra hras (by omega) (by omega) (by omega) (hrs i (by omega)) ?_
        refine gf_X2_49 (x := ((rN (Rf i) : Nat) : Int)) rfl dX2_emptyRulesFit_25 (lt_rc (by omega)) (sh_rc (by omega)) hCi.1.2.2.2.1 ?_
        refine Ev.if_ne (tgt := 49) ⟨by omega, by omega⟩ dX2_emptyRulesFit_28 (by decide) (fun h28 => ?_) (fun h28 => ?_)
        · skip
          refine Ev.iinc (pl' := [some (vR (260)), some (vR (ra)), some (vL (((w : Nat) : Int))), none, some (vR (rg)), some (vI (((i : Nat) : Int) + 1))]) dX2_emptyRulesFit_49 rfl (Nat.le_of_ble_eq_true rfl) rfl ?_
          refine Ev.goto (tgt := 3) dX2_emptyRulesFit_52 (by decide) ?_
          refine Ev.wk (pl' := [some (vR (260)), some (vR (ra)), some (vL (((w : Nat) : Int))), none, some (vR (rg)), some (vI ((((i + 1) : Nat) : Int)))]) ⟨rfl, ⟨rfl, ⟨rfl, ⟨rfl, ⟨vIe (by omega), trivial⟩⟩⟩⟩⟩ ?_
          exact ih (i + 1) (by omega) (fun r hr hb h0 => (Nat.lt_or_ge r i).elim (fun e => hno r e hb h0) (fun e => by have e2 : r = i := (by omega); subst e2; first | exact bI_1.mp (by assumption) | exact absurd hb (by rw [b2_0.mp h18]; decide) | exact absurd h0 (by omega)))
        · skip
          refine Ev.aload_n dX2_emptyRulesFit_31 rfl rfl ?_
          refine gf_X2_15 rfl dX2_emptyRulesFit_32 ltc_260 shc_260 rfc_260_1 ?_
          refine Ev.aload_n dX2_emptyRulesFit_35 rfl rfl ?_
          refine Ev.iload dX2_emptyRulesFit_36 rfl ?_
          refine Ev.raload dX2_emptyRulesFit_38 hra hras (by omega) (by omega) (by omega) (hrs i (by omega)) ?_
          refine Ev.aload dX2_emptyRulesFit_39 rfl ?_
          refine Ev.callV_I (M2 := mX0_fits) (args2 := [vR (26 + 4 * ((b + i))), vR (rg)]) (rcv := 259) (q := (RX0, TX0, 1)) (ci := 0) dX2_emptyRulesFit_41 okX0_fits lk_X2_55 ovX0_fits.1.1 ovX0_fits.1.2 ovX0_fits.2 (by decide) rfl rfl ltc_259 shc_259 rfl (Nat.le_of_ble_eq_true rfl) (Nat.le_of_ble_eq_true rfl) (s0_fits σ (b + i) U (Rf i) (by omega) hCi.1 hCi.2 (fun _ => 0) rg hg hgs (fun k hk => absurd hk (by omega)) T hT) ?_ rfl
          refine Ev.if_ne (tgt := 49) bI_inR dX2_emptyRulesFit_44 (by decide) (fun h44 => ?_) (fun h44 => ?_)
          · skip
            refine Ev.iinc (pl' := [some (vR (260)), some (vR (ra)), some (vL (((w : Nat) : Int))), none, some (vR (rg)), some (vI (((i : Nat) : Int) + 1))]) dX2_emptyRulesFit_49 rfl (Nat.le_of_ble_eq_true rfl) rfl ?_
            refine Ev.goto (tgt := 3) dX2_emptyRulesFit_52 (by decide) ?_
            refine Ev.wk (pl' := [some (vR (260)), some (vR (ra)), some (vL (((w : Nat) : Int))), none, some (vR (rg)), some (vI ((((i + 1) : Nat) : Int)))]) ⟨rfl, ⟨rfl, ⟨rfl, ⟨rfl, ⟨vIe (by omega), trivial⟩⟩⟩⟩⟩ ?_
            exact ih (i + 1) (by omega) (fun r hr hb h0 => (Nat.lt_or_ge r i).elim (fun e => hno r e hb h0) (fun e => by have e2 : r = i := (by omega); subst e2; first | exact bI_1.mp (by assumption) | exact absurd hb (by rw [b2_0.mp h18]; decide) | exact absurd h0 (by omega)))
          · skip
            refine Ev.iconst dX2_emptyRulesFit_47 ?_
            exact Ev.zreturn dX2_emptyRulesFit_48 rfl (Or.inl rfl) (rI (bI_f (fun z => bI_0.mp (by assumption) (z i (by show i < n; omega) hbit (by show rN (Rf i) = 0; omega)))) rfl)

set_option maxRecDepth 100000 in
set_option maxHeartbeats 4000000 in
theorem s2_empty {g : GC} (σ : Sg) (U : Nat) (T : Tb) (hT : TVc σ T) (ra b n : Nat) (hra : ra < 298) (hras : sh0 ra = (4, n)) (hrs : ∀ r, r < n → rho0 ra r = some (26 + 4 * (b + r))) (hbn : b + n ≤ 56) (Rf : Nat → RC) (w : Nat) (hw : w < 2 ^ 62) (hC : ∀ r, r < n → w.testBit r = true → CR σ (b + r) (Rf r) ∧ WR U (Rf r)) (hU : U ≤ 10) (rg : Nat) (hg : rg < 298) (hgs : sh0 rg = (1, 10)) : Ev g mX2_emptyRulesFit 0 [some (vR (260)), some (vR (ra)), some (vL (((w : Nat) : Int))), none, some (vR (rg)), none] [] (M0 (σ)) 0 0 (retI (bI (Bare T (n, Rf, fun r => w.testBit r = true))) σ) := by
  refine Ev.iconst dX2_emptyRulesFit_0 ?_
  refine Ev.istore (pl' := [some (vR (260)), some (vR (ra)), some (vL (((w : Nat) : Int))), none, some (vR (rg)), some (vI (0))]) dX2_emptyRulesFit_1 (Nat.le_of_ble_eq_true rfl) rfl ?_
  refine Ev.wk (pl' := [some (vR (260)), some (vR (ra)), some (vL (((w : Nat) : Int))), none, some (vR (rg)), some (vI (((0 : Nat) : Int)))]) ⟨rfl, ⟨rfl, ⟨rfl, ⟨rfl, ⟨vIe rfl, trivial⟩⟩⟩⟩⟩ ?_
  exact s2_empty_l σ U T hT ra b n hra hras hrs hbn Rf w hw hC hU rg hg hgs n 0 (by omega) (fun r hr => absurd hr (by omega))

set_option maxRecDepth 100000 in
set_option maxHeartbeats 4000000 in
theorem s2_in {g : GC} (σ : Sg) (U : Nat) (T : Tb) (hT : TVc σ T) (ra b n : Nat) (hra : ra < 298) (hras : sh0 ra = (4, n)) (hrs : ∀ r, r < n → rho0 ra r = some (26 + 4 * (b + r))) (hbn : b + n ≤ 56) (Rf : Nat → RC) (w : Nat) (hw : w < 2 ^ 62) (hC : ∀ r, r < n → w.testBit r = true → CR σ (b + r) (Rf r) ∧ WR U (Rf r)) (hU : U ≤ 10) (X0 Xr : Rg) (bb : Bool) (f q : Nat) (hf10 : f < 1024) (hq : q < 161) (r : Nat) (hr : r < n) (hon : w.testBit r = true) (X : Rg) (c0 : Nat) (hc0 : c0 < 1024) (hM : Mid U T (n, Rf, fun r => w.testBit r = true) X0 X) (hg0 : Chg U c0 Xr X) (τ0 : Sg) (hF0 : Same WK σ τ0) (hJ0 : τ0 263 0 = 0) (hG : ∀ k, k < rN (Rf r) → τ0 262 (rO (Rf r) k) = (gn T (Rf r) X k : Int)) : ∀ j i : Nat, i + j = rN (Rf r) → ∀ (τ : Sg) (Y : Rg) (c : Nat), Same [24] τ0 τ → AV τ 24 U Y → Cut T U (Rf r) X Y i → Chg U c Xr Y → c < 1024 → (∀ x, x < U → c.testBit x = false → c0.testBit x = false ∧ Y x = X x) → (∀ (τ : Sg) (Y : Rg) (c : Nat), Same [24] τ0 τ → AV τ 24 U Y → Cut T U (Rf r) X Y (rN (Rf r)) → Chg U c Xr Y → c < 1024 → (∀ x, x < U → c.testBit x = false → c0.testBit x = false ∧ Y x = X x) → Ev g mX2_run 167 [some (vR (260)), some (vR (24)), some (vR (ra)), some (vL (((w : Nat) : Int))), none, some (vI (frI bb f)), some (vI (((q : Nat) : Int))), some (vI (((c : Nat) : Int))), some (vI (((r : Nat) : Int))), none, none, none, none] [] (M0 (τ)) 0 0 (retE (RunP σ U T (n, Rf, fun r => w.testBit r = true) X0))) → Ev g mX2_run 91 [some (vR (260)), some (vR (24)), some (vR (ra)), some (vL (((w : Nat) : Int))), none, some (vI (frI bb f)), some (vI (((q : Nat) : Int))), some (vI (((c : Nat) : Int))), some (vI (((r : Nat) : Int))), some (vR (26 + 4 * ((b + r)))), some (vI (((i : Nat) : Int))), none, none] [] (M0 (τ)) 0 0 (retE (RunP σ U T (n, Rf, fun r => w.testBit r = true) X0)) := by
  intro j
  induction j with
  | zero =>
    intro i hij τ Y c hF hY hcut hchg hc10 hcc kk
    have hCr := (hC r hr hon).1.same (hF0.sub hF) (fun j hj => nWK (by omega) (by omega))
    have hW := (hC r hr hon).2
    have hn6 := hW.1.2.1
    refine Ev.iload dX2_run_91 rfl ?_
    refine Ev.aload dX2_run_93 rfl ?_
    refine gf_X2_49 (x := ((rN (Rf r) : Nat) : Int)) rfl dX2_run_95 (lt_rc (by omega)) (sh_rc (by omega)) hCr.2.2.2.1 ?_
    refine Ev.icmp_ge (tgt := 167) ⟨by omega, by omega⟩ ⟨by omega, by omega⟩ dX2_run_98 (by decide) (fun h98 => ?_) (fun h98 => ?_)
    · skip
      refine Ev.wk (pl' := [some (vR (260)), some (vR (24)), some (vR (ra)), some (vL (((w : Nat) : Int))), none, some (vI (frI bb f)), some (vI (((q : Nat) : Int))), some (vI (((c : Nat) : Int))), some (vI (((r : Nat) : Int))), none, none, none, none]) ⟨rfl, ⟨rfl, ⟨rfl, ⟨rfl, ⟨rfl, ⟨rfl, ⟨rfl, ⟨rfl, trivial⟩⟩⟩⟩⟩⟩⟩⟩ ?_
      exact kk τ Y c hF hY (by rw [← show i = rN (Rf r) by omega]; exact hcut) hchg hc10 hcc
    · exact absurd h98 (by omega)
  | succ j ih =>
    intro i hij τ Y c hF hY hcut hchg hc10 hcc kk
    have hCr := (hC r hr hon).1.same (hF0.sub hF) (fun j hj => nWK (by omega) (by omega))
    have hW := (hC r hr hon).2
    have hn6 := hW.1.2.1
    have hxU : rO (Rf r) i < U := hW.2.1 i (by omega)
    have hnx := hcut.nxt hW (hM.1 _ hxU).2 (by omega)
    have hgl : gn T (Rf r) X i < 65536 := mk_lt _
    have hYl := (hY _ hxU).2.2
    have hll : lft T (Rf r) X i < 65536 := lft_lt
    have hp10 := pow_le16 (show rO (Rf r) i < 16 by omega)
    have hp10 : 2 ^ rO (Rf r) i < 1024 := by have := Nat.pow_le_pow_right (show 0 < 2 by decide) (show rO (Rf r) i ≤ 9 by omega); omega
    refine Ev.iload dX2_run_91 rfl ?_
    refine Ev.aload dX2_run_93 rfl ?_
    refine gf_X2_49 (x := ((rN (Rf r) : Nat) : Int)) rfl dX2_run_95 (lt_rc (by omega)) (sh_rc (by omega)) hCr.2.2.2.1 ?_
    refine Ev.icmp_ge (tgt := 167) ⟨by omega, by omega⟩ ⟨by omega, by omega⟩ dX2_run_98 (by decide) (fun h98 => ?_) (fun h98 => ?_)
    · exact absurd h98 (by omega)
    · skip
      refine Ev.aload dX2_run_101 rfl ?_
      refine gf_X2_52 rfl dX2_run_103 (lt_rc (by omega)) (sh_rc (by omega)) (rf_rc5 (by omega)) ?_
      refine Ev.iload dX2_run_106 rfl ?_
      refine Ev.iaload (v := ((rO (Rf r) i : Nat) : Int)) dX2_run_108 (lt_rcf (by omega) (by decide)) (sh_rc1 (by omega)) (by decide) (by omega) (by omega) (ldx rfl (hCr.2.2.2.2.2 i (by omega)).1) ?_
      refine Ev.istore (pl' := [some (vR (260)), some (vR (24)), some (vR (ra)), some (vL (((w : Nat) : Int))), none, some (vI (frI bb f)), some (vI (((q : Nat) : Int))), some (vI (((c : Nat) : Int))), some (vI (((r : Nat) : Int))), some (vR (26 + 4 * ((b + r)))), some (vI (((i : Nat) : Int))), some (vI (((rO (Rf r) i : Nat) : Int))), none]) dX2_run_109 (Nat.le_of_ble_eq_true rfl) rfl ?_
      refine Ev.aload_n dX2_run_111 rfl rfl ?_
      refine Ev.iload dX2_run_112 rfl ?_
      refine Ev.iaload (v := ((Y (rO (Rf r) i) : Nat) : Int)) dX2_run_114 ltc_24 shc_24 (by decide) (by omega) (Int.ofNat_lt.mpr (Nat.lt_of_lt_of_le hxU hU)) (ldx rfl (hY _ hxU).1) ?_
      refine Ev.aload_n dX2_run_115 rfl rfl ?_
      refine gf_X2_9 rfl dX2_run_116 ltc_260 shc_260 rfc_260_0 ?_
      refine gf_X2_31 rfl dX2_run_119 ltc_261 shc_261 rfc_261_1 ?_
      refine Ev.iload dX2_run_122 rfl ?_
      refine Ev.iaload (v := ((gn T (Rf r) X i : Nat) : Int)) dX2_run_124 ltc_262 shc_262 (by decide) (by omega) (Int.ofNat_lt.mpr (Nat.lt_of_lt_of_le hxU hU)) (ldx rfl ((congrFun (hF 262 (by decide)) _).trans (hG i (by omega)))) ?_
      refine Ev.iconst dX2_run_125 ?_
      refine Ev.ixor dX2_run_126 ?_
      rw [show (iXor (((gn T (Rf r) X i : Nat) : Int)) (-1)) = (-((gn T (Rf r) X i : Nat) : Int) - 1) from iXor_m1 (by omega)]
      refine Ev.iand dX2_run_127 ?_
      rw [show (iAnd (((Y (rO (Rf r) i) : Nat) : Int)) ((-((gn T (Rf r) X i : Nat) : Int) - 1))) = ((lft T (Rf r) X i : Nat) : Int) from by rw [← hnx]; exact iAnd_not (by omega)]
      refine Ev.istore (pl' := [some (vR (260)), some (vR (24)), some (vR (ra)), some (vL (((w : Nat) : Int))), none, some (vI (frI bb f)), some (vI (((q : Nat) : Int))), some (vI (((c : Nat) : Int))), some (vI (((r : Nat) : Int))), some (vR (26 + 4 * ((b + r)))), some (vI (((i : Nat) : Int))), some (vI (((rO (Rf r) i : Nat) : Int))), some (vI (((lft T (Rf r) X i : Nat) : Int)))]) dX2_run_128 (Nat.le_of_ble_eq_true rfl) rfl ?_
      refine Ev.iload dX2_run_130 rfl ?_
      refine Ev.if_ne (tgt := 137) ⟨by omega, by omega⟩ dX2_run_132 (by decide) (fun h132 => ?_) (fun h132 => ?_)
      · skip
        refine Ev.iload dX2_run_137 rfl ?_
        refine Ev.aload_n dX2_run_139 rfl rfl ?_
        refine Ev.iload dX2_run_140 rfl ?_
        refine Ev.iaload (v := ((Y (rO (Rf r) i) : Nat) : Int)) dX2_run_142 ltc_24 shc_24 (by decide) (by omega) (Int.ofNat_lt.mpr (Nat.lt_of_lt_of_le hxU hU)) (ldx rfl (hY _ hxU).1) ?_
        refine Ev.icmp_eq (tgt := 161) ⟨by omega, by omega⟩ ⟨by omega, by omega⟩ dX2_run_143 (by decide) (fun h143 => ?_) (fun h143 => ?_)
        · skip
          refine Ev.iinc (pl' := [some (vR (260)), some (vR (24)), some (vR (ra)), some (vL (((w : Nat) : Int))), none, some (vI (frI bb f)), some (vI (((q : Nat) : Int))), some (vI (((c : Nat) : Int))), some (vI (((r : Nat) : Int))), some (vR (26 + 4 * ((b + r)))), some (vI (((i : Nat) : Int) + 1)), some (vI (((rO (Rf r) i : Nat) : Int))), some (vI (((lft T (Rf r) X i : Nat) : Int)))]) dX2_run_161 rfl (Nat.le_of_ble_eq_true rfl) rfl ?_
          refine Ev.goto (tgt := 91) dX2_run_164 (by decide) ?_
          refine Ev.wk (pl' := [some (vR (260)), some (vR (24)), some (vR (ra)), some (vL (((w : Nat) : Int))), none, some (vI (frI bb f)), some (vI (((q : Nat) : Int))), some (vI (((c : Nat) : Int))), some (vI (((r : Nat) : Int))), some (vR (26 + 4 * ((b + r)))), some (vI ((((i + 1) : Nat) : Int))), none, none]) ⟨rfl, ⟨rfl, ⟨rfl, ⟨rfl, ⟨rfl, ⟨rfl, ⟨rfl, ⟨rfl, ⟨rfl, ⟨vIe (by omega), trivial⟩⟩⟩⟩⟩⟩⟩⟩⟩⟩ ?_
          exact ih (i + 1) (by omega) τ Y c hF hY (hcut.up hW (by omega) (by omega) (by omega) (fun _ _ _ => rfl)) hchg hc10 hcc kk
        · skip
          refine Ev.aload_n dX2_run_146 rfl rfl ?_
          refine Ev.iload dX2_run_147 rfl ?_
          refine Ev.iload dX2_run_149 rfl ?_
          refine Ev.iastore dX2_run_151 ltc_24 shc_24 (by decide) (by omega) (Int.ofNat_lt.mpr (Nat.lt_of_lt_of_le hxU hU)) ?_
          refine Ev.iload dX2_run_152 rfl ?_
          refine Ev.iconst dX2_run_154 ?_
          refine Ev.iload dX2_run_155 rfl ?_
          refine Ev.ishl dX2_run_157 ?_
          rw [show (iShl (1) (((rO (Rf r) i : Nat) : Int))) = ((2 ^ rO (Rf r) i : Nat) : Int) from shl1 (by omega)]
          refine Ev.ior dX2_run_158 ?_
          rw [show (iOr (((c : Nat) : Int)) (((2 ^ rO (Rf r) i : Nat) : Int))) = ((c ||| 2 ^ rO (Rf r) i : Nat) : Int) from iOr_nat (by omega) (by omega)]
          refine Ev.istore (pl' := [some (vR (260)), some (vR (24)), some (vR (ra)), some (vL (((w : Nat) : Int))), none, some (vI (frI bb f)), some (vI (((q : Nat) : Int))), some (vI (((c ||| 2 ^ rO (Rf r) i : Nat) : Int))), some (vI (((r : Nat) : Int))), some (vR (26 + 4 * ((b + r)))), some (vI (((i : Nat) : Int))), some (vI (((rO (Rf r) i : Nat) : Int))), some (vI (((lft T (Rf r) X i : Nat) : Int)))]) dX2_run_159 (Nat.le_of_ble_eq_true rfl) rfl ?_
          refine Ev.iinc (pl' := [some (vR (260)), some (vR (24)), some (vR (ra)), some (vL (((w : Nat) : Int))), none, some (vI (frI bb f)), some (vI (((q : Nat) : Int))), some (vI (((c ||| 2 ^ rO (Rf r) i : Nat) : Int))), some (vI (((r : Nat) : Int))), some (vR (26 + 4 * ((b + r)))), some (vI (((i : Nat) : Int) + 1)), some (vI (((rO (Rf r) i : Nat) : Int))), some (vI (((lft T (Rf r) X i : Nat) : Int)))]) dX2_run_161 rfl (Nat.le_of_ble_eq_true rfl) rfl ?_
          refine Ev.goto (tgt := 91) dX2_run_164 (by decide) ?_
          refine Ev.wk (pl' := [some (vR (260)), some (vR (24)), some (vR (ra)), some (vL (((w : Nat) : Int))), none, some (vI (frI bb f)), some (vI (((q : Nat) : Int))), some (vI ((((c ||| 2 ^ rO (Rf r) i) : Nat) : Int))), some (vI (((r : Nat) : Int))), some (vR (26 + 4 * ((b + r)))), some (vI ((((i + 1) : Nat) : Int))), none, none]) ⟨rfl, ⟨rfl, ⟨rfl, ⟨rfl, ⟨rfl, ⟨rfl, ⟨vIe (by omega), ⟨rfl, ⟨rfl, ⟨vIe (by omega), trivial⟩⟩⟩⟩⟩⟩⟩⟩⟩⟩ ?_
          exact ih (i + 1) (by omega) (upC (τ) 24 (((rO (Rf r) i : Nat) : Int)).toNat (((lft T (Rf r) X i : Nat) : Int))) (upY Y (rO (Rf r) i) (lft T (Rf r) X i)) (c ||| 2 ^ rO (Rf r) i) (hF.up (by decide)) (av_up rfl rfl (by omega) lft_lt hY) (hcut.up hW (by omega) (by omega) upY_at (fun _ _ hne => upY_ne hne)) (hchg.up hxU (hY _ hxU).2.2 (by rw [upY_at, ← hnx]; exact sub_andN _ _) (by rw [upY_at]; omega) (fun _ _ hne => upY_ne hne)) (Nat.or_lt_two_pow (n := 10) hc10 (by omega)) (fun x hx hb => by have hb2 := or_f hb; have hne : x ≠ rO (Rf r) i := (fun e => by have := hb2.2; rw [e, Nat.testBit_two_pow] at this; simp at this); rw [upY_ne hne]; exact hcc x hx hb2.1) kk
      · skip
        refine Ev.iconst dX2_run_135 ?_
        exact Ev.zreturn dX2_run_136 rfl (Or.inl rfl) (rE (RunP.no (Cut.gone (S := (n, Rf, fun r => w.testBit r = true)) (fun r hr hon => (hC r hr hon).2) hr hon hM (show i < rN (Rf r) by omega) (by show lft T (Rf r) X i = 0; omega)) (hF0.sub hF) (by rw [hF 263 (by decide)]; exact hJ0)))

set_option maxRecDepth 100000 in
set_option maxHeartbeats 4000000 in
theorem s2_rules {g : GC} (σ : Sg) (U : Nat) (T : Tb) (hT : TVc σ T) (ra b n : Nat) (hra : ra < 298) (hras : sh0 ra = (4, n)) (hrs : ∀ r, r < n → rho0 ra r = some (26 + 4 * (b + r))) (hbn : b + n ≤ 56) (Rf : Nat → RC) (w : Nat) (hw : w < 2 ^ 62) (hC : ∀ r, r < n → w.testBit r = true → CR σ (b + r) (Rf r) ∧ WR U (Rf r)) (hU : U ≤ 10) (X0 Xr : Rg) (bb : Bool) (f q : Nat) (hf10 : f < 1024) (hq : q < 161) (hcl0 : Cl0 T (n, Rf, fun r => w.testBit r = true) bb f Xr) (hXr : NEm U Xr) : ∀ j r : Nat, r + j = n → ∀ (τ : Sg) (X : Rg) (c : Nat), Same WK σ τ → τ 263 0 = 0 → AV τ 24 U X → Mid U T (n, Rf, fun r => w.testBit r = true) X0 X → Chg U c Xr X → c < 1024 → Cln T (n, Rf, fun r => w.testBit r = true) c X r → (∀ (τ : Sg) (X : Rg) (c : Nat), Same WK σ τ → τ 263 0 = 0 → AV τ 24 U X → Mid U T (n, Rf, fun r => w.testBit r = true) X0 X → Chg U c Xr X → c < 1024 → Cln T (n, Rf, fun r => w.testBit r = true) c X n → Ev g mX2_run 173 [some (vR (260)), some (vR (24)), some (vR (ra)), some (vL (((w : Nat) : Int))), none, some (vI (frI bb f)), some (vI (((q : Nat) : Int))), some (vI (((c : Nat) : Int))), none, none, none, none, none] [] (M0 (τ)) 0 0 (retE (RunP σ U T (n, Rf, fun r => w.testBit r = true) X0))) → Ev g mX2_run 37 [some (vR (260)), some (vR (24)), some (vR (ra)), some (vL (((w : Nat) : Int))), none, some (vI (frI bb f)), some (vI (((q : Nat) : Int))), some (vI (((c : Nat) : Int))), some (vI (((r : Nat) : Int))), none, none, none, none] [] (M0 (τ)) 0 0 (retE (RunP σ U T (n, Rf, fun r => w.testBit r = true) X0)) := by
  intro j
  induction j with
  | zero =>
    intro r hij τ X c hF hJ hX hM hchg hc10 hcl kk
    refine Ev.iload dX2_run_37 rfl ?_
    refine Ev.aload_n dX2_run_39 rfl rfl ?_
    refine Ev.ralen dX2_run_40 hra hras ?_
    refine Ev.icmp_ge (tgt := 173) ⟨by omega, by omega⟩ ⟨by omega, by omega⟩ dX2_run_41 (by decide) (fun h41 => ?_) (fun h41 => ?_)
    · skip
      refine Ev.wk (pl' := [some (vR (260)), some (vR (24)), some (vR (ra)), some (vL (((w : Nat) : Int))), none, some (vI (frI bb f)), some (vI (((q : Nat) : Int))), some (vI (((c : Nat) : Int))), none, none, none, none, none]) ⟨rfl, ⟨rfl, ⟨rfl, ⟨rfl, ⟨rfl, ⟨rfl, ⟨rfl, trivial⟩⟩⟩⟩⟩⟩⟩ ?_
      exact kk τ X c hF hJ hX hM hchg hc10 (by rw [← show r = n by omega]; exact hcl)
    · exact absurd h41 (by omega)
  | succ j ih =>
    intro r hij τ X c hF hJ hX hM hchg hc10 hcl kk
    refine Ev.iload dX2_run_37 rfl ?_
    refine Ev.aload_n dX2_run_39 rfl rfl ?_
    refine Ev.ralen dX2_run_40 hra hras ?_
    refine Ev.icmp_ge (tgt := 173) ⟨by omega, by omega⟩ ⟨by omega, by omega⟩ dX2_run_41 (by decide) (fun h41 => ?_) (fun h41 => ?_)
    · exact absurd h41 (by omega)
    · skip
      refine Ev.aload_n dX2_run_44 rfl rfl ?_
      refine Ev.iload dX2_run_45 rfl ?_
      refine Ev.raload dX2_run_47 hra hras (by omega) (by omega) (by omega) (hrs r (by omega)) ?_
      refine Ev.astore (pl' := [some (vR (260)), some (vR (24)), some (vR (ra)), some (vL (((w : Nat) : Int))), none, some (vI (frI bb f)), some (vI (((q : Nat) : Int))), some (vI (((c : Nat) : Int))), some (vI (((r : Nat) : Int))), some (vR (26 + 4 * ((b + r)))), none, none, none]) dX2_run_48 (Nat.le_of_ble_eq_true rfl) rfl ?_
      refine Ev.lload_n dX2_run_50 rfl rfl ?_
      refine Ev.iload dX2_run_51 rfl ?_
      refine Ev.lshr dX2_run_53 ?_
      refine Ev.lconst 1 rfl dX2_run_54 ?_
      refine Ev.land dX2_run_55 ?_
      rw [show (lAnd ((lShr (((w : Nat) : Int)) (((r : Nat) : Int)))) (1)) = ((b2 (Nat.testBit w r) : Nat) : Int) from lbit_nat (by omega) (by omega)]
      refine Ev.lconst 0 rfl dX2_run_56 ?_
      refine Ev.lcmp b2_inL ⟨by decide, by decide⟩ dX2_run_57 ?_
      rw [show (lCmp (((b2 (Nat.testBit w r) : Nat) : Int)) (0)) = (((b2 (Nat.testBit w r)) : Nat) : Int) from lCmp_b2]
      refine Ev.if_eq (tgt := 167) b2_inR dX2_run_58 (by decide) (fun h58 => ?_) (fun h58 => ?_)
      · skip
        refine Ev.iinc (pl' := [some (vR (260)), some (vR (24)), some (vR (ra)), some (vL (((w : Nat) : Int))), none, some (vI (frI bb f)), some (vI (((q : Nat) : Int))), some (vI (((c : Nat) : Int))), some (vI (((r : Nat) : Int) + 1)), some (vR (26 + 4 * ((b + r)))), none, none, none]) dX2_run_167 rfl (Nat.le_of_ble_eq_true rfl) rfl ?_
        refine Ev.goto (tgt := 37) dX2_run_170 (by decide) ?_
        refine Ev.wk (pl' := [some (vR (260)), some (vR (24)), some (vR (ra)), some (vL (((w : Nat) : Int))), none, some (vI (frI bb f)), some (vI (((q : Nat) : Int))), some (vI (((c : Nat) : Int))), some (vI ((((r + 1) : Nat) : Int))), none, none, none, none]) ⟨rfl, ⟨rfl, ⟨rfl, ⟨rfl, ⟨rfl, ⟨rfl, ⟨rfl, ⟨vIe (by omega), trivial⟩⟩⟩⟩⟩⟩⟩⟩ ?_
        exact ih (r + 1) (by omega) τ X c hF hJ hX hM hchg hc10 (hcl.up (S := (n, Rf, fun r => w.testBit r = true)) (fun hon hk => by
            first
              | exact absurd hon (by show ¬ w.testBit r = true; rw [b2_0.mp h58]; decide)
              | exact Cl0.at (S := (n, Rf, fun r => w.testBit r = true)) (X0 := X0) (fun r hr hon => (hC r hr hon).2) hcl0 (show r < n by omega) hon hXr hchg (fun k hk2 => mem_f (hC r (by omega) hon).2 (by omega) hk2))) kk
      · skip
        have hon := b2_ne.mp h58
        have hCr := (hC r (by omega) hon).1.same hF (fun j hj => nWK (by omega) (by omega))
        have hW := (hC r (by omega) hon).2
        have hn6 := hW.1.2.1
        refine Ev.aload dX2_run_61 rfl ?_
        refine gf_X2_45 (x := ((memM (Rf r) : Nat) : Int)) rfl dX2_run_63 (lt_rc (by omega)) (sh_rc (by omega)) hCr.2.2.2.2.1 ?_
        refine Ev.iload dX2_run_66 rfl ?_
        refine Ev.iload dX2_run_68 rfl ?_
        refine Ev.ior dX2_run_70 ?_
        rw [show (iOr (frI bb f) (((c : Nat) : Int))) = frI bb (f ||| c) from fr_or hf10 hc10]
        refine Ev.iand dX2_run_71 ?_
        rw [show (iAnd (((memM (Rf r) : Nat) : Int)) (frI bb (f ||| c))) = ((frM bb (memM (Rf r)) (f ||| c) : Nat) : Int) from fr_and memM_lt]
        refine Ev.if_ne (tgt := 78) ⟨by omega, by have := @frM_lt bb (memM (Rf r)) (f ||| c) memM_lt; omega⟩ dX2_run_72 (by decide) (fun h72 => ?_) (fun h72 => ?_)
        · skip
          refine Ev.aload_n dX2_run_78 rfl rfl ?_
          refine gf_X2_9 rfl dX2_run_79 ltc_260 shc_260 rfc_260_0 ?_
          refine Ev.aload dX2_run_82 rfl ?_
          refine Ev.aload_n dX2_run_84 rfl rfl ?_
          refine Ev.callV_G (M2 := mX1_look) (args2 := [vR (26 + 4 * ((b + r))), vR (24)]) (rcv := 261) (q := (RX1, TX1, 5)) (ci := 1) dX2_run_85 okX1_look lk_X2_19 ovX1_look.1.1 ovX1_look.1.2 ovX1_look.2 (by decide) rfl rfl ltc_261 shc_261 rfl (Nat.le_of_ble_eq_true rfl) (Nat.le_of_ble_eq_true rfl) (s1_look τ (b + r) U (Rf r) (by omega) hCr hW X 24 ltc_24 shc_24 (by decide) hX T (hT.same hF (fun c h1 h2 => nWK (by omega) (by omega))) hJ) (fun v_ m_ hp_ => ?_) rfl
          obtain ⟨τ1, rfl, rfl, k1, hJ1, hG1⟩ := hp_
          have hF1 : Same WK σ τ1 := hF.tr (k1.wide fun c hc => by simp at hc ⊢; omega)
          have hX1 := hX.same k1 (by decide)
          show Ev g mX2_run 88 [some (vR (260)), some (vR (24)), some (vR (ra)), some (vL (((w : Nat) : Int))), none, some (vI (frI bb f)), some (vI (((q : Nat) : Int))), some (vI (((c : Nat) : Int))), some (vI (((r : Nat) : Int))), some (vR (26 + 4 * ((b + r)))), none, none, none] [] (M0 (τ1)) 0 0 _
          refine Ev.iconst dX2_run_88 ?_
          refine Ev.istore (pl' := [some (vR (260)), some (vR (24)), some (vR (ra)), some (vL (((w : Nat) : Int))), none, some (vI (frI bb f)), some (vI (((q : Nat) : Int))), some (vI (((c : Nat) : Int))), some (vI (((r : Nat) : Int))), some (vR (26 + 4 * ((b + r)))), some (vI (0)), none, none]) dX2_run_89 (Nat.le_of_ble_eq_true rfl) rfl ?_
          refine Ev.wk (pl' := [some (vR (260)), some (vR (24)), some (vR (ra)), some (vL (((w : Nat) : Int))), none, some (vI (frI bb f)), some (vI (((q : Nat) : Int))), some (vI (((c : Nat) : Int))), some (vI (((r : Nat) : Int))), some (vR (26 + 4 * ((b + r)))), some (vI (((0 : Nat) : Int))), none, none]) ⟨rfl, ⟨rfl, ⟨rfl, ⟨rfl, ⟨rfl, ⟨rfl, ⟨rfl, ⟨rfl, ⟨rfl, ⟨vIe rfl, trivial⟩⟩⟩⟩⟩⟩⟩⟩⟩⟩ ?_
          refine s2_in σ U T hT ra b n hra hras hrs hbn Rf w hw hC hU X0 Xr bb f q hf10 hq r (by omega) hon X c hc10 hM hchg τ1 hF1 hJ1 hG1 (rN (Rf r)) 0 (by omega) τ1 X c Same.rf hX1 Cut.rf hchg hc10 (fun x hx hb => ⟨hb, rfl⟩) (fun τ2 Y c2 g1 g2 g3 g4 g5 g6 => ?_)
          refine Ev.iinc (pl' := [some (vR (260)), some (vR (24)), some (vR (ra)), some (vL (((w : Nat) : Int))), none, some (vI (frI bb f)), some (vI (((q : Nat) : Int))), some (vI (((c2 : Nat) : Int))), some (vI (((r : Nat) : Int) + 1)), none, none, none, none]) dX2_run_167 rfl (Nat.le_of_ble_eq_true rfl) rfl ?_
          refine Ev.goto (tgt := 37) dX2_run_170 (by decide) ?_
          refine Ev.wk (pl' := [some (vR (260)), some (vR (24)), some (vR (ra)), some (vL (((w : Nat) : Int))), none, some (vI (frI bb f)), some (vI (((q : Nat) : Int))), some (vI (((c2 : Nat) : Int))), some (vI ((((r + 1) : Nat) : Int))), none, none, none, none]) ⟨rfl, ⟨rfl, ⟨rfl, ⟨rfl, ⟨rfl, ⟨rfl, ⟨rfl, ⟨vIe (by omega), trivial⟩⟩⟩⟩⟩⟩⟩⟩ ?_
          exact ih (r + 1) (by omega) τ2 Y c2 (hF1.sub g1) (by rw [g1 263 (by decide)]; exact hJ1) g2 (Cut.mid (S := (n, Rf, fun r => w.testBit r = true)) (r := r) (fun r hr hon => (hC r hr hon).2) (show r < n by omega) hon hM (Nat.le_refl _) g3) g4 g5 (Cln.look (S := (n, Rf, fun r => w.testBit r = true)) (fun r hr hon => (hC r hr hon).2) (show r < n by omega) hon hM.1 hcl g3 g6) kk
        · skip
          refine Ev.goto (tgt := 167) dX2_run_75 (by decide) ?_
          refine Ev.iinc (pl' := [some (vR (260)), some (vR (24)), some (vR (ra)), some (vL (((w : Nat) : Int))), none, some (vI (frI bb f)), some (vI (((q : Nat) : Int))), some (vI (((c : Nat) : Int))), some (vI (((r : Nat) : Int) + 1)), some (vR (26 + 4 * ((b + r)))), none, none, none]) dX2_run_167 rfl (Nat.le_of_ble_eq_true rfl) rfl ?_
          refine Ev.goto (tgt := 37) dX2_run_170 (by decide) ?_
          refine Ev.wk (pl' := [some (vR (260)), some (vR (24)), some (vR (ra)), some (vL (((w : Nat) : Int))), none, some (vI (frI bb f)), some (vI (((q : Nat) : Int))), some (vI (((c : Nat) : Int))), some (vI ((((r + 1) : Nat) : Int))), none, none, none, none]) ⟨rfl, ⟨rfl, ⟨rfl, ⟨rfl, ⟨rfl, ⟨rfl, ⟨rfl, ⟨vIe (by omega), trivial⟩⟩⟩⟩⟩⟩⟩⟩ ?_
          exact ih (r + 1) (by omega) τ X c hF hJ hX hM hchg hc10 (hcl.up (S := (n, Rf, fun r => w.testBit r = true)) (fun hon hk => by
            first
              | exact absurd hon (by show ¬ w.testBit r = true; rw [b2_0.mp h58]; decide)
              | exact Cl0.at (S := (n, Rf, fun r => w.testBit r = true)) (X0 := X0) (fun r hr hon => (hC r hr hon).2) hcl0 (show r < n by omega) hon hXr hchg (fun k hk2 => mem_f (hC r (by omega) hon).2 (by omega) hk2))) kk

theorem fr_ne {bb : Bool} {f : Nat} (h : frI bb f ≠ 0) : bb = true ∨ f ≠ 0 := by
  cases bb
  · exact Or.inr fun e => h (by rw [e]; rfl)
  · exact Or.inl rfl
theorem fr_eq {bb : Bool} {f k m : Nat} (h : (bb = true ∨ f ≠ 0) → k + m ≤ 160) (hm : 161 ≤ m) : bb = false ∧ f = 0 := by
  cases bb
  · by_cases e : f = 0
    · exact ⟨rfl, e⟩
    · have := h (Or.inr e); omega
  · have := h (Or.inl rfl); omega
set_option maxRecDepth 100000 in
set_option maxHeartbeats 4000000 in
theorem s2_rounds {g : GC} (σ : Sg) (U : Nat) (T : Tb) (hT : TVc σ T) (ra b n : Nat) (hra : ra < 298) (hras : sh0 ra = (4, n)) (hrs : ∀ r, r < n → rho0 ra r = some (26 + 4 * (b + r))) (hbn : b + n ≤ 56) (Rf : Nat → RC) (w : Nat) (hw : w < 2 ^ 62) (hC : ∀ r, r < n → w.testBit r = true → CR σ (b + r) (Rf r) ∧ WR U (Rf r)) (hU : U ≤ 10) (X0 : Rg) (hbare : Bare T (n, Rf, fun r => w.testBit r = true)) : ∀ j q : Nat, q + j = 161 → ∀ (τ : Sg) (X : Rg) (bb : Bool) (f : Nat), Same WK σ τ → τ 263 0 = 0 → AV τ 24 U X → Mid U T (n, Rf, fun r => w.testBit r = true) X0 X → f < 1024 → Cl0 T (n, Rf, fun r => w.testBit r = true) bb f X → ((bb = true ∨ f ≠ 0) → totP U X + q ≤ 160) → Ev g mX2_run 18 [some (vR (260)), some (vR (24)), some (vR (ra)), some (vL (((w : Nat) : Int))), none, some (vI (frI bb f)), some (vI (((q : Nat) : Int))), none, none, none, none, none, none] [] (M0 (τ)) 0 0 (retE (RunP σ U T (n, Rf, fun r => w.testBit r = true) X0)) := by
  intro j
  induction j with
  | zero =>
    intro q hij τ X bb f hF hJ hX hM hf10 hcl0 htot
    refine Ev.iload dX2_run_18 rfl ?_
    refine Ev.sipush (n := 161) (by decide) dX2_run_20 ?_
    refine Ev.icmp_ge (tgt := 183) ⟨by omega, by omega⟩ ⟨by decide, by decide⟩ dX2_run_23 (by decide) (fun h23 => ?_) (fun h23 => ?_)
    · skip
      refine Ev.iconst dX2_run_183 ?_
      exact Ev.zreturn dX2_run_184 rfl (Or.inr rfl) (rE (RunP.yes hbare (Cln.nar (S := (n, Rf, fun r => w.testBit r = true)) hM (by have hz : bb = false ∧ f = 0 := (by first | exact frI_0 (by assumption) | exact fr_eq htot (by omega)); obtain ⟨rfl, rfl⟩ := hz; exact fun r hr hon hk => hcl0 r hr hon (fun k hk2 => ⟨rfl, hk k hk2⟩))) hF hJ hX))
    · exact absurd h23 (by omega)
  | succ j ih =>
    intro q hij τ X bb f hF hJ hX hM hf10 hcl0 htot
    refine Ev.iload dX2_run_18 rfl ?_
    refine Ev.sipush (n := 161) (by decide) dX2_run_20 ?_
    refine Ev.icmp_ge (tgt := 183) ⟨by omega, by omega⟩ ⟨by decide, by decide⟩ dX2_run_23 (by decide) (fun h23 => ?_) (fun h23 => ?_)
    · exact absurd h23 (by omega)
    · skip
      refine Ev.iload dX2_run_26 rfl ?_
      refine Ev.if_eq (tgt := 183) (frI_inR hf10) dX2_run_28 (by decide) (fun h28 => ?_) (fun h28 => ?_)
      · skip
        refine Ev.iconst dX2_run_183 ?_
        exact Ev.zreturn dX2_run_184 rfl (Or.inr rfl) (rE (RunP.yes hbare (Cln.nar (S := (n, Rf, fun r => w.testBit r = true)) hM (by have hz : bb = false ∧ f = 0 := (by first | exact frI_0 (by assumption) | exact fr_eq htot (by omega)); obtain ⟨rfl, rfl⟩ := hz; exact fun r hr hon hk => hcl0 r hr hon (fun k hk2 => ⟨rfl, hk k hk2⟩))) hF hJ hX))
      · skip
        refine Ev.iconst dX2_run_31 ?_
        refine Ev.istore (pl' := [some (vR (260)), some (vR (24)), some (vR (ra)), some (vL (((w : Nat) : Int))), none, some (vI (frI bb f)), some (vI (((q : Nat) : Int))), some (vI (0)), none, none, none, none, none]) dX2_run_32 (Nat.le_of_ble_eq_true rfl) rfl ?_
        refine Ev.iconst dX2_run_34 ?_
        refine Ev.istore (pl' := [some (vR (260)), some (vR (24)), some (vR (ra)), some (vL (((w : Nat) : Int))), none, some (vI (frI bb f)), some (vI (((q : Nat) : Int))), some (vI (0)), some (vI (0)), none, none, none, none]) dX2_run_35 (Nat.le_of_ble_eq_true rfl) rfl ?_
        refine Ev.wk (pl' := [some (vR (260)), some (vR (24)), some (vR (ra)), some (vL (((w : Nat) : Int))), none, some (vI (frI bb f)), some (vI (((q : Nat) : Int))), some (vI (((0 : Nat) : Int))), some (vI (((0 : Nat) : Int))), none, none, none, none]) ⟨rfl, ⟨rfl, ⟨rfl, ⟨rfl, ⟨rfl, ⟨rfl, ⟨vIe rfl, ⟨vIe rfl, trivial⟩⟩⟩⟩⟩⟩⟩⟩ ?_
        refine s2_rules σ U T hT ra b n hra hras hrs hbn Rf w hw hC hU X0 X bb f q hf10 (by omega) hcl0 hM.1 n 0 (by omega) τ X 0 hF hJ hX hM Chg.rf (by decide) (fun r hr => absurd hr (by omega)) (fun τ2 X2 c2 g1 g2 g3 g4 g5 g6 g7 => ?_)
        refine Ev.iload dX2_run_173 rfl ?_
        refine Ev.istore (pl' := [some (vR (260)), some (vR (24)), some (vR (ra)), some (vL (((w : Nat) : Int))), none, some (vI (((c2 : Nat) : Int))), some (vI (((q : Nat) : Int))), some (vI (((c2 : Nat) : Int))), none, none, none, none, none]) dX2_run_175 (Nat.le_of_ble_eq_true rfl) rfl ?_
        refine Ev.iinc (pl' := [some (vR (260)), some (vR (24)), some (vR (ra)), some (vL (((w : Nat) : Int))), none, some (vI (((c2 : Nat) : Int))), some (vI (((q : Nat) : Int) + 1)), some (vI (((c2 : Nat) : Int))), none, none, none, none, none]) dX2_run_177 rfl (Nat.le_of_ble_eq_true rfl) rfl ?_
        refine Ev.goto (tgt := 18) dX2_run_180 (by decide) ?_
        refine Ev.wk (pl' := [some (vR (260)), some (vR (24)), some (vR (ra)), some (vL (((w : Nat) : Int))), none, some (vI (frI false c2)), some (vI ((((q + 1) : Nat) : Int))), none, none, none, none, none, none]) ⟨rfl, ⟨rfl, ⟨rfl, ⟨rfl, ⟨vIe rfl, ⟨vIe (by omega), trivial⟩⟩⟩⟩⟩⟩ ?_
        exact ih (q + 1) (by omega) τ2 X2 false c2 g1 g2 g3 g4 g6 (fun r hr hon hk => g7 r hr hon (fun k hk2 => (hk k hk2).2)) (fun hor => by have h1 := g5.2.2 (by rcases hor with z | z; exact absurd z (by decide); exact z); have h2 := htot (fr_ne (by assumption)); omega)

set_option maxRecDepth 100000 in
set_option maxHeartbeats 4000000 in
theorem s2_run {g : GC} (σ : Sg) (U : Nat) (T : Tb) (hT : TVc σ T) (ra b n : Nat) (hra : ra < 298) (hras : sh0 ra = (4, n)) (hrs : ∀ r, r < n → rho0 ra r = some (26 + 4 * (b + r))) (hbn : b + n ≤ 56) (Rf : Nat → RC) (w : Nat) (hw : w < 2 ^ 62) (hC : ∀ r, r < n → w.testBit r = true → CR σ (b + r) (Rf r) ∧ WR U (Rf r)) (hU : U ≤ 10) (X0 : Rg) (hX : AV σ 24 U X0) (hJ : σ 263 0 = 0) : Ev g mX2_run 0 [some (vR (260)), some (vR (24)), some (vR (ra)), some (vL (((w : Nat) : Int))), none, none, none, none, none, none, none, none, none] [] (M0 (σ)) 0 0 (retE (RunP σ U T (n, Rf, fun r => w.testBit r = true) X0)) := by
  refine Ev.aload_n dX2_run_0 rfl rfl ?_
  refine Ev.aload_n dX2_run_1 rfl rfl ?_
  refine Ev.lload_n dX2_run_2 rfl rfl ?_
  refine Ev.aload_n dX2_run_3 rfl rfl ?_
  refine Ev.callV_I (M2 := mX2_emptyRulesFit) (args2 := [vR (ra), vL (((w : Nat) : Int)), vR (24)]) (rcv := 260) (q := (RX2, TX2, 2)) (ci := 2) dX2_run_4 okX2_emptyRulesFit lk_X2_41 ovX2_emptyRulesFit.1.1 ovX2_emptyRulesFit.1.2 ovX2_emptyRulesFit.2 (by decide) rfl rfl ltc_260 shc_260 rfl (Nat.le_of_ble_eq_true rfl) (Nat.le_of_ble_eq_true rfl) (s2_empty σ U T hT ra b n hra hras hrs hbn Rf w hw hC hU 24 ltc_24 shc_24) ?_ rfl
  refine Ev.if_ne (tgt := 12) bI_inR dX2_run_7 (by decide) (fun h7 => ?_) (fun h7 => ?_)
  · skip
    refine Ev.iconst dX2_run_12 ?_
    refine Ev.istore (pl' := [some (vR (260)), some (vR (24)), some (vR (ra)), some (vL (((w : Nat) : Int))), none, some (vI (-1)), none, none, none, none, none, none, none]) dX2_run_13 (Nat.le_of_ble_eq_true rfl) rfl ?_
    refine Ev.iconst dX2_run_15 ?_
    refine Ev.istore (pl' := [some (vR (260)), some (vR (24)), some (vR (ra)), some (vL (((w : Nat) : Int))), none, some (vI (-1)), some (vI (0)), none, none, none, none, none, none]) dX2_run_16 (Nat.le_of_ble_eq_true rfl) rfl ?_
    refine Ev.wk (pl' := [some (vR (260)), some (vR (24)), some (vR (ra)), some (vL (((w : Nat) : Int))), none, some (vI (frI true 0)), some (vI (((0 : Nat) : Int))), none, none, none, none, none, none]) ⟨rfl, ⟨rfl, ⟨rfl, ⟨rfl, ⟨vIe rfl, ⟨vIe rfl, trivial⟩⟩⟩⟩⟩⟩ ?_
    exact s2_rounds σ U T hT ra b n hra hras hrs hbn Rf w hw hC hU X0 (bI_1.mp (by assumption)) 161 0 (by omega) σ X0 true 0 Same.rf hJ hX (Mid.start (fun x hx => (hX x hx).2)) (by decide) (fun r hr hon hk i hi => absurd (hk i hi).1 (by decide)) (fun _ => by have := totP_16 U X0; omega)
  · skip
    refine Ev.iconst dX2_run_10 ?_
    exact Ev.zreturn dX2_run_11 rfl (Or.inl rfl) (rE (RunP.no (fun z => bI_0.mp (by assumption) z.1) Same.rf hJ))

