/-! THE CLASS: what fits a rule -/
theorem and_pow0 {m a : Nat} : m &&& 2 ^ a = 0 ↔ m.testBit a = false := by
  constructor
  · intro z
    have : (m &&& 2 ^ a).testBit a = false := by rw [z, Nat.zero_testBit]
    rw [Nat.testBit_and, Nat.testBit_two_pow] at this
    simpa using this
  · intro z
    apply Nat.eq_of_testBit_eq
    intro j
    rw [Nat.zero_testBit, Nat.testBit_and, Nat.testBit_two_pow]
    by_cases e : a = j
    · rw [← e, z]; rfl
    · simp [e]
/-- the numbers of the first n parts -/
noncomputable def snM (R : RC) (A : An) (n : Nat) : Nat := mk (fun v => ∃ k, k < n ∧ A (rO R k) = v)
theorem snM_tb {R : RC} {A : An} {n v : Nat} (hv : v < 16) : (snM R A n).testBit v = true ↔ ∃ k, k < n ∧ A (rO R k) = v := by
  unfold snM
  rw [mkN_tb]
  exact ⟨fun z => z.2, fun z => ⟨hv, z⟩⟩
theorem snM_0 {R : RC} {A : An} : snM R A 0 = 0 := (mk_eq (by decide) (fun v _ => by
  constructor
  · intro z; rw [Nat.zero_testBit] at z; cases z
  · rintro ⟨k, hk, _⟩; exact absurd hk (by omega))).symm
theorem snM_s {R : RC} {A : An} {n : Nat} (h : A (rO R n) < 16) : snM R A n ||| 2 ^ A (rO R n) = snM R A (n + 1) := mk_eq (Nat.or_lt_two_pow (n := 16) (mk_lt _) (by have := pow_le16 h; omega)) (fun v hv => by
  rw [Nat.testBit_or, Nat.testBit_two_pow, Bool.or_eq_true, snM_tb hv]
  constructor
  · rintro (⟨k, h1, h2⟩ | z)
    · exact ⟨k, by omega, h2⟩
    · exact ⟨n, by omega, by simpa using z⟩
  · rintro ⟨k, h1, h2⟩
    rcases Nat.lt_or_ge k n with h3 | h3
    · exact Or.inl ⟨k, h3, h2⟩
    · right; rw [← h2, show k = n by omega]; simp)
theorem fUnl_no {R : RC} {A : An} {n m : Nat} (hn : n < m) (h : A (rO R n) < 16) (hb : (snM R A n).testBit (A (rO R n)) = true) : ¬ fUnl R A m := fun z => by
  obtain ⟨k, h1, h2⟩ := (snM_tb h).mp hb
  exact z k n h1 hn h2
theorem fUnl_n {R : RC} {A : An} {n : Nat} (h : A (rO R n) < 16) (hf : fUnl R A n) (hb : (snM R A n).testBit (A (rO R n)) = false) : fUnl R A (n + 1) := fUnl_s hf fun j hj e => by
  rw [(snM_tb h).mpr ⟨j, hj, e⟩] at hb
  cases hb
def fRow (T : Tb) (R : RC) (A : An) (t q n : Nat) : Prop := ∀ k, k < n → T.2 t (q * rN R + k) = A (rO R k)
theorem fRow_s {T : Tb} {R : RC} {A : An} {t q n : Nat} (h : fRow T R A t q n) (h2 : T.2 t (q * rN R + n) = A (rO R n)) : fRow T R A t q (n + 1) := fun k hk => by
  rcases Nat.lt_or_ge k n with h3 | h3
  · exact h k h3
  · rw [show k = n by omega]; exact h2
theorem fTab_iff {T : Tb} {R : RC} {A : An} {t : Nat} (ht : rS R = t) : fTab T R A ↔ ∃ q, q < nRows T t (rN R) ∧ fRow T R A t q (rN R) := by
  unfold fTab rowOk fRow
  rw [show (rS R).toNat = t by omega]
  constructor
  · rintro ⟨q, h1, h2⟩
    exact ⟨q, nRows_lt.mpr h1, h2⟩
  · rintro ⟨q, h1, h2⟩
    exact ⟨q, nRows_lt.mp h1, h2⟩
set_option maxRecDepth 100000 in
set_option maxHeartbeats 4000000 in
theorem s0_sum {g : GC} (σ : Sg) (r U : Nat) (R : RC) (hr : r < 56) (hM : CR σ r R) (hW : WR U R) (A : An) (rg : Nat) (hg : rg < 298) (hgs : sh0 rg = (1, 10)) (hA : ∀ k, k < rN R → σ rg (rO R k) = (A (rO R k) : Int) ∧ A (rO R k) < 16) (hk0 : rK R = 0) {Post : Option PV → Mem → Prop} : ∀ j K : Nat, K + j = rN R → Ev g mX0_fitsSum 36 [some (vR (26 + 4 * r)), some (vR (rg)), some (vI (fS R A (rN R))), none] [] (M0 (σ)) 0 0 Post → Ev g mX0_fitsSum 4 [some (vR (26 + 4 * r)), some (vR (rg)), some (vI (fS R A K)), some (vI (((K : Nat) : Int)))] [] (M0 (σ)) 0 0 (Post) := by
  intro j
  induction j with
  | zero =>
    intro K hij kk
    obtain ⟨hK, hS, hB, hN, hE, hP⟩ := id hM
    obtain ⟨⟨hk5, hn6, hU⟩, hO, -⟩ := id hW
    obtain ⟨hs0, hb0, hA0⟩ := hW.2.2.1 hk0
    refine Ev.iload_n dX0_fitsSum_4 rfl rfl ?_
    refine Ev.aload_n dX0_fitsSum_5 rfl rfl ?_
    refine gf_X0_38 (x := ((rN R : Nat) : Int)) rfl dX0_fitsSum_6 (lt_rc (by omega)) (sh_rc (by omega)) hN ?_
    refine Ev.icmp_ge (tgt := 36) ⟨by omega, by omega⟩ ⟨by omega, by omega⟩ dX0_fitsSum_9 (by decide) (fun h9 => ?_) (fun h9 => ?_)
    · skip
      refine Ev.wk (pl' := [some (vR (26 + 4 * r)), some (vR (rg)), some (vI (fS R A (rN R))), none]) ⟨rfl, ⟨rfl, ⟨vIe (by rw [show K = rN R by omega]), trivial⟩⟩⟩ ?_
      exact kk
    · exact absurd h9 (by omega)
  | succ j ih =>
    intro K hij kk
    obtain ⟨hK, hS, hB, hN, hE, hP⟩ := id hM
    obtain ⟨⟨hk5, hn6, hU⟩, hO, -⟩ := id hW
    obtain ⟨hs0, hb0, hA0⟩ := hW.2.2.1 hk0
    refine Ev.iload_n dX0_fitsSum_4 rfl rfl ?_
    refine Ev.aload_n dX0_fitsSum_5 rfl rfl ?_
    refine gf_X0_38 (x := ((rN R : Nat) : Int)) rfl dX0_fitsSum_6 (lt_rc (by omega)) (sh_rc (by omega)) hN ?_
    refine Ev.icmp_ge (tgt := 36) ⟨by omega, by omega⟩ ⟨by omega, by omega⟩ dX0_fitsSum_9 (by decide) (fun h9 => ?_) (fun h9 => ?_)
    · exact absurd h9 (by omega)
    · skip
      refine Ev.iload_n dX0_fitsSum_12 rfl rfl ?_
      refine Ev.aload_n dX0_fitsSum_13 rfl rfl ?_
      refine gf_X0_41 rfl dX0_fitsSum_14 (lt_rc (by omega)) (sh_rc (by omega)) (rf_rc6 (by omega)) ?_
      refine Ev.iload_n dX0_fitsSum_17 rfl rfl ?_
      refine Ev.iaload (v := rA R K) dX0_fitsSum_18 (lt_rcf (by omega) (by decide)) (sh_rc2 (by omega)) (by decide) (by omega) (by omega) (ldx rfl (hP K (by omega)).2.1) ?_
      refine Ev.aload_n dX0_fitsSum_19 rfl rfl ?_
      refine Ev.aload_n dX0_fitsSum_20 rfl rfl ?_
      refine gf_X0_45 rfl dX0_fitsSum_21 (lt_rc (by omega)) (sh_rc (by omega)) (rf_rc5 (by omega)) ?_
      refine Ev.iload_n dX0_fitsSum_24 rfl rfl ?_
      refine Ev.iaload (v := ((rO R K : Nat) : Int)) dX0_fitsSum_25 (lt_rcf (by omega) (by decide)) (sh_rc1 (by omega)) (by decide) (by omega) (by omega) (ldx rfl (hP K (by omega)).1) ?_
      refine Ev.iaload (v := ((A (rO R K) : Nat) : Int)) dX0_fitsSum_26 hg hgs (by decide) (by omega) (Int.ofNat_lt.mpr (Nat.lt_of_lt_of_le (hO _ (by omega)) hU)) (ldx rfl (hA K (by omega)).1) ?_
      refine Ev.imul dX0_fitsSum_27 ?_
      refine Ev.iadd dX0_fitsSum_28 ?_
      refine Ev.istore_n (pl' := [some (vR (26 + 4 * r)), some (vR (rg)), some (vI ((fS R A K + (rA R K * ((A (rO R K) : Nat) : Int))))), some (vI (((K : Nat) : Int)))]) dX0_fitsSum_29 rfl (Nat.le_of_ble_eq_true rfl) rfl ?_
      refine Ev.iinc (pl' := [some (vR (26 + 4 * r)), some (vR (rg)), some (vI ((fS R A K + (rA R K * ((A (rO R K) : Nat) : Int))))), some (vI (((K : Nat) : Int) + 1))]) dX0_fitsSum_30 rfl (Nat.le_of_ble_eq_true rfl) rfl ?_
      refine Ev.goto (tgt := 4) dX0_fitsSum_33 (by decide) ?_
      refine Ev.wk (pl' := [some (vR (26 + 4 * r)), some (vR (rg)), some (vI (fS R A (K + 1))), some (vI ((((K + 1) : Nat) : Int)))]) ⟨rfl, ⟨rfl, ⟨vIe rfl, ⟨vIe (by omega), trivial⟩⟩⟩⟩ ?_
      exact ih (K + 1) (by omega) kk

set_option maxRecDepth 100000 in
set_option maxHeartbeats 4000000 in
theorem s0_fitsSum {g : GC} (σ : Sg) (r U : Nat) (R : RC) (hr : r < 56) (hM : CR σ r R) (hW : WR U R) (A : An) (rg : Nat) (hg : rg < 298) (hgs : sh0 rg = (1, 10)) (hA : ∀ k, k < rN R → σ rg (rO R k) = (A (rO R k) : Int) ∧ A (rO R k) < 16) (hk0 : rK R = 0) : Ev g mX0_fitsSum 0 [some (vR (26 + 4 * r)), some (vR (rg)), none, none] [] (M0 (σ)) 0 0 (retI (bI (fSum R A)) σ) := by
  obtain ⟨hK, hS, hB, hN, hE, hP⟩ := id hM
  obtain ⟨⟨hk5, hn6, hU⟩, hO, -⟩ := id hW
  obtain ⟨hs0, hb0, hA0⟩ := hW.2.2.1 hk0
  have hbd := fS_bd (R := R) (A := A) hn6 hA0 (fun k hk => (hA k hk).2)
  refine Ev.iconst dX0_fitsSum_0 ?_
  refine Ev.istore_n (pl' := [some (vR (26 + 4 * r)), some (vR (rg)), some (vI (0)), none]) dX0_fitsSum_1 rfl (Nat.le_of_ble_eq_true rfl) rfl ?_
  refine Ev.iconst dX0_fitsSum_2 ?_
  refine Ev.istore_n (pl' := [some (vR (26 + 4 * r)), some (vR (rg)), some (vI (0)), some (vI (0))]) dX0_fitsSum_3 rfl (Nat.le_of_ble_eq_true rfl) rfl ?_
  refine Ev.wk (pl' := [some (vR (26 + 4 * r)), some (vR (rg)), some (vI (fS R A 0)), some (vI (((0 : Nat) : Int)))]) ⟨rfl, ⟨rfl, ⟨vIe rfl, ⟨vIe rfl, trivial⟩⟩⟩⟩ ?_
  refine s0_sum σ r U R hr hM hW A rg hg hgs hA hk0 (rN R) 0 (by omega) ?_
  refine Ev.aload_n dX0_fitsSum_36 rfl rfl ?_
  refine gf_X0_48 (x := rS R) rfl dX0_fitsSum_37 (lt_rc (by omega)) (sh_rc (by omega)) hS ?_
  have hcs : rS R = 0 ∨ rS R = 1 ∨ rS R = 2 := by omega
  rcases hcs with hk | hk | hk
  · rw [show rS R = 0 from hk]
    refine Ev.lookup (tgt := 68) dX0_fitsSum_40 ⟨by decide, by decide⟩ rfl rfl (by decide) ?_
    refine Ev.iload_n dX0_fitsSum_68 rfl rfl ?_
    refine Ev.aload_n dX0_fitsSum_69 rfl rfl ?_
    refine gf_X0_51 (x := rB R) rfl dX0_fitsSum_70 (lt_rc (by omega)) (sh_rc (by omega)) hB ?_
    refine Ev.icmp_gt (tgt := 80) ⟨by omega, by omega⟩ ⟨by omega, by omega⟩ dX0_fitsSum_73 (by decide) (fun h73 => ?_) (fun h73 => ?_)
    · skip
      refine Ev.iconst dX0_fitsSum_80 ?_
      exact Ev.zreturn dX0_fitsSum_81 rfl (Or.inl rfl) (rI (bI_f (by unfold fSum; omega)) rfl)
    · skip
      refine Ev.iconst dX0_fitsSum_76 ?_
      refine Ev.goto (tgt := 81) dX0_fitsSum_77 (by decide) ?_
      exact Ev.zreturn dX0_fitsSum_81 rfl (Or.inr rfl) (rI (bI_t (by unfold fSum; omega)) rfl)
  · rw [show rS R = 1 from hk]
    refine Ev.lookup (tgt := 82) dX0_fitsSum_40 ⟨by decide, by decide⟩ rfl rfl (by decide) ?_
    refine Ev.iload_n dX0_fitsSum_82 rfl rfl ?_
    refine Ev.aload_n dX0_fitsSum_83 rfl rfl ?_
    refine gf_X0_51 (x := rB R) rfl dX0_fitsSum_84 (lt_rc (by omega)) (sh_rc (by omega)) hB ?_
    refine Ev.icmp_ne (tgt := 94) ⟨by omega, by omega⟩ ⟨by omega, by omega⟩ dX0_fitsSum_87 (by decide) (fun h87 => ?_) (fun h87 => ?_)
    · skip
      refine Ev.iconst dX0_fitsSum_94 ?_
      exact Ev.zreturn dX0_fitsSum_95 rfl (Or.inl rfl) (rI (bI_f (by unfold fSum; omega)) rfl)
    · skip
      refine Ev.iconst dX0_fitsSum_90 ?_
      refine Ev.goto (tgt := 95) dX0_fitsSum_91 (by decide) ?_
      exact Ev.zreturn dX0_fitsSum_95 rfl (Or.inr rfl) (rI (bI_t (by unfold fSum; omega)) rfl)
  · rw [show rS R = 2 from hk]
    refine Ev.lookup (tgt := 96) dX0_fitsSum_40 ⟨by decide, by decide⟩ rfl rfl (by decide) ?_
    refine Ev.iload_n dX0_fitsSum_96 rfl rfl ?_
    refine Ev.aload_n dX0_fitsSum_97 rfl rfl ?_
    refine gf_X0_51 (x := rB R) rfl dX0_fitsSum_98 (lt_rc (by omega)) (sh_rc (by omega)) hB ?_
    refine Ev.icmp_eq (tgt := 108) ⟨by omega, by omega⟩ ⟨by omega, by omega⟩ dX0_fitsSum_101 (by decide) (fun h101 => ?_) (fun h101 => ?_)
    · skip
      refine Ev.iconst dX0_fitsSum_108 ?_
      exact Ev.zreturn dX0_fitsSum_109 rfl (Or.inl rfl) (rI (bI_f (by unfold fSum; omega)) rfl)
    · skip
      refine Ev.iconst dX0_fitsSum_104 ?_
      refine Ev.goto (tgt := 109) dX0_fitsSum_105 (by decide) ?_
      exact Ev.zreturn dX0_fitsSum_109 rfl (Or.inr rfl) (rI (bI_t (by unfold fSum; omega)) rfl)

set_option maxRecDepth 100000 in
set_option maxHeartbeats 4000000 in
theorem s0_unl {g : GC} (σ : Sg) (r U : Nat) (R : RC) (hr : r < 56) (hM : CR σ r R) (hW : WR U R) (A : An) (rg : Nat) (hg : rg < 298) (hgs : sh0 rg = (1, 10)) (hA : ∀ k, k < rN R → σ rg (rO R k) = (A (rO R k) : Int) ∧ A (rO R k) < 16) : ∀ j K : Nat, K + j = rN R → fUnl R A K → Ev g mX0_fitsUnlike 4 [some (vR (26 + 4 * r)), some (vR (rg)), some (vI (((snM R A K : Nat) : Int))), some (vI (((K : Nat) : Int))), none] [] (M0 (σ)) 0 0 (retI (bI (fUnl R A (rN R))) σ) := by
  intro j
  induction j with
  | zero =>
    intro K hij hf
    obtain ⟨hK, hS, hB, hN, hE, hP⟩ := id hM
    obtain ⟨⟨hk5, hn6, hU⟩, hO, -⟩ := id hW
    refine Ev.iload_n dX0_fitsUnlike_4 rfl rfl ?_
    refine Ev.aload_n dX0_fitsUnlike_5 rfl rfl ?_
    refine gf_X0_38 (x := ((rN R : Nat) : Int)) rfl dX0_fitsUnlike_6 (lt_rc (by omega)) (sh_rc (by omega)) hN ?_
    refine Ev.icmp_ge (tgt := 44) ⟨by omega, by omega⟩ ⟨by omega, by omega⟩ dX0_fitsUnlike_9 (by decide) (fun h9 => ?_) (fun h9 => ?_)
    · skip
      refine Ev.iconst dX0_fitsUnlike_44 ?_
      exact Ev.zreturn dX0_fitsUnlike_45 rfl (Or.inr rfl) (rI (bI_t (by rw [← show K = rN R by omega]; exact hf)) rfl)
    · exact absurd h9 (by omega)
  | succ j ih =>
    intro K hij hf
    obtain ⟨hK, hS, hB, hN, hE, hP⟩ := id hM
    obtain ⟨⟨hk5, hn6, hU⟩, hO, -⟩ := id hW
    have hak := (hA K (by omega)).2
    have hp16 := pow_le16 hak
    have hsl : snM R A K < 65536 := mk_lt _
    refine Ev.iload_n dX0_fitsUnlike_4 rfl rfl ?_
    refine Ev.aload_n dX0_fitsUnlike_5 rfl rfl ?_
    refine gf_X0_38 (x := ((rN R : Nat) : Int)) rfl dX0_fitsUnlike_6 (lt_rc (by omega)) (sh_rc (by omega)) hN ?_
    refine Ev.icmp_ge (tgt := 44) ⟨by omega, by omega⟩ ⟨by omega, by omega⟩ dX0_fitsUnlike_9 (by decide) (fun h9 => ?_) (fun h9 => ?_)
    · exact absurd h9 (by omega)
    · skip
      refine Ev.iconst dX0_fitsUnlike_12 ?_
      refine Ev.aload_n dX0_fitsUnlike_13 rfl rfl ?_
      refine Ev.aload_n dX0_fitsUnlike_14 rfl rfl ?_
      refine gf_X0_45 rfl dX0_fitsUnlike_15 (lt_rc (by omega)) (sh_rc (by omega)) (rf_rc5 (by omega)) ?_
      refine Ev.iload_n dX0_fitsUnlike_18 rfl rfl ?_
      refine Ev.iaload (v := ((rO R K : Nat) : Int)) dX0_fitsUnlike_19 (lt_rcf (by omega) (by decide)) (sh_rc1 (by omega)) (by decide) (by omega) (by omega) (ldx rfl (hP K (by omega)).1) ?_
      refine Ev.iaload (v := ((A (rO R K) : Nat) : Int)) dX0_fitsUnlike_20 hg hgs (by decide) (by omega) (Int.ofNat_lt.mpr (Nat.lt_of_lt_of_le (hO _ (by omega)) hU)) (ldx rfl (hA K (by omega)).1) ?_
      refine Ev.ishl dX0_fitsUnlike_21 ?_
      rw [show (iShl (1) (((A (rO R K) : Nat) : Int))) = ((2 ^ A (rO R K) : Nat) : Int) from shl1 (by omega)]
      refine Ev.istore (pl' := [some (vR (26 + 4 * r)), some (vR (rg)), some (vI (((snM R A K : Nat) : Int))), some (vI (((K : Nat) : Int))), some (vI (((2 ^ A (rO R K) : Nat) : Int)))]) dX0_fitsUnlike_22 (Nat.le_of_ble_eq_true rfl) rfl ?_
      refine Ev.iload_n dX0_fitsUnlike_24 rfl rfl ?_
      refine Ev.iload dX0_fitsUnlike_25 rfl ?_
      refine Ev.iand dX0_fitsUnlike_27 ?_
      rw [show (iAnd (((snM R A K : Nat) : Int)) (((2 ^ A (rO R K) : Nat) : Int))) = ((snM R A K &&& 2 ^ A (rO R K) : Nat) : Int) from iAnd_nat (by omega)]
      refine Ev.if_eq (tgt := 33) ⟨by omega, by have := @Nat.and_le_left (snM R A K) (2 ^ A (rO R K)); omega⟩ dX0_fitsUnlike_28 (by decide) (fun h28 => ?_) (fun h28 => ?_)
      · skip
        refine Ev.iload_n dX0_fitsUnlike_33 rfl rfl ?_
        refine Ev.iload dX0_fitsUnlike_34 rfl ?_
        refine Ev.ior dX0_fitsUnlike_36 ?_
        rw [show (iOr (((snM R A K : Nat) : Int)) (((2 ^ A (rO R K) : Nat) : Int))) = ((snM R A (K + 1) : Nat) : Int) from by rw [← snM_s hak]; exact iOr_nat (by omega) (by omega)]
        refine Ev.istore_n (pl' := [some (vR (26 + 4 * r)), some (vR (rg)), some (vI (((snM R A (K + 1) : Nat) : Int))), some (vI (((K : Nat) : Int))), some (vI (((2 ^ A (rO R K) : Nat) : Int)))]) dX0_fitsUnlike_37 rfl (Nat.le_of_ble_eq_true rfl) rfl ?_
        refine Ev.iinc (pl' := [some (vR (26 + 4 * r)), some (vR (rg)), some (vI (((snM R A (K + 1) : Nat) : Int))), some (vI (((K : Nat) : Int) + 1)), some (vI (((2 ^ A (rO R K) : Nat) : Int)))]) dX0_fitsUnlike_38 rfl (Nat.le_of_ble_eq_true rfl) rfl ?_
        refine Ev.goto (tgt := 4) dX0_fitsUnlike_41 (by decide) ?_
        refine Ev.wk (pl' := [some (vR (26 + 4 * r)), some (vR (rg)), some (vI (((snM R A (K + 1) : Nat) : Int))), some (vI ((((K + 1) : Nat) : Int))), none]) ⟨rfl, ⟨rfl, ⟨rfl, ⟨vIe (by omega), trivial⟩⟩⟩⟩ ?_
        exact ih (K + 1) (by omega) (fUnl_n (hA K (by omega)).2 hf (and_pow0.mp (by omega)))
      · skip
        refine Ev.iconst dX0_fitsUnlike_31 ?_
        exact Ev.zreturn dX0_fitsUnlike_32 rfl (Or.inl rfl) (rI (bI_f (fUnl_no (n := K) (by omega) hak (by cases hb : (snM R A K).testBit (A (rO R K)) with | true => rfl | false => exact absurd (and_pow0.mpr hb) (by omega)))) rfl)

set_option maxRecDepth 100000 in
set_option maxHeartbeats 4000000 in
theorem s0_fitsUnlike {g : GC} (σ : Sg) (r U : Nat) (R : RC) (hr : r < 56) (hM : CR σ r R) (hW : WR U R) (A : An) (rg : Nat) (hg : rg < 298) (hgs : sh0 rg = (1, 10)) (hA : ∀ k, k < rN R → σ rg (rO R k) = (A (rO R k) : Int) ∧ A (rO R k) < 16) : Ev g mX0_fitsUnlike 0 [some (vR (26 + 4 * r)), some (vR (rg)), none, none, none] [] (M0 (σ)) 0 0 (retI (bI (fUnl R A (rN R))) σ) := by
  refine Ev.iconst dX0_fitsUnlike_0 ?_
  refine Ev.istore_n (pl' := [some (vR (26 + 4 * r)), some (vR (rg)), some (vI (0)), none, none]) dX0_fitsUnlike_1 rfl (Nat.le_of_ble_eq_true rfl) rfl ?_
  refine Ev.iconst dX0_fitsUnlike_2 ?_
  refine Ev.istore_n (pl' := [some (vR (26 + 4 * r)), some (vR (rg)), some (vI (0)), some (vI (0)), none]) dX0_fitsUnlike_3 rfl (Nat.le_of_ble_eq_true rfl) rfl ?_
  refine Ev.wk (pl' := [some (vR (26 + 4 * r)), some (vR (rg)), some (vI (((snM R A 0 : Nat) : Int))), some (vI (((0 : Nat) : Int))), none]) ⟨rfl, ⟨rfl, ⟨vIe (by rw [snM_0]; rfl), ⟨vIe rfl, trivial⟩⟩⟩⟩ ?_
  exact s0_unl σ r U R hr hM hW A rg hg hgs hA (rN R) 0 (by omega) (fun j k _ hk => absurd hk (by omega))

set_option maxRecDepth 100000 in
set_option maxHeartbeats 4000000 in
theorem s0_tab_i {g : GC} (σ : Sg) (r U : Nat) (R : RC) (hr : r < 56) (hM : CR σ r R) (hW : WR U R) (A : An) (rg : Nat) (hg : rg < 298) (hgs : sh0 rg = (1, 10)) (hA : ∀ k, k < rN R → σ rg (rO R k) = (A (rO R k) : Int) ∧ A (rO R k) < 16) (hk2 : rK R = 2) (T : Tb) (hT : TVc σ T) (t : Nat) (ht : rS R = t) (ht6 : t < 6) (q : Nat) (hq : q < nRows T t (rN R)) {Post : Option PV → Mem → Prop} : ∀ j K : Nat, K + j = rN R → fRow T R A t q K → (∀ K : Nat, K ≤ rN R → (K = rN R ↔ fRow T R A t q (rN R)) → Ev g mX0_fitsTable 82 [some (vR (259)), some (vR (26 + 4 * r)), some (vR (rg)), some (vR (253 + t)), some (vI (((nRows T t (rN R) : Nat) : Int))), some (vI (((q : Nat) : Int))), some (vI (((K : Nat) : Int)))] [] (M0 (σ)) 0 0 Post) → Ev g mX0_fitsTable 43 [some (vR (259)), some (vR (26 + 4 * r)), some (vR (rg)), some (vR (253 + t)), some (vI (((nRows T t (rN R) : Nat) : Int))), some (vI (((q : Nat) : Int))), some (vI (((K : Nat) : Int)))] [] (M0 (σ)) 0 0 (Post) := by
  intro j
  induction j with
  | zero =>
    intro K hij hfu kk
    obtain ⟨hK, hS, hB, hN, hE, hP⟩ := id hM
    obtain ⟨⟨hk5, hn6, hU⟩, hO, -⟩ := id hW
    obtain ⟨hz, hzb, hcell⟩ := hT t ht6
    have hqq := (nRows_lt.mp hq).2
    have hq1 : (q + 1) * rN R = q * rN R + rN R := Nat.succ_mul _ _
    refine Ev.iload dX0_fitsTable_43 rfl ?_
    refine Ev.aload_n dX0_fitsTable_45 rfl rfl ?_
    refine gf_X0_38 (x := ((rN R : Nat) : Int)) rfl dX0_fitsTable_46 (lt_rc (by omega)) (sh_rc (by omega)) hN ?_
    refine Ev.icmp_ge (tgt := 82) ⟨by omega, by omega⟩ ⟨by omega, by omega⟩ dX0_fitsTable_49 (by decide) (fun h49 => ?_) (fun h49 => ?_)
    · skip
      first
        | exact kk K (by omega) ⟨fun _ => by rw [← show K = rN R by omega]; exact hfu, fun _ => by omega⟩
        | exact kk K (by omega) ⟨fun z => absurd z (by omega), fun z => absurd (z K (by omega)) (by omega)⟩
    · exact absurd h49 (by omega)
  | succ j ih =>
    intro K hij hfu kk
    obtain ⟨hK, hS, hB, hN, hE, hP⟩ := id hM
    obtain ⟨⟨hk5, hn6, hU⟩, hO, -⟩ := id hW
    obtain ⟨hz, hzb, hcell⟩ := hT t ht6
    have hqq := (nRows_lt.mp hq).2
    have hq1 : (q + 1) * rN R = q * rN R + rN R := Nat.succ_mul _ _
    have hc16 := (hcell (q * rN R + K) (by omega)).2
    have hak := (hA K (by omega)).2
    refine Ev.iload dX0_fitsTable_43 rfl ?_
    refine Ev.aload_n dX0_fitsTable_45 rfl rfl ?_
    refine gf_X0_38 (x := ((rN R : Nat) : Int)) rfl dX0_fitsTable_46 (lt_rc (by omega)) (sh_rc (by omega)) hN ?_
    refine Ev.icmp_ge (tgt := 82) ⟨by omega, by omega⟩ ⟨by omega, by omega⟩ dX0_fitsTable_49 (by decide) (fun h49 => ?_) (fun h49 => ?_)
    · exact absurd h49 (by omega)
    · skip
      refine Ev.aload_n dX0_fitsTable_52 rfl rfl ?_
      refine Ev.iload dX0_fitsTable_53 rfl ?_
      refine Ev.aload_n dX0_fitsTable_55 rfl rfl ?_
      refine gf_X0_38 (x := ((rN R : Nat) : Int)) rfl dX0_fitsTable_56 (lt_rc (by omega)) (sh_rc (by omega)) hN ?_
      refine Ev.imul dX0_fitsTable_59 ?_
      refine Ev.iload dX0_fitsTable_60 rfl ?_
      refine Ev.iadd dX0_fitsTable_62 ?_
      refine Ev.iaload (v := ((T.2 t (q * rN R + K) : Nat) : Int)) dX0_fitsTable_63 (lt_tc (by omega)) (sh_tc (by omega)) (by decide) (by omega) (by omega) (ldx (n := q * rN R + K) (by omega) (hcell _ (by omega)).1) ?_
      refine Ev.aload_n dX0_fitsTable_64 rfl rfl ?_
      refine Ev.aload_n dX0_fitsTable_65 rfl rfl ?_
      refine gf_X0_45 rfl dX0_fitsTable_66 (lt_rc (by omega)) (sh_rc (by omega)) (rf_rc5 (by omega)) ?_
      refine Ev.iload dX0_fitsTable_69 rfl ?_
      refine Ev.iaload (v := ((rO R K : Nat) : Int)) dX0_fitsTable_71 (lt_rcf (by omega) (by decide)) (sh_rc1 (by omega)) (by decide) (by omega) (by omega) (ldx rfl (hP K (by omega)).1) ?_
      refine Ev.iaload (v := ((A (rO R K) : Nat) : Int)) dX0_fitsTable_72 hg hgs (by decide) (by omega) (Int.ofNat_lt.mpr (Nat.lt_of_lt_of_le (hO _ (by omega)) hU)) (ldx rfl (hA K (by omega)).1) ?_
      refine Ev.icmp_ne (tgt := 82) ⟨by omega, by omega⟩ ⟨by omega, by omega⟩ dX0_fitsTable_73 (by decide) (fun h73 => ?_) (fun h73 => ?_)
      · skip
        first
          | exact kk K (by omega) ⟨fun _ => by rw [← show K = rN R by omega]; exact hfu, fun _ => by omega⟩
          | exact kk K (by omega) ⟨fun z => absurd z (by omega), fun z => absurd (z K (by omega)) (by omega)⟩
      · skip
        refine Ev.iinc (pl' := [some (vR (259)), some (vR (26 + 4 * r)), some (vR (rg)), some (vR (253 + t)), some (vI (((nRows T t (rN R) : Nat) : Int))), some (vI (((q : Nat) : Int))), some (vI (((K : Nat) : Int) + 1))]) dX0_fitsTable_76 rfl (Nat.le_of_ble_eq_true rfl) rfl ?_
        refine Ev.goto (tgt := 43) dX0_fitsTable_79 (by decide) ?_
        refine Ev.wk (pl' := [some (vR (259)), some (vR (26 + 4 * r)), some (vR (rg)), some (vR (253 + t)), some (vI (((nRows T t (rN R) : Nat) : Int))), some (vI (((q : Nat) : Int))), some (vI ((((K + 1) : Nat) : Int)))]) ⟨rfl, ⟨rfl, ⟨rfl, ⟨rfl, ⟨rfl, ⟨rfl, ⟨vIe (by omega), trivial⟩⟩⟩⟩⟩⟩⟩ ?_
        exact ih (K + 1) (by omega) (fRow_s hfu (by omega)) kk

set_option maxRecDepth 100000 in
set_option maxHeartbeats 4000000 in
theorem s0_tab_q {g : GC} (σ : Sg) (r U : Nat) (R : RC) (hr : r < 56) (hM : CR σ r R) (hW : WR U R) (A : An) (rg : Nat) (hg : rg < 298) (hgs : sh0 rg = (1, 10)) (hA : ∀ k, k < rN R → σ rg (rO R k) = (A (rO R k) : Int) ∧ A (rO R k) < 16) (hk2 : rK R = 2) (T : Tb) (hT : TVc σ T) (t : Nat) (ht : rS R = t) (ht6 : t < 6) : ∀ j q : Nat, q + j = nRows T t (rN R) → (∀ p, p < q → ¬ fRow T R A t p (rN R)) → Ev g mX0_fitsTable 33 [some (vR (259)), some (vR (26 + 4 * r)), some (vR (rg)), some (vR (253 + t)), some (vI (((nRows T t (rN R) : Nat) : Int))), some (vI (((q : Nat) : Int))), none] [] (M0 (σ)) 0 0 (retI (bI (fTab T R A)) σ) := by
  intro j
  induction j with
  | zero =>
    intro q hij hno
    obtain ⟨hK, hS, hB, hN, hE, hP⟩ := id hM
    obtain ⟨⟨hk5, hn6, hU⟩, hO, -⟩ := id hW
    obtain ⟨hz, hzb, hcell⟩ := hT t ht6
    have hq1 : (q + 1) * rN R = q * rN R + rN R := Nat.succ_mul _ _
    refine Ev.iload dX0_fitsTable_33 rfl ?_
    refine Ev.iload dX0_fitsTable_35 rfl ?_
    refine Ev.icmp_ge (tgt := 99) ⟨by omega, by have := @nRows_le T t (rN R) hzb.2; omega⟩ (nRows_inR hzb.2) dX0_fitsTable_37 (by decide) (fun h37 => ?_) (fun h37 => ?_)
    · skip
      refine Ev.iconst dX0_fitsTable_99 ?_
      exact Ev.zreturn dX0_fitsTable_100 rfl (Or.inl rfl) (rI (bI_f (fun z => by obtain ⟨p, z1, z2⟩ := (fTab_iff ht).mp z; exact hno p (by omega) z2)) rfl)
    · exact absurd h37 (by omega)
  | succ j ih =>
    intro q hij hno
    obtain ⟨hK, hS, hB, hN, hE, hP⟩ := id hM
    obtain ⟨⟨hk5, hn6, hU⟩, hO, -⟩ := id hW
    obtain ⟨hz, hzb, hcell⟩ := hT t ht6
    have hq1 : (q + 1) * rN R = q * rN R + rN R := Nat.succ_mul _ _
    refine Ev.iload dX0_fitsTable_33 rfl ?_
    refine Ev.iload dX0_fitsTable_35 rfl ?_
    refine Ev.icmp_ge (tgt := 99) ⟨by omega, by have := @nRows_le T t (rN R) hzb.2; omega⟩ (nRows_inR hzb.2) dX0_fitsTable_37 (by decide) (fun h37 => ?_) (fun h37 => ?_)
    · exact absurd h37 (by omega)
    · skip
      refine Ev.iconst dX0_fitsTable_40 ?_
      refine Ev.istore (pl' := [some (vR (259)), some (vR (26 + 4 * r)), some (vR (rg)), some (vR (253 + t)), some (vI (((nRows T t (rN R) : Nat) : Int))), some (vI (((q : Nat) : Int))), some (vI (0))]) dX0_fitsTable_41 (Nat.le_of_ble_eq_true rfl) rfl ?_
      refine Ev.wk (pl' := [some (vR (259)), some (vR (26 + 4 * r)), some (vR (rg)), some (vR (253 + t)), some (vI (((nRows T t (rN R) : Nat) : Int))), some (vI (((q : Nat) : Int))), some (vI (((0 : Nat) : Int)))]) ⟨rfl, ⟨rfl, ⟨rfl, ⟨rfl, ⟨rfl, ⟨rfl, ⟨vIe rfl, trivial⟩⟩⟩⟩⟩⟩⟩ ?_
      refine s0_tab_i σ r U R hr hM hW A rg hg hgs hA hk2 T hT t ht ht6 q (by omega) (rN R) 0 (by omega) (fun k hk => absurd hk (by omega)) (fun K hKn hiff => ?_)
      refine Ev.iload dX0_fitsTable_82 rfl ?_
      refine Ev.aload_n dX0_fitsTable_84 rfl rfl ?_
      refine gf_X0_38 (x := ((rN R : Nat) : Int)) rfl dX0_fitsTable_85 (lt_rc (by omega)) (sh_rc (by omega)) hN ?_
      refine Ev.icmp_ne (tgt := 93) ⟨by omega, by omega⟩ ⟨by omega, by omega⟩ dX0_fitsTable_88 (by decide) (fun h88 => ?_) (fun h88 => ?_)
      · skip
        refine Ev.iinc (pl' := [some (vR (259)), some (vR (26 + 4 * r)), some (vR (rg)), some (vR (253 + t)), some (vI (((nRows T t (rN R) : Nat) : Int))), some (vI (((q : Nat) : Int) + 1)), some (vI (((K : Nat) : Int)))]) dX0_fitsTable_93 rfl (Nat.le_of_ble_eq_true rfl) rfl ?_
        refine Ev.goto (tgt := 33) dX0_fitsTable_96 (by decide) ?_
        refine Ev.wk (pl' := [some (vR (259)), some (vR (26 + 4 * r)), some (vR (rg)), some (vR (253 + t)), some (vI (((nRows T t (rN R) : Nat) : Int))), some (vI ((((q + 1) : Nat) : Int))), none]) ⟨rfl, ⟨rfl, ⟨rfl, ⟨rfl, ⟨rfl, ⟨vIe (by omega), trivial⟩⟩⟩⟩⟩⟩ ?_
        exact ih (q + 1) (by omega) (fun p hp z => (Nat.lt_or_ge p q).elim (fun e => hno p e z) (fun e => absurd (hiff.mpr (by rw [← show p = q by omega]; exact z)) (by omega)))
      · skip
        refine Ev.iconst dX0_fitsTable_91 ?_
        exact Ev.zreturn dX0_fitsTable_92 rfl (Or.inr rfl) (rI (bI_t ((fTab_iff ht).mpr ⟨q, by omega, hiff.mp (by omega)⟩)) rfl)

set_option maxRecDepth 100000 in
set_option maxHeartbeats 4000000 in
theorem s0_fitsTable {g : GC} (σ : Sg) (r U : Nat) (R : RC) (hr : r < 56) (hM : CR σ r R) (hW : WR U R) (A : An) (rg : Nat) (hg : rg < 298) (hgs : sh0 rg = (1, 10)) (hA : ∀ k, k < rN R → σ rg (rO R k) = (A (rO R k) : Int) ∧ A (rO R k) < 16) (hk2 : rK R = 2) (T : Tb) (hT : TVc σ T) (t : Nat) (ht : rS R = t) (ht6 : t < 6) : Ev g mX0_fitsTable 0 [some (vR (259)), some (vR (26 + 4 * r)), some (vR (rg)), none, none, none, none] [] (M0 (σ)) 0 0 (retI (bI (fTab T R A)) σ) := by
  obtain ⟨hK, hS, hB, hN, hE, hP⟩ := id hM
  obtain ⟨⟨hk5, hn6, hU⟩, hO, -⟩ := id hW
  refine Ev.aload_n dX0_fitsTable_0 rfl rfl ?_
  refine gf_X0_7 rfl dX0_fitsTable_1 ltc_259 shc_259 rfc_259_0 ?_
  refine gf_X0_54 rfl dX0_fitsTable_4 ltc_250 shc_250 rfc_250_1 ?_
  refine Ev.aload_n dX0_fitsTable_7 rfl rfl ?_
  refine gf_X0_48 (x := ((t : Nat) : Int)) rfl dX0_fitsTable_8 (lt_rc (by omega)) (sh_rc (by omega)) (hS.trans ht) ?_
  refine Ev.maload dX0_fitsTable_11 ltc_252 shc_252 (by decide) (by omega) (by omega) (rf_tc (by omega)) ?_
  refine Ev.astore_n (pl' := [some (vR (259)), some (vR (26 + 4 * r)), some (vR (rg)), some (vR (253 + t)), none, none, none]) dX0_fitsTable_12 rfl (Nat.le_of_ble_eq_true rfl) rfl ?_
  refine Ev.aload_n dX0_fitsTable_13 rfl rfl ?_
  refine gf_X0_7 rfl dX0_fitsTable_14 ltc_259 shc_259 rfc_259_0 ?_
  refine Ev.aload_n dX0_fitsTable_17 rfl rfl ?_
  refine gf_X0_48 (x := ((t : Nat) : Int)) rfl dX0_fitsTable_18 (lt_rc (by omega)) (sh_rc (by omega)) (hS.trans ht) ?_
  refine Ev.aload_n dX0_fitsTable_21 rfl rfl ?_
  refine gf_X0_38 (x := ((rN R : Nat) : Int)) rfl dX0_fitsTable_22 (lt_rc (by omega)) (sh_rc (by omega)) hN ?_
  refine Ev.callV_I (M2 := mX6_countRows) (args2 := [vI (((t : Nat) : Int)), vI (((rN R : Nat) : Int))]) (rcv := 250) (q := (RX6, TX6, 2)) (ci := 6) dX0_fitsTable_25 okX6_countRows lk_X0_60 ovX6_countRows.1.1 ovX6_countRows.1.2 ovX6_countRows.2 (by decide) rfl rfl ltc_250 shc_250 rfl (Nat.le_of_ble_eq_true rfl) (Nat.le_of_ble_eq_true rfl) (s6_countRows σ t ht6 T hT (rN R) hn6) ?_ rfl
  rw [show (if T.1 t < ((rN R : Nat) : Int) ∨ rN R = 0 then 0 else T.1 t / ((rN R : Nat) : Int)) = ((nRows T t (rN R) : Nat) : Int) from nRows_e]
  refine Ev.istore (pl' := [some (vR (259)), some (vR (26 + 4 * r)), some (vR (rg)), some (vR (253 + t)), some (vI (((nRows T t (rN R) : Nat) : Int))), none, none]) dX0_fitsTable_28 (Nat.le_of_ble_eq_true rfl) rfl ?_
  refine Ev.iconst dX0_fitsTable_30 ?_
  refine Ev.istore (pl' := [some (vR (259)), some (vR (26 + 4 * r)), some (vR (rg)), some (vR (253 + t)), some (vI (((nRows T t (rN R) : Nat) : Int))), some (vI (0)), none]) dX0_fitsTable_31 (Nat.le_of_ble_eq_true rfl) rfl ?_
  refine Ev.wk (pl' := [some (vR (259)), some (vR (26 + 4 * r)), some (vR (rg)), some (vR (253 + t)), some (vI (((nRows T t (rN R) : Nat) : Int))), some (vI (((0 : Nat) : Int))), none]) ⟨rfl, ⟨rfl, ⟨rfl, ⟨rfl, ⟨rfl, ⟨vIe rfl, trivial⟩⟩⟩⟩⟩⟩ ?_
  exact s0_tab_q σ r U R hr hM hW A rg hg hgs hA hk2 T hT t ht ht6 (nRows T t (rN R)) 0 (by omega) (fun p hp => absurd hp (by omega))

set_option maxRecDepth 100000 in
set_option maxHeartbeats 4000000 in
theorem s0_load_i {g : GC} (σ : Sg) (r U : Nat) (R : RC) (hr : r < 56) (hM : CR σ r R) (hW : WR U R) (A : An) (rg : Nat) (hg : rg < 298) (hgs : sh0 rg = (1, 10)) (hA : ∀ k, k < rN R → σ rg (rO R k) = (A (rO R k) : Int) ∧ A (rO R k) < 16) (hk3 : rK R = 3) (i : Nat) (hi : i < rN R) {Post : Option PV → Mem → Prop} : ∀ j K : Nat, K + j = rN R → Ev g mX0_fitsLoad 83 [some (vR (26 + 4 * r)), some (vR (rg)), some (vI (((i : Nat) : Int))), some (vI (((A (rO R i) : Nat) : Int))), some (vI (fLd R A (A (rO R i)) (rN R))), none, none] [] (M0 (σ)) 0 0 Post → Ev g mX0_fitsLoad 25 [some (vR (26 + 4 * r)), some (vR (rg)), some (vI (((i : Nat) : Int))), some (vI (((A (rO R i) : Nat) : Int))), some (vI (fLd R A (A (rO R i)) K)), some (vI (((K : Nat) : Int))), none] [] (M0 (σ)) 0 0 (Post) := by
  intro j
  induction j with
  | zero =>
    intro K hij kk
    obtain ⟨hK, hS, hB, hN, hE, hP⟩ := id hM
    obtain ⟨⟨hk5, hn6, hU⟩, hO, -⟩ := id hW
    obtain ⟨hs3, hz3⟩ := hW.2.2.2.2.1 hk3
    have hai := (hA i hi).2
    refine Ev.iload dX0_fitsLoad_25 rfl ?_
    refine Ev.aload_n dX0_fitsLoad_27 rfl rfl ?_
    refine gf_X0_38 (x := ((rN R : Nat) : Int)) rfl dX0_fitsLoad_28 (lt_rc (by omega)) (sh_rc (by omega)) hN ?_
    refine Ev.icmp_ge (tgt := 83) ⟨by omega, by omega⟩ ⟨by omega, by omega⟩ dX0_fitsLoad_31 (by decide) (fun h31 => ?_) (fun h31 => ?_)
    · skip
      refine Ev.wk (pl' := [some (vR (26 + 4 * r)), some (vR (rg)), some (vI (((i : Nat) : Int))), some (vI (((A (rO R i) : Nat) : Int))), some (vI (fLd R A (A (rO R i)) (rN R))), none, none]) ⟨rfl, ⟨rfl, ⟨rfl, ⟨rfl, ⟨vIe (by rw [show K = rN R by omega]), trivial⟩⟩⟩⟩⟩ ?_
      exact kk
    · exact absurd h31 (by omega)
  | succ j ih =>
    intro K hij kk
    obtain ⟨hK, hS, hB, hN, hE, hP⟩ := id hM
    obtain ⟨⟨hk5, hn6, hU⟩, hO, -⟩ := id hW
    obtain ⟨hs3, hz3⟩ := hW.2.2.2.2.1 hk3
    have hai := (hA i hi).2
    have hak := (hA K (by omega)).2
    have haK := (hz3 K (by omega)).1
    refine Ev.iload dX0_fitsLoad_25 rfl ?_
    refine Ev.aload_n dX0_fitsLoad_27 rfl rfl ?_
    refine gf_X0_38 (x := ((rN R : Nat) : Int)) rfl dX0_fitsLoad_28 (lt_rc (by omega)) (sh_rc (by omega)) hN ?_
    refine Ev.icmp_ge (tgt := 83) ⟨by omega, by omega⟩ ⟨by omega, by omega⟩ dX0_fitsLoad_31 (by decide) (fun h31 => ?_) (fun h31 => ?_)
    · exact absurd h31 (by omega)
    · skip
      refine Ev.aload_n dX0_fitsLoad_34 rfl rfl ?_
      refine Ev.aload_n dX0_fitsLoad_35 rfl rfl ?_
      refine gf_X0_45 rfl dX0_fitsLoad_36 (lt_rc (by omega)) (sh_rc (by omega)) (rf_rc5 (by omega)) ?_
      refine Ev.iload dX0_fitsLoad_39 rfl ?_
      refine Ev.iaload (v := ((rO R K : Nat) : Int)) dX0_fitsLoad_41 (lt_rcf (by omega) (by decide)) (sh_rc1 (by omega)) (by decide) (by omega) (by omega) (ldx rfl (hP K (by omega)).1) ?_
      refine Ev.iaload (v := ((A (rO R K) : Nat) : Int)) dX0_fitsLoad_42 hg hgs (by decide) (by omega) (Int.ofNat_lt.mpr (Nat.lt_of_lt_of_le (hO _ (by omega)) hU)) (ldx rfl (hA K (by omega)).1) ?_
      refine Ev.istore (pl' := [some (vR (26 + 4 * r)), some (vR (rg)), some (vI (((i : Nat) : Int))), some (vI (((A (rO R i) : Nat) : Int))), some (vI (fLd R A (A (rO R i)) K)), some (vI (((K : Nat) : Int))), some (vI (((A (rO R K) : Nat) : Int)))]) dX0_fitsLoad_43 (Nat.le_of_ble_eq_true rfl) rfl ?_
      refine Ev.iload dX0_fitsLoad_45 rfl ?_
      refine Ev.iload_n dX0_fitsLoad_47 rfl rfl ?_
      refine Ev.icmp_gt (tgt := 77) ⟨by omega, by omega⟩ ⟨by omega, by omega⟩ dX0_fitsLoad_48 (by decide) (fun h48 => ?_) (fun h48 => ?_)
      · skip
        refine Ev.iinc (pl' := [some (vR (26 + 4 * r)), some (vR (rg)), some (vI (((i : Nat) : Int))), some (vI (((A (rO R i) : Nat) : Int))), some (vI (fLd R A (A (rO R i)) K)), some (vI (((K : Nat) : Int) + 1)), some (vI (((A (rO R K) : Nat) : Int)))]) dX0_fitsLoad_77 rfl (Nat.le_of_ble_eq_true rfl) rfl ?_
        refine Ev.goto (tgt := 25) dX0_fitsLoad_80 (by decide) ?_
        refine Ev.wk (pl' := [some (vR (26 + 4 * r)), some (vR (rg)), some (vI (((i : Nat) : Int))), some (vI (((A (rO R i) : Nat) : Int))), some (vI (fLd R A (A (rO R i)) (K + 1))), some (vI ((((K + 1) : Nat) : Int))), none]) ⟨rfl, ⟨rfl, ⟨rfl, ⟨rfl, ⟨vIe (by first | rw [fLd_t (by unfold runs; omega)] | rw [fLd_f (by unfold runs; omega)]), ⟨vIe (by omega), trivial⟩⟩⟩⟩⟩⟩ ?_
        exact ih (K + 1) (by omega) kk
      · skip
        refine Ev.iload_n dX0_fitsLoad_51 rfl rfl ?_
        refine Ev.iload dX0_fitsLoad_52 rfl ?_
        refine Ev.aload_n dX0_fitsLoad_54 rfl rfl ?_
        refine gf_X0_41 rfl dX0_fitsLoad_55 (lt_rc (by omega)) (sh_rc (by omega)) (rf_rc6 (by omega)) ?_
        refine Ev.iload dX0_fitsLoad_58 rfl ?_
        refine Ev.iaload (v := rA R K) dX0_fitsLoad_60 (lt_rcf (by omega) (by decide)) (sh_rc2 (by omega)) (by decide) (by omega) (by omega) (ldx rfl (hP K (by omega)).2.1) ?_
        refine Ev.iadd dX0_fitsLoad_61 ?_
        refine Ev.icmp_ge (tgt := 77) ⟨by omega, by omega⟩ ⟨by omega, by omega⟩ dX0_fitsLoad_62 (by decide) (fun h62 => ?_) (fun h62 => ?_)
        · skip
          refine Ev.iinc (pl' := [some (vR (26 + 4 * r)), some (vR (rg)), some (vI (((i : Nat) : Int))), some (vI (((A (rO R i) : Nat) : Int))), some (vI (fLd R A (A (rO R i)) K)), some (vI (((K : Nat) : Int) + 1)), some (vI (((A (rO R K) : Nat) : Int)))]) dX0_fitsLoad_77 rfl (Nat.le_of_ble_eq_true rfl) rfl ?_
          refine Ev.goto (tgt := 25) dX0_fitsLoad_80 (by decide) ?_
          refine Ev.wk (pl' := [some (vR (26 + 4 * r)), some (vR (rg)), some (vI (((i : Nat) : Int))), some (vI (((A (rO R i) : Nat) : Int))), some (vI (fLd R A (A (rO R i)) (K + 1))), some (vI ((((K + 1) : Nat) : Int))), none]) ⟨rfl, ⟨rfl, ⟨rfl, ⟨rfl, ⟨vIe (by first | rw [fLd_t (by unfold runs; omega)] | rw [fLd_f (by unfold runs; omega)]), ⟨vIe (by omega), trivial⟩⟩⟩⟩⟩⟩ ?_
          exact ih (K + 1) (by omega) kk
        · skip
          refine Ev.iload dX0_fitsLoad_65 rfl ?_
          refine Ev.aload_n dX0_fitsLoad_67 rfl rfl ?_
          refine gf_X0_64 rfl dX0_fitsLoad_68 (lt_rc (by omega)) (sh_rc (by omega)) (rf_rc7 (by omega)) ?_
          refine Ev.iload dX0_fitsLoad_71 rfl ?_
          refine Ev.iaload (v := rZ R K) dX0_fitsLoad_73 (lt_rcf (by omega) (by decide)) (sh_rc3 (by omega)) (by decide) (by omega) (by omega) (ldx rfl (hP K (by omega)).2.2) ?_
          refine Ev.iadd dX0_fitsLoad_74 ?_
          refine Ev.istore (pl' := [some (vR (26 + 4 * r)), some (vR (rg)), some (vI (((i : Nat) : Int))), some (vI (((A (rO R i) : Nat) : Int))), some (vI ((fLd R A (A (rO R i)) K + rZ R K))), some (vI (((K : Nat) : Int))), some (vI (((A (rO R K) : Nat) : Int)))]) dX0_fitsLoad_75 (Nat.le_of_ble_eq_true rfl) rfl ?_
          refine Ev.iinc (pl' := [some (vR (26 + 4 * r)), some (vR (rg)), some (vI (((i : Nat) : Int))), some (vI (((A (rO R i) : Nat) : Int))), some (vI ((fLd R A (A (rO R i)) K + rZ R K))), some (vI (((K : Nat) : Int) + 1)), some (vI (((A (rO R K) : Nat) : Int)))]) dX0_fitsLoad_77 rfl (Nat.le_of_ble_eq_true rfl) rfl ?_
          refine Ev.goto (tgt := 25) dX0_fitsLoad_80 (by decide) ?_
          refine Ev.wk (pl' := [some (vR (26 + 4 * r)), some (vR (rg)), some (vI (((i : Nat) : Int))), some (vI (((A (rO R i) : Nat) : Int))), some (vI (fLd R A (A (rO R i)) (K + 1))), some (vI ((((K + 1) : Nat) : Int))), none]) ⟨rfl, ⟨rfl, ⟨rfl, ⟨rfl, ⟨vIe (by first | rw [fLd_t (by unfold runs; omega)] | rw [fLd_f (by unfold runs; omega)]), ⟨vIe (by omega), trivial⟩⟩⟩⟩⟩⟩ ?_
          exact ih (K + 1) (by omega) kk

set_option maxRecDepth 100000 in
set_option maxHeartbeats 4000000 in
theorem s0_load {g : GC} (σ : Sg) (r U : Nat) (R : RC) (hr : r < 56) (hM : CR σ r R) (hW : WR U R) (A : An) (rg : Nat) (hg : rg < 298) (hgs : sh0 rg = (1, 10)) (hA : ∀ k, k < rN R → σ rg (rO R k) = (A (rO R k) : Int) ∧ A (rO R k) < 16) (hk3 : rK R = 3) : ∀ j i : Nat, i + j = rN R → (∀ k, k < i → fLd R A (A (rO R k)) (rN R) ≤ rS R) → Ev g mX0_fitsLoad 2 [some (vR (26 + 4 * r)), some (vR (rg)), some (vI (((i : Nat) : Int))), none, none, none, none] [] (M0 (σ)) 0 0 (retI (bI (fLoad R A)) σ) := by
  intro j
  induction j with
  | zero =>
    intro i hij hall
    obtain ⟨hK, hS, hB, hN, hE, hP⟩ := id hM
    obtain ⟨⟨hk5, hn6, hU⟩, hO, -⟩ := id hW
    obtain ⟨hs3, hz3⟩ := hW.2.2.2.2.1 hk3
    refine Ev.iload_n dX0_fitsLoad_2 rfl rfl ?_
    refine Ev.aload_n dX0_fitsLoad_3 rfl rfl ?_
    refine gf_X0_38 (x := ((rN R : Nat) : Int)) rfl dX0_fitsLoad_4 (lt_rc (by omega)) (sh_rc (by omega)) hN ?_
    refine Ev.icmp_ge (tgt := 100) ⟨by omega, by omega⟩ ⟨by omega, by omega⟩ dX0_fitsLoad_7 (by decide) (fun h7 => ?_) (fun h7 => ?_)
    · skip
      refine Ev.iconst dX0_fitsLoad_100 ?_
      exact Ev.zreturn dX0_fitsLoad_101 rfl (Or.inr rfl) (rI (bI_t (fLoad_at hs3.1 (fun k hk => (hz3 k hk).2.1) (fun k hk => hall k (by omega)))) rfl)
    · exact absurd h7 (by omega)
  | succ j ih =>
    intro i hij hall
    obtain ⟨hK, hS, hB, hN, hE, hP⟩ := id hM
    obtain ⟨⟨hk5, hn6, hU⟩, hO, -⟩ := id hW
    obtain ⟨hs3, hz3⟩ := hW.2.2.2.2.1 hk3
    have hai := (hA i (by omega)).2
    have hlb := fLd_bd (R := R) (A := A) (t := A (rO R i)) hn6 (fun k hk => (hz3 k hk).2)
    refine Ev.iload_n dX0_fitsLoad_2 rfl rfl ?_
    refine Ev.aload_n dX0_fitsLoad_3 rfl rfl ?_
    refine gf_X0_38 (x := ((rN R : Nat) : Int)) rfl dX0_fitsLoad_4 (lt_rc (by omega)) (sh_rc (by omega)) hN ?_
    refine Ev.icmp_ge (tgt := 100) ⟨by omega, by omega⟩ ⟨by omega, by omega⟩ dX0_fitsLoad_7 (by decide) (fun h7 => ?_) (fun h7 => ?_)
    · exact absurd h7 (by omega)
    · skip
      refine Ev.aload_n dX0_fitsLoad_10 rfl rfl ?_
      refine Ev.aload_n dX0_fitsLoad_11 rfl rfl ?_
      refine gf_X0_45 rfl dX0_fitsLoad_12 (lt_rc (by omega)) (sh_rc (by omega)) (rf_rc5 (by omega)) ?_
      refine Ev.iload_n dX0_fitsLoad_15 rfl rfl ?_
      refine Ev.iaload (v := ((rO R i : Nat) : Int)) dX0_fitsLoad_16 (lt_rcf (by omega) (by decide)) (sh_rc1 (by omega)) (by decide) (by omega) (by omega) (ldx rfl (hP i (by omega)).1) ?_
      refine Ev.iaload (v := ((A (rO R i) : Nat) : Int)) dX0_fitsLoad_17 hg hgs (by decide) (by omega) (Int.ofNat_lt.mpr (Nat.lt_of_lt_of_le (hO _ (by omega)) hU)) (ldx rfl (hA i (by omega)).1) ?_
      refine Ev.istore_n (pl' := [some (vR (26 + 4 * r)), some (vR (rg)), some (vI (((i : Nat) : Int))), some (vI (((A (rO R i) : Nat) : Int))), none, none, none]) dX0_fitsLoad_18 rfl (Nat.le_of_ble_eq_true rfl) rfl ?_
      refine Ev.iconst dX0_fitsLoad_19 ?_
      refine Ev.istore (pl' := [some (vR (26 + 4 * r)), some (vR (rg)), some (vI (((i : Nat) : Int))), some (vI (((A (rO R i) : Nat) : Int))), some (vI (0)), none, none]) dX0_fitsLoad_20 (Nat.le_of_ble_eq_true rfl) rfl ?_
      refine Ev.iconst dX0_fitsLoad_22 ?_
      refine Ev.istore (pl' := [some (vR (26 + 4 * r)), some (vR (rg)), some (vI (((i : Nat) : Int))), some (vI (((A (rO R i) : Nat) : Int))), some (vI (0)), some (vI (0)), none]) dX0_fitsLoad_23 (Nat.le_of_ble_eq_true rfl) rfl ?_
      refine Ev.wk (pl' := [some (vR (26 + 4 * r)), some (vR (rg)), some (vI (((i : Nat) : Int))), some (vI (((A (rO R i) : Nat) : Int))), some (vI (fLd R A (A (rO R i)) 0)), some (vI (((0 : Nat) : Int))), none]) ⟨rfl, ⟨rfl, ⟨rfl, ⟨rfl, ⟨vIe rfl, ⟨vIe rfl, trivial⟩⟩⟩⟩⟩⟩ ?_
      refine s0_load_i σ r U R hr hM hW A rg hg hgs hA hk3 i (by omega) (rN R) 0 (by omega) ?_
      refine Ev.iload dX0_fitsLoad_83 rfl ?_
      refine Ev.aload_n dX0_fitsLoad_85 rfl rfl ?_
      refine gf_X0_48 (x := rS R) rfl dX0_fitsLoad_86 (lt_rc (by omega)) (sh_rc (by omega)) hS ?_
      refine Ev.icmp_le (tgt := 94) ⟨by omega, by omega⟩ ⟨by omega, by omega⟩ dX0_fitsLoad_89 (by decide) (fun h89 => ?_) (fun h89 => ?_)
      · skip
        refine Ev.iinc (pl' := [some (vR (26 + 4 * r)), some (vR (rg)), some (vI (((i : Nat) : Int) + 1)), some (vI (((A (rO R i) : Nat) : Int))), some (vI (fLd R A (A (rO R i)) (rN R))), none, none]) dX0_fitsLoad_94 rfl (Nat.le_of_ble_eq_true rfl) rfl ?_
        refine Ev.goto (tgt := 2) dX0_fitsLoad_97 (by decide) ?_
        refine Ev.wk (pl' := [some (vR (26 + 4 * r)), some (vR (rg)), some (vI ((((i + 1) : Nat) : Int))), none, none, none, none]) ⟨rfl, ⟨rfl, ⟨vIe (by omega), trivial⟩⟩⟩ ?_
        exact ih (i + 1) (by omega) (fun k hk => (Nat.lt_or_ge k i).elim (hall k) (fun e => by rw [show k = i by omega]; omega))
      · skip
        refine Ev.iconst dX0_fitsLoad_92 ?_
        exact Ev.zreturn dX0_fitsLoad_93 rfl (Or.inl rfl) (rI (bI_f (fun z => by have := z (A (rO R i)); omega)) rfl)

set_option maxRecDepth 100000 in
set_option maxHeartbeats 4000000 in
theorem s0_fitsLoad {g : GC} (σ : Sg) (r U : Nat) (R : RC) (hr : r < 56) (hM : CR σ r R) (hW : WR U R) (A : An) (rg : Nat) (hg : rg < 298) (hgs : sh0 rg = (1, 10)) (hA : ∀ k, k < rN R → σ rg (rO R k) = (A (rO R k) : Int) ∧ A (rO R k) < 16) (hk3 : rK R = 3) : Ev g mX0_fitsLoad 0 [some (vR (26 + 4 * r)), some (vR (rg)), none, none, none, none, none] [] (M0 (σ)) 0 0 (retI (bI (fLoad R A)) σ) := by
  refine Ev.iconst dX0_fitsLoad_0 ?_
  refine Ev.istore_n (pl' := [some (vR (26 + 4 * r)), some (vR (rg)), some (vI (0)), none, none, none, none]) dX0_fitsLoad_1 rfl (Nat.le_of_ble_eq_true rfl) rfl ?_
  refine Ev.wk (pl' := [some (vR (26 + 4 * r)), some (vR (rg)), some (vI (((0 : Nat) : Int))), none, none, none, none]) ⟨rfl, ⟨rfl, ⟨vIe rfl, trivial⟩⟩⟩ ?_
  exact s0_load σ r U R hr hM hW A rg hg hgs hA hk3 (rN R) 0 (by omega) (fun k hk => absurd hk (by omega))

set_option maxRecDepth 100000 in
set_option maxHeartbeats 4000000 in
theorem s0_ring {g : GC} (σ : Sg) (r U : Nat) (R : RC) (hr : r < 56) (hM : CR σ r R) (hW : WR U R) (A : An) (rg : Nat) (hg : rg < 298) (hgs : sh0 rg = (1, 10)) (hA : ∀ k, k < rN R → σ rg (rO R k) = (A (rO R k) : Int) ∧ A (rO R k) < 16) : ∀ j q : Nat, q + j = rN R → (q < rN R → pt R A q < rN R) → (∀ j, 0 < j → j ≤ q → 0 < pt R A j ∧ pt R A j < rN R) → Ev g mX0_fitsRing 4 [some (vR (26 + 4 * r)), some (vR (rg)), some (vI (((pt R A q : Nat) : Int))), some (vI ((((q + 1) : Nat) : Int)))] [] (M0 (σ)) 0 0 (retI (bI (fRing R A)) σ) := by
  intro j
  induction j with
  | zero =>
    intro q hij hlt hpa
    obtain ⟨hK, hS, hB, hN, hE, hP⟩ := id hM
    obtain ⟨⟨hk5, hn6, hU⟩, hO, -⟩ := id hW
    refine Ev.iload_n dX0_fitsRing_4 rfl rfl ?_
    refine Ev.aload_n dX0_fitsRing_5 rfl rfl ?_
    refine gf_X0_38 (x := ((rN R : Nat) : Int)) rfl dX0_fitsRing_6 (lt_rc (by omega)) (sh_rc (by omega)) hN ?_
    refine Ev.icmp_gt (tgt := 55) ⟨by omega, by omega⟩ ⟨by omega, by omega⟩ dX0_fitsRing_9 (by decide) (fun h9 => ?_) (fun h9 => ?_)
    · skip
      refine Ev.aload_n dX0_fitsRing_55 rfl rfl ?_
      refine gf_X0_38 (x := ((rN R : Nat) : Int)) rfl dX0_fitsRing_56 (lt_rc (by omega)) (sh_rc (by omega)) hN ?_
      refine Ev.if_ne (tgt := 66) ⟨by omega, by omega⟩ dX0_fitsRing_59 (by decide) (fun h59 => ?_) (fun h59 => ?_)
      · skip
        refine Ev.iconst dX0_fitsRing_66 ?_
        exact Ev.zreturn dX0_fitsRing_67 rfl (Or.inl rfl) (rI (bI_f (by
          rintro (z | ⟨z1, z2⟩)
          · omega
          · first
            | (have z3 := (z2 (q + 1) (by omega) (by omega)); have z4 : pt R A (q + 1) = A (rO R (pt R A q)) := rfl; omega)
            | (have z3 := pt_lt (show 0 < rN R by omega) z1 z2 (q + 1); have z4 : pt R A (q + 1) = A (rO R (pt R A q)) := rfl; omega)
            | (have z3 := hpa (rN R) (by omega) (by omega); omega))) rfl)
      · skip
        refine Ev.iconst dX0_fitsRing_62 ?_
        refine Ev.goto (tgt := 67) dX0_fitsRing_63 (by decide) ?_
        exact Ev.zreturn dX0_fitsRing_67 rfl (Or.inr rfl) (rI (bI_t (by first | exact Or.inl (by omega) | exact Or.inr ⟨by rw [show rN R = q + 1 by omega]; show A (rO R (pt R A q)) = 0; omega, fun j h1 h2 => hpa j h1 (by omega)⟩)) rfl)
    · exact absurd h9 (by omega)
  | succ j ih =>
    intro q hij hlt hpa
    obtain ⟨hK, hS, hB, hN, hE, hP⟩ := id hM
    obtain ⟨⟨hk5, hn6, hU⟩, hO, -⟩ := id hW
    have hpl := hlt (by omega)
    have hak := (hA (pt R A q) hpl).2
    refine Ev.iload_n dX0_fitsRing_4 rfl rfl ?_
    refine Ev.aload_n dX0_fitsRing_5 rfl rfl ?_
    refine gf_X0_38 (x := ((rN R : Nat) : Int)) rfl dX0_fitsRing_6 (lt_rc (by omega)) (sh_rc (by omega)) hN ?_
    refine Ev.icmp_gt (tgt := 55) ⟨by omega, by omega⟩ ⟨by omega, by omega⟩ dX0_fitsRing_9 (by decide) (fun h9 => ?_) (fun h9 => ?_)
    · exact absurd h9 (by omega)
    · skip
      refine Ev.aload_n dX0_fitsRing_12 rfl rfl ?_
      refine Ev.aload_n dX0_fitsRing_13 rfl rfl ?_
      refine gf_X0_45 rfl dX0_fitsRing_14 (lt_rc (by omega)) (sh_rc (by omega)) (rf_rc5 (by omega)) ?_
      refine Ev.iload_n dX0_fitsRing_17 rfl rfl ?_
      refine Ev.iaload (v := ((rO R (pt R A q) : Nat) : Int)) dX0_fitsRing_18 (lt_rcf (by omega) (by decide)) (sh_rc1 (by omega)) (by decide) (by omega) (by omega) (ldx rfl (hP (pt R A q) (by omega)).1) ?_
      refine Ev.iaload (v := ((A (rO R (pt R A q)) : Nat) : Int)) dX0_fitsRing_19 hg hgs (by decide) (by omega) (Int.ofNat_lt.mpr (Nat.lt_of_lt_of_le (hO _ (by omega)) hU)) (ldx rfl (hA (pt R A q) (by omega)).1) ?_
      refine Ev.istore_n (pl' := [some (vR (26 + 4 * r)), some (vR (rg)), some (vI (((A (rO R (pt R A q)) : Nat) : Int))), some (vI ((((q + 1) : Nat) : Int)))]) dX0_fitsRing_20 rfl (Nat.le_of_ble_eq_true rfl) rfl ?_
      refine Ev.iload_n dX0_fitsRing_21 rfl rfl ?_
      refine Ev.aload_n dX0_fitsRing_22 rfl rfl ?_
      refine gf_X0_38 (x := ((rN R : Nat) : Int)) rfl dX0_fitsRing_23 (lt_rc (by omega)) (sh_rc (by omega)) hN ?_
      refine Ev.icmp_lt (tgt := 31) ⟨by omega, by omega⟩ ⟨by omega, by omega⟩ dX0_fitsRing_26 (by decide) (fun h26 => ?_) (fun h26 => ?_)
      · skip
        refine Ev.iload_n dX0_fitsRing_31 rfl rfl ?_
        refine Ev.if_ne (tgt := 49) ⟨by omega, by omega⟩ dX0_fitsRing_32 (by decide) (fun h32 => ?_) (fun h32 => ?_)
        · skip
          refine Ev.iinc (pl' := [some (vR (26 + 4 * r)), some (vR (rg)), some (vI (((A (rO R (pt R A q)) : Nat) : Int))), some (vI ((((q + 1) : Nat) : Int) + 1))]) dX0_fitsRing_49 rfl (Nat.le_of_ble_eq_true rfl) rfl ?_
          refine Ev.goto (tgt := 4) dX0_fitsRing_52 (by decide) ?_
          refine Ev.wk (pl' := [some (vR (26 + 4 * r)), some (vR (rg)), some (vI (((pt R A (q + 1) : Nat) : Int))), some (vI (((((q + 1) + 1) : Nat) : Int)))]) ⟨rfl, ⟨rfl, ⟨vIe rfl, ⟨vIe (by omega), trivial⟩⟩⟩⟩ ?_
          exact ih (q + 1) (by omega) (fun _ => by show A (rO R (pt R A q)) < rN R; omega) (fun j h1 h2 => (Nat.lt_or_ge q j).elim (fun e => by rw [show j = q + 1 by omega]; show 0 < A (rO R (pt R A q)) ∧ A (rO R (pt R A q)) < rN R; omega) (fun e => hpa j h1 e))
        · skip
          refine Ev.iload_n dX0_fitsRing_35 rfl rfl ?_
          refine Ev.aload_n dX0_fitsRing_36 rfl rfl ?_
          refine gf_X0_38 (x := ((rN R : Nat) : Int)) rfl dX0_fitsRing_37 (lt_rc (by omega)) (sh_rc (by omega)) hN ?_
          refine Ev.icmp_ne (tgt := 47) ⟨by omega, by omega⟩ ⟨by omega, by omega⟩ dX0_fitsRing_40 (by decide) (fun h40 => ?_) (fun h40 => ?_)
          · skip
            refine Ev.iconst dX0_fitsRing_47 ?_
            exact Ev.zreturn dX0_fitsRing_48 rfl (Or.inl rfl) (rI (bI_f (by
          rintro (z | ⟨z1, z2⟩)
          · omega
          · first
            | (have z3 := (z2 (q + 1) (by omega) (by omega)); have z4 : pt R A (q + 1) = A (rO R (pt R A q)) := rfl; omega)
            | (have z3 := pt_lt (show 0 < rN R by omega) z1 z2 (q + 1); have z4 : pt R A (q + 1) = A (rO R (pt R A q)) := rfl; omega)
            | (have z3 := hpa (rN R) (by omega) (by omega); omega))) rfl)
          · skip
            refine Ev.iconst dX0_fitsRing_43 ?_
            refine Ev.goto (tgt := 48) dX0_fitsRing_44 (by decide) ?_
            exact Ev.zreturn dX0_fitsRing_48 rfl (Or.inr rfl) (rI (bI_t (by first | exact Or.inl (by omega) | exact Or.inr ⟨by rw [show rN R = q + 1 by omega]; show A (rO R (pt R A q)) = 0; omega, fun j h1 h2 => hpa j h1 (by omega)⟩)) rfl)
      · skip
        refine Ev.iconst dX0_fitsRing_29 ?_
        exact Ev.zreturn dX0_fitsRing_30 rfl (Or.inl rfl) (rI (bI_f (by
          rintro (z | ⟨z1, z2⟩)
          · omega
          · first
            | (have z3 := (z2 (q + 1) (by omega) (by omega)); have z4 : pt R A (q + 1) = A (rO R (pt R A q)) := rfl; omega)
            | (have z3 := pt_lt (show 0 < rN R by omega) z1 z2 (q + 1); have z4 : pt R A (q + 1) = A (rO R (pt R A q)) := rfl; omega)
            | (have z3 := hpa (rN R) (by omega) (by omega); omega))) rfl)

set_option maxRecDepth 100000 in
set_option maxHeartbeats 4000000 in
theorem s0_fitsRing {g : GC} (σ : Sg) (r U : Nat) (R : RC) (hr : r < 56) (hM : CR σ r R) (hW : WR U R) (A : An) (rg : Nat) (hg : rg < 298) (hgs : sh0 rg = (1, 10)) (hA : ∀ k, k < rN R → σ rg (rO R k) = (A (rO R k) : Int) ∧ A (rO R k) < 16) : Ev g mX0_fitsRing 0 [some (vR (26 + 4 * r)), some (vR (rg)), none, none] [] (M0 (σ)) 0 0 (retI (bI (fRing R A)) σ) := by
  refine Ev.iconst dX0_fitsRing_0 ?_
  refine Ev.istore_n (pl' := [some (vR (26 + 4 * r)), some (vR (rg)), some (vI (0)), none]) dX0_fitsRing_1 rfl (Nat.le_of_ble_eq_true rfl) rfl ?_
  refine Ev.iconst dX0_fitsRing_2 ?_
  refine Ev.istore_n (pl' := [some (vR (26 + 4 * r)), some (vR (rg)), some (vI (0)), some (vI (1))]) dX0_fitsRing_3 rfl (Nat.le_of_ble_eq_true rfl) rfl ?_
  refine Ev.wk (pl' := [some (vR (26 + 4 * r)), some (vR (rg)), some (vI (((pt R A 0 : Nat) : Int))), some (vI ((((0 + 1) : Nat) : Int)))]) ⟨rfl, ⟨rfl, ⟨vIe rfl, ⟨vIe rfl, trivial⟩⟩⟩⟩ ?_
  exact s0_ring σ r U R hr hM hW A rg hg hgs hA (rN R) 0 (by omega) (fun h => h) (fun j h1 h2 => absurd h1 (by omega))

set_option maxRecDepth 100000 in
set_option maxHeartbeats 4000000 in
theorem s0_cl {g : GC} (σ : Sg) (r U : Nat) (R : RC) (hr : r < 56) (hM : CR σ r R) (hW : WR U R) (A : An) (rg : Nat) (hg : rg < 298) (hgs : sh0 rg = (1, 10)) (hA : ∀ k, k < rN R → σ rg (rO R k) = (A (rO R k) : Int) ∧ A (rO R k) < 16) (hk5 : rK R = 5) : ∀ j K : Nat, K + j = rN R → (∀ k, k < K → (rA R k).toNat.testBit (A (rO R k)) = false) → Ev g mX0_fitsClause 2 [some (vR (26 + 4 * r)), some (vR (rg)), some (vI (((K : Nat) : Int)))] [] (M0 (σ)) 0 0 (retI (bI (fCl R A)) σ) := by
  intro j
  induction j with
  | zero =>
    intro K hij hno
    obtain ⟨hK, hS, hB, hN, hE, hP⟩ := id hM
    obtain ⟨⟨hk5_, hn6, hU⟩, hO, -⟩ := id hW
    have hA5 := hW.2.2.2.2.2.1 hk5
    refine Ev.iload_n dX0_fitsClause_2 rfl rfl ?_
    refine Ev.aload_n dX0_fitsClause_3 rfl rfl ?_
    refine gf_X0_38 (x := ((rN R : Nat) : Int)) rfl dX0_fitsClause_4 (lt_rc (by omega)) (sh_rc (by omega)) hN ?_
    refine Ev.icmp_ge (tgt := 38) ⟨by omega, by omega⟩ ⟨by omega, by omega⟩ dX0_fitsClause_7 (by decide) (fun h7 => ?_) (fun h7 => ?_)
    · skip
      refine Ev.iconst dX0_fitsClause_38 ?_
      exact Ev.zreturn dX0_fitsClause_39 rfl (Or.inl rfl) (rI (bI_f (fun ⟨k, z1, z2⟩ => by rw [hno k (by omega)] at z2; cases z2)) rfl)
    · exact absurd h7 (by omega)
  | succ j ih =>
    intro K hij hno
    obtain ⟨hK, hS, hB, hN, hE, hP⟩ := id hM
    obtain ⟨⟨hk5_, hn6, hU⟩, hO, -⟩ := id hW
    have hA5 := hW.2.2.2.2.2.1 hk5
    have hak := (hA K (by omega)).2
    have haK := hA5 K (by omega)
    refine Ev.iload_n dX0_fitsClause_2 rfl rfl ?_
    refine Ev.aload_n dX0_fitsClause_3 rfl rfl ?_
    refine gf_X0_38 (x := ((rN R : Nat) : Int)) rfl dX0_fitsClause_4 (lt_rc (by omega)) (sh_rc (by omega)) hN ?_
    refine Ev.icmp_ge (tgt := 38) ⟨by omega, by omega⟩ ⟨by omega, by omega⟩ dX0_fitsClause_7 (by decide) (fun h7 => ?_) (fun h7 => ?_)
    · exact absurd h7 (by omega)
    · skip
      refine Ev.aload_n dX0_fitsClause_10 rfl rfl ?_
      refine gf_X0_41 rfl dX0_fitsClause_11 (lt_rc (by omega)) (sh_rc (by omega)) (rf_rc6 (by omega)) ?_
      refine Ev.iload_n dX0_fitsClause_14 rfl rfl ?_
      refine Ev.iaload (v := (((rA R K).toNat : Nat) : Int)) dX0_fitsClause_15 (lt_rcf (by omega) (by decide)) (sh_rc2 (by omega)) (by decide) (by omega) (by omega) (ldx rfl ((hP K (by omega)).2.1.trans (by omega))) ?_
      refine Ev.aload_n dX0_fitsClause_16 rfl rfl ?_
      refine Ev.aload_n dX0_fitsClause_17 rfl rfl ?_
      refine gf_X0_45 rfl dX0_fitsClause_18 (lt_rc (by omega)) (sh_rc (by omega)) (rf_rc5 (by omega)) ?_
      refine Ev.iload_n dX0_fitsClause_21 rfl rfl ?_
      refine Ev.iaload (v := ((rO R K : Nat) : Int)) dX0_fitsClause_22 (lt_rcf (by omega) (by decide)) (sh_rc1 (by omega)) (by decide) (by omega) (by omega) (ldx rfl (hP K (by omega)).1) ?_
      refine Ev.iaload (v := ((A (rO R K) : Nat) : Int)) dX0_fitsClause_23 hg hgs (by decide) (by omega) (Int.ofNat_lt.mpr (Nat.lt_of_lt_of_le (hO _ (by omega)) hU)) (ldx rfl (hA K (by omega)).1) ?_
      refine Ev.ishr dX0_fitsClause_24 ?_
      refine Ev.iconst dX0_fitsClause_25 ?_
      refine Ev.iand dX0_fitsClause_26 ?_
      rw [show (iAnd ((iShr ((((rA R K).toNat : Nat) : Int)) (((A (rO R K) : Nat) : Int)))) (1)) = (((b2 (Nat.testBit (rA R K).toNat (A (rO R K)))) : Nat) : Int) from bit_nat (by omega) (by omega)]
      refine Ev.if_eq (tgt := 32) b2_inR dX0_fitsClause_27 (by decide) (fun h27 => ?_) (fun h27 => ?_)
      · skip
        refine Ev.iinc (pl' := [some (vR (26 + 4 * r)), some (vR (rg)), some (vI (((K : Nat) : Int) + 1))]) dX0_fitsClause_32 rfl (Nat.le_of_ble_eq_true rfl) rfl ?_
        refine Ev.goto (tgt := 2) dX0_fitsClause_35 (by decide) ?_
        refine Ev.wk (pl' := [some (vR (26 + 4 * r)), some (vR (rg)), some (vI ((((K + 1) : Nat) : Int)))]) ⟨rfl, ⟨rfl, ⟨vIe (by omega), trivial⟩⟩⟩ ?_
        exact ih (K + 1) (by omega) (fun k hk => (Nat.lt_or_ge k K).elim (hno k) (fun e => by rw [show k = K by omega]; exact b2_0.mp (by assumption)))
      · skip
        refine Ev.iconst dX0_fitsClause_30 ?_
        exact Ev.zreturn dX0_fitsClause_31 rfl (Or.inr rfl) (rI (bI_t ⟨K, by omega, b2_ne.mp (by assumption)⟩) rfl)

set_option maxRecDepth 100000 in
set_option maxHeartbeats 4000000 in
theorem s0_fitsClause {g : GC} (σ : Sg) (r U : Nat) (R : RC) (hr : r < 56) (hM : CR σ r R) (hW : WR U R) (A : An) (rg : Nat) (hg : rg < 298) (hgs : sh0 rg = (1, 10)) (hA : ∀ k, k < rN R → σ rg (rO R k) = (A (rO R k) : Int) ∧ A (rO R k) < 16) (hk5 : rK R = 5) : Ev g mX0_fitsClause 0 [some (vR (26 + 4 * r)), some (vR (rg)), none] [] (M0 (σ)) 0 0 (retI (bI (fCl R A)) σ) := by
  refine Ev.iconst dX0_fitsClause_0 ?_
  refine Ev.istore_n (pl' := [some (vR (26 + 4 * r)), some (vR (rg)), some (vI (0))]) dX0_fitsClause_1 rfl (Nat.le_of_ble_eq_true rfl) rfl ?_
  refine Ev.wk (pl' := [some (vR (26 + 4 * r)), some (vR (rg)), some (vI (((0 : Nat) : Int)))]) ⟨rfl, ⟨rfl, ⟨vIe rfl, trivial⟩⟩⟩ ?_
  exact s0_cl σ r U R hr hM hW A rg hg hgs hA hk5 (rN R) 0 (by omega) (fun k hk => absurd hk (by omega))

set_option maxRecDepth 100000 in
set_option maxHeartbeats 4000000 in
theorem s0_fits {g : GC} (σ : Sg) (r U : Nat) (R : RC) (hr : r < 56) (hM : CR σ r R) (hW : WR U R) (A : An) (rg : Nat) (hg : rg < 298) (hgs : sh0 rg = (1, 10)) (hA : ∀ k, k < rN R → σ rg (rO R k) = (A (rO R k) : Int) ∧ A (rO R k) < 16) (T : Tb) (hT : TVc σ T) : Ev g mX0_fits 0 [some (vR (259)), some (vR (26 + 4 * r)), some (vR (rg))] [] (M0 (σ)) 0 0 (retI (bI (fit T R A)) σ) := by
  obtain ⟨hK, hS, hB, hN, hE, hP⟩ := id hM
  obtain ⟨⟨hk5, hn6, hU⟩, hO, -⟩ := id hW
  refine Ev.aload_n dX0_fits_0 rfl rfl ?_
  refine gf_X0_13 (x := ((rK R : Nat) : Int)) rfl dX0_fits_1 (lt_rc (by omega)) (sh_rc (by omega)) hK ?_
  have hcs : rK R = 0 ∨ rK R = 1 ∨ rK R = 2 ∨ rK R = 3 ∨ rK R = 4 ∨ rK R = 5 := by omega
  rcases hcs with hk | hk | hk | hk | hk | hk
  · rw [show ((rK R : Nat) : Int) = 0 by omega]
    refine Ev.tableIn (tgt := 40) dX0_fits_4 ⟨by decide, by decide⟩ (by decide) (by decide) rfl (by decide) ?_
    refine Ev.aload_n dX0_fits_40 rfl rfl ?_
    refine Ev.aload_n dX0_fits_41 rfl rfl ?_
    refine Ev.callS_I (M2 := mX0_fitsSum) (args2 := [vR (26 + 4 * r), vR (rg)]) dX0_fits_42 okX0_fitsSum lk_X0_19 osX0_fitsSum.1 osX0_fitsSum.2 (by decide) rfl (Nat.le_of_ble_eq_true rfl) (Nat.le_of_ble_eq_true rfl) (s0_fitsSum σ r U R hr hM hW A rg hg hgs hA hk) ?_ rfl
    exact Ev.zreturn dX0_fits_45 rfl bI_or (rI (bI_congr (fit_0 hk).symm) rfl)
  · rw [show ((rK R : Nat) : Int) = 1 by omega]
    refine Ev.tableIn (tgt := 46) dX0_fits_4 ⟨by decide, by decide⟩ (by decide) (by decide) rfl (by decide) ?_
    refine Ev.aload_n dX0_fits_46 rfl rfl ?_
    refine Ev.aload_n dX0_fits_47 rfl rfl ?_
    refine Ev.callS_I (M2 := mX0_fitsUnlike) (args2 := [vR (26 + 4 * r), vR (rg)]) dX0_fits_48 okX0_fitsUnlike lk_X0_23 osX0_fitsUnlike.1 osX0_fitsUnlike.2 (by decide) rfl (Nat.le_of_ble_eq_true rfl) (Nat.le_of_ble_eq_true rfl) (s0_fitsUnlike σ r U R hr hM hW A rg hg hgs hA) ?_ rfl
    exact Ev.zreturn dX0_fits_51 rfl bI_or (rI (bI_congr (fit_1 hk).symm) rfl)
  · rw [show ((rK R : Nat) : Int) = 2 by omega]
    refine Ev.tableIn (tgt := 52) dX0_fits_4 ⟨by decide, by decide⟩ (by decide) (by decide) rfl (by decide) ?_
    refine Ev.aload_n dX0_fits_52 rfl rfl ?_
    refine Ev.aload_n dX0_fits_53 rfl rfl ?_
    refine Ev.aload_n dX0_fits_54 rfl rfl ?_
    refine Ev.callV_I (M2 := mX0_fitsTable) (args2 := [vR (26 + 4 * r), vR (rg)]) (rcv := 259) (q := (RX0, TX0, 1)) (ci := 0) dX0_fits_55 okX0_fitsTable lk_X0_26 ovX0_fitsTable.1.1 ovX0_fitsTable.1.2 ovX0_fitsTable.2 (by decide) rfl rfl ltc_259 shc_259 rfl (Nat.le_of_ble_eq_true rfl) (Nat.le_of_ble_eq_true rfl) (s0_fitsTable σ r U R hr hM hW A rg hg hgs hA hk T hT (rS R).toNat (by have := hW.2.2.2.1 hk; omega) (by have := hW.2.2.2.1 hk; omega)) ?_ rfl
    exact Ev.zreturn dX0_fits_58 rfl bI_or (rI (bI_congr (fit_2 hk).symm) rfl)
  · rw [show ((rK R : Nat) : Int) = 3 by omega]
    refine Ev.tableIn (tgt := 59) dX0_fits_4 ⟨by decide, by decide⟩ (by decide) (by decide) rfl (by decide) ?_
    refine Ev.aload_n dX0_fits_59 rfl rfl ?_
    refine Ev.aload_n dX0_fits_60 rfl rfl ?_
    refine Ev.callS_I (M2 := mX0_fitsLoad) (args2 := [vR (26 + 4 * r), vR (rg)]) dX0_fits_61 okX0_fitsLoad lk_X0_29 osX0_fitsLoad.1 osX0_fitsLoad.2 (by decide) rfl (Nat.le_of_ble_eq_true rfl) (Nat.le_of_ble_eq_true rfl) (s0_fitsLoad σ r U R hr hM hW A rg hg hgs hA hk) ?_ rfl
    exact Ev.zreturn dX0_fits_64 rfl bI_or (rI (bI_congr (fit_3 hk).symm) rfl)
  · rw [show ((rK R : Nat) : Int) = 4 by omega]
    refine Ev.tableIn (tgt := 65) dX0_fits_4 ⟨by decide, by decide⟩ (by decide) (by decide) rfl (by decide) ?_
    refine Ev.aload_n dX0_fits_65 rfl rfl ?_
    refine Ev.aload_n dX0_fits_66 rfl rfl ?_
    refine Ev.callS_I (M2 := mX0_fitsRing) (args2 := [vR (26 + 4 * r), vR (rg)]) dX0_fits_67 okX0_fitsRing lk_X0_32 osX0_fitsRing.1 osX0_fitsRing.2 (by decide) rfl (Nat.le_of_ble_eq_true rfl) (Nat.le_of_ble_eq_true rfl) (s0_fitsRing σ r U R hr hM hW A rg hg hgs hA) ?_ rfl
    exact Ev.zreturn dX0_fits_70 rfl bI_or (rI (bI_congr (fit_4 hk).symm) rfl)
  · rw [show ((rK R : Nat) : Int) = 5 by omega]
    refine Ev.tableOut (tgt := 71) dX0_fits_4 ⟨by decide, by decide⟩ (by decide) (by decide) ?_
    refine Ev.aload_n dX0_fits_71 rfl rfl ?_
    refine Ev.aload_n dX0_fits_72 rfl rfl ?_
    refine Ev.callS_I (M2 := mX0_fitsClause) (args2 := [vR (26 + 4 * r), vR (rg)]) dX0_fits_73 okX0_fitsClause lk_X0_35 osX0_fitsClause.1 osX0_fitsClause.2 (by decide) rfl (Nat.le_of_ble_eq_true rfl) (Nat.le_of_ble_eq_true rfl) (s0_fitsClause σ r U R hr hM hW A rg hg hgs hA hk) ?_ rfl
    exact Ev.zreturn dX0_fits_76 rfl bI_or (rI (bI_congr (fit_5 hk).symm) rfl)

