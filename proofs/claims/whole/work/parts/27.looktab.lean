/-! THE CLASS: tables -/
theorem gn_2 {T : Tb} {R : RC} {X : Rg} {i : Nat} (h : rK R = 2) : gn T R X i = mk (fun v => (X (rO R i)).testBit v = true ∧ gTab T R X i v) := mk_congr fun j _ => by rw [goes_2 h]
def nRows (T : Tb) (t n : Nat) : Nat := if T.1 t < n ∨ n = 0 then 0 else (T.1 t / n).toNat
theorem nRows_e {T : Tb} {t n : Nat} : (if T.1 t < n ∨ n = 0 then 0 else T.1 t / n) = (nRows T t n : Int) := by
  unfold nRows
  split
  · rfl
  · rename_i h
    have : 0 ≤ T.1 t / n := Int.ediv_nonneg (by omega) (by omega)
    omega
theorem nRows_lt {T : Tb} {t n q : Nat} : q < nRows T t n ↔ 0 < n ∧ (((q + 1) * n : Nat) : Int) ≤ T.1 t := by
  unfold nRows
  split
  · rename_i h
    constructor
    · intro z; omega
    · rintro ⟨z1, z2⟩
      have : n ≤ (q + 1) * n := Nat.le_mul_of_pos_left n (by omega)
      omega
  · rename_i h
    have h1 : 0 ≤ T.1 t / n := Int.ediv_nonneg (by omega) (by omega)
    have h2 := Int.le_ediv_iff_mul_le (a := ((q + 1 : Nat) : Int)) (b := T.1 t) (c := (n : Int)) (by omega)
    constructor
    · intro z
      refine ⟨by omega, ?_⟩
      have := h2.mp (by omega)
      rw [← Int.natCast_mul] at this
      exact this
    · rintro ⟨z1, z2⟩
      rw [Int.natCast_mul] at z2
      have := h2.mpr z2
      omega
def fullT (T : Tb) (R : RC) (X : Rg) (t q n : Nat) : Prop := ∀ k, k < n → (X (rO R k)).testBit (T.2 t (q * rN R + k)) = true
theorem fullT_s {T : Tb} {R : RC} {X : Rg} {t q n : Nat} (h : fullT T R X t q n) (h2 : (X (rO R n)).testBit (T.2 t (q * rN R + n)) = true) : fullT T R X t q (n + 1) := fun k hk => by
  rcases Nat.lt_or_ge k n with z | z
  · exact h k z
  · rw [show k = n by omega]; exact h2
noncomputable def tgM (T : Tb) (R : RC) (X : Rg) (t q k : Nat) : Nat := mk (fun v => (X (rO R k)).testBit v = true ∧ ¬ ∃ p, p < q ∧ fullT T R X t p (rN R) ∧ T.2 t (p * rN R + k) = v)
theorem tgM_0 {T : Tb} {R : RC} {X : Rg} {t k : Nat} (hX : X (rO R k) < 65536) : X (rO R k) = tgM T R X t 0 k := mk_eq hX fun v _ => ⟨fun z => ⟨z, fun ⟨p, hp, _⟩ => absurd hp (by omega)⟩, fun z => z.1⟩
theorem tgM_n {T : Tb} {R : RC} {X : Rg} {t q k : Nat} (h : ¬ fullT T R X t q (rN R)) : tgM T R X t (q + 1) k = tgM T R X t q k := mk_congr fun v _ => by
  constructor
  · rintro ⟨z1, z2⟩; exact ⟨z1, fun ⟨p, hp, q1⟩ => z2 ⟨p, by omega, q1⟩⟩
  · rintro ⟨z1, z2⟩
    refine ⟨z1, fun ⟨p, hp, q1, q2⟩ => ?_⟩
    rcases Nat.lt_or_ge p q with e | e
    · exact z2 ⟨p, e, q1, q2⟩
    · rw [show p = q by omega] at q1; exact h q1
theorem tgM_y {T : Tb} {R : RC} {X : Rg} {t q k : Nat} (h : fullT T R X t q (rN R)) : andN (tgM T R X t q k) (2 ^ T.2 t (q * rN R + k)) = tgM T R X t (q + 1) k := mk_eq (andN_lt (mk_lt _)) fun v hv => by
  rw [andN_tb, Nat.testBit_two_pow, Bool.and_eq_true]
  rw [show (tgM T R X t q k).testBit v = true ↔ (v < 16 ∧ (X (rO R k)).testBit v = true ∧ ¬ ∃ p, p < q ∧ fullT T R X t p (rN R) ∧ T.2 t (p * rN R + k) = v) from mkN_tb 16 _ v]
  constructor
  · rintro ⟨⟨_, z1, z2⟩, z3⟩
    have z4 : T.2 t (q * rN R + k) ≠ v := by simpa using z3
    refine ⟨z1, fun ⟨p, hp, q1, q2⟩ => ?_⟩
    rcases Nat.lt_or_ge p q with e | e
    · exact z2 ⟨p, e, q1, q2⟩
    · rw [show p = q by omega] at q2; exact z4 q2
  · rintro ⟨z1, z2⟩
    have z4 : T.2 t (q * rN R + k) ≠ v := fun e => z2 ⟨q, by omega, h, e⟩
    exact ⟨⟨hv, z1, fun ⟨p, hp, q1⟩ => z2 ⟨p, by omega, q1⟩⟩, by simpa using z4⟩
theorem tg_end {T : Tb} {R : RC} {X : Rg} {t q k : Nat} (hk2 : rK R = 2) (ht : rS R = t) (hk : k < rN R) (hq : q = nRows T t (rN R)) : tgM T R X t q k = gn T R X k := by
  rw [gn_2 hk2]
  refine mk_congr fun v hv => ?_
  rw [gTab_iff ht]
  constructor
  · rintro ⟨z1, z2⟩
    refine ⟨z1, fun ⟨p, hp, z3⟩ => z2 ⟨p, by rw [hq]; exact nRows_lt.mpr hp, fun j hj => ?_, ?_⟩⟩
    · have z4 := z3 j hj
      by_cases e : j = k
      · rw [if_pos e] at z4; rw [e] at z4 ⊢; rw [z4]; exact z1
      · rw [if_neg e] at z4; exact z4
    · have z4 := z3 k hk
      rw [if_pos rfl] at z4; exact z4
  · rintro ⟨z1, z2⟩
    refine ⟨z1, fun ⟨p, hp, z3, z4⟩ => z2 ⟨p, nRows_lt.mp (by omega), fun j hj => ?_⟩⟩
    by_cases e : j = k
    · rw [if_pos e, e]; exact z4
    · rw [if_neg e]; exact z3 j hj
theorem tg_y {ρ : Sg} {T : Tb} {R : RC} {X : Rg} {t q k : Nat} (q3 : ρ 262 (rO R k) = ((andN (tgM T R X t q k) (2 ^ T.2 t (q * rN R + k)) : Nat) : Int)) (h : fullT T R X t q (rN R)) : ρ 262 (rO R k) = (tgM T R X t (q + 1) k : Int) := by rw [q3, tgM_y h]
theorem nRows_le {T : Tb} {t n : Nat} (h : T.1 t ≤ 48) : nRows T t n ≤ 48 := by
  rcases Nat.lt_or_ge 48 (nRows T t n) with z | z
  · obtain ⟨z1, z2⟩ := nRows_lt.mp z
    have := Nat.mul_le_mul_left (48 + 1) (show 1 ≤ n by omega)
    omega
  · exact z
theorem nRows_inR {T : Tb} {t n : Nat} (h : T.1 t ≤ 48) : inR ((nRows T t n : Nat) : Int) := by have := @nRows_le T t n h; exact ⟨by omega, by omega⟩
set_option maxRecDepth 100000 in
set_option maxHeartbeats 4000000 in
theorem s1_give_l {g : GC} (τ0 : Sg) (σ : Sg) (r U : Nat) (R : RC) (hr : r < 56) (hM : CR σ r R) (hW : WR U R) (X : Rg) (rg : Nat) (hg : rg < 298) (hgs : sh0 rg = (1, 10)) (hgn : rg ∉ LK) (hX : AV σ rg U X) (T : Tb) (hT : TVc σ T) (t : Nat) (ht6 : t < 6) (b : Nat) (hb : b + rN R ≤ 48) (gk : Nat → Nat) (hgk : ∀ k, k < rN R → gk k < 65536) (hd : ∀ j k, j < rN R → k < rN R → rO R j = rO R k → j = k) : ∀ j K : Nat, K + j = rN R → ∀ τ : Sg, Same LK σ τ → τ 263 = τ0 263 → (∀ k, k < K → τ 262 (rO R k) = (fun k => ((andN (gk k) (2 ^ T.2 t (b + k)) : Nat) : Int)) k) → (∀ k, k < rN R → K ≤ k → τ 262 (rO R k) = (gk k : Int)) → Ev g mX1_giveBack 3 [some (vR (261)), some (vR (26 + 4 * r)), some (vR (253 + t)), some (vI (((b : Nat) : Int))), some (vI (((K : Nat) : Int)))] [] (M0 (τ)) 0 0 (retW (fun ρ => Same LK σ ρ ∧ ρ 263 = τ0 263 ∧ ∀ k, k < rN R → ρ 262 (rO R k) = (fun k => ((andN (gk k) (2 ^ T.2 t (b + k)) : Nat) : Int)) k)) := by
  intro j
  induction j with
  | zero =>
    intro K hij τ hF hJ0 hG1 hG2
    have hF0 := hF
    have hM := hM.same hF (fun j hj => nLK (by omega))
    have hX := hX.same hF hgn
    have hT := hT.same hF (fun c h1 h2 => nLK (by omega))
    obtain ⟨hz, hzb, hcell⟩ := hT t (by omega)
    obtain ⟨hK, hS, hB, hN, hE, hP⟩ := id hM
    obtain ⟨⟨hk5, hn6, hU⟩, hO, -⟩ := id hW
    refine Ev.iload dX1_giveBack_3 rfl ?_
    refine Ev.aload_n dX1_giveBack_5 rfl rfl ?_
    refine gf_X1_53 (x := ((rN R : Nat) : Int)) rfl dX1_giveBack_6 (lt_rc (by omega)) (sh_rc (by omega)) hN ?_
    refine Ev.icmp_ge (tgt := 43) ⟨by omega, by omega⟩ ⟨by omega, by omega⟩ dX1_giveBack_9 (by decide) (fun h9 => ?_) (fun h9 => ?_)
    · skip
      exact Ev.vreturn dX1_giveBack_43 rfl (rW ⟨hF0, hJ0, fun k hk => hG1 k (by omega)⟩)
    · exact absurd h9 (by omega)
  | succ j ih =>
    intro K hij τ hF hJ0 hG1 hG2
    have hF0 := hF
    have hM := hM.same hF (fun j hj => nLK (by omega))
    have hX := hX.same hF hgn
    have hT := hT.same hF (fun c h1 h2 => nLK (by omega))
    obtain ⟨hz, hzb, hcell⟩ := hT t (by omega)
    obtain ⟨hK, hS, hB, hN, hE, hP⟩ := id hM
    obtain ⟨⟨hk5, hn6, hU⟩, hO, -⟩ := id hW
    have hgK := hgk K (by omega)
    have hc16 := (hcell (b + K) (by omega)).2
    have hp16 := pow_le16 hc16
    refine Ev.iload dX1_giveBack_3 rfl ?_
    refine Ev.aload_n dX1_giveBack_5 rfl rfl ?_
    refine gf_X1_53 (x := ((rN R : Nat) : Int)) rfl dX1_giveBack_6 (lt_rc (by omega)) (sh_rc (by omega)) hN ?_
    refine Ev.icmp_ge (tgt := 43) ⟨by omega, by omega⟩ ⟨by omega, by omega⟩ dX1_giveBack_9 (by decide) (fun h9 => ?_) (fun h9 => ?_)
    · exact absurd h9 (by omega)
    · skip
      refine Ev.aload_n dX1_giveBack_12 rfl rfl ?_
      refine gf_X1_11 rfl dX1_giveBack_13 ltc_261 shc_261 rfc_261_1 ?_
      refine Ev.aload_n dX1_giveBack_16 rfl rfl ?_
      refine gf_X1_56 rfl dX1_giveBack_17 (lt_rc (by omega)) (sh_rc (by omega)) (rf_rc5 (by omega)) ?_
      refine Ev.iload dX1_giveBack_20 rfl ?_
      refine Ev.iaload (v := ((rO R K : Nat) : Int)) dX1_giveBack_22 (lt_rcf (by omega) (by decide)) (sh_rc1 (by omega)) (by decide) (by omega) (by omega) (ldx rfl (hP K (by omega)).1) ?_
      refine Ev.dup2RI dX1_giveBack_23 ?_
      refine Ev.iaload (v := ((gk K : Nat) : Int)) dX1_giveBack_24 ltc_262 shc_262 (by decide) (by omega) (Int.ofNat_lt.mpr (Nat.lt_of_lt_of_le (hO _ (by omega)) hU)) (ldx rfl (hG2 K (by omega) (by omega))) ?_
      refine Ev.iconst dX1_giveBack_25 ?_
      refine Ev.aload_n dX1_giveBack_26 rfl rfl ?_
      refine Ev.iload_n dX1_giveBack_27 rfl rfl ?_
      refine Ev.iload dX1_giveBack_28 rfl ?_
      refine Ev.iadd dX1_giveBack_30 ?_
      refine Ev.iaload (v := ((T.2 t (b + K) : Nat) : Int)) dX1_giveBack_31 (lt_tc (by omega)) (sh_tc (by omega)) (by decide) (by omega) (by omega) (ldx (n := b + K) (by omega) (hcell _ (by omega)).1) ?_
      refine Ev.ishl dX1_giveBack_32 ?_
      rw [show (iShl (1) (((T.2 t (b + K) : Nat) : Int))) = ((2 ^ T.2 t (b + K) : Nat) : Int) from shl1 (by omega)]
      refine Ev.iconst dX1_giveBack_33 ?_
      refine Ev.ixor dX1_giveBack_34 ?_
      rw [show (iXor (((2 ^ T.2 t (b + K) : Nat) : Int)) (-1)) = (-((2 ^ T.2 t (b + K) : Nat) : Int) - 1) from iXor_m1 (by omega)]
      refine Ev.iand dX1_giveBack_35 ?_
      rw [show (iAnd (((gk K : Nat) : Int)) ((-((2 ^ T.2 t (b + K) : Nat) : Int) - 1))) = ((andN (gk K) (2 ^ T.2 t (b + K)) : Nat) : Int) from iAnd_not (by omega)]
      refine Ev.iastore dX1_giveBack_36 ltc_262 shc_262 (by decide) (by omega) (Int.ofNat_lt.mpr (Nat.lt_of_lt_of_le (hO _ (by omega)) hU)) ?_
      refine Ev.iinc (pl' := [some (vR (261)), some (vR (26 + 4 * r)), some (vR (253 + t)), some (vI (((b : Nat) : Int))), some (vI (((K : Nat) : Int) + 1))]) dX1_giveBack_37 rfl (Nat.le_of_ble_eq_true rfl) rfl ?_
      refine Ev.goto (tgt := 3) dX1_giveBack_40 (by decide) ?_
      refine Ev.wk (pl' := [some (vR (261)), some (vR (26 + 4 * r)), some (vR (253 + t)), some (vI (((b : Nat) : Int))), some (vI ((((K + 1) : Nat) : Int)))]) ⟨rfl, ⟨rfl, ⟨rfl, ⟨rfl, ⟨vIe (by omega), trivial⟩⟩⟩⟩⟩ ?_
      exact ih (K + 1) (by omega) (upC (τ) 262 (((rO R K : Nat) : Int)).toNat (((andN (gk K) (2 ^ T.2 t (b + K)) : Nat) : Int))) (hF0.up (by decide)) (by rw [upC_ne (by decide)]; exact hJ0) (up_D (F := (fun k => ((andN (gk k) (2 ^ T.2 t (b + k)) : Nat) : Int))) rfl rfl (fun k hk z => hd k K hk (by omega) z) (fun k => k < K + 1) (fun k hk => by omega) (fun k hk hne => hG1 k (by omega))) (fun k hk e => by rw [show ((rO R K : Nat) : Int).toNat = rO R K from rfl, upC_self (fun z => absurd (hd k K hk (by omega) z) (by omega))]; exact hG2 k hk (by omega))

set_option maxRecDepth 100000 in
set_option maxHeartbeats 4000000 in
theorem s1_giveBack {g : GC} (σ : Sg) (r U : Nat) (R : RC) (hr : r < 56) (hM : CR σ r R) (hW : WR U R) (X : Rg) (rg : Nat) (hg : rg < 298) (hgs : sh0 rg = (1, 10)) (hgn : rg ∉ LK) (hX : AV σ rg U X) (T : Tb) (hT : TVc σ T) (t : Nat) (ht6 : t < 6) (b : Nat) (hb : b + rN R ≤ 48) (gk : Nat → Nat) (hgk : ∀ k, k < rN R → gk k < 65536) (hd : ∀ j k, j < rN R → k < rN R → rO R j = rO R k → j = k) (hG2 : ∀ k, k < rN R → σ 262 (rO R k) = (gk k : Int)) : Ev g mX1_giveBack 0 [some (vR (261)), some (vR (26 + 4 * r)), some (vR (253 + t)), some (vI (((b : Nat) : Int))), none] [] (M0 (σ)) 0 0 (retW (fun ρ => Same LK σ ρ ∧ ρ 263 = σ 263 ∧ ∀ k, k < rN R → ρ 262 (rO R k) = (fun k => ((andN (gk k) (2 ^ T.2 t (b + k)) : Nat) : Int)) k)) := by
  refine Ev.iconst dX1_giveBack_0 ?_
  refine Ev.istore (pl' := [some (vR (261)), some (vR (26 + 4 * r)), some (vR (253 + t)), some (vI (((b : Nat) : Int))), some (vI (0))]) dX1_giveBack_1 (Nat.le_of_ble_eq_true rfl) rfl ?_
  refine Ev.wk (pl' := [some (vR (261)), some (vR (26 + 4 * r)), some (vR (253 + t)), some (vI (((b : Nat) : Int))), some (vI (((0 : Nat) : Int)))]) ⟨rfl, ⟨rfl, ⟨rfl, ⟨rfl, ⟨vIe rfl, trivial⟩⟩⟩⟩⟩ ?_
  exact s1_give_l σ σ r U R hr hM hW X rg hg hgs hgn hX T hT t ht6 b hb gk hgk hd (rN R) 0 (by omega) σ Same.rf rfl (fun k hk => absurd hk (by omega)) (fun k hk _ => hG2 k hk)

set_option maxRecDepth 100000 in
set_option maxHeartbeats 4000000 in
theorem s1_tab_i {g : GC} (σ : Sg) (r U : Nat) (R : RC) (hr : r < 56) (hM : CR σ r R) (hW : WR U R) (X : Rg) (rg : Nat) (hg : rg < 298) (hgs : sh0 rg = (1, 10)) (hgn : rg ∉ LK) (hX : AV σ rg U X) (hk2 : rK R = 2) (T : Tb) (hT : TVc σ T) (t : Nat) (ht : rS R = t) (ht6 : t < 6) (q : Nat) (hq : q < nRows T t (rN R)) {Post : Option PV → Mem → Prop} : ∀ j K : Nat, K + j = rN R → fullT T R X t q K → (∀ K : Nat, K ≤ rN R → (K = rN R ↔ fullT T R X t q (rN R)) → Ev g mX1_lookAtTable 95 [some (vR (261)), some (vR (26 + 4 * r)), some (vR (rg)), some (vR (253 + t)), some (vI (((nRows T t (rN R) : Nat) : Int))), some (vI (((q : Nat) : Int))), some (vI ((((q * rN R) : Nat) : Int))), some (vI (((K : Nat) : Int)))] [] (M0 (σ)) 0 0 Post) → Ev g mX1_lookAtTable 58 [some (vR (261)), some (vR (26 + 4 * r)), some (vR (rg)), some (vR (253 + t)), some (vI (((nRows T t (rN R) : Nat) : Int))), some (vI (((q : Nat) : Int))), some (vI ((((q * rN R) : Nat) : Int))), some (vI (((K : Nat) : Int)))] [] (M0 (σ)) 0 0 (Post) := by
  intro j
  induction j with
  | zero =>
    intro K hij hfu kk
    obtain ⟨hK, hS, hB, hN, hE, hP⟩ := id hM
    obtain ⟨⟨hk5, hn6, hU⟩, hO, -⟩ := id hW
    have hXR : ∀ k, k < rN R → X (rO R k) ≠ 0 ∧ X (rO R k) < 65536 := fun k hk => (hX _ (hO k hk)).2
    obtain ⟨hz, hzb, hcell⟩ := hT t ht6
    have hqq := (nRows_lt.mp hq).2
    have hq1 : (q + 1) * rN R = q * rN R + rN R := Nat.succ_mul _ _
    refine Ev.iload dX1_lookAtTable_58 rfl ?_
    refine Ev.aload_n dX1_lookAtTable_60 rfl rfl ?_
    refine gf_X1_53 (x := ((rN R : Nat) : Int)) rfl dX1_lookAtTable_61 (lt_rc (by omega)) (sh_rc (by omega)) hN ?_
    refine Ev.icmp_ge (tgt := 95) ⟨by omega, by omega⟩ ⟨by omega, by omega⟩ dX1_lookAtTable_64 (by decide) (fun h64 => ?_) (fun h64 => ?_)
    · skip
      first
        | exact kk K (by omega) ⟨fun _ => by rw [← show K = rN R by omega]; exact hfu, fun _ => by omega⟩
        | exact kk K (by omega) ⟨fun z => absurd z (by omega), fun z => absurd (z K (by omega)) (by rw [b2_0.mp h86]; decide)⟩
    · exact absurd h64 (by omega)
  | succ j ih =>
    intro K hij hfu kk
    obtain ⟨hK, hS, hB, hN, hE, hP⟩ := id hM
    obtain ⟨⟨hk5, hn6, hU⟩, hO, -⟩ := id hW
    have hXR : ∀ k, k < rN R → X (rO R k) ≠ 0 ∧ X (rO R k) < 65536 := fun k hk => (hX _ (hO k hk)).2
    obtain ⟨hz, hzb, hcell⟩ := hT t ht6
    have hqq := (nRows_lt.mp hq).2
    have hq1 : (q + 1) * rN R = q * rN R + rN R := Nat.succ_mul _ _
    have hc16 := (hcell (q * rN R + K) (by omega)).2
    have hxk := hXR K (by omega)
    refine Ev.iload dX1_lookAtTable_58 rfl ?_
    refine Ev.aload_n dX1_lookAtTable_60 rfl rfl ?_
    refine gf_X1_53 (x := ((rN R : Nat) : Int)) rfl dX1_lookAtTable_61 (lt_rc (by omega)) (sh_rc (by omega)) hN ?_
    refine Ev.icmp_ge (tgt := 95) ⟨by omega, by omega⟩ ⟨by omega, by omega⟩ dX1_lookAtTable_64 (by decide) (fun h64 => ?_) (fun h64 => ?_)
    · exact absurd h64 (by omega)
    · skip
      refine Ev.aload_n dX1_lookAtTable_67 rfl rfl ?_
      refine Ev.aload_n dX1_lookAtTable_68 rfl rfl ?_
      refine gf_X1_56 rfl dX1_lookAtTable_69 (lt_rc (by omega)) (sh_rc (by omega)) (rf_rc5 (by omega)) ?_
      refine Ev.iload dX1_lookAtTable_72 rfl ?_
      refine Ev.iaload (v := ((rO R K : Nat) : Int)) dX1_lookAtTable_74 (lt_rcf (by omega) (by decide)) (sh_rc1 (by omega)) (by decide) (by omega) (by omega) (ldx rfl (hP K (by omega)).1) ?_
      refine Ev.iaload (v := ((X (rO R K) : Nat) : Int)) dX1_lookAtTable_75 hg hgs (by decide) (by omega) (Int.ofNat_lt.mpr (Nat.lt_of_lt_of_le (hO _ (by omega)) hU)) (ldx rfl (hX _ (hO _ (by omega))).1) ?_
      refine Ev.aload_n dX1_lookAtTable_76 rfl rfl ?_
      refine Ev.iload dX1_lookAtTable_77 rfl ?_
      refine Ev.iload dX1_lookAtTable_79 rfl ?_
      refine Ev.iadd dX1_lookAtTable_81 ?_
      refine Ev.iaload (v := ((T.2 t (q * rN R + K) : Nat) : Int)) dX1_lookAtTable_82 (lt_tc (by omega)) (sh_tc (by omega)) (by decide) (by omega) (by omega) (ldx (n := q * rN R + K) (by omega) (hcell _ (by omega)).1) ?_
      refine Ev.ishr dX1_lookAtTable_83 ?_
      refine Ev.iconst dX1_lookAtTable_84 ?_
      refine Ev.iand dX1_lookAtTable_85 ?_
      rw [show (iAnd ((iShr (((X (rO R K) : Nat) : Int)) (((T.2 t (q * rN R + K) : Nat) : Int)))) (1)) = (((b2 (Nat.testBit (X (rO R K)) (T.2 t (q * rN R + K)))) : Nat) : Int) from bit_nat (by omega) (by omega)]
      refine Ev.if_eq (tgt := 95) b2_inR dX1_lookAtTable_86 (by decide) (fun h86 => ?_) (fun h86 => ?_)
      · skip
        first
          | exact kk K (by omega) ⟨fun _ => by rw [← show K = rN R by omega]; exact hfu, fun _ => by omega⟩
          | exact kk K (by omega) ⟨fun z => absurd z (by omega), fun z => absurd (z K (by omega)) (by rw [b2_0.mp h86]; decide)⟩
      · skip
        refine Ev.iinc (pl' := [some (vR (261)), some (vR (26 + 4 * r)), some (vR (rg)), some (vR (253 + t)), some (vI (((nRows T t (rN R) : Nat) : Int))), some (vI (((q : Nat) : Int))), some (vI ((((q * rN R) : Nat) : Int))), some (vI (((K : Nat) : Int) + 1))]) dX1_lookAtTable_89 rfl (Nat.le_of_ble_eq_true rfl) rfl ?_
        refine Ev.goto (tgt := 58) dX1_lookAtTable_92 (by decide) ?_
        refine Ev.wk (pl' := [some (vR (261)), some (vR (26 + 4 * r)), some (vR (rg)), some (vR (253 + t)), some (vI (((nRows T t (rN R) : Nat) : Int))), some (vI (((q : Nat) : Int))), some (vI ((((q * rN R) : Nat) : Int))), some (vI ((((K + 1) : Nat) : Int)))]) ⟨rfl, ⟨rfl, ⟨rfl, ⟨rfl, ⟨rfl, ⟨rfl, ⟨rfl, ⟨vIe (by omega), trivial⟩⟩⟩⟩⟩⟩⟩⟩ ?_
        exact ih (K + 1) (by omega) (fullT_s hfu (b2_ne.mp h86)) kk

set_option maxRecDepth 100000 in
set_option maxHeartbeats 4000000 in
theorem s1_tab_q {g : GC} (σ : Sg) (r U : Nat) (R : RC) (hr : r < 56) (hM : CR σ r R) (hW : WR U R) (X : Rg) (rg : Nat) (hg : rg < 298) (hgs : sh0 rg = (1, 10)) (hgn : rg ∉ LK) (hX : AV σ rg U X) (hk2 : rK R = 2) (T : Tb) (hT : TVc σ T) (t : Nat) (ht : rS R = t) (ht6 : t < 6) : ∀ j q : Nat, q + j = nRows T t (rN R) → ∀ τ : Sg, Same LK σ τ → τ 263 0 = 0 → (∀ k, k < rN R → τ 262 (rO R k) = (tgM T R X t q k : Int)) → Ev g mX1_lookAtTable 39 [some (vR (261)), some (vR (26 + 4 * r)), some (vR (rg)), some (vR (253 + t)), some (vI (((nRows T t (rN R) : Nat) : Int))), some (vI (((q : Nat) : Int))), none, none] [] (M0 (τ)) 0 0 (retW (Looked σ T R X)) := by
  intro j
  induction j with
  | zero =>
    intro q hij τ hF hJ hG
    have hF0 := hF
    have hM := hM.same hF (fun j hj => nLK (by omega))
    have hX := hX.same hF hgn
    have hT := hT.same hF (fun c h1 h2 => nLK (by omega))
    obtain ⟨hz, hzb, hcell⟩ := hT t (by omega)
    obtain ⟨hK, hS, hB, hN, hE, hP⟩ := id hM
    obtain ⟨⟨hk5, hn6, hU⟩, hO, -⟩ := id hW
    have hXR : ∀ k, k < rN R → X (rO R k) ≠ 0 ∧ X (rO R k) < 65536 := fun k hk => (hX _ (hO k hk)).2
    have hqb := @nRows_lt T t (rN R) q
    have hq1 : (q + 1) * rN R = q * rN R + rN R := Nat.succ_mul _ _
    refine Ev.iload dX1_lookAtTable_39 rfl ?_
    refine Ev.iload dX1_lookAtTable_41 rfl ?_
    refine Ev.icmp_ge (tgt := 118) ⟨by omega, by have := @nRows_le T t (rN R) hzb.2; omega⟩ (nRows_inR hzb.2) dX1_lookAtTable_43 (by decide) (fun h43 => ?_) (fun h43 => ?_)
    · skip
      exact Ev.vreturn dX1_lookAtTable_118 rfl (rW ⟨hF0, hJ, fun k hk => by rw [hG k hk, tg_end hk2 ht hk (by omega)]⟩)
    · exact absurd h43 (by omega)
  | succ j ih =>
    intro q hij τ hF hJ hG
    have hF0 := hF
    have hM := hM.same hF (fun j hj => nLK (by omega))
    have hX := hX.same hF hgn
    have hT := hT.same hF (fun c h1 h2 => nLK (by omega))
    obtain ⟨hz, hzb, hcell⟩ := hT t (by omega)
    obtain ⟨hK, hS, hB, hN, hE, hP⟩ := id hM
    obtain ⟨⟨hk5, hn6, hU⟩, hO, -⟩ := id hW
    have hXR : ∀ k, k < rN R → X (rO R k) ≠ 0 ∧ X (rO R k) < 65536 := fun k hk => (hX _ (hO k hk)).2
    have hqb := @nRows_lt T t (rN R) q
    have hq1 : (q + 1) * rN R = q * rN R + rN R := Nat.succ_mul _ _
    have hdis : ∀ j k, j < rN R → k < rN R → rO R j = rO R k → j = k := hW.2.2.2.2.2.2 (by omega)
    have hqq := (hqb.mp (by omega)).2
    refine Ev.iload dX1_lookAtTable_39 rfl ?_
    refine Ev.iload dX1_lookAtTable_41 rfl ?_
    refine Ev.icmp_ge (tgt := 118) ⟨by omega, by have := @nRows_le T t (rN R) hzb.2; omega⟩ (nRows_inR hzb.2) dX1_lookAtTable_43 (by decide) (fun h43 => ?_) (fun h43 => ?_)
    · exact absurd h43 (by omega)
    · skip
      refine Ev.iload dX1_lookAtTable_46 rfl ?_
      refine Ev.aload_n dX1_lookAtTable_48 rfl rfl ?_
      refine gf_X1_53 (x := ((rN R : Nat) : Int)) rfl dX1_lookAtTable_49 (lt_rc (by omega)) (sh_rc (by omega)) hN ?_
      refine Ev.imul dX1_lookAtTable_52 ?_
      refine Ev.istore (pl' := [some (vR (261)), some (vR (26 + 4 * r)), some (vR (rg)), some (vR (253 + t)), some (vI (((nRows T t (rN R) : Nat) : Int))), some (vI (((q : Nat) : Int))), some (vI ((((q : Nat) : Int) * ((rN R : Nat) : Int)))), none]) dX1_lookAtTable_53 (Nat.le_of_ble_eq_true rfl) rfl ?_
      refine Ev.iconst dX1_lookAtTable_55 ?_
      refine Ev.istore (pl' := [some (vR (261)), some (vR (26 + 4 * r)), some (vR (rg)), some (vR (253 + t)), some (vI (((nRows T t (rN R) : Nat) : Int))), some (vI (((q : Nat) : Int))), some (vI ((((q : Nat) : Int) * ((rN R : Nat) : Int)))), some (vI (0))]) dX1_lookAtTable_56 (Nat.le_of_ble_eq_true rfl) rfl ?_
      refine Ev.wk (pl' := [some (vR (261)), some (vR (26 + 4 * r)), some (vR (rg)), some (vR (253 + t)), some (vI (((nRows T t (rN R) : Nat) : Int))), some (vI (((q : Nat) : Int))), some (vI ((((q * rN R) : Nat) : Int))), some (vI (((0 : Nat) : Int)))]) ⟨rfl, ⟨rfl, ⟨rfl, ⟨rfl, ⟨rfl, ⟨rfl, ⟨vIe (by omega), ⟨vIe rfl, trivial⟩⟩⟩⟩⟩⟩⟩⟩ ?_
      refine s1_tab_i τ r U R hr hM hW X rg hg hgs hgn hX hk2 T hT t ht ht6 q (by omega) (rN R) 0 (by omega) (fun k hk => absurd hk (by omega)) (fun K hKn hiff => ?_)
      refine Ev.iload dX1_lookAtTable_95 rfl ?_
      refine Ev.aload_n dX1_lookAtTable_97 rfl rfl ?_
      refine gf_X1_53 (x := ((rN R : Nat) : Int)) rfl dX1_lookAtTable_98 (lt_rc (by omega)) (sh_rc (by omega)) hN ?_
      refine Ev.icmp_ne (tgt := 112) ⟨by omega, by omega⟩ ⟨by omega, by omega⟩ dX1_lookAtTable_101 (by decide) (fun h101 => ?_) (fun h101 => ?_)
      · skip
        refine Ev.iinc (pl' := [some (vR (261)), some (vR (26 + 4 * r)), some (vR (rg)), some (vR (253 + t)), some (vI (((nRows T t (rN R) : Nat) : Int))), some (vI (((q : Nat) : Int) + 1)), some (vI ((((q * rN R) : Nat) : Int))), some (vI (((K : Nat) : Int)))]) dX1_lookAtTable_112 rfl (Nat.le_of_ble_eq_true rfl) rfl ?_
        refine Ev.goto (tgt := 39) dX1_lookAtTable_115 (by decide) ?_
        refine Ev.wk (pl' := [some (vR (261)), some (vR (26 + 4 * r)), some (vR (rg)), some (vR (253 + t)), some (vI (((nRows T t (rN R) : Nat) : Int))), some (vI ((((q + 1) : Nat) : Int))), none, none]) ⟨rfl, ⟨rfl, ⟨rfl, ⟨rfl, ⟨rfl, ⟨vIe (by omega), trivial⟩⟩⟩⟩⟩⟩ ?_
        exact ih (q + 1) (by omega) τ hF0 hJ (fun k hk => by rw [tgM_n (fun z => absurd (hiff.mpr z) (by omega))]; exact hG k hk)
      · skip
        refine Ev.aload_n dX1_lookAtTable_104 rfl rfl ?_
        refine Ev.aload_n dX1_lookAtTable_105 rfl rfl ?_
        refine Ev.aload_n dX1_lookAtTable_106 rfl rfl ?_
        refine Ev.iload dX1_lookAtTable_107 rfl ?_
        refine Ev.callV_G (M2 := mX1_giveBack) (args2 := [vR (26 + 4 * r), vR (253 + t), vI ((((q * rN R) : Nat) : Int))]) (rcv := 261) (q := (RX1, TX1, 5)) (ci := 1) dX1_lookAtTable_109 okX1_giveBack lk_X1_111 ovX1_giveBack.1.1 ovX1_giveBack.1.2 ovX1_giveBack.2 (by decide) rfl rfl ltc_261 shc_261 rfl (Nat.le_of_ble_eq_true rfl) (Nat.le_of_ble_eq_true rfl) (s1_giveBack τ r U R hr hM hW X rg hg hgs hgn hX T hT t ht6 (q * rN R) (by omega) (tgM T R X t q) (fun k hk => mk_lt _) hdis hG) (fun v_ m_ hp_ => ?_) rfl
        obtain ⟨ρ, rfl, rfl, q1, q2, q3⟩ := hp_
        show Ev g mX1_lookAtTable 112 [some (vR (261)), some (vR (26 + 4 * r)), some (vR (rg)), some (vR (253 + t)), some (vI (((nRows T t (rN R) : Nat) : Int))), some (vI (((q : Nat) : Int))), some (vI ((((q * rN R) : Nat) : Int))), some (vI (((K : Nat) : Int)))] [] (M0 (ρ)) 0 0 _
        refine Ev.iinc (pl' := [some (vR (261)), some (vR (26 + 4 * r)), some (vR (rg)), some (vR (253 + t)), some (vI (((nRows T t (rN R) : Nat) : Int))), some (vI (((q : Nat) : Int) + 1)), some (vI ((((q * rN R) : Nat) : Int))), some (vI (((K : Nat) : Int)))]) dX1_lookAtTable_112 rfl (Nat.le_of_ble_eq_true rfl) rfl ?_
        refine Ev.goto (tgt := 39) dX1_lookAtTable_115 (by decide) ?_
        refine Ev.wk (pl' := [some (vR (261)), some (vR (26 + 4 * r)), some (vR (rg)), some (vR (253 + t)), some (vI (((nRows T t (rN R) : Nat) : Int))), some (vI ((((q + 1) : Nat) : Int))), none, none]) ⟨rfl, ⟨rfl, ⟨rfl, ⟨rfl, ⟨rfl, ⟨vIe (by omega), trivial⟩⟩⟩⟩⟩⟩ ?_
        exact ih (q + 1) (by omega) ρ (hF0.tr q1) (by rw [q2]; exact hJ) (fun k hk => tg_y (q3 k hk) (hiff.mp (by omega)))

set_option maxRecDepth 100000 in
set_option maxHeartbeats 4000000 in
theorem s1_lookAtTable {g : GC} (σ : Sg) (r U : Nat) (R : RC) (hr : r < 56) (hM : CR σ r R) (hW : WR U R) (X : Rg) (rg : Nat) (hg : rg < 298) (hgs : sh0 rg = (1, 10)) (hgn : rg ∉ LK) (hX : AV σ rg U X) (hk2 : rK R = 2) (T : Tb) (hT : TVc σ T) (t : Nat) (ht : rS R = t) (ht6 : t < 6) (hJ : σ 263 0 = 0) : Ev g mX1_lookAtTable 0 [some (vR (261)), some (vR (26 + 4 * r)), some (vR (rg)), none, none, none, none, none] [] (M0 (σ)) 0 0 (retW (Looked σ T R X)) := by
  obtain ⟨hK, hS, hB, hN, hE, hP⟩ := id hM
  obtain ⟨⟨hk5, hn6, hU⟩, hO, -⟩ := id hW
  have hXR : ∀ k, k < rN R → X (rO R k) ≠ 0 ∧ X (rO R k) < 65536 := fun k hk => (hX _ (hO k hk)).2
  refine Ev.aload_n dX1_lookAtTable_0 rfl rfl ?_
  refine Ev.aload_n dX1_lookAtTable_1 rfl rfl ?_
  refine Ev.aload_n dX1_lookAtTable_2 rfl rfl ?_
  refine Ev.callV_G (M2 := mX1_takeAll) (args2 := [vR (26 + 4 * r), vR (rg)]) (rcv := 261) (q := (RX1, TX1, 5)) (ci := 1) dX1_lookAtTable_3 okX1_takeAll lk_X1_95 ovX1_takeAll.1.1 ovX1_takeAll.1.2 ovX1_takeAll.2 (by decide) rfl rfl ltc_261 shc_261 rfl (Nat.le_of_ble_eq_true rfl) (Nat.le_of_ble_eq_true rfl) (s1_takeAll σ r U R hr hM hW X rg hg hgs hgn hX) (fun v_ m_ hp_ => ?_) rfl
  obtain ⟨τ, rfl, rfl, hF, p2, p3⟩ := hp_
  have hS := (hM.same hF (fun j hj => nLK (by omega))).2.1
  have hN := (hM.same hF (fun j hj => nLK (by omega))).2.2.2.1
  have hTτ := hT.same hF (fun c h1 h2 => nLK (by omega))
  show Ev g mX1_lookAtTable 6 [some (vR (261)), some (vR (26 + 4 * r)), some (vR (rg)), none, none, none, none, none] [] (M0 (τ)) 0 0 _
  refine Ev.aload_n dX1_lookAtTable_6 rfl rfl ?_
  refine gf_X1_26 rfl dX1_lookAtTable_7 ltc_261 shc_261 rfc_261_0 ?_
  refine gf_X1_102 rfl dX1_lookAtTable_10 ltc_250 shc_250 rfc_250_1 ?_
  refine Ev.aload_n dX1_lookAtTable_13 rfl rfl ?_
  refine gf_X1_86 (x := ((t : Nat) : Int)) rfl dX1_lookAtTable_14 (lt_rc (by omega)) (sh_rc (by omega)) (hS.trans ht) ?_
  refine Ev.maload dX1_lookAtTable_17 ltc_252 shc_252 (by decide) (by omega) (by omega) (rf_tc (by omega)) ?_
  refine Ev.astore_n (pl' := [some (vR (261)), some (vR (26 + 4 * r)), some (vR (rg)), some (vR (253 + t)), none, none, none, none]) dX1_lookAtTable_18 rfl (Nat.le_of_ble_eq_true rfl) rfl ?_
  refine Ev.aload_n dX1_lookAtTable_19 rfl rfl ?_
  refine gf_X1_26 rfl dX1_lookAtTable_20 ltc_261 shc_261 rfc_261_0 ?_
  refine Ev.aload_n dX1_lookAtTable_23 rfl rfl ?_
  refine gf_X1_86 (x := ((t : Nat) : Int)) rfl dX1_lookAtTable_24 (lt_rc (by omega)) (sh_rc (by omega)) (hS.trans ht) ?_
  refine Ev.aload_n dX1_lookAtTable_27 rfl rfl ?_
  refine gf_X1_53 (x := ((rN R : Nat) : Int)) rfl dX1_lookAtTable_28 (lt_rc (by omega)) (sh_rc (by omega)) hN ?_
  refine Ev.callV_I (M2 := mX6_countRows) (args2 := [vI (((t : Nat) : Int)), vI (((rN R : Nat) : Int))]) (rcv := 250) (q := (RX6, TX6, 2)) (ci := 6) dX1_lookAtTable_31 okX6_countRows lk_X1_108 ovX6_countRows.1.1 ovX6_countRows.1.2 ovX6_countRows.2 (by decide) rfl rfl ltc_250 shc_250 rfl (Nat.le_of_ble_eq_true rfl) (Nat.le_of_ble_eq_true rfl) (s6_countRows τ t ht6 T hTτ (rN R) hn6) ?_ rfl
  rw [show (if T.1 t < ((rN R : Nat) : Int) ∨ rN R = 0 then 0 else T.1 t / ((rN R : Nat) : Int)) = ((nRows T t (rN R) : Nat) : Int) from nRows_e]
  refine Ev.istore (pl' := [some (vR (261)), some (vR (26 + 4 * r)), some (vR (rg)), some (vR (253 + t)), some (vI (((nRows T t (rN R) : Nat) : Int))), none, none, none]) dX1_lookAtTable_34 (Nat.le_of_ble_eq_true rfl) rfl ?_
  refine Ev.iconst dX1_lookAtTable_36 ?_
  refine Ev.istore (pl' := [some (vR (261)), some (vR (26 + 4 * r)), some (vR (rg)), some (vR (253 + t)), some (vI (((nRows T t (rN R) : Nat) : Int))), some (vI (0)), none, none]) dX1_lookAtTable_37 (Nat.le_of_ble_eq_true rfl) rfl ?_
  refine Ev.wk (pl' := [some (vR (261)), some (vR (26 + 4 * r)), some (vR (rg)), some (vR (253 + t)), some (vI (((nRows T t (rN R) : Nat) : Int))), some (vI (((0 : Nat) : Int))), none, none]) ⟨rfl, ⟨rfl, ⟨rfl, ⟨rfl, ⟨rfl, ⟨vIe rfl, trivial⟩⟩⟩⟩⟩⟩ ?_
  exact s1_tab_q σ r U R hr hM hW X rg hg hgs hgn hX hk2 T hT t ht ht6 (nRows T t (rN R)) 0 (by omega) τ hF (by rw [p2]; exact hJ) (fun k hk => by rw [p3 k hk, ← tgM_0 (hXR k hk).2])

