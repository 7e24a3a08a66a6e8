/-! THE REFERENCE: lines narrow; ranges set aside -/
theorem b2_or {b : Bool} : ((b2 b : Nat) : Int) = 0 ∨ ((b2 b : Nat) : Int) = 1 := by cases b <;> simp [b2]
/-- line l of the reference is R -/
def LR (σ : Sg) (l : Nat) (R : RC) : Prop := σ 289 l = (rN R : Int) ∧ ∀ k, k < rN R → σ 290 (6 * l + k) = (rO R k : Int) ∧ σ 291 (6 * l + k) = rA R k
theorem LR.cg {σ τ : Sg} {l : Nat} {R : RC} (h : LR σ l R) (hs : ∀ c i, 289 ≤ c → c ≤ 291 → τ c i = σ c i) : LR τ l R := by
  obtain ⟨h1, h2⟩ := h
  refine ⟨by rw [hs 289 _ (by decide) (by decide)]; exact h1, fun k hk => ?_⟩
  rw [hs 290 _ (by decide) (by decide), hs 291 _ (by decide) (by decide)]
  exact h2 k hk
theorem SameM.lr {σ τ : Sg} {l : Nat} {R : RC} (h : SameM σ τ) (hm : LR σ l R) : LR τ l R := hm.cg fun c i h1 h2 => h c i (by omega) (by omega)
theorem upC_nm {τ : Sg} {i : Nat} {v w : Int} (h : τ 272 31 = w) : upC τ 294 i v 272 31 = w := by rw [upC_ne (by decide)]; exact h
def oth (R : RC) (X : Rg) (K J : Nat) : Prop := ∀ j, j < J → rO R j ≠ rO R K → X (rO R j) &&& (rA R j).toNat = 0
theorem oth_eq {R : RC} {X : Rg} {K J : Nat} (h : rO R J = rO R K) : oth R X K J ↔ oth R X K (J + 1) := ⟨fun z j hj hne => z j ((Nat.lt_or_ge j J).elim id fun e => absurd (show rO R j = rO R K by rw [show j = J by omega]; exact h) hne) hne, fun z j hj hne => z j (by omega) hne⟩
theorem oth_y {R : RC} {X : Rg} {K J : Nat} (h : oth R X K J) (h2 : X (rO R J) &&& (rA R J).toNat = 0) : oth R X K (J + 1) := fun j hj hne => by
  rcases Nat.lt_or_ge j J with h3 | h3
  · exact h j h3 hne
  · rw [show j = J by omega]; exact h2
theorem cl_lft {T : Tb} {R : RC} {X : Rg} {K : Nat} (hk5 : rK R = 5) (hK : K < rN R) (hX : X (rO R K) < 65536) : (oth R X K (rN R) → X (rO R K) &&& soM R (rN R) (rO R K) = lft T R X K) ∧ (¬ oth R X K (rN R) → X (rO R K) = lft T R X K) := by
  have hg : ∀ v, goes T R X K v ↔ oth R X K (rN R) ∧ (soM R (rN R) (rO R K)).testBit v = false := by
    intro v
    rw [goes_5 hk5]
    unfold gCl oth
    constructor
    · intro z
      refine ⟨fun j hj hne => by have := z j hj; rw [if_neg hne] at this; exact this, ?_⟩
      cases hb : (soM R (rN R) (rO R K)).testBit v with
      | false => rfl
      | true =>
        obtain ⟨k, k1, k2, k3⟩ := soM_tb.mp hb
        have z2 := z k k1
        rw [if_pos k2] at z2
        have z3 : (2 ^ v &&& (rA R k).toNat).testBit v = true := by rw [Nat.testBit_and, k3, Nat.testBit_two_pow]; simp
        rw [z2, Nat.zero_testBit] at z3
        cases z3
    · rintro ⟨z1, z2⟩ k hk
      split
      · rename_i e
        rw [Nat.and_comm]
        apply and_pow0.mpr
        cases hb : (rA R k).toNat.testBit v with
        | false => rfl
        | true => rw [soM_tb.mpr ⟨k, hk, e, hb⟩] at z2; cases z2
      · rename_i e
        exact z1 k hk e
  constructor
  · intro ho
    refine mk_eq (and_ltN hX) fun j hj => ?_
    rw [Nat.testBit_and, Bool.and_eq_true, hg]
    constructor
    · rintro ⟨z1, z2⟩
      exact ⟨z1, fun q => by rw [z2] at q; exact absurd q.2 (by decide)⟩
    · rintro ⟨z1, z2⟩
      refine ⟨z1, ?_⟩
      cases hb : (soM R (rN R) (rO R K)).testBit j with
      | true => rfl
      | false => exact absurd ⟨ho, hb⟩ z2
  · intro ho
    refine mk_eq hX fun j hj => ?_
    rw [hg]
    exact ⟨fun z => ⟨z, fun q => ho q.1⟩, fun z => z.1⟩
theorem GS.dead2 {U : Nat} {T : Tb} {S : Sy} {X0 Xr X Xr' X' : Rg} {mm mm' dd : Bool} {r i r' i' : Nat} (h : GS U T S X0 Xr X mm dd r i) (hd : dd = true) : GS U T S X0 Xr' X' mm' true r' i' := ⟨fun _ => h.1 hd, fun z => absurd z (by decide)⟩
theorem GS.stepE {U : Nat} {T : Tb} {S : Sy} {X0 Xr X : Rg} {mm : Bool} {r i : Nat} (hS : SyOk U S) (hr : r < S.1) (hon : S.2.2 r) (hi : i < rN (S.2.1 r)) (h : GS U T S X0 Xr X mm false r i) (h0 : lft T (S.2.1 r) X i ≠ 0) (hm : lft T (S.2.1 r) X i = X (rO (S.2.1 r) i)) : GS U T S X0 Xr (upY X (rO (S.2.1 r) i) (lft T (S.2.1 r) X i)) mm false r (i + 1) := by
  cases mm
  · exact h.stepF hm
  · exact h.stepT hS hr hon hi h0 (Or.inl rfl)
theorem GS.nobare {U : Nat} {T : Tb} {S : Sy} {X0 Xr X Xr' X' : Rg} {mm mm' dd : Bool} {r i r' i' : Nat} (h : GS U T S X0 Xr X mm dd r i) (hr : r < S.1) (hon : S.2.2 r) (hk5 : rK (S.2.1 r) = 5) (h0 : rN (S.2.1 r) = 0) : GS U T S X0 Xr' X' mm' true r' i' := ⟨fun _ z => fCl_no h0 ((fit_5 hk5).mp (z.1 r hr hon h0)), fun z => absurd z (by decide)⟩
theorem below_tb {L q : Nat} : (2 ^ L - 1).testBit q = true ↔ q < L := by
  rw [Nat.testBit_two_pow_sub_one]
  simp
/-- ranges less what makes a line's literals so -/
def cutF (R : RC) (X : Rg) : Nat → Rg
  | 0 => X
  | n + 1 => upY (cutF R X n) (rO R n) (andN (cutF R X n (rO R n)) (rA R n).toNat)
theorem cutF_lt {R : RC} {X : Rg} {U : Nat} (h : ∀ x, x < U → X x < 65536) (n : Nat) : ∀ x, x < U → cutF R X n x < 65536 := by
  induction n with
  | zero => exact h
  | succ n ih =>
    intro x hx
    simp only [cutF]
    by_cases e : x = rO R n
    · rw [e, upY_at]; exact andN_lt (by rw [← e]; exact ih x hx)
    · rw [upY_ne e]; exact ih x hx
theorem and_compl {a b : Nat} (ha : a < 65536) (hb : b < 65536) : a &&& (65535 - b) = andN a b := by
  apply Nat.eq_of_testBit_eq
  intro j
  rw [Nat.testBit_and, andN_tb]
  have h := Nat.testBit_two_pow_sub_succ (n := 16) (x := b) (by simpa using hb) j
  rw [show 2 ^ 16 - (b + 1) = 65535 - b by omega] at h
  rw [h]
  by_cases hj : j < 16
  · simp [hj]
  · rw [tb16 ha (by omega)]; simp
set_option maxRecDepth 100000 in
set_option maxHeartbeats 4000000 in
theorem sM_tl_in {g : GC} (σ : Sg) (U : Nat) (hU : U ≤ 10) (r : Nat) (hr : r < 40) (R : RC) (hLr : LR σ r R) (hW : WR U R) (hk5 : rK R = 5) (X : Rg) (hX : AW σ U X) (K : Nat) (hK : K < rN R) (went : Bool) {Post : Option PV → Mem → Prop} : ∀ j J : Nat, J + j = rN R → Ev g mX8_takesByLine 135 [some (vR (272)), some (vI (((r : Nat) : Int))), some (vI (((b2 went : Nat) : Int))), some (vI ((((6 * r + K) : Nat) : Int))), some (vI (((rO R K : Nat) : Int))), some (vI (((X (rO R K) : Nat) : Int))), some (vI (bI (oth R X K (rN R)))), some (vI (((soM R (rN R) (rO R K) : Nat) : Int))), none] [] (M0 (σ)) 0 0 Post → Ev g mX8_takesByLine 51 [some (vR (272)), some (vI (((r : Nat) : Int))), some (vI (((b2 went : Nat) : Int))), some (vI ((((6 * r + K) : Nat) : Int))), some (vI (((rO R K : Nat) : Int))), some (vI (((X (rO R K) : Nat) : Int))), some (vI (bI (oth R X K J))), some (vI (((soM R J (rO R K) : Nat) : Int))), some (vI ((((6 * r + J) : Nat) : Int)))] [] (M0 (σ)) 0 0 (Post) := by
  intro j
  induction j with
  | zero =>
    intro J hij kk
    have hA5 := hW.2.2.2.2.2.1 hk5
    have hn6 := hW.1.2.1
    have hOK := hW.2.1 K hK
    refine Ev.iload dX8_takesByLine_51 rfl ?_
    refine Ev.bipush (n := 6) (by decide) dX8_takesByLine_53 ?_
    refine Ev.iload_n dX8_takesByLine_55 rfl rfl ?_
    refine Ev.imul dX8_takesByLine_56 ?_
    refine Ev.aload_n dX8_takesByLine_57 rfl rfl ?_
    refine gf_X8_59 rfl dX8_takesByLine_58 ltc_272 shc_272 rfc_272_21 ?_
    refine Ev.iload_n dX8_takesByLine_61 rfl rfl ?_
    refine Ev.iaload (v := ((rN R : Nat) : Int)) dX8_takesByLine_62 ltc_289 shc_289 (by decide) (by omega) (by omega) (ldx rfl hLr.1) ?_
    refine Ev.iadd dX8_takesByLine_63 ?_
    refine Ev.icmp_ge (tgt := 135) ⟨by omega, by omega⟩ ⟨by omega, by omega⟩ dX8_takesByLine_64 (by decide) (fun h64 => ?_) (fun h64 => ?_)
    · skip
      refine Ev.wk (pl' := [some (vR (272)), some (vI (((r : Nat) : Int))), some (vI (((b2 went : Nat) : Int))), some (vI ((((6 * r + K) : Nat) : Int))), some (vI (((rO R K : Nat) : Int))), some (vI (((X (rO R K) : Nat) : Int))), some (vI (bI (oth R X K (rN R)))), some (vI (((soM R (rN R) (rO R K) : Nat) : Int))), none]) ⟨rfl, ⟨rfl, ⟨rfl, ⟨rfl, ⟨rfl, ⟨rfl, ⟨vIe (by rw [show J = rN R by omega]), ⟨vIe (by rw [show J = rN R by omega]), trivial⟩⟩⟩⟩⟩⟩⟩⟩ ?_
      exact kk
    · exact absurd h64 (by omega)
  | succ j ih =>
    intro J hij kk
    have hA5 := hW.2.2.2.2.2.1 hk5
    have hn6 := hW.1.2.1
    have hOK := hW.2.1 K hK
    have haJ := hA5 J (by omega)
    have hOJ := hW.2.1 J (by omega)
    have hxJ := (hX _ hOJ).2
    have hsl := soM_lt (n := J) (R := R) (fun k hk => hA5 k (by omega)) (rO R K)
    refine Ev.iload dX8_takesByLine_51 rfl ?_
    refine Ev.bipush (n := 6) (by decide) dX8_takesByLine_53 ?_
    refine Ev.iload_n dX8_takesByLine_55 rfl rfl ?_
    refine Ev.imul dX8_takesByLine_56 ?_
    refine Ev.aload_n dX8_takesByLine_57 rfl rfl ?_
    refine gf_X8_59 rfl dX8_takesByLine_58 ltc_272 shc_272 rfc_272_21 ?_
    refine Ev.iload_n dX8_takesByLine_61 rfl rfl ?_
    refine Ev.iaload (v := ((rN R : Nat) : Int)) dX8_takesByLine_62 ltc_289 shc_289 (by decide) (by omega) (by omega) (ldx rfl hLr.1) ?_
    refine Ev.iadd dX8_takesByLine_63 ?_
    refine Ev.icmp_ge (tgt := 135) ⟨by omega, by omega⟩ ⟨by omega, by omega⟩ dX8_takesByLine_64 (by decide) (fun h64 => ?_) (fun h64 => ?_)
    · exact absurd h64 (by omega)
    · skip
      refine Ev.aload_n dX8_takesByLine_67 rfl rfl ?_
      refine gf_X8_62 rfl dX8_takesByLine_68 ltc_272 shc_272 rfc_272_22 ?_
      refine Ev.iload dX8_takesByLine_71 rfl ?_
      refine Ev.iaload (v := ((rO R J : Nat) : Int)) dX8_takesByLine_73 ltc_290 shc_290 (by decide) (by omega) (by omega) (ldx (n := 6 * r + J) (by omega) (hLr.2 J (by omega)).1) ?_
      refine Ev.iload dX8_takesByLine_74 rfl ?_
      refine Ev.icmp_ne (tgt := 94) ⟨by omega, by omega⟩ ⟨by omega, by omega⟩ dX8_takesByLine_76 (by decide) (fun h76 => ?_) (fun h76 => ?_)
      · skip
        refine Ev.iload dX8_takesByLine_94 rfl ?_
        refine Ev.if_eq (tgt := 126) bI_inR dX8_takesByLine_96 (by decide) (fun h96 => ?_) (fun h96 => ?_)
        · skip
          refine Ev.iconst dX8_takesByLine_126 ?_
          refine Ev.istore (pl' := [some (vR (272)), some (vI (((r : Nat) : Int))), some (vI (((b2 went : Nat) : Int))), some (vI ((((6 * r + K) : Nat) : Int))), some (vI (((rO R K : Nat) : Int))), some (vI (((X (rO R K) : Nat) : Int))), some (vI (0)), some (vI (((soM R J (rO R K) : Nat) : Int))), some (vI ((((6 * r + J) : Nat) : Int)))]) dX8_takesByLine_127 (Nat.le_of_ble_eq_true rfl) rfl ?_
          refine Ev.iinc (pl' := [some (vR (272)), some (vI (((r : Nat) : Int))), some (vI (((b2 went : Nat) : Int))), some (vI ((((6 * r + K) : Nat) : Int))), some (vI (((rO R K : Nat) : Int))), some (vI (((X (rO R K) : Nat) : Int))), some (vI (0)), some (vI (((soM R J (rO R K) : Nat) : Int))), some (vI ((((6 * r + J) : Nat) : Int) + 1))]) dX8_takesByLine_129 rfl (Nat.le_of_ble_eq_true rfl) rfl ?_
          refine Ev.goto (tgt := 51) dX8_takesByLine_132 (by decide) ?_
          refine Ev.wk (pl' := [some (vR (272)), some (vI (((r : Nat) : Int))), some (vI (((b2 went : Nat) : Int))), some (vI ((((6 * r + K) : Nat) : Int))), some (vI (((rO R K : Nat) : Int))), some (vI (((X (rO R K) : Nat) : Int))), some (vI (bI (oth R X K (J + 1)))), some (vI (((soM R (J + 1) (rO R K) : Nat) : Int))), some (vI ((((6 * r + (J + 1)) : Nat) : Int)))]) ⟨rfl, ⟨rfl, ⟨rfl, ⟨rfl, ⟨rfl, ⟨rfl, ⟨vIe (by first | exact bI_congr (oth_eq (by omega)) | exact bI_t (oth_y (bI_1.mp (by assumption)) (by omega)) | exact bI_f (fun z => (bI_0 (p := oth R X K J)).mp (by assumption) (fun j hj hne => z j (by omega) hne)) | exact bI_f (fun z => absurd (z J (by omega) (by omega)) (by omega))), ⟨vIe (by simp only [soM]; rw [if_neg (by omega), Nat.or_zero]), ⟨vIe (by omega), trivial⟩⟩⟩⟩⟩⟩⟩⟩⟩ ?_
          exact ih (J + 1) (by omega) kk
        · skip
          refine Ev.aload_n dX8_takesByLine_99 rfl rfl ?_
          refine gf_X8_78 rfl dX8_takesByLine_100 ltc_272 shc_272 rfc_272_29 ?_
          refine Ev.aload_n dX8_takesByLine_103 rfl rfl ?_
          refine gf_X8_62 rfl dX8_takesByLine_104 ltc_272 shc_272 rfc_272_22 ?_
          refine Ev.iload dX8_takesByLine_107 rfl ?_
          refine Ev.iaload (v := ((rO R J : Nat) : Int)) dX8_takesByLine_109 ltc_290 shc_290 (by decide) (by omega) (by omega) (ldx (n := 6 * r + J) (by omega) (hLr.2 J (by omega)).1) ?_
          refine Ev.iaload (v := ((X (rO R J) : Nat) : Int)) dX8_takesByLine_110 ltc_294 shc_294 (by decide) (by omega) (Int.ofNat_lt.mpr (Nat.lt_of_lt_of_le (hW.2.1 _ (by omega)) hU)) (ldx rfl (hX _ (hW.2.1 _ (by omega))).1) ?_
          refine Ev.aload_n dX8_takesByLine_111 rfl rfl ?_
          refine gf_X8_65 rfl dX8_takesByLine_112 ltc_272 shc_272 rfc_272_23 ?_
          refine Ev.iload dX8_takesByLine_115 rfl ?_
          refine Ev.iaload (v := (((rA R J).toNat : Nat) : Int)) dX8_takesByLine_117 ltc_291 shc_291 (by decide) (by omega) (by omega) (ldx (n := 6 * r + J) (by omega) ((hLr.2 J (by omega)).2.trans (by have := hA5 J (by omega); omega))) ?_
          refine Ev.iand dX8_takesByLine_118 ?_
          rw [show (iAnd (((X (rO R J) : Nat) : Int)) ((((rA R J).toNat : Nat) : Int))) = ((X (rO R J) &&& (rA R J).toNat : Nat) : Int) from iAnd_nat (by omega)]
          refine Ev.if_ne (tgt := 126) ⟨by omega, by have := @Nat.and_le_left (X (rO R J)) (rA R J).toNat; omega⟩ dX8_takesByLine_119 (by decide) (fun h119 => ?_) (fun h119 => ?_)
          · skip
            refine Ev.iconst dX8_takesByLine_126 ?_
            refine Ev.istore (pl' := [some (vR (272)), some (vI (((r : Nat) : Int))), some (vI (((b2 went : Nat) : Int))), some (vI ((((6 * r + K) : Nat) : Int))), some (vI (((rO R K : Nat) : Int))), some (vI (((X (rO R K) : Nat) : Int))), some (vI (0)), some (vI (((soM R J (rO R K) : Nat) : Int))), some (vI ((((6 * r + J) : Nat) : Int)))]) dX8_takesByLine_127 (Nat.le_of_ble_eq_true rfl) rfl ?_
            refine Ev.iinc (pl' := [some (vR (272)), some (vI (((r : Nat) : Int))), some (vI (((b2 went : Nat) : Int))), some (vI ((((6 * r + K) : Nat) : Int))), some (vI (((rO R K : Nat) : Int))), some (vI (((X (rO R K) : Nat) : Int))), some (vI (0)), some (vI (((soM R J (rO R K) : Nat) : Int))), some (vI ((((6 * r + J) : Nat) : Int) + 1))]) dX8_takesByLine_129 rfl (Nat.le_of_ble_eq_true rfl) rfl ?_
            refine Ev.goto (tgt := 51) dX8_takesByLine_132 (by decide) ?_
            refine Ev.wk (pl' := [some (vR (272)), some (vI (((r : Nat) : Int))), some (vI (((b2 went : Nat) : Int))), some (vI ((((6 * r + K) : Nat) : Int))), some (vI (((rO R K : Nat) : Int))), some (vI (((X (rO R K) : Nat) : Int))), some (vI (bI (oth R X K (J + 1)))), some (vI (((soM R (J + 1) (rO R K) : Nat) : Int))), some (vI ((((6 * r + (J + 1)) : Nat) : Int)))]) ⟨rfl, ⟨rfl, ⟨rfl, ⟨rfl, ⟨rfl, ⟨rfl, ⟨vIe (by first | exact bI_congr (oth_eq (by omega)) | exact bI_t (oth_y (bI_1.mp (by assumption)) (by omega)) | exact bI_f (fun z => (bI_0 (p := oth R X K J)).mp (by assumption) (fun j hj hne => z j (by omega) hne)) | exact bI_f (fun z => absurd (z J (by omega) (by omega)) (by omega))), ⟨vIe (by simp only [soM]; rw [if_neg (by omega), Nat.or_zero]), ⟨vIe (by omega), trivial⟩⟩⟩⟩⟩⟩⟩⟩⟩ ?_
            exact ih (J + 1) (by omega) kk
          · skip
            refine Ev.iconst dX8_takesByLine_122 ?_
            refine Ev.goto (tgt := 127) dX8_takesByLine_123 (by decide) ?_
            refine Ev.istore (pl' := [some (vR (272)), some (vI (((r : Nat) : Int))), some (vI (((b2 went : Nat) : Int))), some (vI ((((6 * r + K) : Nat) : Int))), some (vI (((rO R K : Nat) : Int))), some (vI (((X (rO R K) : Nat) : Int))), some (vI (1)), some (vI (((soM R J (rO R K) : Nat) : Int))), some (vI ((((6 * r + J) : Nat) : Int)))]) dX8_takesByLine_127 (Nat.le_of_ble_eq_true rfl) rfl ?_
            refine Ev.iinc (pl' := [some (vR (272)), some (vI (((r : Nat) : Int))), some (vI (((b2 went : Nat) : Int))), some (vI ((((6 * r + K) : Nat) : Int))), some (vI (((rO R K : Nat) : Int))), some (vI (((X (rO R K) : Nat) : Int))), some (vI (1)), some (vI (((soM R J (rO R K) : Nat) : Int))), some (vI ((((6 * r + J) : Nat) : Int) + 1))]) dX8_takesByLine_129 rfl (Nat.le_of_ble_eq_true rfl) rfl ?_
            refine Ev.goto (tgt := 51) dX8_takesByLine_132 (by decide) ?_
            refine Ev.wk (pl' := [some (vR (272)), some (vI (((r : Nat) : Int))), some (vI (((b2 went : Nat) : Int))), some (vI ((((6 * r + K) : Nat) : Int))), some (vI (((rO R K : Nat) : Int))), some (vI (((X (rO R K) : Nat) : Int))), some (vI (bI (oth R X K (J + 1)))), some (vI (((soM R (J + 1) (rO R K) : Nat) : Int))), some (vI ((((6 * r + (J + 1)) : Nat) : Int)))]) ⟨rfl, ⟨rfl, ⟨rfl, ⟨rfl, ⟨rfl, ⟨rfl, ⟨vIe (by first | exact bI_congr (oth_eq (by omega)) | exact bI_t (oth_y (bI_1.mp (by assumption)) (by omega)) | exact bI_f (fun z => (bI_0 (p := oth R X K J)).mp (by assumption) (fun j hj hne => z j (by omega) hne)) | exact bI_f (fun z => absurd (z J (by omega) (by omega)) (by omega))), ⟨vIe (by simp only [soM]; rw [if_neg (by omega), Nat.or_zero]), ⟨vIe (by omega), trivial⟩⟩⟩⟩⟩⟩⟩⟩⟩ ?_
            exact ih (J + 1) (by omega) kk
      · skip
        refine Ev.iload dX8_takesByLine_79 rfl ?_
        refine Ev.aload_n dX8_takesByLine_81 rfl rfl ?_
        refine gf_X8_65 rfl dX8_takesByLine_82 ltc_272 shc_272 rfc_272_23 ?_
        refine Ev.iload dX8_takesByLine_85 rfl ?_
        refine Ev.iaload (v := (((rA R J).toNat : Nat) : Int)) dX8_takesByLine_87 ltc_291 shc_291 (by decide) (by omega) (by omega) (ldx (n := 6 * r + J) (by omega) ((hLr.2 J (by omega)).2.trans (by have := hA5 J (by omega); omega))) ?_
        refine Ev.ior dX8_takesByLine_88 ?_
        rw [show (iOr (((soM R J (rO R K) : Nat) : Int)) ((((rA R J).toNat : Nat) : Int))) = ((soM R (J + 1) (rO R K) : Nat) : Int) from by simp only [soM]; rw [if_pos (by omega)]; exact iOr_nat (by omega) (by omega)]
        refine Ev.istore (pl' := [some (vR (272)), some (vI (((r : Nat) : Int))), some (vI (((b2 went : Nat) : Int))), some (vI ((((6 * r + K) : Nat) : Int))), some (vI (((rO R K : Nat) : Int))), some (vI (((X (rO R K) : Nat) : Int))), some (vI (bI (oth R X K J))), some (vI (((soM R (J + 1) (rO R K) : Nat) : Int))), some (vI ((((6 * r + J) : Nat) : Int)))]) dX8_takesByLine_89 (Nat.le_of_ble_eq_true rfl) rfl ?_
        refine Ev.goto (tgt := 129) dX8_takesByLine_91 (by decide) ?_
        refine Ev.iinc (pl' := [some (vR (272)), some (vI (((r : Nat) : Int))), some (vI (((b2 went : Nat) : Int))), some (vI ((((6 * r + K) : Nat) : Int))), some (vI (((rO R K : Nat) : Int))), some (vI (((X (rO R K) : Nat) : Int))), some (vI (bI (oth R X K J))), some (vI (((soM R (J + 1) (rO R K) : Nat) : Int))), some (vI ((((6 * r + J) : Nat) : Int) + 1))]) dX8_takesByLine_129 rfl (Nat.le_of_ble_eq_true rfl) rfl ?_
        refine Ev.goto (tgt := 51) dX8_takesByLine_132 (by decide) ?_
        refine Ev.wk (pl' := [some (vR (272)), some (vI (((r : Nat) : Int))), some (vI (((b2 went : Nat) : Int))), some (vI ((((6 * r + K) : Nat) : Int))), some (vI (((rO R K : Nat) : Int))), some (vI (((X (rO R K) : Nat) : Int))), some (vI (bI (oth R X K (J + 1)))), some (vI (((soM R (J + 1) (rO R K) : Nat) : Int))), some (vI ((((6 * r + (J + 1)) : Nat) : Int)))]) ⟨rfl, ⟨rfl, ⟨rfl, ⟨rfl, ⟨rfl, ⟨rfl, ⟨vIe (by first | exact bI_congr (oth_eq (by omega)) | exact bI_t (oth_y (bI_1.mp (by assumption)) (by omega)) | exact bI_f (fun z => (bI_0 (p := oth R X K J)).mp (by assumption) (fun j hj hne => z j (by omega) hne)) | exact bI_f (fun z => absurd (z J (by omega) (by omega)) (by omega))), ⟨rfl, ⟨vIe (by omega), trivial⟩⟩⟩⟩⟩⟩⟩⟩⟩ ?_
        exact ih (J + 1) (by omega) kk

set_option maxRecDepth 100000 in
set_option maxHeartbeats 4000000 in
theorem sM_tl {g : GC} (σ : Sg) (U : Nat) (hU : U ≤ 10) (T : Tb) (m : Nat) (hm : m ≤ 40) (Lf : Nat → RC) (hL : ∀ r, r < m → LR σ r (Lf r) ∧ WR U (Lf r) ∧ rK (Lf r) = 5) (X0 : Rg) (L : Nat) (hLm : L < m) (Xr : Rg) (mm0 : Bool) (r : Nat) (hr : r < L) : ∀ j K : Nat, K + j = rN (Lf r) → ∀ (τ : Sg) (X : Rg) (went dd : Bool), SameM σ τ → AW τ U X → τ 272 31 = (b2 dd : Int) → GS U T (40, Lf, fun q => (2 ^ L - 1).testBit q = true) X0 Xr X (mm0 || went) dd r K → Ev g mX8_takesByLine 7 [some (vR (272)), some (vI (((r : Nat) : Int))), some (vI (((b2 went : Nat) : Int))), some (vI ((((6 * r + K) : Nat) : Int))), none, none, none, none, none] [] (M0 (τ)) 0 0 (retE (fun v τ => ∃ (X : Rg) (went dd : Bool), v = (b2 went : Int) ∧ SameM σ τ ∧ AW τ U X ∧ τ 272 31 = (b2 dd : Int) ∧ GS U T (40, Lf, fun q => (2 ^ L - 1).testBit q = true) X0 Xr X (mm0 || went) dd (r + 1) 0 ∧ (dd = false → rN (Lf r) ≠ 0))) := by
  intro j
  induction j with
  | zero =>
    intro K hij τ X went dd hF hX hd hgs
    have hLr := hF.lr (hL r (by omega)).1
    have hW := (hL r (by omega)).2.1
    have hk5 := (hL r (by omega)).2.2
    have hA5 := hW.2.2.2.2.2.1 hk5
    have hn6 := hW.1.2.1
    have hbit : (2 ^ L - 1).testBit r = true := below_tb.mpr hr
    refine Ev.iload_n dX8_takesByLine_7 rfl rfl ?_
    refine Ev.bipush (n := 6) (by decide) dX8_takesByLine_8 ?_
    refine Ev.iload_n dX8_takesByLine_10 rfl rfl ?_
    refine Ev.imul dX8_takesByLine_11 ?_
    refine Ev.aload_n dX8_takesByLine_12 rfl rfl ?_
    refine gf_X8_59 rfl dX8_takesByLine_13 ltc_272 shc_272 rfc_272_21 ?_
    refine Ev.iload_n dX8_takesByLine_16 rfl rfl ?_
    refine Ev.iaload (v := ((rN (Lf r) : Nat) : Int)) dX8_takesByLine_17 ltc_289 shc_289 (by decide) (by omega) (by omega) (ldx rfl hLr.1) ?_
    refine Ev.iadd dX8_takesByLine_18 ?_
    refine Ev.icmp_ge (tgt := 210) ⟨by omega, by omega⟩ ⟨by omega, by omega⟩ dX8_takesByLine_19 (by decide) (fun h19 => ?_) (fun h19 => ?_)
    · skip
      refine Ev.aload_n dX8_takesByLine_210 rfl rfl ?_
      refine Ev.aload_n dX8_takesByLine_211 rfl rfl ?_
      refine gf_X8_197 (x := ((b2 dd : Nat) : Int)) rfl dX8_takesByLine_212 ltc_272 shc_272 hd ?_
      refine Ev.if_ne (tgt := 227) b2_inR dX8_takesByLine_215 (by decide) (fun h215 => ?_) (fun h215 => ?_)
      · skip
        refine Ev.iconst dX8_takesByLine_227 ?_
        refine Ev.goto (tgt := 232) dX8_takesByLine_228 (by decide) ?_
        refine pf_X8_197 rfl dX8_takesByLine_232 ltc_272 shc_272 (by omega) ?_
        refine Ev.iload_n dX8_takesByLine_235 rfl rfl ?_
        exact Ev.zreturn dX8_takesByLine_236 rfl b2_or (rE ⟨X, went, true, rfl, hF.upd, hX.upd, upC_at, (by first | exact hgs.dead2 (b2_ne.mp (by assumption)) | exact hgs.nobare (S := (40, Lf, fun q => (2 ^ L - 1).testBit q = true)) (show r < 40 by omega) hbit hk5 (show rN (Lf r) = 0 by omega)), fun z => absurd z (by decide)⟩)
      · skip
        refine Ev.aload_n dX8_takesByLine_218 rfl rfl ?_
        refine gf_X8_59 rfl dX8_takesByLine_219 ltc_272 shc_272 rfc_272_21 ?_
        refine Ev.iload_n dX8_takesByLine_222 rfl rfl ?_
        refine Ev.iaload (v := ((rN (Lf r) : Nat) : Int)) dX8_takesByLine_223 ltc_289 shc_289 (by decide) (by omega) (by omega) (ldx rfl hLr.1) ?_
        refine Ev.if_ne (tgt := 231) ⟨by omega, by omega⟩ dX8_takesByLine_224 (by decide) (fun h224 => ?_) (fun h224 => ?_)
        · skip
          refine Ev.iconst dX8_takesByLine_231 ?_
          refine pf_X8_197 rfl dX8_takesByLine_232 ltc_272 shc_272 (by omega) ?_
          refine Ev.iload_n dX8_takesByLine_235 rfl rfl ?_
          exact Ev.zreturn dX8_takesByLine_236 rfl b2_or (rE ⟨X, went, false, rfl, hF.upd, hX.upd, upC_at, (by have hd0 := b2_0.mp (show ((b2 dd : Nat) : Int) = 0 by assumption); subst hd0; exact hgs.rule (S := (40, Lf, fun q => (2 ^ L - 1).testBit q = true)) (fun q hq hb => (hL q (Nat.lt_trans (below_tb.mp hb) hLm)).2.1) (show r < 40 by omega) (fun _ => show rN (Lf r) ≤ K by omega)), fun _ => by omega⟩)
        · skip
          refine Ev.iconst dX8_takesByLine_227 ?_
          refine Ev.goto (tgt := 232) dX8_takesByLine_228 (by decide) ?_
          refine pf_X8_197 rfl dX8_takesByLine_232 ltc_272 shc_272 (by omega) ?_
          refine Ev.iload_n dX8_takesByLine_235 rfl rfl ?_
          exact Ev.zreturn dX8_takesByLine_236 rfl b2_or (rE ⟨X, went, true, rfl, hF.upd, hX.upd, upC_at, (by first | exact hgs.dead2 (b2_ne.mp (by assumption)) | exact hgs.nobare (S := (40, Lf, fun q => (2 ^ L - 1).testBit q = true)) (show r < 40 by omega) hbit hk5 (show rN (Lf r) = 0 by omega)), fun z => absurd z (by decide)⟩)
    · exact absurd h19 (by omega)
  | succ j ih =>
    intro K hij τ X went dd hF hX hd hgs
    have hLr := hF.lr (hL r (by omega)).1
    have hW := (hL r (by omega)).2.1
    have hk5 := (hL r (by omega)).2.2
    have hA5 := hW.2.2.2.2.2.1 hk5
    have hn6 := hW.1.2.1
    have hbit : (2 ^ L - 1).testBit r = true := below_tb.mpr hr
    have hOK := hW.2.1 K (by omega)
    have hxK := (hX _ hOK).2
    have hsl := soM_lt (n := rN (Lf r)) (R := Lf r) hA5 (rO (Lf r) K)
    have hcl := cl_lft (T := T) (R := Lf r) (X := X) hk5 (show K < rN (Lf r) by omega) hxK
    have hll : lft T (Lf r) X K < 65536 := lft_lt
    refine Ev.iload_n dX8_takesByLine_7 rfl rfl ?_
    refine Ev.bipush (n := 6) (by decide) dX8_takesByLine_8 ?_
    refine Ev.iload_n dX8_takesByLine_10 rfl rfl ?_
    refine Ev.imul dX8_takesByLine_11 ?_
    refine Ev.aload_n dX8_takesByLine_12 rfl rfl ?_
    refine gf_X8_59 rfl dX8_takesByLine_13 ltc_272 shc_272 rfc_272_21 ?_
    refine Ev.iload_n dX8_takesByLine_16 rfl rfl ?_
    refine Ev.iaload (v := ((rN (Lf r) : Nat) : Int)) dX8_takesByLine_17 ltc_289 shc_289 (by decide) (by omega) (by omega) (ldx rfl hLr.1) ?_
    refine Ev.iadd dX8_takesByLine_18 ?_
    refine Ev.icmp_ge (tgt := 210) ⟨by omega, by omega⟩ ⟨by omega, by omega⟩ dX8_takesByLine_19 (by decide) (fun h19 => ?_) (fun h19 => ?_)
    · exact absurd h19 (by omega)
    · skip
      refine Ev.aload_n dX8_takesByLine_22 rfl rfl ?_
      refine gf_X8_62 rfl dX8_takesByLine_23 ltc_272 shc_272 rfc_272_22 ?_
      refine Ev.iload_n dX8_takesByLine_26 rfl rfl ?_
      refine Ev.iaload (v := ((rO (Lf r) K : Nat) : Int)) dX8_takesByLine_27 ltc_290 shc_290 (by decide) (by omega) (by omega) (ldx (n := 6 * r + K) (by omega) (hLr.2 K (by omega)).1) ?_
      refine Ev.istore (pl' := [some (vR (272)), some (vI (((r : Nat) : Int))), some (vI (((b2 went : Nat) : Int))), some (vI ((((6 * r + K) : Nat) : Int))), some (vI (((rO (Lf r) K : Nat) : Int))), none, none, none, none]) dX8_takesByLine_28 (Nat.le_of_ble_eq_true rfl) rfl ?_
      refine Ev.aload_n dX8_takesByLine_30 rfl rfl ?_
      refine gf_X8_78 rfl dX8_takesByLine_31 ltc_272 shc_272 rfc_272_29 ?_
      refine Ev.iload dX8_takesByLine_34 rfl ?_
      refine Ev.iaload (v := ((X (rO (Lf r) K) : Nat) : Int)) dX8_takesByLine_36 ltc_294 shc_294 (by decide) (by omega) (Int.ofNat_lt.mpr (Nat.lt_of_lt_of_le (hW.2.1 _ (by omega)) hU)) (ldx rfl (hX _ (hW.2.1 _ (by omega))).1) ?_
      refine Ev.istore (pl' := [some (vR (272)), some (vI (((r : Nat) : Int))), some (vI (((b2 went : Nat) : Int))), some (vI ((((6 * r + K) : Nat) : Int))), some (vI (((rO (Lf r) K : Nat) : Int))), some (vI (((X (rO (Lf r) K) : Nat) : Int))), none, none, none]) dX8_takesByLine_37 (Nat.le_of_ble_eq_true rfl) rfl ?_
      refine Ev.iconst dX8_takesByLine_39 ?_
      refine Ev.istore (pl' := [some (vR (272)), some (vI (((r : Nat) : Int))), some (vI (((b2 went : Nat) : Int))), some (vI ((((6 * r + K) : Nat) : Int))), some (vI (((rO (Lf r) K : Nat) : Int))), some (vI (((X (rO (Lf r) K) : Nat) : Int))), some (vI (1)), none, none]) dX8_takesByLine_40 (Nat.le_of_ble_eq_true rfl) rfl ?_
      refine Ev.iconst dX8_takesByLine_42 ?_
      refine Ev.istore (pl' := [some (vR (272)), some (vI (((r : Nat) : Int))), some (vI (((b2 went : Nat) : Int))), some (vI ((((6 * r + K) : Nat) : Int))), some (vI (((rO (Lf r) K : Nat) : Int))), some (vI (((X (rO (Lf r) K) : Nat) : Int))), some (vI (1)), some (vI (0)), none]) dX8_takesByLine_43 (Nat.le_of_ble_eq_true rfl) rfl ?_
      refine Ev.bipush (n := 6) (by decide) dX8_takesByLine_45 ?_
      refine Ev.iload_n dX8_takesByLine_47 rfl rfl ?_
      refine Ev.imul dX8_takesByLine_48 ?_
      refine Ev.istore (pl' := [some (vR (272)), some (vI (((r : Nat) : Int))), some (vI (((b2 went : Nat) : Int))), some (vI ((((6 * r + K) : Nat) : Int))), some (vI (((rO (Lf r) K : Nat) : Int))), some (vI (((X (rO (Lf r) K) : Nat) : Int))), some (vI (1)), some (vI (0)), some (vI ((6 * ((r : Nat) : Int))))]) dX8_takesByLine_49 (Nat.le_of_ble_eq_true rfl) rfl ?_
      refine Ev.wk (pl' := [some (vR (272)), some (vI (((r : Nat) : Int))), some (vI (((b2 went : Nat) : Int))), some (vI ((((6 * r + K) : Nat) : Int))), some (vI (((rO (Lf r) K : Nat) : Int))), some (vI (((X (rO (Lf r) K) : Nat) : Int))), some (vI (bI (oth (Lf r) X K 0))), some (vI (((soM (Lf r) 0 (rO (Lf r) K) : Nat) : Int))), some (vI ((((6 * r + 0) : Nat) : Int)))]) ⟨rfl, ⟨rfl, ⟨rfl, ⟨rfl, ⟨rfl, ⟨rfl, ⟨vIe (bI_t (fun j hj => absurd hj (by omega))), ⟨vIe rfl, ⟨vIe (by omega), trivial⟩⟩⟩⟩⟩⟩⟩⟩⟩ ?_
      refine sM_tl_in τ U hU r (by omega) (Lf r) hLr hW hk5 X hX K (by omega) went (rN (Lf r)) 0 (by omega) ?_
      refine Ev.iload dX8_takesByLine_135 rfl ?_
      refine Ev.if_eq (tgt := 148) bI_inR dX8_takesByLine_137 (by decide) (fun h137 => ?_) (fun h137 => ?_)
      · skip
        have hlx := hcl.2 (bI_0.mp h137)
        refine Ev.iload dX8_takesByLine_148 rfl ?_
        refine Ev.istore (pl' := [some (vR (272)), some (vI (((r : Nat) : Int))), some (vI (((b2 went : Nat) : Int))), some (vI ((((6 * r + K) : Nat) : Int))), some (vI (((rO (Lf r) K : Nat) : Int))), some (vI (((X (rO (Lf r) K) : Nat) : Int))), some (vI (bI (oth (Lf r) X K (rN (Lf r))))), some (vI (((soM (Lf r) (rN (Lf r)) (rO (Lf r) K) : Nat) : Int))), none]) dX8_takesByLine_150 (Nat.le_of_ble_eq_true rfl) rfl ?_
        refine Ev.iload_n dX8_takesByLine_152 rfl rfl ?_
        refine Ev.if_ne (tgt := 168) b2_inR dX8_takesByLine_153 (by decide) (fun h153 => ?_) (fun h153 => ?_)
        · skip
          refine Ev.iconst dX8_takesByLine_168 ?_
          refine Ev.goto (tgt := 173) dX8_takesByLine_169 (by decide) ?_
          refine Ev.istore_n (pl' := [some (vR (272)), some (vI (((r : Nat) : Int))), some (vI (1)), some (vI ((((6 * r + K) : Nat) : Int))), some (vI (((rO (Lf r) K : Nat) : Int))), some (vI (((X (rO (Lf r) K) : Nat) : Int))), some (vI (bI (oth (Lf r) X K (rN (Lf r))))), some (vI (((soM (Lf r) (rN (Lf r)) (rO (Lf r) K) : Nat) : Int))), none]) dX8_takesByLine_173 rfl (Nat.le_of_ble_eq_true rfl) rfl ?_
          refine Ev.aload_n dX8_takesByLine_174 rfl rfl ?_
          refine gf_X8_78 rfl dX8_takesByLine_175 ltc_272 shc_272 rfc_272_29 ?_
          refine Ev.iload dX8_takesByLine_178 rfl ?_
          refine Ev.iload dX8_takesByLine_180 rfl ?_
          refine Ev.iastore dX8_takesByLine_182 ltc_294 shc_294 (by decide) (by omega) (Int.ofNat_lt.mpr (Nat.lt_of_lt_of_le (hW.2.1 _ (by omega)) hU)) ?_
          refine Ev.aload_n dX8_takesByLine_183 rfl rfl ?_
          refine Ev.aload_n dX8_takesByLine_184 rfl rfl ?_
          refine gf_X8_197 (x := ((b2 dd : Nat) : Int)) rfl dX8_takesByLine_185 ltc_272 shc_272 (show (upC (τ) 294 (((rO (Lf r) K : Nat) : Int)).toNat (((X (rO (Lf r) K) : Nat) : Int))) 272 31 = _ from upC_nm hd) ?_
          refine Ev.if_ne (tgt := 196) b2_inR dX8_takesByLine_188 (by decide) (fun h188 => ?_) (fun h188 => ?_)
          · skip
            refine Ev.iconst dX8_takesByLine_196 ?_
            refine Ev.goto (tgt := 201) dX8_takesByLine_197 (by decide) ?_
            refine pf_X8_197 rfl dX8_takesByLine_201 ltc_272 shc_272 (by omega) ?_
            refine Ev.iinc (pl' := [some (vR (272)), some (vI (((r : Nat) : Int))), some (vI (1)), some (vI ((((6 * r + K) : Nat) : Int) + 1)), some (vI (((rO (Lf r) K : Nat) : Int))), some (vI (((X (rO (Lf r) K) : Nat) : Int))), some (vI (bI (oth (Lf r) X K (rN (Lf r))))), some (vI (((soM (Lf r) (rN (Lf r)) (rO (Lf r) K) : Nat) : Int))), none]) dX8_takesByLine_204 rfl (Nat.le_of_ble_eq_true rfl) rfl ?_
            refine Ev.goto (tgt := 7) dX8_takesByLine_207 (by decide) ?_
            refine Ev.wk (pl' := [some (vR (272)), some (vI (((r : Nat) : Int))), some (vI (((b2 true : Nat) : Int))), some (vI ((((6 * r + (K + 1)) : Nat) : Int))), none, none, none, none, none]) ⟨rfl, ⟨rfl, ⟨vIe rfl, ⟨vIe (by omega), trivial⟩⟩⟩⟩ ?_
            exact ih (K + 1) (by omega) (upC (upC (τ) 294 (((rO (Lf r) K : Nat) : Int)).toNat (((X (rO (Lf r) K) : Nat) : Int))) 272 31 (1)) (upY X (rO (Lf r) K) (lft T (Lf r) X K)) true true (hF.up.upd) ((hX.up rfl (by first | rfl | (rw [hlx])) lft_lt).upd) upC_at (by first | exact hgs.dead2 (b2_ne.mp (by assumption)) | (have hd0 := b2_0.mp h188; subst hd0; exact hgs.die (S := (40, Lf, fun q => (2 ^ L - 1).testBit q = true)) (fun q hq hb => (hL q (Nat.lt_trans (below_tb.mp hb) hLm)).2.1) (show r < 40 by omega) hbit (show K < rN (Lf r) by omega) (show lft T (Lf r) X K = 0 by omega)))
          · skip
            refine Ev.iload dX8_takesByLine_191 rfl ?_
            refine Ev.if_ne (tgt := 200) ⟨by omega, by omega⟩ dX8_takesByLine_193 (by decide) (fun h193 => ?_) (fun h193 => ?_)
            · skip
              refine Ev.iconst dX8_takesByLine_200 ?_
              refine pf_X8_197 rfl dX8_takesByLine_201 ltc_272 shc_272 (by omega) ?_
              refine Ev.iinc (pl' := [some (vR (272)), some (vI (((r : Nat) : Int))), some (vI (1)), some (vI ((((6 * r + K) : Nat) : Int) + 1)), some (vI (((rO (Lf r) K : Nat) : Int))), some (vI (((X (rO (Lf r) K) : Nat) : Int))), some (vI (bI (oth (Lf r) X K (rN (Lf r))))), some (vI (((soM (Lf r) (rN (Lf r)) (rO (Lf r) K) : Nat) : Int))), none]) dX8_takesByLine_204 rfl (Nat.le_of_ble_eq_true rfl) rfl ?_
              refine Ev.goto (tgt := 7) dX8_takesByLine_207 (by decide) ?_
              refine Ev.wk (pl' := [some (vR (272)), some (vI (((r : Nat) : Int))), some (vI (((b2 true : Nat) : Int))), some (vI ((((6 * r + (K + 1)) : Nat) : Int))), none, none, none, none, none]) ⟨rfl, ⟨rfl, ⟨vIe rfl, ⟨vIe (by omega), trivial⟩⟩⟩⟩ ?_
              exact ih (K + 1) (by omega) (upC (upC (τ) 294 (((rO (Lf r) K : Nat) : Int)).toNat (((X (rO (Lf r) K) : Nat) : Int))) 272 31 (0)) (upY X (rO (Lf r) K) (lft T (Lf r) X K)) true false (hF.up.upd) ((hX.up rfl (by first | rfl | (rw [hlx])) lft_lt).upd) upC_at (by have hd0 := b2_0.mp h188; subst hd0; rw [Bool.or_true]; exact hgs.stepT (S := (40, Lf, fun q => (2 ^ L - 1).testBit q = true)) (fun q hq hb => (hL q (Nat.lt_trans (below_tb.mp hb) hLm)).2.1) (show r < 40 by omega) hbit (show K < rN (Lf r) by omega) (show lft T (Lf r) X K ≠ 0 by omega) (by first | exact Or.inl (by rw [b2_ne.mp h153]; simp) | exact Or.inr (show lft T (Lf r) X K ≠ X (rO (Lf r) K) by omega)))
            · skip
              refine Ev.iconst dX8_takesByLine_196 ?_
              refine Ev.goto (tgt := 201) dX8_takesByLine_197 (by decide) ?_
              refine pf_X8_197 rfl dX8_takesByLine_201 ltc_272 shc_272 (by omega) ?_
              refine Ev.iinc (pl' := [some (vR (272)), some (vI (((r : Nat) : Int))), some (vI (1)), some (vI ((((6 * r + K) : Nat) : Int) + 1)), some (vI (((rO (Lf r) K : Nat) : Int))), some (vI (((X (rO (Lf r) K) : Nat) : Int))), some (vI (bI (oth (Lf r) X K (rN (Lf r))))), some (vI (((soM (Lf r) (rN (Lf r)) (rO (Lf r) K) : Nat) : Int))), none]) dX8_takesByLine_204 rfl (Nat.le_of_ble_eq_true rfl) rfl ?_
              refine Ev.goto (tgt := 7) dX8_takesByLine_207 (by decide) ?_
              refine Ev.wk (pl' := [some (vR (272)), some (vI (((r : Nat) : Int))), some (vI (((b2 true : Nat) : Int))), some (vI ((((6 * r + (K + 1)) : Nat) : Int))), none, none, none, none, none]) ⟨rfl, ⟨rfl, ⟨vIe rfl, ⟨vIe (by omega), trivial⟩⟩⟩⟩ ?_
              exact ih (K + 1) (by omega) (upC (upC (τ) 294 (((rO (Lf r) K : Nat) : Int)).toNat (((X (rO (Lf r) K) : Nat) : Int))) 272 31 (1)) (upY X (rO (Lf r) K) (lft T (Lf r) X K)) true true (hF.up.upd) ((hX.up rfl (by first | rfl | (rw [hlx])) lft_lt).upd) upC_at (by first | exact hgs.dead2 (b2_ne.mp (by assumption)) | (have hd0 := b2_0.mp h188; subst hd0; exact hgs.die (S := (40, Lf, fun q => (2 ^ L - 1).testBit q = true)) (fun q hq hb => (hL q (Nat.lt_trans (below_tb.mp hb) hLm)).2.1) (show r < 40 by omega) hbit (show K < rN (Lf r) by omega) (show lft T (Lf r) X K = 0 by omega)))
        · skip
          refine Ev.iload dX8_takesByLine_156 rfl ?_
          refine Ev.aload_n dX8_takesByLine_158 rfl rfl ?_
          refine gf_X8_78 rfl dX8_takesByLine_159 ltc_272 shc_272 rfc_272_29 ?_
          refine Ev.iload dX8_takesByLine_162 rfl ?_
          refine Ev.iaload (v := ((X (rO (Lf r) K) : Nat) : Int)) dX8_takesByLine_164 ltc_294 shc_294 (by decide) (by omega) (Int.ofNat_lt.mpr (Nat.lt_of_lt_of_le (hW.2.1 _ (by omega)) hU)) (ldx rfl (hX _ (hW.2.1 _ (by omega))).1) ?_
          refine Ev.icmp_eq (tgt := 172) ⟨by omega, by omega⟩ ⟨by omega, by omega⟩ dX8_takesByLine_165 (by decide) (fun h165 => ?_) (fun h165 => ?_)
          · skip
            refine Ev.iconst dX8_takesByLine_172 ?_
            refine Ev.istore_n (pl' := [some (vR (272)), some (vI (((r : Nat) : Int))), some (vI (0)), some (vI ((((6 * r + K) : Nat) : Int))), some (vI (((rO (Lf r) K : Nat) : Int))), some (vI (((X (rO (Lf r) K) : Nat) : Int))), some (vI (bI (oth (Lf r) X K (rN (Lf r))))), some (vI (((soM (Lf r) (rN (Lf r)) (rO (Lf r) K) : Nat) : Int))), none]) dX8_takesByLine_173 rfl (Nat.le_of_ble_eq_true rfl) rfl ?_
            refine Ev.aload_n dX8_takesByLine_174 rfl rfl ?_
            refine gf_X8_78 rfl dX8_takesByLine_175 ltc_272 shc_272 rfc_272_29 ?_
            refine Ev.iload dX8_takesByLine_178 rfl ?_
            refine Ev.iload dX8_takesByLine_180 rfl ?_
            refine Ev.iastore dX8_takesByLine_182 ltc_294 shc_294 (by decide) (by omega) (Int.ofNat_lt.mpr (Nat.lt_of_lt_of_le (hW.2.1 _ (by omega)) hU)) ?_
            refine Ev.aload_n dX8_takesByLine_183 rfl rfl ?_
            refine Ev.aload_n dX8_takesByLine_184 rfl rfl ?_
            refine gf_X8_197 (x := ((b2 dd : Nat) : Int)) rfl dX8_takesByLine_185 ltc_272 shc_272 (show (upC (τ) 294 (((rO (Lf r) K : Nat) : Int)).toNat (((X (rO (Lf r) K) : Nat) : Int))) 272 31 = _ from upC_nm hd) ?_
            refine Ev.if_ne (tgt := 196) b2_inR dX8_takesByLine_188 (by decide) (fun h188 => ?_) (fun h188 => ?_)
            · skip
              refine Ev.iconst dX8_takesByLine_196 ?_
              refine Ev.goto (tgt := 201) dX8_takesByLine_197 (by decide) ?_
              refine pf_X8_197 rfl dX8_takesByLine_201 ltc_272 shc_272 (by omega) ?_
              refine Ev.iinc (pl' := [some (vR (272)), some (vI (((r : Nat) : Int))), some (vI (0)), some (vI ((((6 * r + K) : Nat) : Int) + 1)), some (vI (((rO (Lf r) K : Nat) : Int))), some (vI (((X (rO (Lf r) K) : Nat) : Int))), some (vI (bI (oth (Lf r) X K (rN (Lf r))))), some (vI (((soM (Lf r) (rN (Lf r)) (rO (Lf r) K) : Nat) : Int))), none]) dX8_takesByLine_204 rfl (Nat.le_of_ble_eq_true rfl) rfl ?_
              refine Ev.goto (tgt := 7) dX8_takesByLine_207 (by decide) ?_
              refine Ev.wk (pl' := [some (vR (272)), some (vI (((r : Nat) : Int))), some (vI (((b2 false : Nat) : Int))), some (vI ((((6 * r + (K + 1)) : Nat) : Int))), none, none, none, none, none]) ⟨rfl, ⟨rfl, ⟨vIe rfl, ⟨vIe (by omega), trivial⟩⟩⟩⟩ ?_
              exact ih (K + 1) (by omega) (upC (upC (τ) 294 (((rO (Lf r) K : Nat) : Int)).toNat (((X (rO (Lf r) K) : Nat) : Int))) 272 31 (1)) (upY X (rO (Lf r) K) (lft T (Lf r) X K)) false true (hF.up.upd) ((hX.up rfl (by first | rfl | (rw [hlx])) lft_lt).upd) upC_at (by first | exact hgs.dead2 (b2_ne.mp (by assumption)) | (have hd0 := b2_0.mp h188; subst hd0; exact hgs.die (S := (40, Lf, fun q => (2 ^ L - 1).testBit q = true)) (fun q hq hb => (hL q (Nat.lt_trans (below_tb.mp hb) hLm)).2.1) (show r < 40 by omega) hbit (show K < rN (Lf r) by omega) (show lft T (Lf r) X K = 0 by omega)))
            · skip
              refine Ev.iload dX8_takesByLine_191 rfl ?_
              refine Ev.if_ne (tgt := 200) ⟨by omega, by omega⟩ dX8_takesByLine_193 (by decide) (fun h193 => ?_) (fun h193 => ?_)
              · skip
                refine Ev.iconst dX8_takesByLine_200 ?_
                refine pf_X8_197 rfl dX8_takesByLine_201 ltc_272 shc_272 (by omega) ?_
                refine Ev.iinc (pl' := [some (vR (272)), some (vI (((r : Nat) : Int))), some (vI (0)), some (vI ((((6 * r + K) : Nat) : Int) + 1)), some (vI (((rO (Lf r) K : Nat) : Int))), some (vI (((X (rO (Lf r) K) : Nat) : Int))), some (vI (bI (oth (Lf r) X K (rN (Lf r))))), some (vI (((soM (Lf r) (rN (Lf r)) (rO (Lf r) K) : Nat) : Int))), none]) dX8_takesByLine_204 rfl (Nat.le_of_ble_eq_true rfl) rfl ?_
                refine Ev.goto (tgt := 7) dX8_takesByLine_207 (by decide) ?_
                refine Ev.wk (pl' := [some (vR (272)), some (vI (((r : Nat) : Int))), some (vI (((b2 false : Nat) : Int))), some (vI ((((6 * r + (K + 1)) : Nat) : Int))), none, none, none, none, none]) ⟨rfl, ⟨rfl, ⟨vIe rfl, ⟨vIe (by omega), trivial⟩⟩⟩⟩ ?_
                exact ih (K + 1) (by omega) (upC (upC (τ) 294 (((rO (Lf r) K : Nat) : Int)).toNat (((X (rO (Lf r) K) : Nat) : Int))) 272 31 (0)) (upY X (rO (Lf r) K) (lft T (Lf r) X K)) false false (hF.up.upd) ((hX.up rfl (by first | rfl | (rw [hlx])) lft_lt).upd) upC_at (by have hd0 := b2_0.mp h188; subst hd0; have hw0 := b2_0.mp h153; subst hw0; exact hgs.stepE (S := (40, Lf, fun q => (2 ^ L - 1).testBit q = true)) (fun q hq hb => (hL q (Nat.lt_trans (below_tb.mp hb) hLm)).2.1) (show r < 40 by omega) hbit (show K < rN (Lf r) by omega) (show lft T (Lf r) X K ≠ 0 by omega) (show lft T (Lf r) X K = X (rO (Lf r) K) by omega))
              · skip
                refine Ev.iconst dX8_takesByLine_196 ?_
                refine Ev.goto (tgt := 201) dX8_takesByLine_197 (by decide) ?_
                refine pf_X8_197 rfl dX8_takesByLine_201 ltc_272 shc_272 (by omega) ?_
                refine Ev.iinc (pl' := [some (vR (272)), some (vI (((r : Nat) : Int))), some (vI (0)), some (vI ((((6 * r + K) : Nat) : Int) + 1)), some (vI (((rO (Lf r) K : Nat) : Int))), some (vI (((X (rO (Lf r) K) : Nat) : Int))), some (vI (bI (oth (Lf r) X K (rN (Lf r))))), some (vI (((soM (Lf r) (rN (Lf r)) (rO (Lf r) K) : Nat) : Int))), none]) dX8_takesByLine_204 rfl (Nat.le_of_ble_eq_true rfl) rfl ?_
                refine Ev.goto (tgt := 7) dX8_takesByLine_207 (by decide) ?_
                refine Ev.wk (pl' := [some (vR (272)), some (vI (((r : Nat) : Int))), some (vI (((b2 false : Nat) : Int))), some (vI ((((6 * r + (K + 1)) : Nat) : Int))), none, none, none, none, none]) ⟨rfl, ⟨rfl, ⟨vIe rfl, ⟨vIe (by omega), trivial⟩⟩⟩⟩ ?_
                exact ih (K + 1) (by omega) (upC (upC (τ) 294 (((rO (Lf r) K : Nat) : Int)).toNat (((X (rO (Lf r) K) : Nat) : Int))) 272 31 (1)) (upY X (rO (Lf r) K) (lft T (Lf r) X K)) false true (hF.up.upd) ((hX.up rfl (by first | rfl | (rw [hlx])) lft_lt).upd) upC_at (by first | exact hgs.dead2 (b2_ne.mp (by assumption)) | (have hd0 := b2_0.mp h188; subst hd0; exact hgs.die (S := (40, Lf, fun q => (2 ^ L - 1).testBit q = true)) (fun q hq hb => (hL q (Nat.lt_trans (below_tb.mp hb) hLm)).2.1) (show r < 40 by omega) hbit (show K < rN (Lf r) by omega) (show lft T (Lf r) X K = 0 by omega)))
          · skip
            refine Ev.iconst dX8_takesByLine_168 ?_
            refine Ev.goto (tgt := 173) dX8_takesByLine_169 (by decide) ?_
            refine Ev.istore_n (pl' := [some (vR (272)), some (vI (((r : Nat) : Int))), some (vI (1)), some (vI ((((6 * r + K) : Nat) : Int))), some (vI (((rO (Lf r) K : Nat) : Int))), some (vI (((X (rO (Lf r) K) : Nat) : Int))), some (vI (bI (oth (Lf r) X K (rN (Lf r))))), some (vI (((soM (Lf r) (rN (Lf r)) (rO (Lf r) K) : Nat) : Int))), none]) dX8_takesByLine_173 rfl (Nat.le_of_ble_eq_true rfl) rfl ?_
            refine Ev.aload_n dX8_takesByLine_174 rfl rfl ?_
            refine gf_X8_78 rfl dX8_takesByLine_175 ltc_272 shc_272 rfc_272_29 ?_
            refine Ev.iload dX8_takesByLine_178 rfl ?_
            refine Ev.iload dX8_takesByLine_180 rfl ?_
            refine Ev.iastore dX8_takesByLine_182 ltc_294 shc_294 (by decide) (by omega) (Int.ofNat_lt.mpr (Nat.lt_of_lt_of_le (hW.2.1 _ (by omega)) hU)) ?_
            refine Ev.aload_n dX8_takesByLine_183 rfl rfl ?_
            refine Ev.aload_n dX8_takesByLine_184 rfl rfl ?_
            refine gf_X8_197 (x := ((b2 dd : Nat) : Int)) rfl dX8_takesByLine_185 ltc_272 shc_272 (show (upC (τ) 294 (((rO (Lf r) K : Nat) : Int)).toNat (((X (rO (Lf r) K) : Nat) : Int))) 272 31 = _ from upC_nm hd) ?_
            refine Ev.if_ne (tgt := 196) b2_inR dX8_takesByLine_188 (by decide) (fun h188 => ?_) (fun h188 => ?_)
            · skip
              refine Ev.iconst dX8_takesByLine_196 ?_
              refine Ev.goto (tgt := 201) dX8_takesByLine_197 (by decide) ?_
              refine pf_X8_197 rfl dX8_takesByLine_201 ltc_272 shc_272 (by omega) ?_
              refine Ev.iinc (pl' := [some (vR (272)), some (vI (((r : Nat) : Int))), some (vI (1)), some (vI ((((6 * r + K) : Nat) : Int) + 1)), some (vI (((rO (Lf r) K : Nat) : Int))), some (vI (((X (rO (Lf r) K) : Nat) : Int))), some (vI (bI (oth (Lf r) X K (rN (Lf r))))), some (vI (((soM (Lf r) (rN (Lf r)) (rO (Lf r) K) : Nat) : Int))), none]) dX8_takesByLine_204 rfl (Nat.le_of_ble_eq_true rfl) rfl ?_
              refine Ev.goto (tgt := 7) dX8_takesByLine_207 (by decide) ?_
              refine Ev.wk (pl' := [some (vR (272)), some (vI (((r : Nat) : Int))), some (vI (((b2 true : Nat) : Int))), some (vI ((((6 * r + (K + 1)) : Nat) : Int))), none, none, none, none, none]) ⟨rfl, ⟨rfl, ⟨vIe rfl, ⟨vIe (by omega), trivial⟩⟩⟩⟩ ?_
              exact ih (K + 1) (by omega) (upC (upC (τ) 294 (((rO (Lf r) K : Nat) : Int)).toNat (((X (rO (Lf r) K) : Nat) : Int))) 272 31 (1)) (upY X (rO (Lf r) K) (lft T (Lf r) X K)) true true (hF.up.upd) ((hX.up rfl (by first | rfl | (rw [hlx])) lft_lt).upd) upC_at (by first | exact hgs.dead2 (b2_ne.mp (by assumption)) | (have hd0 := b2_0.mp h188; subst hd0; exact hgs.die (S := (40, Lf, fun q => (2 ^ L - 1).testBit q = true)) (fun q hq hb => (hL q (Nat.lt_trans (below_tb.mp hb) hLm)).2.1) (show r < 40 by omega) hbit (show K < rN (Lf r) by omega) (show lft T (Lf r) X K = 0 by omega)))
            · skip
              refine Ev.iload dX8_takesByLine_191 rfl ?_
              refine Ev.if_ne (tgt := 200) ⟨by omega, by omega⟩ dX8_takesByLine_193 (by decide) (fun h193 => ?_) (fun h193 => ?_)
              · skip
                refine Ev.iconst dX8_takesByLine_200 ?_
                refine pf_X8_197 rfl dX8_takesByLine_201 ltc_272 shc_272 (by omega) ?_
                refine Ev.iinc (pl' := [some (vR (272)), some (vI (((r : Nat) : Int))), some (vI (1)), some (vI ((((6 * r + K) : Nat) : Int) + 1)), some (vI (((rO (Lf r) K : Nat) : Int))), some (vI (((X (rO (Lf r) K) : Nat) : Int))), some (vI (bI (oth (Lf r) X K (rN (Lf r))))), some (vI (((soM (Lf r) (rN (Lf r)) (rO (Lf r) K) : Nat) : Int))), none]) dX8_takesByLine_204 rfl (Nat.le_of_ble_eq_true rfl) rfl ?_
                refine Ev.goto (tgt := 7) dX8_takesByLine_207 (by decide) ?_
                refine Ev.wk (pl' := [some (vR (272)), some (vI (((r : Nat) : Int))), some (vI (((b2 true : Nat) : Int))), some (vI ((((6 * r + (K + 1)) : Nat) : Int))), none, none, none, none, none]) ⟨rfl, ⟨rfl, ⟨vIe rfl, ⟨vIe (by omega), trivial⟩⟩⟩⟩ ?_
                exact ih (K + 1) (by omega) (upC (upC (τ) 294 (((rO (Lf r) K : Nat) : Int)).toNat (((X (rO (Lf r) K) : Nat) : Int))) 272 31 (0)) (upY X (rO (Lf r) K) (lft T (Lf r) X K)) true false (hF.up.upd) ((hX.up rfl (by first | rfl | (rw [hlx])) lft_lt).upd) upC_at (by have hd0 := b2_0.mp h188; subst hd0; rw [Bool.or_true]; exact hgs.stepT (S := (40, Lf, fun q => (2 ^ L - 1).testBit q = true)) (fun q hq hb => (hL q (Nat.lt_trans (below_tb.mp hb) hLm)).2.1) (show r < 40 by omega) hbit (show K < rN (Lf r) by omega) (show lft T (Lf r) X K ≠ 0 by omega) (by first | exact Or.inl (by rw [b2_ne.mp h153]; simp) | exact Or.inr (show lft T (Lf r) X K ≠ X (rO (Lf r) K) by omega)))
              · skip
                refine Ev.iconst dX8_takesByLine_196 ?_
                refine Ev.goto (tgt := 201) dX8_takesByLine_197 (by decide) ?_
                refine pf_X8_197 rfl dX8_takesByLine_201 ltc_272 shc_272 (by omega) ?_
                refine Ev.iinc (pl' := [some (vR (272)), some (vI (((r : Nat) : Int))), some (vI (1)), some (vI ((((6 * r + K) : Nat) : Int) + 1)), some (vI (((rO (Lf r) K : Nat) : Int))), some (vI (((X (rO (Lf r) K) : Nat) : Int))), some (vI (bI (oth (Lf r) X K (rN (Lf r))))), some (vI (((soM (Lf r) (rN (Lf r)) (rO (Lf r) K) : Nat) : Int))), none]) dX8_takesByLine_204 rfl (Nat.le_of_ble_eq_true rfl) rfl ?_
                refine Ev.goto (tgt := 7) dX8_takesByLine_207 (by decide) ?_
                refine Ev.wk (pl' := [some (vR (272)), some (vI (((r : Nat) : Int))), some (vI (((b2 true : Nat) : Int))), some (vI ((((6 * r + (K + 1)) : Nat) : Int))), none, none, none, none, none]) ⟨rfl, ⟨rfl, ⟨vIe rfl, ⟨vIe (by omega), trivial⟩⟩⟩⟩ ?_
                exact ih (K + 1) (by omega) (upC (upC (τ) 294 (((rO (Lf r) K : Nat) : Int)).toNat (((X (rO (Lf r) K) : Nat) : Int))) 272 31 (1)) (upY X (rO (Lf r) K) (lft T (Lf r) X K)) true true (hF.up.upd) ((hX.up rfl (by first | rfl | (rw [hlx])) lft_lt).upd) upC_at (by first | exact hgs.dead2 (b2_ne.mp (by assumption)) | (have hd0 := b2_0.mp h188; subst hd0; exact hgs.die (S := (40, Lf, fun q => (2 ^ L - 1).testBit q = true)) (fun q hq hb => (hL q (Nat.lt_trans (below_tb.mp hb) hLm)).2.1) (show r < 40 by omega) hbit (show K < rN (Lf r) by omega) (show lft T (Lf r) X K = 0 by omega)))
      · skip
        have hlx := hcl.1 (bI_1.mp h137)
        refine Ev.iload dX8_takesByLine_140 rfl ?_
        refine Ev.iload dX8_takesByLine_142 rfl ?_
        refine Ev.iand dX8_takesByLine_144 ?_
        rw [show (iAnd (((X (rO (Lf r) K) : Nat) : Int)) (((soM (Lf r) (rN (Lf r)) (rO (Lf r) K) : Nat) : Int))) = ((lft T (Lf r) X K : Nat) : Int) from by rw [← hlx]; exact iAnd_nat (by omega)]
        refine Ev.goto (tgt := 150) dX8_takesByLine_145 (by decide) ?_
        refine Ev.istore (pl' := [some (vR (272)), some (vI (((r : Nat) : Int))), some (vI (((b2 went : Nat) : Int))), some (vI ((((6 * r + K) : Nat) : Int))), some (vI (((rO (Lf r) K : Nat) : Int))), some (vI (((lft T (Lf r) X K : Nat) : Int))), some (vI (bI (oth (Lf r) X K (rN (Lf r))))), some (vI (((soM (Lf r) (rN (Lf r)) (rO (Lf r) K) : Nat) : Int))), none]) dX8_takesByLine_150 (Nat.le_of_ble_eq_true rfl) rfl ?_
        refine Ev.iload_n dX8_takesByLine_152 rfl rfl ?_
        refine Ev.if_ne (tgt := 168) b2_inR dX8_takesByLine_153 (by decide) (fun h153 => ?_) (fun h153 => ?_)
        · skip
          refine Ev.iconst dX8_takesByLine_168 ?_
          refine Ev.goto (tgt := 173) dX8_takesByLine_169 (by decide) ?_
          refine Ev.istore_n (pl' := [some (vR (272)), some (vI (((r : Nat) : Int))), some (vI (1)), some (vI ((((6 * r + K) : Nat) : Int))), some (vI (((rO (Lf r) K : Nat) : Int))), some (vI (((lft T (Lf r) X K : Nat) : Int))), some (vI (bI (oth (Lf r) X K (rN (Lf r))))), some (vI (((soM (Lf r) (rN (Lf r)) (rO (Lf r) K) : Nat) : Int))), none]) dX8_takesByLine_173 rfl (Nat.le_of_ble_eq_true rfl) rfl ?_
          refine Ev.aload_n dX8_takesByLine_174 rfl rfl ?_
          refine gf_X8_78 rfl dX8_takesByLine_175 ltc_272 shc_272 rfc_272_29 ?_
          refine Ev.iload dX8_takesByLine_178 rfl ?_
          refine Ev.iload dX8_takesByLine_180 rfl ?_
          refine Ev.iastore dX8_takesByLine_182 ltc_294 shc_294 (by decide) (by omega) (Int.ofNat_lt.mpr (Nat.lt_of_lt_of_le (hW.2.1 _ (by omega)) hU)) ?_
          refine Ev.aload_n dX8_takesByLine_183 rfl rfl ?_
          refine Ev.aload_n dX8_takesByLine_184 rfl rfl ?_
          refine gf_X8_197 (x := ((b2 dd : Nat) : Int)) rfl dX8_takesByLine_185 ltc_272 shc_272 (show (upC (τ) 294 (((rO (Lf r) K : Nat) : Int)).toNat (((lft T (Lf r) X K : Nat) : Int))) 272 31 = _ from upC_nm hd) ?_
          refine Ev.if_ne (tgt := 196) b2_inR dX8_takesByLine_188 (by decide) (fun h188 => ?_) (fun h188 => ?_)
          · skip
            refine Ev.iconst dX8_takesByLine_196 ?_
            refine Ev.goto (tgt := 201) dX8_takesByLine_197 (by decide) ?_
            refine pf_X8_197 rfl dX8_takesByLine_201 ltc_272 shc_272 (by omega) ?_
            refine Ev.iinc (pl' := [some (vR (272)), some (vI (((r : Nat) : Int))), some (vI (1)), some (vI ((((6 * r + K) : Nat) : Int) + 1)), some (vI (((rO (Lf r) K : Nat) : Int))), some (vI (((lft T (Lf r) X K : Nat) : Int))), some (vI (bI (oth (Lf r) X K (rN (Lf r))))), some (vI (((soM (Lf r) (rN (Lf r)) (rO (Lf r) K) : Nat) : Int))), none]) dX8_takesByLine_204 rfl (Nat.le_of_ble_eq_true rfl) rfl ?_
            refine Ev.goto (tgt := 7) dX8_takesByLine_207 (by decide) ?_
            refine Ev.wk (pl' := [some (vR (272)), some (vI (((r : Nat) : Int))), some (vI (((b2 true : Nat) : Int))), some (vI ((((6 * r + (K + 1)) : Nat) : Int))), none, none, none, none, none]) ⟨rfl, ⟨rfl, ⟨vIe rfl, ⟨vIe (by omega), trivial⟩⟩⟩⟩ ?_
            exact ih (K + 1) (by omega) (upC (upC (τ) 294 (((rO (Lf r) K : Nat) : Int)).toNat (((lft T (Lf r) X K : Nat) : Int))) 272 31 (1)) (upY X (rO (Lf r) K) (lft T (Lf r) X K)) true true (hF.up.upd) ((hX.up rfl (by first | rfl | (rw [hlx])) lft_lt).upd) upC_at (by first | exact hgs.dead2 (b2_ne.mp (by assumption)) | (have hd0 := b2_0.mp h188; subst hd0; exact hgs.die (S := (40, Lf, fun q => (2 ^ L - 1).testBit q = true)) (fun q hq hb => (hL q (Nat.lt_trans (below_tb.mp hb) hLm)).2.1) (show r < 40 by omega) hbit (show K < rN (Lf r) by omega) (show lft T (Lf r) X K = 0 by omega)))
          · skip
            refine Ev.iload dX8_takesByLine_191 rfl ?_
            refine Ev.if_ne (tgt := 200) ⟨by omega, by omega⟩ dX8_takesByLine_193 (by decide) (fun h193 => ?_) (fun h193 => ?_)
            · skip
              refine Ev.iconst dX8_takesByLine_200 ?_
              refine pf_X8_197 rfl dX8_takesByLine_201 ltc_272 shc_272 (by omega) ?_
              refine Ev.iinc (pl' := [some (vR (272)), some (vI (((r : Nat) : Int))), some (vI (1)), some (vI ((((6 * r + K) : Nat) : Int) + 1)), some (vI (((rO (Lf r) K : Nat) : Int))), some (vI (((lft T (Lf r) X K : Nat) : Int))), some (vI (bI (oth (Lf r) X K (rN (Lf r))))), some (vI (((soM (Lf r) (rN (Lf r)) (rO (Lf r) K) : Nat) : Int))), none]) dX8_takesByLine_204 rfl (Nat.le_of_ble_eq_true rfl) rfl ?_
              refine Ev.goto (tgt := 7) dX8_takesByLine_207 (by decide) ?_
              refine Ev.wk (pl' := [some (vR (272)), some (vI (((r : Nat) : Int))), some (vI (((b2 true : Nat) : Int))), some (vI ((((6 * r + (K + 1)) : Nat) : Int))), none, none, none, none, none]) ⟨rfl, ⟨rfl, ⟨vIe rfl, ⟨vIe (by omega), trivial⟩⟩⟩⟩ ?_
              exact ih (K + 1) (by omega) (upC (upC (τ) 294 (((rO (Lf r) K : Nat) : Int)).toNat (((lft T (Lf r) X K : Nat) : Int))) 272 31 (0)) (upY X (rO (Lf r) K) (lft T (Lf r) X K)) true false (hF.up.upd) ((hX.up rfl (by first | rfl | (rw [hlx])) lft_lt).upd) upC_at (by have hd0 := b2_0.mp h188; subst hd0; rw [Bool.or_true]; exact hgs.stepT (S := (40, Lf, fun q => (2 ^ L - 1).testBit q = true)) (fun q hq hb => (hL q (Nat.lt_trans (below_tb.mp hb) hLm)).2.1) (show r < 40 by omega) hbit (show K < rN (Lf r) by omega) (show lft T (Lf r) X K ≠ 0 by omega) (by first | exact Or.inl (by rw [b2_ne.mp h153]; simp) | exact Or.inr (show lft T (Lf r) X K ≠ X (rO (Lf r) K) by omega)))
            · skip
              refine Ev.iconst dX8_takesByLine_196 ?_
              refine Ev.goto (tgt := 201) dX8_takesByLine_197 (by decide) ?_
              refine pf_X8_197 rfl dX8_takesByLine_201 ltc_272 shc_272 (by omega) ?_
              refine Ev.iinc (pl' := [some (vR (272)), some (vI (((r : Nat) : Int))), some (vI (1)), some (vI ((((6 * r + K) : Nat) : Int) + 1)), some (vI (((rO (Lf r) K : Nat) : Int))), some (vI (((lft T (Lf r) X K : Nat) : Int))), some (vI (bI (oth (Lf r) X K (rN (Lf r))))), some (vI (((soM (Lf r) (rN (Lf r)) (rO (Lf r) K) : Nat) : Int))), none]) dX8_takesByLine_204 rfl (Nat.le_of_ble_eq_true rfl) rfl ?_
              refine Ev.goto (tgt := 7) dX8_takesByLine_207 (by decide) ?_
              refine Ev.wk (pl' := [some (vR (272)), some (vI (((r : Nat) : Int))), some (vI (((b2 true : Nat) : Int))), some (vI ((((6 * r + (K + 1)) : Nat) : Int))), none, none, none, none, none]) ⟨rfl, ⟨rfl, ⟨vIe rfl, ⟨vIe (by omega), trivial⟩⟩⟩⟩ ?_
              exact ih (K + 1) (by omega) (upC (upC (τ) 294 (((rO (Lf r) K : Nat) : Int)).toNat (((lft T (Lf r) X K : Nat) : Int))) 272 31 (1)) (upY X (rO (Lf r) K) (lft T (Lf r) X K)) true true (hF.up.upd) ((hX.up rfl (by first | rfl | (rw [hlx])) lft_lt).upd) upC_at (by first | exact hgs.dead2 (b2_ne.mp (by assumption)) | (have hd0 := b2_0.mp h188; subst hd0; exact hgs.die (S := (40, Lf, fun q => (2 ^ L - 1).testBit q = true)) (fun q hq hb => (hL q (Nat.lt_trans (below_tb.mp hb) hLm)).2.1) (show r < 40 by omega) hbit (show K < rN (Lf r) by omega) (show lft T (Lf r) X K = 0 by omega)))
        · skip
          refine Ev.iload dX8_takesByLine_156 rfl ?_
          refine Ev.aload_n dX8_takesByLine_158 rfl rfl ?_
          refine gf_X8_78 rfl dX8_takesByLine_159 ltc_272 shc_272 rfc_272_29 ?_
          refine Ev.iload dX8_takesByLine_162 rfl ?_
          refine Ev.iaload (v := ((X (rO (Lf r) K) : Nat) : Int)) dX8_takesByLine_164 ltc_294 shc_294 (by decide) (by omega) (Int.ofNat_lt.mpr (Nat.lt_of_lt_of_le (hW.2.1 _ (by omega)) hU)) (ldx rfl (hX _ (hW.2.1 _ (by omega))).1) ?_
          refine Ev.icmp_eq (tgt := 172) ⟨by omega, by omega⟩ ⟨by omega, by omega⟩ dX8_takesByLine_165 (by decide) (fun h165 => ?_) (fun h165 => ?_)
          · skip
            refine Ev.iconst dX8_takesByLine_172 ?_
            refine Ev.istore_n (pl' := [some (vR (272)), some (vI (((r : Nat) : Int))), some (vI (0)), some (vI ((((6 * r + K) : Nat) : Int))), some (vI (((rO (Lf r) K : Nat) : Int))), some (vI (((lft T (Lf r) X K : Nat) : Int))), some (vI (bI (oth (Lf r) X K (rN (Lf r))))), some (vI (((soM (Lf r) (rN (Lf r)) (rO (Lf r) K) : Nat) : Int))), none]) dX8_takesByLine_173 rfl (Nat.le_of_ble_eq_true rfl) rfl ?_
            refine Ev.aload_n dX8_takesByLine_174 rfl rfl ?_
            refine gf_X8_78 rfl dX8_takesByLine_175 ltc_272 shc_272 rfc_272_29 ?_
            refine Ev.iload dX8_takesByLine_178 rfl ?_
            refine Ev.iload dX8_takesByLine_180 rfl ?_
            refine Ev.iastore dX8_takesByLine_182 ltc_294 shc_294 (by decide) (by omega) (Int.ofNat_lt.mpr (Nat.lt_of_lt_of_le (hW.2.1 _ (by omega)) hU)) ?_
            refine Ev.aload_n dX8_takesByLine_183 rfl rfl ?_
            refine Ev.aload_n dX8_takesByLine_184 rfl rfl ?_
            refine gf_X8_197 (x := ((b2 dd : Nat) : Int)) rfl dX8_takesByLine_185 ltc_272 shc_272 (show (upC (τ) 294 (((rO (Lf r) K : Nat) : Int)).toNat (((lft T (Lf r) X K : Nat) : Int))) 272 31 = _ from upC_nm hd) ?_
            refine Ev.if_ne (tgt := 196) b2_inR dX8_takesByLine_188 (by decide) (fun h188 => ?_) (fun h188 => ?_)
            · skip
              refine Ev.iconst dX8_takesByLine_196 ?_
              refine Ev.goto (tgt := 201) dX8_takesByLine_197 (by decide) ?_
              refine pf_X8_197 rfl dX8_takesByLine_201 ltc_272 shc_272 (by omega) ?_
              refine Ev.iinc (pl' := [some (vR (272)), some (vI (((r : Nat) : Int))), some (vI (0)), some (vI ((((6 * r + K) : Nat) : Int) + 1)), some (vI (((rO (Lf r) K : Nat) : Int))), some (vI (((lft T (Lf r) X K : Nat) : Int))), some (vI (bI (oth (Lf r) X K (rN (Lf r))))), some (vI (((soM (Lf r) (rN (Lf r)) (rO (Lf r) K) : Nat) : Int))), none]) dX8_takesByLine_204 rfl (Nat.le_of_ble_eq_true rfl) rfl ?_
              refine Ev.goto (tgt := 7) dX8_takesByLine_207 (by decide) ?_
              refine Ev.wk (pl' := [some (vR (272)), some (vI (((r : Nat) : Int))), some (vI (((b2 false : Nat) : Int))), some (vI ((((6 * r + (K + 1)) : Nat) : Int))), none, none, none, none, none]) ⟨rfl, ⟨rfl, ⟨vIe rfl, ⟨vIe (by omega), trivial⟩⟩⟩⟩ ?_
              exact ih (K + 1) (by omega) (upC (upC (τ) 294 (((rO (Lf r) K : Nat) : Int)).toNat (((lft T (Lf r) X K : Nat) : Int))) 272 31 (1)) (upY X (rO (Lf r) K) (lft T (Lf r) X K)) false true (hF.up.upd) ((hX.up rfl (by first | rfl | (rw [hlx])) lft_lt).upd) upC_at (by first | exact hgs.dead2 (b2_ne.mp (by assumption)) | (have hd0 := b2_0.mp h188; subst hd0; exact hgs.die (S := (40, Lf, fun q => (2 ^ L - 1).testBit q = true)) (fun q hq hb => (hL q (Nat.lt_trans (below_tb.mp hb) hLm)).2.1) (show r < 40 by omega) hbit (show K < rN (Lf r) by omega) (show lft T (Lf r) X K = 0 by omega)))
            · skip
              refine Ev.iload dX8_takesByLine_191 rfl ?_
              refine Ev.if_ne (tgt := 200) ⟨by omega, by omega⟩ dX8_takesByLine_193 (by decide) (fun h193 => ?_) (fun h193 => ?_)
              · skip
                refine Ev.iconst dX8_takesByLine_200 ?_
                refine pf_X8_197 rfl dX8_takesByLine_201 ltc_272 shc_272 (by omega) ?_
                refine Ev.iinc (pl' := [some (vR (272)), some (vI (((r : Nat) : Int))), some (vI (0)), some (vI ((((6 * r + K) : Nat) : Int) + 1)), some (vI (((rO (Lf r) K : Nat) : Int))), some (vI (((lft T (Lf r) X K : Nat) : Int))), some (vI (bI (oth (Lf r) X K (rN (Lf r))))), some (vI (((soM (Lf r) (rN (Lf r)) (rO (Lf r) K) : Nat) : Int))), none]) dX8_takesByLine_204 rfl (Nat.le_of_ble_eq_true rfl) rfl ?_
                refine Ev.goto (tgt := 7) dX8_takesByLine_207 (by decide) ?_
                refine Ev.wk (pl' := [some (vR (272)), some (vI (((r : Nat) : Int))), some (vI (((b2 false : Nat) : Int))), some (vI ((((6 * r + (K + 1)) : Nat) : Int))), none, none, none, none, none]) ⟨rfl, ⟨rfl, ⟨vIe rfl, ⟨vIe (by omega), trivial⟩⟩⟩⟩ ?_
                exact ih (K + 1) (by omega) (upC (upC (τ) 294 (((rO (Lf r) K : Nat) : Int)).toNat (((lft T (Lf r) X K : Nat) : Int))) 272 31 (0)) (upY X (rO (Lf r) K) (lft T (Lf r) X K)) false false (hF.up.upd) ((hX.up rfl (by first | rfl | (rw [hlx])) lft_lt).upd) upC_at (by have hd0 := b2_0.mp h188; subst hd0; have hw0 := b2_0.mp h153; subst hw0; exact hgs.stepE (S := (40, Lf, fun q => (2 ^ L - 1).testBit q = true)) (fun q hq hb => (hL q (Nat.lt_trans (below_tb.mp hb) hLm)).2.1) (show r < 40 by omega) hbit (show K < rN (Lf r) by omega) (show lft T (Lf r) X K ≠ 0 by omega) (show lft T (Lf r) X K = X (rO (Lf r) K) by omega))
              · skip
                refine Ev.iconst dX8_takesByLine_196 ?_
                refine Ev.goto (tgt := 201) dX8_takesByLine_197 (by decide) ?_
                refine pf_X8_197 rfl dX8_takesByLine_201 ltc_272 shc_272 (by omega) ?_
                refine Ev.iinc (pl' := [some (vR (272)), some (vI (((r : Nat) : Int))), some (vI (0)), some (vI ((((6 * r + K) : Nat) : Int) + 1)), some (vI (((rO (Lf r) K : Nat) : Int))), some (vI (((lft T (Lf r) X K : Nat) : Int))), some (vI (bI (oth (Lf r) X K (rN (Lf r))))), some (vI (((soM (Lf r) (rN (Lf r)) (rO (Lf r) K) : Nat) : Int))), none]) dX8_takesByLine_204 rfl (Nat.le_of_ble_eq_true rfl) rfl ?_
                refine Ev.goto (tgt := 7) dX8_takesByLine_207 (by decide) ?_
                refine Ev.wk (pl' := [some (vR (272)), some (vI (((r : Nat) : Int))), some (vI (((b2 false : Nat) : Int))), some (vI ((((6 * r + (K + 1)) : Nat) : Int))), none, none, none, none, none]) ⟨rfl, ⟨rfl, ⟨vIe rfl, ⟨vIe (by omega), trivial⟩⟩⟩⟩ ?_
                exact ih (K + 1) (by omega) (upC (upC (τ) 294 (((rO (Lf r) K : Nat) : Int)).toNat (((lft T (Lf r) X K : Nat) : Int))) 272 31 (1)) (upY X (rO (Lf r) K) (lft T (Lf r) X K)) false true (hF.up.upd) ((hX.up rfl (by first | rfl | (rw [hlx])) lft_lt).upd) upC_at (by first | exact hgs.dead2 (b2_ne.mp (by assumption)) | (have hd0 := b2_0.mp h188; subst hd0; exact hgs.die (S := (40, Lf, fun q => (2 ^ L - 1).testBit q = true)) (fun q hq hb => (hL q (Nat.lt_trans (below_tb.mp hb) hLm)).2.1) (show r < 40 by omega) hbit (show K < rN (Lf r) by omega) (show lft T (Lf r) X K = 0 by omega)))
          · skip
            refine Ev.iconst dX8_takesByLine_168 ?_
            refine Ev.goto (tgt := 173) dX8_takesByLine_169 (by decide) ?_
            refine Ev.istore_n (pl' := [some (vR (272)), some (vI (((r : Nat) : Int))), some (vI (1)), some (vI ((((6 * r + K) : Nat) : Int))), some (vI (((rO (Lf r) K : Nat) : Int))), some (vI (((lft T (Lf r) X K : Nat) : Int))), some (vI (bI (oth (Lf r) X K (rN (Lf r))))), some (vI (((soM (Lf r) (rN (Lf r)) (rO (Lf r) K) : Nat) : Int))), none]) dX8_takesByLine_173 rfl (Nat.le_of_ble_eq_true rfl) rfl ?_
            refine Ev.aload_n dX8_takesByLine_174 rfl rfl ?_
            refine gf_X8_78 rfl dX8_takesByLine_175 ltc_272 shc_272 rfc_272_29 ?_
            refine Ev.iload dX8_takesByLine_178 rfl ?_
            refine Ev.iload dX8_takesByLine_180 rfl ?_
            refine Ev.iastore dX8_takesByLine_182 ltc_294 shc_294 (by decide) (by omega) (Int.ofNat_lt.mpr (Nat.lt_of_lt_of_le (hW.2.1 _ (by omega)) hU)) ?_
            refine Ev.aload_n dX8_takesByLine_183 rfl rfl ?_
            refine Ev.aload_n dX8_takesByLine_184 rfl rfl ?_
            refine gf_X8_197 (x := ((b2 dd : Nat) : Int)) rfl dX8_takesByLine_185 ltc_272 shc_272 (show (upC (τ) 294 (((rO (Lf r) K : Nat) : Int)).toNat (((lft T (Lf r) X K : Nat) : Int))) 272 31 = _ from upC_nm hd) ?_
            refine Ev.if_ne (tgt := 196) b2_inR dX8_takesByLine_188 (by decide) (fun h188 => ?_) (fun h188 => ?_)
            · skip
              refine Ev.iconst dX8_takesByLine_196 ?_
              refine Ev.goto (tgt := 201) dX8_takesByLine_197 (by decide) ?_
              refine pf_X8_197 rfl dX8_takesByLine_201 ltc_272 shc_272 (by omega) ?_
              refine Ev.iinc (pl' := [some (vR (272)), some (vI (((r : Nat) : Int))), some (vI (1)), some (vI ((((6 * r + K) : Nat) : Int) + 1)), some (vI (((rO (Lf r) K : Nat) : Int))), some (vI (((lft T (Lf r) X K : Nat) : Int))), some (vI (bI (oth (Lf r) X K (rN (Lf r))))), some (vI (((soM (Lf r) (rN (Lf r)) (rO (Lf r) K) : Nat) : Int))), none]) dX8_takesByLine_204 rfl (Nat.le_of_ble_eq_true rfl) rfl ?_
              refine Ev.goto (tgt := 7) dX8_takesByLine_207 (by decide) ?_
              refine Ev.wk (pl' := [some (vR (272)), some (vI (((r : Nat) : Int))), some (vI (((b2 true : Nat) : Int))), some (vI ((((6 * r + (K + 1)) : Nat) : Int))), none, none, none, none, none]) ⟨rfl, ⟨rfl, ⟨vIe rfl, ⟨vIe (by omega), trivial⟩⟩⟩⟩ ?_
              exact ih (K + 1) (by omega) (upC (upC (τ) 294 (((rO (Lf r) K : Nat) : Int)).toNat (((lft T (Lf r) X K : Nat) : Int))) 272 31 (1)) (upY X (rO (Lf r) K) (lft T (Lf r) X K)) true true (hF.up.upd) ((hX.up rfl (by first | rfl | (rw [hlx])) lft_lt).upd) upC_at (by first | exact hgs.dead2 (b2_ne.mp (by assumption)) | (have hd0 := b2_0.mp h188; subst hd0; exact hgs.die (S := (40, Lf, fun q => (2 ^ L - 1).testBit q = true)) (fun q hq hb => (hL q (Nat.lt_trans (below_tb.mp hb) hLm)).2.1) (show r < 40 by omega) hbit (show K < rN (Lf r) by omega) (show lft T (Lf r) X K = 0 by omega)))
            · skip
              refine Ev.iload dX8_takesByLine_191 rfl ?_
              refine Ev.if_ne (tgt := 200) ⟨by omega, by omega⟩ dX8_takesByLine_193 (by decide) (fun h193 => ?_) (fun h193 => ?_)
              · skip
                refine Ev.iconst dX8_takesByLine_200 ?_
                refine pf_X8_197 rfl dX8_takesByLine_201 ltc_272 shc_272 (by omega) ?_
                refine Ev.iinc (pl' := [some (vR (272)), some (vI (((r : Nat) : Int))), some (vI (1)), some (vI ((((6 * r + K) : Nat) : Int) + 1)), some (vI (((rO (Lf r) K : Nat) : Int))), some (vI (((lft T (Lf r) X K : Nat) : Int))), some (vI (bI (oth (Lf r) X K (rN (Lf r))))), some (vI (((soM (Lf r) (rN (Lf r)) (rO (Lf r) K) : Nat) : Int))), none]) dX8_takesByLine_204 rfl (Nat.le_of_ble_eq_true rfl) rfl ?_
                refine Ev.goto (tgt := 7) dX8_takesByLine_207 (by decide) ?_
                refine Ev.wk (pl' := [some (vR (272)), some (vI (((r : Nat) : Int))), some (vI (((b2 true : Nat) : Int))), some (vI ((((6 * r + (K + 1)) : Nat) : Int))), none, none, none, none, none]) ⟨rfl, ⟨rfl, ⟨vIe rfl, ⟨vIe (by omega), trivial⟩⟩⟩⟩ ?_
                exact ih (K + 1) (by omega) (upC (upC (τ) 294 (((rO (Lf r) K : Nat) : Int)).toNat (((lft T (Lf r) X K : Nat) : Int))) 272 31 (0)) (upY X (rO (Lf r) K) (lft T (Lf r) X K)) true false (hF.up.upd) ((hX.up rfl (by first | rfl | (rw [hlx])) lft_lt).upd) upC_at (by have hd0 := b2_0.mp h188; subst hd0; rw [Bool.or_true]; exact hgs.stepT (S := (40, Lf, fun q => (2 ^ L - 1).testBit q = true)) (fun q hq hb => (hL q (Nat.lt_trans (below_tb.mp hb) hLm)).2.1) (show r < 40 by omega) hbit (show K < rN (Lf r) by omega) (show lft T (Lf r) X K ≠ 0 by omega) (by first | exact Or.inl (by rw [b2_ne.mp h153]; simp) | exact Or.inr (show lft T (Lf r) X K ≠ X (rO (Lf r) K) by omega)))
              · skip
                refine Ev.iconst dX8_takesByLine_196 ?_
                refine Ev.goto (tgt := 201) dX8_takesByLine_197 (by decide) ?_
                refine pf_X8_197 rfl dX8_takesByLine_201 ltc_272 shc_272 (by omega) ?_
                refine Ev.iinc (pl' := [some (vR (272)), some (vI (((r : Nat) : Int))), some (vI (1)), some (vI ((((6 * r + K) : Nat) : Int) + 1)), some (vI (((rO (Lf r) K : Nat) : Int))), some (vI (((lft T (Lf r) X K : Nat) : Int))), some (vI (bI (oth (Lf r) X K (rN (Lf r))))), some (vI (((soM (Lf r) (rN (Lf r)) (rO (Lf r) K) : Nat) : Int))), none]) dX8_takesByLine_204 rfl (Nat.le_of_ble_eq_true rfl) rfl ?_
                refine Ev.goto (tgt := 7) dX8_takesByLine_207 (by decide) ?_
                refine Ev.wk (pl' := [some (vR (272)), some (vI (((r : Nat) : Int))), some (vI (((b2 true : Nat) : Int))), some (vI ((((6 * r + (K + 1)) : Nat) : Int))), none, none, none, none, none]) ⟨rfl, ⟨rfl, ⟨vIe rfl, ⟨vIe (by omega), trivial⟩⟩⟩⟩ ?_
                exact ih (K + 1) (by omega) (upC (upC (τ) 294 (((rO (Lf r) K : Nat) : Int)).toNat (((lft T (Lf r) X K : Nat) : Int))) 272 31 (1)) (upY X (rO (Lf r) K) (lft T (Lf r) X K)) true true (hF.up.upd) ((hX.up rfl (by first | rfl | (rw [hlx])) lft_lt).upd) upC_at (by first | exact hgs.dead2 (b2_ne.mp (by assumption)) | (have hd0 := b2_0.mp h188; subst hd0; exact hgs.die (S := (40, Lf, fun q => (2 ^ L - 1).testBit q = true)) (fun q hq hb => (hL q (Nat.lt_trans (below_tb.mp hb) hLm)).2.1) (show r < 40 by omega) hbit (show K < rN (Lf r) by omega) (show lft T (Lf r) X K = 0 by omega)))

set_option maxRecDepth 100000 in
set_option maxHeartbeats 4000000 in
theorem sM_takesByLine {g : GC} (σ : Sg) (U : Nat) (hU : U ≤ 10) (T : Tb) (m : Nat) (hm : m ≤ 40) (Lf : Nat → RC) (hL : ∀ r, r < m → LR σ r (Lf r) ∧ WR U (Lf r) ∧ rK (Lf r) = 5) (X0 : Rg) (L : Nat) (hLm : L < m) (Xr : Rg) (mm0 : Bool) (r : Nat) (hr : r < L) (X : Rg) (dd : Bool) (hX : AW σ U X) (hd : σ 272 31 = (b2 dd : Int)) (hgs : GS U T (40, Lf, fun q => (2 ^ L - 1).testBit q = true) X0 Xr X mm0 dd r 0) : Ev g mX8_takesByLine 0 [some (vR (272)), some (vI (((r : Nat) : Int))), none, none, none, none, none, none, none] [] (M0 (σ)) 0 0 (retE (fun v τ => ∃ (X : Rg) (went dd : Bool), v = (b2 went : Int) ∧ SameM σ τ ∧ AW τ U X ∧ τ 272 31 = (b2 dd : Int) ∧ GS U T (40, Lf, fun q => (2 ^ L - 1).testBit q = true) X0 Xr X (mm0 || went) dd (r + 1) 0 ∧ (dd = false → rN (Lf r) ≠ 0))) := by
  refine Ev.iconst dX8_takesByLine_0 ?_
  refine Ev.istore_n (pl' := [some (vR (272)), some (vI (((r : Nat) : Int))), some (vI (0)), none, none, none, none, none, none]) dX8_takesByLine_1 rfl (Nat.le_of_ble_eq_true rfl) rfl ?_
  refine Ev.bipush (n := 6) (by decide) dX8_takesByLine_2 ?_
  refine Ev.iload_n dX8_takesByLine_4 rfl rfl ?_
  refine Ev.imul dX8_takesByLine_5 ?_
  refine Ev.istore_n (pl' := [some (vR (272)), some (vI (((r : Nat) : Int))), some (vI (0)), some (vI ((6 * ((r : Nat) : Int)))), none, none, none, none, none]) dX8_takesByLine_6 rfl (Nat.le_of_ble_eq_true rfl) rfl ?_
  refine Ev.wk (pl' := [some (vR (272)), some (vI (((r : Nat) : Int))), some (vI (((b2 false : Nat) : Int))), some (vI ((((6 * r + 0) : Nat) : Int))), none, none, none, none, none]) ⟨rfl, ⟨rfl, ⟨vIe rfl, ⟨vIe (by omega), trivial⟩⟩⟩⟩ ?_
  exact sM_tl σ U hU T m hm Lf hL X0 L hLm Xr mm0 r hr (rN (Lf r)) 0 (by omega) σ X false dd SameM.rf hX hd (by rw [Bool.or_false]; exact hgs)

theorem Same.mc {σ τ : Sg} (h : Same [294] σ τ) : SameM σ τ := fun c i hc _ => by rw [h c (by simp; exact hc)]
set_option maxRecDepth 100000 in
set_option maxHeartbeats 4000000 in
theorem sM_asT_l {g : GC} (σ : Sg) (U : Nat) (hU : U ≤ 10) (h1 : σ 272 1 = (U : Int)) (X0 X : Rg) (h3 : ∀ x, x < U → σ 273 x = (X0 x : Int) ∧ X0 x < 65536) (h4 : ∀ x, x < U → σ 274 x = (X x : Int) ∧ X x < 65536) : ∀ j x : Nat, x + j = U → ∀ τ : Sg, Same [294] σ τ → (∀ y, y < x → τ 294 y = (X0 y : Int)) → Ev g mX8_asideAs 2 [some (vR (272)), some (vI (1)), some (vI (((x : Nat) : Int)))] [] (M0 (τ)) 0 0 (retW (fun τ => Same [294] σ τ ∧ AW τ U X0)) := by
  intro j
  induction j with
  | zero =>
    intro x hij τ hF hG
    refine Ev.iload_n dX8_asideAs_2 rfl rfl ?_
    refine Ev.aload_n dX8_asideAs_3 rfl rfl ?_
    refine gf_X8_93 (x := ((U : Nat) : Int)) rfl dX8_asideAs_4 ltc_272 shc_272 ((congrFun (hF 272 (by decide)) 1).trans h1) ?_
    refine Ev.icmp_ge (tgt := 41) ⟨by omega, by omega⟩ ⟨by omega, by omega⟩ dX8_asideAs_7 (by decide) (fun h7 => ?_) (fun h7 => ?_)
    · skip
      exact Ev.vreturn dX8_asideAs_41 rfl (rW ⟨hF, fun y hy => ⟨hG y (by omega), (h3 y hy).2⟩⟩)
    · exact absurd h7 (by omega)
  | succ j ih =>
    intro x hij τ hF hG
    refine Ev.iload_n dX8_asideAs_2 rfl rfl ?_
    refine Ev.aload_n dX8_asideAs_3 rfl rfl ?_
    refine gf_X8_93 (x := ((U : Nat) : Int)) rfl dX8_asideAs_4 ltc_272 shc_272 ((congrFun (hF 272 (by decide)) 1).trans h1) ?_
    refine Ev.icmp_ge (tgt := 41) ⟨by omega, by omega⟩ ⟨by omega, by omega⟩ dX8_asideAs_7 (by decide) (fun h7 => ?_) (fun h7 => ?_)
    · exact absurd h7 (by omega)
    · skip
      refine Ev.aload_n dX8_asideAs_10 rfl rfl ?_
      refine gf_X8_78 rfl dX8_asideAs_11 ltc_272 shc_272 rfc_272_29 ?_
      refine Ev.iload_n dX8_asideAs_14 rfl rfl ?_
      refine Ev.iload_n dX8_asideAs_15 rfl rfl ?_
      refine Ev.if_eq (tgt := 28) ⟨by decide, by decide⟩ dX8_asideAs_16 (by decide) (fun h16 => ?_) (fun h16 => ?_)
      · exact absurd h16 (by decide)
      · skip
        refine Ev.aload_n dX8_asideAs_19 rfl rfl ?_
        refine gf_X8_7 rfl dX8_asideAs_20 ltc_272 shc_272 rfc_272_2 ?_
        refine Ev.iload_n dX8_asideAs_23 rfl rfl ?_
        refine Ev.iaload (v := ((X0 x : Nat) : Int)) dX8_asideAs_24 ltc_273 shc_273 (by decide) (by omega) (by omega) (ldx rfl ((congrFun (hF 273 (by decide)) x).trans (h3 x (by omega)).1)) ?_
        refine Ev.goto (tgt := 34) dX8_asideAs_25 (by decide) ?_
        refine Ev.iastore dX8_asideAs_34 ltc_294 shc_294 (by decide) (by omega) (by omega) ?_
        refine Ev.iinc (pl' := [some (vR (272)), some (vI (1)), some (vI (((x : Nat) : Int) + 1))]) dX8_asideAs_35 rfl (Nat.le_of_ble_eq_true rfl) rfl ?_
        refine Ev.goto (tgt := 2) dX8_asideAs_38 (by decide) ?_
        refine Ev.wk (pl' := [some (vR (272)), some (vI (1)), some (vI ((((x + 1) : Nat) : Int)))]) ⟨rfl, ⟨rfl, ⟨vIe (by omega), trivial⟩⟩⟩ ?_
        exact ih (x + 1) (by omega) (upC (τ) 294 (((x : Nat) : Int)).toNat (((X0 x : Nat) : Int))) (hF.up (by decide)) (fun y hy => by rw [show ((x : Nat) : Int).toNat = x from rfl]; rcases Nat.lt_or_ge y x with e | e; (rw [upC_self (by omega)]; exact hG y e); (rw [show y = x by omega]; exact upC_at))

set_option maxRecDepth 100000 in
set_option maxHeartbeats 4000000 in
theorem sM_asT {g : GC} (σ : Sg) (U : Nat) (hU : U ≤ 10) (h1 : σ 272 1 = (U : Int)) (X0 X : Rg) (h3 : ∀ x, x < U → σ 273 x = (X0 x : Int) ∧ X0 x < 65536) (h4 : ∀ x, x < U → σ 274 x = (X x : Int) ∧ X x < 65536) : Ev g mX8_asideAs 0 [some (vR (272)), some (vI (1)), none] [] (M0 (σ)) 0 0 (retW (fun τ => Same [294] σ τ ∧ AW τ U X0)) := by
  refine Ev.iconst dX8_asideAs_0 ?_
  refine Ev.istore_n (pl' := [some (vR (272)), some (vI (1)), some (vI (0))]) dX8_asideAs_1 rfl (Nat.le_of_ble_eq_true rfl) rfl ?_
  refine Ev.wk (pl' := [some (vR (272)), some (vI (1)), some (vI (((0 : Nat) : Int)))]) ⟨rfl, ⟨rfl, ⟨vIe rfl, trivial⟩⟩⟩ ?_
  exact sM_asT_l σ U hU h1 X0 X h3 h4 U 0 (by omega) σ Same.rf (fun y hy => absurd hy (by omega))

set_option maxRecDepth 100000 in
set_option maxHeartbeats 4000000 in
theorem sM_asN_l {g : GC} (σ : Sg) (U : Nat) (hU : U ≤ 10) (h1 : σ 272 1 = (U : Int)) (X0 X : Rg) (h3 : ∀ x, x < U → σ 273 x = (X0 x : Int) ∧ X0 x < 65536) (h4 : ∀ x, x < U → σ 274 x = (X x : Int) ∧ X x < 65536) : ∀ j x : Nat, x + j = U → ∀ τ : Sg, Same [294] σ τ → (∀ y, y < x → τ 294 y = (X y : Int)) → Ev g mX8_asideAs 2 [some (vR (272)), some (vI (0)), some (vI (((x : Nat) : Int)))] [] (M0 (τ)) 0 0 (retW (fun τ => Same [294] σ τ ∧ AW τ U X)) := by
  intro j
  induction j with
  | zero =>
    intro x hij τ hF hG
    refine Ev.iload_n dX8_asideAs_2 rfl rfl ?_
    refine Ev.aload_n dX8_asideAs_3 rfl rfl ?_
    refine gf_X8_93 (x := ((U : Nat) : Int)) rfl dX8_asideAs_4 ltc_272 shc_272 ((congrFun (hF 272 (by decide)) 1).trans h1) ?_
    refine Ev.icmp_ge (tgt := 41) ⟨by omega, by omega⟩ ⟨by omega, by omega⟩ dX8_asideAs_7 (by decide) (fun h7 => ?_) (fun h7 => ?_)
    · skip
      exact Ev.vreturn dX8_asideAs_41 rfl (rW ⟨hF, fun y hy => ⟨hG y (by omega), (h4 y hy).2⟩⟩)
    · exact absurd h7 (by omega)
  | succ j ih =>
    intro x hij τ hF hG
    refine Ev.iload_n dX8_asideAs_2 rfl rfl ?_
    refine Ev.aload_n dX8_asideAs_3 rfl rfl ?_
    refine gf_X8_93 (x := ((U : Nat) : Int)) rfl dX8_asideAs_4 ltc_272 shc_272 ((congrFun (hF 272 (by decide)) 1).trans h1) ?_
    refine Ev.icmp_ge (tgt := 41) ⟨by omega, by omega⟩ ⟨by omega, by omega⟩ dX8_asideAs_7 (by decide) (fun h7 => ?_) (fun h7 => ?_)
    · exact absurd h7 (by omega)
    · skip
      refine Ev.aload_n dX8_asideAs_10 rfl rfl ?_
      refine gf_X8_78 rfl dX8_asideAs_11 ltc_272 shc_272 rfc_272_29 ?_
      refine Ev.iload_n dX8_asideAs_14 rfl rfl ?_
      refine Ev.iload_n dX8_asideAs_15 rfl rfl ?_
      refine Ev.if_eq (tgt := 28) ⟨by decide, by decide⟩ dX8_asideAs_16 (by decide) (fun h16 => ?_) (fun h16 => ?_)
      · skip
        refine Ev.aload_n dX8_asideAs_28 rfl rfl ?_
        refine gf_X8_13 rfl dX8_asideAs_29 ltc_272 shc_272 rfc_272_3 ?_
        refine Ev.iload_n dX8_asideAs_32 rfl rfl ?_
        refine Ev.iaload (v := ((X x : Nat) : Int)) dX8_asideAs_33 ltc_274 shc_274 (by decide) (by omega) (by omega) (ldx rfl ((congrFun (hF 274 (by decide)) x).trans (h4 x (by omega)).1)) ?_
        refine Ev.iastore dX8_asideAs_34 ltc_294 shc_294 (by decide) (by omega) (by omega) ?_
        refine Ev.iinc (pl' := [some (vR (272)), some (vI (0)), some (vI (((x : Nat) : Int) + 1))]) dX8_asideAs_35 rfl (Nat.le_of_ble_eq_true rfl) rfl ?_
        refine Ev.goto (tgt := 2) dX8_asideAs_38 (by decide) ?_
        refine Ev.wk (pl' := [some (vR (272)), some (vI (0)), some (vI ((((x + 1) : Nat) : Int)))]) ⟨rfl, ⟨rfl, ⟨vIe (by omega), trivial⟩⟩⟩ ?_
        exact ih (x + 1) (by omega) (upC (τ) 294 (((x : Nat) : Int)).toNat (((X x : Nat) : Int))) (hF.up (by decide)) (fun y hy => by rw [show ((x : Nat) : Int).toNat = x from rfl]; rcases Nat.lt_or_ge y x with e | e; (rw [upC_self (by omega)]; exact hG y e); (rw [show y = x by omega]; exact upC_at))
      · exact absurd h16 (by decide)

set_option maxRecDepth 100000 in
set_option maxHeartbeats 4000000 in
theorem sM_asN {g : GC} (σ : Sg) (U : Nat) (hU : U ≤ 10) (h1 : σ 272 1 = (U : Int)) (X0 X : Rg) (h3 : ∀ x, x < U → σ 273 x = (X0 x : Int) ∧ X0 x < 65536) (h4 : ∀ x, x < U → σ 274 x = (X x : Int) ∧ X x < 65536) : Ev g mX8_asideAs 0 [some (vR (272)), some (vI (0)), none] [] (M0 (σ)) 0 0 (retW (fun τ => Same [294] σ τ ∧ AW τ U X)) := by
  refine Ev.iconst dX8_asideAs_0 ?_
  refine Ev.istore_n (pl' := [some (vR (272)), some (vI (0)), some (vI (0))]) dX8_asideAs_1 rfl (Nat.le_of_ble_eq_true rfl) rfl ?_
  refine Ev.wk (pl' := [some (vR (272)), some (vI (0)), some (vI (((0 : Nat) : Int)))]) ⟨rfl, ⟨rfl, ⟨vIe rfl, trivial⟩⟩⟩ ?_
  exact sM_asN_l σ U hU h1 X0 X h3 h4 U 0 (by omega) σ Same.rf (fun y hy => absurd hy (by omega))

set_option maxRecDepth 100000 in
set_option maxHeartbeats 4000000 in
theorem sM_bl_cut {g : GC} (σ : Sg) (U : Nat) (hU : U ≤ 10) (r : Nat) (hr : r < 40) (R : RC) (hLr : LR σ r R) (hW : WR U R) (hk5 : rK R = 5) (X0 : Rg) {Post : Option PV → Mem → Prop} : ∀ j K : Nat, K + j = rN R → ∀ τ : Sg, Same [294] σ τ → AW τ U (cutF R X0 K) → (∀ τ : Sg, Same [294] σ τ → AW τ U (cutF R X0 (rN R)) → Ev g mX8_byLines 54 [some (vR (272)), some (vI (((r : Nat) : Int))), none, none, none] [] (M0 (τ)) 0 0 Post) → Ev g mX8_byLines 10 [some (vR (272)), some (vI (((r : Nat) : Int))), some (vI ((((6 * r + K) : Nat) : Int))), none, none] [] (M0 (τ)) 0 0 (Post) := by
  intro j
  induction j with
  | zero =>
    intro K hij τ hF hX kk
    have hA5 := hW.2.2.2.2.2.1 hk5
    have hn6 := hW.1.2.1
    have hLt := hF.mc.lr hLr
    refine Ev.iload_n dX8_byLines_10 rfl rfl ?_
    refine Ev.bipush (n := 6) (by decide) dX8_byLines_11 ?_
    refine Ev.iload_n dX8_byLines_13 rfl rfl ?_
    refine Ev.imul dX8_byLines_14 ?_
    refine Ev.aload_n dX8_byLines_15 rfl rfl ?_
    refine gf_X8_59 rfl dX8_byLines_16 ltc_272 shc_272 rfc_272_21 ?_
    refine Ev.iload_n dX8_byLines_19 rfl rfl ?_
    refine Ev.iaload (v := ((rN R : Nat) : Int)) dX8_byLines_20 ltc_289 shc_289 (by decide) (by omega) (by omega) (ldx rfl hLt.1) ?_
    refine Ev.iadd dX8_byLines_21 ?_
    refine Ev.icmp_ge (tgt := 54) ⟨by omega, by omega⟩ ⟨by omega, by omega⟩ dX8_byLines_22 (by decide) (fun h22 => ?_) (fun h22 => ?_)
    · skip
      refine Ev.wk (pl' := [some (vR (272)), some (vI (((r : Nat) : Int))), none, none, none]) ⟨rfl, ⟨rfl, trivial⟩⟩ ?_
      exact kk τ hF (by rw [← show K = rN R by omega]; exact hX)
    · exact absurd h22 (by omega)
  | succ j ih =>
    intro K hij τ hF hX kk
    have hA5 := hW.2.2.2.2.2.1 hk5
    have hn6 := hW.1.2.1
    have hLt := hF.mc.lr hLr
    have hOK := hW.2.1 K (by omega)
    have hxK := (hX _ hOK).2
    have haK := hA5 K (by omega)
    refine Ev.iload_n dX8_byLines_10 rfl rfl ?_
    refine Ev.bipush (n := 6) (by decide) dX8_byLines_11 ?_
    refine Ev.iload_n dX8_byLines_13 rfl rfl ?_
    refine Ev.imul dX8_byLines_14 ?_
    refine Ev.aload_n dX8_byLines_15 rfl rfl ?_
    refine gf_X8_59 rfl dX8_byLines_16 ltc_272 shc_272 rfc_272_21 ?_
    refine Ev.iload_n dX8_byLines_19 rfl rfl ?_
    refine Ev.iaload (v := ((rN R : Nat) : Int)) dX8_byLines_20 ltc_289 shc_289 (by decide) (by omega) (by omega) (ldx rfl hLt.1) ?_
    refine Ev.iadd dX8_byLines_21 ?_
    refine Ev.icmp_ge (tgt := 54) ⟨by omega, by omega⟩ ⟨by omega, by omega⟩ dX8_byLines_22 (by decide) (fun h22 => ?_) (fun h22 => ?_)
    · exact absurd h22 (by omega)
    · skip
      refine Ev.aload_n dX8_byLines_25 rfl rfl ?_
      refine gf_X8_78 rfl dX8_byLines_26 ltc_272 shc_272 rfc_272_29 ?_
      refine Ev.aload_n dX8_byLines_29 rfl rfl ?_
      refine gf_X8_62 rfl dX8_byLines_30 ltc_272 shc_272 rfc_272_22 ?_
      refine Ev.iload_n dX8_byLines_33 rfl rfl ?_
      refine Ev.iaload (v := ((rO R K : Nat) : Int)) dX8_byLines_34 ltc_290 shc_290 (by decide) (by omega) (by omega) (ldx (n := 6 * r + K) (by omega) (hLt.2 K (by omega)).1) ?_
      refine Ev.dup2RI dX8_byLines_35 ?_
      refine Ev.iaload (v := ((cutF R X0 K (rO R K) : Nat) : Int)) dX8_byLines_36 ltc_294 shc_294 (by decide) (by omega) (Int.ofNat_lt.mpr (Nat.lt_of_lt_of_le (hW.2.1 _ (by omega)) hU)) (ldx rfl (hX _ hOK).1) ?_
      refine Ev.ldc (n := 65535) (tbl_i 803 (by decide +kernel)) dX8_byLines_37 ?_
      refine Ev.aload_n dX8_byLines_39 rfl rfl ?_
      refine gf_X8_65 rfl dX8_byLines_40 ltc_272 shc_272 rfc_272_23 ?_
      refine Ev.iload_n dX8_byLines_43 rfl rfl ?_
      refine Ev.iaload (v := (((rA R K).toNat : Nat) : Int)) dX8_byLines_44 ltc_291 shc_291 (by decide) (by omega) (by omega) (ldx (n := 6 * r + K) (by omega) ((hLt.2 K (by omega)).2.trans (by have := hA5 K (by omega); omega))) ?_
      refine Ev.isub dX8_byLines_45 ?_
      refine Ev.iand dX8_byLines_46 ?_
      rw [show (iAnd (((cutF R X0 K (rO R K) : Nat) : Int)) ((65535 - (((rA R K).toNat : Nat) : Int)))) = ((andN (cutF R X0 K (rO R K)) (rA R K).toNat : Nat) : Int) from by rw [show (65535 : Int) - ((rA R K).toNat : Int) = ((65535 - (rA R K).toNat : Nat) : Int) by omega, iAnd_nat (by omega), and_compl hxK (by omega)]]
      refine Ev.iastore dX8_byLines_47 ltc_294 shc_294 (by decide) (by omega) (Int.ofNat_lt.mpr (Nat.lt_of_lt_of_le (hW.2.1 _ (by omega)) hU)) ?_
      refine Ev.iinc (pl' := [some (vR (272)), some (vI (((r : Nat) : Int))), some (vI ((((6 * r + K) : Nat) : Int) + 1)), none, none]) dX8_byLines_48 rfl (Nat.le_of_ble_eq_true rfl) rfl ?_
      refine Ev.goto (tgt := 10) dX8_byLines_51 (by decide) ?_
      refine Ev.wk (pl' := [some (vR (272)), some (vI (((r : Nat) : Int))), some (vI ((((6 * r + (K + 1)) : Nat) : Int))), none, none]) ⟨rfl, ⟨rfl, ⟨vIe (by omega), trivial⟩⟩⟩ ?_
      exact ih (K + 1) (by omega) (upC (τ) 294 (((rO R K : Nat) : Int)).toNat (((andN (cutF R X0 K (rO R K)) (rA R K).toNat : Nat) : Int))) (hF.up (by decide)) (hX.up rfl rfl (andN_lt hxK)) kk

set_option maxRecDepth 100000 in
set_option maxHeartbeats 4000000 in
theorem sM_bl2 {g : GC} (σ : Sg) (U : Nat) (hU : U ≤ 10) (T : Tb) (m : Nat) (hm : m ≤ 40) (Lf : Nat → RC) (hL : ∀ r, r < m → LR σ r (Lf r) ∧ WR U (Lf r) ∧ rK (Lf r) = 5) (X0 : Rg) (L : Nat) (hLm : L < m) (Xr : Rg) {Post : Option PV → Mem → Prop} : ∀ j r : Nat, r + j = L → ∀ (τ : Sg) (X : Rg) (mm dd : Bool), SameM σ τ → AW τ U X → τ 272 31 = (b2 dd : Int) → GS U T (40, Lf, fun q => (2 ^ L - 1).testBit q = true) X0 Xr X mm dd r 0 → (dd = false → ∀ q, q < r → rN (Lf q) ≠ 0) → (∀ (τ : Sg) (X : Rg) (mm dd : Bool) (r : Nat), (dd = false → L ≤ r) → SameM σ τ → AW τ U X → τ 272 31 = (b2 dd : Int) → GS U T (40, Lf, fun q => (2 ^ L - 1).testBit q = true) X0 Xr X mm dd r 0 → (dd = false → ∀ q, q < r → rN (Lf q) ≠ 0) → Ev g mX8_byLines 119 [some (vR (272)), some (vI (((L : Nat) : Int))), some (vI (((b2 mm : Nat) : Int))), none, none] [] (M0 (τ)) 0 0 Post) → Ev g mX8_byLines 79 [some (vR (272)), some (vI (((L : Nat) : Int))), some (vI (((b2 mm : Nat) : Int))), some (vI (((r : Nat) : Int))), none] [] (M0 (τ)) 0 0 (Post) := by
  intro j
  induction j with
  | zero =>
    intro r hij τ X mm dd hF hX hd hgs hne kk
    refine Ev.iload_n dX8_byLines_79 rfl rfl ?_
    refine Ev.iload_n dX8_byLines_80 rfl rfl ?_
    refine Ev.icmp_ge (tgt := 119) ⟨by omega, by omega⟩ ⟨by omega, by omega⟩ dX8_byLines_81 (by decide) (fun h81 => ?_) (fun h81 => ?_)
    · skip
      refine Ev.wk (pl' := [some (vR (272)), some (vI (((L : Nat) : Int))), some (vI (((b2 mm : Nat) : Int))), none, none]) ⟨rfl, ⟨rfl, ⟨rfl, trivial⟩⟩⟩ ?_
      exact kk τ X mm dd r (by first | exact fun _ => (by omega) | exact fun z => absurd (b2_ne.mp (by assumption)) (by rw [z]; decide)) hF hX hd hgs hne
    · exact absurd h81 (by omega)
  | succ j ih =>
    intro r hij τ X mm dd hF hX hd hgs hne kk
    refine Ev.iload_n dX8_byLines_79 rfl rfl ?_
    refine Ev.iload_n dX8_byLines_80 rfl rfl ?_
    refine Ev.icmp_ge (tgt := 119) ⟨by omega, by omega⟩ ⟨by omega, by omega⟩ dX8_byLines_81 (by decide) (fun h81 => ?_) (fun h81 => ?_)
    · exact absurd h81 (by omega)
    · skip
      refine Ev.aload_n dX8_byLines_84 rfl rfl ?_
      refine gf_X8_197 (x := ((b2 dd : Nat) : Int)) rfl dX8_byLines_85 ltc_272 shc_272 hd ?_
      refine Ev.if_ne (tgt := 119) b2_inR dX8_byLines_88 (by decide) (fun h88 => ?_) (fun h88 => ?_)
      · skip
        refine Ev.wk (pl' := [some (vR (272)), some (vI (((L : Nat) : Int))), some (vI (((b2 mm : Nat) : Int))), none, none]) ⟨rfl, ⟨rfl, ⟨rfl, trivial⟩⟩⟩ ?_
        exact kk τ X mm dd r (by first | exact fun _ => (by omega) | exact fun z => absurd (b2_ne.mp (by assumption)) (by rw [z]; decide)) hF hX hd hgs hne
      · skip
        have hd0 := b2_0.mp h88
        refine Ev.aload_n dX8_byLines_91 rfl rfl ?_
        refine Ev.iload_n dX8_byLines_92 rfl rfl ?_
        refine Ev.callV_G (M2 := mX8_takesByLine) (args2 := [vI (((r : Nat) : Int))]) (rcv := 272) (q := (RX8, TX8, 34)) (ci := 8) dX8_byLines_93 okX8_takesByLine lk_X8_281 ovX8_takesByLine.1.1 ovX8_takesByLine.1.2 ovX8_takesByLine.2 (by decide) rfl rfl ltc_272 shc_272 rfl (Nat.le_of_ble_eq_true rfl) (Nat.le_of_ble_eq_true rfl) (sM_takesByLine τ U hU T m hm Lf (fun q hq => ⟨hF.lr (hL q hq).1, (hL q hq).2⟩) X0 L hLm Xr mm r (by omega) X dd hX hd hgs) (fun v_ m_ hp_ => ?_) rfl
        obtain ⟨_, τ2, rfl, rfl, X2, went, dd2, rfl, g1, g2, g3, g4, g5⟩ := hp_
        show Ev g mX8_byLines 96 [some (vR (272)), some (vI (((L : Nat) : Int))), some (vI (((b2 mm : Nat) : Int))), some (vI (((r : Nat) : Int))), none] [vI (((b2 went : Nat) : Int))] (M0 (τ2)) 0 0 _
        refine Ev.istore (pl' := [some (vR (272)), some (vI (((L : Nat) : Int))), some (vI (((b2 mm : Nat) : Int))), some (vI (((r : Nat) : Int))), some (vI (((b2 went : Nat) : Int)))]) dX8_byLines_96 (Nat.le_of_ble_eq_true rfl) rfl ?_
        refine Ev.iload_n dX8_byLines_98 rfl rfl ?_
        refine Ev.if_ne (tgt := 107) b2_inR dX8_byLines_99 (by decide) (fun h99 => ?_) (fun h99 => ?_)
        · skip
          refine Ev.iconst dX8_byLines_107 ?_
          refine Ev.goto (tgt := 112) dX8_byLines_108 (by decide) ?_
          refine Ev.istore_n (pl' := [some (vR (272)), some (vI (((L : Nat) : Int))), some (vI (1)), some (vI (((r : Nat) : Int))), some (vI (((b2 went : Nat) : Int)))]) dX8_byLines_112 rfl (Nat.le_of_ble_eq_true rfl) rfl ?_
          refine Ev.iinc (pl' := [some (vR (272)), some (vI (((L : Nat) : Int))), some (vI (1)), some (vI (((r : Nat) : Int) + 1)), some (vI (((b2 went : Nat) : Int)))]) dX8_byLines_113 rfl (Nat.le_of_ble_eq_true rfl) rfl ?_
          refine Ev.goto (tgt := 79) dX8_byLines_116 (by decide) ?_
          refine Ev.wk (pl' := [some (vR (272)), some (vI (((L : Nat) : Int))), some (vI (((b2 true : Nat) : Int))), some (vI ((((r + 1) : Nat) : Int))), none]) ⟨rfl, ⟨rfl, ⟨vIe rfl, ⟨vIe (by omega), trivial⟩⟩⟩⟩ ?_
          exact ih (r + 1) (by omega) τ2 X2 true dd2 (hF.tr g1) g2 g3 (by have e : (mm || went) = true := (by first | (rw [b2_ne.mp (show ((b2 mm : Nat) : Int) ≠ 0 by assumption)]; rfl) | (rw [b2_ne.mp (show ((b2 went : Nat) : Int) ≠ 0 by assumption)]; simp)); rw [e] at g4; exact g4) (fun z q hq => (Nat.lt_or_ge q r).elim (hne hd0 q) (fun e => by rw [show q = r by omega]; exact g5 z)) kk
        · skip
          refine Ev.iload dX8_byLines_102 rfl ?_
          refine Ev.if_eq (tgt := 111) b2_inR dX8_byLines_104 (by decide) (fun h104 => ?_) (fun h104 => ?_)
          · skip
            refine Ev.iconst dX8_byLines_111 ?_
            refine Ev.istore_n (pl' := [some (vR (272)), some (vI (((L : Nat) : Int))), some (vI (0)), some (vI (((r : Nat) : Int))), some (vI (((b2 went : Nat) : Int)))]) dX8_byLines_112 rfl (Nat.le_of_ble_eq_true rfl) rfl ?_
            refine Ev.iinc (pl' := [some (vR (272)), some (vI (((L : Nat) : Int))), some (vI (0)), some (vI (((r : Nat) : Int) + 1)), some (vI (((b2 went : Nat) : Int)))]) dX8_byLines_113 rfl (Nat.le_of_ble_eq_true rfl) rfl ?_
            refine Ev.goto (tgt := 79) dX8_byLines_116 (by decide) ?_
            refine Ev.wk (pl' := [some (vR (272)), some (vI (((L : Nat) : Int))), some (vI (((b2 false : Nat) : Int))), some (vI ((((r + 1) : Nat) : Int))), none]) ⟨rfl, ⟨rfl, ⟨vIe rfl, ⟨vIe (by omega), trivial⟩⟩⟩⟩ ?_
            exact ih (r + 1) (by omega) τ2 X2 false dd2 (hF.tr g1) g2 g3 (by have e : (mm || went) = false := (by rw [b2_0.mp (show ((b2 mm : Nat) : Int) = 0 by assumption), b2_0.mp (show ((b2 went : Nat) : Int) = 0 by assumption)]; rfl); rw [e] at g4; exact g4) (fun z q hq => (Nat.lt_or_ge q r).elim (hne hd0 q) (fun e => by rw [show q = r by omega]; exact g5 z)) kk
          · skip
            refine Ev.iconst dX8_byLines_107 ?_
            refine Ev.goto (tgt := 112) dX8_byLines_108 (by decide) ?_
            refine Ev.istore_n (pl' := [some (vR (272)), some (vI (((L : Nat) : Int))), some (vI (1)), some (vI (((r : Nat) : Int))), some (vI (((b2 went : Nat) : Int)))]) dX8_byLines_112 rfl (Nat.le_of_ble_eq_true rfl) rfl ?_
            refine Ev.iinc (pl' := [some (vR (272)), some (vI (((L : Nat) : Int))), some (vI (1)), some (vI (((r : Nat) : Int) + 1)), some (vI (((b2 went : Nat) : Int)))]) dX8_byLines_113 rfl (Nat.le_of_ble_eq_true rfl) rfl ?_
            refine Ev.goto (tgt := 79) dX8_byLines_116 (by decide) ?_
            refine Ev.wk (pl' := [some (vR (272)), some (vI (((L : Nat) : Int))), some (vI (((b2 true : Nat) : Int))), some (vI ((((r + 1) : Nat) : Int))), none]) ⟨rfl, ⟨rfl, ⟨vIe rfl, ⟨vIe (by omega), trivial⟩⟩⟩⟩ ?_
            exact ih (r + 1) (by omega) τ2 X2 true dd2 (hF.tr g1) g2 g3 (by have e : (mm || went) = true := (by first | (rw [b2_ne.mp (show ((b2 mm : Nat) : Int) ≠ 0 by assumption)]; rfl) | (rw [b2_ne.mp (show ((b2 went : Nat) : Int) ≠ 0 by assumption)]; simp)); rw [e] at g4; exact g4) (fun z q hq => (Nat.lt_or_ge q r).elim (hne hd0 q) (fun e => by rw [show q = r by omega]; exact g5 z)) kk

set_option maxRecDepth 100000 in
set_option maxHeartbeats 4000000 in
theorem sM_bl3 {g : GC} (σ : Sg) (U : Nat) (hU : U ≤ 10) (T : Tb) (m : Nat) (hm : m ≤ 40) (Lf : Nat → RC) (hL : ∀ r, r < m → LR σ r (Lf r) ∧ WR U (Lf r) ∧ rK (Lf r) = 5) (X0 : Rg) (L : Nat) (hLm : L < m) : ∀ j q : Nat, q + j = 161 → ∀ (τ : Sg) (X : Rg) (mm dd : Bool), SameM σ τ → AW τ U X → τ 272 31 = (b2 dd : Int) → (dd = false → mm = false → Bare T (40, Lf, fun q => (2 ^ L - 1).testBit q = true)) → GW U T (40, Lf, fun q => (2 ^ L - 1).testBit q = true) X0 X mm dd q → Ev g mX8_byLines 64 [some (vR (272)), some (vI (((L : Nat) : Int))), some (vI (((b2 mm : Nat) : Int))), none, none] [] (M0 (τ)) 0 0 (retE (fun v τ => v = bI (¬ Alive U T (40, Lf, fun q => (2 ^ L - 1).testBit q = true) X0) ∧ SameM σ τ)) := by
  intro j
  induction j with
  | zero =>
    intro q hij τ X mm dd hF hX hd hba hgw
    refine Ev.iload_n dX8_byLines_64 rfl rfl ?_
    refine Ev.if_eq (tgt := 122) b2_inR dX8_byLines_65 (by decide) (fun h65 => ?_) (fun h65 => ?_)
    · skip
      refine Ev.aload_n dX8_byLines_122 rfl rfl ?_
      refine gf_X8_197 (x := ((b2 dd : Nat) : Int)) rfl dX8_byLines_123 ltc_272 shc_272 hd ?_
      refine Ev.if_eq (tgt := 133) b2_inR dX8_byLines_126 (by decide) (fun h126 => ?_) (fun h126 => ?_)
      · skip
        refine Ev.iconst dX8_byLines_133 ?_
        exact Ev.ireturn dX8_byLines_134 rfl (by have hE := (hgw.end hF hX hd (by first | exact fun z => hba z (b2_0.mp h65) | exact fun z => absurd (b2_ne.mp (by assumption)) (by rw [z]; decide)) (by first | exact fun _ => Or.inl (b2_0.mp h65) | exact fun z => absurd (b2_ne.mp (by assumption)) (by rw [z]; decide))); have hE2 := hd.symm.trans hE.2.1; exact rE ⟨by rw [← hE2]; rw [b2_0.mp h126]; rfl, hF⟩)
      · skip
        refine Ev.iconst dX8_byLines_129 ?_
        refine Ev.goto (tgt := 134) dX8_byLines_130 (by decide) ?_
        exact Ev.ireturn dX8_byLines_134 rfl (by have hE := (hgw.end hF hX hd (by first | exact fun z => hba z (b2_0.mp h65) | exact fun z => absurd (b2_ne.mp (by assumption)) (by rw [z]; decide)) (by first | exact fun _ => Or.inl (b2_0.mp h65) | exact fun z => absurd (b2_ne.mp (by assumption)) (by rw [z]; decide))); have hE2 := hd.symm.trans hE.2.1; exact rE ⟨by rw [← hE2]; rw [b2_ne.mp h126]; rfl, hF⟩)
    · skip
      refine Ev.aload_n dX8_byLines_68 rfl rfl ?_
      refine gf_X8_197 (x := ((b2 dd : Nat) : Int)) rfl dX8_byLines_69 ltc_272 shc_272 hd ?_
      refine Ev.if_ne (tgt := 122) b2_inR dX8_byLines_72 (by decide) (fun h72 => ?_) (fun h72 => ?_)
      · skip
        refine Ev.aload_n dX8_byLines_122 rfl rfl ?_
        refine gf_X8_197 (x := ((b2 dd : Nat) : Int)) rfl dX8_byLines_123 ltc_272 shc_272 hd ?_
        refine Ev.if_eq (tgt := 133) b2_inR dX8_byLines_126 (by decide) (fun h126 => ?_) (fun h126 => ?_)
        · skip
          refine Ev.iconst dX8_byLines_133 ?_
          exact Ev.ireturn dX8_byLines_134 rfl (by have hE := (hgw.end hF hX hd (by first | exact fun z => hba z (b2_0.mp h65) | exact fun z => absurd (b2_ne.mp (by assumption)) (by rw [z]; decide)) (by first | exact fun _ => Or.inl (b2_0.mp h65) | exact fun z => absurd (b2_ne.mp (by assumption)) (by rw [z]; decide))); have hE2 := hd.symm.trans hE.2.1; exact rE ⟨by rw [← hE2]; rw [b2_0.mp h126]; rfl, hF⟩)
        · skip
          refine Ev.iconst dX8_byLines_129 ?_
          refine Ev.goto (tgt := 134) dX8_byLines_130 (by decide) ?_
          exact Ev.ireturn dX8_byLines_134 rfl (by have hE := (hgw.end hF hX hd (by first | exact fun z => hba z (b2_0.mp h65) | exact fun z => absurd (b2_ne.mp (by assumption)) (by rw [z]; decide)) (by first | exact fun _ => Or.inl (b2_0.mp h65) | exact fun z => absurd (b2_ne.mp (by assumption)) (by rw [z]; decide))); have hE2 := hd.symm.trans hE.2.1; exact rE ⟨by rw [← hE2]; rw [b2_ne.mp h126]; rfl, hF⟩)
      · exact absurd ((hgw.2 (b2_0.mp h72)).2.1 (b2_ne.mp (by assumption))) (by omega)
  | succ j ih =>
    intro q hij τ X mm dd hF hX hd hba hgw
    refine Ev.iload_n dX8_byLines_64 rfl rfl ?_
    refine Ev.if_eq (tgt := 122) b2_inR dX8_byLines_65 (by decide) (fun h65 => ?_) (fun h65 => ?_)
    · skip
      refine Ev.aload_n dX8_byLines_122 rfl rfl ?_
      refine gf_X8_197 (x := ((b2 dd : Nat) : Int)) rfl dX8_byLines_123 ltc_272 shc_272 hd ?_
      refine Ev.if_eq (tgt := 133) b2_inR dX8_byLines_126 (by decide) (fun h126 => ?_) (fun h126 => ?_)
      · skip
        refine Ev.iconst dX8_byLines_133 ?_
        exact Ev.ireturn dX8_byLines_134 rfl (by have hE := (hgw.end hF hX hd (by first | exact fun z => hba z (b2_0.mp h65) | exact fun z => absurd (b2_ne.mp (by assumption)) (by rw [z]; decide)) (by first | exact fun _ => Or.inl (b2_0.mp h65) | exact fun z => absurd (b2_ne.mp (by assumption)) (by rw [z]; decide))); have hE2 := hd.symm.trans hE.2.1; exact rE ⟨by rw [← hE2]; rw [b2_0.mp h126]; rfl, hF⟩)
      · skip
        refine Ev.iconst dX8_byLines_129 ?_
        refine Ev.goto (tgt := 134) dX8_byLines_130 (by decide) ?_
        exact Ev.ireturn dX8_byLines_134 rfl (by have hE := (hgw.end hF hX hd (by first | exact fun z => hba z (b2_0.mp h65) | exact fun z => absurd (b2_ne.mp (by assumption)) (by rw [z]; decide)) (by first | exact fun _ => Or.inl (b2_0.mp h65) | exact fun z => absurd (b2_ne.mp (by assumption)) (by rw [z]; decide))); have hE2 := hd.symm.trans hE.2.1; exact rE ⟨by rw [← hE2]; rw [b2_ne.mp h126]; rfl, hF⟩)
    · skip
      refine Ev.aload_n dX8_byLines_68 rfl rfl ?_
      refine gf_X8_197 (x := ((b2 dd : Nat) : Int)) rfl dX8_byLines_69 ltc_272 shc_272 hd ?_
      refine Ev.if_ne (tgt := 122) b2_inR dX8_byLines_72 (by decide) (fun h72 => ?_) (fun h72 => ?_)
      · skip
        refine Ev.aload_n dX8_byLines_122 rfl rfl ?_
        refine gf_X8_197 (x := ((b2 dd : Nat) : Int)) rfl dX8_byLines_123 ltc_272 shc_272 hd ?_
        refine Ev.if_eq (tgt := 133) b2_inR dX8_byLines_126 (by decide) (fun h126 => ?_) (fun h126 => ?_)
        · skip
          refine Ev.iconst dX8_byLines_133 ?_
          exact Ev.ireturn dX8_byLines_134 rfl (by have hE := (hgw.end hF hX hd (by first | exact fun z => hba z (b2_0.mp h65) | exact fun z => absurd (b2_ne.mp (by assumption)) (by rw [z]; decide)) (by first | exact fun _ => Or.inl (b2_0.mp h65) | exact fun z => absurd (b2_ne.mp (by assumption)) (by rw [z]; decide))); have hE2 := hd.symm.trans hE.2.1; exact rE ⟨by rw [← hE2]; rw [b2_0.mp h126]; rfl, hF⟩)
        · skip
          refine Ev.iconst dX8_byLines_129 ?_
          refine Ev.goto (tgt := 134) dX8_byLines_130 (by decide) ?_
          exact Ev.ireturn dX8_byLines_134 rfl (by have hE := (hgw.end hF hX hd (by first | exact fun z => hba z (b2_0.mp h65) | exact fun z => absurd (b2_ne.mp (by assumption)) (by rw [z]; decide)) (by first | exact fun _ => Or.inl (b2_0.mp h65) | exact fun z => absurd (b2_ne.mp (by assumption)) (by rw [z]; decide))); have hE2 := hd.symm.trans hE.2.1; exact rE ⟨by rw [← hE2]; rw [b2_ne.mp h126]; rfl, hF⟩)
      · skip
        have hd0 := b2_0.mp h72
        refine Ev.iconst dX8_byLines_75 ?_
        refine Ev.istore_n (pl' := [some (vR (272)), some (vI (((L : Nat) : Int))), some (vI (0)), none, none]) dX8_byLines_76 rfl (Nat.le_of_ble_eq_true rfl) rfl ?_
        refine Ev.iconst dX8_byLines_77 ?_
        refine Ev.istore_n (pl' := [some (vR (272)), some (vI (((L : Nat) : Int))), some (vI (0)), some (vI (0)), none]) dX8_byLines_78 rfl (Nat.le_of_ble_eq_true rfl) rfl ?_
        refine Ev.wk (pl' := [some (vR (272)), some (vI (((L : Nat) : Int))), some (vI (((b2 false : Nat) : Int))), some (vI (((0 : Nat) : Int))), none]) ⟨rfl, ⟨rfl, ⟨vIe rfl, ⟨vIe rfl, trivial⟩⟩⟩⟩ ?_
        refine sM_bl2 σ U hU T m hm Lf hL X0 L hLm X L 0 (by omega) τ X false dd hF hX hd (by subst hd0; exact GS.start (hgw.2 rfl).1) (fun _ q hq => absurd hq (by omega)) (fun τ2 X2 mm2 dd2 r2 hr2 g1 g2 g3 g4 g5 => ?_)
        refine Ev.goto (tgt := 64) dX8_byLines_119 (by decide) ?_
        refine Ev.wk (pl' := [some (vR (272)), some (vI (((L : Nat) : Int))), some (vI (((b2 mm2 : Nat) : Int))), none, none]) ⟨rfl, ⟨rfl, ⟨rfl, trivial⟩⟩⟩ ?_
        exact ih (q + 1) (by omega) τ2 X2 mm2 dd2 g1 g2 g3 (fun z _ r hr hb h0 => absurd h0 (g5 z r (Nat.lt_of_lt_of_le (below_tb.mp hb) (hr2 z)))) (GW.nxt (S := (40, Lf, fun q => (2 ^ L - 1).testBit q = true)) g4 (fun z q hq hb => Nat.lt_of_lt_of_le (below_tb.mp hb) (hr2 z)) ((hgw.2 hd0).2.1 (b2_ne.mp (by assumption))))

set_option maxRecDepth 100000 in
set_option maxHeartbeats 4000000 in
theorem sM_byLines {g : GC} (σ : Sg) (U : Nat) (hU : U ≤ 10) (h1 : σ 272 1 = (U : Int)) (X0 X : Rg) (h3 : ∀ x, x < U → σ 273 x = (X0 x : Int) ∧ X0 x < 65536) (h4 : ∀ x, x < U → σ 274 x = (X x : Int) ∧ X x < 65536) (T : Tb) (m : Nat) (hm : m ≤ 40) (Lf : Nat → RC) (hL : ∀ r, r < m → LR σ r (Lf r) ∧ WR U (Lf r) ∧ rK (Lf r) = 5) (L : Nat) (hLm : L < m) : Ev g mX8_byLines 0 [some (vR (272)), some (vI (((L : Nat) : Int))), none, none, none] [] (M0 (σ)) 0 0 (retE (fun v τ => v = bI (¬ Alive U T (40, Lf, fun q => (2 ^ L - 1).testBit q = true) (cutF (Lf L) X0 (rN (Lf L)))) ∧ SameM σ τ)) := by
  refine Ev.aload_n dX8_byLines_0 rfl rfl ?_
  refine Ev.iconst dX8_byLines_1 ?_
  refine Ev.callV_G (M2 := mX8_asideAs) (args2 := [vI (1)]) (rcv := 272) (q := (RX8, TX8, 34)) (ci := 8) dX8_byLines_2 okX8_asideAs lk_X8_207 ovX8_asideAs.1.1 ovX8_asideAs.1.2 ovX8_asideAs.2 (by decide) rfl rfl ltc_272 shc_272 rfl (Nat.le_of_ble_eq_true rfl) (Nat.le_of_ble_eq_true rfl) (sM_asT σ U hU h1 X0 X h3 h4) (fun v_ m_ hp_ => ?_) rfl
  obtain ⟨τ, rfl, rfl, hFa, hXa⟩ := hp_
  have hLt := hFa.mc.lr (hL L hLm).1
  show Ev g mX8_byLines 5 [some (vR (272)), some (vI (((L : Nat) : Int))), none, none, none] [] (M0 (τ)) 0 0 _
  refine Ev.bipush (n := 6) (by decide) dX8_byLines_5 ?_
  refine Ev.iload_n dX8_byLines_7 rfl rfl ?_
  refine Ev.imul dX8_byLines_8 ?_
  refine Ev.istore_n (pl' := [some (vR (272)), some (vI (((L : Nat) : Int))), some (vI ((6 * ((L : Nat) : Int)))), none, none]) dX8_byLines_9 rfl (Nat.le_of_ble_eq_true rfl) rfl ?_
  refine Ev.wk (pl' := [some (vR (272)), some (vI (((L : Nat) : Int))), some (vI ((((6 * L + 0) : Nat) : Int))), none, none]) ⟨rfl, ⟨rfl, ⟨vIe (by omega), trivial⟩⟩⟩ ?_
  refine sM_bl_cut τ U hU L (by omega) (Lf L) (hFa.mc.lr (hL L hLm).1) (hL L hLm).2.1 (hL L hLm).2.2 X0 (rN (Lf L)) 0 (by omega) τ Same.rf hXa (fun τ3 hF3 hX3 => ?_)
  have hF3 := hFa.tr hF3
  have h1t : τ3 272 1 = (U : Int) := (congrFun (hF3 272 (by decide)) 1).trans h1
  refine Ev.aload_n dX8_byLines_54 rfl rfl ?_
  refine Ev.aload_n dX8_byLines_55 rfl rfl ?_
  refine Ev.callV_I (M2 := mX8_hasNone) (args2 := []) (rcv := 272) (q := (RX8, TX8, 34)) (ci := 8) dX8_byLines_56 okX8_hasNone lk_X8_193 ovX8_hasNone.1.1 ovX8_hasNone.1.2 ovX8_hasNone.2 (by decide) rfl rfl ltc_272 shc_272 rfl (Nat.le_of_ble_eq_true rfl) (Nat.le_of_ble_eq_true rfl) (sM_hasNone τ3 U hU h1t (cutF (Lf L) X0 (rN (Lf L))) hX3) ?_ rfl
  refine pf_X8_197 rfl dX8_byLines_59 ltc_272 shc_272 bI_or ?_
  refine Ev.iconst dX8_byLines_62 ?_
  refine Ev.istore_n (pl' := [some (vR (272)), some (vI (((L : Nat) : Int))), some (vI (1)), none, none]) dX8_byLines_63 rfl (Nat.le_of_ble_eq_true rfl) rfl ?_
  obtain ⟨d0, e0, e1⟩ := bI_b2 (p := (∃ x, x < U ∧ (cutF (Lf L) X0 (rN (Lf L))) x = 0))
  refine Ev.wk (pl' := [some (vR (272)), some (vI (((L : Nat) : Int))), some (vI (((b2 true : Nat) : Int))), none, none]) ⟨rfl, ⟨rfl, ⟨vIe rfl, trivial⟩⟩⟩ ?_
  refine Ev.mono (sM_bl3 (upC (τ3) 272 31 (bI (∃ x, x < U ∧ (cutF (Lf L) X0 (rN (Lf L))) x = 0))) U hU T m hm Lf (fun q hq => ⟨(hF3.mc.upd).lr (hL q hq).1, (hL q hq).2⟩) (cutF (Lf L) X0 (rN (Lf L))) L hLm 161 0 (by omega) (upC (τ3) 272 31 (bI (∃ x, x < U ∧ (cutF (Lf L) X0 (rN (Lf L))) x = 0))) (cutF (Lf L) X0 (rN (Lf L))) true d0 SameM.rf hX3.upd (upC_at.trans e0) (fun _ z => absurd z (by decide)) ⟨(fun z => (e1.mp z).elim fun x hz => dead_not (dead_em hz.1 hz.2)), fun z => ⟨Mid.start (fun x hx => ⟨fun q => (by rw [e1.mpr ⟨x, hx, q⟩] at z; cases z), (hX3 x hx).2⟩), fun _ => by have := totP_16 U (cutF (Lf L) X0 (rN (Lf L))); omega, fun q => absurd q (by decide)⟩⟩) (fun v m1 hp => by obtain ⟨x, ρ, p1, p2, p3, p4⟩ := hp; exact ⟨x, ρ, p1, p2, p3, (hF3.mc.upd).tr p4⟩)

