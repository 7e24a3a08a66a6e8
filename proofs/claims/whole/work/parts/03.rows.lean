/-! THE ROWS OF THE PURE MACHINE, one an instruction -/
abbrev inR (x : Int) : Prop := -2147483648 ≤ x ∧ x ≤ 2147483647
abbrev inL (x : Int) : Prop := -9223372036854775808 ≤ x ∧ x ≤ 9223372036854775807
theorem i32_toInt {x : Int} (h : inR x) : (Int32.ofInt x).toInt = x := Int32.toInt_ofInt_of_le (by have := h.1; omega) (by have := h.2; omega)
theorem i64_toInt {x : Int} (h : inL x) : (Int64.ofInt x).toInt = x := Int64.toInt_ofInt_of_le (by have := h.1; omega) (by have := h.2; omega)
theorem i32_lt {x y : Int} (hx : inR x) (hy : inR y) : Int32.ofInt x < Int32.ofInt y ↔ x < y := by rw [Int32.lt_iff_toInt_lt, i32_toInt hx, i32_toInt hy]
theorem i32_le {x y : Int} (hx : inR x) (hy : inR y) : Int32.ofInt x ≤ Int32.ofInt y ↔ x ≤ y := by rw [Int32.le_iff_toInt_le, i32_toInt hx, i32_toInt hy]
theorem i32_eq {x y : Int} (hx : inR x) (hy : inR y) : Int32.ofInt x = Int32.ofInt y ↔ x = y := by rw [← Int32.toInt_inj, i32_toInt hx, i32_toInt hy]
theorem i32_gt {x y : Int} (hx : inR x) (hy : inR y) : Int32.ofInt x > Int32.ofInt y ↔ x > y := i32_lt hy hx
theorem i32_ge {x y : Int} (hx : inR x) (hy : inR y) : Int32.ofInt x ≥ Int32.ofInt y ↔ x ≥ y := i32_le hy hx
theorem i64_lt {x y : Int} (hx : inL x) (hy : inL y) : Int64.ofInt x < Int64.ofInt y ↔ x < y := by rw [Int64.lt_iff_toInt_lt, i64_toInt hx, i64_toInt hy]
theorem i64_eq {x y : Int} (hx : inL x) (hy : inL y) : Int64.ofInt x = Int64.ofInt y ↔ x = y := by rw [← Int64.toInt_inj, i64_toInt hx, i64_toInt hy]
theorem i0 : (0 : Int32) = Int32.ofInt 0 := rfl
theorem i32_neg {x : Int} (hx : inR x) : Int32.ofInt x < 0 ↔ x < 0 := by rw [i0]; exact i32_lt hx ⟨by decide, by decide⟩
theorem i32_nat {x : Int} (h0 : 0 ≤ x) (hx : x ≤ 2147483647) : (Int32.ofInt x).toNatClampNeg = x.toNat := by
  rw [Int32.toNatClampNeg, i32_toInt ⟨by omega, hx⟩]
theorem i32_in {x : Int} {n : Nat} (h0 : 0 ≤ x) (hx : x < n) (hn : n ≤ 2147483647) : vp_in (Int32.ofInt x) n := by
  intro h
  rcases h with h | h
  · have := (i32_neg ⟨by omega, by omega⟩).mp h
    omega
  · rw [i32_nat h0 (by omega)] at h
    omega
def iAnd (x y : Int) : Int := (Int32.ofInt x &&& Int32.ofInt y).toInt
def iOr (x y : Int) : Int := (Int32.ofInt x ||| Int32.ofInt y).toInt
def iXor (x y : Int) : Int := (Int32.ofInt x ^^^ Int32.ofInt y).toInt
def iShl (x y : Int) : Int := (Int32.ofInt x <<< (Int32.ofInt y &&& 31)).toInt
def iShr (x y : Int) : Int := (Int32.ofInt x >>> (Int32.ofInt y &&& 31)).toInt
def iUshr (x y : Int) : Int := ((Int32.ofInt x).toUInt32 >>> ((Int32.ofInt y).toUInt32 &&& Int32.toUInt32 31)).toInt32.toInt
def lAnd (x y : Int) : Int := (Int64.ofInt x &&& Int64.ofInt y).toInt
def lOr (x y : Int) : Int := (Int64.ofInt x ||| Int64.ofInt y).toInt
def lXor (x y : Int) : Int := (Int64.ofInt x ^^^ Int64.ofInt y).toInt
def lShl (x y : Int) : Int := (Int64.ofInt x <<< ((Int32.ofInt y).toInt64 &&& 63)).toInt
def lShr (x y : Int) : Int := (Int64.ofInt x >>> ((Int32.ofInt y).toInt64 &&& 63)).toInt
def lUshr (x y : Int) : Int := ((Int64.ofInt x).toUInt64 >>> ((Int32.ofInt y).toInt64.toUInt64 &&& Int64.toUInt64 63)).toInt64.toInt
def lCmp (x y : Int) : Int := if y < x then 1 else if x = y then 0 else -1
theorem cvI {g : GC} (v : Int32) : cv g (vI v.toInt) = .int v := by simp [cv]
theorem cvL {g : GC} (v : Int64) : cv g (vL v.toInt) = .long v := by simp [cv]
/-- two-slot values -/
def isL : Option PV → Bool
  | some (.inr (.inl _)) => true
  | _ => false
def clr (o : Option PV) : Option PV := if isL o then none else o
def st1 (pl : List (Option PV)) (i : Nat) (v : PV) : List (Option PV) := (if i = 0 then pl else pl.modify (i - 1) clr).set i (some v)
def st2 (pl : List (Option PV)) (i : Nat) (v : PV) : List (Option PV) := ((if i = 0 then pl else pl.modify (i - 1) clr).set (i + 1) none).set i (some v)
theorem cat_isL {g : GC} (v : PV) : (cv g v).category = 2 ↔ isL (some v) = true := by
  rcases v with x | x | x | x
  · simp [cv, Value.category, isL]
  · simp [cv, Value.category, isL]
  · simp [cv, Value.category, isL]
  · cases x <;> simp [cv, Value.category, isL, va_rf]
section EV
variable {g : GC} {M : MD} {pc : Nat} {pl : List (Option PV)} {st : List PV} {m : Mem} {nc ns : Nat} {Post : Option PV → Mem → Prop}
theorem st1_facts {i : Nat} {v : PV} {q : Nat × Value} (h : q ∈ facts g (st1 pl i v)) : q ∈ (i, cv g v) :: (facts g pl).filter (fun q => !(q.1 == i) && !(q.1 + 1 == i && q.2.category == 2)) := by
  obtain ⟨w, h1, h2⟩ := facts_mem.mp h
  obtain ⟨k, qv⟩ := q
  dsimp only at h1 h2
  subst h2
  by_cases hk : k = i
  · subst hk
    unfold st1 at h1
    rw [List.getElem?_set_self'] at h1
    cases hh : ((if k = 0 then pl else pl.modify (k - 1) clr)[k]?) with
    | none => rw [hh] at h1; cases h1
    | some o => rw [hh] at h1; cases h1; exact List.mem_cons_self
  · refine List.mem_cons_of_mem _ (List.mem_filter.mpr ⟨?_, ?_⟩)
    · refine facts_mem.mpr ⟨w, ?_, rfl⟩
      unfold st1 at h1
      rw [List.getElem?_set_ne (fun h => hk h.symm)] at h1
      split at h1
      · exact h1
      · rw [List.getElem?_modify] at h1
        cases ho : pl[k]? with
        | none => rw [ho] at h1; simp at h1
        | some o =>
          rw [ho] at h1
          by_cases hki : i - 1 = k
          · simp only [hki, if_true, Option.map_eq_map, Option.map_some, Option.some.injEq, clr] at h1
            split at h1
            · cases h1
            · simp [ho, h1]
          · simp only [hki, if_false, Option.map_eq_map, Option.map_some, Option.some.injEq] at h1
            simp [ho, h1]
    · simp only [Bool.and_eq_true, Bool.not_eq_true', beq_eq_false_iff_ne, ne_eq, hk, not_false_eq_true, true_and, Bool.and_eq_false_iff]
      by_cases hki : k + 1 = i
      · right
        intro hc
        rw [cat_isL] at hc
        unfold st1 at h1
        rw [List.getElem?_set_ne (fun h => hk h.symm), if_neg (by omega), List.getElem?_modify] at h1
        cases ho : pl[k]? with
        | none => rw [ho] at h1; simp at h1
        | some o =>
          rw [ho] at h1
          have hik : i - 1 = k := by omega
          simp only [hik, if_true, Option.map_eq_map, Option.map_some, Option.some.injEq, clr] at h1
          split at h1
          · cases h1
          · rename_i hx
            rw [h1] at hx
            exact hx hc
      · exact Or.inl hki
theorem st2_facts {i : Nat} {v : PV} {q : Nat × Value} (h : q ∈ facts g (st2 pl i v)) : q ∈ (i, cv g v) :: (facts g pl).filter (fun q => !(q.1 == i) && (!(q.1 == i + 1) && !(q.1 + 1 == i && q.2.category == 2))) := by
  have h' : q ∈ facts g (st1 pl i v) ∧ q.1 ≠ i + 1 := by
    obtain ⟨w, h1, h2⟩ := facts_mem.mp h
    unfold st2 at h1
    by_cases hk : q.1 = i
    · rw [hk, List.getElem?_set_self'] at h1
      refine ⟨facts_mem.mpr ⟨w, ?_, h2⟩, by omega⟩
      unfold st1
      rw [hk, List.getElem?_set_self']
      rw [List.getElem?_set_ne (by omega)] at h1
      exact h1
    · rw [List.getElem?_set_ne (fun h => hk h.symm)] at h1
      by_cases hk2 : q.1 = i + 1
      · rw [hk2, List.getElem?_set_self'] at h1
        cases hh : ((if i = 0 then pl else pl.modify (i - 1) clr)[i + 1]?) with
        | none => rw [hh] at h1; cases h1
        | some o => rw [hh] at h1; cases h1
      · rw [List.getElem?_set_ne (fun h => hk2 h.symm)] at h1
        refine ⟨facts_mem.mpr ⟨w, ?_, h2⟩, hk2⟩
        unfold st1
        rw [List.getElem?_set_ne (fun h => hk h.symm)]
        exact h1
  rcases List.mem_cons.mp (st1_facts h'.1) with h1 | h1
  · exact List.mem_cons.mpr (Or.inl h1)
  · refine List.mem_cons_of_mem _ (List.mem_filter.mpr ⟨(List.mem_filter.mp h1).1, ?_⟩)
    have h2 := (List.mem_filter.mp h1).2
    have h3 : (q.1 == i + 1) = false := by simp [h'.2]
    simp only [h3]
    simpa using h2
/-- a step that changes locals -/
theorem Ev.lstp {pc' : Nat} {pl' : List (Option PV)} {st' : List PV} (h : ∀ (p : Program) (e : Env) (R : Room) (s : State) (mi : MethodId) (args : Array Value) (below : List Frame) (meth : Method) (c : Code), Cx g M p R s mi args meth c →
    ∀ (H : Heap) (locs : List Loc) (cells slots : Nat) (ls : Array Slot) (Q : State → Prop), lv_has ls M.2.2.1 (facts g pl) → (∀ ls', lv_has ls' M.2.2.1 (facts g pl') → W p g.1 e R s mi args below meth c H locs cells slots Q (F0 mi pc' ls' (st'.map (cv g)))) → W p g.1 e R s mi args below meth c H locs cells slots Q (F0 mi pc ls (st.map (cv g))))
    (k : Ev g M pc' pl' st' m nc ns Post) : Ev g M pc pl st m nc ns Post := by
  intro p e R s mi args below meth c C H locs cells slots ls Q hc hs' hR hS hl hk
  exact h p e R s mi args below meth c C H locs cells slots ls Q hl fun ls' hl' => k p e R s mi args below meth c C H locs cells slots ls' Q hc hs' hR hS hl' hk
theorem Ev.iconst {n : Int} (hd : decode M.2.1 pc = .ok (.iconst n, 1)) (k : Ev g M (pc + 1) pl (vI n :: st) m nc ns Post) : Ev g M pc pl st m nc ns Post := by
  refine Ev.stp (fun p e R s mi args below meth c C H locs cells slots ls Q hR hS hl kk => ?_) k
  exact lv_iconst C.1 C.2.1 hd rfl kk
theorem Ev.bipush {n : Int} (hv : (Int8.ofInt n).toInt32 = Int32.ofInt n) (hd : decode M.2.1 pc = .ok (.bipush n, 2)) (k : Ev g M (pc + 2) pl (vI n :: st) m nc ns Post) : Ev g M pc pl st m nc ns Post := by
  refine Ev.stp (fun p e R s mi args below meth c C H locs cells slots ls Q hR hS hl kk => ?_) k
  exact lv_bipush C.1 C.2.1 hd hv kk
theorem Ev.sipush {n : Int} (hv : (Int16.ofInt n).toInt32 = Int32.ofInt n) (hd : decode M.2.1 pc = .ok (.sipush n, 3)) (k : Ev g M (pc + 3) pl (vI n :: st) m nc ns Post) : Ev g M pc pl st m nc ns Post := by
  refine Ev.stp (fun p e R s mi args below meth c C H locs cells slots ls Q hR hS hl kk => ?_) k
  exact lv_sipush C.1 C.2.1 hd hv kk
theorem Ev.ldc {i : Nat} {n : Int} (hw : Cond.constant M.1.cls i (Int32.ofInt n) ∈ lw_tbl) (hd : decode M.2.1 pc = .ok (.ldc i, 2)) (k : Ev g M (pc + 2) pl (vI n :: st) m nc ns Post) : Ev g M pc pl st m nc ns Post := by
  refine Ev.stp (fun p e R s mi args below meth c C H locs cells slots ls Q hR hS hl kk => ?_) k
  exact lv_ldc C.1 C.2.1 C.2.2.2.1 (C.2.2.2.2.1 _ (GT_mem hw rfl)) hd kk
theorem Ev.ldcw {i : Nat} {n : Int} (hw : Cond.constant M.1.cls i (Int32.ofInt n) ∈ lw_tbl) (hd : decode M.2.1 pc = .ok (.ldc_w i, 3)) (k : Ev g M (pc + 3) pl (vI n :: st) m nc ns Post) : Ev g M pc pl st m nc ns Post := by
  refine Ev.stp (fun p e R s mi args below meth c C H locs cells slots ls Q hR hS hl kk => ?_) k
  exact lv_ldcw C.1 C.2.1 C.2.2.2.1 (C.2.2.2.2.1 _ (GT_mem hw rfl)) hd kk
theorem Ev.ldc2 {i : Nat} {n : Int} (hw : Cond.constantLong M.1.cls i (Int64.ofInt n) ∈ lw_tbl) (hd : decode M.2.1 pc = .ok (.ldc2_w i, 3)) (k : Ev g M (pc + 3) pl (vL n :: st) m nc ns Post) : Ev g M pc pl st m nc ns Post := by
  refine Ev.stp (fun p e R s mi args below meth c C H locs cells slots ls Q hR hS hl kk => ?_) k
  exact lv_ldc2 C.1 C.2.1 C.2.2.2.1 (C.2.2.2.2.1 _ (GT_mem hw rfl)) hd kk
theorem Ev.lconst {n : Fin 2} (x : Int) (hx : Int64.ofInt x = Int64.ofNat n.val) (hd : decode M.2.1 pc = .ok (.lconst n, 1)) (k : Ev g M (pc + 1) pl (vL x :: st) m nc ns Post) : Ev g M pc pl st m nc ns Post := by
  refine Ev.stp (fun p e R s mi args below meth c C H locs cells slots ls Q hR hS hl kk => ?_) k
  exact lv_lconst C.1 C.2.1 hd hx.symm kk
theorem Ev.iload_n {k : Fin 4} {i : Nat} {x : Int} (hd : decode M.2.1 pc = .ok (.iload_n k, 1)) (hi : (k : Nat) = i) (hv : pl[i]? = some (some (vI x))) (kk : Ev g M (pc + 1) pl (vI x :: st) m nc ns Post) : Ev g M pc pl st m nc ns Post :=
  Ev.stp (fun p e R s mi args below meth c C H locs cells slots ls Q hR hS hl kk => lv_iload_n C.1 C.2.1 hd hi (lo_at hl hv) kk) kk
theorem Ev.iload {i : Nat} {x : Int} (hd : decode M.2.1 pc = .ok (.iload i, 2)) (hv : pl[i]? = some (some (vI x))) (kk : Ev g M (pc + 2) pl (vI x :: st) m nc ns Post) : Ev g M pc pl st m nc ns Post :=
  Ev.stp (fun p e R s mi args below meth c C H locs cells slots ls Q hR hS hl kk => lv_iload C.1 C.2.1 hd (lo_at hl hv) kk) kk
theorem Ev.lload_n {k : Fin 4} {i : Nat} {x : Int} (hd : decode M.2.1 pc = .ok (.lload_n k, 1)) (hi : (k : Nat) = i) (hv : pl[i]? = some (some (vL x))) (kk : Ev g M (pc + 1) pl (vL x :: st) m nc ns Post) : Ev g M pc pl st m nc ns Post :=
  Ev.stp (fun p e R s mi args below meth c C H locs cells slots ls Q hR hS hl kk => lv_lload_n C.1 C.2.1 hd hi (lo_at hl hv) kk) kk
theorem Ev.lload {i : Nat} {x : Int} (hd : decode M.2.1 pc = .ok (.lload i, 2)) (hv : pl[i]? = some (some (vL x))) (kk : Ev g M (pc + 2) pl (vL x :: st) m nc ns Post) : Ev g M pc pl st m nc ns Post :=
  Ev.stp (fun p e R s mi args below meth c C H locs cells slots ls Q hR hS hl kk => lv_lload C.1 C.2.1 hd (lo_at hl hv) kk) kk
theorem Ev.aload_n {k : Fin 4} {i : Nat} {c : Nat} (hd : decode M.2.1 pc = .ok (.aload_n k, 1)) (hi : (k : Nat) = i) (hv : pl[i]? = some (some (vR c))) (kk : Ev g M (pc + 1) pl (vR c :: st) m nc ns Post) : Ev g M pc pl st m nc ns Post :=
  Ev.stp (fun p e R s mi args below meth c C H locs cells slots ls Q hR hS hl kk => lv_aload_n C.1 C.2.1 hd hi (lo_at hl hv) kk) kk
theorem Ev.aload {i : Nat} {c : Nat} (hd : decode M.2.1 pc = .ok (.aload i, 2)) (hv : pl[i]? = some (some (vR c))) (kk : Ev g M (pc + 2) pl (vR c :: st) m nc ns Post) : Ev g M pc pl st m nc ns Post :=
  Ev.stp (fun p e R s mi args below meth c C H locs cells slots ls Q hR hS hl kk => lv_aload C.1 C.2.1 hd (lo_at hl hv) kk) kk
theorem Ev.aloadS {k : Fin 4} {i : Nat} (hd : decode M.2.1 pc = .ok (.aload_n k, 1)) (hi : (k : Nat) = i) (hv : pl[i]? = some (some vS)) (kk : Ev g M (pc + 1) pl (vS :: st) m nc ns Post) : Ev g M pc pl st m nc ns Post :=
  Ev.stp (fun p e R s mi args below meth c C H locs cells slots ls Q hR hS hl kk => lv_aload_n C.1 C.2.1 hd hi (lo_at hl hv) kk) kk
theorem Ev.istore {i : Nat} {x : Int} {pl' : List (Option PV)} (hd : decode M.2.1 pc = .ok (.istore i, 2)) (hi : i < M.2.2.1) (hp : st1 pl i (vI x) = pl') (k : Ev g M (pc + 2) pl' st m nc ns Post) : Ev g M pc pl (vI x :: st) m nc ns Post := by
  subst hp
  exact Ev.lstp (fun p e R s mi args below meth c C H locs cells slots ls Q hl kk => lv_istore C.1 C.2.1 hd hl hi rfl fun ls' hl' => kk ls' (lv_mono hl' fun q hq => st1_facts hq)) k
theorem Ev.istore_n {i : Nat} {j : Fin 4} {x : Int} {pl' : List (Option PV)} (hd : decode M.2.1 pc = .ok (.istore_n j, 1)) (hj : (j : Nat) = i) (hi : i < M.2.2.1) (hp : st1 pl i (vI x) = pl') (k : Ev g M (pc + 1) pl' st m nc ns Post) : Ev g M pc pl (vI x :: st) m nc ns Post := by
  subst hp
  exact Ev.lstp (fun p e R s mi args below meth c C H locs cells slots ls Q hl kk => lv_istore_n C.1 C.2.1 hd hj hl hi rfl fun ls' hl' => kk ls' (lv_mono hl' fun q hq => st1_facts hq)) k
theorem Ev.astore {i : Nat} {x : Nat} {pl' : List (Option PV)} (hd : decode M.2.1 pc = .ok (.astore i, 2)) (hi : i < M.2.2.1) (hp : st1 pl i (vR x) = pl') (k : Ev g M (pc + 2) pl' st m nc ns Post) : Ev g M pc pl (vR x :: st) m nc ns Post := by
  subst hp
  exact Ev.lstp (fun p e R s mi args below meth c C H locs cells slots ls Q hl kk => lv_astore C.1 C.2.1 hd hl hi rfl fun ls' hl' => kk ls' (lv_mono hl' fun q hq => st1_facts hq)) k
theorem Ev.astore_n {i : Nat} {j : Fin 4} {x : Nat} {pl' : List (Option PV)} (hd : decode M.2.1 pc = .ok (.astore_n j, 1)) (hj : (j : Nat) = i) (hi : i < M.2.2.1) (hp : st1 pl i (vR x) = pl') (k : Ev g M (pc + 1) pl' st m nc ns Post) : Ev g M pc pl (vR x :: st) m nc ns Post := by
  subst hp
  exact Ev.lstp (fun p e R s mi args below meth c C H locs cells slots ls Q hl kk => lv_astore_n C.1 C.2.1 hd hj hl hi rfl fun ls' hl' => kk ls' (lv_mono hl' fun q hq => st1_facts hq)) k
theorem Ev.lstore {i : Nat} {x : Int} {pl' : List (Option PV)} (hd : decode M.2.1 pc = .ok (.lstore i, 2)) (hi : i + 1 < M.2.2.1) (hp : st2 pl i (vL x) = pl') (k : Ev g M (pc + 2) pl' st m nc ns Post) : Ev g M pc pl (vL x :: st) m nc ns Post := by
  subst hp
  exact Ev.lstp (fun p e R s mi args below meth c C H locs cells slots ls Q hl kk => lv_lstore C.1 C.2.1 hd hl hi rfl fun ls' hl' => kk ls' (lv_mono hl' fun q hq => st2_facts hq)) k
theorem Ev.lstore_n {i : Nat} {j : Fin 4} {x : Int} {pl' : List (Option PV)} (hd : decode M.2.1 pc = .ok (.lstore_n j, 1)) (hj : (j : Nat) = i) (hi : i + 1 < M.2.2.1) (hp : st2 pl i (vL x) = pl') (k : Ev g M (pc + 1) pl' st m nc ns Post) : Ev g M pc pl (vL x :: st) m nc ns Post := by
  subst hp
  exact Ev.lstp (fun p e R s mi args below meth c C H locs cells slots ls Q hl kk => lv_lstore_n C.1 C.2.1 hd hj hl hi rfl fun ls' hl' => kk ls' (lv_mono hl' fun q hq => st2_facts hq)) k
theorem Ev.iinc {i : Nat} {n x : Int} {pl' : List (Option PV)} (hd : decode M.2.1 pc = .ok (.iinc i n, 3)) (hv : pl[i]? = some (some (vI x))) (hi : i < M.2.2.1) (hp : st1 pl i (vI (x + n)) = pl') (k : Ev g M (pc + 3) pl' st m nc ns Post) : Ev g M pc pl st m nc ns Post := by
  subst hp
  refine Ev.lstp (fun p e R s mi args below meth c C H locs cells slots ls Q hl kk => ?_) k
  obtain ⟨q, hq⟩ := List.getElem?_of_mem (facts_mem (g := g) (pl := pl) (q := (i, cv g (vI x))) |>.mpr ⟨_, hv, rfl⟩)
  exact lv_iinc C.1 C.2.1 hd hl hq (v := Int32.ofInt (x + n)) (by rw [Int32.ofInt_add]) hi rfl fun ls' hl' => kk ls' (lv_mono hl' fun q hq => st1_facts hq)
theorem Ev.iadd {x y : Int} (hd : decode M.2.1 pc = .ok (.iadd, 1)) (k : Ev g M (pc + 1) pl (vI (x + y) :: st) m nc ns Post) : Ev g M pc pl (vI y :: vI x :: st) m nc ns Post := by
  refine Ev.stp (fun p e R s mi args below meth c C H locs cells slots ls Q hR hS hl kk => ?_) k
  refine lv_iadd C.1 C.2.1 hd ?_
  rw [← Int32.ofInt_add]
  exact kk
theorem Ev.isub {x y : Int} (hd : decode M.2.1 pc = .ok (.isub, 1)) (k : Ev g M (pc + 1) pl (vI (x - y) :: st) m nc ns Post) : Ev g M pc pl (vI y :: vI x :: st) m nc ns Post := by
  refine Ev.stp (fun p e R s mi args below meth c C H locs cells slots ls Q hR hS hl kk => ?_) k
  refine lv_isub C.1 C.2.1 hd ?_
  rw [← Int32.ofInt_sub]
  exact kk
theorem Ev.imul {x y : Int} (hd : decode M.2.1 pc = .ok (.imul, 1)) (k : Ev g M (pc + 1) pl (vI (x * y) :: st) m nc ns Post) : Ev g M pc pl (vI y :: vI x :: st) m nc ns Post := by
  refine Ev.stp (fun p e R s mi args below meth c C H locs cells slots ls Q hR hS hl kk => ?_) k
  refine lv_imul C.1 C.2.1 hd ?_
  rw [← Int32.ofInt_mul]
  exact kk
theorem Ev.ladd {x y : Int} (hd : decode M.2.1 pc = .ok (.ladd, 1)) (k : Ev g M (pc + 1) pl (vL (x + y) :: st) m nc ns Post) : Ev g M pc pl (vL y :: vL x :: st) m nc ns Post := by
  refine Ev.stp (fun p e R s mi args below meth c C H locs cells slots ls Q hR hS hl kk => ?_) k
  refine lv_ladd C.1 C.2.1 hd ?_
  rw [← Int64.ofInt_add]
  exact kk
theorem Ev.lsub {x y : Int} (hd : decode M.2.1 pc = .ok (.lsub, 1)) (k : Ev g M (pc + 1) pl (vL (x - y) :: st) m nc ns Post) : Ev g M pc pl (vL y :: vL x :: st) m nc ns Post := by
  refine Ev.stp (fun p e R s mi args below meth c C H locs cells slots ls Q hR hS hl kk => ?_) k
  refine lv_lsub C.1 C.2.1 hd ?_
  rw [← Int64.ofInt_sub]
  exact kk
theorem Ev.lmul {x y : Int} (hd : decode M.2.1 pc = .ok (.lmul, 1)) (k : Ev g M (pc + 1) pl (vL (x * y) :: st) m nc ns Post) : Ev g M pc pl (vL y :: vL x :: st) m nc ns Post := by
  refine Ev.stp (fun p e R s mi args below meth c C H locs cells slots ls Q hR hS hl kk => ?_) k
  refine lv_lmul C.1 C.2.1 hd ?_
  rw [← Int64.ofInt_mul]
  exact kk
theorem Ev.ineg {x : Int} (hd : decode M.2.1 pc = .ok (.ineg, 1)) (k : Ev g M (pc + 1) pl (vI (-x) :: st) m nc ns Post) : Ev g M pc pl (vI x :: st) m nc ns Post := by
  refine Ev.stp (fun p e R s mi args below meth c C H locs cells slots ls Q hR hS hl kk => ?_) k
  refine lv_ineg C.1 C.2.1 hd ?_
  rw [← Int32.ofInt_neg]
  exact kk
theorem Ev.iand {x y : Int} (hd : decode M.2.1 pc = .ok (.iand, 1)) (k : Ev g M (pc + 1) pl (vI (iAnd x y) :: st) m nc ns Post) : Ev g M pc pl (vI y :: vI x :: st) m nc ns Post := by
  refine Ev.stp (fun p e R s mi args below meth c C H locs cells slots ls Q hR hS hl kk => ?_) k
  refine lv_iand C.1 C.2.1 hd ?_
  rw [← cvI (g := g)]
  exact kk
theorem Ev.ior {x y : Int} (hd : decode M.2.1 pc = .ok (.ior, 1)) (k : Ev g M (pc + 1) pl (vI (iOr x y) :: st) m nc ns Post) : Ev g M pc pl (vI y :: vI x :: st) m nc ns Post := by
  refine Ev.stp (fun p e R s mi args below meth c C H locs cells slots ls Q hR hS hl kk => ?_) k
  refine lv_ior C.1 C.2.1 hd ?_
  rw [← cvI (g := g)]
  exact kk
theorem Ev.ixor {x y : Int} (hd : decode M.2.1 pc = .ok (.ixor, 1)) (k : Ev g M (pc + 1) pl (vI (iXor x y) :: st) m nc ns Post) : Ev g M pc pl (vI y :: vI x :: st) m nc ns Post := by
  refine Ev.stp (fun p e R s mi args below meth c C H locs cells slots ls Q hR hS hl kk => ?_) k
  refine lv_ixor C.1 C.2.1 hd ?_
  rw [← cvI (g := g)]
  exact kk
theorem Ev.ishl {x y : Int} (hd : decode M.2.1 pc = .ok (.ishl, 1)) (k : Ev g M (pc + 1) pl (vI (iShl x y) :: st) m nc ns Post) : Ev g M pc pl (vI y :: vI x :: st) m nc ns Post := by
  refine Ev.stp (fun p e R s mi args below meth c C H locs cells slots ls Q hR hS hl kk => ?_) k
  refine lv_ishl C.1 C.2.1 hd ?_
  rw [← cvI (g := g)]
  exact kk
theorem Ev.ishr {x y : Int} (hd : decode M.2.1 pc = .ok (.ishr, 1)) (k : Ev g M (pc + 1) pl (vI (iShr x y) :: st) m nc ns Post) : Ev g M pc pl (vI y :: vI x :: st) m nc ns Post := by
  refine Ev.stp (fun p e R s mi args below meth c C H locs cells slots ls Q hR hS hl kk => ?_) k
  refine lv_ishr C.1 C.2.1 hd ?_
  rw [← cvI (g := g)]
  exact kk
theorem Ev.iushr {x y : Int} (hd : decode M.2.1 pc = .ok (.iushr, 1)) (k : Ev g M (pc + 1) pl (vI (iUshr x y) :: st) m nc ns Post) : Ev g M pc pl (vI y :: vI x :: st) m nc ns Post := by
  refine Ev.stp (fun p e R s mi args below meth c C H locs cells slots ls Q hR hS hl kk => ?_) k
  refine lv_iushr C.1 C.2.1 hd rfl ?_
  rw [← cvI (g := g)]
  exact kk
theorem Ev.land {x y : Int} (hd : decode M.2.1 pc = .ok (.land, 1)) (k : Ev g M (pc + 1) pl (vL (lAnd x y) :: st) m nc ns Post) : Ev g M pc pl (vL y :: vL x :: st) m nc ns Post := by
  refine Ev.stp (fun p e R s mi args below meth c C H locs cells slots ls Q hR hS hl kk => ?_) k
  refine lv_land C.1 C.2.1 hd ?_
  rw [← cvL (g := g)]
  exact kk
theorem Ev.lor {x y : Int} (hd : decode M.2.1 pc = .ok (.lor, 1)) (k : Ev g M (pc + 1) pl (vL (lOr x y) :: st) m nc ns Post) : Ev g M pc pl (vL y :: vL x :: st) m nc ns Post := by
  refine Ev.stp (fun p e R s mi args below meth c C H locs cells slots ls Q hR hS hl kk => ?_) k
  refine lv_lor C.1 C.2.1 hd ?_
  rw [← cvL (g := g)]
  exact kk
theorem Ev.lxor {x y : Int} (hd : decode M.2.1 pc = .ok (.lxor, 1)) (k : Ev g M (pc + 1) pl (vL (lXor x y) :: st) m nc ns Post) : Ev g M pc pl (vL y :: vL x :: st) m nc ns Post := by
  refine Ev.stp (fun p e R s mi args below meth c C H locs cells slots ls Q hR hS hl kk => ?_) k
  refine lv_lxor C.1 C.2.1 hd ?_
  rw [← cvL (g := g)]
  exact kk
theorem Ev.lshl {x y : Int} (hd : decode M.2.1 pc = .ok (.lshl, 1)) (k : Ev g M (pc + 1) pl (vL (lShl x y) :: st) m nc ns Post) : Ev g M pc pl (vI y :: vL x :: st) m nc ns Post := by
  refine Ev.stp (fun p e R s mi args below meth c C H locs cells slots ls Q hR hS hl kk => ?_) k
  refine lv_lshl C.1 C.2.1 hd rfl ?_
  rw [← cvL (g := g)]
  exact kk
theorem Ev.lshr {x y : Int} (hd : decode M.2.1 pc = .ok (.lshr, 1)) (k : Ev g M (pc + 1) pl (vL (lShr x y) :: st) m nc ns Post) : Ev g M pc pl (vI y :: vL x :: st) m nc ns Post := by
  refine Ev.stp (fun p e R s mi args below meth c C H locs cells slots ls Q hR hS hl kk => ?_) k
  refine lv_lshr C.1 C.2.1 hd rfl ?_
  rw [← cvL (g := g)]
  exact kk
theorem Ev.lushr {x y : Int} (hd : decode M.2.1 pc = .ok (.lushr, 1)) (k : Ev g M (pc + 1) pl (vL (lUshr x y) :: st) m nc ns Post) : Ev g M pc pl (vI y :: vL x :: st) m nc ns Post := by
  refine Ev.stp (fun p e R s mi args below meth c C H locs cells slots ls Q hR hS hl kk => ?_) k
  refine lv_lushr C.1 C.2.1 hd rfl ?_
  rw [← cvL (g := g)]
  exact kk
theorem Ev.i2l {x : Int} (hx : inR x) (hd : decode M.2.1 pc = .ok (.i2l, 1)) (k : Ev g M (pc + 1) pl (vL x :: st) m nc ns Post) : Ev g M pc pl (vI x :: st) m nc ns Post := by
  refine Ev.stp (fun p e R s mi args below meth c C H locs cells slots ls Q hR hS hl kk => ?_) k
  exact lv_i2l C.1 C.2.1 hd (by rw [← Int64.ofInt_int32ToInt, i32_toInt hx]) kk
theorem Ev.l2i {x : Int} (hd : decode M.2.1 pc = .ok (.l2i, 1)) (k : Ev g M (pc + 1) pl (vI x :: st) m nc ns Post) : Ev g M pc pl (vL x :: st) m nc ns Post := by
  refine Ev.stp (fun p e R s mi args below meth c C H locs cells slots ls Q hR hS hl kk => ?_) k
  exact lv_l2i C.1 C.2.1 hd (by simp) kk
theorem Ev.lcmp {x y : Int} (hx : inL x) (hy : inL y) (hd : decode M.2.1 pc = .ok (.lcmp, 1)) (k : Ev g M (pc + 1) pl (vI (lCmp x y) :: st) m nc ns Post) : Ev g M pc pl (vL y :: vL x :: st) m nc ns Post := by
  refine Ev.stp (fun p e R s mi args below meth c C H locs cells slots ls Q hR hS hl kk => ?_) k
  refine W.lcmp C.1 C.2.1 hd ?_
  have e : lg_cmp (Int64.ofInt x) (Int64.ofInt y) = Int32.ofInt (lCmp x y) := by
    unfold lg_cmp lCmp
    simp only [gt_iff_lt, i64_lt hy hx, i64_eq hx hy]
    split
    · rfl
    · split <;> rfl
  rw [e]
  exact kk
theorem Ev.idiv {x y : Int} (h0 : 0 ≤ x) (hx : x ≤ 2147483647) (h1 : 0 < y) (hy : y ≤ 2147483647) (hd : decode M.2.1 pc = .ok (.idiv, 1)) (k : Ev g M (pc + 1) pl (vI (x / y) :: st) m nc ns Post) : Ev g M pc pl (vI y :: vI x :: st) m nc ns Post := by
  refine Ev.stp (fun p e R s mi args below meth c C H locs cells slots ls Q hR hS hl kk => ?_) k
  have hne : ¬ Int32.ofInt y = 0 := by
    rw [i0, i32_eq ⟨by omega, hy⟩ ⟨by decide, by decide⟩]
    omega
  refine lv_idiv C.1 C.2.1 hd hne ?_
  have e : Int32.ofInt x / Int32.ofInt y = Int32.ofInt (x / y) := by
    obtain ⟨a, rfl⟩ := Int.eq_ofNat_of_zero_le h0
    obtain ⟨b, rfl⟩ := Int.eq_ofNat_of_zero_le (Int.le_of_lt h1)
    exact pk_div (a := a) (d := b) (by omega) (by omega) (by omega)
  rw [e]
  exact kk
theorem Ev.dupI {x : Int} (hd : decode M.2.1 pc = .ok (.dup, 1)) (k : Ev g M (pc + 1) pl (vI x :: vI x :: st) m nc ns Post) : Ev g M pc pl (vI x :: st) m nc ns Post := by
  refine Ev.stp (fun p e R s mi args below meth c C H locs cells slots ls Q hR hS hl kk => ?_) k
  exact lv_dup C.1 C.2.1 hd rfl kk
theorem Ev.dupR {x : Nat} (hd : decode M.2.1 pc = .ok (.dup, 1)) (k : Ev g M (pc + 1) pl (vR x :: vR x :: st) m nc ns Post) : Ev g M pc pl (vR x :: st) m nc ns Post := by
  refine Ev.stp (fun p e R s mi args below meth c C H locs cells slots ls Q hR hS hl kk => ?_) k
  exact lv_dup C.1 C.2.1 hd rfl kk
theorem Ev.dup2RI {x : Nat} {y : Int} (hd : decode M.2.1 pc = .ok (.dup2, 1)) (k : Ev g M (pc + 1) pl (vI y :: vR x :: vI y :: vR x :: st) m nc ns Post) : Ev g M pc pl (vI y :: vR x :: st) m nc ns Post := by
  refine Ev.stp (fun p e R s mi args below meth c C H locs cells slots ls Q hR hS hl kk => ?_) k
  exact lv_dup2_11 C.1 C.2.1 hd rfl rfl kk
theorem Ev.dup2L {x : Int} (hd : decode M.2.1 pc = .ok (.dup2, 1)) (k : Ev g M (pc + 1) pl (vL x :: vL x :: st) m nc ns Post) : Ev g M pc pl (vL x :: st) m nc ns Post := by
  refine Ev.stp (fun p e R s mi args below meth c C H locs cells slots ls Q hR hS hl kk => ?_) k
  exact lv_dup2_2 C.1 C.2.1 hd rfl kk
theorem Ev.popI {x : Int} (hd : decode M.2.1 pc = .ok (.pop, 1)) (k : Ev g M (pc + 1) pl st m nc ns Post) : Ev g M pc pl (vI x :: st) m nc ns Post := by
  refine Ev.stp (fun p e R s mi args below meth c C H locs cells slots ls Q hR hS hl kk => ?_) k
  exact lv_pop C.1 C.2.1 hd rfl kk
theorem Ev.icmp_eq {x y : Int} (hx : inR x) (hy : inR y) {off : Int} {tgt : Nat} (hd : decode M.2.1 pc = .ok (.if_icmp .eq off, 3)) (ht : (pc : Int) + off = (tgt : Int)) (kt : (x = y) → Ev g M tgt pl st m nc ns Post) (kf : ¬ (x = y) → Ev g M (pc + 3) pl st m nc ns Post) : Ev g M pc pl (vI y :: vI x :: st) m nc ns Post := by
  intro p e R s mi args below meth c C H locs cells slots ls Q hc hs' hR hS hl hk
  exact lv_icmp_eq C.1 C.2.1 hd ht (fun h => kt (((i32_eq hx hy).mp h)) p e R s mi args below meth c C H locs cells slots ls Q hc hs' hR hS hl hk) (fun h => kf (fun z => h ((i32_eq hx hy).mpr z)) p e R s mi args below meth c C H locs cells slots ls Q hc hs' hR hS hl hk)
theorem Ev.if_eq {x : Int} (hx : inR x) {off : Int} {tgt : Nat} (hd : decode M.2.1 pc = .ok (.ifCond .eq off, 3)) (ht : (pc : Int) + off = (tgt : Int)) (kt : (x = 0) → Ev g M tgt pl st m nc ns Post) (kf : ¬ (x = 0) → Ev g M (pc + 3) pl st m nc ns Post) : Ev g M pc pl (vI x :: st) m nc ns Post := by
  intro p e R s mi args below meth c C H locs cells slots ls Q hc hs' hR hS hl hk
  exact lv_if_eq C.1 C.2.1 hd ht (fun h => kt (((i32_eq hx ⟨by decide, by decide⟩).mp h)) p e R s mi args below meth c C H locs cells slots ls Q hc hs' hR hS hl hk) (fun h => kf (fun z => h ((i32_eq hx ⟨by decide, by decide⟩).mpr z)) p e R s mi args below meth c C H locs cells slots ls Q hc hs' hR hS hl hk)
theorem Ev.icmp_ne {x y : Int} (hx : inR x) (hy : inR y) {off : Int} {tgt : Nat} (hd : decode M.2.1 pc = .ok (.if_icmp .ne off, 3)) (ht : (pc : Int) + off = (tgt : Int)) (kt : (x ≠ y) → Ev g M tgt pl st m nc ns Post) (kf : (x = y) → Ev g M (pc + 3) pl st m nc ns Post) : Ev g M pc pl (vI y :: vI x :: st) m nc ns Post := by
  intro p e R s mi args below meth c C H locs cells slots ls Q hc hs' hR hS hl hk
  exact lv_icmp_ne C.1 C.2.1 hd ht (fun h => kt (fun z => h ((i32_eq hx hy).mpr z)) p e R s mi args below meth c C H locs cells slots ls Q hc hs' hR hS hl hk) (fun h => kf ((i32_eq hx hy).mp h) p e R s mi args below meth c C H locs cells slots ls Q hc hs' hR hS hl hk)
theorem Ev.if_ne {x : Int} (hx : inR x) {off : Int} {tgt : Nat} (hd : decode M.2.1 pc = .ok (.ifCond .ne off, 3)) (ht : (pc : Int) + off = (tgt : Int)) (kt : (x ≠ 0) → Ev g M tgt pl st m nc ns Post) (kf : (x = 0) → Ev g M (pc + 3) pl st m nc ns Post) : Ev g M pc pl (vI x :: st) m nc ns Post := by
  intro p e R s mi args below meth c C H locs cells slots ls Q hc hs' hR hS hl hk
  exact lv_if_ne C.1 C.2.1 hd ht (fun h => kt (fun z => h ((i32_eq hx ⟨by decide, by decide⟩).mpr z)) p e R s mi args below meth c C H locs cells slots ls Q hc hs' hR hS hl hk) (fun h => kf ((i32_eq hx ⟨by decide, by decide⟩).mp h) p e R s mi args below meth c C H locs cells slots ls Q hc hs' hR hS hl hk)
theorem Ev.icmp_lt {x y : Int} (hx : inR x) (hy : inR y) {off : Int} {tgt : Nat} (hd : decode M.2.1 pc = .ok (.if_icmp .lt off, 3)) (ht : (pc : Int) + off = (tgt : Int)) (kt : (x < y) → Ev g M tgt pl st m nc ns Post) (kf : ¬ (x < y) → Ev g M (pc + 3) pl st m nc ns Post) : Ev g M pc pl (vI y :: vI x :: st) m nc ns Post := by
  intro p e R s mi args below meth c C H locs cells slots ls Q hc hs' hR hS hl hk
  exact lv_icmp_lt C.1 C.2.1 hd ht (fun h => kt (((i32_lt hx hy).mp h)) p e R s mi args below meth c C H locs cells slots ls Q hc hs' hR hS hl hk) (fun h => kf (fun z => h ((i32_lt hx hy).mpr z)) p e R s mi args below meth c C H locs cells slots ls Q hc hs' hR hS hl hk)
theorem Ev.if_lt {x : Int} (hx : inR x) {off : Int} {tgt : Nat} (hd : decode M.2.1 pc = .ok (.ifCond .lt off, 3)) (ht : (pc : Int) + off = (tgt : Int)) (kt : (x < 0) → Ev g M tgt pl st m nc ns Post) (kf : ¬ (x < 0) → Ev g M (pc + 3) pl st m nc ns Post) : Ev g M pc pl (vI x :: st) m nc ns Post := by
  intro p e R s mi args below meth c C H locs cells slots ls Q hc hs' hR hS hl hk
  exact lv_if_lt C.1 C.2.1 hd ht (fun h => kt (((i32_lt hx ⟨by decide, by decide⟩).mp h)) p e R s mi args below meth c C H locs cells slots ls Q hc hs' hR hS hl hk) (fun h => kf (fun z => h ((i32_lt hx ⟨by decide, by decide⟩).mpr z)) p e R s mi args below meth c C H locs cells slots ls Q hc hs' hR hS hl hk)
theorem Ev.icmp_ge {x y : Int} (hx : inR x) (hy : inR y) {off : Int} {tgt : Nat} (hd : decode M.2.1 pc = .ok (.if_icmp .ge off, 3)) (ht : (pc : Int) + off = (tgt : Int)) (kt : (x ≥ y) → Ev g M tgt pl st m nc ns Post) (kf : ¬ (x ≥ y) → Ev g M (pc + 3) pl st m nc ns Post) : Ev g M pc pl (vI y :: vI x :: st) m nc ns Post := by
  intro p e R s mi args below meth c C H locs cells slots ls Q hc hs' hR hS hl hk
  exact lv_icmp_ge C.1 C.2.1 hd ht (fun h => kt (((i32_ge hx hy).mp h)) p e R s mi args below meth c C H locs cells slots ls Q hc hs' hR hS hl hk) (fun h => kf (fun z => h ((i32_ge hx hy).mpr z)) p e R s mi args below meth c C H locs cells slots ls Q hc hs' hR hS hl hk)
theorem Ev.if_ge {x : Int} (hx : inR x) {off : Int} {tgt : Nat} (hd : decode M.2.1 pc = .ok (.ifCond .ge off, 3)) (ht : (pc : Int) + off = (tgt : Int)) (kt : (x ≥ 0) → Ev g M tgt pl st m nc ns Post) (kf : ¬ (x ≥ 0) → Ev g M (pc + 3) pl st m nc ns Post) : Ev g M pc pl (vI x :: st) m nc ns Post := by
  intro p e R s mi args below meth c C H locs cells slots ls Q hc hs' hR hS hl hk
  exact lv_if_ge C.1 C.2.1 hd ht (fun h => kt (((i32_ge hx ⟨by decide, by decide⟩).mp h)) p e R s mi args below meth c C H locs cells slots ls Q hc hs' hR hS hl hk) (fun h => kf (fun z => h ((i32_ge hx ⟨by decide, by decide⟩).mpr z)) p e R s mi args below meth c C H locs cells slots ls Q hc hs' hR hS hl hk)
theorem Ev.icmp_gt {x y : Int} (hx : inR x) (hy : inR y) {off : Int} {tgt : Nat} (hd : decode M.2.1 pc = .ok (.if_icmp .gt off, 3)) (ht : (pc : Int) + off = (tgt : Int)) (kt : (x > y) → Ev g M tgt pl st m nc ns Post) (kf : ¬ (x > y) → Ev g M (pc + 3) pl st m nc ns Post) : Ev g M pc pl (vI y :: vI x :: st) m nc ns Post := by
  intro p e R s mi args below meth c C H locs cells slots ls Q hc hs' hR hS hl hk
  exact lv_icmp_gt C.1 C.2.1 hd ht (fun h => kt (((i32_gt hx hy).mp h)) p e R s mi args below meth c C H locs cells slots ls Q hc hs' hR hS hl hk) (fun h => kf (fun z => h ((i32_gt hx hy).mpr z)) p e R s mi args below meth c C H locs cells slots ls Q hc hs' hR hS hl hk)
theorem Ev.if_gt {x : Int} (hx : inR x) {off : Int} {tgt : Nat} (hd : decode M.2.1 pc = .ok (.ifCond .gt off, 3)) (ht : (pc : Int) + off = (tgt : Int)) (kt : (x > 0) → Ev g M tgt pl st m nc ns Post) (kf : ¬ (x > 0) → Ev g M (pc + 3) pl st m nc ns Post) : Ev g M pc pl (vI x :: st) m nc ns Post := by
  intro p e R s mi args below meth c C H locs cells slots ls Q hc hs' hR hS hl hk
  exact lv_if_gt C.1 C.2.1 hd ht (fun h => kt (((i32_gt hx ⟨by decide, by decide⟩).mp h)) p e R s mi args below meth c C H locs cells slots ls Q hc hs' hR hS hl hk) (fun h => kf (fun z => h ((i32_gt hx ⟨by decide, by decide⟩).mpr z)) p e R s mi args below meth c C H locs cells slots ls Q hc hs' hR hS hl hk)
theorem Ev.icmp_le {x y : Int} (hx : inR x) (hy : inR y) {off : Int} {tgt : Nat} (hd : decode M.2.1 pc = .ok (.if_icmp .le off, 3)) (ht : (pc : Int) + off = (tgt : Int)) (kt : (x ≤ y) → Ev g M tgt pl st m nc ns Post) (kf : ¬ (x ≤ y) → Ev g M (pc + 3) pl st m nc ns Post) : Ev g M pc pl (vI y :: vI x :: st) m nc ns Post := by
  intro p e R s mi args below meth c C H locs cells slots ls Q hc hs' hR hS hl hk
  exact lv_icmp_le C.1 C.2.1 hd ht (fun h => kt (((i32_le hx hy).mp h)) p e R s mi args below meth c C H locs cells slots ls Q hc hs' hR hS hl hk) (fun h => kf (fun z => h ((i32_le hx hy).mpr z)) p e R s mi args below meth c C H locs cells slots ls Q hc hs' hR hS hl hk)
theorem Ev.if_le {x : Int} (hx : inR x) {off : Int} {tgt : Nat} (hd : decode M.2.1 pc = .ok (.ifCond .le off, 3)) (ht : (pc : Int) + off = (tgt : Int)) (kt : (x ≤ 0) → Ev g M tgt pl st m nc ns Post) (kf : ¬ (x ≤ 0) → Ev g M (pc + 3) pl st m nc ns Post) : Ev g M pc pl (vI x :: st) m nc ns Post := by
  intro p e R s mi args below meth c C H locs cells slots ls Q hc hs' hR hS hl hk
  exact lv_if_le C.1 C.2.1 hd ht (fun h => kt (((i32_le hx ⟨by decide, by decide⟩).mp h)) p e R s mi args below meth c C H locs cells slots ls Q hc hs' hR hS hl hk) (fun h => kf (fun z => h ((i32_le hx ⟨by decide, by decide⟩).mpr z)) p e R s mi args below meth c C H locs cells slots ls Q hc hs' hR hS hl hk)
theorem Ev.goto {off : Int} {tgt : Nat} (hd : decode M.2.1 pc = .ok (.goto off, 3)) (ht : (pc : Int) + off = (tgt : Int)) (k : Ev g M tgt pl st m nc ns Post) : Ev g M pc pl st m nc ns Post :=
  Ev.stp (fun p e R s mi args below meth c C H locs cells slots ls Q hR hS hl kk => lv_goto C.1 C.2.1 hd ht kk) k
theorem Ev.tableIn {dflt lo hi : Int} {offs : Array Int} {len : Nat} {x : Int} {off : Int} {tgt : Nat} (hd : decode M.2.1 pc = .ok (.tableswitch dflt lo hi offs, len)) (hx : inR x) (h1 : lo ≤ x) (h2 : x ≤ hi) (ho : offs[(x - lo).toNat]? = some off) (ht : (pc : Int) + off = (tgt : Int)) (k : Ev g M tgt pl st m nc ns Post) : Ev g M pc pl (vI x :: st) m nc ns Post :=
  Ev.stp (fun p e R s mi args below meth c C H locs cells slots ls Q hR hS hl kk => lv_tableIn C.1 C.2.1 hd (by rw [i32_toInt hx]; omega) (by rw [i32_toInt hx]; omega) (by rw [i32_toInt hx]; exact ho) ht kk) k
theorem Ev.tableOut {dflt lo hi : Int} {offs : Array Int} {len : Nat} {x : Int} {tgt : Nat} (hd : decode M.2.1 pc = .ok (.tableswitch dflt lo hi offs, len)) (hx : inR x) (h : x < lo ∨ hi < x) (ht : (pc : Int) + dflt = (tgt : Int)) (k : Ev g M tgt pl st m nc ns Post) : Ev g M pc pl (vI x :: st) m nc ns Post :=
  Ev.stp (fun p e R s mi args below meth c C H locs cells slots ls Q hR hS hl kk => lv_tableOut C.1 C.2.1 hd (by rw [i32_toInt hx]; exact h) ht kk) k
theorem Ev.lookup {dflt : Int} {ps : Array (Int × Int)} {len : Nat} {x off : Int} {tgt : Nat} (hd : decode M.2.1 pc = .ok (.lookupswitch dflt ps, len)) (hx : inR x) (hp : (ps.toList.zip (ps.toList.drop 1)).all (fun (a, next) => a.1 < next.1) = true) (ho : Op.lookupswitch.offset ps.toList dflt x = off) (ht : (pc : Int) + off = (tgt : Int)) (k : Ev g M tgt pl st m nc ns Post) : Ev g M pc pl (vI x :: st) m nc ns Post :=
  Ev.stp (fun p e R s mi args below meth c C H locs cells slots ls Q hR hS hl kk => lv_lookup C.1 C.2.1 hd hp (by rw [i32_toInt hx]; exact ho) ht kk) k
end EV
