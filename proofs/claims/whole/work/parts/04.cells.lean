/-! FIELDS AND ARRAYS -/
theorem GT_lay (C : String) (T : u_T) (N : Nat) (h : ((List.range N).map (u_lay C T)).all (fun w => decide (w ∈ lw_tbl) && goodWord w) = true) : ∀ w ∈ u_ws C T N, w ∈ GT := by
  intro w hw
  have h1 := List.all_eq_true.mp h w hw
  simp only [Bool.and_eq_true, decide_eq_true_eq] at h1
  exact GT_mem h1.1 h1.2
theorem cl0 : ∀ w ∈ u_ws RX0 TX0 1, w ∈ GT := GT_lay _ _ _ (by decide +kernel)
theorem cl1 : ∀ w ∈ u_ws RX1 TX1 5, w ∈ GT := GT_lay _ _ _ (by decide +kernel)
theorem cl2 : ∀ w ∈ u_ws RX2 TX2 2, w ∈ GT := GT_lay _ _ _ (by decide +kernel)
theorem cl3 : ∀ w ∈ u_ws RX3 TX3 8, w ∈ GT := GT_lay _ _ _ (by decide +kernel)
theorem cl4 : ∀ w ∈ u_ws RX4 TX4 6, w ∈ GT := GT_lay _ _ _ (by decide +kernel)
theorem cl5 : ∀ w ∈ u_ws RX5 TX5 4, w ∈ GT := GT_lay _ _ _ (by decide +kernel)
theorem cl6 : ∀ w ∈ u_ws RX6 TX6 2, w ∈ GT := GT_lay _ _ _ (by decide +kernel)
theorem cl7 : ∀ w ∈ u_ws RX7 TX7 20, w ∈ GT := GT_lay _ _ _ (by decide +kernel)
theorem cl8 : ∀ w ∈ u_ws RX8 TX8 34, w ∈ GT := GT_lay _ _ _ (by decide +kernel)
def clP (ci : Nat) (q : vw_C) : Prop := (∀ w ∈ u_ws q.1 q.2.1 q.2.2, w ∈ GT) ∧ (∀ k, k < q.2.2 → parseFieldDescriptor (q.2.1 k).2.2.1 = some (cty ci k)) ∧ (∀ a, a < q.2.2 → ∀ b, b < q.2.2 → a ≠ b → (q.2.1 a).2.1 ≠ (q.2.1 b).2.1) ∧ q.2.2 = cNf ci
theorem clOK {ci : Nat} {q : vw_C} (h : vwCl[ci]? = some q) : clP ci q := by
  match ci, h with
  | 0, h => cases h; exact ⟨cl0, tyX0_ok, nmX0, rfl⟩
  | 1, h => cases h; exact ⟨cl1, tyX1_ok, nmX1, rfl⟩
  | 2, h => cases h; exact ⟨cl2, tyX2_ok, nmX2, rfl⟩
  | 3, h => cases h; exact ⟨cl3, tyX3_ok, nmX3, rfl⟩
  | 4, h => cases h; exact ⟨cl4, tyX4_ok, nmX4, rfl⟩
  | 5, h => cases h; exact ⟨cl5, tyX5_ok, nmX5, rfl⟩
  | 6, h => cases h; exact ⟨cl6, tyX6_ok, nmX6, rfl⟩
  | 7, h => cases h; exact ⟨cl7, tyX7_ok, nmX7, rfl⟩
  | 8, h => cases h; exact ⟨cl8, tyX8_ok, nmX8, rfl⟩
  | k + 9, h => simp [vwCl] at h
/-- a cell that holds a reference, a number -/
abbrev Mem.wx (m : Mem) (c k : Nat) (v : Int) : Mem := (m.1, m.2.1, upC m.2.2.1 c k v, m.2.2.2)
abbrev Mem.wr (m : Mem) (c k : Nat) (v : Option Nat) : Mem := (m.1, m.2.1, m.2.2.1, upC m.2.2.2 c k v)
theorem upC_ne {α : Type} {f : Nat → Nat → α} {c i c' : Nat} {v : α} (h : c' ≠ c) : upC f c i v c' = f c' := by
  funext j; simp [upC, h]
theorem upC_self {α : Type} {f : Nat → Nat → α} {c i j : Nat} {v : α} (h : j ≠ i) : upC f c i v c j = f c j := by simp [upC, h]
theorem upC_at {α : Type} {f : Nat → Nat → α} {c i : Nat} {v : α} : upC f c i v c i = v := by simp [upC]
theorem ent_obj {g : GC} {ci : Nat} {x : Nat → Int} {r : Nat → Option Nat} : ent g (0, ci) x r = .inr (ci, (List.range (cNf ci)).map fun j => cv g (fld (cty ci j) (x j) (r j))) := rfl
theorem ent_set {g : GC} {ci k : Nat} {x x' : Nat → Int} {r r' : Nat → Option Nat} {v : PV} (hk : k < cNf ci) (hv : fld (cty ci k) (x' k) (r' k) = v) (hx : ∀ j, j ≠ k → x' j = x j) (hr : ∀ j, j ≠ k → r' j = r j) :
    ent g (0, ci) x' r' = .inr (ci, ((List.range (cNf ci)).map fun j => cv g (fld (cty ci j) (x j) (r j))).set k (cv g v)) := by
  rw [ent_obj]
  congr 2
  apply List.ext_getElem?
  intro j
  by_cases hj : j = k
  · subst hj
    simp [hk, hv]
  · rw [List.getElem?_set_ne (fun h => hj h.symm)]
    simp only [List.getElem?_map]
    by_cases hn : j < cNf ci
    · simp [hn, hx j hj, hr j hj]
    · simp [hn]
section EV
variable {g : GC} {M : MD} {pc : Nat} {pl : List (Option PV)} {st : List PV} {m : Mem} {nc ns : Nat} {Post : Option PV → Mem → Prop}
theorem Rep.at {H : Heap} (h : Rep g m H) {c : Nat} {k : Nat × Nat} (hc : c < m.1) (hs : m.2.1 c = k) : (wl g m)[c]? = some (g.2.2.2.1 + c, ent g k (m.2.2.1 c) (m.2.2.2 c)) := by rw [← hs]; exact wl_at hc
theorem Ev.getf {ci c k idx : Nat} {q : vw_C} {v : PV} (hd : decode M.2.1 pc = .ok (.getfield idx, 3)) (hq : vwCl[ci]? = some q) (hk : k < q.2.2) (hw : Cond.fieldLink M.1.cls idx (q.2.1 k).1 (q.2.1 k).2.1 (q.2.1 k).2.2.1 ∈ lw_tbl) (hc : c < m.1) (hs : m.2.1 c = (0, ci)) (hv : fld (cty ci k) (m.2.2.1 c k) (m.2.2.2 c k) = v)
    (kk : Ev g M (pc + 3) pl (v :: st) m nc ns Post) : Ev g M pc pl (vR c :: st) m nc ns Post := by
  refine Ev.stp (fun p e R s mi args below meth c C H locs cells slots ls Q hR hS hl kk => ?_) kk
  have ho := clOK hq
  obtain ⟨C1, T1, N1⟩ := q
  refine va_get C.1 C.2.1 C.2.2.2.2.1 ho.1 C.2.2.2.1 C.2.2.2.2.2.1.1 hR.1 _ (hR.at hc hs) hq k hk (C.2.2.2.2.1 _ (GT_mem hw rfl)) (fun _ h => h) ?_ hd kk
  have hN : k < cNf ci := by rw [← ho.2.2.2]; exact hk
  simp [hN, hv]
theorem Ev.putf0 {ci c k idx : Nat} {q : vw_C} {v : PV} {m' : Mem} {x' : Nat → Nat → Int} {r' : Nat → Nat → Option Nat} (hm : m' = (m.1, m.2.1, x', r')) (hd : decode M.2.1 pc = .ok (.putfield idx, 3)) (hq : vwCl[ci]? = some q) (hk : k < q.2.2) (hw : Cond.fieldLink M.1.cls idx (q.2.1 k).1 (q.2.1 k).2.1 (q.2.1 k).2.2.1 ∈ lw_tbl) (hc : c < m.1) (hs : m.2.1 c = (0, ci))
    (hf : (q.2.1 k).2.2.2 = false ∨ ((q.2.1 k).2.2.2 = true ∧ M.1.name = "<init>" ∧ (q.2.1 k).1 = M.1.cls)) (hn : narrow (cty ci k) (cv g v) = cv g v) (hfit : fits (cty ci k) (cv g v) = true)
    (hv : fld (cty ci k) (x' c k) (r' c k) = v) (hx : ∀ c', c' ≠ c → x' c' = m.2.2.1 c') (hr : ∀ c', c' ≠ c → r' c' = m.2.2.2 c') (hx2 : ∀ j, j ≠ k → x' c j = m.2.2.1 c j) (hr2 : ∀ j, j ≠ k → r' c j = m.2.2.2 c j)
    (kk : Ev g M (pc + 3) pl st m' nc ns Post) : Ev g M pc pl (v :: vR c :: st) m nc ns Post := by
  intro p e R s mi args below meth c9 C H locs cells slots ls Q hcr hsr hR hS hl hk9
  have ho := clOK hq
  obtain ⟨C1, T1, N1⟩ := q
  obtain ⟨n, sh, x, r⟩ := m
  subst hm
  have hN : k < cNf ci := by rw [← ho.2.2.2]; exact hk
  have he := hR.1.at hc hs
  have hset := wl_set (g := g) (n := n) (sh := sh) (x := x) (x' := x') (r := r) (r' := r') hc (e := .inr (ci, ((List.range (cNf ci)).map fun j => cv g (fld (cty ci j) (x c j) (r c j))).set k (cv g v))) (by rw [show sh c = (0, ci) from hs]; exact ent_set hN hv hx2 hr2) hx hr
  have fin : ∀ (H1 : Heap) (locs1 : List Loc), va_P g.2.1 vwCl ((wl g (n, sh, x, r)).set c (g.2.2.2.1 + c, .inr (ci, ((List.range (cNf ci)).map fun j => cv g (fld (cty ci j) (x c j) (r c j))).set k (cv g v)))) H1 → va_S (gA g) s.heap H1 locs1 → W p g.1 e R s mi args below meth c9 H1 locs1 cells slots Q (F0 mi (pc + 3) ls (st.map (cv g))) := by
    intro H1 locs1 hP1 hS1
    rw [hset] at hP1
    exact W_size fun hz => kk p e R s mi args below meth c9 C H1 locs1 cells slots ls Q hcr hsr ⟨Rep.of hP1 hS1 C.2.2.2.2.2.2.2.2.1 hz hR.2, hR.2⟩ hS1 hl hk9
  have hl2 : k < ((List.range (cNf ci)).map fun j => cv g (fld (cty ci j) (x c j) (r c j))).length := by simp [hN]
  rcases hf with hf | ⟨hf, hi, hdc⟩
  · exact va_put C.1 C.2.1 C.2.2.2.2.1 ho.1 (cty ci) ho.2.1 ho.2.2.1 C.2.2.2.1 C.2.2.2.2.2.1.1 hR.1.1 wl_D hS c he hq k hk (C.2.2.2.2.1 _ (GT_mem hw rfl)) (fun _ h => h) hf (ho.2.1 k hk) hn hfit hl2 hd fun H1 locs1 hP1 _ hS1 => fin H1 locs1 hP1 hS1
  · exact va_putF C.1 C.2.1 C.2.2.2.2.1 ho.1 (cty ci) ho.2.1 ho.2.2.1 C.2.2.2.1 C.2.2.2.2.2.1.1 hR.1.1 wl_D hS c he hq k hk (C.2.2.2.2.1 _ (GT_mem hw rfl)) (fun _ h => h) hf (C.2.2.2.2.2.2.1 hi) hdc (ho.2.1 k hk) hn hfit hl2 hd fun H1 locs1 hP1 _ hS1 => fin H1 locs1 hP1 hS1
end EV
theorem ent_i {g : GC} {n : Nat} {x : Nat → Int} {r : Nat → Option Nat} : ent g (1, n) x r = .inl (g.2.2.1 1, n, .inl fun j => Int32.ofInt (x j)) := rfl
theorem tys_at {g : GC} : (tysG g)[0]? = some (g.2.2.1 1, .int) ∧ (tysG g)[1]? = some (g.2.2.1 2, .boolean) ∧ (tysG g)[2]? = some (g.2.2.1 3, .long) ∧ (tysG g)[3]? = some (g.2.2.1 4, .object RX3) ∧ (tysG g)[4]? = some (g.2.2.1 5, .array .int) := ⟨rfl, rfl, rfl, rfl, rfl⟩
section EV
variable {g : GC} {M : MD} {pc : Nat} {pl : List (Option PV)} {st : List PV} {m : Mem} {nc ns : Nat} {Post : Option PV → Mem → Prop}
theorem Ev.iaload {c n : Nat} {i v : Int} (hd : decode M.2.1 pc = .ok (.iaload, 1)) (hc : c < m.1) (hs : m.2.1 c = (1, n)) (hn : n ≤ 2147483647) (h0 : 0 ≤ i) (h1 : i < n) (hv : m.2.2.1 c i.toNat = v)
    (kk : Ev g M (pc + 1) pl (vI v :: st) m nc ns Post) : Ev g M pc pl (vI i :: vR c :: st) m nc ns Post := by
  refine Ev.stp (fun p e R s mi args below meth c9 C H locs cells slots ls Q hR hS hl kk => ?_) kk
  refine va_iald C.1 C.2.1 C.2.2.2.2.2.1.1 hR.1 c 0 (hR.at hc hs) tys_at.1 (i32_in h0 h1 hn) hd ?_
  rw [i32_nat h0 (by omega), hv]
  exact kk
theorem Ev.zaload {c n : Nat} {i v : Int} (hd : decode M.2.1 pc = .ok (.baload, 1)) (hc : c < m.1) (hs : m.2.1 c = (2, n)) (hn : n ≤ 2147483647) (h0 : 0 ≤ i) (h1 : i < n) (hv : m.2.2.1 c i.toNat = v)
    (kk : Ev g M (pc + 1) pl (vI v :: st) m nc ns Post) : Ev g M pc pl (vI i :: vR c :: st) m nc ns Post := by
  refine Ev.stp (fun p e R s mi args below meth c9 C H locs cells slots ls Q hR hS hl kk => ?_) kk
  refine va_zald C.1 C.2.1 C.2.2.2.2.2.1.1 hR.1 c 1 (hR.at hc hs) tys_at.2.1 (i32_in h0 h1 hn) hd ?_
  rw [i32_nat h0 (by omega), hv]
  exact kk
theorem Ev.laload {c n : Nat} {i v : Int} (hd : decode M.2.1 pc = .ok (.laload, 1)) (hc : c < m.1) (hs : m.2.1 c = (3, n)) (hn : n ≤ 2147483647) (h0 : 0 ≤ i) (h1 : i < n) (hv : m.2.2.1 c i.toNat = v)
    (kk : Ev g M (pc + 1) pl (vL v :: st) m nc ns Post) : Ev g M pc pl (vI i :: vR c :: st) m nc ns Post := by
  refine Ev.stp (fun p e R s mi args below meth c9 C H locs cells slots ls Q hR hS hl kk => ?_) kk
  refine va_lald C.1 C.2.1 C.2.2.2.2.2.1.1 hR.1 c 2 (hR.at hc hs) tys_at.2.2.1 (i32_in h0 h1 hn) hd ?_
  rw [i32_nat h0 (by omega), hv]
  exact kk
theorem Ev.raload {c n : Nat} {i : Int} {v : Option Nat} (hd : decode M.2.1 pc = .ok (.aaload, 1)) (hc : c < m.1) (hs : m.2.1 c = (4, n)) (hn : n ≤ 2147483647) (h0 : 0 ≤ i) (h1 : i < n) (hv : m.2.2.2 c i.toNat = v)
    (kk : Ev g M (pc + 1) pl (vO v :: st) m nc ns Post) : Ev g M pc pl (vI i :: vR c :: st) m nc ns Post := by
  refine Ev.stp (fun p e R s mi args below meth c9 C H locs cells slots ls Q hR hS hl kk => ?_) kk
  refine va_aldq C.1 C.2.1 C.2.2.2.2.2.1.1 hR.1 c 3 (hR.at hc hs) tys_at.2.2.2.1 (i32_in h0 h1 hn) hd ?_
  rw [i32_nat h0 (by omega), hv]
  exact kk
theorem Ev.maload {c n : Nat} {i : Int} {v : Option Nat} (hd : decode M.2.1 pc = .ok (.aaload, 1)) (hc : c < m.1) (hs : m.2.1 c = (5, n)) (hn : n ≤ 2147483647) (h0 : 0 ≤ i) (h1 : i < n) (hv : m.2.2.2 c i.toNat = v)
    (kk : Ev g M (pc + 1) pl (vO v :: st) m nc ns Post) : Ev g M pc pl (vI i :: vR c :: st) m nc ns Post := by
  refine Ev.stp (fun p e R s mi args below meth c9 C H locs cells slots ls Q hR hS hl kk => ?_) kk
  have he := hR.at hc hs
  have hlt : i.toNat < n := by omega
  refine W.aald (v := va_rf ((m.2.2.2 c i.toNat).map (g.2.2.2.1 + ·))) (ty := .array .int) C.1 C.2.1 (hR.1 c _ he) ((C.2.2.2.2.2.1.1.2 4 _ tys_at.2.2.2.2).1 n (fun j => va_rf ((m.2.2.2 c j).map (g.2.2.2.1 + ·)))) rfl (fun q => by cases q) (by show ¬ (_ ∨ (arrV _ _ _).slots.size ≤ _); rw [arrV_size]; exact i32_in h0 h1 hn) (by rw [i32_nat h0 (by omega)]; show (arrV _ _ _).slots[_]? = _; rw [arrV_read _ _ hlt]) rfl rfl hd ?_
  rw [hv]
  exact kk
theorem Ev.ralen {c n : Nat} (hd : decode M.2.1 pc = .ok (.arraylength, 1)) (hc : c < m.1) (hs : m.2.1 c = (4, n))
    (kk : Ev g M (pc + 1) pl (vI n :: st) m nc ns Post) : Ev g M pc pl (vR c :: st) m nc ns Post := by
  refine Ev.stp (fun p e R s mi args below meth c9 C H locs cells slots ls Q hR hS hl kk => ?_) kk
  exact va_alen C.1 C.2.1 C.2.2.2.2.2.1.1 hR.1 c 3 (hR.at hc hs) tys_at.2.2.2.1 rfl hd kk
/-- a store into an array, by what its world is behind it -/
theorem Ev.st0 {c n d : Nat} {x' : Nat → Nat → Int} {r' : Nat → Nat → Option Nat} {st' : List PV} {e' : va_E} (hc : c < m.1) (hs : m.2.1 c = (d, n)) (he : ent g (d, n) (x' c) (r' c) = e') (hx : ∀ c', c' ≠ c → x' c' = m.2.2.1 c') (hr : ∀ c', c' ≠ c → r' c' = m.2.2.2 c')
    (hrow : ∀ (p : Program) (e : Env) (R : Room) (s : State) (mi : MethodId) (args : Array Value) (below : List Frame) (meth : Method) (c9 : Code), Cx g M p R s mi args meth c9 →
      ∀ (H : Heap) (locs : List Loc) (cells slots : Nat) (ls : Array Slot) (Q : State → Prop), Rep g m H → va_S (gA g) s.heap H locs →
        (∀ (H1 : Heap) (locs1 : List Loc), va_P g.2.1 vwCl ((wl g m).set c (g.2.2.2.1 + c, e')) H1 → va_D (gA g) ((wl g m).set c (g.2.2.2.1 + c, e')) → va_S (gA g) s.heap H1 locs1 → W p g.1 e R s mi args below meth c9 H1 locs1 cells slots Q (F0 mi (pc + 1) ls (st'.map (cv g)))) →
        W p g.1 e R s mi args below meth c9 H locs cells slots Q (F0 mi pc ls (st.map (cv g))))
    (kk : Ev g M (pc + 1) pl st' (m.1, m.2.1, x', r') nc ns Post) : Ev g M pc pl st m nc ns Post := by
  intro p e R s mi args below meth c9 C H locs cells slots ls Q hcr hsr hR hS hl hk9
  refine hrow p e R s mi args below meth c9 C H locs cells slots ls Q hR.1 hS fun H1 locs1 hP1 _ hS1 => ?_
  obtain ⟨n0, sh, x, r⟩ := m
  rw [wl_set (sh := sh) (x := x) (x' := x') (r := r) (r' := r') hc (by rw [show sh c = (d, n) from hs]; exact he) hx hr] at hP1
  exact W_size fun hz => kk p e R s mi args below meth c9 C H1 locs1 cells slots ls Q hcr hsr ⟨Rep.of hP1 hS1 C.2.2.2.2.2.2.2.2.1 hz hR.2, hR.2⟩ hS1 hl hk9
theorem Ev.iastore {c n : Nat} {i v : Int} (hd : decode M.2.1 pc = .ok (.iastore, 1)) (hc : c < m.1) (hs : m.2.1 c = (1, n)) (hn : n ≤ 2147483647) (h0 : 0 ≤ i) (h1 : i < n)
    (kk : Ev g M (pc + 1) pl st (m.wx c i.toNat v) nc ns Post) : Ev g M pc pl (vI v :: vI i :: vR c :: st) m nc ns Post := by
  refine Ev.st0 (x' := upC m.2.2.1 c i.toNat v) (r' := m.2.2.2) (st' := st) hc hs rfl (fun c' h => upC_ne h) (fun _ _ => rfl) (fun p e R s mi args below meth c9 C H locs cells slots ls Q hR hS kk => ?_) kk
  refine va_iast C.1 C.2.1 C.2.2.2.2.2.1.1 hR.1 wl_D hS c 0 (hR.at hc hs) tys_at.1 (i32_in h0 h1 hn) hd ?_
  have e : upd (fun j => Int32.ofInt (m.2.2.1 c j)) (Int32.ofInt i).toNatClampNeg (Int32.ofInt v) = fun j => Int32.ofInt (upC m.2.2.1 c i.toNat v c j) := by
    rw [i32_nat h0 (by omega)]
    funext j
    by_cases hj : j = i.toNat
    · subst hj; simp [upd, upC_at]
    · simp [upd, hj, upC_self hj]
  rw [e]
  exact kk
theorem Ev.lastore {c n : Nat} {i v : Int} (hd : decode M.2.1 pc = .ok (.lastore, 1)) (hc : c < m.1) (hs : m.2.1 c = (3, n)) (hn : n ≤ 2147483647) (h0 : 0 ≤ i) (h1 : i < n)
    (kk : Ev g M (pc + 1) pl st (m.wx c i.toNat v) nc ns Post) : Ev g M pc pl (vL v :: vI i :: vR c :: st) m nc ns Post := by
  refine Ev.st0 (x' := upC m.2.2.1 c i.toNat v) (r' := m.2.2.2) (st' := st) hc hs rfl (fun c' h => upC_ne h) (fun _ _ => rfl) (fun p e R s mi args below meth c9 C H locs cells slots ls Q hR hS kk => ?_) kk
  refine va_last C.1 C.2.1 C.2.2.2.2.2.1.1 hR.1 wl_D hS c 2 (hR.at hc hs) tys_at.2.2.1 (i32_in h0 h1 hn) hd ?_
  have e : vp_updL (fun j => Int64.ofInt (m.2.2.1 c j)) (Int32.ofInt i).toNatClampNeg (Int64.ofInt v) = fun j => Int64.ofInt (upC m.2.2.1 c i.toNat v c j) := by
    rw [i32_nat h0 (by omega)]
    funext j
    by_cases hj : j = i.toNat
    · subst hj; simp [vp_updL, upC_at]
    · simp [vp_updL, hj, upC_self hj]
  rw [e]
  exact kk
theorem Ev.zastore {c n : Nat} {i v : Int} (hd : decode M.2.1 pc = .ok (.bastore, 1)) (hc : c < m.1) (hs : m.2.1 c = (2, n)) (hn : n ≤ 2147483647) (h0 : 0 ≤ i) (h1 : i < n) (hv : v = 0 ∨ v = 1)
    (kk : Ev g M (pc + 1) pl st (m.wx c i.toNat v) nc ns Post) : Ev g M pc pl (vI v :: vI i :: vR c :: st) m nc ns Post := by
  refine Ev.st0 (x' := upC m.2.2.1 c i.toNat v) (r' := m.2.2.2) (st' := st) hc hs rfl (fun c' h => upC_ne h) (fun _ _ => rfl) (fun p e R s mi args below meth c9 C H locs cells slots ls Q hR hS kk => ?_) kk
  refine va_zast C.1 C.2.1 C.2.2.2.2.2.1.1 hR.1 wl_D hS c 1 (hR.at hc hs) tys_at.2.1 (i32_in h0 h1 hn) hd ?_
  have ev : vp_nar .boolean (Int32.ofInt v) = Int32.ofInt v := by rcases hv with rfl | rfl <;> rfl
  have e : upd (fun j => Int32.ofInt (m.2.2.1 c j)) (Int32.ofInt i).toNatClampNeg (vp_nar .boolean (Int32.ofInt v)) = fun j => Int32.ofInt (upC m.2.2.1 c i.toNat v c j) := by
    rw [i32_nat h0 (by omega), ev]
    funext j
    by_cases hj : j = i.toNat
    · subst hj; simp [upd, upC_at]
    · simp [upd, hj, upC_self hj]
  rw [e]
  exact kk
theorem Ev.rastore {c n v : Nat} {i : Int} (hd : decode M.2.1 pc = .ok (.aastore, 1)) (hc : c < m.1) (hs : m.2.1 c = (4, n)) (hn : n ≤ 2147483647) (h0 : 0 ≤ i) (h1 : i < n) (hvc : v < m.1) (hvs : m.2.1 v = (0, 3))
    (kk : Ev g M (pc + 1) pl st (m.wr c i.toNat (some v)) nc ns Post) : Ev g M pc pl (vR v :: vI i :: vR c :: st) m nc ns Post := by
  refine Ev.st0 (x' := m.2.2.1) (r' := upC m.2.2.2 c i.toNat (some v)) (st' := st) hc hs rfl (fun _ _ => rfl) (fun c' h => upC_ne h) (fun p e R s mi args below meth c9 C H locs cells slots ls Q hR hS kk => ?_) kk
  refine va_astq C.1 C.2.1 C.2.2.2.2.2.1.1 hR.1 wl_D hS c 3 v 3 (r := (RX3, TX3, 8)) (hR.at hc hs) tys_at.2.2.2.1 (hR.at hvc hvs) rfl (i32_in h0 h1 hn) hd ?_
  have e : va_up (fun j => (m.2.2.2 c j).map (g.2.2.2.1 + ·)) (Int32.ofInt i).toNatClampNeg (some (g.2.2.2.1 + v)) = fun j => (upC m.2.2.2 c i.toNat (some v) c j).map (g.2.2.2.1 + ·) := by
    rw [i32_nat h0 (by omega)]
    funext j
    by_cases hj : j = i.toNat
    · subst hj; simp [va_up, upC_at]
    · simp [va_up, hj, upC_self hj]
  rw [e]
  exact kk
/-- the script -/
theorem Ev.slen (hM : M.1.cls = RL) (hd : decode M.2.1 pc = .ok (.arraylength, 1)) (kk : Ev g M (pc + 1) pl (vI g.2.2.2.2.2.1 :: st) m nc ns Post) : Ev g M pc pl (vS :: st) m nc ns Post := by
  refine Ev.stp (fun p e R s mi args below meth c9 C H locs cells slots ls Q hR hS hl kk => ?_) kk
  obtain ⟨hX, hb1, hb2⟩ := C.2.2.2.2.2.2.2.2.2 hM
  exact va_slen C.1 C.2.1 hX hb1 (Nat.not_le.mpr hb2) hS hd kk
theorem Ev.sload {i v : Int} (hM : M.1.cls = RL) (hd : decode M.2.1 pc = .ok (.iaload, 1)) (hn : g.2.2.2.2.2.1 ≤ 2147483647) (h0 : 0 ≤ i) (h1 : i < g.2.2.2.2.2.1) (hv : (g.2.2.2.2.2.2 i.toNat).toInt = v) (kk : Ev g M (pc + 1) pl (vI v :: st) m nc ns Post) : Ev g M pc pl (vI i :: vS :: st) m nc ns Post := by
  refine Ev.stp (fun p e R s mi args below meth c9 C H locs cells slots ls Q hR hS hl kk => ?_) kk
  obtain ⟨hX, hb1, hb2⟩ := C.2.2.2.2.2.2.2.2.2 hM
  refine va_sld C.1 C.2.1 hX hb1 (Nat.not_le.mpr hb2) hS (i32_in h0 h1 hn) hd ?_
  rw [i32_nat h0 (by omega), ← cvI (g := g), hv]
  exact kk
end EV
