/-! THE PURE MACHINE: cells by number, whole numbers as Int; 'Ev' says what the machine comes to, in these words alone -/
abbrev PV : Type := Int ⊕ (Int ⊕ (Unit ⊕ Option Nat))
abbrev vI (x : Int) : PV := .inl x
abbrev vL (x : Int) : PV := .inr (.inl x)
abbrev vS : PV := .inr (.inr (.inl ()))
abbrev vO (r : Option Nat) : PV := .inr (.inr (.inr r))
abbrev vR (c : Nat) : PV := .inr (.inr (.inr (some c)))
/-- how many cells; each one's kind (0: an object of a class; 1 int[], 2 boolean[], 3 long[], 4 Rule[], 5 int[][], with its length); numbers; references -/
abbrev Mem : Type := Nat × (Nat → Nat × Nat) × (Nat → Nat → Int) × (Nat → Nat → Option Nat)
/-- a method: its name, bytes, locals, answer, depth of its calls -/
abbrev MD : Type := MethodName × ByteArray × Nat × Option FieldType × Nat
/-- launch, the classes' numbers, the arrays' classes, where cells begin, the script -/
abbrev GC : Type := Launch × va_G × (Nat → ClassId) × Nat × Nat × Nat × (Nat → Int32)
def cv (g : GC) : PV → Value
  | .inl x => .int (Int32.ofInt x)
  | .inr (.inl x) => .long (Int64.ofInt x)
  | .inr (.inr (.inl _)) => .ref g.2.2.2.2.1
  | .inr (.inr (.inr r)) => va_rf (r.map (g.2.2.2.1 + ·))
def cty : Nat → Nat → FieldType
  | 0 => tyX0
  | 1 => tyX1
  | 2 => tyX2
  | 3 => tyX3
  | 4 => tyX4
  | 5 => tyX5
  | 6 => tyX6
  | 7 => tyX7
  | _ => tyX8
def cNf : Nat → Nat
  | 0 => 1
  | 1 => 5
  | 2 => 2
  | 3 => 8
  | 4 => 6
  | 5 => 4
  | 6 => 2
  | 7 => 20
  | _ => 34
/-- what a field of a type holds -/
def fld (t : FieldType) (x : Int) (r : Option Nat) : PV := match t with
  | .long => vL x
  | .int => vI x
  | .boolean => vI x
  | _ => vO r
def tysG (g : GC) : List (ClassId × FieldType) := [(g.2.2.1 1, .int), (g.2.2.1 2, .boolean), (g.2.2.1 3, .long), (g.2.2.1 4, .object RX3), (g.2.2.1 5, .array .int)]
def ent (g : GC) (k : Nat × Nat) (x : Nat → Int) (r : Nat → Option Nat) : va_E := match k.1 with
  | 0 => .inr (k.2, (List.range (cNf k.2)).map fun j => cv g (fld (cty k.2 j) (x j) (r j)))
  | 1 => .inl (g.2.2.1 1, k.2, .inl fun j => Int32.ofInt (x j))
  | 2 => .inl (g.2.2.1 2, k.2, .inl fun j => Int32.ofInt (x j))
  | 3 => .inl (g.2.2.1 3, k.2, .inr (.inl fun j => Int64.ofInt (x j)))
  | 4 => .inl (g.2.2.1 4, k.2, .inr (.inr (.inr (.inr fun j => (r j).map (g.2.2.2.1 + ·)))))
  | _ => .inl (g.2.2.1 5, k.2, .inr (.inr (.inr (.inr fun j => (r j).map (g.2.2.2.1 + ·)))))
def wl (g : GC) (m : Mem) : va_W := (List.range m.1).map fun c => (g.2.2.2.1 + c, ent g (m.2.1 c) (m.2.2.1 c) (m.2.2.2 c))
def Rep (g : GC) (m : Mem) (H : Heap) : Prop := va_P g.2.1 vwCl (wl g m) H ∧ H.size = g.2.2.2.1 + m.1
abbrev gA (g : GC) : Nat → Prop := fun q => g.2.2.2.1 ≤ q
theorem wl_at {g : GC} {m : Mem} {c : Nat} (h : c < m.1) : (wl g m)[c]? = some (g.2.2.2.1 + c, ent g (m.2.1 c) (m.2.2.1 c) (m.2.2.2 c)) := by
  simp [wl, h]
theorem wl_D {g : GC} {m : Mem} : va_D (gA g) (wl g m) := by
  refine ⟨fun i j p q hi hj he => ?_, fun k q hk => ?_⟩
  · simp only [wl, List.getElem?_map, Option.map_eq_some_iff] at hi hj
    obtain ⟨a, ha, rfl⟩ := hi
    obtain ⟨b, hb, rfl⟩ := hj
    have h1 := (List.getElem?_eq_some_iff.mp ha).2
    have h2 := (List.getElem?_eq_some_iff.mp hb).2
    simp at h1 h2
    simp at he
    omega
  · simp only [wl, List.getElem?_map, Option.map_eq_some_iff] at hk
    obtain ⟨a, ha, rfl⟩ := hk
    exact Nat.le_add_right _ _
/-- one cell changed -/
def upC {α : Type} (f : Nat → Nat → α) (c i : Nat) (v : α) : Nat → Nat → α := fun c' i' => if c' = c ∧ i' = i then v else f c' i'
theorem wl_set {g : GC} {n : Nat} {sh : Nat → Nat × Nat} {x x' : Nat → Nat → Int} {r r' : Nat → Nat → Option Nat} {c : Nat} {e : va_E} (hc : c < n) (he : ent g (sh c) (x' c) (r' c) = e) (hx : ∀ c', c' ≠ c → x' c' = x c') (hr : ∀ c', c' ≠ c → r' c' = r c') :
    (wl g (n, sh, x, r)).set c (g.2.2.2.1 + c, e) = wl g (n, sh, x', r') := by
  apply List.ext_getElem?
  intro k
  by_cases hk : k = c
  · subst hk
    rw [wl_at (m := (n, sh, x', r')) hc, ← he]
    simp [wl, hc]
  · rw [List.getElem?_set_ne (fun h => hk h.symm)]
    by_cases hkn : k < n
    · rw [wl_at (m := (n, sh, x', r')) hkn, wl_at (m := (n, sh, x, r)) hkn]
      simp only [hx k hk, hr k hk]
    · simp [wl, hkn]
theorem wl_push {g : GC} {n : Nat} {sh sh' : Nat → Nat × Nat} {x x' : Nat → Nat → Int} {r r' : Nat → Nat → Option Nat} {e : va_E} (he : ent g (sh' n) (x' n) (r' n) = e) (hs : ∀ c, c < n → sh' c = sh c) (hx : ∀ c, c < n → x' c = x c) (hr : ∀ c, c < n → r' c = r c) :
    wl g (n, sh, x, r) ++ [(g.2.2.2.1 + n, e)] = wl g (n + 1, sh', x', r') := by
  simp only [wl, List.range_succ, List.map_append, List.map_cons, List.map_nil, he]
  congr 1
  apply List.map_congr_left
  intro c hc
  have hc : c < n := by simpa using hc
  rw [hs c hc, hx c hc, hr c hc]
def nestL : List (String × Nat × MethodName × String) := [("NarrowingKernel", 24, ⟨"NarrowingKernel$Steps", "<init>", "()V"⟩, "NarrowingKernel"), ("NarrowingKernel", 51, ⟨"NarrowingKernel$Rule", "<init>", "()V"⟩, "NarrowingKernel"), ("NarrowingKernel$Looker", 69, ⟨"NarrowingKernel", "isOne", "(I)Z"⟩, "NarrowingKernel"), ("NarrowingKernel$Looker", 114, ⟨"NarrowingKernel", "least", "(I)I"⟩, "NarrowingKernel"), ("NarrowingKernel$Looker", 122, ⟨"NarrowingKernel", "greatest", "(I)I"⟩, "NarrowingKernel"), ("NarrowingKernel$Search", 47, ⟨"NarrowingKernel", "isOne", "(I)Z"⟩, "NarrowingKernel")]
def GT : List Cond := lw_tbl.filter goodWord
theorem GT_mem {w : Cond} (h : w ∈ lw_tbl) (g : goodWord w = true) : w ∈ GT := List.mem_filter.mpr ⟨h, g⟩
theorem GT_good {w : Cond} (h : w ∈ GT) : goodWord w = true := (List.mem_filter.mp h).2
theorem GT_in : GoodIn GT GT := fun w h => ⟨h, good_of_word (GT_good h)⟩
def St (g : GC) (U : State) : Prop := va_K g.2.1 vwCl (tysG g) U ∧ (∀ q ∈ nestL, va_Nw (.methodLinkNest q.1 q.2.1 q.2.2.1 q.2.2.2) U) ∧ va_AO RX3 U ∧ va_AOA .int U
theorem va_AOA.moved {ty : FieldType} {u U : State} (hvm : u.vm.Alike U.vm) (h : va_AOA ty u) : va_AOA ty U := by
  have e := Cond.arrayOver_setVmC (args := #[]) hvm (.array ty)
  exact va_AOA.same (u := u.setVm U.vm) rfl (e.trans h)
theorem St.warm {g : GC} {s U : State} (hW : s.WarmedH U.vm) (h : St g s) : St g U := ⟨va_K.moved hW.alike h.1, fun q hq => (h.2.1 q hq).warmM hW, h.2.2.1.moved hW.alike, h.2.2.2.moved hW.alike⟩
theorem St.calling {g : GC} {s : State} (f : JFrame) (mk : MethodId) (a : Array Value) (h : St g s) : St g (s.calling f mk a) :=
  ⟨va_K.moved (u := s) (U := s.calling f mk a) (Vm.Alike.refl s.vm) h.1, fun q hq => (h.2.1 q hq).same rfl rfl, h.2.2.1.moved (u := s) (U := s.calling f mk a) (Vm.Alike.refl s.vm), h.2.2.2.moved (u := s) (U := s.calling f mk a) (Vm.Alike.refl s.vm)⟩
/-- what is known of locals -/
def facts (g : GC) (pl : List (Option PV)) : List (Nat × Value) := (List.range pl.length).filterMap fun k => (pl.getD k none).map fun v => (k, cv g v)
theorem facts_mem {g : GC} {pl : List (Option PV)} {q : Nat × Value} : q ∈ facts g pl ↔ ∃ v, pl[q.1]? = some (some v) ∧ cv g v = q.2 := by
  obtain ⟨k, w⟩ := q
  simp only [facts, List.mem_filterMap, List.mem_range, Option.map_eq_some_iff]
  constructor
  · rintro ⟨k', hk, v, hv, he⟩
    cases he
    refine ⟨v, ?_, rfl⟩
    rw [List.getD_eq_getElem?_getD] at hv
    cases h : pl[k]? with
    | none => rw [h] at hv; cases hv
    | some o => rw [h] at hv; cases hv; rfl
  · rintro ⟨v, hv, he⟩
    have hl := (List.getElem?_eq_some_iff.mp hv).1
    refine ⟨k, hl, v, ?_, by rw [he]⟩
    rw [List.getD_eq_getElem?_getD, hv]
    rfl
theorem lv_mono {ls : Array Slot} {nL : Nat} {l l' : List (Nat × Value)} (h : lv_has ls nL l) (hm : ∀ q ∈ l', q ∈ l) : lv_has ls nL l' := ⟨h.1, h.2.1, fun q hq => h.2.2 q (hm q hq)⟩
def Cx (g : GC) (M : MD) (p : Program) (R : Room) (s : State) (mi : MethodId) (args : Array Value) (meth : Method) (c : Code) : Prop :=
  p.tables.exec = Jvm.exec ∧ c.code = M.2.1 ∧ c.maxLocals = M.2.2.1 ∧ s.vm.findClass M.1.cls = some mi.cls ∧ (∀ w ∈ GT, w.before args s = true) ∧ St g s ∧ (M.1.name = "<init>" → meth.name = "<init>") ∧ (M.2.2.2.2 ≤ R.frames ∧ 40 * M.2.2.2.2 ≤ R.locals) ∧ g.2.2.2.1 ≤ s.heap.size ∧
  (M.1.cls = RL → va_X g.2.2.2.2.1 g.2.2.2.2.2.1 g.2.2.2.2.2.2 s s.heap ∧ g.2.2.2.2.1 < s.heap.size ∧ g.2.2.2.2.1 < g.2.2.2.1)
/-- the return that stands at a place, and its answer -/
def retAt (M : MD) (pc : Nat) (v : Option PV) : Prop := (M.2.2.2.1 = none ∧ v = none ∧ decode M.2.1 pc = .ok (.return_, 1)) ∨ (∃ x, M.2.2.2.1 = some .int ∧ v = some (vI x) ∧ decode M.2.1 pc = .ok (.ireturn, 1)) ∨ (∃ x, M.2.2.2.1 = some .boolean ∧ v = some (vI x) ∧ (x = 0 ∨ x = 1) ∧ decode M.2.1 pc = .ok (.ireturn, 1))
def Ev (g : GC) (M : MD) (pc : Nat) (pl : List (Option PV)) (st : List PV) (m : Mem) (nc ns : Nat) (Post : Option PV → Mem → Prop) : Prop :=
  ∀ (p : Program) (e : Env) (R : Room) (s : State) (mi : MethodId) (args : Array Value) (below : List Frame) (meth : Method) (c : Code), Cx g M p R s mi args meth c →
  ∀ (H : Heap) (locs : List Loc) (cells slots : Nat) (ls : Array Slot) (Q : State → Prop), cells + nc ≤ R.cells → slots + ns ≤ R.slots → (Rep g m H ∧ s.heap.size + cells ≤ g.2.2.2.1 + m.1) → va_S (gA g) s.heap H locs → lv_has ls M.2.2.1 (facts g pl) →
  (∀ (v : Option PV) (m' : Mem) (H' : Heap) (locs' : List Loc) (pcE : Nat) (ls' : Array Slot), Post v m' → retAt M pcE v → (Rep g m' H' ∧ m'.1 = m.1 + nc) → va_S (gA g) s.heap H' locs' → W p g.1 e R s mi args below meth c H' locs' (cells + nc) (slots + ns) Q (F0 mi pcE ls' (v.toList.map (cv g)))) →
  W p g.1 e R s mi args below meth c H locs cells slots Q (F0 mi pc ls (st.map (cv g)))
section EV
variable {g : GC} {M : MD} {pc : Nat} {pl : List (Option PV)} {st : List PV} {m : Mem} {nc ns : Nat} {Post : Option PV → Mem → Prop}
/-- less known of locals, more asked of the end -/
theorem Ev.weak {pl' : List (Option PV)} (h : Ev g M pc pl' st m nc ns Post) (hs : ∀ (k : Nat) (v : PV), pl'[k]? = some (some v) → pl[k]? = some (some v)) : Ev g M pc pl st m nc ns Post := by
  intro p e R s mi args below meth c C H locs cells slots ls Q hc hs' hR hS hl hk
  refine h p e R s mi args below meth c C H locs cells slots ls Q hc hs' hR hS (lv_mono hl fun q hq => ?_) hk
  obtain ⟨v, h1, h2⟩ := facts_mem.mp hq
  exact facts_mem.mpr ⟨v, hs _ _ h1, h2⟩
theorem Ev.mono {Post' : Option PV → Mem → Prop} (h : Ev g M pc pl st m nc ns Post') (hp : ∀ v m', Post' v m' → Post v m') : Ev g M pc pl st m nc ns Post := by
  intro p e R s mi args below meth c C H locs cells slots ls Q hc hs' hR hS hl hk
  exact h p e R s mi args below meth c C H locs cells slots ls Q hc hs' hR hS hl fun v m' H' locs' pcE ls' a => hk v m' H' locs' pcE ls' (hp _ _ a)
theorem Ev.ireturn {x : Int} (hd : decode M.2.1 pc = .ok (.ireturn, 1)) (hr : M.2.2.2.1 = some .int) (h : Post (some (vI x)) m) : Ev g M pc pl [vI x] m 0 0 Post := by
  intro p e R s mi args below meth c C H locs cells slots ls Q hc hs' hR hS hl hk
  exact hk (some (vI x)) m H locs pc ls h (Or.inr (Or.inl ⟨x, hr, rfl, hd⟩)) ⟨hR.1, rfl⟩ hS
theorem Ev.zreturn {x : Int} (hd : decode M.2.1 pc = .ok (.ireturn, 1)) (hr : M.2.2.2.1 = some .boolean) (hx : x = 0 ∨ x = 1) (h : Post (some (vI x)) m) : Ev g M pc pl [vI x] m 0 0 Post := by
  intro p e R s mi args below meth c C H locs cells slots ls Q hc hs' hR hS hl hk
  exact hk (some (vI x)) m H locs pc ls h (Or.inr (Or.inr ⟨x, hr, rfl, hx, hd⟩)) ⟨hR.1, rfl⟩ hS
theorem Ev.vreturn (hd : decode M.2.1 pc = .ok (.return_, 1)) (hr : M.2.2.2.1 = none) (h : Post none m) : Ev g M pc pl [] m 0 0 Post := by
  intro p e R s mi args below meth c C H locs cells slots ls Q hc hs' hR hS hl hk
  exact hk none m H locs pc ls h (Or.inl ⟨hr, rfl, hd⟩) ⟨hR.1, rfl⟩ hS
/-- a step that touches the stack alone -/
theorem Ev.stp {pc' : Nat} {st' : List PV} (h : ∀ (p : Program) (e : Env) (R : Room) (s : State) (mi : MethodId) (args : Array Value) (below : List Frame) (meth : Method) (c : Code), Cx g M p R s mi args meth c →
    ∀ (H : Heap) (locs : List Loc) (cells slots : Nat) (ls : Array Slot) (Q : State → Prop), Rep g m H → va_S (gA g) s.heap H locs → lv_has ls M.2.2.1 (facts g pl) → W p g.1 e R s mi args below meth c H locs cells slots Q (F0 mi pc' ls (st'.map (cv g))) → W p g.1 e R s mi args below meth c H locs cells slots Q (F0 mi pc ls (st.map (cv g))))
    (k : Ev g M pc' pl st' m nc ns Post) : Ev g M pc pl st m nc ns Post := by
  intro p e R s mi args below meth c C H locs cells slots ls Q hc hs' hR hS hl hk
  exact h p e R s mi args below meth c C H locs cells slots ls Q hR.1 hS hl (k p e R s mi args below meth c C H locs cells slots ls Q hc hs' hR hS hl hk)
theorem W_size {p : Program} {l : Launch} {e : Env} {R : Room} {s : State} {mi : MethodId} {args : Array Value} {below : List Frame} {meth : Method} {c : Code} {H : Heap} {locs : List Loc} {cells slots : Nat} {Q : State → Prop} {f : JFrame}
    (h : H.size ≤ s.heap.size + cells → W p l e R s mi args below meth c H locs cells slots Q f) : W p l e R s mi args below meth c H locs cells slots Q f := by
  intro T hT X
  have h1 : T.heap.size ≤ s.heap.size + cells := X.same.2.2.1
  exact h (by rw [← hT]; exact h1) T hT X
/-- the world's cells are all that there is from its beginning on -/
theorem Rep.of {H : Heap} {H0 : Heap} {locs : List Loc} {k : Nat} (hP : va_P g.2.1 vwCl (wl g m) H) (hS : va_S (gA g) H0 H locs) (h0 : g.2.2.2.1 ≤ H0.size) (h1 : H.size ≤ k) (h2 : k ≤ g.2.2.2.1 + m.1) : Rep g m H := by
  refine ⟨hP, ?_⟩
  have h3 : g.2.2.2.1 + m.1 ≤ H.size := by
    by_cases hm : m.1 = 0
    · rw [hm]
      exact Nat.le_trans h0 hS.1
    · have := (hP (m.1 - 1) _ (wl_at (by omega))).lt
      dsimp only at this
      omega
  omega
theorem lo_at {ls : Array Slot} {n k : Nat} {v : PV} (hl : lv_has ls n (facts g pl)) (hk : pl[k]? = some (some v)) : ls[k]? = some (.val (cv g v)) := hl.2.2 (k, cv g v) (facts_mem.mpr ⟨v, hk, rfl⟩)
end EV
