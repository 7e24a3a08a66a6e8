/-! THE CLAIM OUT OF ONE WALK OF THE LAW'S BODY. Your part is whole_start (and what it stands on); all else here is the same for every law, but numbers. -/
def R_law : String := "NarrowingKernelLaw"
def lw_P (b : Addr) (xs : List Int32) (args : Array Value) (s : State) : Prop := args = #[.ref b] ∧ s.IntsAt b xs ∧ xs.length ≤ 3072 ∧ (Jvm.Cond.and given_1 narrow_1).before args s = true
def lw_Q (_ : Array Value) (s : State) (o : Outcome) (t : State) : Prop := o = .returned (some (.int 1)) ∧ Framed s o t [] 600000 7302250
def lw_Z (below : List Frame) (a : Array Value) (s : State) : State → Prop := fun t => ∃ o, t.status = .running ∧ Ended t below o ∧ lw_Q a s o t
/-- the law's own end, with 1 on the stack, nothing written that was there before, its room as the claim has it -/
theorem lw_ret {p : Program} {l : Launch} {e : Env} {s : State} {m : MethodId} {below : List Frame} {meth : Method} {c : Code} {b : Nat} (hx : p.tables.exec = Jvm.exec) (hb : c.code = code) (hr : meth.sig.returnType = ret) (hlocks : meth.locks = false) {pc : Nat} {H : Heap} {ls : Array Slot} (hdg : decode code pc = .ok (.ireturn, 1)) : W p l e room_1 s m #[Value.ref b] below meth c H [] 600000 7302250 (lw_Z below #[Value.ref b] s) (F0 m pc ls [.int 1]) := by
  intro T hT X
  obtain ⟨fs, hret, hrun, hended, hW, hframe⟩ := X.leave (v := some (.int 1)) (hlocks := hlocks) (fun h => by rw [hr] at h; cases h)
  have hmeth' : T.vm.method? m = some meth := X.method'
  refine ⟨T.setFrames fs, ?_, .returned (some (.int 1)), hrun, hended, rfl, ⟨_, rfl⟩, hW, hframe⟩
  jvm_step X.here [X.here.top, hx, hb, hdg, hmeth', hr, ret, narrow_b1]
  (try refine ⟨rfl, ?_⟩); (try refine ⟨rfl, ?_⟩)
  first | (intro acts; rw [hret _ acts rfl rfl rfl]) | rw [hret _ _ rfl rfl rfl]
  exact Steps.refl _
/-- what holds at the law's entry: the machine, the code, the tables' words (any of lw_tbl by 'hts w (by decide +kernel)'), the script of L ints xs at the cell b, what the Statement gives of the start (any of its parts by flat_of_before) -/
def lw_At (p : Program) (s : State) (m : MethodId) (meth : Method) (c : Code) (b L : Nat) (xs : Nat → Int32) : Prop :=
  p.tables.exec = Jvm.exec ∧ c.code = code ∧ meth.sig.returnType = ret ∧ c.maxLocals = 4 ∧ s.vm.findClass R_law = some m.cls ∧ (∀ w ∈ lw_tbl, w.before #[Value.ref b] s = true) ∧ va_X b L xs s s.heap ∧ b < s.heap.size ∧ meth.locks = false ∧ (Jvm.Cond.and given_1 narrow_1).before #[Value.ref b] s = true
/-! FROM THE LAW'S RUN OVER CELLS TO THE MACHINE'S -/
def lenK (k : Nat × Nat) : Nat := if k.1 = 0 then cNf k.2 else k.2
theorem ent_congr {g : GC} {k : Nat × Nat} {x x' : Nat → Int} {r r' : Nat → Option Nat} (hx : ∀ i, i < lenK k → x i = x' i) (hr : ∀ i, i < lenK k → r i = r' i) (q : Nat) (H : Heap) (h : va_at g.2.1 vwCl (q, ent g k x r) H) : va_at g.2.1 vwCl (q, ent g k x' r') H := by
  have arr : ∀ (cA : ClassId) (n : Nat) (f f' : Nat → Value), (∀ i, i < n → f i = f' i) → arrV cA n f = arrV cA n f' := by
    intro cA n f f' hf
    unfold arrV
    congr 1
    apply Array.ext
    · simp
    · intro i h1 h2
      simp at h1
      simp [hf i h1]
  obtain ⟨d, n⟩ := k
  match d, h with
  | 0, h =>
    have e : (List.range (cNf n)).map (fun j => cv g (fld (cty n j) (x j) (r j))) = (List.range (cNf n)).map (fun j => cv g (fld (cty n j) (x' j) (r' j))) := by
      apply List.map_congr_left
      intro j hj
      have hj : j < cNf n := by simpa using hj
      rw [hx j hj, hr j hj]
    rw [ent_obj] at h ⊢
    rw [← e]
    exact h
  | 1, h =>
    have e := arr (g.2.2.1 1) n (fun j => .int (Int32.ofInt (x j))) (fun j => .int (Int32.ofInt (x' j))) (fun i hi => by rw [hx i hi])
    exact h.trans (congrArg some e)
  | 2, h =>
    have e := arr (g.2.2.1 2) n (fun j => .int (Int32.ofInt (x j))) (fun j => .int (Int32.ofInt (x' j))) (fun i hi => by rw [hx i hi])
    exact h.trans (congrArg some e)
  | 3, h =>
    have e := arr (g.2.2.1 3) n (fun j => .long (Int64.ofInt (x j))) (fun j => .long (Int64.ofInt (x' j))) (fun i hi => by rw [hx i hi])
    exact h.trans (congrArg some e)
  | 4, h =>
    have e := arr (g.2.2.1 4) n (fun j => va_rf ((r j).map (g.2.2.2.1 + ·))) (fun j => va_rf ((r' j).map (g.2.2.2.1 + ·))) (fun i hi => by rw [hr i hi])
    exact h.trans (congrArg some e)
  | d + 5, h =>
    have e := arr (g.2.2.1 5) n (fun j => va_rf ((r j).map (g.2.2.2.1 + ·))) (fun j => va_rf ((r' j).map (g.2.2.2.1 + ·))) (fun i hi => by rw [hr i hi])
    exact h.trans (congrArg some e)
theorem Rep.congr {g : GC} {a b : Mem} {H : Heap} (h : memE a b = true) (hR : Rep g a H) : Rep g b H := by
  simp only [memE, Bool.and_eq_true, beq_iff_eq, List.all_eq_true, List.mem_range] at h
  obtain ⟨h1, h2⟩ := h
  refine ⟨fun k q hq => ?_, by rw [hR.2, h1]⟩
  have hk : k < b.1 := by
    have := (List.getElem?_eq_some_iff.mp hq).1
    simpa [wl] using this
  rw [wl_at hk] at hq
  cases hq
  obtain ⟨h3, h4⟩ := h2 k (by omega)
  rw [← h3]
  exact ent_congr (fun i hi => (h4 i hi).1) (fun i hi => (h4 i hi).2) _ _ (hR.1 k _ (wl_at (by omega)))
theorem Ev.congr {g : GC} {M : MD} {pc : Nat} {pl : List (Option PV)} {st : List PV} {a b : Mem} {nc ns : Nat} {Post : Option PV → Mem → Prop} (h : memE a b = true) (k : Ev g M pc pl st b nc ns Post) : Ev g M pc pl st a nc ns Post := by
  have h1 : a.1 = b.1 := by
    simp only [memE, Bool.and_eq_true, beq_iff_eq] at h
    exact h.1
  intro p e R s mi args below meth c C H locs cells slots ls Q hc hs' hR hS hl hk
  exact k p e R s mi args below meth c C H locs cells slots ls Q hc hs' ⟨hR.1.congr h, by rw [← h1]; exact hR.2⟩ hS hl fun v m' H' locs' pcE ls' a1 a2 a3 a4 => hk v m' H' locs' pcE ls' a1 a2 ⟨a3.1, by rw [h1]; exact a3.2⟩ a4
abbrev memZ : Mem := (0, fun _ => (0, 0), fun _ _ => 0, fun _ _ => none)
/-- the law's run, over cells, is all that is owed -/
def LawRun (g : GC) : Prop := g.2.2.2.2.2.1 ≤ 3072 → Ev g mL_law 0 [some vS, none, none, none] [] memZ 298 3850 (fun v _ => v = some (vI 1))
theorem arrOf_of {s : State} {cA : ClassId} {kA : Class} {comp : ClassId} {ty : FieldType} (h2 : s.vm.classes[cA]? = some kA) (h3 : kA.kind = .array comp ty) : ArrOfT s cA ty := fun n z => ⟨fun k h => (by cases h), kA, h2, comp, h3⟩
theorem inst_all : ∀ q ∈ vwCl, Cond.instantiable q.1 q.2.2 ∈ lw_tbl := by decide +kernel
theorem nest_all : ∀ q ∈ nestL, Cond.methodLinkNest q.1 q.2.1 q.2.2.1 q.2.2.2 ∈ lw_tbl := by decide +kernel
theorem top_of (hlaw : ∀ g, LawRun g) {p : Program} {e : Env} {s : State} {m : MethodId} {below : List Frame} {meth : Method} {c : Code} (l : Launch) {b L : Nat} {xs : Nat → Int32} (hL : L ≤ 3072) (C0 : lw_At p s m meth c b L xs) : W p l e room_1 s m #[Value.ref b] below meth c s.heap [] 0 0 (lw_Z below #[Value.ref b] s) (entryFrame m ([Value.ref b] : List Value).toArray 4) := by
  obtain ⟨hx, hb, hr, hml, hown, hts, hX, hbl, hlocks, hgv⟩ := C0
  have hts2 : ∀ w ∈ GT, w.before #[Value.ref b] s = true := fun w hw => hts w (List.mem_filter.mp hw).1
  have hall : ∀ k : Nat, ∃ (cC : ClassId) (iS : Nat → Nat), ∀ q, vwCl[k]? = some q → u_Kn s q.1 q.2.1 q.2.2 cC iS := by
    intro k
    cases hq : vwCl[k]? with
    | none => exact ⟨0, fun _ => 0, fun q h => by cases h⟩
    | some q =>
      have ho := clOK hq
      have hin : Cond.instantiable q.1 q.2.2 ∈ lw_tbl := by
        have hk : k < 9 := (List.getElem?_eq_some_iff.mp hq).1
        have hm : q ∈ vwCl := List.mem_of_getElem? hq
        exact inst_all q hm
      obtain ⟨cC, iS, h⟩ := u_known (C := q.1) (T := q.2.1) (N := q.2.2) (n := q.2.2) hts2 ho.1 (hts _ hin)
      exact ⟨cC, iS, fun q' h' => by cases h'; exact h⟩
  obtain ⟨dC, hdC⟩ := Classical.axiomOfChoice hall
  obtain ⟨dI, hdI⟩ := Classical.axiomOfChoice hdC
  have arrP : ∀ ty, Cond.arrayClass ty ∈ lw_tbl → ∃ cA, ArrOfT s cA ty ∧ s.vm.findClass ("[" ++ ty.toString) = some cA := by
    intro ty hty
    obtain ⟨cA, kA, comp, h1, h2, h3⟩ := Cond.arrayClass_spec (hts _ hty)
    exact ⟨cA, arrOf_of h2 h3, h1⟩
  obtain ⟨a1, a1A, a1N⟩ := arrP .int (tbl_i 49 (by decide +kernel))
  obtain ⟨a2, a2A, a2N⟩ := arrP .boolean (tbl_i 791 (by decide +kernel))
  obtain ⟨a3, a3A, a3N⟩ := arrP .long (tbl_i 196 (by decide +kernel))
  have ov4 := hts (.arrayOver (.object RX3)) (tbl_i 23 (by decide +kernel))
  have ov5 := hts (.arrayOver (.array .int)) (tbl_i 31 (by decide +kernel))
  obtain ⟨comp4, a4, k4, f41, -, f43, f44, f45⟩ := Cond.arrayOver_spec ov4
  obtain ⟨comp5, a5, k5, f51, f53, f54, f55⟩ := Cond.arrayOver_specA ov5
  let A : Nat → ClassId := fun k => if k = 1 then a1 else if k = 2 then a2 else if k = 3 then a3 else if k = 4 then a4 else a5
  have hSt : ∀ (N0 : Nat), St (l, (dC, dI), A, N0, b, L, xs) s := by
    intro N0
    refine ⟨⟨fun k q hq => hdI k q hq, fun k q hq => ?_⟩, fun q hq => va_Nw.of rfl (hts _ (nest_all q hq)), va_AO.of ov4, va_AOA.of ov5⟩
    match k, hq with
    | 0, hq => cases hq; exact ⟨a1A, a1N⟩
    | 1, hq => cases hq; exact ⟨a2A, a2N⟩
    | 2, hq => cases hq; exact ⟨a3A, a3N⟩
    | 3, hq => cases hq; exact ⟨arrOf_of f43 f44, k4, comp4, f43, f44, f41, f45⟩
    | 4, hq => cases hq; exact ⟨arrOf_of f53 f54, f55⟩
    | k + 5, hq => simp [tysG] at hq
  have C : Cx (l, (dC, dI), A, s.heap.size, b, L, xs) mL_law p room_1 s m #[Value.ref b] meth c := ⟨hx, hb, hml, hown, hts2, hSt _, fun h => absurd h (by decide), ⟨by decide, by decide⟩, Nat.le_refl _, fun _ => ⟨hX, hbl, hbl⟩⟩
  rw [lg_entry_eq]
  have hl0 := lv_entry [Value.ref b] (n := 4) (Nat.le_of_ble_eq_true rfl)
  refine hlaw (l, (dC, dI), A, s.heap.size, b, L, xs) hL p e room_1 s m #[Value.ref b] below meth c C s.heap [] 0 0 _ _ (by decide) (by decide) ⟨⟨fun k q hq => by simp [wl] at hq, by simp⟩, by simp⟩ va_S.rf (lv_mono hl0 fun q hq => ?_) ?_
  · obtain ⟨v, h1, h2⟩ := facts_mem.mp hq
    obtain ⟨k, w⟩ := q
    match k, h1 with
    | 0, h1 => cases h1; cases h2; exact List.mem_cons_self
    | 1, h1 => cases h1
    | 2, h1 => cases h1
    | 3, h1 => cases h1
    | k + 4, h1 => simp at h1
  · intro v m' H' locs' pcE ls' hpost hret hR' hS'
    subst hpost
    refine va_forget (fun q hq => hS'.2.2 q hq) ?_
    refine W.widen (k := 600000) (n := 7302250) (by decide) (by decide) ?_
    rcases hret with ⟨h, -⟩ | ⟨x, h, h1, h2⟩ | ⟨x, h, h1, -, h2⟩
    · cases h
    · cases h
    · exact lw_ret hx hb hr hlocks h2
