/-! CALLS: a method's run gives its contract, and a contract a row -/
def cpy (x : Nat → Nat → Int) (a b sp dp n : Nat) : Nat → Nat → Int := fun c i => if c = b ∧ dp ≤ i ∧ i < dp + n then x a (sp + (i - dp)) else x c i
def entL : List PV → List (Option PV)
  | [] => []
  | v :: vs => if isL (some v) then some v :: none :: entL vs else some v :: entL vs
def entP (M : MD) (args : List PV) : List (Option PV) := entL args ++ List.replicate (M.2.2.1 - (entL args).length) none
abbrev wsM (M : MD) : List Cond := Cond.code M.1 M.2.1 M.2.2.1 M.2.2.2.1 :: GT
abbrev rmM (M : MD) (nc ns : Nat) : Room := { frames := M.2.2.2.2, cells := nc, slots := ns, locals := 40 * M.2.2.2.2 }
theorem entL_args {g : GC} (args : List PV) : ∀ (i k : Nat) (v : PV), (entL args)[k]? = some (some v) → (i + k, cv g v) ∈ lv_args i (args.map (cv g)) := by
  induction args with
  | nil => intro i k v h; simp [entL] at h
  | cons a as ih =>
    intro i k v h
    rw [List.map_cons, lv_args]
    by_cases hL : isL (some a) = true
    · rw [entL, if_pos hL] at h
      rw [if_pos ((cat_isL a).mpr hL)]
      match k, h with
      | 0, h => cases h; exact List.mem_cons_self
      | 1, h => cases h
      | k + 2, h =>
        have := ih (i + 2) k v h
        rw [show i + 2 + k = i + (k + 2) by omega] at this
        exact List.mem_cons_of_mem _ this
    · rw [entL, if_neg hL] at h
      rw [if_neg (fun z => hL ((cat_isL a).mp z))]
      match k, h with
      | 0, h => cases h; exact List.mem_cons_self
      | k + 1, h =>
        have := ih (i + 1) k v h
        rw [show i + 1 + k = i + (k + 1) by omega] at this
        exact List.mem_cons_of_mem _ this
theorem entL_len {g : GC} (args : List PV) : (lg_sl (args.map (cv g))).length = (entL args).length := by
  induction args with
  | nil => rfl
  | cons a as ih =>
    have e : lg_sl ((a :: as).map (cv g)) = (if (cv g a).category = 2 then [Slot.val (cv g a), Slot.second] else [Slot.val (cv g a)]) ++ lg_sl (as.map (cv g)) := by simp [lg_sl]
    rw [e, List.length_append, ih, entL]
    by_cases hL : isL (some a) = true
    · rw [if_pos ((cat_isL a).mpr hL), if_pos hL]; simp; omega
    · rw [if_neg (fun z => hL ((cat_isL a).mp z)), if_neg hL]; simp; omega
/-- what a method's end is -/
def QM (g : GC) (k nc : Nat) (Post : Option PV → Mem → Prop) : Array Value → State → Outcome → State → Prop := fun _ st o t =>
  (∃ (v : Option PV) (m' : Mem), o = .returned (v.map (cv g)) ∧ Post v m' ∧ m'.1 = k + nc ∧ Rep g m' t.heap) ∧ va_F (gA g) st t
abbrev Pc0 (g : GC) (args : List PV) (m : Mem) : Array Value → State → Prop := va_Pc (args.map (cv g)) (fun U => Rep g m U.heap ∧ St g U)
theorem Pc0_blind {g : GC} {args : List PV} {m : Mem} : FrameBlind (Pc0 g args m) := fun a U f mk h => ⟨h.1, h.2.1, h.2.2.calling f mk a⟩
/-- what a program says of a method: it isn't the law's, its code is among the words -/
def okM (M : MD) : Prop := (plainName M.1.cls = true ∧ M.1.cls ≠ RL) ∧ (M.1.cls ≠ "java/lang/invoke/MethodHandle" ∧ M.1.cls ≠ "java/lang/invoke/VarHandle") ∧ (Cond.code M.1 M.2.1 M.2.2.1 M.2.2.2.1 ∈ lw_tbl ∧ Cond.initialized M.1.cls ∈ lw_tbl) ∧ M.2.2.1 ≤ 21
theorem Ev.met {g : GC} {M : MD} {args : List PV} {m : Mem} {nc ns : Nat} {Post : Option PV → Mem → Prop} (h : Ev g M 0 (entP M args) [] m nc ns Post) (hM : okM M) (hl : (entL args).length ≤ M.2.2.1) : Met g.1 M.1 (wsM M) (rmM M nc ns) (Pc0 g args m) (QM g m.1 nc Post) nc ns (gA g) := by
  refine Met.ofW (cc := M.2.1) (maxL := M.2.2.1) (ret := M.2.2.2.1) hM.1.1 rfl ?_
  intro p e s mi args' below meth c s₁ B hml hv
  obtain ⟨rfl, hR, hSt⟩ := hv
  have hts := atoms_spec (ws := wsM M) B.pre
  have hx := B.exec
  have hb := B.bytes
  have hr := B.returns
  have hlocks := B.notSynchronized
  have C : Cx g M p (rmM M nc ns) s mi (args.map (cv g)).toArray meth c := ⟨hx, hb, hml, findClass_of_methodNamed B.named, fun w hw => hts w (List.mem_cons_of_mem _ hw), hSt, fun hn => ((name_of_methodNamed B.named B.method).1).trans hn, ⟨Nat.le_refl _, Nat.le_refl _⟩, by rw [hR.2]; exact Nat.le_add_right _ _, fun z => absurd z hM.1.2⟩
  rw [lg_entry_eq]
  have hl0 := lv_entry (args.map (cv g)) (n := M.2.2.1) (by rw [entL_len]; exact hl)
  refine h p e (rmM M nc ns) s mi (args.map (cv g)).toArray below meth c C s.heap [] 0 0 _ _ (by show 0 + nc ≤ nc; omega) (by show 0 + ns ≤ ns; omega) ⟨hR, by rw [hR.2]; exact Nat.le_refl _⟩ va_S.rf (lv_mono hl0 fun q hq => ?_) ?_
  · obtain ⟨v, h1, h2⟩ := facts_mem.mp hq
    unfold entP at h1
    by_cases hk : q.1 < (entL args).length
    · rw [List.getElem?_append_left hk] at h1
      have := entL_args (g := g) args 0 q.1 v h1
      rw [Nat.zero_add, h2] at this
      exact this
    · rw [List.getElem?_append_right (by omega), List.getElem?_replicate] at h1
      split at h1 <;> cases h1
  · intro v m' H' locs' pcE ls' hpost hret hR' hS'
    rw [Nat.zero_add, Nat.zero_add]
    rcases hret with ⟨hn, rfl, hd⟩ | ⟨x, hn, rfl, hd⟩ | ⟨x, hn, rfl, hx1, hd⟩
    · exact W.vret hx hb (hr.trans hn) (fun t ht hW => ⟨⟨none, m', rfl, hpost, hR'.2, by rw [ht]; exact hR'.1⟩, hS'.F ht⟩) hS'.2.2 hd
    · exact W.iret (v := Int32.ofInt x) hx hb (hr.trans hn) (fun t ht hW => ⟨⟨some (vI x), m', rfl, hpost, hR'.2, by rw [ht]; exact hR'.1⟩, hS'.F ht⟩) hS'.2.2 hd
    · exact W.zret (v := Int32.ofInt x) (ty := .boolean) hx hb (hr.trans hn) (by rcases hx1 with rfl | rfl <;> rfl) (fun t ht hW => ⟨⟨some (vI x), m', rfl, hpost, hR'.2, by rw [ht]; exact hR'.1⟩, hS'.F ht⟩) hS'.2.2 hd
section EV
variable {g : GC} {M : MD} {pc : Nat} {pl : List (Option PV)} {st : List PV} {m : Mem} {nc ns : Nat} {Post : Option PV → Mem → Prop}
theorem W_call {p : Program} {e : Env} {R : Room} {s : State} {mi : MethodId} {args : Array Value} {below : List Frame} {meth : Method} {c : Code} {H : Heap} {locs : List Loc} {cells slots nc2 ns2 : Nat} {Q : State → Prop} {ls : Array Slot} {st0 rest : List Value} {a : Array Value} {k : Nat} {Post2 : Option PV → Mem → Prop}
    (hr : va_Run p g.1 e R s mi args below meth c H locs cells slots nc2 ns2 (F0 mi pc ls st0) rest (QM g k nc2 Post2 a) (gA g)) (hS : va_S (gA g) s.heap H locs)
    (kk : ∀ (v : Option PV) (m' : Mem) (H1 : Heap) (locs1 : List Loc), Post2 v m' → m'.1 = k + nc2 → Rep g m' H1 → va_S (gA g) s.heap H1 locs1 → W p g.1 e R s mi args below meth c H1 locs1 (cells + nc2) (slots + ns2) Q (F0 mi (pc + 3) ls (v.toList.map (cv g) ++ rest))) :
    W p g.1 e R s mi args below meth c H locs cells slots Q (F0 mi pc ls st0) := by
  intro T hT X
  obtain ⟨v, st₀, t, T', L, h0, X', hL, e1, e2, ⟨⟨w, m', hv, hp, hm, hR⟩, hz, hk⟩, st⟩ := hr T hT X
  have hv2 : v = w.map (cv g) := by injection hv
  rw [h0] at hz hk
  have hS1 : va_S (gA g) s.heap T'.heap (locs ++ L) := ⟨Nat.le_trans hS.1 (by rw [e1]; exact hz), fun q h1 h2 => by rw [e1, hk q (Nat.lt_of_lt_of_le h1 hS.1) h2]; exact hS.2.1 q h1 h2, fun q hq => by
    rcases List.mem_append.mp hq with h | h
    · exact hS.2.2 q h
    · exact hL q h⟩
  obtain ⟨t2, a1, b1⟩ := kk w m' T'.heap (locs ++ L) hp hm (by rw [e1]; exact hR) hS1 T' rfl X'
  refine ⟨t2, st t2 ?_, b1⟩
  have ev : v.toList = w.toList.map (cv g) := by rw [hv2]; cases w <;> rfl
  rw [ev]
  exact a1
/-- words and room of a call -/
theorem GT_wsM {M2 : MD} (h : okM M2) : GoodIn GT (wsM M2) := fun w hw => by
  rcases List.mem_cons.mp hw with rfl | hw
  · have := GT_mem h.2.2.1.1 rfl
    exact ⟨this, good_of_word (GT_good this)⟩
  · exact GT_in w hw
theorem GT_one {w : Cond} (h : w ∈ lw_tbl) (hg : goodWord w = true) : w ∈ GT ∧ ((w.onTables && w.keeps) = true ∨ ∃ ty, w = .arrayClass ty) := ⟨GT_mem h hg, good_of_word hg⟩
theorem room_of {M2 : MD} {R : Room} (hM : okM M2) (hdep : M2.2.2.2.2 + 1 ≤ M.2.2.2.2) (hr : M.2.2.2.2 ≤ R.frames ∧ 40 * M.2.2.2.2 ≤ R.locals) : M2.2.2.2.2 + 1 ≤ R.frames ∧ 8 + (M2.2.2.1 + 11) + 40 * M2.2.2.2.2 ≤ R.locals := by
  have := hM.2.2.2
  omega
theorem Ev.call0 {M2 : MD} {args2 : List PV} {nc2 ns2 : Nat} {Post2 : Option PV → Mem → Prop} {st0 : List PV}
    (h2 : Ev g M2 0 (entP M2 args2) [] m nc2 ns2 Post2) (hM2 : okM M2) (hl2 : (entL args2).length ≤ M2.2.2.1)
    (hrow : Met g.1 M2.1 (wsM M2) (rmM M2 nc2 ns2) (Pc0 g args2 m) (QM g m.1 nc2 Post2) nc2 ns2 (gA g) → ∀ (p : Program) (e : Env) (R : Room) (s : State) (mi : MethodId) (args : Array Value) (below : List Frame) (meth : Method) (c : Code), Cx g M p R s mi args meth c →
      ∀ (H : Heap) (locs : List Loc) (cells slots : Nat) (ls : Array Slot), cells + nc2 ≤ R.cells → slots + ns2 ≤ R.slots → Rep g m H → ls.size = M.2.2.1 → va_Run p g.1 e R s mi args below meth c H locs cells slots nc2 ns2 (F0 mi pc ls (st0.map (cv g))) (st.map (cv g)) (QM g m.1 nc2 Post2 (args2.map (cv g)).toArray) (gA g))
    (kk : ∀ (v : Option PV) (m' : Mem), Post2 v m' → Ev g M (pc + 3) pl (v.toList ++ st) m' nc ns Post) : Ev g M pc pl st0 m (nc2 + nc) (ns2 + ns) Post := by
  intro p e R s mi args below meth c C H locs cells slots ls Q hcr hsr hR hS hl hk
  refine W_call (hrow (h2.met hM2 hl2) p e R s mi args below meth c C H locs cells slots ls (by omega) (by omega) hR.1 hl.1) hS fun v m' H1 locs1 hp hm hR1 hS1 => ?_
  have ee : v.toList.map (cv g) ++ st.map (cv g) = (v.toList ++ st).map (cv g) := by rw [List.map_append]
  rw [ee]
  refine W_size fun hz => kk v m' hp p e R s mi args below meth c C H1 locs1 (cells + nc2) (slots + ns2) ls Q (by omega) (by omega) ⟨hR1, by rw [hm]; have := hR.2; omega⟩ hS1 hl fun v' m'' H' locs' pcE ls' a1 a2 a3 a4 => ?_
  rw [Nat.add_assoc, Nat.add_assoc]
  exact hk v' m'' H' locs' pcE ls' a1 a2 ⟨a3.1, by rw [a3.2, hm]; omega⟩ a4
theorem pre_of {R : Room} {p : Program} {s : State} {mi : MethodId} {args : Array Value} {meth : Method} {c : Code} {H : Heap} {args2 : List PV} (C : Cx g M p R s mi args meth c) (hR : Rep g m H) : ∀ U : State, U.heap = H → s.WarmedH U.vm → Pc0 g args2 m (args2.map (cv g)).toArray U :=
  fun U hU hW => ⟨rfl, by rw [hU]; exact hR, C.2.2.2.2.2.1.warm hW⟩
theorem rcv_of {R : Room} {p : Program} {s : State} {mi : MethodId} {args : Array Value} {meth : Method} {c : Code} {H : Heap} {rcv ci : Nat} {q : vw_C} (C : Cx g M p R s mi args meth c) (hR : Rep g m H) (hq : vwCl[ci]? = some q) (hc : rcv < m.1) (hs : m.2.1 rcv = (0, ci)) :
    ∃ cell : Cell, H[g.2.2.2.1 + rcv]? = some cell ∧ cell.vm.isStatics = false ∧ s.vm.findClass q.1 = some cell.cls := va_recv C.2.2.2.2.2.1.1 hR.1 hq (hR.at hc hs)
def catS (st : List PV) : Nat := (st.map fun v => if isL (some v) then 2 else 1).sum
theorem catS_of {st : List PV} (h : catS st ≤ 8) : ((st.map (cv g)).map fun v => v.category).sum ≤ 8 := by
  refine Nat.le_trans (Nat.le_of_eq ?_) h
  unfold catS
  rw [List.map_map]
  congr 1
  apply List.map_congr_left
  intro v _
  rcases v with x | x | x | x
  · rfl
  · rfl
  · rfl
  · cases x <;> rfl
/-- invokevirtual -/
theorem Ev.callV {idx ci rcv n2 nc2 ns2 : Nat} {M2 : MD} {args2 : List PV} {q : vw_C} {Post2 : Option PV → Mem → Prop} (hd : decode M.2.1 pc = .ok (.invokevirtual idx, 3)) (hM2 : okM M2) (hw : Cond.methodLink M.1.cls idx M2.1 ∈ lw_tbl) (hi : Cond.instanceMethod M2.1 ∈ lw_tbl) (hsel : Cond.selects M2.1.cls M2.1 M2.1 ∈ lw_tbl)
    (hds : (parseMethodDescriptor M2.1.desc).map (fun d => d.parameters.length) = some n2) (hdep : M2.2.2.2.2 + 1 ≤ M.2.2.2.2) (hq : vwCl[ci]? = some q) (hqc : q.1 = M2.1.cls) (hc : rcv < m.1) (hs : m.2.1 rcv = (0, ci)) (hn : args2.length = n2) (hl2 : (entL (vR rcv :: args2)).length ≤ M2.2.2.1) (hcat : catS st ≤ 8)
    (h2 : Ev g M2 0 (entP M2 (vR rcv :: args2)) [] m nc2 ns2 Post2) (kk : ∀ (v : Option PV) (m' : Mem), Post2 v m' → Ev g M (pc + 3) pl (v.toList ++ st) m' nc ns Post) {st0 : List PV} (hst : st0 = args2.reverse ++ vR rcv :: st) : Ev g M pc pl st0 m (nc2 + nc) (ns2 + ns) Post := by
  subst hst
  refine Ev.call0 h2 hM2 hl2 (fun hMet p e R s mi args below meth c C H locs cells slots ls hcr hsr hR hls => ?_) kk
  have hts := C.2.2.2.2.1
  have hG : GoodIn GT (wsV M.1.cls idx M2.1.cls M2.1 (wsM M2)) := by
    intro w hw'
    simp only [wsV, List.mem_append, List.mem_cons, List.not_mem_nil, or_false] at hw'
    rcases hw' with (rfl | rfl | rfl | rfl) | hw'
    · exact GT_one hw rfl
    · exact GT_one hi rfl
    · exact GT_one hsel rfl
    · exact GT_one hM2.2.2.1.2 rfl
    · exact GT_wsM hM2 w (by simpa using hw')
  exact va_runV (As := args2.map (cv g)) (b := g.2.2.2.1 + rcv) (rest := st.map (cv g)) (Ts := GT) ⟨C.1, C.2.1, C.2.2.1, C.2.2.2.1, hts⟩ hMet (cwV n2 hts hG rfl rfl rfl ⟨rfl, hM2.2.1.1, hM2.2.1.2, hds⟩ (room_of hM2 hdep C.2.2.2.2.2.2.2.1)) ⟨Pc0_blind, by rw [← hqc]; exact rcv_of C hR hq hc hs, pre_of (args2 := vR rcv :: args2) C hR⟩ rfl (by simp [hn]) hls (by simp [cv, va_rf]) (lv_room (catS_of hcat)) hd ⟨hcr, hsr⟩
/-- invokestatic, of the own class -/
theorem Ev.callS {idx n2 nc2 ns2 : Nat} {M2 : MD} {args2 : List PV} {Post2 : Option PV → Mem → Prop} (hd : decode M.2.1 pc = .ok (.invokestatic idx, 3)) (hM2 : okM M2) (hw : Cond.methodLink M.1.cls idx M2.1 ∈ lw_tbl) (hi : Cond.static M2.1 ∈ lw_tbl)
    (hds : (parseMethodDescriptor M2.1.desc).map (fun d => d.parameters.length) = some n2) (hdep : M2.2.2.2.2 + 1 ≤ M.2.2.2.2) (hn : args2.length = n2) (hl2 : (entL args2).length ≤ M2.2.2.1) (hcat : catS st ≤ 8)
    (h2 : Ev g M2 0 (entP M2 args2) [] m nc2 ns2 Post2) (kk : ∀ (v : Option PV) (m' : Mem), Post2 v m' → Ev g M (pc + 3) pl (v.toList ++ st) m' nc ns Post) {st0 : List PV} (hst : st0 = args2.reverse ++ st) : Ev g M pc pl st0 m (nc2 + nc) (ns2 + ns) Post := by
  subst hst
  refine Ev.call0 h2 hM2 hl2 (fun hMet p e R s mi args below meth c C H locs cells slots ls hcr hsr hR hls => ?_) kk
  have hts := C.2.2.2.2.1
  exact va_runS (As := args2.map (cv g)) (rest := st.map (cv g)) (Ts := GT) ⟨C.1, C.2.1, C.2.2.1, C.2.2.2.1, hts⟩ hMet ⟨callB_of n2 hts (GT_wsM hM2) rfl rfl rfl (hts _ (GT_mem hM2.2.2.1.2 rfl)) (hts _ (GT_mem hw rfl)) ⟨hM2.2.1.1, hM2.2.1.2, hds⟩ (room_of hM2 hdep C.2.2.2.2.2.2.2.1), hts _ (GT_mem hi rfl)⟩ ⟨Pc0_blind, pre_of C hR⟩ rfl (by simp [hn]) hls (by simp) (lv_room (catS_of hcat)) hd ⟨hcr, hsr⟩
/-- invokestatic, of a nest mate -/
theorem Ev.callSN {idx n2 nc2 ns2 : Nat} {host : String} {M2 : MD} {args2 : List PV} {Post2 : Option PV → Mem → Prop} (hd : decode M.2.1 pc = .ok (.invokestatic idx, 3)) (hM2 : okM M2) (hw : (M.1.cls, idx, M2.1, host) ∈ nestL) (hi : Cond.static M2.1 ∈ lw_tbl)
    (hds : (parseMethodDescriptor M2.1.desc).map (fun d => d.parameters.length) = some n2) (hdep : M2.2.2.2.2 + 1 ≤ M.2.2.2.2) (hn : args2.length = n2) (hl2 : (entL args2).length ≤ M2.2.2.1) (hcat : catS st ≤ 8)
    (h2 : Ev g M2 0 (entP M2 args2) [] m nc2 ns2 Post2) (kk : ∀ (v : Option PV) (m' : Mem), Post2 v m' → Ev g M (pc + 3) pl (v.toList ++ st) m' nc ns Post) {st0 : List PV} (hst : st0 = args2.reverse ++ st) : Ev g M pc pl st0 m (nc2 + nc) (ns2 + ns) Post := by
  subst hst
  refine Ev.call0 h2 hM2 hl2 (fun hMet p e R s mi args below meth c C H locs cells slots ls hcr hsr hR hls => ?_) kk
  have hts := C.2.2.2.2.1
  exact va_runSN (host := host) (As := args2.map (cv g)) (rest := st.map (cv g)) (Ts := GT) ⟨C.1, C.2.1, C.2.2.1, C.2.2.2.1, hts⟩ hMet ⟨va_cnB n2 hts (GT_wsM hM2) rfl rfl rfl (C.2.2.2.2.2.1.2.1 _ hw) (hts _ (GT_mem hM2.2.2.1.2 rfl)) ⟨hM2.2.1.1, hM2.2.1.2, hds⟩ (room_of hM2 hdep C.2.2.2.2.2.2.2.1), hts _ (GT_mem hi rfl), trivial⟩ ⟨Pc0_blind, pre_of C hR⟩ rfl (by simp [hn]) hls (by simp) (lv_room (catS_of hcat)) hd ⟨hcr, hsr⟩
end EV
