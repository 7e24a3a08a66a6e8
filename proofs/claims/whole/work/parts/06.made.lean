/-! WHAT IS MADE: objects, arrays; constructors' calls; arraycopy -/
def up1 {α : Type} (f : Nat → α) (c : Nat) (v : α) : Nat → α := fun c' => if c' = c then v else f c'
/-- one cell more -/
abbrev Mem.more (m : Mem) (k : Nat × Nat) : Mem := (m.1 + 1, up1 m.2.1 m.1 k, up1 m.2.2.1 m.1 (fun _ => 0), up1 m.2.2.2 m.1 (fun _ => none))
theorem up1_ne {α : Type} {f : Nat → α} {c c' : Nat} {v : α} (h : c' ≠ c) : up1 f c v c' = f c' := by simp [up1, h]
theorem up1_at {α : Type} {f : Nat → α} {c : Nat} {v : α} : up1 f c v c = v := by simp [up1]
theorem Rep.more {g : GC} {m : Mem} {H H1 : Heap} {k : Nat × Nat} (hR : Rep g m H) (hz : H1.size = H.size + 1) (ho : ∀ q, q < H.size → H1[q]? = H[q]?) (hat : va_at g.2.1 vwCl (H.size, ent g k (fun _ => 0) (fun _ => none)) H1) : Rep g (m.more k) H1 := by
  refine ⟨?_, by rw [hz, hR.2]; rfl⟩
  obtain ⟨n, sh, x, r⟩ := m
  have e := wl_push (g := g) (n := n) (sh := sh) (sh' := up1 sh n k) (x := x) (x' := up1 x n (fun _ => 0)) (r := r) (r' := up1 r n (fun _ => none)) (e := ent g k (fun _ => 0) (fun _ => none)) (by rw [up1_at, up1_at, up1_at]) (fun c hc => up1_ne (by omega)) (fun c hc => up1_ne (by omega)) (fun c hc => up1_ne (by omega))
  show va_P g.2.1 vwCl (wl g (n + 1, up1 sh n k, up1 x n (fun _ => 0), up1 r n (fun _ => none))) H1
  rw [← e]
  refine (hR.1.kept fun j q hq => ho q.1 (hR.1 j q hq).lt).app fun j q hq => ?_
  have hj : j < 1 := (List.getElem?_eq_some_iff.mp hq).1
  rw [show j = 0 by omega] at hq
  cases hq
  have := hR.2
  dsimp only at this ⊢
  rw [← this]
  exact hat
theorem vaS_more {g : GC} {H0 H H1 : Heap} {locs : List Loc} (hS : va_S (gA g) H0 H locs) (hz : H.size ≤ H1.size) (ho : ∀ q, q < H.size → H1[q]? = H[q]?) : va_S (gA g) H0 H1 locs :=
  ⟨Nat.le_trans hS.1 hz, fun x h1 h2 => (ho x (Nat.lt_of_lt_of_le h1 hS.1)).trans (hS.2.1 x h1 h2), hS.2.2⟩
section EV
variable {g : GC} {M : MD} {pc : Nat} {pl : List (Option PV)} {st : List PV} {m : Mem} {nc ns : Nat} {Post : Option PV → Mem → Prop}
def okT : FieldType → Bool
  | .int => true
  | .boolean => true
  | .long => true
  | .object _ => true
  | .array _ => true
  | _ => false
theorem okT_all : ∀ ci, ci < 9 → ∀ k, k < cNf ci → okT (cty ci k) = true := by decide +kernel
theorem fld_dflt (ci k : Nat) (h : k < cNf ci) (hci : ci < 9) : cv g (fld (cty ci k) 0 none) = defaultValue (cty ci k) := by
  have h1 := okT_all ci hci k h
  generalize cty ci k = t at h1
  cases t <;> first | rfl | (simp [okT] at h1)
theorem Ev.new {idx ci : Nat} {q : vw_C} (hd : decode M.2.1 pc = .ok (.new idx, 3)) (hq : vwCl[ci]? = some q) (hci : ci < 9) (hw1 : Cond.classLink M.1.cls idx q.1 ∈ lw_tbl) (hw2 : Cond.instantiable q.1 q.2.2 ∈ lw_tbl) (hw3 : Cond.initialized q.1 ∈ lw_tbl)
    (kk : Ev g M (pc + 3) pl (vR m.1 :: st) (m.more (0, ci)) nc ns Post) : Ev g M pc pl st m (nc + 1) (ns + q.2.2) Post := by
  intro p e R s mi args below meth c C H locs cells slots ls Q hcr hsr hR hS hl hk
  have ho := clOK hq
  obtain ⟨C1, T1, N1⟩ := q
  have hts := C.2.2.2.2.1
  have hKn := C.2.2.2.2.2.1.1.1 ci _ hq
  refine W.newcK C.1 C.2.1 C.2.2.2.1 (hts _ (GT_mem hw1 rfl)) (hts _ (GT_mem hw2 rfl)) (hts _ (GT_mem hw3 rfl)) rfl hd (by omega) (by dsimp only at hsr ⊢; omega) hKn.2.1 rfl fun H1 kC hkC e1 z1 o1 => ?_
  have hN : N1 = cNf ci := ho.2.2.2
  have hat : va_at g.2.1 vwCl (H.size, ent g (0, ci) (fun _ => 0) (fun _ => none)) H1 := by
    refine ⟨_, hq, (u_born (cty ci) hts ho.1 hKn hkC e1 ho.2.1).to fun j hj => ?_⟩
    have hj2 : j < cNf ci := by rw [← hN]; exact hj
    simp [vp_V, hj2, fld_dflt ci j hj2 hci]
  have hR1 := hR.1.more (k := (0, ci)) z1 o1 hat
  have e3 : (Value.ref H.size :: st.map (cv g)) = ((vR m.1 :: st).map (cv g)) := by rw [hR.1.2]; rfl
  show W p g.1 e R s mi args below meth c H1 locs (cells + 1) (slots + N1) Q (F0 mi (pc + 3) ls (Value.ref H.size :: st.map (cv g)))
  rw [e3]
  refine kk p e R s mi args below meth c C H1 locs (cells + 1) (slots + N1) ls Q (by omega) (by dsimp only at hsr ⊢; omega) ⟨hR1, by have := hR.2; show _ ≤ g.2.2.2.1 + (m.1 + 1); omega⟩ (vaS_more hS (by omega) o1) hl fun v m'' H' locs' pcE ls' a1 a2 a3 a4 => ?_
  rw [show cells + 1 + nc = cells + (nc + 1) by omega, show slots + N1 + ns = slots + (ns + N1) by omega]
  exact hk v m'' H' locs' pcE ls' a1 a2 ⟨a3.1, by rw [a3.2]; show m.1 + 1 + nc = _; omega⟩ a4
/-- the class of an array, by its name -/
theorem St.arr {s : State} (h : St g s) {j : Nat} {ty : FieldType} (hj : (tysG g)[j]? = some (g.2.2.1 (j + 1), ty)) : ArrOfT s (g.2.2.1 (j + 1)) ty ∧ va_RA s (g.2.2.1 (j + 1)) ty := h.1.2 j _ hj
/-- a new array of numbers -/
theorem Ev.newa0 {atype : ArrayType} {j : Nat} {n : Int} (hd : decode M.2.1 pc = .ok (.newarray atype, 2)) (hj : (tysG g)[j]? = some (g.2.2.1 (j + 1), newarray.typeOf atype)) (hw : Cond.arrayClass (newarray.typeOf atype) ∈ lw_tbl) (h0 : 0 ≤ n) (hn : n ≤ 65536) (hby : componentBytes (newarray.typeOf atype) ≤ 8)
    (hent : ∀ N : Nat, ent g (j + 1, N) (fun _ => 0) (fun _ => none) = .inl (g.2.2.1 (j + 1), (N, (ent g (j + 1, N) (fun _ => 0) (fun _ => none)).elim (fun z => z.2.2) (fun _ => .inl fun _ => 0)))) (hcell : ∀ N : Nat, vp_cell (g.2.2.1 (j + 1)) (N, (ent g (j + 1, N) (fun _ => 0) (fun _ => none)).elim (fun z => z.2.2) (fun _ => .inl fun _ => 0)) = arrV (g.2.2.1 (j + 1)) N (fun _ => defaultValue (newarray.typeOf atype)))
    (hra : ∀ (U : State) (cA : ClassId), va_RA U cA (newarray.typeOf atype) → U.vm.findClass ("[" ++ (newarray.typeOf atype).toString) = some cA)
    (kk : Ev g M (pc + 2) pl (vR m.1 :: st) (m.more (j + 1, n.toNat)) nc ns Post) : Ev g M pc pl (vI n :: st) m (nc + 1) (ns + n.toNat) Post := by
  intro p e R s mi args below meth c C H locs cells slots ls Q hcr hsr hR hS hl hk
  have hts := C.2.2.2.2.1
  have hA := C.2.2.2.2.2.1.arr hj
  refine va_newaK C.1 C.2.1 (hts _ (GT_mem hw rfl)) rfl hd rfl (N := n.toNat) (fun z => by have := (i32_neg ⟨by omega, by omega⟩).mp z; omega) (i32_nat h0 (by omega)) (Nat.le_trans (Nat.mul_le_mul (show n.toNat ≤ 65536 by omega) hby) (by decide)) (by omega) (by omega) rfl fun H1 cA e1 z1 o1 hAr hNm => ?_
  have hc : cA = g.2.2.1 (j + 1) := Option.some.inj (hNm.symm.trans (hra s _ hA.2))
  subst hc
  have hat : va_at g.2.1 vwCl (H.size, ent g (j + 1, n.toNat) (fun _ => 0) (fun _ => none)) H1 := by
    rw [hent]
    show H1[H.size]? = some (vp_cell _ _)
    rw [hcell]
    exact e1
  have hR1 := hR.1.more (k := (j + 1, n.toNat)) z1 o1 hat
  have e3 : (Value.ref H.size :: st.map (cv g)) = ((vR m.1 :: st).map (cv g)) := by rw [hR.1.2]; rfl
  show W p g.1 e R s mi args below meth c H1 locs (cells + 1) (slots + n.toNat) Q (F0 mi (pc + 2) ls (Value.ref H.size :: st.map (cv g)))
  rw [e3]
  refine kk p e R s mi args below meth c C H1 locs (cells + 1) (slots + n.toNat) ls Q (by omega) (by omega) ⟨hR1, by have := hR.2; show _ ≤ g.2.2.2.1 + (m.1 + 1); omega⟩ (vaS_more hS (by omega) o1) hl fun v m'' H' locs' pcE ls' a1 a2 a3 a4 => ?_
  rw [show cells + 1 + nc = cells + (nc + 1) by omega, show slots + n.toNat + ns = slots + (ns + n.toNat) by omega]
  exact hk v m'' H' locs' pcE ls' a1 a2 ⟨a3.1, by rw [a3.2]; show m.1 + 1 + nc = _; omega⟩ a4
theorem Ev.newi {n : Int} (hd : decode M.2.1 pc = .ok (.newarray .int, 2)) (h0 : 0 ≤ n) (hn : n ≤ 65536) (kk : Ev g M (pc + 2) pl (vR m.1 :: st) (m.more (1, n.toNat)) nc ns Post) : Ev g M pc pl (vI n :: st) m (nc + 1) (ns + n.toNat) Post :=
  Ev.newa0 (j := 0) hd rfl (by decide +kernel) h0 hn (by decide) (fun _ => rfl) (fun _ => rfl) (fun _ _ h => h) kk
theorem Ev.newz {n : Int} (hd : decode M.2.1 pc = .ok (.newarray .boolean, 2)) (h0 : 0 ≤ n) (hn : n ≤ 65536) (kk : Ev g M (pc + 2) pl (vR m.1 :: st) (m.more (2, n.toNat)) nc ns Post) : Ev g M pc pl (vI n :: st) m (nc + 1) (ns + n.toNat) Post :=
  Ev.newa0 (j := 1) hd rfl (by decide +kernel) h0 hn (by decide) (fun _ => rfl) (fun _ => rfl) (fun _ _ h => h) kk
theorem Ev.newl {n : Int} (hd : decode M.2.1 pc = .ok (.newarray .long, 2)) (h0 : 0 ≤ n) (hn : n ≤ 65536) (kk : Ev g M (pc + 2) pl (vR m.1 :: st) (m.more (3, n.toNat)) nc ns Post) : Ev g M pc pl (vI n :: st) m (nc + 1) (ns + n.toNat) Post :=
  Ev.newa0 (j := 2) hd rfl (by decide +kernel) h0 hn (by decide) (fun _ => rfl) (fun _ => rfl) (fun _ _ h => h) kk
/-- new Rule[n] -/
theorem Ev.newr {idx : Nat} {n : Int} (hd : decode M.2.1 pc = .ok (.anewarray idx, 3)) (hw : Cond.classLink M.1.cls idx RX3 ∈ lw_tbl) (h0 : 0 ≤ n) (hn : n ≤ 65536)
    (kk : Ev g M (pc + 3) pl (vR m.1 :: st) (m.more (4, n.toNat)) nc ns Post) : Ev g M pc pl (vI n :: st) m (nc + 1) (ns + n.toNat) Post := by
  intro p e R s mi args below meth c C H locs cells slots ls Q hcr hsr hR hS hl hk
  have hts := C.2.2.2.2.1
  have hA := C.2.2.2.2.2.1.arr (j := 3) rfl
  have hnn : (Int32.ofInt n).toNatClampNeg = n.toNat := i32_nat h0 (by omega)
  refine W.anew C.1 C.2.1 C.2.2.2.1 (hts _ (GT_mem hw rfl)) (va_AO.use C.2.2.2.2.2.1.2.2.1) rfl hd rfl (fun z => by have := (i32_neg ⟨by omega, by omega⟩).mp z; omega) (by rw [hnn]; omega) (by omega) (by rw [hnn]; omega) fun cA kA comp f1 f2 f3 f4 => ?_
  rw [hnn]
  have hc : cA = g.2.2.1 4 := by
    obtain ⟨_, _, _, _, _, h4⟩ := hA.2
    exact Option.some.inj (f1.symm.trans h4)
  subst hc
  generalize hH1 : H.push ({ cls := g.2.2.1 4, slots := Array.replicate n.toNat .null, vm := .none } : Cell) = H1
  have z1 : H1.size = H.size + 1 := by rw [← hH1, Array.size_push]
  have e1 : H1[H.size]? = some (arrV (g.2.2.1 4) n.toNat (fun _ => .null)) := by rw [← hH1, Array.getElem?_push_size, ← arrV_new]
  have o1 : ∀ q : Nat, q < H.size → H1[q]? = H[q]? := fun q hq => by rw [← hH1, Array.getElem?_push, if_neg (Nat.ne_of_lt hq)]
  have hR1 := hR.1.more (k := (4, n.toNat)) z1 o1 e1
  have e3 : (Value.ref H.size :: st.map (cv g)) = ((vR m.1 :: st).map (cv g)) := by rw [hR.1.2]; rfl
  show W p g.1 e R s mi args below meth c H1 locs (cells + 1) (slots + n.toNat) Q (F0 mi (pc + 3) ls (Value.ref H.size :: st.map (cv g)))
  rw [e3]
  refine kk p e R s mi args below meth c C H1 locs (cells + 1) (slots + n.toNat) ls Q (by omega) (by omega) ⟨hR1, by have := hR.2; show _ ≤ g.2.2.2.1 + (m.1 + 1); omega⟩ (vaS_more hS (by omega) o1) hl fun v m'' H' locs' pcE ls' a1 a2 a3 a4 => ?_
  rw [show cells + 1 + nc = cells + (nc + 1) by omega, show slots + n.toNat + ns = slots + (ns + n.toNat) by omega]
  exact hk v m'' H' locs' pcE ls' a1 a2 ⟨a3.1, by rw [a3.2]; show m.1 + 1 + nc = _; omega⟩ a4
/-- Object.<init> -/
theorem Ev.objI {idx c : Nat} (hd : decode M.2.1 pc = .ok (.invokespecial idx, 3)) (hw : Cond.methodLink M.1.cls idx Lib.objectInit ∈ lw_tbl) (hdep : 1 ≤ M.2.2.2.2) (hcat : catS st ≤ 8) (kk : Ev g M (pc + 3) pl st m nc ns Post) : Ev g M pc pl (vR c :: st) m nc ns Post := by
  refine Ev.stp (fun p e R s mi args below meth c9 C H locs cells slots ls Q hR hS hl kk => ?_) kk
  have hts := C.2.2.2.2.1
  have h1 := C.2.2.2.2.2.2.2.1
  have hr : 1 ≤ R.frames ∧ 40 ≤ R.locals := by omega
  have h2 := lv_room (m := mi) (pc := pc) (ls := ls) (rest := (vR c :: st).map (cv g)) (catS_of (g := g) hcat)
  exact W.objInit C.1 C.2.1 C.2.2.2.1 (hts _ (GT_mem hw rfl)) (hts _ (GT_mem (by decide +kernel) rfl)) (hts _ (GT_mem (by decide +kernel) rfl)) rfl (by rw [C.2.2.1]; exact hl.1) rfl hd hr.1 (by omega) kk
/-- constructors -/
theorem Ev.callI {idx rcv n2 nc2 ns2 : Nat} {M2 : MD} {args2 : List PV} {Post2 : Option PV → Mem → Prop} (hd : decode M.2.1 pc = .ok (.invokespecial idx, 3)) (hM2 : okM M2) (hret : M2.2.2.2.1 = none) (hini : M2.1.name = "<init>") (hw : Cond.methodLink M.1.cls idx M2.1 ∈ lw_tbl) (hi : Cond.instanceMethod M2.1 ∈ lw_tbl)
    (hds : (parseMethodDescriptor M2.1.desc).map (fun d => d.parameters.length) = some n2) (hdep : M2.2.2.2.2 + 1 ≤ M.2.2.2.2) (hn : args2.length = n2) (hl2 : (entL (vR rcv :: args2)).length ≤ M2.2.2.1) (hcat : catS st ≤ 8)
    (h2 : Ev g M2 0 (entP M2 (vR rcv :: args2)) [] m nc2 ns2 Post2) (kk : ∀ (v : Option PV) (m' : Mem), Post2 v m' → Ev g M (pc + 3) pl (v.toList ++ st) m' nc ns Post) {st0 : List PV} (hst : st0 = args2.reverse ++ vR rcv :: st) : Ev g M pc pl st0 m (nc2 + nc) (ns2 + ns) Post := by
  subst hst
  refine Ev.call0 h2 hM2 hl2 (fun hMet p e R s mi args below meth c C H locs cells slots ls hcr hsr hR hls => ?_) kk
  have hts := C.2.2.2.2.1
  exact va_runI (bytes := M2.2.1) (maxL := M2.2.2.1) (As := args2.map (cv g)) (b := g.2.2.2.1 + rcv) (rest := st.map (cv g)) (Ts := GT) ⟨C.1, C.2.1, C.2.2.1, C.2.2.2.1, hts⟩ hMet ⟨callB_of (ws' := GT) n2 hts (GT_wsM hM2) (by rw [← hret]) rfl rfl (hts _ (GT_mem hM2.2.2.1.2 rfl)) (hts _ (GT_mem hw rfl)) ⟨hM2.2.1.1, hM2.2.1.2, hds⟩ (room_of hM2 hdep C.2.2.2.2.2.2.2.1), hini, hts _ (GT_mem hi rfl)⟩ ⟨Pc0_blind, pre_of (args2 := vR rcv :: args2) C hR⟩ rfl (by simp [hn]) hls (by simp [cv, va_rf]) (lv_room (catS_of hcat)) hd ⟨hcr, hsr⟩
theorem Ev.callIN {idx rcv n2 nc2 ns2 : Nat} {host : String} {M2 : MD} {args2 : List PV} {Post2 : Option PV → Mem → Prop} (hd : decode M.2.1 pc = .ok (.invokespecial idx, 3)) (hM2 : okM M2) (hret : M2.2.2.2.1 = none) (hini : M2.1.name = "<init>") (hw : (M.1.cls, idx, M2.1, host) ∈ nestL) (hi : Cond.instanceMethod M2.1 ∈ lw_tbl)
    (hds : (parseMethodDescriptor M2.1.desc).map (fun d => d.parameters.length) = some n2) (hdep : M2.2.2.2.2 + 1 ≤ M.2.2.2.2) (hn : args2.length = n2) (hl2 : (entL (vR rcv :: args2)).length ≤ M2.2.2.1) (hcat : catS st ≤ 8)
    (h2 : Ev g M2 0 (entP M2 (vR rcv :: args2)) [] m nc2 ns2 Post2) (kk : ∀ (v : Option PV) (m' : Mem), Post2 v m' → Ev g M (pc + 3) pl (v.toList ++ st) m' nc ns Post) {st0 : List PV} (hst : st0 = args2.reverse ++ vR rcv :: st) : Ev g M pc pl st0 m (nc2 + nc) (ns2 + ns) Post := by
  subst hst
  refine Ev.call0 h2 hM2 hl2 (fun hMet p e R s mi args below meth c C H locs cells slots ls hcr hsr hR hls => ?_) kk
  have hts := C.2.2.2.2.1
  exact va_runIN (host := host) (bytes := M2.2.1) (maxL := M2.2.2.1) (As := args2.map (cv g)) (b := g.2.2.2.1 + rcv) (rest := st.map (cv g)) (Ts := GT) ⟨C.1, C.2.1, C.2.2.1, C.2.2.2.1, hts⟩ hMet ⟨va_cnB (ws' := GT) n2 hts (GT_wsM hM2) (by rw [← hret]) rfl rfl (C.2.2.2.2.2.1.2.1 _ hw) (hts _ (GT_mem hM2.2.2.1.2 rfl)) ⟨hM2.2.1.1, hM2.2.1.2, hds⟩ (room_of hM2 hdep C.2.2.2.2.2.2.2.1), hini, hts _ (GT_mem hi rfl)⟩ ⟨Pc0_blind, pre_of (args2 := vR rcv :: args2) C hR⟩ rfl (by simp [hn]) hls (by simp [cv, va_rf]) (lv_room (catS_of hcat)) hd ⟨hcr, hsr⟩
/-- System.arraycopy, of numbers -/
theorem Ev.copyi {idx a b na nb : Nat} {sp dp n : Int} (hd : decode M.2.1 pc = .ok (.invokestatic idx, 3)) (hw : Cond.methodLink M.1.cls idx arraycopyName ∈ lw_tbl) (hdep : 1 ≤ M.2.2.2.2) (hna : na ≤ 65536) (hnb : nb ≤ 65536) (ha : a < m.1) (hsa : m.2.1 a = (1, na)) (hb : b < m.1) (hsb : m.2.1 b = (1, nb)) (h1 : 0 ≤ sp) (h2 : 0 ≤ dp) (h3 : 0 ≤ n) (h4 : sp + n ≤ na) (h5 : dp + n ≤ nb)
    (kk : Ev g M (pc + 3) pl [] (m.1, m.2.1, cpy m.2.2.1 a b sp.toNat dp.toNat n.toNat, m.2.2.2) nc ns Post) : Ev g M pc pl [vI n, vI dp, vR b, vI sp, vR a] m nc ns Post := by
  intro p e R s mi args below meth c C H locs cells slots ls Q hcr hsr hR hS hl hk
  have hts := C.2.2.2.2.1
  have hfr := C.2.2.2.2.2.2.2.1
  have e1 : (Int32.ofInt sp).toNatClampNeg = sp.toNat := i32_nat h1 (by omega)
  have e2 : (Int32.ofInt dp).toNatClampNeg = dp.toNat := i32_nat h2 (by omega)
  have e3 : (Int32.ofInt n).toNatClampNeg = n.toNat := i32_nat h3 (by omega)
  have neg : ∀ z : Int, 0 ≤ z → z ≤ 65536 → ¬ Int32.ofInt z < 0 := fun z q1 q2 q => by have := (i32_neg ⟨by omega, by omega⟩).mp q; omega
  refine va_copyi (rest := []) (ty := .int) C.1 C.2.1 (by rw [C.2.2.1]; exact hl.1.symm) C.2.2.2.1 (hts _ (GT_mem hw rfl)) (hts _ (GT_mem (by decide +kernel) rfl)) (hts _ (GT_mem (by decide +kernel) rfl)) (hts _ (GT_mem (by decide +kernel) rfl)) C.2.2.2.2.2.1.1 hR.1.1 wl_D hS a b 0 0 (hR.1.at ha hsa) (hR.1.at hb hsb) tys_at.1 tys_at.1 rfl (neg _ h1 (by omega)) (neg _ h2 (by omega)) (neg _ h3 (by omega)) (by rw [e1, e3]; omega) (by rw [e2, e3]; omega) (fun _ _ => rfl) (by omega) (by show 0 + (nativeFrameWords "java/lang/System" "arraycopy" 5 + 11) ≤ _; rw [show nativeFrameWords "java/lang/System" "arraycopy" 5 = 7 from by decide +kernel]; omega) hd fun H1 locs1 hP1 _ hS1 => ?_
  obtain ⟨n0, sh, x, r⟩ := m
  rw [e1, e2, e3] at hP1
  rw [wl_set (sh := sh) (x := x) (x' := cpy x a b sp.toNat dp.toNat n.toNat) (r := r) (r' := r) hb (by
    rw [show sh b = (1, nb) from hsb, ent_i]
    congr 3
    congr 1
    funext k
    unfold cpy va_cpy
    by_cases hk : dp.toNat ≤ k ∧ k < dp.toNat + n.toNat
    · rw [if_pos ⟨rfl, hk⟩, if_pos hk]
    · rw [if_neg (fun z => hk z.2), if_neg hk]) (fun c' h => by funext k; simp [cpy, h]) (fun _ _ => rfl)] at hP1
  exact W_size fun hz => kk p e R s mi args below meth c C H1 locs1 cells slots ls Q hcr hsr ⟨Rep.of hP1 hS1 C.2.2.2.2.2.2.2.2.1 hz hR.2, hR.2⟩ hS1 hl hk
end EV
