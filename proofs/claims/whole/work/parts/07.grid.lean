/-! new int[n][k] -/
abbrev Mem.grid (m : Mem) (n k : Nat) : Mem := (m.1 + 1 + n, fun c => if c < m.1 then m.2.1 c else if c = m.1 then (5, n) else (1, k), fun c => if c < m.1 then m.2.2.1 c else fun _ => 0, fun c => if c < m.1 then m.2.2.2 c else if c = m.1 then fun i => if i < n then some (m.1 + 1 + i) else none else fun _ => none)
section EV
variable {g : GC} {M : MD} {pc : Nat} {pl : List (Option PV)} {st : List PV} {m : Mem} {nc ns : Nat} {Post : Option PV → Mem → Prop}
theorem Ev.newm {idx : Nat} {n k : Int} (hd : decode M.2.1 pc = .ok (.multianewarray idx 2, 4)) (hw : Cond.classLink M.1.cls idx ("[" ++ (FieldType.array .int).toString) ∈ lw_tbl) (h0 : 0 ≤ n) (hn : n ≤ 65536) (h1 : 0 ≤ k) (hk : k ≤ 65536)
    (kk : Ev g M (pc + 4) pl (vR m.1 :: st) (m.grid n.toNat k.toNat) nc ns Post) : Ev g M pc pl (vI k :: vI n :: st) m (nc + (1 + n.toNat)) (ns + (n.toNat + n.toNat * k.toNat)) Post := by
  intro p e R s mi args below meth c C H locs cells slots ls Q hcr hsr hR hS hl hk9
  have hts := C.2.2.2.2.1
  have hA5 := C.2.2.2.2.2.1.arr (j := 4) rfl
  have hA1 := C.2.2.2.2.2.1.arr (j := 0) rfl
  have en : (Int32.ofInt n).toNatClampNeg = n.toNat := i32_nat h0 (by omega)
  have ek : (Int32.ofInt k).toNatClampNeg = k.toNat := i32_nat h1 (by omega)
  have neg : ∀ z : Int, 0 ≤ z → z ≤ 65536 → ¬ Int32.ofInt z < 0 := fun z q1 q2 q => by have := (i32_neg ⟨by omega, by omega⟩).mp q; omega
  intro T hT Xs
  obtain ⟨vm₁, cA, comp, -, fA, fC, hO, -, X', step⟩ := Xs.multianewarray2F C.1 C.2.2.2.1 (hts _ (GT_mem hw rfl)) (va_AOA.use C.2.2.2.2.2.1.2.2.2) (hts _ (GT_mem (by decide +kernel) rfl)) (g := F0 mi pc ls ((vI k :: vI n :: st).map (cv g))) rfl (by rw [C.2.1]; exact hd) rfl (neg n h0 hn) (neg k h1 hk) (by rw [en]; omega) (by rw [ek]; exact Nat.le_trans (Nat.mul_le_mul (show k.toNat ≤ 65536 by omega) (show componentBytes .int ≤ 8 by decide)) (by decide)) (by rw [ek]; omega) rfl rfl (by rw [en]; omega) (by rw [en, ek]; omega)
  rw [en, ek] at X' step
  have hcA : cA = g.2.2.1 5 := Option.some.inj (fA.symm.trans hA5.2)
  have hcC : comp = g.2.2.1 1 := Option.some.inj (fC.symm.trans hA1.2)
  subst hcA
  subst hcC
  generalize hF : Jvm.Free.Multi.fill (T.setVm vm₁) (g.2.2.1 5) (g.2.2.1 1) n.toNat k.toNat (defaultValue .int) n.toNat = F at X' step
  have hTh : (T.setVm vm₁).heap = H := hT
  obtain ⟨f1, f2, -, -⟩ := Jvm.Free.Multi.fill_facts (T.setVm vm₁) (g.2.2.1 5) (g.2.2.1 1) n.toNat k.toNat (defaultValue .int) n.toNat
  rw [hF, hTh] at f1 f2
  have hold : ∀ x : Nat, x < H.size → F.heap[x]? = H[x]? := fun x hx => by
    have := Jvm.Free.Multi.fill_old (T.setVm vm₁) (g.2.2.1 5) (g.2.2.1 1) n.toNat k.toNat (defaultValue .int) (a := x) (by rw [hTh]; exact hx) n.toNat
    rw [hF, hTh] at this
    exact this
  have hrow : ∀ j : Nat, j < n.toNat → F.heap[H.size + 1 + j]? = some (vp_cell (g.2.2.1 1) (k.toNat, .inl fun _ => 0)) := fun j hj => by
    have := Jvm.Free.Multi.fill_inner (T.setVm vm₁) (g.2.2.1 5) (g.2.2.1 1) n.toNat k.toNat (defaultValue .int) n.toNat j hj
    rw [hF, hTh] at this
    rw [this, vp_cell_i, ← arrV_new]
    rfl
  rw [vr_outer (g.2.2.1 5) n.toNat H.size n.toNat] at f2
  have hz : F.heap.size = H.size + 1 + n.toNat := by rw [f1]
  have hR1 : Rep g (m.grid n.toNat k.toNat) F.heap := by
    refine ⟨fun j q hq => ?_, by rw [hz, hR.1.2]; show _ = g.2.2.2.1 + (m.1 + 1 + n.toNat); omega⟩
    have hj : j < m.1 + 1 + n.toNat := by
      have := (List.getElem?_eq_some_iff.mp hq).1
      simpa [wl] using this
    rw [wl_at (m := m.grid n.toNat k.toNat) hj] at hq
    cases hq
    have hs := hR.1.2
    by_cases h2 : j < m.1
    · have := hR.1.1 j _ (wl_at h2)
      simp only [h2, if_true]
      exact this.kept (hold _ (by dsimp only; omega))
    · by_cases h3 : j = m.1
      · subst h3
        simp only [Nat.lt_irrefl, if_false, if_true]
        show F.heap[g.2.2.2.1 + m.1]? = some (vp_cell (g.2.2.1 5) _)
        rw [← hs, f2]
        show _ = some (vp_cell (g.2.2.1 5) (n.toNat, .inr (.inr (.inr (.inr fun i => (if i < n.toNat then some (m.1 + 1 + i) else none).map (g.2.2.2.1 + ·))))))
        rw [vp_cell_q]
        congr 2
        funext i
        by_cases hi : i < n.toNat
        · simp [hi, hs, Nat.add_assoc]
        · simp [hi]
      · simp only [h2, h3, if_false]
        have := hrow (j - (m.1 + 1)) (by omega)
        rw [show H.size + 1 + (j - (m.1 + 1)) = g.2.2.2.1 + j by omega] at this
        exact this
  have e3 : (Value.ref T.heap.size :: st.map (cv g)) = ((vR m.1 :: st).map (cv g)) := by rw [hT, hR.1.2]; rfl
  obtain ⟨t, a1, b1⟩ := kk p e R s mi args below meth c C F.heap locs (cells + 1 + n.toNat) (slots + n.toNat + n.toNat * k.toNat) ls Q (by omega) (by omega) ⟨hR1, by have := hR.2; show _ ≤ g.2.2.2.1 + (m.1 + 1 + n.toNat); omega⟩ (vaS_more hS (by omega) hold) hl (fun v m'' H' locs' pcE ls' a1 a2 a3 a4 => by
    rw [show cells + 1 + n.toNat + nc = cells + (nc + (1 + n.toNat)) by omega, show slots + n.toNat + n.toNat * k.toNat + ns = slots + (ns + (n.toNat + n.toNat * k.toNat)) by omega]
    exact hk9 v m'' H' locs' pcE ls' a1 a2 ⟨a3.1, by rw [a3.2]; show m.1 + 1 + n.toNat + nc = _; omega⟩ a4) F rfl X'
  refine ⟨t, step t ?_, b1⟩
  rw [← e3] at a1
  exact a1
end EV
