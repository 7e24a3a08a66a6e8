/-! THE WORLD as the constructors make it: 298 cells; what a walk over it ends with; calls over it -/
abbrev Sg : Type := Nat → Nat → Int
def shL : List (Nat × Nat) := [(0, 7), (1, 10), (1, 10), (4, 16), (0, 5), (1, 12), (1, 12), (5, 12), (1, 10), (1, 10), (1, 10), (1, 10), (1, 10), (1, 10), (1, 10), (1, 10), (1, 10), (1, 10), (1, 10), (1, 10), (1, 12), (1, 10), (4, 40), (1, 40), (1, 10), (1, 10), (0, 3), (1, 6), (1, 6), (1, 6), (0, 3), (1, 6), (1, 6), (1, 6), (0, 3), (1, 6), (1, 6), (1, 6), (0, 3), (1, 6), (1, 6), (1, 6), (0, 3), (1, 6), (1, 6), (1, 6), (0, 3), (1, 6), (1, 6), (1, 6), (0, 3), (1, 6), (1, 6), (1, 6), (0, 3), (1, 6), (1, 6), (1, 6), (0, 3), (1, 6), (1, 6), (1, 6), (0, 3), (1, 6), (1, 6), (1, 6), (0, 3), (1, 6), (1, 6), (1, 6), (0, 3), (1, 6), (1, 6), (1, 6), (0, 3), (1, 6), (1, 6), (1, 6), (0, 3), (1, 6), (1, 6), (1, 6), (0, 3), (1, 6), (1, 6), (1, 6), (0, 3), (1, 6), (1, 6), (1, 6), (0, 3), (1, 6), (1, 6), (1, 6), (0, 3), (1, 6), (1, 6), (1, 6), (0, 3), (1, 6), (1, 6), (1, 6), (0, 3), (1, 6), (1, 6), (1, 6), (0, 3), (1, 6), (1, 6), (1, 6), (0, 3), (1, 6), (1, 6), (1, 6), (0, 3), (1, 6), (1, 6), (1, 6), (0, 3), (1, 6), (1, 6), (1, 6), (0, 3), (1, 6), (1, 6), (1, 6), (0, 3), (1, 6), (1, 6), (1, 6), (0, 3), (1, 6), (1, 6), (1, 6), (0, 3), (1, 6), (1, 6), (1, 6), (0, 3), (1, 6), (1, 6), (1, 6), (0, 3), (1, 6), (1, 6), (1, 6), (0, 3), (1, 6), (1, 6), (1, 6), (0, 3), (1, 6), (1, 6), (1, 6), (0, 3), (1, 6), (1, 6), (1, 6), (0, 3), (1, 6), (1, 6), (1, 6), (0, 3), (1, 6), (1, 6), (1, 6), (0, 3), (1, 6), (1, 6), (1, 6), (0, 3), (1, 6), (1, 6), (1, 6), (0, 3), (1, 6), (1, 6), (1, 6), (0, 3), (1, 6), (1, 6), (1, 6), (0, 3), (1, 6), (1, 6), (1, 6), (0, 3), (1, 6), (1, 6), (1, 6), (0, 3), (1, 6), (1, 6), (1, 6), (0, 3), (1, 6), (1, 6), (1, 6), (0, 3), (1, 6), (1, 6), (1, 6), (0, 3), (1, 6), (1, 6), (1, 6), (0, 3), (1, 6), (1, 6), (1, 6), (0, 3), (1, 6), (1, 6), (1, 6), (0, 3), (1, 6), (1, 6), (1, 6), (0, 3), (1, 6), (1, 6), (1, 6), (0, 3), (1, 6), (1, 6), (1, 6), (0, 3), (1, 6), (1, 6), (1, 6), (0, 3), (1, 6), (1, 6), (1, 6), (0, 3), (1, 6), (1, 6), (1, 6), (0, 3), (1, 6), (1, 6), (1, 6), (0, 3), (1, 6), (1, 6), (1, 6), (0, 3), (1, 6), (1, 6), (1, 6), (0, 6), (1, 6), (5, 6), (1, 48), (1, 48), (1, 48), (1, 48), (1, 48), (1, 48), (0, 0), (0, 2), (0, 1), (1, 10), (1, 64), (1, 31), (1, 10), (0, 4), (1, 10), (1, 10), (1, 10), (1, 10), (3, 11), (0, 8), (1, 10), (1, 10), (1, 12), (1, 12), (1, 120), (1, 16), (1, 16), (1, 16), (2, 16), (1, 16), (1, 96), (1, 96), (1, 96), (1, 6), (1, 288), (1, 40), (1, 40), (1, 240), (1, 240), (1, 12), (1, 10), (1, 10), (1, 10), (1, 48), (1, 10)]
def sh0 (c : Nat) : Nat × Nat := shL.getD c (0, 0)
def rhL : List (Nat × Nat) := [(0, 1), (1, 2), (3, 3), (6, 250), (7, 4), (8, 20), (10, 21), (12, 22), (13, 23), (16, 260), (17, 266), (18, 24), (19, 25), (401, 5), (402, 6), (403, 7), (25000, 251), (25001, 252), (25900, 250), (26000, 261), (26001, 259), (26100, 250), (26101, 262), (26102, 263), (26103, 264), (26104, 265), (26600, 259), (26601, 267), (26602, 268), (26603, 269), (26604, 270), (26605, 271), (27202, 273), (27203, 274), (27205, 275), (27206, 276), (27207, 277), (27209, 278), (27210, 279), (27211, 280), (27212, 281), (27213, 282), (27214, 283), (27215, 284), (27216, 285), (27217, 286), (27218, 287), (27220, 288), (27221, 289), (27222, 290), (27223, 291), (27226, 292), (27228, 293), (27229, 294), (27230, 295), (27232, 296), (27233, 297)]
def rho0 (c i : Nat) : Option Nat :=
  if c = 3 then (if i < 16 then some (26 + 4 * i) else none)
  else if c = 22 then (if i < 40 then some (90 + 4 * i) else none)
  else if 26 ≤ c ∧ c < 250 ∧ (c - 26) % 4 = 0 then (if i = 5 then some (c + 1) else if i = 6 then some (c + 2) else if i = 7 then some (c + 3) else none)
  else if c = 252 then (if i < 6 then some (253 + i) else none)
  else if c = 7 then (if i < 12 then some (8 + i) else none)
  else if i < 100 then rhL.lookup (c * 100 + i) else none
def sig0 (c i : Nat) : Int := if c = 0 ∧ i = 11 then -1 else if c = 251 ∧ i < 6 then -1 else if c = 286 ∧ i < 6 then -1 else if c = 272 ∧ i = 27 then -9 else 0
abbrev M0 (σ : Sg) : Mem := (298, sh0, σ, rho0)
abbrev retI (x : Int) (σ : Sg) : Option PV → Mem → Prop := fun v m => v = some (vI x) ∧ m = M0 σ
abbrev retV (σ : Sg) : Option PV → Mem → Prop := fun v m => v = none ∧ m = M0 σ
abbrev retE (P : Int → Sg → Prop) : Option PV → Mem → Prop := fun v m => ∃ (x : Int) (σ : Sg), v = some (vI x) ∧ m = M0 σ ∧ P x σ
abbrev retW (P : Sg → Prop) : Option PV → Mem → Prop := fun v m => ∃ (σ : Sg), v = none ∧ m = M0 σ ∧ P σ
theorem rI {x y : Int} {σ τ : Sg} (h : x = y) (h2 : σ = τ) : retI y τ (some (vI x)) (M0 σ) := ⟨by rw [h], by rw [h2]⟩
theorem rV {σ τ : Sg} (h2 : σ = τ) : retV τ none (M0 σ) := ⟨rfl, by rw [h2]⟩
theorem rE {P : Int → Sg → Prop} {x : Int} {σ : Sg} (h : P x σ) : retE P (some (vI x)) (M0 σ) := ⟨x, σ, rfl, rfl, h⟩
theorem rW {P : Sg → Prop} {σ : Sg} (h : P σ) : retW P none (M0 σ) := ⟨σ, rfl, rfl, h⟩
/-- a truth as a number -/
noncomputable def bI (p : Prop) : Int := @ite Int p (Classical.propDecidable p) 1 0
theorem bI_t {p : Prop} (h : p) : 1 = bI p := (if_pos h).symm
theorem bI_f {p : Prop} (h : ¬ p) : 0 = bI p := (if_neg h).symm
theorem bI_T {p : Prop} (h : p) : bI p = 1 := if_pos h
theorem bI_F {p : Prop} (h : ¬ p) : bI p = 0 := if_neg h
theorem bI_0 {p : Prop} : bI p = 0 ↔ ¬ p := ⟨fun h hp => by rw [bI_T hp] at h; exact absurd h (by decide), bI_F⟩
theorem bI_1 {p : Prop} : bI p ≠ 0 ↔ p := ⟨fun h => Classical.byContradiction fun n => h (bI_F n), fun h => by rw [bI_T h]; decide⟩
theorem bI_or {p : Prop} : bI p = 0 ∨ bI p = 1 := (Classical.em p).elim (fun h => Or.inr (bI_T h)) (fun h => Or.inl (bI_F h))
theorem bI_inR {p : Prop} : inR (bI p) := by rcases bI_or (p := p) with h | h <;> rw [h] <;> exact ⟨by decide, by decide⟩
theorem bI_congr {p q : Prop} (h : p ↔ q) : bI p = bI q := by rw [propext h]
/-- fewer facts of locals -/
def leP : List (Option PV) → List (Option PV) → Prop
  | [], _ => True
  | none :: a, _ :: b => leP a b
  | some v :: a, o :: b => o = some v ∧ leP a b
  | _ :: _, [] => False
theorem leP_at : ∀ {a b : List (Option PV)}, leP a b → ∀ (k : Nat) (v : PV), a[k]? = some (some v) → b[k]? = some (some v)
  | [], _, _, k, v, h => by simp at h
  | none :: a, o :: b, hl, 0, v, h => by simp at h
  | none :: a, o :: b, hl, k + 1, v, h => by simp only [leP] at hl; simpa using leP_at hl k v (by simpa using h)
  | some w :: a, o :: b, hl, 0, v, h => by simp only [leP] at hl; simp at h; subst h; simp [hl.1]
  | some w :: a, o :: b, hl, k + 1, v, h => by simp only [leP] at hl; simpa using leP_at hl.2 k v (by simpa using h)
  | none :: _, [], hl, _, _, _ => by simp [leP] at hl
  | some _ :: _, [], hl, _, _, _ => by simp [leP] at hl
theorem vIe {x y : Int} (h : x = y) : (some (vI x) : Option PV) = some (vI y) := by rw [h]
theorem vLe {x y : Int} (h : x = y) : (some (vL x) : Option PV) = some (vL y) := by rw [h]
theorem vRe {x y : Nat} (h : x = y) : (some (vR x) : Option PV) = some (vR y) := by rw [h]
section EV
variable {g : GC} {M : MD} {pc : Nat} {pl : List (Option PV)} {st : List PV} {m : Mem} {nc ns : Nat} {Post : Option PV → Mem → Prop}
theorem Ev.wk {pl' : List (Option PV)} (h : leP pl' pl) (k : Ev g M pc pl' st m nc ns Post) : Ev g M pc pl st m nc ns Post := k.weak fun j v hj => leP_at h j v hj
theorem Ev.mem {σ τ : Sg} (h : σ = τ) (k : Ev g M pc pl st (M0 τ) nc ns Post) : Ev g M pc pl st (M0 σ) nc ns Post := by rw [h]; exact k
theorem Ev.callV_I {idx ci rcv n2 : Nat} {M2 : MD} {args2 : List PV} {q : vw_C} {x : Int} {σ2 : Sg} (hd : decode M.2.1 pc = .ok (.invokevirtual idx, 3)) (hM2 : okM M2) (hw : Cond.methodLink M.1.cls idx M2.1 ∈ lw_tbl) (hi : Cond.instanceMethod M2.1 ∈ lw_tbl) (hsel : Cond.selects M2.1.cls M2.1 M2.1 ∈ lw_tbl) (hds : (parseMethodDescriptor M2.1.desc).map (fun d => d.parameters.length) = some n2) (hdep : M2.2.2.2.2 + 1 ≤ M.2.2.2.2) (hq : vwCl[ci]? = some q) (hqc : q.1 = M2.1.cls) (hc : rcv < m.1) (hs : m.2.1 rcv = (0, ci)) (hn : args2.length = n2) (hl2 : (entL (vR rcv :: args2)).length ≤ M2.2.2.1) (hcat : catS st ≤ 8) (h2 : Ev g M2 0 (entP M2 (vR rcv :: args2)) [] m 0 0 (retI x σ2)) (kk : Ev g M (pc + 3) pl (vI x :: st) (M0 σ2) nc ns Post) {st0 : List PV} (hst : st0 = args2.reverse ++ vR rcv :: st) : Ev g M pc pl st0 m nc ns Post := by
  have h := Ev.callV (nc := nc) (ns := ns) hd hM2 hw hi hsel hds hdep hq hqc hc hs hn hl2 hcat h2 (fun v m2 hp => by obtain ⟨rfl, rfl⟩ := hp; exact kk) hst
  rwa [Nat.zero_add, Nat.zero_add] at h
theorem Ev.callV_V {idx ci rcv n2 : Nat} {M2 : MD} {args2 : List PV} {q : vw_C} {σ2 : Sg} (hd : decode M.2.1 pc = .ok (.invokevirtual idx, 3)) (hM2 : okM M2) (hw : Cond.methodLink M.1.cls idx M2.1 ∈ lw_tbl) (hi : Cond.instanceMethod M2.1 ∈ lw_tbl) (hsel : Cond.selects M2.1.cls M2.1 M2.1 ∈ lw_tbl) (hds : (parseMethodDescriptor M2.1.desc).map (fun d => d.parameters.length) = some n2) (hdep : M2.2.2.2.2 + 1 ≤ M.2.2.2.2) (hq : vwCl[ci]? = some q) (hqc : q.1 = M2.1.cls) (hc : rcv < m.1) (hs : m.2.1 rcv = (0, ci)) (hn : args2.length = n2) (hl2 : (entL (vR rcv :: args2)).length ≤ M2.2.2.1) (hcat : catS st ≤ 8) (h2 : Ev g M2 0 (entP M2 (vR rcv :: args2)) [] m 0 0 (retV σ2)) (kk : Ev g M (pc + 3) pl st (M0 σ2) nc ns Post) {st0 : List PV} (hst : st0 = args2.reverse ++ vR rcv :: st) : Ev g M pc pl st0 m nc ns Post := by
  have h := Ev.callV (nc := nc) (ns := ns) hd hM2 hw hi hsel hds hdep hq hqc hc hs hn hl2 hcat h2 (fun v m2 hp => by obtain ⟨rfl, rfl⟩ := hp; exact kk) hst
  rwa [Nat.zero_add, Nat.zero_add] at h
theorem Ev.callV_G {idx ci rcv n2 : Nat} {M2 : MD} {args2 : List PV} {q : vw_C} {Post2 : Option PV → Mem → Prop} (hd : decode M.2.1 pc = .ok (.invokevirtual idx, 3)) (hM2 : okM M2) (hw : Cond.methodLink M.1.cls idx M2.1 ∈ lw_tbl) (hi : Cond.instanceMethod M2.1 ∈ lw_tbl) (hsel : Cond.selects M2.1.cls M2.1 M2.1 ∈ lw_tbl) (hds : (parseMethodDescriptor M2.1.desc).map (fun d => d.parameters.length) = some n2) (hdep : M2.2.2.2.2 + 1 ≤ M.2.2.2.2) (hq : vwCl[ci]? = some q) (hqc : q.1 = M2.1.cls) (hc : rcv < m.1) (hs : m.2.1 rcv = (0, ci)) (hn : args2.length = n2) (hl2 : (entL (vR rcv :: args2)).length ≤ M2.2.2.1) (hcat : catS st ≤ 8) (h2 : Ev g M2 0 (entP M2 (vR rcv :: args2)) [] m 0 0 (Post2)) (kk : ∀ (v : Option PV) (m2 : Mem), Post2 v m2 → Ev g M (pc + 3) pl (v.toList ++ st) m2 nc ns Post) {st0 : List PV} (hst : st0 = args2.reverse ++ vR rcv :: st) : Ev g M pc pl st0 m nc ns Post := by
  have h := Ev.callV (nc := nc) (ns := ns) hd hM2 hw hi hsel hds hdep hq hqc hc hs hn hl2 hcat h2 (fun v m2 hp => kk v m2 hp) hst
  rwa [Nat.zero_add, Nat.zero_add] at h
theorem Ev.callS_I {idx n2 : Nat} {M2 : MD} {args2 : List PV} {x : Int} {σ2 : Sg} (hd : decode M.2.1 pc = .ok (.invokestatic idx, 3)) (hM2 : okM M2) (hw : Cond.methodLink M.1.cls idx M2.1 ∈ lw_tbl) (hi : Cond.static M2.1 ∈ lw_tbl) (hds : (parseMethodDescriptor M2.1.desc).map (fun d => d.parameters.length) = some n2) (hdep : M2.2.2.2.2 + 1 ≤ M.2.2.2.2) (hn : args2.length = n2) (hl2 : (entL args2).length ≤ M2.2.2.1) (hcat : catS st ≤ 8) (h2 : Ev g M2 0 (entP M2 args2) [] m 0 0 (retI x σ2)) (kk : Ev g M (pc + 3) pl (vI x :: st) (M0 σ2) nc ns Post) {st0 : List PV} (hst : st0 = args2.reverse ++ st) : Ev g M pc pl st0 m nc ns Post := by
  have h := Ev.callS (nc := nc) (ns := ns) hd hM2 hw hi hds hdep hn hl2 hcat h2 (fun v m2 hp => by obtain ⟨rfl, rfl⟩ := hp; exact kk) hst
  rwa [Nat.zero_add, Nat.zero_add] at h
theorem Ev.callS_V {idx n2 : Nat} {M2 : MD} {args2 : List PV} {σ2 : Sg} (hd : decode M.2.1 pc = .ok (.invokestatic idx, 3)) (hM2 : okM M2) (hw : Cond.methodLink M.1.cls idx M2.1 ∈ lw_tbl) (hi : Cond.static M2.1 ∈ lw_tbl) (hds : (parseMethodDescriptor M2.1.desc).map (fun d => d.parameters.length) = some n2) (hdep : M2.2.2.2.2 + 1 ≤ M.2.2.2.2) (hn : args2.length = n2) (hl2 : (entL args2).length ≤ M2.2.2.1) (hcat : catS st ≤ 8) (h2 : Ev g M2 0 (entP M2 args2) [] m 0 0 (retV σ2)) (kk : Ev g M (pc + 3) pl st (M0 σ2) nc ns Post) {st0 : List PV} (hst : st0 = args2.reverse ++ st) : Ev g M pc pl st0 m nc ns Post := by
  have h := Ev.callS (nc := nc) (ns := ns) hd hM2 hw hi hds hdep hn hl2 hcat h2 (fun v m2 hp => by obtain ⟨rfl, rfl⟩ := hp; exact kk) hst
  rwa [Nat.zero_add, Nat.zero_add] at h
theorem Ev.callS_G {idx n2 : Nat} {M2 : MD} {args2 : List PV} {Post2 : Option PV → Mem → Prop} (hd : decode M.2.1 pc = .ok (.invokestatic idx, 3)) (hM2 : okM M2) (hw : Cond.methodLink M.1.cls idx M2.1 ∈ lw_tbl) (hi : Cond.static M2.1 ∈ lw_tbl) (hds : (parseMethodDescriptor M2.1.desc).map (fun d => d.parameters.length) = some n2) (hdep : M2.2.2.2.2 + 1 ≤ M.2.2.2.2) (hn : args2.length = n2) (hl2 : (entL args2).length ≤ M2.2.2.1) (hcat : catS st ≤ 8) (h2 : Ev g M2 0 (entP M2 args2) [] m 0 0 (Post2)) (kk : ∀ (v : Option PV) (m2 : Mem), Post2 v m2 → Ev g M (pc + 3) pl (v.toList ++ st) m2 nc ns Post) {st0 : List PV} (hst : st0 = args2.reverse ++ st) : Ev g M pc pl st0 m nc ns Post := by
  have h := Ev.callS (nc := nc) (ns := ns) hd hM2 hw hi hds hdep hn hl2 hcat h2 (fun v m2 hp => kk v m2 hp) hst
  rwa [Nat.zero_add, Nat.zero_add] at h
theorem Ev.callSN_I {idx n2 : Nat} {host : String} {M2 : MD} {args2 : List PV} {x : Int} {σ2 : Sg} (hd : decode M.2.1 pc = .ok (.invokestatic idx, 3)) (hM2 : okM M2) (hw : (M.1.cls, idx, M2.1, host) ∈ nestL) (hi : Cond.static M2.1 ∈ lw_tbl) (hds : (parseMethodDescriptor M2.1.desc).map (fun d => d.parameters.length) = some n2) (hdep : M2.2.2.2.2 + 1 ≤ M.2.2.2.2) (hn : args2.length = n2) (hl2 : (entL args2).length ≤ M2.2.2.1) (hcat : catS st ≤ 8) (h2 : Ev g M2 0 (entP M2 args2) [] m 0 0 (retI x σ2)) (kk : Ev g M (pc + 3) pl (vI x :: st) (M0 σ2) nc ns Post) {st0 : List PV} (hst : st0 = args2.reverse ++ st) : Ev g M pc pl st0 m nc ns Post := by
  have h := Ev.callSN (nc := nc) (ns := ns) hd hM2 hw hi hds hdep hn hl2 hcat h2 (fun v m2 hp => by obtain ⟨rfl, rfl⟩ := hp; exact kk) hst
  rwa [Nat.zero_add, Nat.zero_add] at h
theorem Ev.callSN_V {idx n2 : Nat} {host : String} {M2 : MD} {args2 : List PV} {σ2 : Sg} (hd : decode M.2.1 pc = .ok (.invokestatic idx, 3)) (hM2 : okM M2) (hw : (M.1.cls, idx, M2.1, host) ∈ nestL) (hi : Cond.static M2.1 ∈ lw_tbl) (hds : (parseMethodDescriptor M2.1.desc).map (fun d => d.parameters.length) = some n2) (hdep : M2.2.2.2.2 + 1 ≤ M.2.2.2.2) (hn : args2.length = n2) (hl2 : (entL args2).length ≤ M2.2.2.1) (hcat : catS st ≤ 8) (h2 : Ev g M2 0 (entP M2 args2) [] m 0 0 (retV σ2)) (kk : Ev g M (pc + 3) pl st (M0 σ2) nc ns Post) {st0 : List PV} (hst : st0 = args2.reverse ++ st) : Ev g M pc pl st0 m nc ns Post := by
  have h := Ev.callSN (nc := nc) (ns := ns) hd hM2 hw hi hds hdep hn hl2 hcat h2 (fun v m2 hp => by obtain ⟨rfl, rfl⟩ := hp; exact kk) hst
  rwa [Nat.zero_add, Nat.zero_add] at h
theorem Ev.callSN_G {idx n2 : Nat} {host : String} {M2 : MD} {args2 : List PV} {Post2 : Option PV → Mem → Prop} (hd : decode M.2.1 pc = .ok (.invokestatic idx, 3)) (hM2 : okM M2) (hw : (M.1.cls, idx, M2.1, host) ∈ nestL) (hi : Cond.static M2.1 ∈ lw_tbl) (hds : (parseMethodDescriptor M2.1.desc).map (fun d => d.parameters.length) = some n2) (hdep : M2.2.2.2.2 + 1 ≤ M.2.2.2.2) (hn : args2.length = n2) (hl2 : (entL args2).length ≤ M2.2.2.1) (hcat : catS st ≤ 8) (h2 : Ev g M2 0 (entP M2 args2) [] m 0 0 (Post2)) (kk : ∀ (v : Option PV) (m2 : Mem), Post2 v m2 → Ev g M (pc + 3) pl (v.toList ++ st) m2 nc ns Post) {st0 : List PV} (hst : st0 = args2.reverse ++ st) : Ev g M pc pl st0 m nc ns Post := by
  have h := Ev.callSN (nc := nc) (ns := ns) hd hM2 hw hi hds hdep hn hl2 hcat h2 (fun v m2 hp => kk v m2 hp) hst
  rwa [Nat.zero_add, Nat.zero_add] at h
end EV
theorem ltc_0 : 0 < 298 := by decide
theorem shc_0 : sh0 0 = (0, 7) := rfl
theorem ltc_1 : 1 < 298 := by decide
theorem shc_1 : sh0 1 = (1, 10) := rfl
theorem ltc_2 : 2 < 298 := by decide
theorem shc_2 : sh0 2 = (1, 10) := rfl
theorem ltc_3 : 3 < 298 := by decide
theorem shc_3 : sh0 3 = (4, 16) := rfl
theorem ltc_4 : 4 < 298 := by decide
theorem shc_4 : sh0 4 = (0, 5) := rfl
theorem ltc_5 : 5 < 298 := by decide
theorem shc_5 : sh0 5 = (1, 12) := rfl
theorem ltc_6 : 6 < 298 := by decide
theorem shc_6 : sh0 6 = (1, 12) := rfl
theorem ltc_7 : 7 < 298 := by decide
theorem shc_7 : sh0 7 = (5, 12) := rfl
theorem ltc_20 : 20 < 298 := by decide
theorem shc_20 : sh0 20 = (1, 12) := rfl
theorem ltc_21 : 21 < 298 := by decide
theorem shc_21 : sh0 21 = (1, 10) := rfl
theorem ltc_22 : 22 < 298 := by decide
theorem shc_22 : sh0 22 = (4, 40) := rfl
theorem ltc_23 : 23 < 298 := by decide
theorem shc_23 : sh0 23 = (1, 40) := rfl
theorem ltc_24 : 24 < 298 := by decide
theorem shc_24 : sh0 24 = (1, 10) := rfl
theorem ltc_25 : 25 < 298 := by decide
theorem shc_25 : sh0 25 = (1, 10) := rfl
theorem ltc_250 : 250 < 298 := by decide
theorem shc_250 : sh0 250 = (0, 6) := rfl
theorem ltc_251 : 251 < 298 := by decide
theorem shc_251 : sh0 251 = (1, 6) := rfl
theorem ltc_252 : 252 < 298 := by decide
theorem shc_252 : sh0 252 = (5, 6) := rfl
theorem ltc_259 : 259 < 298 := by decide
theorem shc_259 : sh0 259 = (0, 0) := rfl
theorem ltc_260 : 260 < 298 := by decide
theorem shc_260 : sh0 260 = (0, 2) := rfl
theorem ltc_261 : 261 < 298 := by decide
theorem shc_261 : sh0 261 = (0, 1) := rfl
theorem ltc_262 : 262 < 298 := by decide
theorem shc_262 : sh0 262 = (1, 10) := rfl
theorem ltc_263 : 263 < 298 := by decide
theorem shc_263 : sh0 263 = (1, 64) := rfl
theorem ltc_264 : 264 < 298 := by decide
theorem shc_264 : sh0 264 = (1, 31) := rfl
theorem ltc_265 : 265 < 298 := by decide
theorem shc_265 : sh0 265 = (1, 10) := rfl
theorem ltc_266 : 266 < 298 := by decide
theorem shc_266 : sh0 266 = (0, 4) := rfl
theorem ltc_267 : 267 < 298 := by decide
theorem shc_267 : sh0 267 = (1, 10) := rfl
theorem ltc_268 : 268 < 298 := by decide
theorem shc_268 : sh0 268 = (1, 10) := rfl
theorem ltc_269 : 269 < 298 := by decide
theorem shc_269 : sh0 269 = (1, 10) := rfl
theorem ltc_270 : 270 < 298 := by decide
theorem shc_270 : sh0 270 = (1, 10) := rfl
theorem ltc_271 : 271 < 298 := by decide
theorem shc_271 : sh0 271 = (3, 11) := rfl
theorem ltc_272 : 272 < 298 := by decide
theorem shc_272 : sh0 272 = (0, 8) := rfl
theorem ltc_273 : 273 < 298 := by decide
theorem shc_273 : sh0 273 = (1, 10) := rfl
theorem ltc_274 : 274 < 298 := by decide
theorem shc_274 : sh0 274 = (1, 10) := rfl
theorem ltc_275 : 275 < 298 := by decide
theorem shc_275 : sh0 275 = (1, 12) := rfl
theorem ltc_276 : 276 < 298 := by decide
theorem shc_276 : sh0 276 = (1, 12) := rfl
theorem ltc_277 : 277 < 298 := by decide
theorem shc_277 : sh0 277 = (1, 120) := rfl
theorem ltc_278 : 278 < 298 := by decide
theorem shc_278 : sh0 278 = (1, 16) := rfl
theorem ltc_279 : 279 < 298 := by decide
theorem shc_279 : sh0 279 = (1, 16) := rfl
theorem ltc_280 : 280 < 298 := by decide
theorem shc_280 : sh0 280 = (1, 16) := rfl
theorem ltc_281 : 281 < 298 := by decide
theorem shc_281 : sh0 281 = (2, 16) := rfl
theorem ltc_282 : 282 < 298 := by decide
theorem shc_282 : sh0 282 = (1, 16) := rfl
theorem ltc_283 : 283 < 298 := by decide
theorem shc_283 : sh0 283 = (1, 96) := rfl
theorem ltc_284 : 284 < 298 := by decide
theorem shc_284 : sh0 284 = (1, 96) := rfl
theorem ltc_285 : 285 < 298 := by decide
theorem shc_285 : sh0 285 = (1, 96) := rfl
theorem ltc_286 : 286 < 298 := by decide
theorem shc_286 : sh0 286 = (1, 6) := rfl
theorem ltc_287 : 287 < 298 := by decide
theorem shc_287 : sh0 287 = (1, 288) := rfl
theorem ltc_288 : 288 < 298 := by decide
theorem shc_288 : sh0 288 = (1, 40) := rfl
theorem ltc_289 : 289 < 298 := by decide
theorem shc_289 : sh0 289 = (1, 40) := rfl
theorem ltc_290 : 290 < 298 := by decide
theorem shc_290 : sh0 290 = (1, 240) := rfl
theorem ltc_291 : 291 < 298 := by decide
theorem shc_291 : sh0 291 = (1, 240) := rfl
theorem ltc_292 : 292 < 298 := by decide
theorem shc_292 : sh0 292 = (1, 12) := rfl
theorem ltc_293 : 293 < 298 := by decide
theorem shc_293 : sh0 293 = (1, 10) := rfl
theorem ltc_294 : 294 < 298 := by decide
theorem shc_294 : sh0 294 = (1, 10) := rfl
theorem ltc_295 : 295 < 298 := by decide
theorem shc_295 : sh0 295 = (1, 10) := rfl
theorem ltc_296 : 296 < 298 := by decide
theorem shc_296 : sh0 296 = (1, 48) := rfl
theorem ltc_297 : 297 < 298 := by decide
theorem shc_297 : sh0 297 = (1, 10) := rfl
theorem rfc_0_0 : rho0 0 0 = some 1 := rfl
theorem rfc_0_1 : rho0 0 1 = some 2 := rfl
theorem rfc_0_3 : rho0 0 3 = some 3 := rfl
theorem rfc_0_6 : rho0 0 6 = some 250 := rfl
theorem rfc_0_7 : rho0 0 7 = some 4 := rfl
theorem rfc_0_8 : rho0 0 8 = some 20 := rfl
theorem rfc_0_10 : rho0 0 10 = some 21 := rfl
theorem rfc_0_12 : rho0 0 12 = some 22 := rfl
theorem rfc_0_13 : rho0 0 13 = some 23 := rfl
theorem rfc_0_16 : rho0 0 16 = some 260 := rfl
theorem rfc_0_17 : rho0 0 17 = some 266 := rfl
theorem rfc_0_18 : rho0 0 18 = some 24 := rfl
theorem rfc_0_19 : rho0 0 19 = some 25 := rfl
theorem rfc_4_1 : rho0 4 1 = some 5 := rfl
theorem rfc_4_2 : rho0 4 2 = some 6 := rfl
theorem rfc_4_3 : rho0 4 3 = some 7 := rfl
theorem rfc_250_0 : rho0 250 0 = some 251 := rfl
theorem rfc_250_1 : rho0 250 1 = some 252 := rfl
theorem rfc_259_0 : rho0 259 0 = some 250 := rfl
theorem rfc_260_0 : rho0 260 0 = some 261 := rfl
theorem rfc_260_1 : rho0 260 1 = some 259 := rfl
theorem rfc_261_0 : rho0 261 0 = some 250 := rfl
theorem rfc_261_1 : rho0 261 1 = some 262 := rfl
theorem rfc_261_2 : rho0 261 2 = some 263 := rfl
theorem rfc_261_3 : rho0 261 3 = some 264 := rfl
theorem rfc_261_4 : rho0 261 4 = some 265 := rfl
theorem rfc_266_0 : rho0 266 0 = some 259 := rfl
theorem rfc_266_1 : rho0 266 1 = some 267 := rfl
theorem rfc_266_2 : rho0 266 2 = some 268 := rfl
theorem rfc_266_3 : rho0 266 3 = some 269 := rfl
theorem rfc_266_4 : rho0 266 4 = some 270 := rfl
theorem rfc_266_5 : rho0 266 5 = some 271 := rfl
theorem rfc_272_2 : rho0 272 2 = some 273 := rfl
theorem rfc_272_3 : rho0 272 3 = some 274 := rfl
theorem rfc_272_5 : rho0 272 5 = some 275 := rfl
theorem rfc_272_6 : rho0 272 6 = some 276 := rfl
theorem rfc_272_7 : rho0 272 7 = some 277 := rfl
theorem rfc_272_9 : rho0 272 9 = some 278 := rfl
theorem rfc_272_10 : rho0 272 10 = some 279 := rfl
theorem rfc_272_11 : rho0 272 11 = some 280 := rfl
theorem rfc_272_12 : rho0 272 12 = some 281 := rfl
theorem rfc_272_13 : rho0 272 13 = some 282 := rfl
theorem rfc_272_14 : rho0 272 14 = some 283 := rfl
theorem rfc_272_15 : rho0 272 15 = some 284 := rfl
theorem rfc_272_16 : rho0 272 16 = some 285 := rfl
theorem rfc_272_17 : rho0 272 17 = some 286 := rfl
theorem rfc_272_18 : rho0 272 18 = some 287 := rfl
theorem rfc_272_20 : rho0 272 20 = some 288 := rfl
theorem rfc_272_21 : rho0 272 21 = some 289 := rfl
theorem rfc_272_22 : rho0 272 22 = some 290 := rfl
theorem rfc_272_23 : rho0 272 23 = some 291 := rfl
theorem rfc_272_26 : rho0 272 26 = some 292 := rfl
theorem rfc_272_28 : rho0 272 28 = some 293 := rfl
theorem rfc_272_29 : rho0 272 29 = some 294 := rfl
theorem rfc_272_30 : rho0 272 30 = some 295 := rfl
theorem rfc_272_32 : rho0 272 32 = some 296 := rfl
theorem rfc_272_33 : rho0 272 33 = some 297 := rfl
theorem lt_rc {r : Nat} (h : r < 56) : 26 + 4 * r < 298 := by omega
theorem lt_rcf {r j : Nat} (h : r < 56) (hj : j < 4) : 26 + 4 * r + j < 298 := by omega
theorem sh_rcA : ∀ r, r < 56 → sh0 (26 + 4 * r) = (0, 3) ∧ sh0 (26 + 4 * r + 1) = (1, 6) ∧ sh0 (26 + 4 * r + 2) = (1, 6) ∧ sh0 (26 + 4 * r + 3) = (1, 6) := by decide +kernel
theorem sh_rc {r : Nat} (h : r < 56) : sh0 (26 + 4 * r) = (0, 3) := (sh_rcA r h).1
theorem sh_rc1 {r : Nat} (h : r < 56) : sh0 (26 + 4 * r + 1) = (1, 6) := (sh_rcA r h).2.1
theorem sh_rc2 {r : Nat} (h : r < 56) : sh0 (26 + 4 * r + 2) = (1, 6) := (sh_rcA r h).2.2.1
theorem sh_rc3 {r : Nat} (h : r < 56) : sh0 (26 + 4 * r + 3) = (1, 6) := (sh_rcA r h).2.2.2
theorem rf_rcA : ∀ r, r < 56 → rho0 (26 + 4 * r) 5 = some (26 + 4 * r + 1) ∧ rho0 (26 + 4 * r) 6 = some (26 + 4 * r + 2) ∧ rho0 (26 + 4 * r) 7 = some (26 + 4 * r + 3) := by decide +kernel
theorem rf_rc5 {r : Nat} (h : r < 56) : rho0 (26 + 4 * r) 5 = some (26 + 4 * r + 1) := (rf_rcA r h).1
theorem rf_rc6 {r : Nat} (h : r < 56) : rho0 (26 + 4 * r) 6 = some (26 + 4 * r + 2) := (rf_rcA r h).2.1
theorem rf_rc7 {r : Nat} (h : r < 56) : rho0 (26 + 4 * r) 7 = some (26 + 4 * r + 3) := (rf_rcA r h).2.2
theorem rf_rule {r : Nat} (h : r < 16) : rho0 3 r = some (26 + 4 * r) := by simp [rho0, h]
theorem rf_line {r : Nat} (h : r < 40) : rho0 22 r = some (26 + 4 * (16 + r)) := by simp [rho0, h]; omega
theorem lt_tc {t : Nat} (h : t < 6) : 253 + t < 298 := by omega
theorem sh_tcA : ∀ t, t < 6 → sh0 (253 + t) = (1, 48) := by decide +kernel
theorem sh_tc {t : Nat} (h : t < 6) : sh0 (253 + t) = (1, 48) := sh_tcA t h
theorem rf_tc {t : Nat} (h : t < 6) : rho0 252 t = some (253 + t) := by simp [rho0, h]
theorem lt_bc {d : Nat} (h : d < 12) : 8 + d < 298 := by omega
theorem sh_bcA : ∀ t, t < 12 → sh0 (8 + t) = (1, 10) := by decide +kernel
theorem sh_bc {t : Nat} (h : t < 12) : sh0 (8 + t) = (1, 10) := sh_bcA t h
theorem rf_bc {t : Nat} (h : t < 12) : rho0 7 t = some (8 + t) := by simp [rho0, h]
theorem lk_L_9 : Cond.methodLink RL 9 yX7_init ∈ lw_tbl := tbl_i 16 (by decide +kernel)
theorem lk_X7_54 : Cond.methodLink RX7 54 yX6_init ∈ lw_tbl := tbl_i 108 (by decide +kernel)
theorem lk_X7_57 : Cond.methodLink RX7 57 yX0_init ∈ lw_tbl := tbl_i 126 (by decide +kernel)
theorem lk_X7_68 : Cond.methodLink RX7 68 yX1_init ∈ lw_tbl := tbl_i 138 (by decide +kernel)
theorem lk_X7_69 : Cond.methodLink RX7 69 yX2_init ∈ lw_tbl := tbl_i 159 (by decide +kernel)
theorem lk_X7_78 : Cond.methodLink RX7 78 yX4_init ∈ lw_tbl := tbl_i 172 (by decide +kernel)
theorem lk_L_13 : Cond.methodLink RL 13 yX7_unknown ∈ lw_tbl := tbl_i 258 (by decide +kernel)
theorem lk_X7_91 : Cond.methodLink RX7 91 yX7_letRangesBeAsTold ∈ lw_tbl := tbl_i 262 (by decide +kernel)
theorem lk_X7_187 : Cond.methodLink RX7 187 yX7_bring ∈ lw_tbl := tbl_i 266 (by decide +kernel)
theorem lk_L_18 : Cond.methodLink RL 18 yX7_hole ∈ lw_tbl := tbl_i 272 (by decide +kernel)
theorem lk_X7_94 : Cond.methodLink RX7 94 yX7_isUnknown ∈ lw_tbl := tbl_i 276 (by decide +kernel)
theorem lk_X7_98 : Cond.methodLink RX7 98 yX7_isNumber ∈ lw_tbl := tbl_i 280 (by decide +kernel)
theorem lk_X7_101 : Cond.methodLink RX7 101 yJ6_bitCount_0f7a4 ∈ lw_tbl := tbl_i 283 (by decide +kernel)
theorem lk_L_22 : Cond.methodLink RL 22 yX7_rule ∈ lw_tbl := tbl_i 289 (by decide +kernel)
theorem lk_X7_107 : Cond.methodLink RX7 107 yX7_mayBeSet ∈ lw_tbl := tbl_i 293 (by decide +kernel)
theorem lk_X7_114 : Cond.methodLink RX7 114 yX3_begin ∈ lw_tbl := tbl_i 296 (by decide +kernel)
theorem lk_L_27 : Cond.methodLink RL 27 yX7_part ∈ lw_tbl := tbl_i 300 (by decide +kernel)
theorem lk_X7_122 : Cond.methodLink RX7 122 yX7_isRule ∈ lw_tbl := tbl_i 304 (by decide +kernel)
theorem lk_X7_128 : Cond.methodLink RX7 128 yX7_found ∈ lw_tbl := tbl_i 308 (by decide +kernel)
theorem lk_X7_131 : Cond.methodLink RX7 131 yX7_mayBePart ∈ lw_tbl := tbl_i 312 (by decide +kernel)
theorem lk_X7_134 : Cond.methodLink RX7 134 yX3_isOf ∈ lw_tbl := tbl_i 315 (by decide +kernel)
theorem lk_X7_140 : Cond.methodLink RX7 140 yX3_join ∈ lw_tbl := tbl_i 319 (by decide +kernel)
theorem lk_L_32 : Cond.methodLink RL 32 yX7_literal ∈ lw_tbl := tbl_i 323 (by decide +kernel)
theorem lk_X7_143 : Cond.methodLink RX7 143 yX7_isLiteral ∈ lw_tbl := tbl_i 327 (by decide +kernel)
theorem lk_X7_147 : Cond.methodLink RX7 147 yX7_numbersSo ∈ lw_tbl := tbl_i 330 (by decide +kernel)
theorem lk_L_36 : Cond.methodLink RL 36 yX7_stand ∈ lw_tbl := tbl_i 334 (by decide +kernel)
theorem lk_X7_151 : Cond.methodLink RX7 151 yX7_stands ∈ lw_tbl := tbl_i 338 (by decide +kernel)
theorem lk_L_41 : Cond.methodLink RL 41 yX7_table ∈ lw_tbl := tbl_i 343 (by decide +kernel)
theorem lk_X7_156 : Cond.methodLink RX7 156 yX7_isTable ∈ lw_tbl := tbl_i 347 (by decide +kernel)
theorem lk_X7_159 : Cond.methodLink RX7 159 yX6_lay ∈ lw_tbl := tbl_i 350 (by decide +kernel)
theorem lk_L_45 : Cond.methodLink RL 45 yX7_tear ∈ lw_tbl := tbl_i 354 (by decide +kernel)
theorem lk_X7_163 : Cond.methodLink RX7 163 yX6_isMissing ∈ lw_tbl := tbl_i 358 (by decide +kernel)
theorem lk_L_50 : Cond.methodLink RL 50 yX7_cell ∈ lw_tbl := tbl_i 362 (by decide +kernel)
theorem lk_X7_168 : Cond.methodLink RX7 168 yX6_hasCells ∈ lw_tbl := tbl_i 366 (by decide +kernel)
theorem lk_L_54 : Cond.methodLink RL 54 yX7_copy ∈ lw_tbl := tbl_i 370 (by decide +kernel)
theorem lk_L_59 : Cond.methodLink RL 59 yX7_get ∈ lw_tbl := tbl_i 374 (by decide +kernel)
theorem lk_L_63 : Cond.methodLink RL 63 yX7_about ∈ lw_tbl := tbl_i 378 (by decide +kernel)
theorem lk_L_67 : Cond.methodLink RL 67 yX7_narrow ∈ lw_tbl := tbl_i 382 (by decide +kernel)
theorem lk_X7_191 : Cond.methodLink RX7 191 yX2_run ∈ lw_tbl := tbl_i 386 (by decide +kernel)
theorem lk_X2_41 : Cond.methodLink RX2 41 yX2_emptyRulesFit ∈ lw_tbl := tbl_i 390 (by decide +kernel)
theorem lk_X2_55 : Cond.methodLink RX2 55 yX0_fits ∈ lw_tbl := tbl_i 394 (by decide +kernel)
theorem lk_X0_19 : Cond.methodLink RX0 19 yX0_fitsSum ∈ lw_tbl := tbl_i 398 (by decide +kernel)
theorem lk_X0_23 : Cond.methodLink RX0 23 yX0_fitsUnlike ∈ lw_tbl := tbl_i 401 (by decide +kernel)
theorem lk_X0_26 : Cond.methodLink RX0 26 yX0_fitsTable ∈ lw_tbl := tbl_i 404 (by decide +kernel)
theorem lk_X0_60 : Cond.methodLink RX0 60 yX6_countRows ∈ lw_tbl := tbl_i 408 (by decide +kernel)
theorem lk_X0_29 : Cond.methodLink RX0 29 yX0_fitsLoad ∈ lw_tbl := tbl_i 412 (by decide +kernel)
theorem lk_X0_32 : Cond.methodLink RX0 32 yX0_fitsRing ∈ lw_tbl := tbl_i 415 (by decide +kernel)
theorem lk_X0_35 : Cond.methodLink RX0 35 yX0_fitsClause ∈ lw_tbl := tbl_i 418 (by decide +kernel)
theorem lk_X2_19 : Cond.methodLink RX2 19 yX1_look ∈ lw_tbl := tbl_i 421 (by decide +kernel)
theorem lk_X1_34 : Cond.methodLink RX1 34 yX1_lookAtSum ∈ lw_tbl := tbl_i 425 (by decide +kernel)
theorem lk_X1_62 : Cond.methodLink RX1 62 yX1_lowest ∈ lw_tbl := tbl_i 429 (by decide +kernel)
theorem lk_X1_77 : Cond.methodLink RX1 77 yJ6_numberOfTrailingZeros_0f7a4 ∈ lw_tbl := tbl_i 432 (by decide +kernel)
theorem lk_X1_83 : Cond.methodLink RX1 83 yJ6_numberOfLeadingZeros_0f7a4 ∈ lw_tbl := tbl_i 436 (by decide +kernel)
theorem lk_X1_66 : Cond.methodLink RX1 66 yX1_highest ∈ lw_tbl := tbl_i 439 (by decide +kernel)
theorem lk_X1_73 : Cond.methodLink RX1 73 yX1_sumTakes ∈ lw_tbl := tbl_i 445 (by decide +kernel)
theorem lk_X1_38 : Cond.methodLink RX1 38 yX1_lookAtUnlike ∈ lw_tbl := tbl_i 448 (by decide +kernel)
theorem lk_X1_92 : Cond.methodLink RX1 92 yJ6_bitCount_0f7a4 ∈ lw_tbl := tbl_i 452 (by decide +kernel)
theorem lk_X1_95 : Cond.methodLink RX1 95 yX1_takeAll ∈ lw_tbl := tbl_i 453 (by decide +kernel)
theorem lk_X1_98 : Cond.methodLink RX1 98 yX1_takeFromOthers ∈ lw_tbl := tbl_i 457 (by decide +kernel)
theorem lk_X1_41 : Cond.methodLink RX1 41 yX1_lookAtTable ∈ lw_tbl := tbl_i 461 (by decide +kernel)
theorem lk_X1_108 : Cond.methodLink RX1 108 yX6_countRows ∈ lw_tbl := tbl_i 465 (by decide +kernel)
theorem lk_X1_111 : Cond.methodLink RX1 111 yX1_giveBack ∈ lw_tbl := tbl_i 466 (by decide +kernel)
theorem lk_X1_44 : Cond.methodLink RX1 44 yX1_lookAtLoad ∈ lw_tbl := tbl_i 470 (by decide +kernel)
theorem lk_X7_296 : Cond.methodLink RX7 296 yJ6_numberOfTrailingZeros_0f7a4 ∈ lw_tbl := tbl_i 477 (by decide +kernel)
theorem lk_X7_299 : Cond.methodLink RX7 299 yJ6_numberOfLeadingZeros_0f7a4 ∈ lw_tbl := tbl_i 484 (by decide +kernel)
theorem lk_X1_131 : Cond.methodLink RX1 131 yX1_loadTakes ∈ lw_tbl := tbl_i 488 (by decide +kernel)
theorem lk_X1_47 : Cond.methodLink RX1 47 yX1_lookAtRing ∈ lw_tbl := tbl_i 492 (by decide +kernel)
theorem lk_X1_135 : Cond.methodLink RX1 135 yX1_closesTooSoon ∈ lw_tbl := tbl_i 496 (by decide +kernel)
theorem lk_X1_50 : Cond.methodLink RX1 50 yX1_lookAtClause ∈ lw_tbl := tbl_i 499 (by decide +kernel)
theorem lk_L_72 : Cond.methodLink RL 72 yX7_takes ∈ lw_tbl := tbl_i 503 (by decide +kernel)
theorem lk_X7_195 : Cond.methodLink RX7 195 yX2_countTaken ∈ lw_tbl := tbl_i 507 (by decide +kernel)
theorem lk_X2_25 : Cond.methodLink RX2 25 yX3_isOf ∈ lw_tbl := tbl_i 511 (by decide +kernel)
theorem lk_X2_35 : Cond.methodLink RX2 35 yJ6_bitCount_0f7a4 ∈ lw_tbl := tbl_i 512 (by decide +kernel)
theorem lk_L_76 : Cond.methodLink RL 76 yX7_step ∈ lw_tbl := tbl_i 513 (by decide +kernel)
theorem lk_L_80 : Cond.methodLink RL 80 yX7_undo ∈ lw_tbl := tbl_i 517 (by decide +kernel)
theorem lk_L_84 : Cond.methodLink RL 84 yX7_range ∈ lw_tbl := tbl_i 521 (by decide +kernel)
theorem lk_X7_208 : Cond.methodLink RX7 208 yX7_least ∈ lw_tbl := tbl_i 525 (by decide +kernel)
theorem lk_X7_211 : Cond.methodLink RX7 211 yX7_greatest ∈ lw_tbl := tbl_i 526 (by decide +kernel)
theorem lk_L_88 : Cond.methodLink RL 88 yX7_why ∈ lw_tbl := tbl_i 527 (by decide +kernel)
theorem lk_X7_214 : Cond.methodLink RX7 214 yX5_all ∈ lw_tbl := tbl_i 531 (by decide +kernel)
theorem lk_X7_218 : Cond.methodLink RX7 218 yX7_isLacked ∈ lw_tbl := tbl_i 535 (by decide +kernel)
theorem lk_X7_224 : Cond.methodLink RX7 224 yX7_narrowToldBySteps ∈ lw_tbl := tbl_i 539 (by decide +kernel)
theorem lk_X7_227 : Cond.methodLink RX7 227 yX7_noneIsEmpty ∈ lw_tbl := tbl_i 543 (by decide +kernel)
theorem lk_X7_221 : Cond.methodLink RX7 221 yX7_keepReasons ∈ lw_tbl := tbl_i 547 (by decide +kernel)
theorem lk_L_92 : Cond.methodLink RL 92 yX7_reason ∈ lw_tbl := tbl_i 551 (by decide +kernel)
theorem lk_L_96 : Cond.methodLink RL 96 yX7_solve ∈ lw_tbl := tbl_i 555 (by decide +kernel)
theorem lk_X7_234 : Cond.methodLink RX7 234 yX7_narrowAside ∈ lw_tbl := tbl_i 559 (by decide +kernel)
theorem lk_X7_253 : Cond.methodLink RX7 253 yX7_countWays ∈ lw_tbl := tbl_i 563 (by decide +kernel)
theorem lk_X7_237 : Cond.methodLink RX7 237 yX7_findsAnswer ∈ lw_tbl := tbl_i 567 (by decide +kernel)
theorem lk_X7_246 : Cond.methodLink RX7 246 yX4_find ∈ lw_tbl := tbl_i 571 (by decide +kernel)
theorem lk_X4_32 : Cond.methodLink RX4 32 yX4_arrange ∈ lw_tbl := tbl_i 575 (by decide +kernel)
theorem lk_X4_41 : Cond.methodLink RX4 41 yJ6_numberOfTrailingZeros_0f7a4 ∈ lw_tbl := tbl_i 579 (by decide +kernel)
theorem lk_X4_51 : Cond.methodLink RX4 51 yX4_lastStage ∈ lw_tbl := tbl_i 581 (by decide +kernel)
theorem lk_X4_36 : Cond.methodLink RX4 36 yX4_allFit ∈ lw_tbl := tbl_i 586 (by decide +kernel)
theorem lk_X4_70 : Cond.methodLink RX4 70 yJ13_numberOfTrailingZeros_95d88 ∈ lw_tbl := tbl_i 590 (by decide +kernel)
theorem lk_J13_311 : Cond.methodLink RJ13 311 yJ6_numberOfTrailingZeros_0f7a4 ∈ lw_tbl := tbl_i 593 (by decide +kernel)
theorem lk_X4_75 : Cond.methodLink RX4 75 yX0_fits ∈ lw_tbl := tbl_i 594 (by decide +kernel)
theorem lk_X7_240 : Cond.methodLink RX7 240 yX7_keepAnswer ∈ lw_tbl := tbl_i 596 (by decide +kernel)
theorem lk_L_100 : Cond.methodLink RL 100 yX7_next ∈ lw_tbl := tbl_i 600 (by decide +kernel)
theorem lk_X7_243 : Cond.methodLink RX7 243 yX7_findsAnswerAbove ∈ lw_tbl := tbl_i 604 (by decide +kernel)
theorem lk_L_104 : Cond.methodLink RL 104 yX7_answer ∈ lw_tbl := tbl_i 608 (by decide +kernel)
theorem lk_L_108 : Cond.methodLink RL 108 yX7_count ∈ lw_tbl := tbl_i 612 (by decide +kernel)
theorem lk_L_112 : Cond.methodLink RL 112 yX7_best ∈ lw_tbl := tbl_i 616 (by decide +kernel)
theorem lk_X7_250 : Cond.methodLink RX7 250 yX7_findsAnswerWith ∈ lw_tbl := tbl_i 620 (by decide +kernel)
theorem lk_L_116 : Cond.methodLink RL 116 yX7_has ∈ lw_tbl := tbl_i 624 (by decide +kernel)
theorem lk_L_120 : Cond.methodLink RL 120 yX7_core ∈ lw_tbl := tbl_i 628 (by decide +kernel)
theorem lk_X7_257 : Cond.methodLink RX7 257 yX7_hasAnswerBySteps ∈ lw_tbl := tbl_i 632 (by decide +kernel)
theorem lk_L_124 : Cond.methodLink RL 124 yX7_line ∈ lw_tbl := tbl_i 636 (by decide +kernel)
theorem lk_L_128 : Cond.methodLink RL 128 yX7_says ∈ lw_tbl := tbl_i 640 (by decide +kernel)
theorem lk_X7_266 : Cond.methodLink RX7 266 yX7_isLine ∈ lw_tbl := tbl_i 644 (by decide +kernel)
theorem lk_L_132 : Cond.methodLink RL 132 yX7_forge ∈ lw_tbl := tbl_i 648 (by decide +kernel)
theorem lk_L_136 : Cond.methodLink RL 136 yX7_check ∈ lw_tbl := tbl_i 652 (by decide +kernel)
theorem lk_X7_272 : Cond.methodLink RX7 272 yX7_isRightByLines ∈ lw_tbl := tbl_i 656 (by decide +kernel)
theorem lk_X7_284 : Cond.methodLink RX7 284 yX7_cutToldByFalse ∈ lw_tbl := tbl_i 660 (by decide +kernel)
theorem lk_X7_275 : Cond.methodLink RX7 275 yX7_isRightByRule ∈ lw_tbl := tbl_i 664 (by decide +kernel)
theorem lk_L_140 : Cond.methodLink RL 140 yX7_refutes ∈ lw_tbl := tbl_i 668 (by decide +kernel)
theorem lk_X7_278 : Cond.methodLink RX7 278 yX7_check ∈ lw_tbl := tbl_i 672 (by decide +kernel)
theorem lk_L_144 : Cond.methodLink RL 144 yX7_total ∈ lw_tbl := tbl_i 673 (by decide +kernel)
theorem lk_X7_292 : Cond.methodLink RX7 292 yX6_countLaid ∈ lw_tbl := tbl_i 677 (by decide +kernel)
theorem lk_X6_20 : Cond.methodLink RX6 20 yX6_isMissing ∈ lw_tbl := tbl_i 681 (by decide +kernel)
theorem lk_L_12 : Cond.methodLink RL 12 yX8_init ∈ lw_tbl := tbl_i 684 (by decide +kernel)
theorem lk_L_17 : Cond.methodLink RL 17 yX8_unknown ∈ lw_tbl := tbl_i 792 (by decide +kernel)
theorem lk_X8_96 : Cond.methodLink RX8 96 yX8_in ∈ lw_tbl := tbl_i 797 (by decide +kernel)
theorem lk_X8_112 : Cond.methodLink RX8 112 yX8_bits ∈ lw_tbl := tbl_i 800 (by decide +kernel)
theorem lk_X8_116 : Cond.methodLink RX8 116 yX8_asTold ∈ lw_tbl := tbl_i 804 (by decide +kernel)
theorem lk_L_21 : Cond.methodLink RL 21 yX8_hole ∈ lw_tbl := tbl_i 808 (by decide +kernel)
theorem lk_X8_119 : Cond.methodLink RX8 119 yX8_noUnknown ∈ lw_tbl := tbl_i 812 (by decide +kernel)
theorem lk_X8_123 : Cond.methodLink RX8 123 yX8_many ∈ lw_tbl := tbl_i 816 (by decide +kernel)
theorem lk_L_26 : Cond.methodLink RL 26 yX8_rule ∈ lw_tbl := tbl_i 819 (by decide +kernel)
theorem lk_L_31 : Cond.methodLink RL 31 yX8_part ∈ lw_tbl := tbl_i 828 (by decide +kernel)
theorem lk_X8_137 : Cond.methodLink RX8 137 yX8_noRule ∈ lw_tbl := tbl_i 832 (by decide +kernel)
theorem lk_X8_140 : Cond.methodLink RX8 140 yX8_finds ∈ lw_tbl := tbl_i 836 (by decide +kernel)
theorem lk_X8_149 : Cond.methodLink RX8 149 yX8_added ∈ lw_tbl := tbl_i 843 (by decide +kernel)
theorem lk_L_35 : Cond.methodLink RL 35 yX8_literal ∈ lw_tbl := tbl_i 847 (by decide +kernel)
theorem lk_L_40 : Cond.methodLink RL 40 yX8_stand ∈ lw_tbl := tbl_i 852 (by decide +kernel)
theorem lk_L_44 : Cond.methodLink RL 44 yX8_table ∈ lw_tbl := tbl_i 856 (by decide +kernel)
theorem lk_L_49 : Cond.methodLink RL 49 yX8_tear ∈ lw_tbl := tbl_i 860 (by decide +kernel)
theorem lk_L_53 : Cond.methodLink RL 53 yX8_cell ∈ lw_tbl := tbl_i 864 (by decide +kernel)
theorem lk_L_58 : Cond.methodLink RL 58 yX8_copy ∈ lw_tbl := tbl_i 868 (by decide +kernel)
theorem lk_L_62 : Cond.methodLink RL 62 yX8_get ∈ lw_tbl := tbl_i 872 (by decide +kernel)
theorem lk_L_66 : Cond.methodLink RL 66 yX8_about ∈ lw_tbl := tbl_i 876 (by decide +kernel)
theorem lk_L_71 : Cond.methodLink RL 71 yX8_narrow ∈ lw_tbl := tbl_i 880 (by decide +kernel)
theorem lk_X8_207 : Cond.methodLink RX8 207 yX8_asideAs ∈ lw_tbl := tbl_i 884 (by decide +kernel)
theorem lk_X8_211 : Cond.methodLink RX8 211 yX8_narrowAside ∈ lw_tbl := tbl_i 888 (by decide +kernel)
theorem lk_X8_193 : Cond.methodLink RX8 193 yX8_hasNone ∈ lw_tbl := tbl_i 892 (by decide +kernel)
theorem lk_X8_201 : Cond.methodLink RX8 201 yX8_fitsBare ∈ lw_tbl := tbl_i 896 (by decide +kernel)
theorem lk_X8_204 : Cond.methodLink RX8 204 yX8_left ∈ lw_tbl := tbl_i 900 (by decide +kernel)
theorem lk_X8_155 : Cond.methodLink RX8 155 yX8_asideOf ∈ lw_tbl := tbl_i 904 (by decide +kernel)
theorem lk_X8_190 : Cond.methodLink RX8 190 yX8_goes ∈ lw_tbl := tbl_i 908 (by decide +kernel)
theorem lk_X8_175 : Cond.methodLink RX8 175 yX8_goesBySum ∈ lw_tbl := tbl_i 912 (by decide +kernel)
theorem lk_X8_164 : Cond.methodLink RX8 164 yX8_end ∈ lw_tbl := tbl_i 916 (by decide +kernel)
theorem lk_X8_158 : Cond.methodLink RX8 158 yX8_greatest ∈ lw_tbl := tbl_i 920 (by decide +kernel)
theorem lk_X8_161 : Cond.methodLink RX8 161 yX8_least ∈ lw_tbl := tbl_i 923 (by decide +kernel)
theorem lk_X8_172 : Cond.methodLink RX8 172 yX8_goesByUnlike ∈ lw_tbl := tbl_i 926 (by decide +kernel)
theorem lk_X8_178 : Cond.methodLink RX8 178 yX8_goesByTable ∈ lw_tbl := tbl_i 930 (by decide +kernel)
theorem lk_X8_181 : Cond.methodLink RX8 181 yX8_goesByLoad ∈ lw_tbl := tbl_i 934 (by decide +kernel)
theorem lk_X8_168 : Cond.methodLink RX8 168 yX8_mustRun ∈ lw_tbl := tbl_i 938 (by decide +kernel)
theorem lk_X8_184 : Cond.methodLink RX8 184 yX8_goesByRing ∈ lw_tbl := tbl_i 942 (by decide +kernel)
theorem lk_X8_187 : Cond.methodLink RX8 187 yX8_goesByClause ∈ lw_tbl := tbl_i 946 (by decide +kernel)
theorem lk_L_75 : Cond.methodLink RL 75 yX8_takes ∈ lw_tbl := tbl_i 950 (by decide +kernel)
theorem lk_L_79 : Cond.methodLink RL 79 yX8_step ∈ lw_tbl := tbl_i 954 (by decide +kernel)
theorem lk_L_83 : Cond.methodLink RL 83 yX8_undo ∈ lw_tbl := tbl_i 958 (by decide +kernel)
theorem lk_L_87 : Cond.methodLink RL 87 yX8_range ∈ lw_tbl := tbl_i 962 (by decide +kernel)
theorem lk_L_91 : Cond.methodLink RL 91 yX8_why ∈ lw_tbl := tbl_i 966 (by decide +kernel)
theorem lk_X8_221 : Cond.methodLink RX8 221 yX8_isLacked ∈ lw_tbl := tbl_i 970 (by decide +kernel)
theorem lk_X8_214 : Cond.methodLink RX8 214 yX8_asideCut ∈ lw_tbl := tbl_i 974 (by decide +kernel)
theorem lk_X8_224 : Cond.methodLink RX8 224 yX8_reasoned ∈ lw_tbl := tbl_i 978 (by decide +kernel)
theorem lk_L_95 : Cond.methodLink RL 95 yX8_reason ∈ lw_tbl := tbl_i 982 (by decide +kernel)
theorem lk_L_99 : Cond.methodLink RL 99 yX8_solve ∈ lw_tbl := tbl_i 986 (by decide +kernel)
theorem lk_X8_253 : Cond.methodLink RX8 253 yX8_begun ∈ lw_tbl := tbl_i 990 (by decide +kernel)
theorem lk_X8_250 : Cond.methodLink RX8 250 yX8_isFar ∈ lw_tbl := tbl_i 994 (by decide +kernel)
theorem lk_X8_257 : Cond.methodLink RX8 257 yX8_first ∈ lw_tbl := tbl_i 999 (by decide +kernel)
theorem lk_X8_260 : Cond.methodLink RX8 260 yX8_fitsAll ∈ lw_tbl := tbl_i 1003 (by decide +kernel)
theorem lk_X8_245 : Cond.methodLink RX8 245 yX8_fits ∈ lw_tbl := tbl_i 1007 (by decide +kernel)
theorem lk_X8_227 : Cond.methodLink RX8 227 yX8_fitsSum ∈ lw_tbl := tbl_i 1011 (by decide +kernel)
theorem lk_X8_230 : Cond.methodLink RX8 230 yX8_fitsUnlike ∈ lw_tbl := tbl_i 1015 (by decide +kernel)
theorem lk_X8_233 : Cond.methodLink RX8 233 yX8_fitsTable ∈ lw_tbl := tbl_i 1019 (by decide +kernel)
theorem lk_X8_236 : Cond.methodLink RX8 236 yX8_fitsLoad ∈ lw_tbl := tbl_i 1023 (by decide +kernel)
theorem lk_X8_239 : Cond.methodLink RX8 239 yX8_fitsRing ∈ lw_tbl := tbl_i 1027 (by decide +kernel)
theorem lk_X8_242 : Cond.methodLink RX8 242 yX8_fitsClause ∈ lw_tbl := tbl_i 1031 (by decide +kernel)
theorem lk_X8_263 : Cond.methodLink RX8 263 yX8_keep ∈ lw_tbl := tbl_i 1035 (by decide +kernel)
theorem lk_X8_266 : Cond.methodLink RX8 266 yX8_goesOn ∈ lw_tbl := tbl_i 1039 (by decide +kernel)
theorem lk_L_103 : Cond.methodLink RL 103 yX8_next ∈ lw_tbl := tbl_i 1043 (by decide +kernel)
theorem lk_X8_269 : Cond.methodLink RX8 269 yX8_isAbove ∈ lw_tbl := tbl_i 1047 (by decide +kernel)
theorem lk_L_107 : Cond.methodLink RL 107 yX8_answer ∈ lw_tbl := tbl_i 1051 (by decide +kernel)
theorem lk_L_111 : Cond.methodLink RL 111 yX8_count ∈ lw_tbl := tbl_i 1055 (by decide +kernel)
theorem lk_L_115 : Cond.methodLink RL 115 yX8_best ∈ lw_tbl := tbl_i 1059 (by decide +kernel)
theorem lk_L_119 : Cond.methodLink RL 119 yX8_has ∈ lw_tbl := tbl_i 1063 (by decide +kernel)
theorem lk_L_123 : Cond.methodLink RL 123 yX8_core ∈ lw_tbl := tbl_i 1067 (by decide +kernel)
theorem lk_X8_272 : Cond.methodLink RX8 272 yX8_hasAnswer ∈ lw_tbl := tbl_i 1071 (by decide +kernel)
theorem lk_L_127 : Cond.methodLink RL 127 yX8_line ∈ lw_tbl := tbl_i 1075 (by decide +kernel)
theorem lk_L_131 : Cond.methodLink RL 131 yX8_says ∈ lw_tbl := tbl_i 1079 (by decide +kernel)
theorem lk_X8_278 : Cond.methodLink RX8 278 yX8_noLine ∈ lw_tbl := tbl_i 1083 (by decide +kernel)
theorem lk_L_135 : Cond.methodLink RL 135 yX8_forge ∈ lw_tbl := tbl_i 1087 (by decide +kernel)
theorem lk_L_139 : Cond.methodLink RL 139 yX8_check ∈ lw_tbl := tbl_i 1091 (by decide +kernel)
theorem lk_X8_290 : Cond.methodLink RX8 290 yX8_firstWrong ∈ lw_tbl := tbl_i 1095 (by decide +kernel)
theorem lk_X8_284 : Cond.methodLink RX8 284 yX8_byLines ∈ lw_tbl := tbl_i 1099 (by decide +kernel)
theorem lk_X8_281 : Cond.methodLink RX8 281 yX8_takesByLine ∈ lw_tbl := tbl_i 1103 (by decide +kernel)
theorem lk_X8_287 : Cond.methodLink RX8 287 yX8_byRule ∈ lw_tbl := tbl_i 1107 (by decide +kernel)
theorem lk_L_143 : Cond.methodLink RL 143 yX8_refutes ∈ lw_tbl := tbl_i 1111 (by decide +kernel)
theorem lk_L_147 : Cond.methodLink RL 147 yX8_total ∈ lw_tbl := tbl_i 1115 (by decide +kernel)
