/-! the references between the cells, once all is made; the Run's weave is at k -/
def rT : List (List (Option Nat)) := [[some 1, some 2, some 4, some 10, some 16, some 17, some 19, some 22], [some 24, some 26, some 28, some 30, some 32, some 34, some 36, some 38], [some 3], [], [some 5, some 6, some 7, some 8, some 9], [], [], [], [], [], [some 11, some 12, some 13, some 14, some 15], [], [], [], [], [], [some 40, some 46], [some 18], [], [some 20, some 21], [], [], [some 23, some 4], [], [some 25], [], [some 27], [], [some 29], [], [some 31], [], [some 33], [], [some 35], [], [some 37], [], [some 39], [], [some 41, some 42, some 43, some 44, some 45], [], [], [], [], [], [some 47, some 48, some 49, some 50, some 51], [], [], [], [], [], [some 53, some 54, some 55, some 56, none, some 57, none, none, none, none, none, none, none, some 58, some 59, some 60, some 61, none, some 62, some 63, some 64, none, some 65, some 66, none, none, none, none, none, none, some 67], [], [], [], [], [], [], [], [], [], [], [], [], [], [], []]
def RT (p j : Nat) : Option Nat := (rT.getD p []).getD j none
def RR (k : Nat) (p j : Nat) : Option Nat := if p = 19 ∧ j = 2 then some k else RT p j
theorem wv4 (k : Nat) : isWv (RR k) 68 4 := ⟨rfl, ⟨rfl, rfl⟩, ⟨rfl, rfl⟩, ⟨rfl, rfl⟩, ⟨rfl, rfl⟩, ⟨rfl, rfl⟩⟩
theorem wv10 (k : Nat) : isWv (RR k) 68 10 := ⟨rfl, ⟨rfl, rfl⟩, ⟨rfl, rfl⟩, ⟨rfl, rfl⟩, ⟨rfl, rfl⟩, ⟨rfl, rfl⟩⟩
theorem wv40 (k : Nat) : isWv (RR k) 68 40 := ⟨rfl, ⟨rfl, rfl⟩, ⟨rfl, rfl⟩, ⟨rfl, rfl⟩, ⟨rfl, rfl⟩, ⟨rfl, rfl⟩⟩
theorem wv46 (k : Nat) : isWv (RR k) 68 46 := ⟨rfl, ⟨rfl, rfl⟩, ⟨rfl, rfl⟩, ⟨rfl, rfl⟩, ⟨rfl, rfl⟩, ⟨rfl, rfl⟩⟩
theorem rw_at (k r : Nat) (h : r < 8) : isRw (RR k) 68 (24 + 2 * r) ∧ RR k 1 r = some (24 + 2 * r) := by
  have : r = 0 ∨ r = 1 ∨ r = 2 ∨ r = 3 ∨ r = 4 ∨ r = 5 ∨ r = 6 ∨ r = 7 := by omega
  rcases this with rfl | rfl | rfl | rfl | rfl | rfl | rfl | rfl <;> exact ⟨⟨rfl, rfl, rfl⟩, rfl⟩
/-! a run: what is emitted, how many calls, of which methods; none: it is full; else what it is then, by what it fails (0: it does not), what it returns -/
abbrev Rs : Type := List Nat × Nat × (Nat → Nat)
abbrev Res : Type := Option (Rs × Nat × Int32)
def emF (x : Nat) (s : Rs) : Option Rs := if 99 ≤ s.1.length then none else some (s.1 ++ [x], s.2)
def arF (num : Nat) (inner : Rs → Res) : Nat → Rs → Int32 → Res
  | 0, s, acc => (emF (num + 100) s).bind (fun s2 => some (s2, 0, acc))
  | t + 1, s, _ => (inner s).bind (fun r => if r.2.1 = 0 then arF num inner t r.1 (r.2.2 + 1) else some r)
def advF (knd num : Nat) (inner : Rs → Res) (s : Rs) : Res :=
  if knd = 4 then (emF num s).bind (fun s1 => arF num inner (num % 3) s1 (nI num))
  else if knd = 5 then (emF num s).bind inner
  else (inner s).bind (fun r => if knd = 1 ∨ (knd = 2 ∧ r.2.1 = 0) ∨ (knd = 3 ∧ ¬ r.2.1 = 0) then (emF num r.1).bind (fun s2 => some (s2, r.2)) else some r)
def onF (v : Vv) (mt : Nat) (body : Rs → Res) : Nat → Nat → Rs → Res
  | 0, _, s => body s
  | k + 1, p, s => if mt.testBit p = true then advF (vfa v p 5) (vfa v p 0) (onF v mt body k (p + 1)) s else onF v mt body k (p + 1) s
def boF (v : Vv) (x m : Nat) (ent : Nat → Rs → Res) : Nat → Nat → Rs → Int32 → Res
  | 0, _, s, acc => some (s, 0, acc)
  | k + 1, i, s, acc =>
    if vso v m i = 0 then (emF (vop v m i) s).bind (fun s1 => boF v x m ent k (i + 1) s1 acc)
    else if vso v m i = 1 then (if x = 0 then boF v x m ent k (i + 1) s acc else (ent (vop v m i) s).bind (fun r => if r.2.1 = 0 then boF v x m ent k (i + 1) r.1 (acc + r.2.2) else some r))
    else some (s, vop v m i, acc)
def enS (v : Vv) (x : Nat) (ent : Nat → Nat → Rs → Res) (m g : Nat) (s : Rs) : Res :=
  if 300 ≤ s.2.1 then none
  else onF v (meantF v m x (g ||| 1 <<< m)) (fun s1 => boF v x m (fun m2 s2 => ent m2 (g ||| 1 <<< m) s2) (vln v m) 0 s1 (nI x)) 5 0 (s.1, s.2.1 + 1, fun z => if z = m then s.2.2 m + 1 else s.2.2 z)
def enF (v : Vv) : Nat → Nat → Nat → Rs → Res
  | 0, m, g, s => enS v 0 (fun _ _ _ => none) m g s
  | x + 1, m, g, s => enS v (x + 1) (enF v x) m g s
/-- the Run at 19 is in state s, failing by f (0: not), not full -/
def RSt (I : Nat → Nat → Int32) (s : Rs) (f : Nat) : Prop :=
  I 19 3 = nI s.1.length ∧ I 19 4 = nI s.2.1 ∧ I 19 5 = nI f ∧ I 19 7 = nI 0 ∧ (∀ j, j < s.1.length → I 20 j = nI (s.1.getD j 0)) ∧ (∀ m, m < 6 → I 21 m = nI (s.2.2 m)) ∧ s.1.length ≤ 99 ∧ s.2.1 ≤ 300 ∧ (∀ m, m < 6 → s.2.2 m ≤ s.2.1) ∧ f < 10
def RPost (I : Nat → Nat → Int32) (res : Res) (r : Int32) : Prop := match res with
  | none => I 19 7 = nI 1
  | some x => RSt I x.1 x.2.1 ∧ (x.2.1 = 0 → r = x.2.2)
def EPost (I : Nat → Nat → Int32) (res : Option Rs) (f : Nat) : Prop := match res with
  | none => I 19 7 = nI 1
  | some x => RSt I x f
theorem RSt_emit {I : Nat → Nat → Int32} {s : Rs} {f x : Nat} (h : RSt I s f) (hl : s.1.length < 99) : RSt (uI (uI I 20 s.1.length (nI x)) 19 3 (nI (s.1.length + 1))) (s.1 ++ [x], s.2) f := by
  obtain ⟨h1, h2, h3, h4, h5, h6, h7, h8, h9, h10⟩ := h
  refine ⟨by simp [uI], by simp [uI, h2], by simp [uI, h3], by simp [uI, h4], fun j hj => ?_, fun m hm => by simp [uI, h6 m hm], by simp; omega, h8, h9, h10⟩
  have hj : j < s.1.length + 1 := by simpa using hj
  by_cases e : j = s.1.length
  · subst e; simp [uI]
  · have e2 : j < s.1.length := by omega
    have : uI (uI I 20 s.1.length (nI x)) 19 3 (nI (s.1.length + 1)) 20 j = I 20 j := by simp [uI, e]
    rw [this, h5 j e2]
    simp [List.getElem?_append_left e2]
theorem CRep.fr {I J : Nat → Nat → Int32} {b : Nat} {v : Vv} {ps : List Nat} (h : CRep I b v) (hf : Fr ps I J) (hp : ∀ p ∈ ps, p < b ∨ b + 5 < p) : CRep J b v := by
  have e : ∀ i, i ≤ 5 → J (b + i) = I (b + i) := fun i hi => hf _ (fun z => by have := hp _ z; omega)
  obtain ⟨h1, h2, h3, h4⟩ := h
  have e0 : J b = I b := e 0 (by omega)
  refine ⟨by rw [e0]; exact h1, by rw [e0]; exact h2, fun m hm => ?_, fun a ha f hf => by rw [e 5 (by omega)]; exact h4 a ha f hf⟩
  rw [e 1 (by omega), e 2 (by omega), e 3 (by omega), e 4 (by omega)]
  exact h3 m hm
