/-! WHAT THE STATE IS, of both: rows (lane, size, items), the finding, the tape, the fault, the weave, the weaves before each act (the latest first), the images, the trace -/
abbrev Rw : Type := Nat → Option (Nat × Nat × (Nat → Int32))
abbrev Sg : Type := Rw × Nat × List Nat × Nat × Vv × List Vv × (Nat → Option Vv) × List Nat
def setFa (v : Vv) (a f x : Nat) : Vv := (v.1, v.2.1, v.2.2.1, v.2.2.2.1, v.2.2.2.2.1, v.2.2.2.2.2.1, fun b g => if b = a ∧ g = f then x else vfa v b g)
def exV (v : Vv) (a b : Nat) : Vv := (v.1, v.2.1, v.2.2.1, v.2.2.2.1, v.2.2.2.2.1, v.2.2.2.2.2.1, fun c f => if c = a then vfa v b f else if c = b then vfa v a f else vfa v c f)
def setSt (v : Vv) (m i s x : Nat) : Vv := (v.1, v.2.1, v.2.2.1, v.2.2.2.1, fun a b => if a = m ∧ b = i then s else vso v a b, fun a b => if a = m ∧ b = i then x else vop v a b, v.2.2.2.2.2.2)
def setCl (v : Vv) (m c : Nat) : Vv := (v.1, v.2.1, fun a => if a = m then c else vcl v a, v.2.2.2)
def actU (x0 x1 x2 x3 x4 : Nat) (v : Vv) : Vv := if x0 = 0 then setFa v x1 x2 x3 else if x0 = 1 then exV v x1 x2 else if x0 = 2 then setSt v x1 x2 x3 x4 else setCl v x1 x2
def actOk (x0 x1 x2 : Nat) (v : Vv) : Prop := (x0 = 0 ∧ x1 < vna v ∧ x2 < 6) ∨ (x0 = 1 ∧ x1 < vna v ∧ x2 < vna v) ∨ (x0 = 2 ∧ x1 < vnm v ∧ x2 < vln v x1) ∨ (x0 = 3 ∧ x1 < vnm v)
/-- at place n of the acts lies what leads from v back to u -/
def ActAt (I : Nat → Nat → Int32) (n : Nat) (u v : Vv) : Prop := ∃ x0 x1 x2 x3 x4 : Nat, I 18 (n * 5) = nI x0 ∧ I 18 (n * 5 + 1) = nI x1 ∧ I 18 (n * 5 + 2) = nI x2 ∧ I 18 (n * 5 + 3) = nI x3 ∧ I 18 (n * 5 + 4) = nI x4 ∧ actOk x0 x1 x2 v ∧ u = actU x0 x1 x2 x3 x4 v
def Chn (I : Nat → Nat → Int32) (o : Nat) : Nat → Vv → List Vv → Prop
  | 0, _, us => us = []
  | n + 1, v, us => ∃ u t, us = u :: t ∧ ActAt I (o + n) u v ∧ VOk u ∧ Chn I o n u t
def RRows (I : Nat → Nat → Int32) (w : Rw) : Prop := ∀ r, r < 8 → (w r = none ∧ I (24 + 2 * r) 2 = -1) ∨ ∃ l z it, w r = some (l, z, it) ∧ I (24 + 2 * r) 1 = nI l ∧ I (24 + 2 * r) 2 = nI z ∧ l < 3 ∧ z ≤ 40 ∧ ∀ j, j < z → I (24 + 2 * r + 1) j = it j
def RTape (I : Nat → Nat → Int32) (t : List Nat) : Prop := I 2 1 = nI t.length ∧ t.length ≤ 130 ∧ ∀ j, j < t.length → I 3 j = nI (t.getD j 0) ∧ t.getD j 0 < 256
def RImg (I : Nat → Nat → Int32) (g : Nat → Option Vv) : Prop := ∀ q, q < 2 → (g q = none ∧ I (40 + 6 * q) 5 = nI 0) ∨ ∃ u, g q = some u ∧ CRep I (40 + 6 * q) u ∧ VOk u ∧ 0 < vnm u
def RActs (I : Nat → Nat → Int32) (v : Vv) (us : List Vv) : Prop := I 17 1 = nI us.length ∧ us.length ≤ 16 ∧ Chn I 0 us.length v us
def RepC (I : Nat → Nat → Int32) (S : Sg) : Prop :=
  RRows I S.1 ∧ (I 0 9 = nI S.2.1 ∧ S.2.1 < 6) ∧ RTape I S.2.2.1 ∧ (I 0 8 = nI S.2.2.2.1 ∧ S.2.2.2.1 < 5) ∧ (CRep I 4 S.2.2.2.2.1 ∧ VOk S.2.2.2.2.1) ∧ RActs I S.2.2.2.2.1 S.2.2.2.2.2.1 ∧ RImg I S.2.2.2.2.2.2.1 ∧ ATr I S.2.2.2.2.2.2.2
/-! the same of the reference -/
def MRows (I : Nat → Nat → Int32) (w : Rw) : Prop := ∀ r, r < 8 → (w r = none ∧ I 53 r = -1000000) ∨ ∃ l z it, w r = some (l, z, it) ∧ I 53 r = nI l ∧ I 54 r = nI z ∧ l < 3 ∧ z ≤ 40 ∧ ∀ j, j < z → I 55 (40 * r + j) = it j
def MTape (I : Nat → Nat → Int32) (t : List Nat) : Prop := I 52 6 = nI t.length ∧ t.length ≤ 130 ∧ ∀ j, j < t.length → I 57 j = nI (t.getD j 0) ∧ t.getD j 0 < 256
def MImg (I : Nat → Nat → Int32) (g : Nat → Option Vv) : Prop := ∀ q, q < 2 → (g q = none ∧ I 63 q = nI 0) ∨ ∃ u, g q = some u ∧ I 63 q = nI 1 ∧ MRep I 62 (92 * q) u ∧ VOk u
def MPast (I : Nat → Nat → Int32) (o : Nat) : Nat → List Vv → Prop
  | 0, us => us = []
  | n + 1, us => ∃ u t, us = u :: t ∧ MRep I 61 (92 * (o + n)) u ∧ VOk u ∧ MPast I o n t
def MActs (I : Nat → Nat → Int32) (us : List Vv) : Prop := I 52 17 = nI us.length ∧ us.length ≤ 16 ∧ MPast I 0 us.length us
def MTr (I : Nat → Nat → Int32) (tl : List Nat) : Prop := I 52 31 = nI tl.length ∧ (∀ j, j < tl.length → I 67 j = nI (tl.getD j 0)) ∧ tl.length ≤ 16
def RepM (I : Nat → Nat → Int32) (S : Sg) : Prop :=
  MRows I S.1 ∧ (I 52 4 = nI S.2.1 ∧ S.2.1 < 6) ∧ MTape I S.2.2.1 ∧ (I 52 7 = nI S.2.2.2.1 ∧ S.2.2.2.1 < 5) ∧ (MRep I 58 0 S.2.2.2.2.1 ∧ VOk S.2.2.2.2.1) ∧ MActs I S.2.2.2.2.2.1 ∧ MImg I S.2.2.2.2.2.2.1 ∧ MTr I S.2.2.2.2.2.2.2
/-- nothing of the reference's changes; nothing of the class's -/
def FrC (I J : Nat → Nat → Int32) : Prop := ∀ p, 52 ≤ p → J p = I p
def FrM (I J : Nat → Nat → Int32) : Prop := ∀ p, p < 52 → J p = I p
theorem FrC.of {ps : List Nat} {I J : Nat → Nat → Int32} (h : Fr ps I J) (hp : ∀ p ∈ ps, p < 52) : FrC I J := fun p hq => h p (fun z => by have := hp p z; omega)
theorem FrM.of {ps : List Nat} {I J : Nat → Nat → Int32} (h : Fr ps I J) (hp : ∀ p ∈ ps, 52 ≤ p) : FrM I J := fun p hq => h p (fun z => by have := hp p z; omega)
theorem FrC.tr {I J K : Nat → Nat → Int32} (h1 : FrC I J) (h2 : FrC J K) : FrC I K := fun p hp => (h2 p hp).trans (h1 p hp)
theorem FrM.tr {I J K : Nat → Nat → Int32} (h1 : FrM I J) (h2 : FrM J K) : FrM I K := fun p hp => (h2 p hp).trans (h1 p hp)
/-! each piece speaks of its own positions -/
theorem RRows.eq {I J : Nat → Nat → Int32} {w : Rw} (h : RRows I w) (e : ∀ p, 24 ≤ p → p < 40 → J p = I p) : RRows J w := by
  intro r hr
  rw [e (24 + 2 * r) (by omega) (by omega), e (24 + 2 * r + 1) (by omega) (by omega)]
  exact h r hr
theorem RTape.eq {I J : Nat → Nat → Int32} {t : List Nat} (h : RTape I t) (e2 : J 2 = I 2) (e3 : J 3 = I 3) : RTape J t := by
  unfold RTape; rw [e2, e3]; exact h
theorem CRep.eq {I J : Nat → Nat → Int32} {b : Nat} {v : Vv} (h : CRep I b v) (e : ∀ i, i ≤ 5 → J (b + i) = I (b + i)) : CRep J b v := by
  obtain ⟨h1, h2, h3, h4⟩ := h
  have e0 : J b = I b := e 0 (by omega)
  refine ⟨by rw [e0]; exact h1, by rw [e0]; exact h2, fun m hm => ?_, fun a ha f hf => by rw [e 5 (by omega)]; exact h4 a ha f hf⟩
  rw [e 1 (by omega), e 2 (by omega), e 3 (by omega), e 4 (by omega)]
  exact h3 m hm
theorem RImg.eq {I J : Nat → Nat → Int32} {g : Nat → Option Vv} (h : RImg I g) (e : ∀ p, 40 ≤ p → p < 52 → J p = I p) : RImg J g := by
  intro q hq
  rcases h q hq with ⟨a, b⟩ | ⟨u, a, b, c⟩
  · exact Or.inl ⟨a, by rw [e _ (by omega) (by omega)]; exact b⟩
  · exact Or.inr ⟨u, a, b.eq (fun i hi => e _ (by omega) (by omega)), c⟩
theorem ATr.eq {I J : Nat → Nat → Int32} {t : List Nat} (h : ATr I t) (e2 : J 22 = I 22) (e3 : J 23 = I 23) : ATr J t := by
  unfold ATr; rw [e2, e3]; exact h
theorem Chn.eq {I J : Nat → Nat → Int32} (e : J 18 = I 18) {o : Nat} : ∀ (n : Nat) (v : Vv) (us : List Vv), Chn I o n v us → Chn J o n v us := by
  intro n
  induction n with
  | zero => intro v us h; exact h
  | succ n ih =>
    intro v us h
    obtain ⟨u, t, h1, h2, h3, h4⟩ := h
    refine ⟨u, t, h1, ?_, h3, ih u t h4⟩
    unfold ActAt
    rw [e]
    exact h2
theorem RActs.eq {I J : Nat → Nat → Int32} {v : Vv} {us : List Vv} (h : RActs I v us) (e7 : J 17 = I 17) (e8 : J 18 = I 18) : RActs J v us := by
  obtain ⟨a, b, c⟩ := h
  exact ⟨by rw [e7]; exact a, b, c.eq e8⟩
/-- what the trial weave and the run hold is nobody's -/
theorem RepC.scr {I J : Nat → Nat → Int32} {S : Sg} (h : RepC I S) (e : ∀ p, p < 10 ∨ 16 ≤ p → p < 19 ∨ 22 ≤ p → J p = I p) : RepC J S := by
  obtain ⟨h1, h2, h3, h4, h5, h6, h7, h8⟩ := h
  have e0 := e 0 (by omega) (by omega)
  exact ⟨h1.eq (fun p _ _ => e p (by omega) (by omega)), by rw [e0]; exact h2, h3.eq (e 2 (by omega) (by omega)) (e 3 (by omega) (by omega)), by rw [e0]; exact h4, ⟨h5.1.eq (fun i hi => e _ (by omega) (by omega)), h5.2⟩, h6.eq (e 17 (by omega) (by omega)) (e 18 (by omega) (by omega)), h7.eq (fun p _ _ => e p (by omega) (by omega)), h8.eq (e 22 (by omega) (by omega)) (e 23 (by omega) (by omega))⟩
theorem RepC.fnd {I : Nat → Nat → Int32} {S : Sg} (h : RepC I S) {x : Nat} (hx : x < 6) : RepC (uI I 0 9 (nI x)) (S.1, x, S.2.2) := by
  obtain ⟨h1, h2, h3, h4, h5, h6, h7, h8⟩ := h
  have e : ∀ p, p ≠ 0 → uI I 0 9 (nI x) p = I p := fun p hp => uI_ne hp
  exact ⟨h1.eq (fun p _ _ => e p (by omega)), ⟨uI_eq, hx⟩, h3.eq (e 2 (by decide)) (e 3 (by decide)), ⟨by simp [uI]; exact h4.1, h4.2⟩, ⟨h5.1.eq (fun i hi => e _ (by omega)), h5.2⟩, h6.eq (e 17 (by decide)) (e 18 (by decide)), h7.eq (fun p _ _ => e p (by omega)), h8.eq (e 22 (by decide)) (e 23 (by decide))⟩
