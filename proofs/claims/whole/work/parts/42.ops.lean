/-! WHAT EACH CALL ANSWERS AND CHANGES: rows -/
theorem inR_nat {x : Int32} {N : Nat} (hN : N < 2 ^ 31) (h : nI 0 ≤ x ∧ x ≤ nI N) : ∃ j : Nat, j ≤ N ∧ x = nI j := nI_of2 (M := nI N) (nI_toInt hN) (Int32.not_lt.mpr h.1) h.2
def fndS (S : Sg) (x : Nat) : Int32 × Sg := (-1000010 - nI x, (S.1, x, S.2.2))
def upR (w : Rw) (r : Nat) (x : Option (Nat × Nat × (Nat → Int32))) : Rw := fun q => if q = r then x else w q
def rowS (S : Sg) (r l c : Int32) : Int32 × Sg :=
  if nI 0 ≤ r ∧ r ≤ nI 7 then
    if nI 0 ≤ l ∧ l ≤ nI 2 then
      if c ≤ nI 40 then
        if 0 ≤ c then (c, (upR S.1 r.toNatClampNeg (some (l.toNatClampNeg, c.toNatClampNeg, fun _ => nI 0)), 0, S.2.2)) else fndS S 4
      else (-1000001, S)
    else (-1000001, S)
  else (-1000001, S)
def setS (S : Sg) (r i v : Int32) : Int32 × Sg :=
  if nI 0 ≤ r ∧ r ≤ nI 7 then
    match S.1 r.toNatClampNeg with
    | none => fndS S 1
    | some x => if 0 ≤ i ∧ i < nI x.2.1 then (lowF (nI x.1) v, (upR S.1 r.toNatClampNeg (some (x.1, x.2.1, fun q => if q = i.toNatClampNeg then lowF (nI x.1) v else x.2.2 q)), 0, S.2.2)) else fndS S 2
  else (-1000001, S)
abbrev hold (z : Nat) (i c : Int32) : Prop := 0 ≤ i ∧ 0 ≤ c ∧ i ≤ nI z ∧ c ≤ nI z - i
theorem hold_nat {z : Nat} {i c : Int32} (hz : z ≤ 40) (h : hold z i c) : ∃ a b : Nat, i = nI a ∧ c = nI b ∧ a + b ≤ z := by
  obtain ⟨h1, h2, h3, h4⟩ := h
  obtain ⟨a, ha, rfl⟩ := inR_nat (N := z) (by omega) ⟨h1, h3⟩
  have e : nI z - nI a = nI (z - a) := by
    have : nI z = nI (z - a) + nI a := by rw [nI_add]; congr 1; omega
    rw [this]
    exact Int32.add_sub_cancel _ _
  rw [e] at h4
  obtain ⟨b, hb, rfl⟩ := inR_nat (N := z - a) (by omega) ⟨h2, h4⟩
  exact ⟨a, b, rfl, rfl, by omega⟩
def copyS (S : Sg) (a i b j c : Int32) : Int32 × Sg :=
  if nI 0 ≤ a ∧ a ≤ nI 7 then
    if nI 0 ≤ b ∧ b ≤ nI 7 then
      match S.1 a.toNatClampNeg, S.1 b.toNatClampNeg with
      | some x, some y =>
        if nI x.1 = nI y.1 then
          if hold x.2.1 i c then
            if hold y.2.1 j c then (c, (upR S.1 b.toNatClampNeg (some (y.1, y.2.1, va_cpy x.2.2 y.2.2 i.toNatClampNeg j.toNatClampNeg c.toNatClampNeg)), 0, S.2.2)) else fndS S 2
          else fndS S 2
        else fndS S 5
      | _, _ => fndS S 1
    else (-1000001, S)
  else (-1000001, S)
def dropS (S : Sg) (r : Int32) : Int32 × Sg :=
  if nI 0 ≤ r ∧ r ≤ nI 7 then
    match S.1 r.toNatClampNeg with
    | none => fndS S 1
    | some x => (nI x.2.1, (upR S.1 r.toNatClampNeg none, 0, S.2.2))
  else (-1000001, S)
theorem RepC.rows {I J : Nat → Nat → Int32} {S : Sg} {w : Rw} (h : RepC I S) (hw : RRows J w) (e : ∀ p, p < 24 ∨ 40 ≤ p → J p = I p) : RepC J (w, S.2) := by
  obtain ⟨h1, h2, h3, h4, h5, h6, h7, h8⟩ := h
  have e0 := e 0 (by omega)
  exact ⟨hw, by rw [e0]; exact h2, h3.eq (e 2 (by omega)) (e 3 (by omega)), by rw [e0]; exact h4, ⟨h5.1.eq (fun i hi => e _ (by omega)), h5.2⟩, h6.eq (e 17 (by omega)) (e 18 (by omega)), h7.eq (fun p _ _ => e p (by omega)), h8.eq (e 22 (by omega)) (e 23 (by omega))⟩
theorem RRows.up {I J : Nat → Nat → Int32} {w : Rw} {r : Nat} {x : Option (Nat × Nat × (Nat → Int32))} (h : RRows I w) (e : ∀ p, p ≠ 24 + 2 * r → p ≠ 24 + 2 * r + 1 → J p = I p)
    (hx : (x = none ∧ J (24 + 2 * r) 2 = -1) ∨ ∃ l z it, x = some (l, z, it) ∧ J (24 + 2 * r) 1 = nI l ∧ J (24 + 2 * r) 2 = nI z ∧ l < 3 ∧ z ≤ 40 ∧ ∀ j, j < z → J (24 + 2 * r + 1) j = it j) : RRows J (upR w r x) := by
  intro q hq
  unfold upR
  by_cases hqr : q = r
  · subst hqr
    rw [if_pos rfl]
    exact hx
  · rw [if_neg hqr, e (24 + 2 * q) (by omega) (by omega), e (24 + 2 * q + 1) (by omega) (by omega)]
    exact h q hq
theorem FrC.rf {I : Nat → Nat → Int32} : FrC I I := fun _ _ => rfl
theorem FrM.rf {I : Nat → Nat → Int32} : FrM I I := fun _ _ => rfl
theorem FrC.ui {I : Nat → Nat → Int32} {p j : Nat} {x : Int32} (h : p < 52) : FrC I (uI I p j x) := fun a ha => uI_ne (by omega)
theorem FrM.ui {I : Nat → Nat → Int32} {p j : Nat} {x : Int32} (h : 52 ≤ p) : FrM I (uI I p j x) := fun a ha => uI_ne (by omega)
