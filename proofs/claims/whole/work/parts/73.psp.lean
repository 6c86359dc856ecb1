/-! THE TEXT, as it is read: tokens by their place; a state is (fault or 0, place) -/
theorem nI_sb {a b : Nat} (h : b ≤ a) : nI a - nI b = nI (a - b) := by
  have : nI a = nI (a - b) + nI b := by rw [nI_add]; congr 1; omega
  rw [this]
  exact Int32.add_sub_cancel _ _
abbrev isD (t : List Nat) (p : Nat) : Prop := p < t.length ∧ 48 ≤ t.getD p 0 ∧ t.getD p 0 ≤ 57
abbrev isC (t : List Nat) (p : Nat) : Prop := (97 ≤ t.getD p 0 ∧ t.getD p 0 ≤ 122) ∨ t.getD p 0 = 44 ∨ t.getD p 0 = 59
def dgL (t : List Nat) : Nat → Nat → Nat
  | 0, _ => 0
  | k + 1, p => if isD t p then dgL t k (p + 1) + 1 else 0
theorem dgL_all {t : List Nat} : ∀ k p j, j < dgL t k p → isD t (p + j) := by
  intro k
  induction k with
  | zero => intro p j h; exact absurd h (Nat.not_lt_zero _)
  | succ k ih =>
    intro p j h
    rw [dgL] at h
    split at h
    · next hd =>
      cases j with
      | zero => exact hd
      | succ j =>
        have := ih (p + 1) j (by omega)
        rw [show p + (j + 1) = p + 1 + j by omega]
        exact this
    · exact absurd h (Nat.not_lt_zero _)
theorem dgL_end {t : List Nat} : ∀ k p, t.length ≤ p + k → ¬ isD t (p + dgL t k p) := by
  intro k
  induction k with
  | zero => intro p h z; have := z.1; rw [dgL] at this; omega
  | succ k ih =>
    intro p h
    rw [dgL]
    split
    · have := ih (p + 1) (by omega)
      rw [show p + (dgL t k (p + 1) + 1) = p + 1 + dgL t k (p + 1) by omega]
      exact this
    · next hd => exact hd
def dgN (t : List Nat) (p : Nat) : Nat := dgL t t.length p
theorem dgN_all {t : List Nat} {p j : Nat} (h : j < dgN t p) : isD t (p + j) := dgL_all _ _ _ h
theorem dgN_end {t : List Nat} {p : Nat} : ¬ isD t (p + dgN t p) := dgL_end _ _ (by omega)
theorem dgN_pos {t : List Nat} {p : Nat} (h : isD t p) : 0 < dgN t p := by
  apply Nat.pos_of_ne_zero
  intro z
  have := dgN_end (t := t) (p := p)
  rw [z] at this
  exact this h
theorem dgN_le {t : List Nat} {p : Nat} (h : p ≤ t.length) : p + dgN t p ≤ t.length := by
  by_cases z : dgN t p = 0
  · omega
  · have := (dgN_all (t := t) (p := p) (j := dgN t p - 1) (by omega)).1
    omega
def kdT (t : List Nat) (p : Nat) : Nat := if t.length ≤ p then 0 else if isD t p then (if dgN t p ≤ 2 then 2 else 3) else if isC t p then 1 else 3
def nxt (t : List Nat) (p : Nat) : Nat := if t.length ≤ p then p else if isD t p then p + dgN t p else p + 1
theorem nxt_le {t : List Nat} {p : Nat} (h : p ≤ t.length) : nxt t p ≤ t.length := by
  unfold nxt
  split
  · exact h
  · split
    · exact dgN_le h
    · omega
def tkV (t : List Nat) (p : Nat) : Nat := if dgN t p = 1 then t.getD p 0 - 48 else 10 * (t.getD p 0 - 48) + (t.getD (p + 1) 0 - 48)
def chr (t : List Nat) (p x : Nat) : Bool := kdT t p == 1 && t.getD p 0 == x
theorem chr_iff {t : List Nat} {p x : Nat} : chr t p x = true ↔ kdT t p = 1 ∧ t.getD p 0 = x := by simp [chr]
theorem kd1 {t : List Nat} {p : Nat} (h : kdT t p = 1) : p < t.length ∧ ¬ isD t p ∧ isC t p := by
  unfold kdT at h
  split at h
  · exact absurd h (by decide)
  · split at h
    · split at h <;> exact absurd h (by decide)
    · next h1 h2 =>
      split at h
      · next h3 => exact ⟨by omega, h2, h3⟩
      · exact absurd h (by decide)
theorem kd2 {t : List Nat} {p : Nat} (h : kdT t p = 2) : isD t p ∧ dgN t p ≤ 2 := by
  unfold kdT at h
  split at h
  · exact absurd h (by decide)
  · split at h
    · next h1 =>
      split at h
      · next h2 => exact ⟨h1, h2⟩
      · exact absurd h (by decide)
    · split at h <;> exact absurd h (by decide)
theorem tkV_lt {t : List Nat} {p : Nat} (h : kdT t p = 2) : tkV t p < 100 := by
  obtain ⟨h1, h2⟩ := kd2 h
  have h3 := dgN_pos h1
  unfold tkV
  split
  · omega
  · have := (dgN_all (t := t) (p := p) (j := 1) (by omega)).2
    omega
def soC (c : Nat) : Nat := if c = 101 then 0 else if c = 99 then 1 else if c = 102 then 2 else 3
def kdC (c : Nat) : Nat := if c = 97 then 1 else if c = 114 then 2 else if c = 116 then 3 else if c = 111 then 4 else if c = 98 then 5 else 0
def soN (t : List Nat) (p : Nat) : Nat := if kdT t p = 1 then soC (t.getD p 0) else 3
def kdN (t : List Nat) (p : Nat) : Nat := if kdT t p = 1 then kdC (t.getD p 0) else 0
theorem kdN_lt (t : List Nat) (p : Nat) : kdN t p < 6 := by
  unfold kdN kdC
  repeat' split
  all_goals decide
theorem soN_1 {t : List Nat} {p : Nat} (h : soN t p < 3) : kdT t p = 1 ∧ soC (t.getD p 0) = soN t p := by
  unfold soN at h ⊢
  split
  · next h1 => exact ⟨h1, rfl⟩
  · next h1 => rw [if_neg h1] at h; exact absurd h (by decide)
theorem kdN_1 {t : List Nat} {p : Nat} (h : ¬ kdN t p = 0) : kdT t p = 1 ∧ kdC (t.getD p 0) = kdN t p := by
  unfold kdN at h ⊢
  split
  · next h1 => exact ⟨h1, rfl⟩
  · next h1 => rw [if_neg h1] at h; exact absurd rfl h
abbrev Ps : Type := Nat × Nat
def tkS (t : List Nat) (b : Bool) (f : Nat) (s : Ps) : Ps := if s.1 = 0 then (if b = true then (0, nxt t s.2) else (f, s.2)) else s
def nmS (t : List Nat) (lo hi : Nat) (s : Ps) : Ps := if s.1 = 0 then (if kdT t s.2 = 2 then (if lo ≤ tkV t s.2 ∧ tkV t s.2 ≤ hi then (0, nxt t s.2) else (2, s.2)) else (1, s.2)) else s
def muS (b : Bool) (f : Nat) (s : Ps) : Ps := if s.1 = 0 ∧ b = false then (f, s.2) else s
theorem tkS_0 {t : List Nat} {b : Bool} {f : Nat} {s : Ps} (hf : ¬ f = 0) (h : (tkS t b f s).1 = 0) : s.1 = 0 ∧ b = true := by
  unfold tkS at h
  split at h
  · next h1 =>
    split at h
    · next h2 => exact ⟨h1, h2⟩
    · exact absurd h hf
  · next h1 => exact absurd h h1
theorem nmS_0 {t : List Nat} {lo hi : Nat} {s : Ps} (h : (nmS t lo hi s).1 = 0) : s.1 = 0 ∧ kdT t s.2 = 2 ∧ lo ≤ tkV t s.2 ∧ tkV t s.2 ≤ hi := by
  unfold nmS at h
  split at h
  · next h1 =>
    split at h
    · next h2 =>
      split at h
      · next h3 => exact ⟨h1, h2, h3.1, h3.2⟩
      · have h : (2 : Nat) = 0 := h; exact absurd h (by decide)
    · have h : (1 : Nat) = 0 := h; exact absurd h (by decide)
  · next h1 => exact absurd h h1
theorem muS_0 {b : Bool} {f : Nat} {s : Ps} (hf : ¬ f = 0) (h : (muS b f s).1 = 0) : muS b f s = s ∧ b = true := by
  unfold muS at h ⊢
  split at h
  · exact absurd h hf
  · next h1 =>
    rw [if_neg h1]
    refine ⟨rfl, ?_⟩
    cases b with
    | true => rfl
    | false => exact absurd ⟨h, rfl⟩ h1
theorem tkS_n {t : List Nat} {b : Bool} {f : Nat} {s : Ps} (h : ¬ s.1 = 0) : tkS t b f s = s := if_neg h
theorem nmS_n {t : List Nat} {lo hi : Nat} {s : Ps} (h : ¬ s.1 = 0) : nmS t lo hi s = s := if_neg h
theorem muS_n {b : Bool} {f : Nat} {s : Ps} (h : ¬ s.1 = 0) : muS b f s = s := if_neg (fun z => h z.1)
def slo (s : Nat) : Nat := if s = 1 then 0 else 1
def shi (s : Nat) : Nat := if s = 0 then 99 else if s = 1 then 5 else 9
def s2S (t : List Nat) (s : Ps) : Ps := nmS t (slo (soN t s.2)) (shi (soN t s.2)) (0, nxt t s.2)
def stS (t : List Nat) : Nat → Ps → List (Nat × Nat) → Ps × List (Nat × Nat)
  | 0, s, l => (s, l)
  | k + 1, s, l => if s.1 = 0 ∧ soN t s.2 < 3 then stS t k (s2S t s) (if (s2S t s).1 = 0 then l ++ [(soN t s.2, tkV t (nxt t s.2))] else l) else (s, l)
def addM (v : Vv) (c : Nat) (l : List (Nat × Nat)) : Vv := (v.1 + 1, v.2.1, (fun m => if m = v.1 then c else vcl v m), (fun m => if m = v.1 then l.length else vln v m), (fun m i => if m = v.1 then (l.getD i (0, 0)).1 else vso v m i), (fun m i => if m = v.1 then (l.getD i (0, 0)).2 else vop v m i), v.2.2.2.2.2.2)
def addA (v : Vv) (x : Nat → Nat) : Vv := (v.1, v.2.1 + 1, v.2.2.1, v.2.2.2.1, v.2.2.2.2.1, v.2.2.2.2.2.1, fun a f => if a = v.2.1 then x f else vfa v a f)
def v0 : Vv := (0, 0, fun _ => 0, fun _ => 0, fun _ _ => 0, fun _ _ => 0, fun _ _ => 0)
def m1S (t : List Nat) (n : Nat) (s : Ps) : Ps := tkS t (decide (n < 6)) 3 s
def m2S (t : List Nat) (n : Nat) (s : Ps) : Ps := nmS t 0 3 (m1S t n s)
def m3S (t : List Nat) (n : Nat) (s : Ps) : Ps × List (Nat × Nat) := stS t 4 (m2S t n s) []
def m4S (t : List Nat) (n : Nat) (s : Ps) : Ps := tkS t (chr t (m3S t n s).1.2 59) 1 (m3S t n s).1
def mvS (t : List Nat) (s : Ps) (v : Vv) : Vv := if (m4S t (vnm v) s).1 = 0 then addM v (tkV t (m1S t (vnm v) s).2) (m3S t (vnm v) s).2 else v
def msS (t : List Nat) : Nat → Ps → Vv → Ps × Vv
  | 0, s, v => (s, v)
  | k + 1, s, v => if s.1 = 0 ∧ chr t s.2 109 = true then msS t k (m4S t (vnm v) s) (mvS t s v) else (s, v)
def a0S (t : List Nat) (n : Nat) (s : Ps) : Ps := tkS t (decide (n < 5)) 3 s
def bhS (t : List Nat) (s : Ps) : Ps := tkS t (chr t s.2 44) 1 s
def a1S (t : List Nat) (n : Nat) (s : Ps) : Ps := nmS t 1 99 (a0S t n s)
def a2S (t : List Nat) (n : Nat) (s : Ps) : Ps := nmS t 0 4 (bhS t (a1S t n s))
def a3S (t : List Nat) (n : Nat) (s : Ps) : Ps := nmS t 0 6 (bhS t (a2S t n s))
def a4S (t : List Nat) (n : Nat) (s : Ps) : Ps := nmS t 0 10 (bhS t (a3S t n s))
def a5S (t : List Nat) (n : Nat) (s : Ps) : Ps := nmS t 0 6 (bhS t (a4S t n s))
def a6S (t : List Nat) (n : Nat) (s : Ps) : Ps := tkS t (chr t (a5S t n s).2 59) 1 (a5S t n s)
def axS (t : List Nat) (n : Nat) (s : Ps) (f : Nat) : Nat := if f = 0 then tkV t (a0S t n s).2 else if f = 1 then tkV t (bhS t (a1S t n s)).2 else if f = 2 then tkV t (bhS t (a2S t n s)).2 else if f = 3 then tkV t (bhS t (a3S t n s)).2 else if f = 4 then tkV t (bhS t (a4S t n s)).2 else kdN t s.2
def avS (t : List Nat) (s : Ps) (v : Vv) : Vv := if (a6S t (vna v) s).1 = 0 then addA v (axS t (vna v) s) else v
def asS_ (t : List Nat) : Nat → Ps → Vv → Ps × Vv
  | 0, s, v => (s, v)
  | k + 1, s, v => if s.1 = 0 ∧ ¬ kdN t s.2 = 0 then asS_ t k (a6S t (vna v) s) (avS t s v) else (s, v)
def thB (v : Vv) : Bool := (List.range (vnm v)).all (fun m => (List.range (vln v m)).all (fun i => !(vso v m i == 1) || decide (vop v m i < vnm v)))
def w1S (t : List Nat) : Ps × Vv := msS t 7 (0, 0) v0
def w2S (t : List Nat) : Ps := muS (decide (0 < vnm (w1S t).2)) 1 (w1S t).1
def w3S (t : List Nat) : Ps × Vv := asS_ t 6 (w2S t) (w1S t).2
def w4S (t : List Nat) : Ps := muS (decide (kdT t (w3S t).1.2 = 0)) 1 (w3S t).1
def w5S (t : List Nat) : Ps := muS (thB (w3S t).2) 4 (w4S t)
def weaveS (S : Sg) : Int32 × Sg :=
  if (w5S S.2.2.1).1 = 0 then (nI (vnm (w3S S.2.2.1).2), (S.1, S.2.1, [], S.2.2.2.1, (w3S S.2.2.1).2, [], S.2.2.2.2.2.2))
  else (-1000100 - nI (w5S S.2.2.1).2, (S.1, S.2.1, [], (w5S S.2.2.1).1, S.2.2.2.2))
theorem there_iff {v : Vv} : thB v = true ↔ ∀ m, m < vnm v → ∀ i, i < vln v m → vso v m i = 1 → vop v m i < vnm v := by
  unfold thB
  simp only [List.all_eq_true, List.mem_range, Bool.or_eq_true, Bool.not_eq_true', beq_eq_false_iff_ne, decide_eq_true_eq]
  constructor
  · intro h m hm i hi e; exact (h m hm i hi).resolve_left (fun z => z e)
  · intro h m hm i hi
    by_cases e : vso v m i = 1
    · exact Or.inr (h m hm i hi e)
    · exact Or.inl e
theorem VOk0.ok {v : Vv} (h : VOk0 v) (ht : thB v = true) : VOk v := ⟨h.1, h.2.1, fun m hm => ⟨(h.2.2.1 m hm).1, (h.2.2.1 m hm).2.1, fun i hi => ⟨((h.2.2.1 m hm).2.2 i hi).1, ((h.2.2.1 m hm).2.2 i hi).2.1, there_iff.mp ht m hm i hi, ((h.2.2.1 m hm).2.2 i hi).2.2.2⟩⟩, h.2.2.2⟩
def stok (y : Nat × Nat) : Prop := y.1 < 3 ∧ y.2 < 100 ∧ (y.1 = 1 → y.2 < 6) ∧ (y.1 = 2 → 1 ≤ y.2 ∧ y.2 < 10)
theorem getD_all {l : List (Nat × Nat)} (h : ∀ y ∈ l, stok y) {i : Nat} (hi : i < l.length) : stok (l.getD i (0, 0)) := by
  rw [List.getD_eq_getElem?_getD, List.getElem?_eq_getElem hi]
  exact h _ (List.getElem_mem hi)
theorem VOk0_addM {v : Vv} {c : Nat} {l : List (Nat × Nat)} (h : VOk0 v) (hn : vnm v < 6) (hc : c < 4) (hl : l.length ≤ 4) (ha : ∀ y ∈ l, stok y) : VOk0 (addM v c l) := by
  obtain ⟨h1, h2, h3, h4⟩ := h
  refine ⟨hn, h2, fun m hm => ?_, h4⟩
  by_cases e : m = vnm v
  · have e1 : vcl (addM v c l) m = c := if_pos e
    have e2 : vln (addM v c l) m = l.length := if_pos e
    rw [e1, e2]
    refine ⟨hc, hl, fun i hi => ?_⟩
    have e3 : vso (addM v c l) m i = (l.getD i (0, 0)).1 := if_pos e
    have e4 : vop (addM v c l) m i = (l.getD i (0, 0)).2 := if_pos e
    rw [e3, e4]
    exact getD_all ha hi
  · have hm : m < vnm v := by
      have : m < vnm v + 1 := hm
      omega
    have e1 : vcl (addM v c l) m = vcl v m := if_neg e
    have e2 : vln (addM v c l) m = vln v m := if_neg e
    rw [e1, e2]
    refine ⟨(h3 m hm).1, (h3 m hm).2.1, fun i hi => ?_⟩
    have e3 : vso (addM v c l) m i = vso v m i := if_neg e
    have e4 : vop (addM v c l) m i = vop v m i := if_neg e
    rw [e3, e4]
    exact (h3 m hm).2.2 i hi
theorem VOk0_addA {v : Vv} {x : Nat → Nat} (h : VOk0 v) (hn : vna v < 5) (hx : 1 ≤ x 0 ∧ x 0 < 100 ∧ x 1 < 5 ∧ x 2 < 7 ∧ x 3 < 11 ∧ x 4 < 7 ∧ 1 ≤ x 5 ∧ x 5 < 6) : VOk0 (addA v x) := by
  obtain ⟨h1, h2, h3, h4⟩ := h
  refine ⟨h1, hn, h3, fun a ha => ?_⟩
  by_cases e : a = vna v
  · have e1 : ∀ f, vfa (addA v x) a f = x f := fun f => if_pos e
    simp only [e1]
    exact hx
  · have ha : a < vna v := by
      have : a < vna v + 1 := ha
      omega
    have e1 : ∀ f, vfa (addA v x) a f = vfa v a f := fun f => if_neg e
    simp only [e1]
    exact h4 a ha
theorem stok_of {t : List Nat} {s : Ps} (h3 : soN t s.2 < 3) (h : (s2S t s).1 = 0) : stok (soN t s.2, tkV t (nxt t s.2)) := by
  obtain ⟨_, g2, g3, g4⟩ := nmS_0 h
  have := tkV_lt g2
  have g3 : slo (soN t s.2) ≤ tkV t (nxt t s.2) := g3
  have g4 : tkV t (nxt t s.2) ≤ shi (soN t s.2) := g4
  refine ⟨h3, this, fun e => ?_, fun e => ?_⟩
  · have e : soN t s.2 = 1 := e
    rw [e] at g4
    show tkV t (nxt t s.2) < 6
    have : shi 1 = 5 := rfl
    omega
  · have e : soN t s.2 = 2 := e
    rw [e] at g3 g4
    show 1 ≤ tkV t (nxt t s.2) ∧ tkV t (nxt t s.2) < 10
    have : shi 2 = 9 := rfl
    have : slo 2 = 1 := rfl
    omega
theorem stS_ok {t : List Nat} : ∀ (k : Nat) (s : Ps) (l : List (Nat × Nat)), (∀ y ∈ l, stok y) → (∀ y ∈ (stS t k s l).2, stok y) ∧ (stS t k s l).2.length ≤ l.length + k := by
  intro k
  induction k with
  | zero => intro s l h; exact ⟨h, Nat.le_refl _⟩
  | succ k ih =>
    intro s l h
    rw [stS]
    split
    · next hc =>
      have h2 : ∀ y ∈ (if (s2S t s).1 = 0 then l ++ [(soN t s.2, tkV t (nxt t s.2))] else l), stok y := by
        split
        · next h0 =>
          intro y hy
          rcases List.mem_append.mp hy with hy | hy
          · exact h y hy
          · rw [List.mem_singleton.mp hy]; exact stok_of hc.2 h0
        · exact h
      have := ih (s2S t s) _ h2
      refine ⟨this.1, Nat.le_trans this.2 ?_⟩
      split
      · rw [List.length_append]; simp; omega
      · omega
    · exact ⟨h, by simp⟩
theorem stS_n {t : List Nat} {k : Nat} {s : Ps} {l : List (Nat × Nat)} (h : ¬ s.1 = 0) : stS t k s l = (s, l) := by
  cases k with
  | zero => rfl
  | succ k => rw [stS, if_neg (fun z => h z.1)]
theorem stS_0 {t : List Nat} : ∀ (k : Nat) (s : Ps) (l : List (Nat × Nat)), (stS t k s l).1.1 = 0 → s.1 = 0 := by
  intro k s l h
  by_cases z : s.1 = 0
  · exact z
  · rw [stS_n z] at h; exact h
theorem mvS_ok {t : List Nat} {s : Ps} {v : Vv} (h : VOk0 v) : VOk0 (mvS t s v) := by
  unfold mvS
  split
  · next h0 =>
    obtain ⟨g1, g2⟩ := tkS_0 (by decide) h0
    have g3 := stS_0 _ _ _ g1
    obtain ⟨q1, q2, q3, q4⟩ := nmS_0 g3
    obtain ⟨r1, r2⟩ := tkS_0 (by decide) q1
    have hl := stS_ok (t := t) 4 (m2S t (vnm v) s) [] (fun y hy => absurd hy (List.not_mem_nil))
    exact VOk0_addM h (of_decide_eq_true r2) (by omega) (by have := hl.2; rw [List.length_nil] at this; show (stS t 4 (m2S t (vnm v) s) []).2.length ≤ 4; omega) hl.1
  · exact h
theorem msS_ok {t : List Nat} : ∀ (k : Nat) (s : Ps) (v : Vv), VOk0 v → VOk0 (msS t k s v).2 := by
  intro k
  induction k with
  | zero => intro s v h; exact h
  | succ k ih =>
    intro s v h
    rw [msS]
    split
    · exact ih _ _ (mvS_ok h)
    · exact h
theorem avS_ok {t : List Nat} {s : Ps} {v : Vv} (hk : ¬ kdN t s.2 = 0) (h : VOk0 v) : VOk0 (avS t s v) := by
  unfold avS
  split
  · next h0 =>
    obtain ⟨g6, _⟩ := tkS_0 (by decide) h0
    obtain ⟨g5, k5, l5, u5⟩ := nmS_0 g6
    obtain ⟨g5, _⟩ := tkS_0 (by decide) g5
    obtain ⟨g4, k4, l4, u4⟩ := nmS_0 g5
    obtain ⟨g4, _⟩ := tkS_0 (by decide) g4
    obtain ⟨g3, k3, l3, u3⟩ := nmS_0 g4
    obtain ⟨g3, _⟩ := tkS_0 (by decide) g3
    obtain ⟨g2, k2, l2, u2⟩ := nmS_0 g3
    obtain ⟨g2, _⟩ := tkS_0 (by decide) g2
    obtain ⟨g1, k1, l1, u1⟩ := nmS_0 g2
    obtain ⟨g0, hn⟩ := tkS_0 (by decide) g1
    have := kdN_lt t s.2
    refine VOk0_addA h (of_decide_eq_true hn) ⟨l1, Nat.lt_succ_of_le u1, Nat.lt_succ_of_le u2, Nat.lt_succ_of_le u3, Nat.lt_succ_of_le u4, Nat.lt_succ_of_le u5, ?_, ?_⟩
    · show 1 ≤ kdN t s.2; omega
    · show kdN t s.2 < 6; omega
  · exact h
theorem asS_ok {t : List Nat} : ∀ (k : Nat) (s : Ps) (v : Vv), VOk0 v → VOk0 (asS_ t k s v).2 := by
  intro k
  induction k with
  | zero => intro s v h; exact h
  | succ k ih =>
    intro s v h
    rw [asS_]
    split
    · next hc => exact ih _ _ (avS_ok hc.2 h)
    · exact h
theorem v0_ok : VOk0 v0 := ⟨by decide, by decide, fun m hm => absurd hm (Nat.not_lt_zero _), fun a ha => absurd ha (Nat.not_lt_zero _)⟩
theorem w3S_ok (t : List Nat) : VOk0 (w3S t).2 := asS_ok _ _ _ (msS_ok _ _ _ v0_ok)
theorem thB_iff {v : Vv} (hV : VOk0 v) : thB v = true ↔ thereF v := by
  rw [there_iff]
  have key : ∀ m, m < vnm v → (callF v m >>> vnm v = 0 ↔ ∀ i, i < vln v m → vso v m i = 1 → vop v m i < vnm v) := by
    intro m hm
    rw [Nat.shiftRight_eq_div_pow, Nat.div_eq_zero_iff_lt (Nat.two_pow_pos _)]
    constructor
    · intro h i hi e
      apply Decidable.byContradiction
      intro hn
      have h1 : (cbit v m i).testBit (vop v m i) = true := by
        unfold cbit
        rw [if_pos e, Nat.one_shiftLeft, Nat.testBit_two_pow]
        simp
      have h2 := orN_mem (f := cbit v m) (i := i) (vln v m) hi _ h1
      have h3 : callF v m < 2 ^ vop v m i := Nat.lt_of_lt_of_le h (Nat.pow_le_pow_right (by decide) (Nat.not_lt.mp hn))
      have h4 := Nat.testBit_lt_two_pow h3
      rw [show orN (vln v m) (cbit v m) = callF v m from rfl, h4] at h2
      exact absurd h2 (by decide)
    · intro h
      refine orN_lt (n := vnm v) _ _ (fun i hi => ?_)
      unfold cbit
      split
      · next e => rw [Nat.one_shiftLeft]; exact Nat.pow_lt_pow_right (by decide) (h i hi e)
      · exact Nat.two_pow_pos _
  unfold thereF
  constructor
  · intro h m hm; exact (key m hm).mpr (h m hm)
  · intro h m hm; exact (key m hm).mp (h m hm)
