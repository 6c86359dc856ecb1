/-! what a weave IS: how many methods, advice; class, length, sorts, numbers of methods; the facts of advice (number, class, method, below, flow, kind) -/
abbrev Vv : Type := Nat × Nat × (Nat → Nat) × (Nat → Nat) × (Nat → Nat → Nat) × (Nat → Nat → Nat) × (Nat → Nat → Nat)
def vnm (v : Vv) : Nat := v.1
def vna (v : Vv) : Nat := v.2.1
def vcl (v : Vv) : Nat → Nat := v.2.2.1
def vln (v : Vv) : Nat → Nat := v.2.2.2.1
def vso (v : Vv) : Nat → Nat → Nat := v.2.2.2.2.1
def vop (v : Vv) : Nat → Nat → Nat := v.2.2.2.2.2.1
def vfa (v : Vv) : Nat → Nat → Nat := v.2.2.2.2.2.2
/-- the class's Weave at b holds v -/
def CRep (I : Nat → Nat → Int32) (b : Nat) (v : Vv) : Prop :=
  I b 5 = nI (vnm v) ∧ I b 6 = nI (vna v) ∧ (∀ m, m < vnm v → I (b + 1) m = nI (vcl v m) ∧ I (b + 2) m = nI (vln v m) ∧ ∀ i, i < vln v m → I (b + 3) (m * 4 + i) = nI (vso v m i) ∧ I (b + 4) (m * 4 + i) = nI (vop v m i)) ∧ ∀ a, a < vna v → ∀ f, f < 6 → I (b + 5) (a * 6 + f) = nI (vfa v a f)
/-- the reference's row at p holds v -/
def MRep (I : Nat → Nat → Int32) (p o : Nat) (v : Vv) : Prop :=
  I p o = nI (vnm v) ∧ I p (o + 1) = nI (vna v) ∧ (∀ m, m < vnm v → I p (o + (2 + 10 * m)) = nI (vcl v m) ∧ I p (o + (2 + 10 * m + 1)) = nI (vln v m) ∧ ∀ i, i < vln v m → I p (o + (2 + 10 * m + 2 + 2 * i)) = nI (vso v m i) ∧ I p (o + (2 + 10 * m + 2 + 2 * i + 1)) = nI (vop v m i)) ∧ ∀ a, a < vna v → I p (o + (62 + 6 * a)) = nI (vfa v a 5) ∧ ∀ f, f < 5 → I p (o + (62 + 6 * a + 1 + f)) = nI (vfa v a f)
def VOk (v : Vv) : Prop :=
  vnm v ≤ 6 ∧ vna v ≤ 5 ∧ (∀ m, m < vnm v → vcl v m < 4 ∧ vln v m ≤ 4 ∧ ∀ i, i < vln v m → vso v m i < 3 ∧ vop v m i < 100 ∧ (vso v m i = 1 → vop v m i < vnm v) ∧ (vso v m i = 2 → 1 ≤ vop v m i ∧ vop v m i < 10)) ∧ ∀ a, a < vna v → 1 ≤ vfa v a 0 ∧ vfa v a 0 < 100 ∧ vfa v a 1 < 5 ∧ vfa v a 2 < 7 ∧ vfa v a 3 < 11 ∧ vfa v a 4 < 7 ∧ 1 ≤ vfa v a 5 ∧ vfa v a 5 < 6
def orN : Nat → (Nat → Nat) → Nat
  | 0, _ => 0
  | k + 1, f => orN k f ||| f k
def smN : Nat → (Nat → Nat) → Nat
  | 0, _ => 0
  | k + 1, f => smN k f + f k
def itN : Nat → (Nat → Nat) → Nat → Nat
  | 0, _, s => s
  | k + 1, f, s => f (itN k f s)
theorem orN_lt {n : Nat} (f : Nat → Nat) : ∀ k, (∀ i, i < k → f i < 2 ^ n) → orN k f < 2 ^ n := by
  intro k
  induction k with
  | zero => intro _; exact Nat.two_pow_pos n
  | succ k ih => intro h; exact Nat.or_lt_two_pow (ih (fun i hi => h i (by omega))) (h k (by omega))
theorem smN_le (f : Nat → Nat) (c : Nat) : ∀ k, (∀ i, i < k → f i ≤ c) → smN k f ≤ k * c := by
  intro k
  induction k with
  | zero => intro _; simp [smN]
  | succ k ih =>
    intro h
    have h1 := ih (fun i hi => h i (by omega))
    have h2 := h k (by omega)
    rw [smN, Nat.add_mul]
    omega
def callF (v : Vv) (m : Nat) : Nat := orN (vln v m) (fun i => if vso v m i = 1 then 1 <<< vop v m i else 0)
def anyF (v : Vv) (s : Nat) : Nat := orN (vnm v) (fun m => if s.testBit m = true then callF v m else 0)
def reachF (v : Vv) (m : Nat) : Nat := itN (vnm v - 1) (fun s => s ||| anyF v s) (callF v m)
def aboutF (v : Vv) (m a : Nat) : Bool := ([15, 10, 4, 8, 15].getD (vfa v a 1) 0).testBit (vcl v m) && (vfa v a 2 == 6 || vfa v a 2 == m)
def mayF (v : Vv) (m fl : Nat) : Bool := fl == 6 || fl == m || (decide (fl < vnm v) && (reachF v fl).testBit m)
def knownF (v : Vv) (m a : Nat) : Nat := if aboutF v m a = true ∧ vfa v a 3 ≠ 0 ∧ mayF v m (vfa v a 4) = true then (if vfa v a 3 = 10 ∧ (vfa v a 4 = 6 ∨ vfa v a 4 = m) then 1 else 2) else 0
def testF (v : Vv) (m : Nat) : Nat := smN (vna v) (fun a => if knownF v m a = 2 then 1 else 0)
def notF (v : Vv) (a : Nat) : Nat := smN (vnm v) (fun m => if knownF v m a = 0 then 0 else 1)
def meantF (v : Vv) (m x g : Nat) : Nat := orN (vna v) (fun a => if aboutF v m a = true ∧ x < vfa v a 3 ∧ (vfa v a 4 = 6 ∨ g.testBit (vfa v a 4) = true) then 1 <<< a else 0)
theorem callF_lt {v : Vv} (hV : VOk v) {m : Nat} (hm : m < vnm v) : callF v m < 64 := by
  refine orN_lt (n := 6) _ _ (fun i hi => ?_)
  by_cases h : vso v m i = 1
  · rw [if_pos h]
    have h1 := ((hV.2.2.1 m hm).2.2 i hi).2.2.1 h
    have h2 := hV.1
    have h3 : vop v m i < 6 := by omega
    have : ∀ k, k < 6 → 1 <<< k < 2 ^ 6 := by decide
    exact this _ h3
  · rw [if_neg h]; decide
theorem anyF_lt {v : Vv} (hV : VOk v) (s : Nat) : anyF v s < 64 := by
  refine orN_lt (n := 6) _ _ (fun i hi => ?_)
  by_cases h : s.testBit i = true
  · rw [if_pos h]; exact callF_lt hV hi
  · rw [if_neg h]; decide
theorem reachF_lt {v : Vv} (hV : VOk v) {m : Nat} (hm : m < vnm v) : ∀ k, itN k (fun s => s ||| anyF v s) (callF v m) < 64 := by
  intro k
  induction k with
  | zero => exact callF_lt hV hm
  | succ k ih => exact Nat.or_lt_two_pow (n := 6) ih (anyF_lt hV _)
theorem meantF_lt {v : Vv} (hV : VOk v) (m x g : Nat) : ∀ k, k ≤ 5 → orN k (fun a => if aboutF v m a = true ∧ x < vfa v a 3 ∧ (vfa v a 4 = 6 ∨ g.testBit (vfa v a 4) = true) then 1 <<< a else 0) < 32 := by
  intro k hk
  refine orN_lt (n := 5) _ _ (fun i hi => ?_)
  have h3 : i < 5 := by omega
  have : ∀ k, k < 5 → 1 <<< k < 2 ^ 5 := by decide
  split
  · exact this _ h3
  · decide
/-- bits of small numbers, as the machine has them -/
theorem bit_or : ∀ x, x < 64 → ∀ y, y < 64 → nI x ||| nI y = nI (x ||| y) := by decide +kernel
theorem bit_sh : ∀ k, k < 8 → nI 1 <<< (nI k &&& 31) = nI (1 <<< k) := by decide +kernel
theorem bit_has : ∀ x, x < 64 → ∀ k, k < 8 → (nI x >>> (nI k &&& 31) &&& nI 1) = nI (if x.testBit k = true then 1 else 0) := by decide +kernel
theorem bit_up : ∀ x, x < 64 → ∀ k, k < 7 → (nI x >>> (nI k &&& 31)) = nI (x >>> k) := by decide +kernel
