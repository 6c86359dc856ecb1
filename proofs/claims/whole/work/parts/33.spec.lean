/-! what a weave IS: how many methods, advice; class, length, sorts, numbers of methods; the facts of advice (number, class, method, below, flow, kind) -/
abbrev Vv : Type := Nat × Nat × (Nat → Nat) × (Nat → Nat) × (Nat → Nat → Nat) × (Nat → Nat → Nat) × (Nat → Nat → Nat)
def vnm (v : Vv) : Nat := v.1
def vna (v : Vv) : Nat := v.2.1
def vcl (v : Vv) : Nat → Nat := v.2.2.1
def vln (v : Vv) : Nat → Nat := v.2.2.2.1
def vso (v : Vv) : Nat → Nat → Nat := v.2.2.2.2.1
def vop (v : Vv) : Nat → Nat → Nat := v.2.2.2.2.2.1
def vfa (v : Vv) : Nat → Nat → Nat := v.2.2.2.2.2.2
/-- the class's Weave at b holds v -/
def CRep (I : Nat → Nat → Int32) (b : Nat) (v : Vv) : Prop :=
  I b 5 = nI (vnm v) ∧ I b 6 = nI (vna v) ∧ (∀ m, m < vnm v → I (b + 1) m = nI (vcl v m) ∧ I (b + 2) m = nI (vln v m) ∧ ∀ i, i < vln v m → I (b + 3) (m * 4 + i) = nI (vso v m i) ∧ I (b + 4) (m * 4 + i) = nI (vop v m i)) ∧ ∀ a, a < vna v → ∀ f, f < 6 → I (b + 5) (a * 6 + f) = nI (vfa v a f)
/-- the reference's row at p holds v -/
def MRep (I : Nat → Nat → Int32) (p o : Nat) (v : Vv) : Prop :=
  I p o = nI (vnm v) ∧ I p (o + 1) = nI (vna v) ∧ (∀ m, m < vnm v → I p (o + (2 + 10 * m)) = nI (vcl v m) ∧ I p (o + (2 + 10 * m + 1)) = nI (vln v m) ∧ ∀ i, i < vln v m → I p (o + (2 + 10 * m + 2 + 2 * i)) = nI (vso v m i) ∧ I p (o + (2 + 10 * m + 2 + 2 * i + 1)) = nI (vop v m i)) ∧ ∀ a, a < vna v → I p (o + (62 + 6 * a)) = nI (vfa v a 5) ∧ ∀ f, f < 5 → I p (o + (62 + 6 * a + 1 + f)) = nI (vfa v a f)
def VOk (v : Vv) : Prop :=
  vnm v ≤ 6 ∧ vna v ≤ 5 ∧ (∀ m, m < vnm v → vcl v m < 4 ∧ vln v m ≤ 4 ∧ ∀ i, i < vln v m → vso v m i < 3 ∧ vop v m i < 100 ∧ (vso v m i = 1 → vop v m i < vnm v) ∧ (vso v m i = 2 → 1 ≤ vop v m i ∧ vop v m i < 10)) ∧ ∀ a, a < vna v → 1 ≤ vfa v a 0 ∧ vfa v a 0 < 100 ∧ vfa v a 1 < 5 ∧ vfa v a 2 < 7 ∧ vfa v a 3 < 11 ∧ vfa v a 4 < 7 ∧ 1 ≤ vfa v a 5 ∧ vfa v a 5 < 6
/-- the same, but that calls may be of methods that there are not (0 to 5) -/
def VOk0 (v : Vv) : Prop :=
  vnm v ≤ 6 ∧ vna v ≤ 5 ∧ (∀ m, m < vnm v → vcl v m < 4 ∧ vln v m ≤ 4 ∧ ∀ i, i < vln v m → vso v m i < 3 ∧ vop v m i < 100 ∧ (vso v m i = 1 → vop v m i < 6) ∧ (vso v m i = 2 → 1 ≤ vop v m i ∧ vop v m i < 10)) ∧ ∀ a, a < vna v → 1 ≤ vfa v a 0 ∧ vfa v a 0 < 100 ∧ vfa v a 1 < 5 ∧ vfa v a 2 < 7 ∧ vfa v a 3 < 11 ∧ vfa v a 4 < 7 ∧ 1 ≤ vfa v a 5 ∧ vfa v a 5 < 6
theorem VOk.w {v : Vv} (h : VOk v) : VOk0 v := ⟨h.1, h.2.1, fun m hm => ⟨(h.2.2.1 m hm).1, (h.2.2.1 m hm).2.1, fun i hi => ⟨((h.2.2.1 m hm).2.2 i hi).1, ((h.2.2.1 m hm).2.2 i hi).2.1, fun z => Nat.lt_of_lt_of_le (((h.2.2.1 m hm).2.2 i hi).2.2.1 z) h.1, ((h.2.2.1 m hm).2.2 i hi).2.2.2⟩⟩, h.2.2.2⟩
def orN : Nat → (Nat → Nat) → Nat
  | 0, _ => 0
  | k + 1, f => orN k f ||| f k
def smN : Nat → (Nat → Nat) → Nat
  | 0, _ => 0
  | k + 1, f => smN k f + f k
def itN : Nat → (Nat → Nat) → Nat → Nat
  | 0, _, s => s
  | k + 1, f, s => f (itN k f s)
theorem orN_lt {n : Nat} (f : Nat → Nat) : ∀ k, (∀ i, i < k → f i < 2 ^ n) → orN k f < 2 ^ n := by
  intro k
  induction k with
  | zero => intro _; exact Nat.two_pow_pos n
  | succ k ih => intro h; exact Nat.or_lt_two_pow (ih (fun i hi => h i (by omega))) (h k (by omega))
theorem smN_le (f : Nat → Nat) (c : Nat) : ∀ k, (∀ i, i < k → f i ≤ c) → smN k f ≤ k * c := by
  intro k
  induction k with
  | zero => intro _; simp [smN]
  | succ k ih =>
    intro h
    have h1 := ih (fun i hi => h i (by omega))
    have h2 := h k (by omega)
    rw [smN, Nat.add_mul]
    omega
def cbit (v : Vv) (m i : Nat) : Nat := if vso v m i = 1 then 1 <<< vop v m i else 0
def callF (v : Vv) (m : Nat) : Nat := orN (vln v m) (cbit v m)
def abit (v : Vv) (s m : Nat) : Nat := if s.testBit m = true then callF v m else 0
def anyF (v : Vv) (s : Nat) : Nat := orN (vnm v) (abit v s)
def reachF (v : Vv) (m : Nat) : Nat := itN (vnm v - 1) (fun s => s ||| anyF v s) (callF v m)
def aboutF (v : Vv) (m a : Nat) : Bool := ([15, 10, 4, 8, 15].getD (vfa v a 1) 0).testBit (vcl v m) && (vfa v a 2 == 6 || vfa v a 2 == m)
def mayF (v : Vv) (m fl : Nat) : Bool := fl == 6 || fl == m || (decide (fl < vnm v) && (reachF v fl).testBit m)
def knownF (v : Vv) (m a : Nat) : Nat := if aboutF v m a = true ∧ vfa v a 3 ≠ 0 ∧ mayF v m (vfa v a 4) = true then (if vfa v a 3 = 10 ∧ (vfa v a 4 = 6 ∨ vfa v a 4 = m) then 1 else 2) else 0
def testF (v : Vv) (m : Nat) : Nat := smN (vna v) (fun a => if knownF v m a = 2 then 1 else 0)
def notF (v : Vv) (a : Nat) : Nat := smN (vnm v) (fun m => if knownF v m a = 0 then 0 else 1)
def mbit (v : Vv) (m x g a : Nat) : Nat := if aboutF v m a = true ∧ x < vfa v a 3 ∧ (vfa v a 4 = 6 ∨ g.testBit (vfa v a 4) = true) then 1 <<< a else 0
def meantF (v : Vv) (m x g : Nat) : Nat := orN (vna v) (mbit v m x g)
theorem sh_lt : ∀ k, k < 6 → 1 <<< k < 64 := by decide
theorem cbit_lt {v : Vv} (hV : VOk0 v) {m i : Nat} (hm : m < vnm v) (hi : i < vln v m) : cbit v m i < 64 := by
  unfold cbit
  split
  · next h =>
    have h1 := ((hV.2.2.1 m hm).2.2 i hi).2.2.1 h
    exact sh_lt _ (by omega)
  · decide
theorem callP_lt {v : Vv} (hV : VOk0 v) {m k : Nat} (hm : m < vnm v) (hk : k ≤ vln v m) : orN k (cbit v m) < 64 := orN_lt (n := 6) _ _ (fun i hi => cbit_lt hV hm (by omega))
theorem callF_lt {v : Vv} (hV : VOk0 v) {m : Nat} (hm : m < vnm v) : callF v m < 64 := callP_lt hV hm (Nat.le_refl _)
theorem abit_lt {v : Vv} (hV : VOk v) {s m : Nat} (hm : m < vnm v) : abit v s m < 64 := by
  unfold abit
  split
  · exact callF_lt hV.w hm
  · decide
theorem anyP_lt {v : Vv} (hV : VOk v) {s k : Nat} (hk : k ≤ vnm v) : orN k (abit v s) < 64 := orN_lt (n := 6) _ _ (fun i hi => abit_lt hV (by omega))
theorem anyF_lt {v : Vv} (hV : VOk v) {s : Nat} : anyF v s < 64 := anyP_lt hV (Nat.le_refl _)
theorem reachP_lt {v : Vv} (hV : VOk v) {m : Nat} (hm : m < vnm v) : ∀ k, itN k (fun s => s ||| anyF v s) (callF v m) < 64 := by
  intro k
  induction k with
  | zero => exact callF_lt hV.w hm
  | succ k ih => exact Nat.or_lt_two_pow (n := 6) ih (anyF_lt hV)
theorem reachF_lt {v : Vv} (hV : VOk v) {m : Nat} (hm : m < vnm v) : reachF v m < 64 := reachP_lt hV hm _
theorem mbit_lt {v : Vv} {m x g a : Nat} (ha : a < 5) : mbit v m x g a < 32 := by
  unfold mbit
  have : ∀ k, k < 5 → 1 <<< k < 32 := by decide
  split
  · exact this _ ha
  · decide
theorem meantP_lt {v : Vv} {m x g k : Nat} (hk : k ≤ 5) : orN k (mbit v m x g) < 32 := orN_lt (n := 5) _ _ (fun i hi => mbit_lt (by omega))
theorem meantF_lt {v : Vv} (hV : VOk v) {m x g : Nat} : meantF v m x g < 32 := meantP_lt hV.2.1
theorem knownF_lt (v : Vv) (m a : Nat) : knownF v m a < 3 := by unfold knownF; split <;> (try split) <;> decide
theorem testF_le {v : Vv} (hV : VOk v) (m : Nat) : testF v m ≤ 5 := by
  have := smN_le (fun a => if knownF v m a = 2 then 1 else 0) 1 (vna v) (fun i _ => by split <;> decide)
  have := hV.2.1
  unfold testF
  omega
theorem notF_le {v : Vv} (hV : VOk v) (a : Nat) : notF v a ≤ 6 := by
  have := smN_le (fun m => if knownF v m a = 0 then 0 else 1) 1 (vnm v) (fun i _ => by split <;> decide)
  have := hV.1
  unfold notF
  omega
/-- bits of small numbers, as the machine has them -/
theorem bit_or : ∀ x, x < 64 → ∀ y, y < 64 → nI x ||| nI y = nI (x ||| y) := by decide +kernel
theorem bit_sh : ∀ k, k < 8 → nI 1 <<< (nI k &&& 31) = nI (1 <<< k) := by decide +kernel
theorem bit_has : ∀ x, x < 64 → ∀ k, k < 8 → (nI x >>> (nI k &&& 31) &&& nI 1) = nI (if x.testBit k = true then 1 else 0) := by decide +kernel
theorem bit_up : ∀ x, x < 64 → ∀ k, k < 7 → (nI x >>> (nI k &&& 31)) = nI (x >>> k) := by decide +kernel
