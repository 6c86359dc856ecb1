/-! class and reference close a set in place; all at once, as often as needed: the same -/
def sb (s t : Nat) : Prop := ∀ i, s.testBit i = true → t.testBit i = true
theorem sb.rf {s : Nat} : sb s s := fun _ h => h
theorem sb.tr {a b c : Nat} (h1 : sb a b) (h2 : sb b c) : sb a c := fun i h => h2 i (h1 i h)
theorem sb.l {a b : Nat} : sb a (a ||| b) := fun i h => by rw [Nat.testBit_or, h]; rfl
theorem sb.r {a b : Nat} : sb b (a ||| b) := fun i h => by rw [Nat.testBit_or, h, Bool.or_true]
theorem sb.or {a b c : Nat} (h1 : sb a c) (h2 : sb b c) : sb (a ||| b) c := fun i h => by
  rw [Nat.testBit_or, Bool.or_eq_true] at h
  rcases h with h | h
  · exact h1 i h
  · exact h2 i h
theorem sb.as {a b : Nat} (h1 : sb a b) (h2 : sb b a) : a = b := by
  apply Nat.eq_of_testBit_eq
  intro i
  cases ha : a.testBit i with
  | true => exact (h1 i ha).symm
  | false =>
    cases hb : b.testBit i with
    | false => rfl
    | true => rw [h2 i hb] at ha; exact absurd ha (by decide)
theorem sb.eq {a b : Nat} (h : sb a b) : a ||| b = b := (sb.or h sb.rf).as sb.r
theorem sb.or2 {a b c d : Nat} (h1 : sb a c) (h2 : sb b d) : sb (a ||| b) (c ||| d) := sb.or (h1.tr sb.l) (h2.tr sb.r)
theorem orN_sb {f : Nat → Nat} {c : Nat} : ∀ k, (∀ i, i < k → sb (f i) c) → sb (orN k f) c := by
  intro k
  induction k with
  | zero => intro _ i h; simp [orN] at h
  | succ k ih => intro h; exact sb.or (ih (fun i hi => h i (by omega))) (h k (by omega))
theorem orN_mem {f : Nat → Nat} {i : Nat} : ∀ k, i < k → sb (f i) (orN k f) := by
  intro k
  induction k with
  | zero => intro h; omega
  | succ k ih =>
    intro h
    by_cases e : i = k
    · subst e; exact sb.r
    · exact (ih (by omega)).tr sb.l
theorem abit_mono {v : Vv} {s t m : Nat} (h : sb s t) : sb (abit v s m) (abit v t m) := by
  unfold abit
  split
  · next hs => rw [if_pos (h m hs)]; exact sb.rf
  · intro i hi; simp at hi
def pasF (v : Vv) : Nat → Nat → Nat
  | 0, s => s
  | k + 1, s => pasF v k s ||| abit v (pasF v k s) k
theorem pas_ext {v : Vv} {s : Nat} : ∀ k, sb s (pasF v k s) := by
  intro k
  induction k with
  | zero => exact sb.rf
  | succ k ih => exact ih.tr sb.l
theorem pas_any {v : Vv} {s : Nat} : ∀ k, sb (orN k (abit v s)) (pasF v k s) := by
  intro k
  induction k with
  | zero => intro i h; simp [orN] at h
  | succ k ih => exact sb.or2 ih (abit_mono (pas_ext k))
theorem pas_cl {v : Vv} {s C : Nat} (hC : sb (anyF v C) C) (hs : sb s C) : ∀ k, k ≤ vnm v → sb (pasF v k s) C := by
  intro k
  induction k with
  | zero => intro _; exact hs
  | succ k ih =>
    intro hk
    exact sb.or (ih (by omega)) (((abit_mono (ih (by omega))).tr (orN_mem _ hk)).tr hC)
def pc6 (x : Nat) : Nat := x % 2 + x / 2 % 2 + x / 4 % 2 + x / 8 % 2 + x / 16 % 2 + x / 32 % 2
theorem pc_lt : ∀ x, x < 64 → ∀ y, y < 64 → x ||| y = y → ¬ x = y → pc6 x < pc6 y := by decide +kernel
theorem pc_le : ∀ n, n ≤ 6 → ∀ x, x < 64 → x < 2 ^ n → pc6 x ≤ n := by decide +kernel
theorem pc_1 : ∀ x, x < 64 → ¬ x = 0 → 1 ≤ pc6 x := by decide +kernel
theorem sh_n : ∀ n, n ≤ 6 → ∀ k, k < n → 1 <<< k < 2 ^ n := by decide
theorem callF_n {v : Vv} (hV : VOk v) {m : Nat} (hm : m < vnm v) : callF v m < 2 ^ vnm v := by
  refine orN_lt (n := vnm v) _ _ (fun i hi => ?_)
  unfold cbit
  split
  · next h => exact sh_n _ hV.1 _ (((hV.2.2.1 m hm).2.2 i hi).2.2.1 h)
  · exact Nat.two_pow_pos _
theorem abit_n {v : Vv} (hV : VOk v) {s m : Nat} (hm : m < vnm v) : abit v s m < 2 ^ vnm v := by
  unfold abit
  split
  · exact callF_n hV hm
  · exact Nat.two_pow_pos _
theorem anyF_n {v : Vv} (hV : VOk v) {s : Nat} : anyF v s < 2 ^ vnm v := orN_lt (n := vnm v) _ _ (fun i hi => abit_n hV hi)
abbrev fF (v : Vv) : Nat → Nat := fun s => s ||| anyF v s
theorem itF_n {v : Vv} (hV : VOk v) {m : Nat} (hm : m < vnm v) : ∀ k, itN k (fF v) (callF v m) < 2 ^ vnm v := by
  intro k
  induction k with
  | zero => exact callF_n hV hm
  | succ k ih => exact Nat.or_lt_two_pow ih (anyF_n hV)
theorem n64 {v : Vv} (hV : VOk v) {x : Nat} (h : x < 2 ^ vnm v) : x < 64 := Nat.lt_of_lt_of_le h (Nat.pow_le_pow_right (by decide) hV.1)
theorem any_0 {v : Vv} : anyF v 0 = 0 := by
  have : ∀ k, orN k (abit v 0) = 0 := by
    intro k
    induction k with
    | zero => rfl
    | succ k ih => rw [orN, ih]; simp [abit]
  exact this _
theorem reach_fix {v : Vv} (hV : VOk v) {m : Nat} (hm : m < vnm v) : fF v (reachF v m) = reachF v m := by
  by_cases h0 : callF v m = 0
  · have : ∀ k, itN k (fF v) (callF v m) = 0 := by
      intro k
      induction k with
      | zero => exact h0
      | succ k ih => show fF v (itN k (fF v) (callF v m)) = 0; rw [ih]; simp [any_0]
    have e : reachF v m = 0 := this _
    rw [e]; simp [any_0]
  · have step : ∀ x, x < 2 ^ vnm v → ¬ fF v x = x → pc6 x < pc6 (fF v x) := fun x hx hne =>
      pc_lt x (n64 hV hx) _ (n64 hV (Nat.or_lt_two_pow hx (anyF_n hV))) (sb.eq sb.l) (fun z => hne z.symm)
    have P : ∀ k, fF v (itN k (fF v) (callF v m)) = itN k (fF v) (callF v m) ∨ k + 1 ≤ pc6 (itN k (fF v) (callF v m)) := by
      intro k
      induction k with
      | zero => exact Or.inr (pc_1 _ (n64 hV (callF_n hV hm)) h0)
      | succ k ih =>
        by_cases hf : fF v (itN k (fF v) (callF v m)) = itN k (fF v) (callF v m)
        · left
          show fF v (fF v (itN k (fF v) (callF v m))) = fF v (itN k (fF v) (callF v m))
          rw [hf, hf]
        · right
          have h1 := step _ (itF_n hV hm k) hf
          rcases ih with h2 | h2
          · exact absurd h2 hf
          · show k + 1 + 1 ≤ pc6 (fF v (itN k (fF v) (callF v m)))
            omega
    rcases P (vnm v - 1) with h | h
    · exact h
    · apply Decidable.byContradiction
      intro hne
      have h1 := step _ (itF_n hV hm (vnm v - 1)) hne
      have h2 := pc_le (vnm v) hV.1 _ (n64 hV (itF_n hV hm (vnm v - 1 + 1))) (itF_n hV hm (vnm v - 1 + 1))
      have h3 : itN (vnm v - 1 + 1) (fF v) (callF v m) = fF v (itN (vnm v - 1) (fF v) (callF v m)) := rfl
      rw [h3] at h2
      omega
theorem it_up {v : Vv} {s : Nat} (j : Nat) : ∀ k, sb (itN j (fF v) s) (itN (j + k) (fF v) s) := by
  intro k
  induction k with
  | zero => exact sb.rf
  | succ k ih => exact ih.tr sb.l
theorem any_mono {v : Vv} {s t : Nat} (h : sb s t) : sb (anyF v s) (anyF v t) := orN_sb _ (fun i hi => (abit_mono h).tr (orN_mem _ hi))
theorem reach_pasJ {v : Vv} (hV : VOk v) {m : Nat} (hm : m < vnm v) {j : Nat} (hj : vnm v - 1 ≤ j) : itN j (pasF v (vnm v)) (callF v m) = reachF v m := by
  have hfix := reach_fix hV hm
  have hcl : sb (anyF v (reachF v m)) (reachF v m) := by
    have : sb (anyF v (reachF v m)) (fF v (reachF v m)) := sb.r
    rw [hfix] at this
    exact this
  have h0 : sb (callF v m) (reachF v m) := by
    have := it_up (v := v) (s := callF v m) 0 (vnm v - 1)
    rw [Nat.zero_add] at this
    exact this
  have up : ∀ k, sb (itN k (pasF v (vnm v)) (callF v m)) (reachF v m) := by
    intro k
    induction k with
    | zero => exact h0
    | succ k ih => exact pas_cl hcl ih _ (Nat.le_refl _)
  have dn : ∀ k, sb (itN k (fF v) (callF v m)) (itN k (pasF v (vnm v)) (callF v m)) := by
    intro k
    induction k with
    | zero => exact sb.rf
    | succ k ih => exact sb.or (ih.tr (pas_ext _)) ((any_mono ih).tr (pas_any _))
  have e : sb (reachF v m) (itN j (fF v) (callF v m)) := by
    have := it_up (v := v) (s := callF v m) (vnm v - 1) (j - (vnm v - 1))
    rw [show vnm v - 1 + (j - (vnm v - 1)) = j by omega] at this
    exact this
  exact (up j).as (e.tr (dn j))
theorem reach_pas {v : Vv} (hV : VOk v) {m : Nat} (hm : m < vnm v) : itN 6 (pasF v (vnm v)) (callF v m) = reachF v m := reach_pasJ hV hm (by have := hV.1; omega)
theorem pas_lt {v : Vv} (hV : VOk v) {s : Nat} (hs : s < 64) : ∀ k, k ≤ vnm v → pasF v k s < 64 := by
  intro k
  induction k with
  | zero => intro _; exact hs
  | succ k ih => intro hk; exact Nat.or_lt_two_pow (n := 6) (ih (by omega)) (abit_lt hV (by omega))
theorem itp_lt {v : Vv} (hV : VOk v) {s : Nat} (hs : s < 64) : ∀ k, itN k (pasF v (vnm v)) s < 64 := by
  intro k
  induction k with
  | zero => exact hs
  | succ k ih => exact pas_lt hV ih _ (Nat.le_refl _)
