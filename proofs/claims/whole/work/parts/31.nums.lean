theorem nI_a {x y : Int32} {a b : Nat} (hx : x = nI a) (hy : y = nI b) : x + y = nI (a + b) := by rw [hx, hy, nI_add]
theorem nI_m {x y : Int32} {a b : Nat} (hx : x = nI a) (hy : y = nI b) : x * y = nI (a * b) := by rw [hx, hy]; exact (Int32.ofNat_mul a b).symm
theorem shT_small (p : Nat) : (shT.getD p (9, 0)).2 < 2 ^ 31 := by
  by_cases h : p < shT.length
  · have h1 : shT.all (fun x => decide (x.2 < 2 ^ 31)) = true := by decide +kernel
    have h2 := List.all_eq_true.mp h1 (shT.getD p (9, 0)) (by rw [List.getD_eq_getElem?_getD, List.getElem?_eq_getElem h]; exact List.getElem_mem h)
    simpa using h2
  · rw [List.getD_eq_getElem?_getD, List.getElem?_eq_none (Nat.not_lt.mp h)]
    exact Nat.le_of_ble_eq_true rfl
theorem shn_small {n p t N : Nat} (h : shn n p = (t, N)) : N < 2 ^ 31 := by
  have h1 := shT_small p
  unfold shn at h
  split at h
  · rw [h] at h1; exact h1
  · cases h; exact Nat.le_of_ble_eq_true rfl

theorem g_ialdn {Y : MD} {R : Room} {Z : Zt} {n0 pc q n k j : Nat} {L st : List Value} {I : Nat → Nat → Int32} {F : Nat → Nat → Option Nat} {b N c : Nat} {x : Int32} (hs : shn n b = (1, N)) (hx : x = nI c) (hc : c < N) (hd : decode Y.2.1 pc = .ok (.iaload, 1)) (hq : pc + 1 = q) (h : G Y R Z n0 q L (.int (I b c) :: st) n (I, F) k j) : G Y R Z n0 pc L (.int x :: .ref b :: st) n (I, F) k j := by
  subst hx
  have hN := shn_small hs
  refine g_iald hs (nI_in hc hN) hd hq ?_
  rw [nI_clamp (Nat.lt_trans hc hN)]
  exact h
theorem g_iastn {Y : MD} {R : Room} {Z : Zt} {n0 pc q n k j : Nat} {L st : List Value} {I : Nat → Nat → Int32} {F : Nat → Nat → Option Nat} {b N c : Nat} {x y : Int32} (hs : shn n b = (1, N)) (hx : x = nI c) (hc : c < N) (hd : decode Y.2.1 pc = .ok (.iastore, 1)) (hq : pc + 1 = q) (h : G Y R Z n0 q L st n (uI I b c y, F) k j) : G Y R Z n0 pc L (.int y :: .int x :: .ref b :: st) n (I, F) k j := by
  subst hx
  have hN := shn_small hs
  refine g_iast hs (nI_in hc hN) hd hq ?_
  rw [nI_clamp (Nat.lt_trans hc hN)]
  exact h
theorem g_iincn {Y : MD} {R : Room} {Z : Zt} {n0 pc q n k j : Nat} {L st : List Value} {I : Nat → Nat → Int32} {F : Nat → Nat → Option Nat} {L2 : List Value} {i x : Nat} (hd : decode Y.2.1 pc = .ok (.iinc i 1, 3)) (hq : pc + 3 = q) (hL : L[i]? = some (.int (nI x))) (hi : i < Y.2.2.1) (hok : okS L i = true) (hL2 : L.set i (.int (nI (x + 1))) = L2) (h : G Y R Z n0 q L2 st n (I, F) k j) : G Y R Z n0 pc L st n (I, F) k j := by
  refine g_iinc hd hq hL hi hok ?_ h
  rw [← hL2]
  have e : Int32.ofInt 1 = 1 := by decide
  rw [e, nI_1]
/-- a Weave at b: its rows stand behind it -/
def isWv (R : Nat → Nat → Option Nat) (n b : Nat) : Prop := shn n b = (0, 5) ∧ (R b 0 = some (b + 1) ∧ shn n (b + 1) = (1, 6)) ∧ (R b 1 = some (b + 2) ∧ shn n (b + 2) = (1, 6)) ∧ (R b 2 = some (b + 3) ∧ shn n (b + 3) = (1, 24)) ∧ (R b 3 = some (b + 4) ∧ shn n (b + 4) = (1, 24)) ∧ (R b 4 = some (b + 5) ∧ shn n (b + 5) = (1, 30))
/-- outside these positions two stores agree -/
def Fr (ps : List Nat) (I J : Nat → Nat → Int32) : Prop := ∀ p, p ∉ ps → J p = I p
def b2i (b : Bool) : Int32 := if b = true then 1 else 0
theorem Fr.rf {ps : List Nat} {I : Nat → Nat → Int32} : Fr ps I I := fun _ _ => rfl
theorem Fr.tr {ps : List Nat} {I J K : Nat → Nat → Int32} (h1 : Fr ps I J) (h2 : Fr ps J K) : Fr ps I K := fun p hp => (h2 p hp).trans (h1 p hp)
theorem Fr.mo {ps qs : List Nat} {I J : Nat → Nat → Int32} (h1 : Fr ps I J) (h : ∀ p ∈ ps, p ∈ qs) : Fr qs I J := fun p hp => h1 p (fun z => hp (h p z))
theorem Fr.ui {ps : List Nat} {I : Nat → Nat → Int32} {p j : Nat} {x : Int32} (h : p ∈ ps) : Fr ps I (uI I p j x) := fun a ha => uI_ne (fun e => ha (e ▸ h))
theorem Fr.ua {ps : List Nat} {I : Nat → Nat → Int32} {p : Nat} {x : Nat → Int32} (h : p ∈ ps) : Fr ps I (uA I p x) := fun a ha => uA_ne (fun e => ha (e ▸ h))
