/-! WHAT EACH CALL ANSWERS AND CHANGES: weaves, acts, questions -/
def gv (S : Sg) : Vv := S.2.2.2.2.1
abbrev inM (v : Vv) (x : Int32) : Prop := nI 0 ≤ x ∧ x ≤ nI (vnm v) - nI 1
abbrev inA (v : Vv) (x : Int32) : Prop := nI 0 ≤ x ∧ x ≤ nI (vna v) - nI 1
theorem in1_nat {x : Int32} {n : Nat} (hn : n < 1000) (h : nI 0 ≤ x ∧ x ≤ nI n - nI 1) : ∃ j : Nat, j < n ∧ x = nI j := by
  cases n with
  | zero =>
    obtain ⟨h1, h2⟩ := h
    rw [Int32.le_iff_toInt_le] at h1 h2
    have e1 : (nI 0 - nI 1).toInt = -1 := by decide
    have e2 : (nI 0).toInt = 0 := by decide
    rw [e1] at h2
    rw [e2] at h1
    omega
  | succ n =>
    rw [show nI (n + 1) - nI 1 = nI n from nI_pred n] at h
    obtain ⟨j, hj, e⟩ := inR_nat (by omega) h
    exact ⟨j, by omega, e⟩
def kindS (S : Sg) (a : Int32) : Int32 × Sg := if inA (gv S) a then (nI (vfa (gv S) a.toNatClampNeg 5), S) else (-1000001, S)
def adviceS (S : Sg) (a w : Int32) : Int32 × Sg := if inA (gv S) a then (if nI 0 ≤ w ∧ w ≤ nI 4 then (nI (vfa (gv S) a.toNatClampNeg w.toNatClampNeg), S) else (-1000001, S)) else (-1000001, S)
def aheadS (S : Sg) (m a : Int32) : Int32 × Sg := if inM (gv S) m then (if inA (gv S) a then (nI (knownF (gv S) m.toNatClampNeg a.toNatClampNeg), S) else (-1000001, S)) else (-1000001, S)
/-- an act: the weave becomes u -/
def actS (S : Sg) (u : Vv) : Sg := (S.1, S.2.1, S.2.2.1, S.2.2.2.1, u, (gv S :: S.2.2.2.2.2.1).take 16, S.2.2.2.2.2.2)
def chS (S : Sg) (a : Nat) (f : Nat) (x : Nat) : Int32 × Sg := (nI (vfa (gv S) a f), actS S (setFa (gv S) a f x))
def changeS (S : Sg) (a w x : Int32) : Int32 × Sg :=
  if inA (gv S) a then
    if w = 0 ∧ nI 1 ≤ x ∧ x ≤ nI 99 then chS S a.toNatClampNeg 0 x.toNatClampNeg
    else if w = nI 1 ∧ nI 0 ≤ x ∧ x ≤ nI 10 then chS S a.toNatClampNeg 3 x.toNatClampNeg
    else if w = nI 2 ∧ nI 0 ≤ x ∧ x ≤ nI 6 then chS S a.toNatClampNeg 4 x.toNatClampNeg
    else (-1000001, S)
  else (-1000001, S)
def becomeS (S : Sg) (a x : Int32) : Int32 × Sg :=
  if inA (gv S) a then (if nI 1 ≤ x ∧ x ≤ nI 5 then (if nI (vfa (gv S) a.toNatClampNeg 5) = x then (-1000002, S) else chS S a.toNatClampNeg 5 x.toNatClampNeg) else (-1000001, S)) else (-1000001, S)
def swapS (S : Sg) (a b : Int32) : Int32 × Sg :=
  if inA (gv S) a then (if inA (gv S) b then (if a = b then (-1000002, S) else (nI ((if a.toNatClampNeg < b.toNatClampNeg then b.toNatClampNeg - a.toNatClampNeg else a.toNatClampNeg - b.toNatClampNeg) + 1), actS S (exV (gv S) a.toNatClampNeg b.toNatClampNeg))) else (-1000001, S)) else (-1000001, S)
abbrev isSt (v : Vv) (s x : Int32) : Prop := (s = 0 ∧ nI 1 ≤ x ∧ x ≤ nI 99) ∨ (s = nI 1 ∧ inM v x) ∨ (s = nI 2 ∧ nI 1 ≤ x ∧ x ≤ nI 9)
def stateS (S : Sg) (m i s x : Int32) : Int32 × Sg :=
  if inM (gv S) m then (if 0 ≤ i ∧ i < nI (vln (gv S) m.toNatClampNeg) then (if isSt (gv S) s x then (nI (vso (gv S) m.toNatClampNeg i.toNatClampNeg), actS S (setSt (gv S) m.toNatClampNeg i.toNatClampNeg s.toNatClampNeg x.toNatClampNeg)) else (-1000001, S)) else (-1000001, S)) else (-1000001, S)
def belongS (S : Sg) (m c : Int32) : Int32 × Sg :=
  if inM (gv S) m then (if nI 0 ≤ c ∧ c ≤ nI 3 then (if nI (vcl (gv S) m.toNatClampNeg) = c then (-1000002, S) else (nI (vcl (gv S) m.toNatClampNeg), actS S (setCl (gv S) m.toNatClampNeg c.toNatClampNeg))) else (-1000001, S)) else (-1000001, S)
def undoS (S : Sg) : Int32 × Sg := match S.2.2.2.2.2.1 with
  | [] => (-1000002, S)
  | u :: us => (nI us.length, (S.1, S.2.1, S.2.2.1, S.2.2.2.1, u, us, S.2.2.2.2.2.2))
def methodS (S : Sg) (m w : Int32) : Int32 × Sg :=
  if inM (gv S) m then
    if w = 0 then (nI (vcl (gv S) m.toNatClampNeg), S)
    else if w = nI 1 then (nI (vln (gv S) m.toNatClampNeg), S)
    else if w = nI 2 then (nI (reachF (gv S) m.toNatClampNeg), S)
    else if nI 10 ≤ w ∧ w ≤ nI 13 then (if w.toNatClampNeg - 10 < vln (gv S) m.toNatClampNeg then (nI (vso (gv S) m.toNatClampNeg (w.toNatClampNeg - 10)), S) else (-1000000, S))
    else if nI 20 ≤ w ∧ w ≤ nI 23 then (if w.toNatClampNeg - 20 < vln (gv S) m.toNatClampNeg then (nI (vop (gv S) m.toNatClampNeg (w.toNatClampNeg - 20)), S) else (-1000000, S))
    else (-1000001, S)
  else (-1000001, S)
def testsF (v : Vv) (s : Rs) : Nat := smN (vnm v) (fun m => s.2.2 m * testF v m)
def runR (v : Vv) (q : Rs × Nat × Int32) (w : Int32) : Int32 :=
  if w = -1 then nI q.1.1.length else if w = -2 then nI q.2.1 else if w = -3 then (if q.2.1 = 0 then q.2.2 else -1000000) else if w = -4 then nI q.1.2.1 else if w = -5 then nI (testsF v q.1)
  else if 0 ≤ w ∧ w < nI q.1.1.length then nI (q.1.1.getD w.toNatClampNeg 0) else -1000000
def runS (S : Sg) (m x w : Int32) : Int32 × Sg :=
  if inM (gv S) m then (if nI 0 ≤ x ∧ x ≤ nI 9 then (if -5 ≤ w then (match enF (gv S) x.toNatClampNeg m.toNatClampNeg 0 s0 with | none => (-1000003, S) | some q => (runR (gv S) q w, S)) else (-1000001, S)) else (-1000001, S)) else (-1000001, S)
/-- a run of this answer fails -/
def failsF (r : Res) : Bool := match r with
  | none => false
  | some q => !(q.2.1 == 0)
def leastF (v : Vv) (m : Nat) : Nat → Nat → Int32
  | 0, _ => -1000000
  | k + 1, x => if failsF (enF v x m 0 s0) = true then nI x else leastF v m k (x + 1)
def leastS (S : Sg) (m : Int32) : Int32 × Sg := if inM (gv S) m then (leastF (gv S) m.toNatClampNeg 10 0, S) else (-1000001, S)
/-- two answers are the same: how many numbers, whether and by what it fails, what it returns -/
def sameF (q : Rs × Nat × Int32) (r : Res) : Bool := match r with
  | none => false
  | some p => p.1.1.length == q.1.1.length && p.2.1 == q.2.1 && (!(p.2.1 == 0) || p.2.2 == q.2.2)
def neededF (v : Vv) (x m : Nat) (q : Rs × Nat × Int32) : Nat := orN (vna v) (fun a => if sameF q (enF (setFa v a 3 0) x m 0 s0) = true then 0 else 1 <<< a)
def neededS (S : Sg) (m x : Int32) : Int32 × Sg :=
  if inM (gv S) m then (if nI 0 ≤ x ∧ x ≤ nI 9 then (match enF (gv S) x.toNatClampNeg m.toNatClampNeg 0 s0 with | none => (-1000003, S) | some q => (nI (neededF (gv S) x.toNatClampNeg m.toNatClampNeg q), S)) else (-1000001, S)) else (-1000001, S)
def seenF (z : Nat) (it : Nat → Int32) (r : Res) : Bool := match r with
  | none => false
  | some p => decide (z ≤ p.1.1.length) && (List.range z).all (fun j => decide (nI (p.1.1.getD j 0) = it j))
def tryF (v : Vv) (a w y : Nat) : Vv := if w = 0 then setFa v a 5 y else if w = 1 then setFa v a 3 y else exV v a y
def fitsF (v : Vv) (a m x w z : Nat) (it : Nat → Int32) (lo n : Nat) : Nat := orN n (fun i => if seenF z it (enF (tryF v a w (lo + i)) x m 0 s0) = true then 1 <<< (lo + i) else 0)
def fitsS (S : Sg) (a m x r w : Int32) : Int32 × Sg :=
  if inA (gv S) a then if inM (gv S) m then if nI 0 ≤ x ∧ x ≤ nI 9 then if nI 0 ≤ r ∧ r ≤ nI 7 then if nI 0 ≤ w ∧ w ≤ nI 2 then
    match S.1 r.toNatClampNeg with
    | none => fndS S 1
    | some q => if q.2.1 = 0 then fndS S 2 else
      (nI (fitsF (gv S) a.toNatClampNeg m.toNatClampNeg x.toNatClampNeg w.toNatClampNeg q.2.1 q.2.2 (if w = 0 then 1 else 0) (if w = 0 then 5 else if w = nI 1 then 11 else vna (gv S))), (S.1, 0, S.2.2))
  else (-1000001, S) else (-1000001, S) else (-1000001, S) else (-1000001, S) else (-1000001, S)
def imageS (S : Sg) (q : Int32) : Int32 × Sg :=
  if nI 0 ≤ q ∧ q ≤ nI 1 then (if vnm (gv S) = 0 then (-1000002, S) else (nI 1, (S.1, S.2.1, S.2.2.1, S.2.2.2.1, gv S, S.2.2.2.2.2.1, (fun z => if z = q.toNatClampNeg then some (gv S) else S.2.2.2.2.2.2.1 z), S.2.2.2.2.2.2.2))) else (-1000001, S)
def restoreS (S : Sg) (q : Int32) : Int32 × Sg :=
  if nI 0 ≤ q ∧ q ≤ nI 1 then (match S.2.2.2.2.2.2.1 q.toNatClampNeg with | none => (-1000002, S) | some u => (nI 1, (S.1, S.2.1, S.2.2.1, S.2.2.2.1, u, [], S.2.2.2.2.2.2))) else (-1000001, S)
def isKd (its kd : Nat) : Bool := kd == 0 || kd == its || (kd == 1 && decide (its < 4)) || (kd == 4 && its == 5)
def asS (S : Sg) (a kd : Int32) : Int32 × Sg :=
  if inA (gv S) a then (if nI 0 ≤ kd ∧ kd ≤ nI 5 then (if isKd (vfa (gv S) a.toNatClampNeg 5) kd.toNatClampNeg = true then (a, (S.1, 0, S.2.2)) else fndS S 3) else (-1000001, S)) else (-1000001, S)
def upT (S : Sg) (t : List Nat) : Sg := (S.1, S.2.1, S.2.2.1, S.2.2.2.1, S.2.2.2.2.1, S.2.2.2.2.2.1, S.2.2.2.2.2.2.1, t)
def askS (S : Sg) (a w : Int32) : Int32 × Sg :=
  if inA (gv S) a then (if nI 0 ≤ w ∧ w ≤ nI 1 then (if w = 0 then (szV (gv S) a.toNatClampNeg, upT S (szT (gv S) a.toNatClampNeg [])) else (mkV (gv S) a.toNatClampNeg, upT S (mkT (gv S) a.toNatClampNeg []))) else (-1000001, S)) else (-1000001, S)
def traceS (S : Sg) (i : Int32) : Int32 × Sg := if 0 ≤ i ∧ i < nI S.2.2.2.2.2.2.2.length then (nI (S.2.2.2.2.2.2.2.getD i.toNatClampNeg 0), S) else (-1000000, S)
def rowsN (w : Rw) (k : Nat) : Nat := smN k (fun r => if w r = none then 0 else 1)
def countS (S : Sg) (w : Int32) : Int32 × Sg :=
  (if w = 0 then nI (smN 8 (fun r => if (S.1 r).isNone = true then 0 else 1)) else if w = nI 1 then nI (vnm (gv S)) else if w = nI 2 then nI (vna (gv S)) else if w = nI 3 then nI (smN (vnm (gv S)) (vln (gv S))) else if w = nI 4 then nI S.2.2.2.2.2.1.length else if w = nI 5 then nI S.2.2.1.length else -1000001, S)
def feedS (S : Sg) (x : Int32) : Int32 × Sg :=
  if nI 0 ≤ x ∧ x ≤ nI 255 then (if S.2.2.1.length < 130 then (nI (S.2.2.1.length + 1), (S.1, S.2.1, S.2.2.1 ++ [x.toNatClampNeg], S.2.2.2)) else (-1000003, S)) else (-1000001, S)
def oneF (r : Res) (w : Int32) : Int32 := match r with
  | none => nI 0
  | some q => if w = 0 then nI q.1.1.length else if q.2.1 = 0 then nI 0 else nI 1
def nextF (x : Nat) : Nat := x * 16807 % 2147483647
def drawF (v : Vv) (w : Int32) : Nat → Nat → Int32 → Int32
  | 0, _, acc => acc
  | k + 1, x, acc => drawF v w k (nextF x) (acc + oneF (enF v (nextF x / 8 % 6) (nextF x % vnm v) 0 s0) w)
def drawnS (S : Sg) (n sd w : Int32) : Int32 × Sg :=
  if vnm (gv S) = 0 then (-1000002, S) else
  if nI 0 ≤ n ∧ n ≤ nI 20 then (if nI 1 ≤ sd ∧ sd ≤ 999999 then (if nI 0 ≤ w ∧ w ≤ nI 1 then (drawF (gv S) w n.toNatClampNeg sd.toNatClampNeg (nI 0), S) else (-1000001, S)) else (-1000001, S)) else (-1000001, S)
