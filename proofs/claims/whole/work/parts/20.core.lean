/-! the abstract machine: positions in place of addresses, ints by position and place, references likewise -/
abbrev MD : Type := MethodName × ByteArray × Nat × Option FieldType × Option (Nat × (Nat → Int32))
abbrev Wd : Type := (Nat → Nat → Int32) × (Nat → Nat → Option Nat)
def TB : List Cond := lw_tbl.filter goodWord
def shT : List (Nat × Nat) := [(0, 6), (3, 8), (0, 4), (1, 130), (0, 5), (1, 6), (1, 6), (1, 24), (1, 24), (1, 30), (0, 5), (1, 6), (1, 6), (1, 24), (1, 24), (1, 30), (4, 2), (0, 0), (1, 80), (0, 3), (1, 99), (1, 6), (0, 1), (1, 16), (0, 2), (1, 40), (0, 2), (1, 40), (0, 2), (1, 40), (0, 2), (1, 40), (0, 2), (1, 40), (0, 2), (1, 40), (0, 2), (1, 40), (0, 2), (1, 40), (0, 5), (1, 6), (1, 6), (1, 24), (1, 24), (1, 30), (0, 5), (1, 6), (1, 6), (1, 24), (1, 24), (1, 30), (0, 7), (1, 8), (1, 8), (1, 320), (1, 40), (1, 130), (1, 92), (1, 92), (1, 92), (1, 1472), (1, 184), (2, 2), (1, 700), (1, 6), (1, 100), (1, 16)]
def shn (n p : Nat) : Nat × Nat := if p < n then shT.getD p (9, 0) else (9, 0)
def nF (ci : Nat) : Nat := [2, 3, 3, 8, 7, 7, 10, 32].getD ci 0
def fkT : List (List Nat) := [[1], [2], [1, 2], [3, 4, 5, 6, 7], [1, 2, 3, 4, 5, 6], [5, 6], [8, 9], [4, 6, 7, 8, 9, 10, 11, 12, 17, 21, 24, 25, 26, 27, 28, 29, 31]]
def isI (ci j : Nat) : Bool := (fkT.getD ci []).contains j
def flds (ci q : Nat) (w : Wd) (ad : Nat → Nat) : List Value := (List.range (nF ci)).map (fun j => if isI ci j = true then Value.int (w.1 q j) else va_rf ((w.2 q j).map ad))
def cellOf (aC : Nat → ClassId) (w : Wd) (ad : Nat → Nat) (q : Nat) : va_E :=
  if (shT.getD q (9, 0)).1 = 0 then .inr ((shT.getD q (9, 0)).2, flds (shT.getD q (9, 0)).2 q w ad)
  else if (shT.getD q (9, 0)).1 ≤ 2 then .inl (aC (shT.getD q (9, 0)).1, (shT.getD q (9, 0)).2, .inl (w.1 q))
  else .inl (aC (shT.getD q (9, 0)).1, (shT.getD q (9, 0)).2, .inr (.inr (.inr (.inr (fun j => (w.2 q j).map ad)))))
def wsOf (aC : Nat → ClassId) (n : Nat) (w : Wd) (ad : Nat → Nat) : va_W := (List.range n).map (fun q => (ad q, cellOf aC w ad q))
def tysOf (aC : Nat → ClassId) : List (ClassId × FieldType) := [(aC 1, .int), (aC 2, .boolean), (aC 3, .object RX2), (aC 4, .object RX5)]
def cv (ad : Nat → Nat) (v : Value) : Value := match v with
  | .ref a => .ref (ad a)
  | x => x
def cvS (ad : Nat → Nat) (st : List Value) : List Value := st.map (cv ad)
def lov (ad : Nat → Nat) (v : Value) : Option Value := match v with
  | .int x => some (.int x)
  | .long x => some (.long x)
  | .ref a => some (.ref (ad a))
  | _ => none
def cvL (ad : Nat → Nat) : Nat → List Value → List (Nat × Value)
  | _, [] => []
  | i, v :: vs => (match lov ad v with | some u => [(i, u)] | none => []) ++ cvL ad (i + 1) vs
def uI (f : Nat → Nat → Int32) (p j : Nat) (x : Int32) : Nat → Nat → Int32 := fun a b => if a = p ∧ b = j then x else f a b
def uA (f : Nat → Nat → Int32) (p : Nat) (g : Nat → Int32) : Nat → Nat → Int32 := fun a => if a = p then g else f a
def uR (f : Nat → Nat → Option Nat) (p j : Nat) (x : Option Nat) : Nat → Nat → Option Nat := fun a b => if a = p ∧ b = j then x else f a b
def okS (L : List Value) (i : Nat) : Bool := match i with
  | 0 => true
  | k + 1 => match L[k]? with
    | some v => v.category != 2
    | none => true
def okV (n : Nat) (v : Value) : Bool := match v with
  | .ref a => decide (a < n) || decide (1000 ≤ a)
  | _ => true
theorem mem_cvL {ad : Nat → Nat} : ∀ (L : List Value) (i0 : Nat) (q : Nat × Value), q ∈ cvL ad i0 L ↔ ∃ (k : Nat) (v : Value), L[k]? = some v ∧ q.1 = i0 + k ∧ lov ad v = some q.2 := by
  intro L
  induction L with
  | nil => intro i0 q; simp [cvL]
  | cons v vs ih =>
    intro i0 q
    rw [cvL, List.mem_append, ih]
    constructor
    · rintro (h | ⟨k, u, h1, h2, h3⟩)
      · cases hv : lov ad v with
        | none => rw [hv] at h; simp at h
        | some u =>
          rw [hv] at h
          have h := List.mem_singleton.mp h
          subst h
          exact ⟨0, v, rfl, by simp, hv⟩
      · exact ⟨k + 1, u, by simpa using h1, by omega, h3⟩
    · rintro ⟨k, u, h1, h2, h3⟩
      cases k with
      | zero =>
        have h1 : v = u := by simpa using h1
        subst h1
        refine Or.inl ?_
        rw [h3]
        obtain ⟨a, b⟩ := q
        simp at h2 ⊢
        exact h2
      | succ k => exact Or.inr ⟨k, u, by simpa using h1, by omega, h3⟩
theorem lv_less {ls : Array Slot} {nL : Nat} {l l' : List (Nat × Value)} (h : lv_has ls nL l) (hs : ∀ q ∈ l', q ∈ l) : lv_has ls nL l' := ⟨h.1, h.2.1, fun q hq => h.2.2 q (hs q hq)⟩
theorem cvL_at {ad : Nat → Nat} {ls : Array Slot} {nL i : Nat} {L : List Value} {v u : Value} (h : lv_has ls nL (cvL ad 0 L)) (hL : L[i]? = some v) (hu : lov ad v = some u) : ls[i]? = some (.val u) := h.2.2 (i, u) ((mem_cvL L 0 (i, u)).mpr ⟨i, v, hL, by simp, hu⟩)
theorem cvL_idx {ad : Nat → Nat} {i : Nat} {L : List Value} {v u : Value} (hL : L[i]? = some v) (hu : lov ad v = some u) : ∃ k : Nat, (cvL ad 0 L)[k]? = some (i, u) := List.getElem?_of_mem ((mem_cvL L 0 (i, u)).mpr ⟨i, v, hL, by simp, hu⟩)
/-- what a store of one slot leaves -/
theorem cvL_st {ad : Nat → Nat} {ls : Array Slot} {nL i : Nat} {L : List Value} {v u : Value} (hok : okS L i = true) (hu : lov ad v = some u)
    (h : lv_has ls nL ((i, u) :: (cvL ad 0 L).filter (fun q => !(q.1 == i) && !(q.1 + 1 == i && q.2.category == 2)))) : lv_has ls nL (cvL ad 0 (L.set i v)) := by
  refine lv_less h (fun q hq => ?_)
  obtain ⟨k, z, h1, h2, h3⟩ := (mem_cvL _ 0 q).mp hq
  have h2 : q.1 = k := by omega
  by_cases hk : k = i
  · subst hk
    have hlt : k < L.length := by
      have := (List.getElem?_eq_some_iff.mp h1).1
      simpa using this
    rw [List.getElem?_set_self hlt] at h1
    cases h1
    rw [hu] at h3
    cases h3
    obtain ⟨a, b⟩ := q
    cases h2
    exact List.mem_cons_self
  · rw [List.getElem?_set_ne (fun e => hk e.symm)] at h1
    refine List.mem_cons_of_mem _ (List.mem_filter.mpr ⟨(mem_cvL L 0 q).mpr ⟨k, z, h1, by omega, h3⟩, ?_⟩)
    rw [h2]
    have e1 : (k == i) = false := by simpa using hk
    rw [e1]
    simp only [Bool.not_false, Bool.true_and, Bool.not_eq_true', Bool.and_eq_false_iff]
    by_cases h4 : k + 1 = i
    · refine Or.inr ?_
      subst h4
      have hc : z.category ≠ 2 := by
        have : okS L (k + 1) = (z.category != 2) := by simp [okS, h1]
        rw [this] at hok
        simpa using hok
      have : q.2.category = z.category := by
        cases z <;> simp [lov] at h3 <;> rw [← h3] <;> rfl
      rw [this]
      simpa using hc
    · exact Or.inl (by simpa using h4)
/-- what a store of two slots leaves -/
theorem cvL_st2 {ad : Nat → Nat} {ls : Array Slot} {nL i : Nat} {L : List Value} {v u : Value} (hok : okS L i = true) (hu : lov ad v = some u)
    (h : lv_has ls nL ((i, u) :: (cvL ad 0 L).filter (fun q => !(q.1 == i) && (!(q.1 == i + 1) && !(q.1 + 1 == i && q.2.category == 2))))) : lv_has ls nL (cvL ad 0 ((L.set i v).set (i + 1) .null)) := by
  refine lv_less h (fun q hq => ?_)
  obtain ⟨k, z, h1, h2, h3⟩ := (mem_cvL _ 0 q).mp hq
  have h2 : q.1 = k := by omega
  by_cases hk1 : k = i + 1
  · subst hk1
    have hlt : i + 1 < (L.set i v).length := by
      have := (List.getElem?_eq_some_iff.mp h1).1
      simpa using this
    rw [List.getElem?_set_self hlt] at h1
    cases h1
    simp [lov] at h3
  rw [List.getElem?_set_ne (fun e => hk1 e.symm)] at h1
  by_cases hk : k = i
  · subst hk
    have hlt : k < L.length := by
      have := (List.getElem?_eq_some_iff.mp h1).1
      simpa using this
    rw [List.getElem?_set_self hlt] at h1
    cases h1
    rw [hu] at h3
    cases h3
    obtain ⟨a, b⟩ := q
    cases h2
    exact List.mem_cons_self
  · rw [List.getElem?_set_ne (fun e => hk e.symm)] at h1
    refine List.mem_cons_of_mem _ (List.mem_filter.mpr ⟨(mem_cvL L 0 q).mpr ⟨k, z, h1, by omega, h3⟩, ?_⟩)
    rw [h2]
    have e1 : (k == i) = false := by simpa using hk
    have e2 : (k == i + 1) = false := by simpa using hk1
    rw [e1, e2]
    simp only [Bool.not_false, Bool.true_and, Bool.not_eq_true', Bool.and_eq_false_iff]
    by_cases h4 : k + 1 = i
    · refine Or.inr ?_
      subst h4
      have hc : z.category ≠ 2 := by
        have : okS L (k + 1) = (z.category != 2) := by simp [okS, h1]
        rw [this] at hok
        simpa using hok
      have : q.2.category = z.category := by
        cases z <;> simp [lov] at h3 <;> rw [← h3] <;> rfl
      rw [this]
      simpa using hc
    · exact Or.inl (by simpa using h4)
theorem cvL_move {ad ad' : Nat → Nat} {n n1 : Nat} (hn : n ≤ n1) (ha : ∀ q, q < n ∨ n1 ≤ q ∨ 1000 ≤ q → ad' q = ad q) {L : List Value} (hL : L.all (okV n) = true) : ∀ i, cvL ad' i L = cvL ad i L := by
  induction L with
  | nil => intro i; rfl
  | cons v vs ih =>
    intro i
    have h := List.all_cons.symm.trans hL
    rw [Bool.and_eq_true] at h
    rw [cvL, cvL, ih h.2]
    have : lov ad' v = lov ad v := by
      cases v <;> try rfl
      next a =>
        have h1 : a < n ∨ 1000 ≤ a := by simpa [okV] using h.1
        simp only [lov]
        rw [ha a (h1.elim Or.inl (fun z => Or.inr (Or.inr z)))]
    rw [this]
theorem cvS_move {ad ad' : Nat → Nat} {n n1 : Nat} (hn : n ≤ n1) (ha : ∀ q, q < n ∨ n1 ≤ q ∨ 1000 ≤ q → ad' q = ad q) {L : List Value} (hL : L.all (okV n) = true) : cvS ad' L = cvS ad L := by
  induction L with
  | nil => rfl
  | cons v vs ih =>
    have h := List.all_cons.symm.trans hL
    rw [Bool.and_eq_true] at h
    show cv ad' v :: cvS ad' vs = cv ad v :: cvS ad vs
    rw [ih h.2]
    have : cv ad' v = cv ad v := by
      cases v <;> try rfl
      next a =>
        have h1 : a < n ∨ 1000 ≤ a := by simpa [okV] using h.1
        simp only [cv]
        rw [ha a (h1.elim Or.inl (fun z => Or.inr (Or.inr z)))]
    rw [this]
theorem cv_cat (ad : Nat → Nat) (v : Value) : (cv ad v).category = v.category := by cases v <;> rfl
theorem cvS_sum (ad : Nat → Nat) (st : List Value) : ((cvS ad st).map fun v => v.category).sum = (st.map fun v => v.category).sum := by
  induction st with
  | nil => rfl
  | cons v vs ih =>
    show ((cv ad v).category :: ((cvS ad vs).map fun v => v.category)).sum = (v.category :: (vs.map fun v => v.category)).sum
    rw [List.sum_cons, List.sum_cons, ih, cv_cat]
theorem shn_lt {n p : Nat} {x : Nat × Nat} (h : shn n p = x) (hx : x.1 ≠ 9) : p < n ∧ shT.getD p (9, 0) = x := by
  unfold shn at h
  by_cases hp : p < n
  · rw [if_pos hp] at h; exact ⟨hp, h⟩
  · rw [if_neg hp] at h; subst h; exact absurd rfl hx
theorem wsOf_get {aC : Nat → ClassId} {n p : Nat} {w : Wd} {ad : Nat → Nat} (h : p < n) : (wsOf aC n w ad)[p]? = some (ad p, cellOf aC w ad p) := by
  simp [wsOf, h]
theorem ws_set {n p : Nat} {f g : Nat → Nat × va_E} (hg : ∀ q, q ≠ p → g q = f q) : ((List.range n).map f).set p (g p) = (List.range n).map g := by
  apply List.ext_getElem?
  intro i
  by_cases hi : i = p
  · subst hi
    by_cases hn : i < n
    · rw [List.getElem?_set_self (by simpa using hn)]
      simp [hn]
    · rw [List.getElem?_eq_none (by simpa using hn), List.getElem?_eq_none (by simpa using hn)]
  · rw [List.getElem?_set_ne (fun e => hi e.symm)]
    simp only [List.getElem?_map]
    by_cases hn : i < n
    · simp [hn, hg i hi]
    · simp [hn]
theorem wsOf_push {aC : Nat → ClassId} {n a : Nat} {w : Wd} {ad : Nat → Nat} {w' : Wd} {ad' : Nat → Nat} {x : va_E} (ha : ad' n = a) (hx : cellOf aC w' ad' n = x) (hq : ∀ q, q < n → ad' q = ad q ∧ cellOf aC w' ad' q = cellOf aC w ad q) : wsOf aC n w ad ++ [(a, x)] = wsOf aC (n + 1) w' ad' := by
  unfold wsOf
  rw [List.range_succ, List.map_append, List.map_singleton, ha, hx]
  congr 1
  apply List.map_congr_left
  intro q hq'
  have := hq q (List.mem_range.mp hq')
  rw [this.1, this.2]
theorem cell_obj {aC : Nat → ClassId} {w : Wd} {ad : Nat → Nat} {p ci : Nat} (h : shT.getD p (9, 0) = (0, ci)) : cellOf aC w ad p = .inr (ci, flds ci p w ad) := by
  unfold cellOf; rw [h]; rfl
theorem cell_arr {aC : Nat → ClassId} {w : Wd} {ad : Nat → Nat} {p t N : Nat} (h : shT.getD p (9, 0) = (t, N)) (h0 : t ≠ 0) (ht : t ≤ 2) : cellOf aC w ad p = .inl (aC t, N, .inl (w.1 p)) := by
  unfold cellOf; rw [h]; simp [h0, ht]
theorem cell_ref {aC : Nat → ClassId} {w : Wd} {ad : Nat → Nat} {p t N : Nat} (h : shT.getD p (9, 0) = (t, N)) (ht : ¬ t ≤ 2) : cellOf aC w ad p = .inl (aC t, N, .inr (.inr (.inr (.inr (fun j => (w.2 p j).map ad))))) := by
  unfold cellOf; rw [h]; rw [if_neg (by show ¬ t = 0; omega), if_neg ht]
theorem flds_get {ci p j : Nat} {w : Wd} {ad : Nat → Nat} (hj : j < nF ci) : (flds ci p w ad)[j]? = some (if isI ci j = true then Value.int (w.1 p j) else va_rf ((w.2 p j).map ad)) := by
  simp [flds, hj]
theorem flds_set {ci p j : Nat} {w w' : Wd} {ad : Nat → Nat} {v : Value} (hv : (if isI ci j = true then Value.int (w'.1 p j) else va_rf ((w'.2 p j).map ad)) = v) (h1 : ∀ b, b ≠ j → w'.1 p b = w.1 p b ∧ w'.2 p b = w.2 p b) : (flds ci p w ad).set j v = flds ci p w' ad := by
  subst hv
  unfold flds
  apply List.ext_getElem?
  intro i
  by_cases hi : i = j
  · subst hi
    by_cases hn : i < nF ci
    · rw [List.getElem?_set_self (by simpa using hn)]
      simp [hn]
    · rw [List.getElem?_eq_none (by simpa using hn), List.getElem?_eq_none (by simpa using hn)]
  · rw [List.getElem?_set_ne (fun e => hi e.symm)]
    simp only [List.getElem?_map]
    by_cases hn : i < nF ci
    · simp [hn, h1 i hi]
    · simp [hn]
theorem cell_same {aC : Nat → ClassId} {w w' : Wd} {ad ad' : Nat → Nat} {q : Nat} (h1 : w'.1 q = w.1 q) (h2 : ∀ b, (w'.2 q b).map ad' = (w.2 q b).map ad) : cellOf aC w' ad' q = cellOf aC w ad q := by
  unfold cellOf flds
  rw [h1]
  simp only [h2]
theorem uI_ne {f : Nat → Nat → Int32} {p j a : Nat} {x : Int32} (h : a ≠ p) : uI f p j x a = f a := by
  funext b; simp [uI, h]
theorem uI_eq {f : Nat → Nat → Int32} {p j : Nat} {x : Int32} : uI f p j x p j = x := by simp [uI]
theorem uA_ne {f : Nat → Nat → Int32} {p a : Nat} {x : Nat → Int32} (h : a ≠ p) : uA f p x a = f a := by simp [uA, h]
theorem uR_ne {f : Nat → Nat → Option Nat} {p j a : Nat} {x : Option Nat} (h : a ≠ p) : uR f p j x a = f a := by
  funext b; simp [uR, h]


/-! statics: CLASS_OR_BELOW, KINDS_OF_KIND, SIZE_BODIES, MARK_BODIES, at the positions 1001 .. 1004; the script at 1000 -/
def stC (k : Nat) : String × String := [(RX6, "CLASS_OR_BELOW"), (RX6, "KINDS_OF_KIND"), (RX1, "SIZE_BODIES"), (RX1, "MARK_BODIES")].getD k ("", "")
def stV (k : Nat) : List Int32 := [[15, 10, 4, 8, 15], [1, 3, 7, 11, 17, 49], [10, 11, 12, 11, 13, 14], [20, 21, 24, 22, 23, 23]].getD k []
def nestM : List (String × Nat × MethodName × String) := [("WovenCalls", 17, ⟨"WovenCalls$Tape", "<init>", "()V"⟩, "WovenCalls"), ("WovenCalls", 24, ⟨"WovenCalls$Weave", "<init>", "()V"⟩, "WovenCalls"), ("WovenCalls", 38, ⟨"WovenCalls$Acts", "<init>", "()V"⟩, "WovenCalls"), ("WovenCalls", 66, ⟨"WovenCalls$Row", "<init>", "()V"⟩, "WovenCalls"), ("WovenCalls$Tape", 96, ⟨"WovenCalls", "isWithin", "(III)Z"⟩, "WovenCalls"), ("WovenCalls$Weave", 61, ⟨"WovenCalls", "hasBit", "(II)Z"⟩, "WovenCalls"), ("WovenCalls$Run", 74, ⟨"WovenCalls", "hasBit", "(II)Z"⟩, "WovenCalls")]
def Cx (Y : MD) (p : Program) (s : State) (m : MethodId) (args : Array Value) (meth : Method) (c : Code) : Prop :=
  p.tables.exec = Jvm.exec ∧ c.code = Y.2.1 ∧ meth.sig.returnType = Y.2.2.2.1 ∧ c.maxLocals = Y.2.2.1 ∧ s.vm.findClass Y.1.cls = some m.cls ∧ (∀ w ∈ TB, w.before args s = true) ∧ meth.locks = false ∧ (Y.1.name = "<init>" → meth.name = "<init>")
def Ks (sc : Option (Nat × (Nat → Int32))) (D : va_G) (aC : Nat → ClassId) (A : Nat → Prop) (ad : Nat → Nat) (s : State) : Prop :=
  va_K D vwCl (tysOf aC) s ∧ (∀ x ∈ nestM, va_Nw (.methodLinkNest x.1 x.2.1 x.2.2.1 x.2.2.2) s) ∧ va_Nw (.fieldLinkNest "WovenCalls$Weave" 65 "WovenCalls" "CLASS_OR_BELOW" "[I" "WovenCalls") s ∧ (va_AO RX2 s ∧ va_AO RX5 s) ∧
  (∀ k, k < 4 → va_Z (stC k).1 (stC k).2 "[I" (.ref (ad (1001 + k))) A s s.heap ∧ va_T .int (ad (1001 + k)) (stV k).length (fun j => .int ((stV k).getD j 0)) A s s.heap) ∧
  (∀ x, sc = some x → va_X (ad 1000) x.1 x.2 s s.heap ∧ ad 1000 < s.heap.size ∧ ¬ A (ad 1000))
def Dy (D : va_G) (aC : Nat → ClassId) (A : Nat → Prop) (ad0 ad : Nat → Nat) (n0 n : Nat) (w : Wd) (H0 H : Heap) (locs : List Loc) : Prop :=
  va_P D vwCl (wsOf aC n w ad) H ∧ va_D A (wsOf aC n w ad) ∧ va_S A H0 H locs ∧ (∀ q, H0.size ≤ q → A q) ∧ n0 ≤ n ∧ (∀ q, q < n0 ∨ n ≤ q ∨ 1000 ≤ q → ad q = ad0 q)
abbrev Zt : Type := Array Value → List Frame → State → va_G → (Nat → ClassId) → (Nat → Prop) → (Nat → Nat) → State → Prop
/-- from this place, with these locals and this stack (positions for references), in this world, the machine comes to Z -/
def G (Y : MD) (R : Room) (Z : Zt) (n0 pc : Nat) (L st : List Value) (n : Nat) (w : Wd) (k j : Nat) : Prop :=
  ∀ (p : Program) (l : Launch) (e : Env) (s : State) (m : MethodId) (args : Array Value) (below : List Frame) (meth : Method) (c : Code) (D : va_G) (aC : Nat → ClassId) (A : Nat → Prop) (ad0 ad : Nat → Nat) (H : Heap) (locs : List Loc) (ls : Array Slot),
    Cx Y p s m args meth c → Ks Y.2.2.2.2 D aC A ad0 s → Dy D aC A ad0 ad n0 n w s.heap H locs → lv_has ls Y.2.2.1 (cvL ad 0 L) →
    W p l e R s m args below meth c H locs k j (Z args below s D aC A ad0) (F0 m pc ls (cvS ad st))
def Qm (Q : Option Int32 → Wd → Prop) (n0 n1 : Nat) (D : va_G) (aC : Nat → ClassId) (A : Nat → Prop) (ad0 : Nat → Nat) : Array Value → State → Outcome → State → Prop := fun _ st oc t =>
  (∃ (r : Option Int32) (w' : Wd) (ad' : Nat → Nat), oc = .returned (r.map Value.int) ∧ Q r w' ∧ va_P D vwCl (wsOf aC n1 w' ad') t.heap ∧ va_D A (wsOf aC n1 w' ad') ∧ n0 ≤ n1 ∧ (∀ q, q < n0 ∨ n1 ≤ q ∨ 1000 ≤ q → ad' q = ad0 q)) ∧ va_F A st t
def Zm (Q : Option Int32 → Wd → Prop) (n0 n1 mc ms : Nat) : Zt := fun args below s D aC A ad0 => MQ below (Qm Q n0 n1 D aC A ad0) args s mc ms A
def rmd (d mc ms : Nat) : Room := { frames := d, cells := mc, slots := ms, locals := 50 * d }
def wsM (Y : MD) : List Cond := .code Y.1 Y.2.1 Y.2.2.1 Y.2.2.2.1 :: TB
/-- method Y, called with these arguments in this world, comes back to Q -/
def Ex (d mc ms : Nat) (Y : MD) (av : List Value) (n : Nat) (w : Wd) (n1 : Nat) (Q : Option Int32 → Wd → Prop) : Prop :=
  ∀ (l : Launch) (D : va_G) (aC : Nat → ClassId) (ad : Nat → Nat) (sz : Nat), Met l Y.1 (wsM Y) (rmd d mc ms)
    (va_Pc (cvS ad av) (fun U => U.heap.size = sz ∧ va_P D vwCl (wsOf aC n w ad) U.heap ∧ va_D (fun _ => True) (wsOf aC n w ad) ∧ Ks none D aC (va_A (wsOf aC n w ad) sz) ad U))
    (Qm Q n n1 D aC (va_A (wsOf aC n w ad) sz) ad) mc ms (va_A (wsOf aC n w ad) sz)

theorem g_iadd {Y : MD} {R : Room} {Z : Zt} {n0 pc q n k j : Nat} {L st : List Value} {w : Wd} {x y : Int32} (hd : decode Y.2.1 pc = .ok (.iadd, 1)) (hq : pc + 1 = q)  (h : G Y R Z n0 q L (.int (x + y) :: st) n w k j) : G Y R Z n0 pc L (.int y :: .int x :: st) n w k j := by
  intro p l e s m args below meth c D aC A ad0 ad H locs ls hC hK hY hl
  subst hq
  exact lv_iadd hC.1 hC.2.1 hd (h p l e s m args below meth c D aC A ad0 ad H locs ls hC hK hY hl)
theorem g_isub {Y : MD} {R : Room} {Z : Zt} {n0 pc q n k j : Nat} {L st : List Value} {w : Wd} {x y : Int32} (hd : decode Y.2.1 pc = .ok (.isub, 1)) (hq : pc + 1 = q)  (h : G Y R Z n0 q L (.int (x - y) :: st) n w k j) : G Y R Z n0 pc L (.int y :: .int x :: st) n w k j := by
  intro p l e s m args below meth c D aC A ad0 ad H locs ls hC hK hY hl
  subst hq
  exact lv_isub hC.1 hC.2.1 hd (h p l e s m args below meth c D aC A ad0 ad H locs ls hC hK hY hl)
theorem g_imul {Y : MD} {R : Room} {Z : Zt} {n0 pc q n k j : Nat} {L st : List Value} {w : Wd} {x y : Int32} (hd : decode Y.2.1 pc = .ok (.imul, 1)) (hq : pc + 1 = q)  (h : G Y R Z n0 q L (.int (x * y) :: st) n w k j) : G Y R Z n0 pc L (.int y :: .int x :: st) n w k j := by
  intro p l e s m args below meth c D aC A ad0 ad H locs ls hC hK hY hl
  subst hq
  exact lv_imul hC.1 hC.2.1 hd (h p l e s m args below meth c D aC A ad0 ad H locs ls hC hK hY hl)
theorem g_iand {Y : MD} {R : Room} {Z : Zt} {n0 pc q n k j : Nat} {L st : List Value} {w : Wd} {x y : Int32} (hd : decode Y.2.1 pc = .ok (.iand, 1)) (hq : pc + 1 = q)  (h : G Y R Z n0 q L (.int (x &&& y) :: st) n w k j) : G Y R Z n0 pc L (.int y :: .int x :: st) n w k j := by
  intro p l e s m args below meth c D aC A ad0 ad H locs ls hC hK hY hl
  subst hq
  exact lv_iand hC.1 hC.2.1 hd (h p l e s m args below meth c D aC A ad0 ad H locs ls hC hK hY hl)
theorem g_ior {Y : MD} {R : Room} {Z : Zt} {n0 pc q n k j : Nat} {L st : List Value} {w : Wd} {x y : Int32} (hd : decode Y.2.1 pc = .ok (.ior, 1)) (hq : pc + 1 = q)  (h : G Y R Z n0 q L (.int (x ||| y) :: st) n w k j) : G Y R Z n0 pc L (.int y :: .int x :: st) n w k j := by
  intro p l e s m args below meth c D aC A ad0 ad H locs ls hC hK hY hl
  subst hq
  exact lv_ior hC.1 hC.2.1 hd (h p l e s m args below meth c D aC A ad0 ad H locs ls hC hK hY hl)
theorem g_ishl {Y : MD} {R : Room} {Z : Zt} {n0 pc q n k j : Nat} {L st : List Value} {w : Wd} {x y : Int32} (hd : decode Y.2.1 pc = .ok (.ishl, 1)) (hq : pc + 1 = q)  (h : G Y R Z n0 q L (.int (x <<< (y &&& 31)) :: st) n w k j) : G Y R Z n0 pc L (.int y :: .int x :: st) n w k j := by
  intro p l e s m args below meth c D aC A ad0 ad H locs ls hC hK hY hl
  subst hq
  exact lv_ishl hC.1 hC.2.1 hd (h p l e s m args below meth c D aC A ad0 ad H locs ls hC hK hY hl)
theorem g_ishr {Y : MD} {R : Room} {Z : Zt} {n0 pc q n k j : Nat} {L st : List Value} {w : Wd} {x y : Int32} (hd : decode Y.2.1 pc = .ok (.ishr, 1)) (hq : pc + 1 = q)  (h : G Y R Z n0 q L (.int (x >>> (y &&& 31)) :: st) n w k j) : G Y R Z n0 pc L (.int y :: .int x :: st) n w k j := by
  intro p l e s m args below meth c D aC A ad0 ad H locs ls hC hK hY hl
  subst hq
  exact lv_ishr hC.1 hC.2.1 hd (h p l e s m args below meth c D aC A ad0 ad H locs ls hC hK hY hl)
theorem g_idiv {Y : MD} {R : Room} {Z : Zt} {n0 pc q n k j : Nat} {L st : List Value} {w : Wd} {x y : Int32} (hd : decode Y.2.1 pc = .ok (.idiv, 1)) (hq : pc + 1 = q) (hne : ¬ y = 0) (h : G Y R Z n0 q L (.int (x / y) :: st) n w k j) : G Y R Z n0 pc L (.int y :: .int x :: st) n w k j := by
  intro p l e s m args below meth c D aC A ad0 ad H locs ls hC hK hY hl
  subst hq
  exact lv_idiv hC.1 hC.2.1 hd hne (h p l e s m args below meth c D aC A ad0 ad H locs ls hC hK hY hl)
theorem g_irem {Y : MD} {R : Room} {Z : Zt} {n0 pc q n k j : Nat} {L st : List Value} {w : Wd} {x y : Int32} (hd : decode Y.2.1 pc = .ok (.irem, 1)) (hq : pc + 1 = q) (hne : ¬ y = 0) (h : G Y R Z n0 q L (.int (x - x / y * y) :: st) n w k j) : G Y R Z n0 pc L (.int y :: .int x :: st) n w k j := by
  intro p l e s m args below meth c D aC A ad0 ad H locs ls hC hK hY hl
  subst hq
  exact lv_irem hC.1 hC.2.1 hd hne (h p l e s m args below meth c D aC A ad0 ad H locs ls hC hK hY hl)
theorem g_lmul {Y : MD} {R : Room} {Z : Zt} {n0 pc q n k j : Nat} {L st : List Value} {w : Wd} {x y : Int64} (hd : decode Y.2.1 pc = .ok (.lmul, 1)) (hq : pc + 1 = q)  (h : G Y R Z n0 q L (.long (x * y) :: st) n w k j) : G Y R Z n0 pc L (.long y :: .long x :: st) n w k j := by
  intro p l e s m args below meth c D aC A ad0 ad H locs ls hC hK hY hl
  subst hq
  exact lv_lmul hC.1 hC.2.1 hd (h p l e s m args below meth c D aC A ad0 ad H locs ls hC hK hY hl)
theorem g_ldiv {Y : MD} {R : Room} {Z : Zt} {n0 pc q n k j : Nat} {L st : List Value} {w : Wd} {x y : Int64} (hd : decode Y.2.1 pc = .ok (.ldiv, 1)) (hq : pc + 1 = q) (hne : ¬ y = 0) (h : G Y R Z n0 q L (.long (x / y) :: st) n w k j) : G Y R Z n0 pc L (.long y :: .long x :: st) n w k j := by
  intro p l e s m args below meth c D aC A ad0 ad H locs ls hC hK hY hl
  subst hq
  exact lv_ldiv hC.1 hC.2.1 hd hne (h p l e s m args below meth c D aC A ad0 ad H locs ls hC hK hY hl)
theorem g_lrem {Y : MD} {R : Room} {Z : Zt} {n0 pc q n k j : Nat} {L st : List Value} {w : Wd} {x y : Int64} (hd : decode Y.2.1 pc = .ok (.lrem, 1)) (hq : pc + 1 = q) (hne : ¬ y = 0) (h : G Y R Z n0 q L (.long (x - x / y * y) :: st) n w k j) : G Y R Z n0 pc L (.long y :: .long x :: st) n w k j := by
  intro p l e s m args below meth c D aC A ad0 ad H locs ls hC hK hY hl
  subst hq
  exact lv_lrem hC.1 hC.2.1 hd hne (h p l e s m args below meth c D aC A ad0 ad H locs ls hC hK hY hl)
theorem g_ineg {Y : MD} {R : Room} {Z : Zt} {n0 pc q n k j : Nat} {L st : List Value} {w : Wd} {x : Int32} (hd : decode Y.2.1 pc = .ok (.ineg, 1)) (hq : pc + 1 = q)  (h : G Y R Z n0 q L (.int (-x) :: st) n w k j) : G Y R Z n0 pc L (.int x :: st) n w k j := by
  intro p l e s m args below meth c D aC A ad0 ad H locs ls hC hK hY hl
  subst hq
  exact lv_ineg hC.1 hC.2.1 hd (h p l e s m args below meth c D aC A ad0 ad H locs ls hC hK hY hl)
theorem g_i2l {Y : MD} {R : Room} {Z : Zt} {n0 pc q n k j : Nat} {L st : List Value} {w : Wd} {x : Int32} (hd : decode Y.2.1 pc = .ok (.i2l, 1)) (hq : pc + 1 = q)  (h : G Y R Z n0 q L (.long x.toInt64 :: st) n w k j) : G Y R Z n0 pc L (.int x :: st) n w k j := by
  intro p l e s m args below meth c D aC A ad0 ad H locs ls hC hK hY hl
  subst hq
  exact lv_i2l hC.1 hC.2.1 hd rfl (h p l e s m args below meth c D aC A ad0 ad H locs ls hC hK hY hl)
theorem g_l2i {Y : MD} {R : Room} {Z : Zt} {n0 pc q n k j : Nat} {L st : List Value} {w : Wd} {x : Int64} (hd : decode Y.2.1 pc = .ok (.l2i, 1)) (hq : pc + 1 = q)  (h : G Y R Z n0 q L (.int x.toInt32 :: st) n w k j) : G Y R Z n0 pc L (.long x :: st) n w k j := by
  intro p l e s m args below meth c D aC A ad0 ad H locs ls hC hK hY hl
  subst hq
  exact lv_l2i hC.1 hC.2.1 hd rfl (h p l e s m args below meth c D aC A ad0 ad H locs ls hC hK hY hl)
theorem g_i2b {Y : MD} {R : Room} {Z : Zt} {n0 pc q n k j : Nat} {L st : List Value} {w : Wd} {x : Int32} (hd : decode Y.2.1 pc = .ok (.i2b, 1)) (hq : pc + 1 = q)  (h : G Y R Z n0 q L (.int x.toInt8.toInt32 :: st) n w k j) : G Y R Z n0 pc L (.int x :: st) n w k j := by
  intro p l e s m args below meth c D aC A ad0 ad H locs ls hC hK hY hl
  subst hq
  exact lv_i2b hC.1 hC.2.1 hd rfl (h p l e s m args below meth c D aC A ad0 ad H locs ls hC hK hY hl)
theorem g_i2s {Y : MD} {R : Room} {Z : Zt} {n0 pc q n k j : Nat} {L st : List Value} {w : Wd} {x : Int32} (hd : decode Y.2.1 pc = .ok (.i2s, 1)) (hq : pc + 1 = q)  (h : G Y R Z n0 q L (.int x.toInt16.toInt32 :: st) n w k j) : G Y R Z n0 pc L (.int x :: st) n w k j := by
  intro p l e s m args below meth c D aC A ad0 ad H locs ls hC hK hY hl
  subst hq
  exact lv_i2s hC.1 hC.2.1 hd rfl (h p l e s m args below meth c D aC A ad0 ad H locs ls hC hK hY hl)
theorem g_iconst {Y : MD} {R : Room} {Z : Zt} {n0 pc q n k j : Nat} {L st : List Value} {w : Wd} {i : Int} {v : Int32} (hd : decode Y.2.1 pc = .ok (.iconst i, 1)) (hq : pc + 1 = q) (hv : Int32.ofInt i = v) (h : G Y R Z n0 q L (.int v :: st) n w k j) : G Y R Z n0 pc L st n w k j := by
  intro p l e s m args below meth c D aC A ad0 ad H locs ls hC hK hY hl
  subst hq
  exact lv_iconst hC.1 hC.2.1 hd hv (h p l e s m args below meth c D aC A ad0 ad H locs ls hC hK hY hl)
theorem g_bipush {Y : MD} {R : Room} {Z : Zt} {n0 pc q n k j : Nat} {L st : List Value} {w : Wd} {i : Int} {v : Int32} (hd : decode Y.2.1 pc = .ok (.bipush i, 2)) (hq : pc + 2 = q) (hv : (Int8.ofInt i).toInt32 = v) (h : G Y R Z n0 q L (.int v :: st) n w k j) : G Y R Z n0 pc L st n w k j := by
  intro p l e s m args below meth c D aC A ad0 ad H locs ls hC hK hY hl
  subst hq
  exact lv_bipush hC.1 hC.2.1 hd hv (h p l e s m args below meth c D aC A ad0 ad H locs ls hC hK hY hl)
theorem g_sipush {Y : MD} {R : Room} {Z : Zt} {n0 pc q n k j : Nat} {L st : List Value} {w : Wd} {i : Int} {v : Int32} (hd : decode Y.2.1 pc = .ok (.sipush i, 3)) (hq : pc + 3 = q) (hv : (Int16.ofInt i).toInt32 = v) (h : G Y R Z n0 q L (.int v :: st) n w k j) : G Y R Z n0 pc L st n w k j := by
  intro p l e s m args below meth c D aC A ad0 ad H locs ls hC hK hY hl
  subst hq
  exact lv_sipush hC.1 hC.2.1 hd hv (h p l e s m args below meth c D aC A ad0 ad H locs ls hC hK hY hl)
theorem g_ldc {Y : MD} {R : Room} {Z : Zt} {n0 pc q n k j : Nat} {L st : List Value} {w : Wd} {i : Nat} {v : Int32} (hd : decode Y.2.1 pc = .ok (.ldc i, 2)) (hq : pc + 2 = q) (hw : Cond.constant Y.1.cls i v ∈ TB) (h : G Y R Z n0 q L (.int v :: st) n w k j) : G Y R Z n0 pc L st n w k j := by
  intro p l e s m args below meth c D aC A ad0 ad H locs ls hC hK hY hl
  subst hq
  exact lv_ldc hC.1 hC.2.1 hC.2.2.2.2.1 (hC.2.2.2.2.2.1 _ hw) hd (h p l e s m args below meth c D aC A ad0 ad H locs ls hC hK hY hl)
theorem g_ldcw {Y : MD} {R : Room} {Z : Zt} {n0 pc q n k j : Nat} {L st : List Value} {w : Wd} {i : Nat} {v : Int32} (hd : decode Y.2.1 pc = .ok (.ldc_w i, 3)) (hq : pc + 3 = q) (hw : Cond.constant Y.1.cls i v ∈ TB) (h : G Y R Z n0 q L (.int v :: st) n w k j) : G Y R Z n0 pc L st n w k j := by
  intro p l e s m args below meth c D aC A ad0 ad H locs ls hC hK hY hl
  subst hq
  exact lv_ldcw hC.1 hC.2.1 hC.2.2.2.2.1 (hC.2.2.2.2.2.1 _ hw) hd (h p l e s m args below meth c D aC A ad0 ad H locs ls hC hK hY hl)
theorem g_ldc2 {Y : MD} {R : Room} {Z : Zt} {n0 pc q n k j : Nat} {L st : List Value} {w : Wd} {i : Nat} {v : Int64} (hd : decode Y.2.1 pc = .ok (.ldc2_w i, 3)) (hq : pc + 3 = q) (hw : Cond.constantLong Y.1.cls i v ∈ TB) (h : G Y R Z n0 q L (.long v :: st) n w k j) : G Y R Z n0 pc L st n w k j := by
  intro p l e s m args below meth c D aC A ad0 ad H locs ls hC hK hY hl
  subst hq
  exact lv_ldc2 hC.1 hC.2.1 hC.2.2.2.2.1 (hC.2.2.2.2.2.1 _ hw) hd (h p l e s m args below meth c D aC A ad0 ad H locs ls hC hK hY hl)
theorem g_dup {Y : MD} {R : Room} {Z : Zt} {n0 pc q n k j : Nat} {L st : List Value} {w : Wd} {v : Value} (hd : decode Y.2.1 pc = .ok (.dup, 1)) (hq : pc + 1 = q) (hv : v.category = 1) (h : G Y R Z n0 q L (v :: v :: st) n w k j) : G Y R Z n0 pc L (v :: st) n w k j := by
  intro p l e s m args below meth c D aC A ad0 ad H locs ls hC hK hY hl
  subst hq
  exact lv_dup hC.1 hC.2.1 hd ((cv_cat ad v).trans hv) (h p l e s m args below meth c D aC A ad0 ad H locs ls hC hK hY hl)
theorem g_dup2 {Y : MD} {R : Room} {Z : Zt} {n0 pc q n k j : Nat} {L st : List Value} {w : Wd} {v u : Value} (hd : decode Y.2.1 pc = .ok (.dup2, 1)) (hq : pc + 1 = q) (hv : v.category = 1) (hu : u.category = 1) (h : G Y R Z n0 q L (v :: u :: v :: u :: st) n w k j) : G Y R Z n0 pc L (v :: u :: st) n w k j := by
  intro p l e s m args below meth c D aC A ad0 ad H locs ls hC hK hY hl
  subst hq
  exact lv_dup2_11 hC.1 hC.2.1 hd ((cv_cat ad v).trans hv) ((cv_cat ad u).trans hu) (h p l e s m args below meth c D aC A ad0 ad H locs ls hC hK hY hl)
theorem g_pop {Y : MD} {R : Room} {Z : Zt} {n0 pc q n k j : Nat} {L st : List Value} {w : Wd} {v : Value} (hd : decode Y.2.1 pc = .ok (.pop, 1)) (hq : pc + 1 = q) (hv : v.category = 1) (h : G Y R Z n0 q L st n w k j) : G Y R Z n0 pc L (v :: st) n w k j := by
  intro p l e s m args below meth c D aC A ad0 ad H locs ls hC hK hY hl
  subst hq
  exact lv_pop hC.1 hC.2.1 hd ((cv_cat ad v).trans hv) (h p l e s m args below meth c D aC A ad0 ad H locs ls hC hK hY hl)
theorem g_iload_n {Y : MD} {R : Room} {Z : Zt} {n0 pc q n k j : Nat} {L st : List Value} {w : Wd} {i : Fin 4} {x : Int32} (hd : decode Y.2.1 pc = .ok (.iload_n i, 1)) (hq : pc + 1 = q) (hL : L[(i : Nat)]? = some (.int x)) (h : G Y R Z n0 q L (.int x :: st) n w k j) : G Y R Z n0 pc L st n w k j := by
  intro p l e s m args below meth c D aC A ad0 ad H locs ls hC hK hY hl
  subst hq
  exact lv_iload_n hC.1 hC.2.1 hd rfl (cvL_at hl hL rfl) (h p l e s m args below meth c D aC A ad0 ad H locs ls hC hK hY hl)
theorem g_iload {Y : MD} {R : Room} {Z : Zt} {n0 pc q n k j : Nat} {L st : List Value} {w : Wd} {i : Nat} {x : Int32} (hd : decode Y.2.1 pc = .ok (.iload i, 2)) (hq : pc + 2 = q) (hL : L[i]? = some (.int x)) (h : G Y R Z n0 q L (.int x :: st) n w k j) : G Y R Z n0 pc L st n w k j := by
  intro p l e s m args below meth c D aC A ad0 ad H locs ls hC hK hY hl
  subst hq
  exact lv_iload hC.1 hC.2.1 hd (cvL_at hl hL rfl) (h p l e s m args below meth c D aC A ad0 ad H locs ls hC hK hY hl)
theorem g_aload_n {Y : MD} {R : Room} {Z : Zt} {n0 pc q n k j : Nat} {L st : List Value} {w : Wd} {i : Fin 4} {x : Nat} (hd : decode Y.2.1 pc = .ok (.aload_n i, 1)) (hq : pc + 1 = q) (hL : L[(i : Nat)]? = some (.ref x)) (h : G Y R Z n0 q L (.ref x :: st) n w k j) : G Y R Z n0 pc L st n w k j := by
  intro p l e s m args below meth c D aC A ad0 ad H locs ls hC hK hY hl
  subst hq
  exact lv_aload_n hC.1 hC.2.1 hd rfl (cvL_at hl hL rfl) (h p l e s m args below meth c D aC A ad0 ad H locs ls hC hK hY hl)
theorem g_aload {Y : MD} {R : Room} {Z : Zt} {n0 pc q n k j : Nat} {L st : List Value} {w : Wd} {i : Nat} {x : Nat} (hd : decode Y.2.1 pc = .ok (.aload i, 2)) (hq : pc + 2 = q) (hL : L[i]? = some (.ref x)) (h : G Y R Z n0 q L (.ref x :: st) n w k j) : G Y R Z n0 pc L st n w k j := by
  intro p l e s m args below meth c D aC A ad0 ad H locs ls hC hK hY hl
  subst hq
  exact lv_aload hC.1 hC.2.1 hd (cvL_at hl hL rfl) (h p l e s m args below meth c D aC A ad0 ad H locs ls hC hK hY hl)
theorem g_lload {Y : MD} {R : Room} {Z : Zt} {n0 pc q n k j : Nat} {L st : List Value} {w : Wd} {i : Nat} {x : Int64} (hd : decode Y.2.1 pc = .ok (.lload i, 2)) (hq : pc + 2 = q) (hL : L[i]? = some (.long x)) (h : G Y R Z n0 q L (.long x :: st) n w k j) : G Y R Z n0 pc L st n w k j := by
  intro p l e s m args below meth c D aC A ad0 ad H locs ls hC hK hY hl
  subst hq
  exact lv_lload hC.1 hC.2.1 hd (cvL_at hl hL rfl) (h p l e s m args below meth c D aC A ad0 ad H locs ls hC hK hY hl)
theorem g_istore_n {Y : MD} {R : Room} {Z : Zt} {n0 pc q n k j : Nat} {L st : List Value} {w : Wd} {L2 : List Value} {i : Fin 4} {x : Int32} (hd : decode Y.2.1 pc = .ok (.istore_n i, 1)) (hq : pc + 1 = q) (hi : (i : Nat) < Y.2.2.1) (hok : okS L i = true) (hL2 : L.set i (.int x) = L2) (h : G Y R Z n0 q L2 st n w k j) : G Y R Z n0 pc L (.int x :: st) n w k j := by
  intro p l e s m args below meth c D aC A ad0 ad H locs ls hC hK hY hl
  subst hq hL2
  exact lv_istore_n hC.1 hC.2.1 hd rfl hl hi rfl (fun ls1 hl1 => h p l e s m args below meth c D aC A ad0 ad H locs ls1 hC hK hY (cvL_st hok rfl hl1))
theorem g_istore {Y : MD} {R : Room} {Z : Zt} {n0 pc q n k j : Nat} {L st : List Value} {w : Wd} {L2 : List Value} {i : Nat} {x : Int32} (hd : decode Y.2.1 pc = .ok (.istore i, 2)) (hq : pc + 2 = q) (hi : i < Y.2.2.1) (hok : okS L i = true) (hL2 : L.set i (.int x) = L2) (h : G Y R Z n0 q L2 st n w k j) : G Y R Z n0 pc L (.int x :: st) n w k j := by
  intro p l e s m args below meth c D aC A ad0 ad H locs ls hC hK hY hl
  subst hq hL2
  exact lv_istore hC.1 hC.2.1 hd hl hi rfl (fun ls1 hl1 => h p l e s m args below meth c D aC A ad0 ad H locs ls1 hC hK hY (cvL_st hok rfl hl1))
theorem g_astore_n {Y : MD} {R : Room} {Z : Zt} {n0 pc q n k j : Nat} {L st : List Value} {w : Wd} {L2 : List Value} {i : Fin 4} {x : Nat} (hd : decode Y.2.1 pc = .ok (.astore_n i, 1)) (hq : pc + 1 = q) (hi : (i : Nat) < Y.2.2.1) (hok : okS L i = true) (hL2 : L.set i (.ref x) = L2) (h : G Y R Z n0 q L2 st n w k j) : G Y R Z n0 pc L (.ref x :: st) n w k j := by
  intro p l e s m args below meth c D aC A ad0 ad H locs ls hC hK hY hl
  subst hq hL2
  exact lv_astore_n hC.1 hC.2.1 hd rfl hl hi rfl (fun ls1 hl1 => h p l e s m args below meth c D aC A ad0 ad H locs ls1 hC hK hY (cvL_st hok rfl hl1))
theorem g_astore {Y : MD} {R : Room} {Z : Zt} {n0 pc q n k j : Nat} {L st : List Value} {w : Wd} {L2 : List Value} {i : Nat} {x : Nat} (hd : decode Y.2.1 pc = .ok (.astore i, 2)) (hq : pc + 2 = q) (hi : i < Y.2.2.1) (hok : okS L i = true) (hL2 : L.set i (.ref x) = L2) (h : G Y R Z n0 q L2 st n w k j) : G Y R Z n0 pc L (.ref x :: st) n w k j := by
  intro p l e s m args below meth c D aC A ad0 ad H locs ls hC hK hY hl
  subst hq hL2
  exact lv_astore hC.1 hC.2.1 hd hl hi rfl (fun ls1 hl1 => h p l e s m args below meth c D aC A ad0 ad H locs ls1 hC hK hY (cvL_st hok rfl hl1))
theorem g_lstore {Y : MD} {R : Room} {Z : Zt} {n0 pc q n k j : Nat} {L st : List Value} {w : Wd} {L2 : List Value} {i : Nat} {x : Int64} (hd : decode Y.2.1 pc = .ok (.lstore i, 2)) (hq : pc + 2 = q) (hi : i + 1 < Y.2.2.1) (hok : okS L i = true) (hL2 : (L.set i (.long x)).set (i + 1) .null = L2) (h : G Y R Z n0 q L2 st n w k j) : G Y R Z n0 pc L (.long x :: st) n w k j := by
  intro p l e s m args below meth c D aC A ad0 ad H locs ls hC hK hY hl
  subst hq hL2
  exact lv_lstore hC.1 hC.2.1 hd hl hi rfl (fun ls1 hl1 => h p l e s m args below meth c D aC A ad0 ad H locs ls1 hC hK hY (cvL_st2 hok rfl hl1))
theorem g_iinc {Y : MD} {R : Room} {Z : Zt} {n0 pc q n k j : Nat} {L st : List Value} {w : Wd} {L2 : List Value} {i : Nat} {d : Int} {x : Int32} (hd : decode Y.2.1 pc = .ok (.iinc i d, 3)) (hq : pc + 3 = q) (hL : L[i]? = some (.int x)) (hi : i < Y.2.2.1) (hok : okS L i = true) (hL2 : L.set i (.int (x + Int32.ofInt d)) = L2) (h : G Y R Z n0 q L2 st n w k j) : G Y R Z n0 pc L st n w k j := by
  intro p l e s m args below meth c D aC A ad0 ad H locs ls hC hK hY hl
  subst hq hL2
  obtain ⟨k0, hk0⟩ := cvL_idx (ad := ad) hL rfl
  exact lv_iinc hC.1 hC.2.1 hd hl hk0 rfl hi rfl (fun ls1 hl1 => h p l e s m args below meth c D aC A ad0 ad H locs ls1 hC hK hY (cvL_st hok rfl hl1))
theorem g_goto {Y : MD} {R : Room} {Z : Zt} {n0 pc q n k j : Nat} {L st : List Value} {w : Wd} {d : Int} (hd : decode Y.2.1 pc = .ok (.goto d, 3)) (hq : (pc : Int) + d = (q : Int)) (h : G Y R Z n0 q L st n w k j) : G Y R Z n0 pc L st n w k j := by
  intro p l e s m args below meth c D aC A ad0 ad H locs ls hC hK hY hl
  exact lv_goto hC.1 hC.2.1 hd hq (h p l e s m args below meth c D aC A ad0 ad H locs ls hC hK hY hl)
theorem g_if_eq {Y : MD} {R : Room} {Z : Zt} {n0 pc q n k j : Nat} {L st : List Value} {w : Wd} {d : Int} {tgt : Nat} {x : Int32} (hd : decode Y.2.1 pc = .ok (.ifCond .eq d, 3)) (ht : (pc : Int) + d = (tgt : Int)) (hq : pc + 3 = q) (h1 : x = 0 → G Y R Z n0 tgt L st n w k j) (h2 : ¬ x = 0 → G Y R Z n0 q L st n w k j) : G Y R Z n0 pc L (.int x :: st) n w k j := by
  intro p l e s m args below meth c D aC A ad0 ad H locs ls hC hK hY hl
  subst hq
  exact lv_if_eq hC.1 hC.2.1 hd ht (fun h0 => h1 h0 p l e s m args below meth c D aC A ad0 ad H locs ls hC hK hY hl) (fun h0 => h2 h0 p l e s m args below meth c D aC A ad0 ad H locs ls hC hK hY hl)
theorem g_icmp_eq {Y : MD} {R : Room} {Z : Zt} {n0 pc q n k j : Nat} {L st : List Value} {w : Wd} {d : Int} {tgt : Nat} {x y : Int32} (hd : decode Y.2.1 pc = .ok (.if_icmp .eq d, 3)) (ht : (pc : Int) + d = (tgt : Int)) (hq : pc + 3 = q) (h1 : x = y → G Y R Z n0 tgt L st n w k j) (h2 : ¬ x = y → G Y R Z n0 q L st n w k j) : G Y R Z n0 pc L (.int y :: .int x :: st) n w k j := by
  intro p l e s m args below meth c D aC A ad0 ad H locs ls hC hK hY hl
  subst hq
  exact lv_icmp_eq hC.1 hC.2.1 hd ht (fun h0 => h1 h0 p l e s m args below meth c D aC A ad0 ad H locs ls hC hK hY hl) (fun h0 => h2 h0 p l e s m args below meth c D aC A ad0 ad H locs ls hC hK hY hl)
theorem g_if_ne {Y : MD} {R : Room} {Z : Zt} {n0 pc q n k j : Nat} {L st : List Value} {w : Wd} {d : Int} {tgt : Nat} {x : Int32} (hd : decode Y.2.1 pc = .ok (.ifCond .ne d, 3)) (ht : (pc : Int) + d = (tgt : Int)) (hq : pc + 3 = q) (h1 : ¬ x = 0 → G Y R Z n0 tgt L st n w k j) (h2 : x = 0 → G Y R Z n0 q L st n w k j) : G Y R Z n0 pc L (.int x :: st) n w k j := by
  intro p l e s m args below meth c D aC A ad0 ad H locs ls hC hK hY hl
  subst hq
  exact lv_if_ne hC.1 hC.2.1 hd ht (fun h0 => h1 h0 p l e s m args below meth c D aC A ad0 ad H locs ls hC hK hY hl) (fun h0 => h2 h0 p l e s m args below meth c D aC A ad0 ad H locs ls hC hK hY hl)
theorem g_icmp_ne {Y : MD} {R : Room} {Z : Zt} {n0 pc q n k j : Nat} {L st : List Value} {w : Wd} {d : Int} {tgt : Nat} {x y : Int32} (hd : decode Y.2.1 pc = .ok (.if_icmp .ne d, 3)) (ht : (pc : Int) + d = (tgt : Int)) (hq : pc + 3 = q) (h1 : ¬ x = y → G Y R Z n0 tgt L st n w k j) (h2 : x = y → G Y R Z n0 q L st n w k j) : G Y R Z n0 pc L (.int y :: .int x :: st) n w k j := by
  intro p l e s m args below meth c D aC A ad0 ad H locs ls hC hK hY hl
  subst hq
  exact lv_icmp_ne hC.1 hC.2.1 hd ht (fun h0 => h1 h0 p l e s m args below meth c D aC A ad0 ad H locs ls hC hK hY hl) (fun h0 => h2 h0 p l e s m args below meth c D aC A ad0 ad H locs ls hC hK hY hl)
theorem g_if_lt {Y : MD} {R : Room} {Z : Zt} {n0 pc q n k j : Nat} {L st : List Value} {w : Wd} {d : Int} {tgt : Nat} {x : Int32} (hd : decode Y.2.1 pc = .ok (.ifCond .lt d, 3)) (ht : (pc : Int) + d = (tgt : Int)) (hq : pc + 3 = q) (h1 : x < 0 → G Y R Z n0 tgt L st n w k j) (h2 : ¬ x < 0 → G Y R Z n0 q L st n w k j) : G Y R Z n0 pc L (.int x :: st) n w k j := by
  intro p l e s m args below meth c D aC A ad0 ad H locs ls hC hK hY hl
  subst hq
  exact lv_if_lt hC.1 hC.2.1 hd ht (fun h0 => h1 h0 p l e s m args below meth c D aC A ad0 ad H locs ls hC hK hY hl) (fun h0 => h2 h0 p l e s m args below meth c D aC A ad0 ad H locs ls hC hK hY hl)
theorem g_icmp_lt {Y : MD} {R : Room} {Z : Zt} {n0 pc q n k j : Nat} {L st : List Value} {w : Wd} {d : Int} {tgt : Nat} {x y : Int32} (hd : decode Y.2.1 pc = .ok (.if_icmp .lt d, 3)) (ht : (pc : Int) + d = (tgt : Int)) (hq : pc + 3 = q) (h1 : x < y → G Y R Z n0 tgt L st n w k j) (h2 : ¬ x < y → G Y R Z n0 q L st n w k j) : G Y R Z n0 pc L (.int y :: .int x :: st) n w k j := by
  intro p l e s m args below meth c D aC A ad0 ad H locs ls hC hK hY hl
  subst hq
  exact lv_icmp_lt hC.1 hC.2.1 hd ht (fun h0 => h1 h0 p l e s m args below meth c D aC A ad0 ad H locs ls hC hK hY hl) (fun h0 => h2 h0 p l e s m args below meth c D aC A ad0 ad H locs ls hC hK hY hl)
theorem g_if_ge {Y : MD} {R : Room} {Z : Zt} {n0 pc q n k j : Nat} {L st : List Value} {w : Wd} {d : Int} {tgt : Nat} {x : Int32} (hd : decode Y.2.1 pc = .ok (.ifCond .ge d, 3)) (ht : (pc : Int) + d = (tgt : Int)) (hq : pc + 3 = q) (h1 : 0 ≤ x → G Y R Z n0 tgt L st n w k j) (h2 : ¬ 0 ≤ x → G Y R Z n0 q L st n w k j) : G Y R Z n0 pc L (.int x :: st) n w k j := by
  intro p l e s m args below meth c D aC A ad0 ad H locs ls hC hK hY hl
  subst hq
  exact lv_if_ge hC.1 hC.2.1 hd ht (fun h0 => h1 h0 p l e s m args below meth c D aC A ad0 ad H locs ls hC hK hY hl) (fun h0 => h2 h0 p l e s m args below meth c D aC A ad0 ad H locs ls hC hK hY hl)
theorem g_icmp_ge {Y : MD} {R : Room} {Z : Zt} {n0 pc q n k j : Nat} {L st : List Value} {w : Wd} {d : Int} {tgt : Nat} {x y : Int32} (hd : decode Y.2.1 pc = .ok (.if_icmp .ge d, 3)) (ht : (pc : Int) + d = (tgt : Int)) (hq : pc + 3 = q) (h1 : y ≤ x → G Y R Z n0 tgt L st n w k j) (h2 : ¬ y ≤ x → G Y R Z n0 q L st n w k j) : G Y R Z n0 pc L (.int y :: .int x :: st) n w k j := by
  intro p l e s m args below meth c D aC A ad0 ad H locs ls hC hK hY hl
  subst hq
  exact lv_icmp_ge hC.1 hC.2.1 hd ht (fun h0 => h1 h0 p l e s m args below meth c D aC A ad0 ad H locs ls hC hK hY hl) (fun h0 => h2 h0 p l e s m args below meth c D aC A ad0 ad H locs ls hC hK hY hl)
theorem g_if_gt {Y : MD} {R : Room} {Z : Zt} {n0 pc q n k j : Nat} {L st : List Value} {w : Wd} {d : Int} {tgt : Nat} {x : Int32} (hd : decode Y.2.1 pc = .ok (.ifCond .gt d, 3)) (ht : (pc : Int) + d = (tgt : Int)) (hq : pc + 3 = q) (h1 : 0 < x → G Y R Z n0 tgt L st n w k j) (h2 : ¬ 0 < x → G Y R Z n0 q L st n w k j) : G Y R Z n0 pc L (.int x :: st) n w k j := by
  intro p l e s m args below meth c D aC A ad0 ad H locs ls hC hK hY hl
  subst hq
  exact lv_if_gt hC.1 hC.2.1 hd ht (fun h0 => h1 h0 p l e s m args below meth c D aC A ad0 ad H locs ls hC hK hY hl) (fun h0 => h2 h0 p l e s m args below meth c D aC A ad0 ad H locs ls hC hK hY hl)
theorem g_icmp_gt {Y : MD} {R : Room} {Z : Zt} {n0 pc q n k j : Nat} {L st : List Value} {w : Wd} {d : Int} {tgt : Nat} {x y : Int32} (hd : decode Y.2.1 pc = .ok (.if_icmp .gt d, 3)) (ht : (pc : Int) + d = (tgt : Int)) (hq : pc + 3 = q) (h1 : y < x → G Y R Z n0 tgt L st n w k j) (h2 : ¬ y < x → G Y R Z n0 q L st n w k j) : G Y R Z n0 pc L (.int y :: .int x :: st) n w k j := by
  intro p l e s m args below meth c D aC A ad0 ad H locs ls hC hK hY hl
  subst hq
  exact lv_icmp_gt hC.1 hC.2.1 hd ht (fun h0 => h1 h0 p l e s m args below meth c D aC A ad0 ad H locs ls hC hK hY hl) (fun h0 => h2 h0 p l e s m args below meth c D aC A ad0 ad H locs ls hC hK hY hl)
theorem g_if_le {Y : MD} {R : Room} {Z : Zt} {n0 pc q n k j : Nat} {L st : List Value} {w : Wd} {d : Int} {tgt : Nat} {x : Int32} (hd : decode Y.2.1 pc = .ok (.ifCond .le d, 3)) (ht : (pc : Int) + d = (tgt : Int)) (hq : pc + 3 = q) (h1 : x ≤ 0 → G Y R Z n0 tgt L st n w k j) (h2 : ¬ x ≤ 0 → G Y R Z n0 q L st n w k j) : G Y R Z n0 pc L (.int x :: st) n w k j := by
  intro p l e s m args below meth c D aC A ad0 ad H locs ls hC hK hY hl
  subst hq
  exact lv_if_le hC.1 hC.2.1 hd ht (fun h0 => h1 h0 p l e s m args below meth c D aC A ad0 ad H locs ls hC hK hY hl) (fun h0 => h2 h0 p l e s m args below meth c D aC A ad0 ad H locs ls hC hK hY hl)
theorem g_icmp_le {Y : MD} {R : Room} {Z : Zt} {n0 pc q n k j : Nat} {L st : List Value} {w : Wd} {d : Int} {tgt : Nat} {x y : Int32} (hd : decode Y.2.1 pc = .ok (.if_icmp .le d, 3)) (ht : (pc : Int) + d = (tgt : Int)) (hq : pc + 3 = q) (h1 : x ≤ y → G Y R Z n0 tgt L st n w k j) (h2 : ¬ x ≤ y → G Y R Z n0 q L st n w k j) : G Y R Z n0 pc L (.int y :: .int x :: st) n w k j := by
  intro p l e s m args below meth c D aC A ad0 ad H locs ls hC hK hY hl
  subst hq
  exact lv_icmp_le hC.1 hC.2.1 hd ht (fun h0 => h1 h0 p l e s m args below meth c D aC A ad0 ad H locs ls hC hK hY hl) (fun h0 => h2 h0 p l e s m args below meth c D aC A ad0 ad H locs ls hC hK hY hl)
theorem g_tabIn {Y : MD} {R : Room} {Z : Zt} {n0 pc q n k j : Nat} {L st : List Value} {w : Wd} {dflt lo hi : Int} {offs : Array Int} {len : Nat} {x : Int32} {off : Int} {tgt : Nat} (hd : decode Y.2.1 pc = .ok (.tableswitch dflt lo hi offs, len)) (h1 : ¬ x.toInt < lo) (h2 : ¬ hi < x.toInt) (ho : offs[(x.toInt - lo).toNat]? = some off) (ht : (pc : Int) + off = (tgt : Int)) (h : G Y R Z n0 tgt L st n w k j) : G Y R Z n0 pc L (.int x :: st) n w k j := by
  intro p l e s m args below meth c D aC A ad0 ad H locs ls hC hK hY hl
  exact lv_tableIn hC.1 hC.2.1 hd h1 h2 ho ht (h p l e s m args below meth c D aC A ad0 ad H locs ls hC hK hY hl)
theorem g_tabOut {Y : MD} {R : Room} {Z : Zt} {n0 pc q n k j : Nat} {L st : List Value} {w : Wd} {dflt lo hi : Int} {offs : Array Int} {len : Nat} {x : Int32} {tgt : Nat} (hd : decode Y.2.1 pc = .ok (.tableswitch dflt lo hi offs, len)) (h1 : x.toInt < lo ∨ hi < x.toInt) (ht : (pc : Int) + dflt = (tgt : Int)) (h : G Y R Z n0 tgt L st n w k j) : G Y R Z n0 pc L (.int x :: st) n w k j := by
  intro p l e s m args below meth c D aC A ad0 ad H locs ls hC hK hY hl
  exact lv_tableOut hC.1 hC.2.1 hd h1 ht (h p l e s m args below meth c D aC A ad0 ad H locs ls hC hK hY hl)
theorem g_lookup {Y : MD} {R : Room} {Z : Zt} {n0 pc q n k j : Nat} {L st : List Value} {w : Wd} {dflt : Int} {ps : Array (Int × Int)} {len : Nat} {x : Int32} {off : Int} {tgt : Nat} (hd : decode Y.2.1 pc = .ok (.lookupswitch dflt ps, len)) (hp : (ps.toList.zip (ps.toList.drop 1)).all (fun (a, next) => a.1 < next.1) = true) (ho : Op.lookupswitch.offset ps.toList dflt x.toInt = off) (ht : (pc : Int) + off = (tgt : Int)) (h : G Y R Z n0 tgt L st n w k j) : G Y R Z n0 pc L (.int x :: st) n w k j := by
  intro p l e s m args below meth c D aC A ad0 ad H locs ls hC hK hY hl
  exact lv_lookup hC.1 hC.2.1 hd hp ho ht (h p l e s m args below meth c D aC A ad0 ad H locs ls hC hK hY hl)
