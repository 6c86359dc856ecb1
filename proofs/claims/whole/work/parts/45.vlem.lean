/-! weaves that change: what the stores hold then, and that they stay well -/
theorem CRep_setFa {I : Nat → Nat → Int32} {b : Nat} {v : Vv} {a f x : Nat} (h : CRep I b v) (hf : f < 6) : CRep (uI I (b + 5) (a * 6 + f) (nI x)) b (setFa v a f x) := by
  obtain ⟨h1, h2, h3, h4⟩ := h
  have e : ∀ i, i < 5 → uI I (b + 5) (a * 6 + f) (nI x) (b + i) = I (b + i) := fun i hi => uI_ne (by omega)
  have e0 : uI I (b + 5) (a * 6 + f) (nI x) b = I b := e 0 (by omega)
  refine ⟨by rw [e0]; exact h1, by rw [e0]; exact h2, fun m hm => ?_, fun c hc g hg => ?_⟩
  · rw [e 1 (by omega), e 2 (by omega), e 3 (by omega), e 4 (by omega)]
    exact h3 m hm
  · show uI I (b + 5) (a * 6 + f) (nI x) (b + 5) (c * 6 + g) = nI (if c = a ∧ g = f then x else vfa v c g)
    by_cases hz : c = a ∧ g = f
    · rw [if_pos hz, hz.1, hz.2, uI_eq]
    · rw [if_neg hz]
      have : ¬ c * 6 + g = a * 6 + f := fun z => hz (by omega)
      simp [uI, this]
      exact h4 c hc g hg
theorem CRep_exV {I : Nat → Nat → Int32} {b : Nat} {v : Vv} {a1 a2 : Nat} (h : CRep I b v) (h1' : a1 < vna v) (h2' : a2 < vna v) : CRep (exP I b a1 a2 6) b (exV v a1 a2) := by
  obtain ⟨h1, h2, h3, h4⟩ := h
  have e : ∀ i, i < 5 → exP I b a1 a2 6 (b + i) = I (b + i) := fun i hi => by
    funext j; unfold exP; rw [if_neg (by omega)]
  have e0 : exP I b a1 a2 6 b = I b := e 0 (by omega)
  refine ⟨by rw [e0]; exact h1, by rw [e0]; exact h2, fun m hm => ?_, fun c hc g hg => ?_⟩
  · rw [e 1 (by omega), e 2 (by omega), e 3 (by omega), e 4 (by omega)]
    exact h3 m hm
  · show exP I b a1 a2 6 (b + 5) (c * 6 + g) = nI (if c = a1 then vfa v a2 g else if c = a2 then vfa v a1 g else vfa v c g)
    have d1 : (c * 6 + g) / 6 = c := by omega
    have d2 : (c * 6 + g) % 6 = g := by omega
    unfold exP
    rw [d1, d2, if_pos ⟨rfl, hg⟩]
    by_cases c1 : c = a1
    · rw [if_pos c1, if_pos c1]; exact h4 a2 h2' g hg
    · rw [if_neg c1, if_neg c1]
      by_cases c2 : c = a2
      · rw [if_pos c2, if_pos c2]; exact h4 a1 h1' g hg
      · rw [if_neg c2, if_neg c2]; exact h4 c hc g hg
theorem CRep_setCl {I : Nat → Nat → Int32} {b : Nat} {v : Vv} {m x : Nat} (h : CRep I b v) : CRep (uI I (b + 1) m (nI x)) b (setCl v m x) := by
  obtain ⟨h1, h2, h3, h4⟩ := h
  have e : ∀ i, i ≠ 1 → uI I (b + 1) m (nI x) (b + i) = I (b + i) := fun i hi => uI_ne (by omega)
  have e0 : uI I (b + 1) m (nI x) b = I b := e 0 (by omega)
  refine ⟨by rw [e0]; exact h1, by rw [e0]; exact h2, fun c hc => ?_, fun c hc g hg => by rw [e 5 (by omega)]; exact h4 c hc g hg⟩
  rw [e 2 (by omega), e 3 (by omega), e 4 (by omega)]
  refine ⟨?_, (h3 c hc).2⟩
  show uI I (b + 1) m (nI x) (b + 1) c = nI (if c = m then x else vcl v c)
  by_cases hz : c = m
  · rw [if_pos hz, hz, uI_eq]
  · rw [if_neg hz]; simp [uI, hz]; exact (h3 c hc).1
theorem CRep_setSt {I : Nat → Nat → Int32} {b : Nat} {v : Vv} {m i s x : Nat} (h : CRep I b v) (hV : VOk v) (hi : i < 4) : CRep (uI (uI I (b + 3) (m * 4 + i) (nI s)) (b + 4) (m * 4 + i) (nI x)) b (setSt v m i s x) := by
  obtain ⟨h1, h2, h3, h4⟩ := h
  have e : ∀ k, k ≠ 3 → k ≠ 4 → uI (uI I (b + 3) (m * 4 + i) (nI s)) (b + 4) (m * 4 + i) (nI x) (b + k) = I (b + k) := fun k h3 h4 => (uI_ne (by omega)).trans (uI_ne (by omega))
  have e0 : uI (uI I (b + 3) (m * 4 + i) (nI s)) (b + 4) (m * 4 + i) (nI x) b = I b := e 0 (by omega) (by omega)
  refine ⟨by rw [e0]; exact h1, by rw [e0]; exact h2, fun c hc => ?_, fun c hc g hg => by rw [e 5 (by omega) (by omega)]; exact h4 c hc g hg⟩
  rw [e 1 (by omega) (by omega), e 2 (by omega) (by omega), uI_ne (show b + 3 ≠ b + 4 by omega)]
  refine ⟨(h3 c hc).1, (h3 c hc).2.1, fun k hk => ?_⟩
  have hk4 : k < 4 := Nat.lt_of_lt_of_le hk (hV.2.2.1 c hc).2.1
  have h0 := (h3 c hc).2.2 k hk
  show uI I (b + 3) (m * 4 + i) (nI s) (b + 3) (c * 4 + k) = nI (if c = m ∧ k = i then s else vso v c k) ∧ uI (uI I (b + 3) (m * 4 + i) (nI s)) (b + 4) (m * 4 + i) (nI x) (b + 4) (c * 4 + k) = nI (if c = m ∧ k = i then x else vop v c k)
  by_cases hz : c = m ∧ k = i
  · rw [if_pos hz, if_pos hz, hz.1, hz.2, uI_eq, uI_eq]; exact ⟨rfl, rfl⟩
  · have : ¬ c * 4 + k = m * 4 + i := fun z => hz (by omega)
    rw [if_neg hz, if_neg hz]
    simp [uI, this]
    exact h0
def fok (f x : Nat) : Prop := (f = 0 → 1 ≤ x ∧ x < 100) ∧ (f = 1 → x < 5) ∧ (f = 2 → x < 7) ∧ (f = 3 → x < 11) ∧ (f = 4 → x < 7) ∧ (f = 5 → 1 ≤ x ∧ x < 6)
theorem VOk_setFa {v : Vv} {a f x : Nat} (h : VOk v) (hx : fok f x) : VOk (setFa v a f x) := by
  obtain ⟨h1, h2, h3, h4⟩ := h
  refine ⟨h1, h2, h3, fun c hc => ?_⟩
  obtain ⟨w1, w2, w3, w4, w5, w6, w7, w8⟩ := h4 c hc
  obtain ⟨k0, k1, k2, k3, k4, k5⟩ := hx
  have e : ∀ g, vfa (setFa v a f x) c g = if c = a ∧ g = f then x else vfa v c g := fun _ => rfl
  rw [e 0, e 1, e 2, e 3, e 4, e 5]
  refine ⟨?_, ?_, ?_, ?_, ?_, ?_, ?_, ?_⟩
  · split
    · next z => exact (k0 z.2.symm).1
    · assumption
  · split
    · next z => exact (k0 z.2.symm).2
    · assumption
  · split
    · next z => exact k1 z.2.symm
    · assumption
  · split
    · next z => exact k2 z.2.symm
    · assumption
  · split
    · next z => exact k3 z.2.symm
    · assumption
  · split
    · next z => exact k4 z.2.symm
    · assumption
  · split
    · next z => exact (k5 z.2.symm).1
    · assumption
  · split
    · next z => exact (k5 z.2.symm).2
    · assumption
theorem fok_of {v : Vv} (h : VOk v) {a f : Nat} (ha : a < vna v) : fok f (vfa v a f) := by
  obtain ⟨w1, w2, w3, w4, w5, w6, w7, w8⟩ := h.2.2.2 a ha
  refine ⟨fun z => ?_, fun z => ?_, fun z => ?_, fun z => ?_, fun z => ?_, fun z => ?_⟩ <;> subst z
  · exact ⟨w1, w2⟩
  · exact w3
  · exact w4
  · exact w5
  · exact w6
  · exact ⟨w7, w8⟩
theorem VOk_exV {v : Vv} {a b : Nat} (h : VOk v) (ha : a < vna v) (hb : b < vna v) : VOk (exV v a b) := by
  refine ⟨h.1, h.2.1, h.2.2.1, fun c hc => ?_⟩
  have e : ∀ g, vfa (exV v a b) c g = if c = a then vfa v b g else if c = b then vfa v a g else vfa v c g := fun _ => rfl
  rw [e 0, e 1, e 2, e 3, e 4, e 5]
  by_cases c1 : c = a
  · simp only [if_pos c1]; exact h.2.2.2 b hb
  · by_cases c2 : c = b
    · simp only [if_neg c1, if_pos c2]; exact h.2.2.2 a ha
    · simp only [if_neg c1, if_neg c2]; exact h.2.2.2 c hc
theorem VOk_setCl {v : Vv} {m x : Nat} (h : VOk v) (hx : x < 4) : VOk (setCl v m x) := by
  refine ⟨h.1, h.2.1, fun c hc => ?_, h.2.2.2⟩
  refine ⟨?_, (h.2.2.1 c hc).2⟩
  show (if c = m then x else vcl v c) < 4
  split
  · exact hx
  · exact (h.2.2.1 c hc).1
def sok (v : Vv) (s x : Nat) : Prop := s < 3 ∧ x < 100 ∧ (s = 1 → x < vnm v) ∧ (s = 2 → 1 ≤ x ∧ x < 10)
theorem VOk_setSt {v : Vv} {m i s x : Nat} (h : VOk v) (hx : sok v s x) : VOk (setSt v m i s x) := by
  refine ⟨h.1, h.2.1, fun c hc => ⟨(h.2.2.1 c hc).1, (h.2.2.1 c hc).2.1, fun k hk => ?_⟩, h.2.2.2⟩
  have h0 := (h.2.2.1 c hc).2.2 k hk
  have e1 : vso (setSt v m i s x) c k = if c = m ∧ k = i then s else vso v c k := rfl
  have e2 : vop (setSt v m i s x) c k = if c = m ∧ k = i then x else vop v c k := rfl
  rw [e1, e2]
  by_cases hz : c = m ∧ k = i
  · simp only [if_pos hz]; exact hx
  · simp only [if_neg hz]; exact h0
theorem sok_of {v : Vv} (h : VOk v) {m i : Nat} (hm : m < vnm v) (hi : i < vln v m) : sok v (vso v m i) (vop v m i) := (h.2.2.1 m hm).2.2 i hi
theorem setFa_back (v : Vv) (a f x : Nat) : setFa (setFa v a f x) a f (vfa v a f) = v := by
  have : (fun b g => if b = a ∧ g = f then vfa v a f else vfa (setFa v a f x) b g) = vfa v := by
    funext b g
    show (if b = a ∧ g = f then vfa v a f else if b = a ∧ g = f then x else vfa v b g) = vfa v b g
    by_cases z : b = a ∧ g = f
    · rw [if_pos z, z.1, z.2]
    · rw [if_neg z, if_neg z]
  unfold setFa at this ⊢
  rw [this]
  rfl
theorem exV_back (v : Vv) (a b : Nat) : exV (exV v a b) a b = v := by
  have : (fun c f => if c = a then vfa (exV v a b) b f else if c = b then vfa (exV v a b) a f else vfa (exV v a b) c f) = vfa v := by
    funext c f
    show (if c = a then (if b = a then vfa v b f else if b = b then vfa v a f else vfa v b f) else if c = b then (if a = a then vfa v b f else if a = b then vfa v a f else vfa v a f) else (if c = a then vfa v b f else if c = b then vfa v a f else vfa v c f)) = vfa v c f
    by_cases c1 : c = a
    · rw [if_pos c1]
      by_cases e : b = a
      · rw [if_pos e, e, c1]
      · rw [if_neg e, if_pos rfl, c1]
    · rw [if_neg c1]
      by_cases c2 : c = b
      · rw [if_pos c2, if_pos rfl, c2]
      · rw [if_neg c2, if_neg c1, if_neg c2]
  unfold exV at this ⊢
  rw [this]
  rfl
theorem setCl_back (v : Vv) (m x : Nat) : setCl (setCl v m x) m (vcl v m) = v := by
  have : (fun a => if a = m then vcl v m else vcl (setCl v m x) a) = vcl v := by
    funext a
    show (if a = m then vcl v m else if a = m then x else vcl v a) = vcl v a
    by_cases z : a = m
    · rw [if_pos z, z]
    · rw [if_neg z, if_neg z]
  unfold setCl at this ⊢
  rw [this]
  rfl
theorem setSt_back (v : Vv) (m i s x : Nat) : setSt (setSt v m i s x) m i (vso v m i) (vop v m i) = v := by
  have t1 : (fun a b => if a = m ∧ b = i then vso v m i else vso (setSt v m i s x) a b) = vso v := by
    funext a b
    show (if a = m ∧ b = i then vso v m i else if a = m ∧ b = i then s else vso v a b) = vso v a b
    by_cases z : a = m ∧ b = i
    · rw [if_pos z, z.1, z.2]
    · rw [if_neg z, if_neg z]
  have t2 : (fun a b => if a = m ∧ b = i then vop v m i else vop (setSt v m i s x) a b) = vop v := by
    funext a b
    show (if a = m ∧ b = i then vop v m i else if a = m ∧ b = i then x else vop v a b) = vop v a b
    by_cases z : a = m ∧ b = i
    · rw [if_pos z, z.1, z.2]
    · rw [if_neg z, if_neg z]
  unfold setSt at t1 t2 ⊢
  rw [t1, t2]
  rfl
/-! the chain of acts -/
theorem ActAt.to {I J : Nat → Nat → Int32} {n k : Nat} {u v : Vv} (h : ActAt I n u v) (e : ∀ j, j < 5 → J 18 (k * 5 + j) = I 18 (n * 5 + j)) : ActAt J k u v := by
  obtain ⟨x0, x1, x2, x3, x4, h0, h1, h2, h3, h4, h5⟩ := h
  exact ⟨x0, x1, x2, x3, x4, (e 0 (by omega)).trans h0, (e 1 (by omega)).trans h1, (e 2 (by omega)).trans h2, (e 3 (by omega)).trans h3, (e 4 (by omega)).trans h4, h5⟩
theorem Chn.to {I J : Nat → Nat → Int32} {o p : Nat} : ∀ (n : Nat) (v : Vv) (us : List Vv), Chn I o n v us → (∀ k, k < n → ∀ j, j < 5 → J 18 ((p + k) * 5 + j) = I 18 ((o + k) * 5 + j)) → Chn J p n v us := by
  intro n
  induction n with
  | zero => intro v us h _; exact h
  | succ n ih =>
    intro v us h e
    obtain ⟨u, t, h1, h2, h3, h4⟩ := h
    exact ⟨u, t, h1, h2.to (e n (by omega)), h3, ih u t h4 (fun k hk => e k (by omega))⟩
theorem Chn.drop {I : Nat → Nat → Int32} {o : Nat} : ∀ (n : Nat) (v : Vv) (us : List Vv), Chn I o (n + 1) v us → Chn I (o + 1) n v (us.take n) := by
  intro n
  induction n with
  | zero => intro v us _; rfl
  | succ n ih =>
    intro v us h
    obtain ⟨u, t, h1, h2, h3, h4⟩ := h
    refine ⟨u, t.take n, by rw [h1]; rfl, ?_, h3, ih u t h4⟩
    have : o + 1 + n = o + (n + 1) := by omega
    rw [this]
    exact h2
theorem Chn.len {I : Nat → Nat → Int32} {o : Nat} : ∀ (n : Nat) (v : Vv) (us : List Vv), Chn I o n v us → us.length = n := by
  intro n
  induction n with
  | zero => intro v us h; rw [show us = [] from h]; rfl
  | succ n ih =>
    intro v us h
    obtain ⟨u, t, h1, -, -, h4⟩ := h
    rw [h1, List.length_cons, ih u t h4]
theorem ac5_at {I : Nat → Nat → Int32} {s x0 x1 x2 x3 x4 : Nat} {u v : Vv} (hok : actOk x0 x1 x2 v) (hu : u = actU x0 x1 x2 x3 x4 v) : ActAt (ac5 I s (nI x0) (nI x1) (nI x2) (nI x3) (nI x4)) s u v := by
  refine ⟨x0, x1, x2, x3, x4, ?_, ?_, ?_, ?_, ?_, hok, hu⟩ <;> simp [ac5, uI]
theorem ac5_lt {I : Nat → Nat → Int32} {s j : Nat} {x0 x1 x2 x3 x4 : Int32} (h : j < s * 5) : ac5 I s x0 x1 x2 x3 x4 18 j = I 18 j := by
  have n0 : j ≠ s * 5 := by omega
  have n1 : j ≠ s * 5 + 1 := by omega
  have n2 : j ≠ s * 5 + 2 := by omega
  have n3 : j ≠ s * 5 + 3 := by omega
  have n4 : j ≠ s * 5 + 4 := by omega
  simp [ac5, uI, n0, n1, n2, n3, n4]
theorem RActs.push {I : Nat → Nat → Int32} {v w : Vv} {us : List Vv} {x0 x1 x2 x3 x4 : Nat} (h : RActs I v us) (hV : VOk v) (hok : actOk x0 x1 x2 w) (hu : v = actU x0 x1 x2 x3 x4 w) : RActs (acK I us.length (nI x0) (nI x1) (nI x2) (nI x3) (nI x4)) w ((v :: us).take 16) := by
  obtain ⟨h1, h2, h3⟩ := h
  unfold acK
  by_cases hl : us.length < 16
  · rw [if_pos hl, List.take_of_length_le (by simp; omega)]
    refine ⟨by simp [ac5, uI], by simp; omega, ?_⟩
    refine ⟨v, us, rfl, ?_, hV, Chn.to (o := 0) (p := 0) _ _ _ h3 (fun k hk j hj => ac5_lt (by omega))⟩
    rw [Nat.zero_add]
    exact ac5_at hok hu
  · have hl : us.length = 16 := by omega
    rw [if_neg (by omega)]
    have ht : (v :: us).take 16 = v :: us.take 15 := rfl
    rw [ht]
    have hlt : (us.take 15).length = 15 := by rw [List.length_take]; omega
    refine ⟨by simp [ac5, uI, hlt], by simp [hlt], ?_⟩
    rw [List.length_cons, hlt]
    rw [hl] at h3
    refine ⟨v, us.take 15, rfl, ?_, hV, ?_⟩
    · exact ac5_at hok hu
    · refine Chn.to (o := 1) (p := 0) _ _ _ (Chn.drop 15 v us h3) (fun k hk j hj => ?_)
      have hk : k < 15 := hk
      rw [ac5_lt (s := 15) (show (0 + k) * 5 + j < 15 * 5 by omega)]
      have e : (1 + k) * 5 + j = 5 + ((0 + k) * 5 + j) := by omega
      rw [e]
      have hc : (0 + k) * 5 + j < 75 := by omega
      simp [acSh, uI, uA, va_cpy]
      intro hz
      omega
theorem RepC.act {I J : Nat → Nat → Int32} {S : Sg} {u : Vv} (h : RepC I S) (hv : CRep J 4 u ∧ VOk u) (ha : RActs J u ((gv S :: S.2.2.2.2.2.1).take 16)) (e : ∀ p, p < 4 ∨ (10 ≤ p ∧ p < 17) ∨ 19 ≤ p → J p = I p) : RepC J (actS S u) := by
  obtain ⟨h1, h2, h3, h4, h5, h6, h7, h8⟩ := h
  have e0 := e 0 (by omega)
  exact ⟨h1.eq (fun p _ _ => e p (by omega)), by rw [e0]; exact h2, h3.eq (e 2 (by omega)) (e 3 (by omega)), by rw [e0]; exact h4, hv, ha, h7.eq (fun p _ _ => e p (by omega)), h8.eq (e 22 (by omega)) (e 23 (by omega))⟩
theorem acK_ne {I : Nat → Nat → Int32} {s p : Nat} {x0 x1 x2 x3 x4 : Int32} (h1 : p ≠ 17) (h2 : p ≠ 18) : acK I s x0 x1 x2 x3 x4 p = I p := by
  funext j
  unfold acK
  split <;> simp [ac5, acSh, uI, uA, h1, h2]
