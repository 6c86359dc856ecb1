def FrP (I J : Nat → Nat → Int32) : Prop := ∀ p, p ≠ 2 → (p < 10 ∨ 15 < p) → J p = I p
theorem FrP.rf {I : Nat → Nat → Int32} : FrP I I := fun _ _ _ => rfl
theorem FrP.tr {I J K : Nat → Nat → Int32} (h1 : FrP I J) (h2 : FrP J K) : FrP I K := fun p a b => (h2 p a b).trans (h1 p a b)
theorem FrP.o {I J : Nat → Nat → Int32} (h : Fr [2] I J) : FrP I J := fun p a _ => Fr2 h a
theorem FrP.u {I : Nat → Nat → Int32} {p j : Nat} {x : Int32} (h1 : 10 ≤ p) (h2 : p ≤ 15) : FrP I (uI I p j x) := fun q _ h => uI_ne (by omega)
def Fr10 (I J : Nat → Nat → Int32) : Prop := ∀ p, p < 10 ∨ 15 < p → J p = I p
theorem Fr10.tr {I J K : Nat → Nat → Int32} (h1 : Fr10 I J) (h2 : Fr10 J K) : Fr10 I K := fun p a => (h2 p a).trans (h1 p a)
theorem Fr10.u {I : Nat → Nat → Int32} {p j : Nat} {x : Int32} (h1 : 10 ≤ p) (h2 : p ≤ 15) : Fr10 I (uI I p j x) := fun q h => uI_ne (by omega)
theorem Fr10.p {I J : Nat → Nat → Int32} (h : Fr10 I J) : FrP I J := fun p _ b => h p b
theorem RC.f10 {I J : Nat → Nat → Int32} {t : List Nat} {s : Ps} (h : RC I t s) (hF : Fr10 I J) : RC J t s := h.eq (hF 2 (by decide)) (hF 3 (by decide))
theorem CRep.f2 {I J : Nat → Nat → Int32} {v : Vv} (h : CRep I 10 v) (hF : Fr [2] I J) : CRep J 10 v := h.eq (fun i hi => Fr2 hF (by omega))
theorem CRep_addM0 {I J : Nat → Nat → Int32} {v : Vv} {c : Nat} (h : CRep I 10 v) (e : J = uI (uI (uI I 11 (vnm v) (nI c)) 12 (vnm v) (nI 0)) 10 5 (nI (vnm v + 1))) : CRep J 10 (addM v c []) := by
  obtain ⟨h1, h2, h3, h4⟩ := h
  subst e
  refine ⟨uI_eq, ?_, fun m hm => ?_, fun a ha f hf => ?_⟩
  · rw [uI_n2 (by decide), uI_ne (by decide), uI_ne (by decide)]; exact h2
  · by_cases e : m = vnm v
    · have e1 : vcl (addM v c []) m = c := if_pos e
      have e2 : vln (addM v c []) m = 0 := if_pos e
      rw [e1, e2]
      refine ⟨?_, ?_, fun i hi => absurd hi (Nat.not_lt_zero _)⟩
      · rw [e, uI_ne (by decide), uI_ne (by decide)]; exact uI_eq
      · rw [e, uI_ne (by decide)]; exact uI_eq
    · have hm : m < vnm v := by
        have : m < vnm v + 1 := hm
        omega
      have e1 : vcl (addM v c []) m = vcl v m := if_neg e
      have e2 : vln (addM v c []) m = vln v m := if_neg e
      rw [e1, e2]
      obtain ⟨g1, g2, g3⟩ := h3 m hm
      refine ⟨?_, ?_, fun i hi => ?_⟩
      · rw [uI_ne (by decide), uI_ne (by decide)]; exact (uI_n2 e).trans g1
      · rw [uI_ne (by decide)]; refine (uI_n2 e).trans ?_; rw [uI_ne (by decide)]; exact g2
      · have e3 : vso (addM v c []) m i = vso v m i := if_neg e
        have e4 : vop (addM v c []) m i = vop v m i := if_neg e
        rw [e3, e4, uI_ne (by decide), uI_ne (by decide), uI_ne (by decide), uI_ne (by decide), uI_ne (by decide), uI_ne (by decide)]
        exact g3 i hi
  · rw [uI_ne (by decide), uI_ne (by decide), uI_ne (by decide)]; exact h4 a ha f hf
theorem getD_app {l : List (Nat × Nat)} {y : Nat × Nat} {i : Nat} : (l ++ [y]).getD i (0, 0) = if i < l.length then l.getD i (0, 0) else if i = l.length then y else (0, 0) := by
  rw [List.getD_eq_getElem?_getD, List.getD_eq_getElem?_getD]
  by_cases h : i < l.length
  · rw [if_pos h, List.getElem?_append_left h]
  · rw [if_neg h]
    by_cases e : i = l.length
    · subst e; simp
    · rw [if_neg e, List.getElem?_eq_none (by simp; omega)]; rfl
theorem CRep_addS {I J : Nat → Nat → Int32} {v : Vv} {c s x : Nat} {l : List (Nat × Nat)} (h : CRep I 10 (addM v c l)) (hl : l.length < 4) (hv : VOk0 v) (e : J = uI (uI (uI I 13 (vnm v * 4 + l.length) (nI s)) 14 (vnm v * 4 + l.length) (nI x)) 12 (vnm v) (nI (l.length + 1))) : CRep J 10 (addM v c (l ++ [(s, x)])) := by
  obtain ⟨h1, h2, h3, h4⟩ := h
  have J13 : ∀ q, J (10 + 3) q = uI I 13 (vnm v * 4 + l.length) (nI s) 13 q := fun q => by subst e; simp [uI]
  have J14 : ∀ q, J (10 + 4) q = uI I 14 (vnm v * 4 + l.length) (nI x) 14 q := fun q => by subst e; simp [uI]
  have J12 : ∀ q, J (10 + 2) q = uI I 12 (vnm v) (nI (l.length + 1)) 12 q := fun q => by subst e; simp [uI]
  have J11 : J (10 + 1) = I 11 := by subst e; funext q; simp [uI]
  have J15 : J (10 + 5) = I 15 := by subst e; funext q; simp [uI]
  have J10 : J 10 = I 10 := by subst e; funext q; simp [uI]
  refine ⟨?_, ?_, fun m hm => ?_, fun a ha f hf => ?_⟩
  · rw [J10]; exact h1
  · rw [J10]; exact h2
  · obtain ⟨g1, g2, g3⟩ := h3 m hm
    by_cases e : m = vnm v
    · have e1 : ∀ l, vcl (addM v c l) m = c := fun l => if_pos e
      have e2 : ∀ l : List (Nat × Nat), vln (addM v c l) m = l.length := fun l => if_pos e
      rw [e1] at g1
      rw [e2] at g2 g3
      rw [e1, e2, List.length_append]
      refine ⟨?_, ?_, fun i hi => ?_⟩
      · rw [J11]; exact g1
      · rw [J12, e]; exact uI_eq
      · have e3 : ∀ l : List (Nat × Nat), vso (addM v c l) m i = (l.getD i (0, 0)).1 := fun l => if_pos e
        have e4 : ∀ l : List (Nat × Nat), vop (addM v c l) m i = (l.getD i (0, 0)).2 := fun l => if_pos e
        rw [e3, e4, getD_app, J13, J14]
        by_cases hi2 : i < l.length
        · have := g3 i hi2
          rw [e3, e4] at this
          rw [if_pos hi2]
          exact ⟨(uI_n2 (by omega)).trans this.1, (uI_n2 (by omega)).trans this.2⟩
        · have hi3 : i = l.length := by
            have : i < l.length + 1 := hi
            omega
          rw [if_neg hi2, if_pos hi3, e, hi3]
          exact ⟨uI_eq, uI_eq⟩
    · have hm2 : m < vnm v := by
        have : m < vnm v + 1 := hm
        omega
      have e1 : ∀ l, vcl (addM v c l) m = vcl v m := fun l => if_neg e
      have e2 : ∀ l : List (Nat × Nat), vln (addM v c l) m = vln v m := fun l => if_neg e
      rw [e1] at g1
      rw [e2] at g2 g3
      rw [e1, e2]
      have hl4 := (hv.2.2.1 m hm2).2.1
      refine ⟨?_, ?_, fun i hi => ?_⟩
      · rw [J11]; exact g1
      · rw [J12]; exact (uI_n2 e).trans g2
      · have e3 : ∀ l : List (Nat × Nat), vso (addM v c l) m i = vso v m i := fun l => if_neg e
        have e4 : ∀ l : List (Nat × Nat), vop (addM v c l) m i = vop v m i := fun l => if_neg e
        have := g3 i hi
        rw [e3, e4] at this
        have ne : m * 4 + i ≠ vnm v * 4 + l.length := by omega
        rw [e3, e4, J13, J14]
        exact ⟨(uI_n2 ne).trans this.1, (uI_n2 ne).trans this.2⟩
  · rw [J15]; exact h4 a ha f hf
/-- in the midst of reading advice: the first j facts are x's -/
def AM (J : Nat → Nat → Int32) (v : Vv) (x : Nat → Nat) (j : Nat) : Prop := J 10 5 = nI (vnm v) ∧ J 10 6 = nI (vna v + 1) ∧ (∀ m, m < vnm v → J 11 m = nI (vcl v m) ∧ J 12 m = nI (vln v m) ∧ ∀ i, i < vln v m → J 13 (m * 4 + i) = nI (vso v m i) ∧ J 14 (m * 4 + i) = nI (vop v m i)) ∧ (∀ a, a < vna v → ∀ f, f < 6 → J 15 (a * 6 + f) = nI (vfa v a f)) ∧ J 15 (vna v * 6 + 5) = nI (x 5) ∧ ∀ f, f < j → J 15 (vna v * 6 + f) = nI (x f)
theorem AM.f2 {I J : Nat → Nat → Int32} {v : Vv} {x : Nat → Nat} {j : Nat} (h : AM I v x j) (hF : Fr [2] I J) : AM J v x j := by
  unfold AM
  rw [Fr2 hF (show 10 ≠ 2 by decide), Fr2 hF (show 11 ≠ 2 by decide), Fr2 hF (show 12 ≠ 2 by decide), Fr2 hF (show 13 ≠ 2 by decide), Fr2 hF (show 14 ≠ 2 by decide), Fr2 hF (show 15 ≠ 2 by decide)]
  exact h
def upX (x : Nat → Nat) (j y : Nat) : Nat → Nat := fun f => if f = j then y else x f
theorem AM.put {I : Nat → Nat → Int32} {v : Vv} {x : Nat → Nat} {j y : Nat} (h : AM I v x j) (hj : j < 5) : AM (uI I 15 (vna v * 6 + j) (nI y)) v (upX x j y) (j + 1) := by
  obtain ⟨h1, h2, h3, h4, h5, h6⟩ := h
  unfold AM
  rw [uI_ne (show 10 ≠ 15 by decide), uI_ne (show 11 ≠ 15 by decide), uI_ne (show 12 ≠ 15 by decide), uI_ne (show 13 ≠ 15 by decide), uI_ne (show 14 ≠ 15 by decide)]
  refine ⟨h1, h2, h3, fun a ha f hf => ?_, ?_, fun f hf => ?_⟩
  · rw [uI_n2 (by omega)]; exact h4 a ha f hf
  · rw [uI_n2 (by omega), h5, upX, if_neg (by omega)]
  · by_cases e : f = j
    · subst e; rw [uI_eq, upX, if_pos rfl]
    · rw [uI_n2 (by omega), upX, if_neg e]; exact h6 f (by omega)
theorem AM.fin {J : Nat → Nat → Int32} {v : Vv} {x z : Nat → Nat} (h : AM J v x 5) (hz : ∀ f, f < 6 → x f = z f) : CRep J 10 (addA v z) := by
  obtain ⟨h1, h2, h3, h4, h5, h6⟩ := h
  refine ⟨h1, h2, h3, fun a ha f hf => ?_⟩
  by_cases e : a = vna v
  · have e1 : vfa (addA v z) a f = z f := if_pos e
    rw [e1, e, ← hz f hf]
    by_cases e5 : f = 5
    · subst e5; exact h5
    · exact h6 f (by omega)
  · have ha : a < vna v := by
      have : a < vna v + 1 := ha
      omega
    have e1 : vfa (addA v z) a f = vfa v a f := if_neg e
    rw [e1]
    exact h4 a ha f hf
theorem msS_n {t : List Nat} {k : Nat} {s : Ps} {v : Vv} (h : ¬ (s.1 = 0 ∧ chr t s.2 109 = true)) : msS t k s v = (s, v) := by
  cases k with
  | zero => rfl
  | succ k => rw [msS, if_neg h]
theorem msS_0 {t : List Nat} : ∀ (k : Nat) (s : Ps) (v : Vv), (msS t k s v).1.1 = 0 → s.1 = 0 := by
  intro k s v h
  by_cases z : s.1 = 0
  · exact z
  · rw [msS_n (fun y => z y.1)] at h; exact h
theorem msS_up {t : List Nat} : ∀ (k : Nat) (s : Ps) (v : Vv), vnm v ≤ vnm (msS t k s v).2 := by
  intro k
  induction k with
  | zero => intro s v; exact Nat.le_refl _
  | succ k ih =>
    intro s v
    rw [msS]
    split
    · refine Nat.le_trans ?_ (ih _ _)
      unfold mvS
      split
      · show vnm v ≤ vnm v + 1; omega
      · exact Nat.le_refl _
    · exact Nat.le_refl _
theorem asS_n {t : List Nat} {k : Nat} {s : Ps} {v : Vv} (h : ¬ (s.1 = 0 ∧ ¬ kdN t s.2 = 0)) : asS_ t k s v = (s, v) := by
  cases k with
  | zero => rfl
  | succ k => rw [asS_, if_neg h]

set_option maxRecDepth 100000 in
set_option maxHeartbeats 400000 in
theorem c_addMethod {d k : Nat} {I : Nat → Nat → Int32} {Q : Option Int32 → Wd → Prop} {v : Vv} {c : Nat} (hC : CRep I 10 v) (hn : vnm v < 6) (h : ∀ J, Fr10 I J → CRep J 10 (addM v c []) → Q none (J, RR k)) : Ex d 0 0 mX5_addMethod [.ref 10, .int (nI c)] 68 (I, RR k) 68 Q := by
  have hW := wv10 k
  obtain ⟨w0, ⟨w1, w1s⟩, ⟨w2, w2s⟩, w3, w4, w5⟩ := id hW
  refine ex_intro (L0 := [.ref 10, .int (nI c)]) (by decide +kernel) rfl rfl (Nat.le_of_ble_eq_true rfl) rfl ?_
  refine g_aload_n (q := 1) dX5_addMethod_0 rfl rfl ?_
  refine gf_X5_27 (q := 4) rfl (by first | assumption | rfl) dX5_addMethod_1 rfl ?_
  rw [hC.1]
  refine g_bipush (q := 6) (v := nI 6) dX5_addMethod_4 rfl (by decide) ?_
  refine g_icmp_ge (tgt := 39) (q := 9) dX5_addMethod_6 (by decide) rfl (fun c6 => absurd c6 (nI_ge (by omega) (by omega))) (fun _ => ?_)
  refine g_aload_n (q := 10) dX5_addMethod_9 rfl rfl ?_
  refine gf_X5_9 (q := 13) rfl (by first | assumption | rfl) (by first | assumption | rfl) dX5_addMethod_10 rfl ?_
  refine g_aload_n (q := 14) dX5_addMethod_13 rfl rfl ?_
  refine gf_X5_27 (q := 17) rfl (by first | assumption | rfl) dX5_addMethod_14 rfl ?_
  rw [hC.1]
  refine g_iload_n (q := 18) dX5_addMethod_17 rfl rfl ?_
  refine g_iastn (q := 19) (by first | assumption | rfl) (by repeat' first | apply nI_a | apply nI_m | exact rfl) (by omega) dX5_addMethod_18 rfl ?_
  refine g_aload_n (q := 20) dX5_addMethod_19 rfl rfl ?_
  refine gf_X5_15 (q := 23) rfl (by first | assumption | rfl) (by first | assumption | rfl) dX5_addMethod_20 rfl ?_
  refine g_aload_n (q := 24) dX5_addMethod_23 rfl rfl ?_
  refine gf_X5_27 (q := 27) rfl (by first | assumption | rfl) dX5_addMethod_24 rfl ?_
  rw [uI_ne (by decide), hC.1]
  refine g_iconst (q := 28) (v := nI 0) dX5_addMethod_27 rfl (by decide) ?_
  refine g_iastn (q := 29) (by first | assumption | rfl) (by repeat' first | apply nI_a | apply nI_m | exact rfl) (by omega) dX5_addMethod_28 rfl ?_
  refine g_aload_n (q := 30) dX5_addMethod_29 rfl rfl ?_
  refine g_dup (q := 31) dX5_addMethod_30 rfl rfl ?_
  refine gf_X5_27 (q := 34) rfl (by first | assumption | rfl) dX5_addMethod_31 rfl ?_
  rw [uI_ne (by decide), uI_ne (by decide), hC.1]
  refine g_iconst (q := 35) (v := nI 1) dX5_addMethod_34 rfl (by decide) ?_
  refine g_iadd (q := 36) dX5_addMethod_35 rfl ?_
  rw [nI_add]
  refine pf_X5_27 (q := 39) rfl (by first | assumption | rfl) dX5_addMethod_36 rfl ?_
  refine g_vret rfl dX5_addMethod_39 (Nat.le_refl _) (Nat.le_refl _) ?_
  exact h _ (Fr10.tr (Fr10.tr (Fr10.u (by decide) (by decide)) (Fr10.u (by decide) (by decide))) (Fr10.u (by decide) (by decide))) (CRep_addM0 hC rfl)
set_option maxRecDepth 100000 in
set_option maxHeartbeats 400000 in
theorem c_addStatement {d k : Nat} {I : Nat → Nat → Int32} {Q : Option Int32 → Wd → Prop} {v : Vv} {c s x : Nat} {l : List (Nat × Nat)} (hC : CRep I 10 (addM v c l)) (hv : VOk0 v) (hn : vnm v < 6) (hl : l.length < 4) (h : ∀ J, Fr10 I J → CRep J 10 (addM v c (l ++ [(s, x)])) → Q none (J, RR k)) : Ex (d + 1) 0 0 mX5_addStatement [.ref 10, .int (nI s), .int (nI x)] 68 (I, RR k) 68 Q := by
  have hW := wv10 k
  obtain ⟨w0, ⟨w1, w1s⟩, ⟨w2, w2s⟩, w3, w4, w5⟩ := id hW
  have m1 : I 10 5 = nI (vnm v + 1) := hC.1
  have m2 : I 12 (vnm v) = nI l.length := by
    have := (hC.2.2.1 (vnm v) (show vnm v < vnm v + 1 by omega)).2.1
    rw [show vln (addM v c l) (vnm v) = l.length from if_pos rfl] at this
    exact this
  refine ex_intro (L0 := [.ref 10, .int (nI s), .int (nI x), .null]) (by decide +kernel) rfl rfl (Nat.le_of_ble_eq_true rfl) rfl ?_
  refine g_aload_n (q := 1) dX5_addStatement_0 rfl rfl ?_
  refine gf_X5_27 (q := 4) rfl (by first | assumption | rfl) dX5_addStatement_1 rfl ?_
  rw [m1]
  refine g_iconst (q := 5) (v := nI 1) dX5_addStatement_4 rfl (by decide) ?_
  refine g_isub (q := 6) dX5_addStatement_5 rfl ?_
  rw [show nI (vnm v + 1) - nI 1 = nI (vnm v) from nI_pred _]
  refine g_istore_n (q := 7) dX5_addStatement_6 rfl (by decide) rfl rfl ?_
  refine g_iload_n (q := 8) dX5_addStatement_7 rfl rfl ?_
  refine g_if_lt (tgt := 44) (q := 11) dX5_addStatement_8 (by decide) rfl (fun c8 => absurd c8 (nI_pos (by omega))) (fun _ => ?_)
  refine g_aload_n (q := 12) dX5_addStatement_11 rfl rfl ?_
  refine gf_X5_15 (q := 15) rfl (by first | assumption | rfl) (by first | assumption | rfl) dX5_addStatement_12 rfl ?_
  refine g_iload_n (q := 16) dX5_addStatement_15 rfl rfl ?_
  refine g_ialdn (q := 17) (by first | assumption | rfl) (by repeat' first | apply nI_a | apply nI_m | exact rfl) (by omega) dX5_addStatement_16 rfl ?_
  rw [m2]
  refine g_iconst (q := 18) (v := nI 4) dX5_addStatement_17 rfl (by decide) ?_
  refine g_icmp_ge (tgt := 44) (q := 21) dX5_addStatement_18 (by decide) rfl (fun c18 => absurd c18 (nI_ge (by omega) (by omega))) (fun _ => ?_)
  refine g_aload_n (q := 22) dX5_addStatement_21 rfl rfl ?_
  refine g_iload_n (q := 23) dX5_addStatement_22 rfl rfl ?_
  refine g_aload_n (q := 24) dX5_addStatement_23 rfl rfl ?_
  refine gf_X5_15 (q := 27) rfl (by first | assumption | rfl) (by first | assumption | rfl) dX5_addStatement_24 rfl ?_
  refine g_iload_n (q := 28) dX5_addStatement_27 rfl rfl ?_
  refine g_ialdn (q := 29) (by first | assumption | rfl) (by repeat' first | apply nI_a | apply nI_m | exact rfl) (by omega) dX5_addStatement_28 rfl ?_
  rw [m2]
  refine g_iload_n (q := 30) dX5_addStatement_29 rfl rfl ?_
  refine g_iload_n (q := 31) dX5_addStatement_30 rfl rfl ?_
  refine k_X5_48 (q := 34) rfl (Nat.le_of_ble_eq_true rfl) (by first | assumption | rfl) dX5_addStatement_31 rfl (c_X5_putStatement hW (by omega) (by omega) ?_)
  refine g_aload_n (q := 35) dX5_addStatement_34 rfl rfl ?_
  refine gf_X5_15 (q := 38) rfl (by first | assumption | rfl) (by first | assumption | rfl) dX5_addStatement_35 rfl ?_
  refine g_iload_n (q := 39) dX5_addStatement_38 rfl rfl ?_
  refine g_dup2 (q := 40) dX5_addStatement_39 rfl rfl rfl ?_
  refine g_ialdn (q := 41) (by first | assumption | rfl) (by repeat' first | apply nI_a | apply nI_m | exact rfl) (by omega) dX5_addStatement_40 rfl ?_
  rw [uI_ne (by decide), uI_ne (by decide), m2]
  refine g_iconst (q := 42) (v := nI 1) dX5_addStatement_41 rfl (by decide) ?_
  refine g_iadd (q := 43) dX5_addStatement_42 rfl ?_
  rw [nI_add]
  refine g_iastn (q := 44) (by first | assumption | rfl) (by repeat' first | apply nI_a | apply nI_m | exact rfl) (by omega) dX5_addStatement_43 rfl ?_
  refine g_vret rfl dX5_addStatement_44 (Nat.le_refl _) (Nat.le_refl _) ?_
  exact h _ (Fr10.tr (Fr10.tr (Fr10.u (by decide) (by decide)) (Fr10.u (by decide) (by decide))) (Fr10.u (by decide) (by decide))) (CRep_addS hC hl hv rfl)
set_option maxRecDepth 100000 in
set_option maxHeartbeats 400000 in
theorem c_addAdvice {d k : Nat} {I : Nat → Nat → Int32} {Q : Option Int32 → Wd → Prop} {v : Vv} {c : Nat} (hC : CRep I 10 v) (hn : vna v < 5) (h : ∀ J, Fr10 I J → AM J v (fun _ => c) 0 → Q (some (nI (vna v))) (J, RR k)) : Ex (d + 1) 0 0 mX5_addAdvice [.ref 10, .int (nI c)] 68 (I, RR k) 68 Q := by
  have hW := wv10 k
  obtain ⟨h1, h2, h3, h4⟩ := id hC
  refine ex_intro (L0 := [.ref 10, .int (nI c), .null]) (by decide +kernel) rfl rfl (Nat.le_of_ble_eq_true rfl) rfl ?_
  refine g_aload_n (q := 1) dX5_addAdvice_0 rfl rfl ?_
  refine gf_X5_31 (q := 4) rfl (by first | assumption | rfl) dX5_addAdvice_1 rfl ?_
  rw [h2]
  refine g_iconst (q := 5) (v := nI 4) dX5_addAdvice_4 rfl (by decide) ?_
  refine ma_X5_52 (q := 8) rfl (Nat.le_of_ble_eq_true rfl) dX5_addAdvice_5 rfl ?_
  rw [show (if nI 4 < nI (vna v) then nI 4 else nI (vna v)) = nI (vna v) from if_neg (nI_nlt (by omega) (by omega))]
  refine g_istore_n (q := 9) dX5_addAdvice_8 rfl (by decide) rfl rfl ?_
  refine g_aload_n (q := 10) dX5_addAdvice_9 rfl rfl ?_
  refine g_iload_n (q := 11) dX5_addAdvice_10 rfl rfl ?_
  refine g_iconst (q := 12) (v := nI 5) dX5_addAdvice_11 rfl (by decide) ?_
  refine g_iload_n (q := 13) dX5_addAdvice_12 rfl rfl ?_
  refine k_X5_44 (q := 16) rfl (Nat.le_of_ble_eq_true rfl) (by first | assumption | rfl) dX5_addAdvice_13 rfl (c_X5_putFact hW hn (by decide) ?_)
  refine g_aload_n (q := 17) dX5_addAdvice_16 rfl rfl ?_
  refine g_iload_n (q := 18) dX5_addAdvice_17 rfl rfl ?_
  refine g_iconst (q := 19) (v := nI 1) dX5_addAdvice_18 rfl (by decide) ?_
  refine g_iadd (q := 20) dX5_addAdvice_19 rfl ?_
  rw [nI_add]
  refine pf_X5_31 (q := 23) rfl (by first | assumption | rfl) dX5_addAdvice_20 rfl ?_
  refine g_iload_n (q := 24) dX5_addAdvice_23 rfl rfl ?_
  refine g_iret rfl dX5_addAdvice_24 (Nat.le_refl _) (Nat.le_refl _) ?_
  refine h _ (Fr10.tr (Fr10.u (by decide) (by decide)) (Fr10.u (by decide) (by decide))) ⟨?_, uI_eq, fun m hm => ?_, fun a ha f hf => ?_, ?_, fun f hf => absurd hf (Nat.not_lt_zero _)⟩
  · rw [uI_n2 (by decide), uI_ne (by decide)]; exact h1
  · rw [uI_ne (show 11 ≠ 10 by decide), uI_ne (show 11 ≠ 10 + 5 by decide), uI_ne (show 12 ≠ 10 by decide), uI_ne (show 12 ≠ 10 + 5 by decide), uI_ne (show 13 ≠ 10 by decide), uI_ne (show 13 ≠ 10 + 5 by decide), uI_ne (show 14 ≠ 10 by decide), uI_ne (show 14 ≠ 10 + 5 by decide)]
    exact h3 m hm
  · rw [uI_ne (by decide)]; exact (uI_n2 (by omega)).trans (h4 a ha f hf)
  · rw [uI_ne (by decide)]; exact uI_eq
set_option maxRecDepth 100000 in
set_option maxHeartbeats 400000 in
theorem c_X4_readStatement {d k : Nat} {I : Nat → Nat → Int32} {Q : Option Int32 → Wd → Prop} {t : List Nat} {s : Ps} {v : Vv} {c : Nat} {l : List (Nat × Nat)} (hR : RC I t s) (hs : s.1 = 0) (hC : CRep I 10 (addM v c l)) (hv : VOk0 v) (hn : vnm v < 6) (hl : l.length ≤ 4) (h1 : l.length < 4 → soN t s.2 < 3 → ∀ J, FrP I J → RC J t (s2S t s) → ((s2S t s).1 = 0 → CRep J 10 (addM v c (l ++ [(soN t s.2, tkV t (nxt t s.2))]))) → Q none (J, RR k)) (h0 : ¬ (l.length < 4 ∧ soN t s.2 < 3) → ∀ J, FrP I J → RC J t (1, s.2) → Q none (J, RR k)) : Ex (d + 5) 0 0 mX4_readStatement [.ref 2, .ref 10, .int (nI l.length)] 68 (I, RR k) 68 Q := by
  obtain ⟨r1, r2, r3, r4, r5, r6⟩ := id hR
  have h130 := r1.2.1
  have hb := r1.b s.2
  have hnx := nxt_le r5
  obtain ⟨q1, q2, q3⟩ := r6 hs
  refine ex_intro (L0 := [.ref 2, .ref 10, .int (nI l.length), .null, .null, .null]) (by decide +kernel) rfl rfl (Nat.le_of_ble_eq_true rfl) rfl ?_
  refine g_aload_n (q := 1) dX4_readStatement_0 rfl rfl ?_
  refine gf_X4_25 (q := 4) rfl (by first | assumption | rfl) dX4_readStatement_1 rfl ?_
  rw [q2]
  refine k_X4_79 (q := 7) rfl (Nat.le_of_ble_eq_true rfl) dX4_readStatement_4 rfl (c_X4_sortOf ?_)
  rw [soI_t hb]
  refine g_istore_n (q := 8) dX4_readStatement_7 rfl (by decide) rfl rfl ?_
  refine g_iload_n (q := 9) dX4_readStatement_8 rfl rfl ?_
  refine g_iconst (q := 10) (v := nI 4) dX4_readStatement_9 rfl (by decide) ?_
  refine g_icmp_ge (tgt := 17) (q := 13) dX4_readStatement_10 (by decide) rfl (fun c10 => ?_) (fun c10 => ?_)
  · refine g_aload_n (q := 18) dX4_readStatement_17 rfl rfl ?_
    refine g_iconst (q := 19) (v := nI 1) dX4_readStatement_18 rfl (by decide) ?_
    refine k_X4_53 (q := 22) rfl (Nat.le_of_ble_eq_true rfl) (by first | assumption | rfl) dX4_readStatement_19 rfl (c_X4_faultBy hR (by decide) (fun J g1 g2 => ?_))
    refine g_vret rfl dX4_readStatement_22 (Nat.le_refl _) (Nat.le_refl _) ?_
    rw [show muS false 1 s = (1, s.2) from if_pos ⟨hs, rfl⟩] at g2
    exact h0 (fun z => absurd ((nI_leI (by omega) (by omega)).mp c10) (by omega)) J (FrP.o g1) g2
  · refine g_iload_n (q := 14) dX4_readStatement_13 rfl rfl ?_
    refine g_if_ge (tgt := 23) (q := 17) dX4_readStatement_14 (by decide) rfl (fun c14 => ?_) (fun c14 => ?_)
    · have hl4 : l.length < 4 := by
        have : ¬ 4 ≤ l.length := fun z => c10 (nI_le z (by omega))
        omega
      have h3 : soN t s.2 < 3 := by
        apply Decidable.byContradiction
        intro z
        rw [if_neg z] at c14
        exact absurd c14 (by decide)
      rw [if_pos h3]
      refine g_aload_n (q := 24) dX4_readStatement_23 rfl rfl ?_
      refine k_X4_39 (q := 27) rfl (Nat.le_of_ble_eq_true rfl) (by first | assumption | rfl) dX4_readStatement_24 rfl (c_X4_step r1 hnx q1 (by rw [r3, hs]) (fun J0 f0 g0 => ?_))
      have hC0 := hC.f2 f0
      have e3 : soN t s.2 = 0 ∨ soN t s.2 = 1 ∨ soN t s.2 = 2 := by omega
      rcases e3 with e3 | e3 | e3
      · rw [e3]
        refine g_iload_n (q := 28) dX4_readStatement_27 rfl rfl ?_
        refine g_iconst (q := 29) (v := nI 1) dX4_readStatement_28 rfl (by decide) ?_
        refine g_icmp_ne (tgt := 36) (q := 32) dX4_readStatement_29 (by decide) rfl (fun _ => ?_) (fun c29 => absurd c29 (by decide))
        refine g_iconst (q := 37) (v := nI 1) dX4_readStatement_36 rfl (by decide) ?_
        refine g_istore (q := 39) dX4_readStatement_37 rfl (by decide) rfl rfl ?_
        refine g_iload_n (q := 40) dX4_readStatement_39 rfl rfl ?_
        refine g_if_ne (tgt := 48) (q := 43) dX4_readStatement_40 (by decide) rfl (fun c40 => absurd c40 (by decide)) (fun _ => ?_)
        refine g_bipush (q := 45) (v := nI 99) dX4_readStatement_43 rfl (by decide) ?_
        refine g_goto (q := 59) dX4_readStatement_45 (by decide) ?_
        refine g_istore (q := 61) dX4_readStatement_59 rfl (by decide) rfl rfl ?_
        refine g_aload_n (q := 62) dX4_readStatement_61 rfl rfl ?_
        refine g_iload_n (q := 63) dX4_readStatement_62 rfl rfl ?_
        refine g_aload_n (q := 64) dX4_readStatement_63 rfl rfl ?_
        refine g_iload (q := 66) dX4_readStatement_64 rfl rfl ?_
        refine g_iload (q := 68) dX4_readStatement_66 rfl rfl ?_
        refine k_X4_65 (q := 71) rfl (Nat.le_of_ble_eq_true rfl) (by first | assumption | rfl) dX4_readStatement_68 rfl (c_X4_readNumber g0 (by decide) (by decide) (fun J1 x f1 g1 x1 x2 x3 => ?_))
        refine k_X4_82 (q := 74) rfl (Nat.le_of_ble_eq_true rfl) (by first | assumption | rfl) dX4_readStatement_71 rfl (c_addStatement (hC0.f2 f1) hv hn hl4 (fun J2 f2 g2 => ?_))
        refine g_vret rfl dX4_readStatement_74 (Nat.le_refl _) (Nat.le_refl _) ?_
        refine h1 hl4 h3 J2 ((FrP.o f0).tr ((FrP.o f1).tr f2.p)) ?_ (fun hz => ?_)
        · unfold s2S; rw [e3]; exact g1.f10 f2
        · unfold s2S at hz
          rw [e3] at hz ⊢
          rw [← x3 hz]
          exact g2
      · rw [e3]
        refine g_iload_n (q := 28) dX4_readStatement_27 rfl rfl ?_
        refine g_iconst (q := 29) (v := nI 1) dX4_readStatement_28 rfl (by decide) ?_
        refine g_icmp_ne (tgt := 36) (q := 32) dX4_readStatement_29 (by decide) rfl (fun c29 => absurd c29 (by decide)) (fun _ => ?_)
        refine g_iconst (q := 33) (v := nI 0) dX4_readStatement_32 rfl (by decide) ?_
        refine g_goto (q := 37) dX4_readStatement_33 (by decide) ?_
        refine g_istore (q := 39) dX4_readStatement_37 rfl (by decide) rfl rfl ?_
        refine g_iload_n (q := 40) dX4_readStatement_39 rfl rfl ?_
        refine g_if_ne (tgt := 48) (q := 43) dX4_readStatement_40 (by decide) rfl (fun _ => ?_) (fun c40 => absurd c40 (by decide))
        refine g_iload_n (q := 49) dX4_readStatement_48 rfl rfl ?_
        refine g_iconst (q := 50) (v := nI 1) dX4_readStatement_49 rfl (by decide) ?_
        refine g_icmp_ne (tgt := 57) (q := 53) dX4_readStatement_50 (by decide) rfl (fun c50 => absurd c50 (by decide)) (fun _ => ?_)
        refine g_iconst (q := 54) (v := nI 5) dX4_readStatement_53 rfl (by decide) ?_
        refine g_goto (q := 59) dX4_readStatement_54 (by decide) ?_
        refine g_istore (q := 61) dX4_readStatement_59 rfl (by decide) rfl rfl ?_
        refine g_aload_n (q := 62) dX4_readStatement_61 rfl rfl ?_
        refine g_iload_n (q := 63) dX4_readStatement_62 rfl rfl ?_
        refine g_aload_n (q := 64) dX4_readStatement_63 rfl rfl ?_
        refine g_iload (q := 66) dX4_readStatement_64 rfl rfl ?_
        refine g_iload (q := 68) dX4_readStatement_66 rfl rfl ?_
        refine k_X4_65 (q := 71) rfl (Nat.le_of_ble_eq_true rfl) (by first | assumption | rfl) dX4_readStatement_68 rfl (c_X4_readNumber g0 (by decide) (by decide) (fun J1 x f1 g1 x1 x2 x3 => ?_))
        refine k_X4_82 (q := 74) rfl (Nat.le_of_ble_eq_true rfl) (by first | assumption | rfl) dX4_readStatement_71 rfl (c_addStatement (hC0.f2 f1) hv hn hl4 (fun J2 f2 g2 => ?_))
        refine g_vret rfl dX4_readStatement_74 (Nat.le_refl _) (Nat.le_refl _) ?_
        refine h1 hl4 h3 J2 ((FrP.o f0).tr ((FrP.o f1).tr f2.p)) ?_ (fun hz => ?_)
        · unfold s2S; rw [e3]; exact g1.f10 f2
        · unfold s2S at hz
          rw [e3] at hz ⊢
          rw [← x3 hz]
          exact g2
      · rw [e3]
        refine g_iload_n (q := 28) dX4_readStatement_27 rfl rfl ?_
        refine g_iconst (q := 29) (v := nI 1) dX4_readStatement_28 rfl (by decide) ?_
        refine g_icmp_ne (tgt := 36) (q := 32) dX4_readStatement_29 (by decide) rfl (fun _ => ?_) (fun c29 => absurd c29 (by decide))
        refine g_iconst (q := 37) (v := nI 1) dX4_readStatement_36 rfl (by decide) ?_
        refine g_istore (q := 39) dX4_readStatement_37 rfl (by decide) rfl rfl ?_
        refine g_iload_n (q := 40) dX4_readStatement_39 rfl rfl ?_
        refine g_if_ne (tgt := 48) (q := 43) dX4_readStatement_40 (by decide) rfl (fun _ => ?_) (fun c40 => absurd c40 (by decide))
        refine g_iload_n (q := 49) dX4_readStatement_48 rfl rfl ?_
        refine g_iconst (q := 50) (v := nI 1) dX4_readStatement_49 rfl (by decide) ?_
        refine g_icmp_ne (tgt := 57) (q := 53) dX4_readStatement_50 (by decide) rfl (fun _ => ?_) (fun c50 => absurd c50 (by decide))
        refine g_bipush (q := 59) (v := nI 9) dX4_readStatement_57 rfl (by decide) ?_
        refine g_istore (q := 61) dX4_readStatement_59 rfl (by decide) rfl rfl ?_
        refine g_aload_n (q := 62) dX4_readStatement_61 rfl rfl ?_
        refine g_iload_n (q := 63) dX4_readStatement_62 rfl rfl ?_
        refine g_aload_n (q := 64) dX4_readStatement_63 rfl rfl ?_
        refine g_iload (q := 66) dX4_readStatement_64 rfl rfl ?_
        refine g_iload (q := 68) dX4_readStatement_66 rfl rfl ?_
        refine k_X4_65 (q := 71) rfl (Nat.le_of_ble_eq_true rfl) (by first | assumption | rfl) dX4_readStatement_68 rfl (c_X4_readNumber g0 (by decide) (by decide) (fun J1 x f1 g1 x1 x2 x3 => ?_))
        refine k_X4_82 (q := 74) rfl (Nat.le_of_ble_eq_true rfl) (by first | assumption | rfl) dX4_readStatement_71 rfl (c_addStatement (hC0.f2 f1) hv hn hl4 (fun J2 f2 g2 => ?_))
        refine g_vret rfl dX4_readStatement_74 (Nat.le_refl _) (Nat.le_refl _) ?_
        refine h1 hl4 h3 J2 ((FrP.o f0).tr ((FrP.o f1).tr f2.p)) ?_ (fun hz => ?_)
        · unfold s2S; rw [e3]; exact g1.f10 f2
        · unfold s2S at hz
          rw [e3] at hz ⊢
          rw [← x3 hz]
          exact g2
    · refine g_aload_n (q := 18) dX4_readStatement_17 rfl rfl ?_
      refine g_iconst (q := 19) (v := nI 1) dX4_readStatement_18 rfl (by decide) ?_
      refine k_X4_53 (q := 22) rfl (Nat.le_of_ble_eq_true rfl) (by first | assumption | rfl) dX4_readStatement_19 rfl (c_X4_faultBy hR (by decide) (fun J g1 g2 => ?_))
      refine g_vret rfl dX4_readStatement_22 (Nat.le_refl _) (Nat.le_refl _) ?_
      rw [show muS false 1 s = (1, s.2) from if_pos ⟨hs, rfl⟩] at g2
      exact h0 (fun z => by rw [if_pos z.2] at c14; exact c14 (nI_pos' (by omega))) J (FrP.o g1) g2
set_option maxRecDepth 100000 in
set_option maxHeartbeats 400000 in
theorem l_rdm {d k : Nat} {I : Nat → Nat → Int32} {Q : Option Int32 → Wd → Prop} {t : List Nat} {v : Vv} {c : Nat} (hv : VOk0 v) (hn : vnm v < 6) {fin : Ps × List (Nat × Nat)} (hfin : ∀ J, FrP I J → RC J t (tkS t (chr t fin.1.2 59) 1 fin.1) → ((tkS t (chr t fin.1.2 59) 1 fin.1).1 = 0 → CRep J 10 (addM v c fin.2)) → Q none (J, RR k)) : ∀ (n i : Nat) (W : Nat → Nat → Int32) (s : Ps) (l : List (Nat × Nat)), i + n = 4 → stS t n s l = fin → FrP I W → RC W t s → (s.1 = 0 → l.length = i ∧ CRep W 10 (addM v c l)) → G mX4_readMethod (rmd (d + 6) 0 0) (Zm Q 68 68 0 0) 68 46 [.ref 2, .ref 10, .int (nI i)] [] 68 (W, RR k) 0 0 := by
  have tail : ∀ (i : Nat) (W : Nat → Nat → Int32) (s : Ps) (l : List (Nat × Nat)), fin = (s, l) → FrP I W → RC W t s → (s.1 = 0 → CRep W 10 (addM v c l)) → G mX4_readMethod (rmd (d + 6) 0 0) (Zm Q 68 68 0 0) 68 79 [.ref 2, .ref 10, .int (nI i)] [] 68 (W, RR k) 0 0 := by
    intro i W s l hf hF hR hC
    subst hf
    refine g_aload_n (q := 80) dX4_readMethod_79 rfl rfl ?_
    refine g_bipush (q := 82) (v := nI 59) dX4_readMethod_80 rfl (by decide) ?_
    refine k_X4_76 (q := 85) rfl (Nat.le_of_ble_eq_true rfl) (by first | assumption | rfl) dX4_readMethod_82 rfl (c_X4_skip hR (by decide) (fun J g1 g2 => ?_))
    refine g_vret rfl dX4_readMethod_85 (Nat.le_refl _) (Nat.le_refl _) ?_
    exact hfin J (hF.tr (FrP.o g1)) g2 (fun z => (hC (tkS_0 (by decide) z).1).f2 g1)
  have bad' : ∀ (i : Nat) (W : Nat → Nat → Int32) (s : Ps) (l : List (Nat × Nat)), fin = (s, l) → FrP I W → RC W t s → s.1 = 0 → l.length = i → CRep W 10 (addM v c l) → ¬ chr t s.2 59 = true → ∀ W2, FrP I W2 → RC W2 t (1, s.2) → G mX4_readMethod (rmd (d + 6) 0 0) (Zm Q 68 68 0 0) 68 79 [.ref 2, .ref 10, .int (nI (i + 1))] [] 68 (W2, RR k) 0 0 := by
    intro i W s l hf hF hR hs hl hC hch W2 hF2 hR2
    subst hf
    refine g_aload_n (q := 80) dX4_readMethod_79 rfl rfl ?_
    refine g_bipush (q := 82) (v := nI 59) dX4_readMethod_80 rfl (by decide) ?_
    refine k_X4_76 (q := 85) rfl (Nat.le_of_ble_eq_true rfl) (by first | assumption | rfl) dX4_readMethod_82 rfl (c_X4_skip hR2 (by decide) (fun J g1 g2 => ?_))
    refine g_vret rfl dX4_readMethod_85 (Nat.le_refl _) (Nat.le_refl _) ?_
    rw [tkS_n (show ¬ ((1, s.2) : Ps).1 = 0 from Nat.one_ne_zero)] at g2
    have e : tkS t (chr t s.2 59) 1 s = (1, s.2) := by unfold tkS; rw [if_pos hs, if_neg hch]
    refine hfin J (hF2.tr (FrP.o g1)) ?_ ?_
    · show RC J t (tkS t (chr t s.2 59) 1 s); rw [e]; exact g2
    · show (tkS t (chr t s.2 59) 1 s).1 = 0 → _; rw [e]; exact fun z => absurd z Nat.one_ne_zero
  intro n
  induction n with
  | zero =>
    intro i W s l hi hf hF hR hC
    have hi : i = 4 := by omega
    obtain ⟨r1, r2, r3, r4, r5, r6⟩ := id hR
    have hb := r1.b s.2
    refine g_iload_n (q := 47) dX4_readMethod_46 rfl rfl ?_
    refine g_iconst (q := 48) (v := nI 4) dX4_readMethod_47 rfl (by decide) ?_
    refine g_icmp_gt (tgt := 79) (q := 51) dX4_readMethod_48 (by decide) rfl (fun c48 => absurd c48 (nI_nlt (by omega) (by omega))) (fun _ => ?_)
    refine g_aload_n (q := 52) dX4_readMethod_51 rfl rfl ?_
    refine gf_X4_31 (q := 55) rfl (by first | assumption | rfl) dX4_readMethod_52 rfl ?_
    rw [r3]
    refine g_if_ne (tgt := 79) (q := 58) dX4_readMethod_55 (by decide) rfl (fun c55 => ?_) (fun c55 => ?_)
    · have hs : ¬ s.1 = 0 := fun z => c55 (by rw [z]; rfl)
      exact tail _ W s l (by rw [← hf]; rfl) hF hR (fun z => absurd z hs)
    · have hs : s.1 = 0 := (nI_eq (b := 0) (by omega) (by omega)).mp c55
      obtain ⟨q1, q2, q3⟩ := r6 hs
      obtain ⟨hl2, hC2⟩ := hC hs
      subst hl2
      refine g_aload_n (q := 59) dX4_readMethod_58 rfl rfl ?_
      refine gf_X4_25 (q := 62) rfl (by first | assumption | rfl) dX4_readMethod_59 rfl ?_
      rw [q2]
      refine g_bipush (q := 64) (v := nI 59) dX4_readMethod_62 rfl (by decide) ?_
      refine g_icmp_eq (tgt := 79) (q := 67) dX4_readMethod_64 (by decide) rfl (fun c64 => ?_) (fun c64 => ?_)
      · exact tail _ W s l (by rw [← hf]; rfl) hF hR (fun _ => hC2)
      · have hch : ¬ chr t s.2 59 = true := fun z => c64 ((tkJ_chr hb (by decide)).mpr z)
        refine g_aload_n (q := 68) dX4_readMethod_67 rfl rfl ?_
        refine g_aload_n (q := 69) dX4_readMethod_68 rfl rfl ?_
        refine g_iload_n (q := 70) dX4_readMethod_69 rfl rfl ?_
        refine k_X4_72 (q := 73) rfl (Nat.le_of_ble_eq_true rfl) (by first | assumption | rfl) dX4_readMethod_70 rfl (c_X4_readStatement hR hs hC2 hv hn (by omega) (fun y1 y2 J y3 y4 y5 => ?_) (fun y1 J y3 y4 => ?_))
        · refine g_iincn (q := 76) dX4_readMethod_73 rfl rfl (by decide) rfl rfl ?_
          refine g_goto (q := 46) dX4_readMethod_76 (by decide) ?_
          exact absurd y1 (by omega)
        · refine g_iincn (q := 76) dX4_readMethod_73 rfl rfl (by decide) rfl rfl ?_
          refine g_goto (q := 46) dX4_readMethod_76 (by decide) ?_
          obtain ⟨b1, b2, b3, b4, b5, b6⟩ := id y4
          refine g_iload_n (q := 47) dX4_readMethod_46 rfl rfl ?_
          refine g_iconst (q := 48) (v := nI 4) dX4_readMethod_47 rfl (by decide) ?_
          refine g_icmp_gt (tgt := 79) (q := 51) dX4_readMethod_48 (by decide) rfl (fun c48 => ?_) (fun c48 => ?_)
          · exact bad' _ W s l (by rw [← hf]; rfl) hF hR hs rfl hC2 hch J (hF.tr y3) y4
          · refine g_aload_n (q := 52) dX4_readMethod_51 rfl rfl ?_
            refine gf_X4_31 (q := 55) rfl (by first | assumption | rfl) dX4_readMethod_52 rfl ?_
            rw [b3]
            refine g_if_ne (tgt := 79) (q := 58) dX4_readMethod_55 (by decide) rfl (fun _ => ?_) (fun c55 => absurd c55 (show ¬ nI 1 = 0 by decide))
            exact bad' _ W s l (by rw [← hf]; rfl) hF hR hs rfl hC2 hch J (hF.tr y3) y4
  | succ n ih =>
    intro i W s l hi hf hF hR hC
    obtain ⟨r1, r2, r3, r4, r5, r6⟩ := id hR
    have hb := r1.b s.2
    refine g_iload_n (q := 47) dX4_readMethod_46 rfl rfl ?_
    refine g_iconst (q := 48) (v := nI 4) dX4_readMethod_47 rfl (by decide) ?_
    refine g_icmp_gt (tgt := 79) (q := 51) dX4_readMethod_48 (by decide) rfl (fun c48 => absurd c48 (nI_nlt (by omega) (by omega))) (fun _ => ?_)
    refine g_aload_n (q := 52) dX4_readMethod_51 rfl rfl ?_
    refine gf_X4_31 (q := 55) rfl (by first | assumption | rfl) dX4_readMethod_52 rfl ?_
    rw [r3]
    refine g_if_ne (tgt := 79) (q := 58) dX4_readMethod_55 (by decide) rfl (fun c55 => ?_) (fun c55 => ?_)
    · have hs : ¬ s.1 = 0 := fun z => c55 (by rw [z]; rfl)
      exact tail _ W s l (by rw [← hf, stS_n hs]) hF hR (fun z => absurd z hs)
    · have hs : s.1 = 0 := (nI_eq (b := 0) (by omega) (by omega)).mp c55
      obtain ⟨q1, q2, q3⟩ := r6 hs
      obtain ⟨hl2, hC2⟩ := hC hs
      subst hl2
      refine g_aload_n (q := 59) dX4_readMethod_58 rfl rfl ?_
      refine gf_X4_25 (q := 62) rfl (by first | assumption | rfl) dX4_readMethod_59 rfl ?_
      rw [q2]
      refine g_bipush (q := 64) (v := nI 59) dX4_readMethod_62 rfl (by decide) ?_
      refine g_icmp_eq (tgt := 79) (q := 67) dX4_readMethod_64 (by decide) rfl (fun c64 => ?_) (fun c64 => ?_)
      · exact tail _ W s l (by rw [← hf, stS, if_neg (fun z => by have h5 := soN_1 z.2; rw [(chr_iff.mp ((tkJ_chr hb (by decide)).mp c64)).2] at h5; have h6 := z.2; rw [← h5.2] at h6; exact absurd h6 (by decide))]) hF hR (fun _ => hC2)
      · have hch : ¬ chr t s.2 59 = true := fun z => c64 ((tkJ_chr hb (by decide)).mpr z)
        refine g_aload_n (q := 68) dX4_readMethod_67 rfl rfl ?_
        refine g_aload_n (q := 69) dX4_readMethod_68 rfl rfl ?_
        refine g_iload_n (q := 70) dX4_readMethod_69 rfl rfl ?_
        refine k_X4_72 (q := 73) rfl (Nat.le_of_ble_eq_true rfl) (by first | assumption | rfl) dX4_readMethod_70 rfl (c_X4_readStatement hR hs hC2 hv hn (by omega) (fun y1 y2 J y3 y4 y5 => ?_) (fun y1 J y3 y4 => ?_))
        · refine g_iincn (q := 76) dX4_readMethod_73 rfl rfl (by decide) rfl rfl ?_
          refine g_goto (q := 46) dX4_readMethod_76 (by decide) ?_
          refine ih (l.length + 1) J (s2S t s) (if (s2S t s).1 = 0 then l ++ [(soN t s.2, tkV t (nxt t s.2))] else l) (by omega) ?_ (hF.tr y3) y4 (fun z => ?_)
          · rw [← hf, stS]; exact (if_pos ⟨hs, y2⟩).symm
          · rw [if_pos z]
            exact ⟨by rw [List.length_append]; simp, y5 z⟩
        · refine g_iincn (q := 76) dX4_readMethod_73 rfl rfl (by decide) rfl rfl ?_
          refine g_goto (q := 46) dX4_readMethod_76 (by decide) ?_
          obtain ⟨b1, b2, b3, b4, b5, b6⟩ := id y4
          refine g_iload_n (q := 47) dX4_readMethod_46 rfl rfl ?_
          refine g_iconst (q := 48) (v := nI 4) dX4_readMethod_47 rfl (by decide) ?_
          refine g_icmp_gt (tgt := 79) (q := 51) dX4_readMethod_48 (by decide) rfl (fun c48 => ?_) (fun c48 => ?_)
          · exact bad' _ W s l (by rw [← hf, stS, if_neg (fun z => y1 ⟨by omega, z.2⟩)]) hF hR hs rfl hC2 hch J (hF.tr y3) y4
          · refine g_aload_n (q := 52) dX4_readMethod_51 rfl rfl ?_
            refine gf_X4_31 (q := 55) rfl (by first | assumption | rfl) dX4_readMethod_52 rfl ?_
            rw [b3]
            refine g_if_ne (tgt := 79) (q := 58) dX4_readMethod_55 (by decide) rfl (fun _ => ?_) (fun c55 => absurd c55 (show ¬ nI 1 = 0 by decide))
            exact bad' _ W s l (by rw [← hf, stS, if_neg (fun z => y1 ⟨by omega, z.2⟩)]) hF hR hs rfl hC2 hch J (hF.tr y3) y4
set_option maxRecDepth 100000 in
set_option maxHeartbeats 400000 in
theorem c_X4_readMethod {d k : Nat} {I : Nat → Nat → Int32} {Q : Option Int32 → Wd → Prop} {t : List Nat} {s : Ps} {v : Vv} (hR : RC I t s) (hs : s.1 = 0) (hC : CRep I 10 v) (hv : VOk0 v) (h1 : chr t s.2 109 = true → ∀ J, FrP I J → RC J t (m4S t (vnm v) s) → ((m4S t (vnm v) s).1 = 0 → CRep J 10 (mvS t s v)) → Q none (J, RR k)) (h0 : ¬ chr t s.2 109 = true → ∀ J, FrP I J → RC J t (1, s.2) → Q none (J, RR k)) : Ex (d + 6) 0 0 mX4_readMethod [.ref 2, .ref 10] 68 (I, RR k) 68 Q := by
  obtain ⟨r1, r2, r3, r4, r5, r6⟩ := id hR
  have h130 := r1.2.1
  have hb := r1.b s.2
  have hnx := nxt_le r5
  obtain ⟨q1, q2, q3⟩ := r6 hs
  have hn6 := hv.1
  have hW := wv10 k
  refine ex_intro (L0 := [.ref 2, .ref 10, .null]) (by decide +kernel) rfl rfl (Nat.le_of_ble_eq_true rfl) rfl ?_
  refine g_aload_n (q := 1) dX4_readMethod_0 rfl rfl ?_
  refine gf_X4_25 (q := 4) rfl (by first | assumption | rfl) dX4_readMethod_1 rfl ?_
  rw [q2]
  refine g_bipush (q := 6) (v := nI 109) dX4_readMethod_4 rfl (by decide) ?_
  refine g_icmp_eq (tgt := 15) (q := 9) dX4_readMethod_6 (by decide) rfl (fun c6 => ?_) (fun c6 => ?_)
  · have hch : chr t s.2 109 = true := (tkJ_chr hb (by decide)).mp c6
    refine g_aload_n (q := 16) dX4_readMethod_15 rfl rfl ?_
    refine k_X4_61 (q := 19) rfl (Nat.le_of_ble_eq_true rfl) (by first | assumption | rfl) dX4_readMethod_16 rfl (c_X5_methods hW ?_)
    rw [hC.1]
    refine g_bipush (q := 21) (v := nI 6) dX4_readMethod_19 rfl (by decide) ?_
    refine g_icmp_lt (tgt := 30) (q := 24) dX4_readMethod_21 (by decide) rfl (fun c21 => ?_) (fun c21 => ?_)
    · have hn : vnm v < 6 := (nI_ltI (by omega) (by omega)).mp c21
      refine g_aload_n (q := 31) dX4_readMethod_30 rfl rfl ?_
      refine k_X4_39 (q := 34) rfl (Nat.le_of_ble_eq_true rfl) (by first | assumption | rfl) dX4_readMethod_31 rfl (c_X4_step r1 hnx q1 (by rw [r3, hs]) (fun J0 f0 g0 => ?_))
      have e1 : m1S t (vnm v) s = (0, nxt t s.2) := by unfold m1S tkS; rw [if_pos hs, if_pos (decide_eq_true hn)]
      rw [← e1] at g0
      refine g_aload_n (q := 35) dX4_readMethod_34 rfl rfl ?_
      refine g_aload_n (q := 36) dX4_readMethod_35 rfl rfl ?_
      refine g_iconst (q := 37) (v := nI 0) dX4_readMethod_36 rfl (by decide) ?_
      refine g_iconst (q := 38) (v := nI 3) dX4_readMethod_37 rfl (by decide) ?_
      refine k_X4_65 (q := 41) rfl (Nat.le_of_ble_eq_true rfl) (by first | assumption | rfl) dX4_readMethod_38 rfl (c_X4_readNumber g0 (by decide) (by decide) (fun J1 x f1 g1 x1 x2 x3 => ?_))
      refine k_X4_69 (q := 44) rfl (Nat.le_of_ble_eq_true rfl) (by first | assumption | rfl) dX4_readMethod_41 rfl (c_addMethod ((hC.f2 f0).f2 f1) hn (fun J2 f2 g2 => ?_))
      refine g_iconst (q := 45) (v := nI 0) dX4_readMethod_44 rfl (by decide) ?_
      refine g_istore_n (q := 46) dX4_readMethod_45 rfl (by decide) rfl rfl ?_
      refine l_rdm (fin := m3S t (vnm v) s) (c := x) hv hn (fun J y1 y2 y3 => ?_) 4 0 J2 (m2S t (vnm v) s) [] rfl rfl ((FrP.o f0).tr ((FrP.o f1).tr f2.p)) (g1.f10 f2) (fun _ => ⟨rfl, g2⟩)
      refine h1 hch J y1 y2 (fun z => ?_)
      have zz : (m4S t (vnm v) s).1 = 0 := z
      have z2 := stS_0 _ _ _ (tkS_0 (by decide) zz).1
      unfold mvS
      rw [if_pos zz, ← x3 z2]
      exact y3 z
    · refine g_aload_n (q := 25) dX4_readMethod_24 rfl rfl ?_
      refine g_iconst (q := 26) (v := nI 3) dX4_readMethod_25 rfl (by decide) ?_
      refine k_X4_53 (q := 29) rfl (Nat.le_of_ble_eq_true rfl) (by first | assumption | rfl) dX4_readMethod_26 rfl (c_X4_faultBy hR (by decide) (fun J g1 g2 => ?_))
      refine g_vret rfl dX4_readMethod_29 (Nat.le_refl _) (Nat.le_refl _) ?_
      rw [show muS false 3 s = (3, s.2) from if_pos ⟨hs, rfl⟩] at g2
      have hn : ¬ vnm v < 6 := fun z => c21 (nI_lt z (by omega))
      have n3 : ¬ ((3, s.2) : Ps).1 = 0 := by show ¬ (3 : Nat) = 0; decide
      have e1 : m1S t (vnm v) s = (3, s.2) := by unfold m1S tkS; rw [if_pos hs, if_neg (by simp [hn])]
      have e4 : m4S t (vnm v) s = (3, s.2) := by
        unfold m4S m3S m2S
        rw [e1, nmS_n n3, stS_n n3, tkS_n n3]
      refine h1 hch J (FrP.o g1) (by rw [e4]; exact g2) (fun z => ?_)
      rw [e4] at z
      exact absurd z n3
  · refine g_aload_n (q := 10) dX4_readMethod_9 rfl rfl ?_
    refine g_iconst (q := 11) (v := nI 1) dX4_readMethod_10 rfl (by decide) ?_
    refine k_X4_53 (q := 14) rfl (Nat.le_of_ble_eq_true rfl) (by first | assumption | rfl) dX4_readMethod_11 rfl (c_X4_faultBy hR (by decide) (fun J g1 g2 => ?_))
    refine g_vret rfl dX4_readMethod_14 (Nat.le_refl _) (Nat.le_refl _) ?_
    rw [show muS false 1 s = (1, s.2) from if_pos ⟨hs, rfl⟩] at g2
    exact h0 (fun z => c6 ((tkJ_chr hb (by decide)).mpr z)) J (FrP.o g1) g2
