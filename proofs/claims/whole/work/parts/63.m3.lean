/-- a row that holds the same 92 numbers holds the same weave -/
theorem MRep.of {I J : Nat → Nat → Int32} {p a q b : Nat} {v : Vv} (h : MRep I p a v) (hV : VOk v) (e : ∀ j, j < 92 → J q (b + j) = I p (a + j)) : MRep J q b v := by
  obtain ⟨h1, h2, h3, h4⟩ := h
  obtain ⟨v1, v2, v3, v4⟩ := hV
  refine ⟨(e 0 (by decide)).trans h1, (e 1 (by decide)).trans h2, fun m hm => ⟨?_, ?_, fun i hi => ⟨?_, ?_⟩⟩, fun c hc => ⟨?_, fun f hf => ?_⟩⟩
  · rw [e _ (by omega)]; exact (h3 m hm).1
  · rw [e _ (by omega)]; exact (h3 m hm).2.1
  · have := (v3 m hm).2.1; rw [e _ (by omega)]; exact ((h3 m hm).2.2 i hi).1
  · have := (v3 m hm).2.1; rw [e _ (by omega)]; exact ((h3 m hm).2.2 i hi).2
  · rw [e _ (by omega)]; exact (h4 c hc).1
  · rw [e _ (by omega)]; exact (h4 c hc).2 f hf
theorem MPast.to {I J : Nat → Nat → Int32} {o p : Nat} : ∀ (n : Nat) (us : List Vv), MPast I o n us → (∀ j, j < 92 * n → J 61 (92 * p + j) = I 61 (92 * o + j)) → MPast J p n us := by
  intro n
  induction n with
  | zero => intro us h _; exact h
  | succ n ih =>
    intro us h e
    obtain ⟨u, t, h1, h2, h3, h4⟩ := h
    refine ⟨u, t, h1, h2.of h3 (fun j hj => ?_), h3, ih t h4 (fun j hj => e j (by omega))⟩
    have := e (92 * n + j) (by omega)
    rw [show 92 * (p + n) + j = 92 * p + (92 * n + j) by omega, show 92 * (o + n) + j = 92 * o + (92 * n + j) by omega]
    exact this
theorem MPast.drop {I : Nat → Nat → Int32} {o : Nat} : ∀ (n : Nat) (us : List Vv), MPast I o (n + 1) us → MPast I (o + 1) n (us.take n) := by
  intro n
  induction n with
  | zero => intro us _; rfl
  | succ n ih =>
    intro us h
    obtain ⟨u, t, h1, h2, h3, h4⟩ := h
    refine ⟨u, t.take n, by rw [h1]; rfl, ?_, h3, ih t h4⟩
    have : o + 1 + n = o + (n + 1) := by omega
    rw [this]
    exact h2
theorem MActs.push {I J : Nat → Nat → Int32} {v : Vv} {us : List Vv} {s : Nat} (h : MActs I us) (hV : VOk v) (hM : MRep I 58 0 v) (hs : s = if us.length = 16 then 15 else us.length) (e1 : J 52 17 = nI (s + 1))
    (e2 : ∀ j, j < 92 * s → J 61 j = if us.length = 16 then I 61 (j + 92) else I 61 j) (e3 : ∀ j, j < 92 → J 61 (92 * s + j) = I 58 j) : MActs J ((v :: us).take 16) := by
  obtain ⟨h1, h2, h3⟩ := h
  have ev : MRep J 61 (92 * s) v := hM.of hV (fun j hj => by rw [Nat.zero_add]; exact e3 j hj)
  by_cases hl : us.length = 16
  · rw [if_pos hl] at hs
    subst hs
    have ht : (v :: us).take 16 = v :: us.take 15 := rfl
    rw [ht]
    have hlt : (us.take 15).length = 15 := by rw [List.length_take]; omega
    refine ⟨by rw [List.length_cons, hlt]; exact e1, by simp [hlt], ?_⟩
    rw [List.length_cons, hlt]
    rw [hl] at h3
    refine ⟨v, us.take 15, rfl, by rw [Nat.zero_add]; exact ev, hV, MPast.to (o := 1) (p := 0) _ _ (MPast.drop 15 us h3) (fun j hj => ?_)⟩
    rw [Nat.mul_zero, Nat.zero_add, e2 j hj, if_pos hl, Nat.add_comm]
  · rw [if_neg hl] at hs
    subst hs
    rw [List.take_of_length_le (by simp; omega)]
    refine ⟨e1, by simp; omega, v, us, rfl, by rw [Nat.zero_add]; exact ev, hV, MPast.to (o := 0) (p := 0) _ _ h3 (fun j hj => ?_)⟩
    rw [Nat.mul_zero, Nat.zero_add, e2 j hj, if_neg hl]
theorem RepM.act {I J : Nat → Nat → Int32} {S : Sg} {u : Vv} (h : RepM I S) (hv : MRep J 58 0 u ∧ VOk u) (ha : MActs J ((gv S :: S.2.2.2.2.2.1).take 16)) (e : ∀ p, p ≠ 52 → p ≠ 58 → p ≠ 61 → J p = I p) (f : ∀ j, j ≠ 17 → J 52 j = I 52 j) : RepM J (actS S u) := by
  obtain ⟨h1, h2, h3, h4, h5, h6, h7, h8⟩ := h
  have E : ∀ p, (p ≠ 52 ∧ p ≠ 58 ∧ p ≠ 61) → J p = I p := fun p hp => e p hp.1 hp.2.1 hp.2.2
  exact ⟨h1.eq (E 53 (by decide)) (E 54 (by decide)) (E 55 (by decide)), ⟨(f 4 (by decide)).trans h2.1, h2.2⟩, h3.eq (f 6 (by decide)) (E 57 (by decide)), ⟨(f 7 (by decide)).trans h4.1, h4.2⟩, hv, ha, h7.eq (E 62 (by decide)) (E 63 (by decide)), h8.eq (f 31 (by decide)) (E 67 (by decide))⟩

set_option maxRecDepth 100000 in
set_option maxHeartbeats 400000 in
theorem c_copies {d k p a q b N M : Nat} {I : Nat → Nat → Int32} {Q : Option Int32 → Wd → Prop} (hsp : shn 68 p = (1, N)) (hsq : shn 68 q = (1, M)) (hpq : p ≠ q) (ha : a + 92 ≤ N) (hb : b + 92 ≤ M) (h : Q none (cpI I p a q b 92, RR k)) : Ex d 0 0 mX7_copies [.ref p, .int (nI a), .ref q, .int (nI b)] 68 (I, RR k) 68 Q := by
  have hN := shn_small hsp
  have hM := shn_small hsq
  refine ex_intro (L0 := [.ref p, .int (nI a), .ref q, .int (nI b), .null]) (by decide +kernel) rfl rfl (Nat.le_of_ble_eq_true rfl) rfl ?_
  refine g_iconst (q := 1) (v := nI 0) dX7_copies_0 rfl (by decide) ?_
  refine g_istore (q := 3) dX7_copies_1 rfl (by decide) rfl rfl ?_
  suffices hl : ∀ (t i : Nat), i + t = 92 → G mX7_copies (rmd d 0 0) (Zm Q 68 68 0 0) 68 3 [.ref p, .int (nI a), .ref q, .int (nI b), .int (nI i)] [] 68 (cpI I p a q b i, RR k) 0 0 by
    have := hl 92 0 rfl
    rw [cpI_0] at this
    exact this
  intro t
  induction t with
  | zero =>
    intro i hi
    have hi : i = 92 := by omega
    subst hi
    refine g_iload (q := 5) dX7_copies_3 rfl rfl ?_
    refine g_bipush (q := 7) (v := nI 92) dX7_copies_5 rfl (by decide) ?_
    refine g_icmp_ge (tgt := 28) (q := 10) dX7_copies_7 (by decide) rfl (fun _ => ?_) (fun c7 => absurd (nI_le (by omega) (by omega)) c7)
    refine g_vret rfl dX7_copies_28 (Nat.le_refl _) (Nat.le_refl _) ?_
    exact h
  | succ t ih =>
    intro i hi
    refine g_iload (q := 5) dX7_copies_3 rfl rfl ?_
    refine g_bipush (q := 7) (v := nI 92) dX7_copies_5 rfl (by decide) ?_
    refine g_icmp_ge (tgt := 28) (q := 10) dX7_copies_7 (by decide) rfl (fun c7 => absurd c7 (nI_ge (by omega) (by omega))) (fun _ => ?_)
    refine g_aload_n (q := 11) dX7_copies_10 rfl rfl ?_
    refine g_iload_n (q := 12) dX7_copies_11 rfl rfl ?_
    refine g_iload (q := 14) dX7_copies_12 rfl rfl ?_
    refine g_iadd (q := 15) dX7_copies_14 rfl ?_
    refine g_aload_n (q := 16) dX7_copies_15 rfl rfl ?_
    refine g_iload_n (q := 17) dX7_copies_16 rfl rfl ?_
    refine g_iload (q := 19) dX7_copies_17 rfl rfl ?_
    refine g_iadd (q := 20) dX7_copies_19 rfl ?_
    refine g_ialdn (q := 21) (by first | assumption | rfl) (by repeat' first | apply nI_a | apply nI_m | exact rfl) (by omega) dX7_copies_20 rfl ?_
    rw [cpI_ne hpq]
    refine g_iastn (q := 22) (by first | assumption | rfl) (by repeat' first | apply nI_a | apply nI_m | exact rfl) (by omega) dX7_copies_21 rfl ?_
    rw [cpI_s]
    refine g_iincn (q := 25) dX7_copies_22 rfl rfl (by decide) rfl rfl ?_
    refine g_goto (q := 3) dX7_copies_25 (by decide) ?_
    exact ih (i + 1) (by omega)
/-- the past, but for its first weave, comes to the front: its first k numbers -/
def shP (I : Nat → Nat → Int32) (k : Nat) : Nat → Nat → Int32 := fun z j => if z = 61 ∧ j < k then I 61 (j + 92) else I z j
theorem shP_s {I : Nat → Nat → Int32} {k : Nat} : uI (shP I k) 61 k (I 61 (k + 92)) = shP I (k + 1) := by
  funext z j
  simp only [uI, shP]
  by_cases h1 : z = 61
  · by_cases h2 : j = k
    · have : j < k + 1 := by omega
      rw [if_pos ⟨h1, h2⟩, if_pos ⟨h1, this⟩, h2]
    · by_cases h3 : j < k
      · have : j < k + 1 := by omega
        rw [if_neg (fun z => h2 z.2), if_pos ⟨h1, h3⟩, if_pos ⟨h1, this⟩]
      · have : ¬ j < k + 1 := by omega
        rw [if_neg (fun z => h2 z.2), if_neg (fun z => h3 z.2), if_neg (fun z => this z.2)]
  · rw [if_neg (fun z => h1 z.1), if_neg (fun z => h1 z.1), if_neg (fun z => h1 z.1)]
theorem shP_0 {I : Nat → Nat → Int32} : shP I 0 = I := by
  funext z j
  unfold shP
  rw [if_neg (by omega)]
theorem shP_ge {I : Nat → Nat → Int32} {k j : Nat} (h : k ≤ j) : shP I k 61 j = I 61 j := by
  unfold shP
  rw [if_neg (by omega)]
theorem shP_ne {I : Nat → Nat → Int32} {k p : Nat} (h : p ≠ 61) : shP I k p = I p := by
  funext j
  unfold shP
  rw [if_neg (fun z => h z.1)]

set_option maxRecDepth 100000 in
set_option maxHeartbeats 400000 in
theorem l_notes {d k s : Nat} {L : List Value} {I : Nat → Nat → Int32} {Q : Option Int32 → Wd → Prop} (hs : s < 16) (hL : L = [.ref 52, .null] ∨ L = [.ref 52, .int (nI 1380)]) (h7 : I 52 17 = nI s) (h : Q none (uI (cpI I 58 0 61 (92 * s) 92) 52 17 (nI (s + 1)), RR k)) : G mX7_notes (rmd (d + 1) 0 0) (Zm Q 68 68 0 0) 68 49 L [] 68 (I, RR k) 0 0 := by
  rcases hL with rfl | rfl
  · refine g_aload_n (q := 50) dX7_notes_49 rfl rfl ?_
    refine gf_X7_25 (q := 53) rfl (by first | assumption | rfl) (by first | assumption | rfl) dX7_notes_50 rfl ?_
    refine g_iconst (q := 54) (v := nI 0) dX7_notes_53 rfl (by decide) ?_
    refine g_aload_n (q := 55) dX7_notes_54 rfl rfl ?_
    refine gf_X7_34 (q := 58) rfl (by first | assumption | rfl) (by first | assumption | rfl) dX7_notes_55 rfl ?_
    refine g_bipush (q := 60) (v := nI 92) dX7_notes_58 rfl (by decide) ?_
    refine g_aload_n (q := 61) dX7_notes_60 rfl rfl ?_
    refine gf_X7_155 (q := 64) rfl (by first | assumption | rfl) dX7_notes_61 rfl ?_
    rw [h7]
    refine g_imul (q := 65) dX7_notes_64 rfl ?_
    rw [show nI 92 * nI s = nI (92 * s) from nI_m rfl rfl]
    refine k_X7_151 (q := 68) rfl (Nat.le_of_ble_eq_true rfl) dX7_notes_65 rfl (c_copies rfl rfl (by decide) (by omega) (by omega) ?_)
    refine g_aload_n (q := 69) dX7_notes_68 rfl rfl ?_
    refine g_dup (q := 70) dX7_notes_69 rfl rfl ?_
    refine gf_X7_155 (q := 73) rfl (by first | assumption | rfl) dX7_notes_70 rfl ?_
    rw [cpI_ne (show 52 ≠ 61 by decide), h7]
    refine g_iconst (q := 74) (v := nI 1) dX7_notes_73 rfl (by decide) ?_
    refine g_iadd (q := 75) dX7_notes_74 rfl ?_
    rw [nI_add]
    refine pf_X7_155 (q := 78) rfl (by first | assumption | rfl) dX7_notes_75 rfl ?_
    refine g_vret rfl dX7_notes_78 (Nat.le_refl _) (Nat.le_refl _) ?_
    exact h
  · refine g_aload_n (q := 50) dX7_notes_49 rfl rfl ?_
    refine gf_X7_25 (q := 53) rfl (by first | assumption | rfl) (by first | assumption | rfl) dX7_notes_50 rfl ?_
    refine g_iconst (q := 54) (v := nI 0) dX7_notes_53 rfl (by decide) ?_
    refine g_aload_n (q := 55) dX7_notes_54 rfl rfl ?_
    refine gf_X7_34 (q := 58) rfl (by first | assumption | rfl) (by first | assumption | rfl) dX7_notes_55 rfl ?_
    refine g_bipush (q := 60) (v := nI 92) dX7_notes_58 rfl (by decide) ?_
    refine g_aload_n (q := 61) dX7_notes_60 rfl rfl ?_
    refine gf_X7_155 (q := 64) rfl (by first | assumption | rfl) dX7_notes_61 rfl ?_
    rw [h7]
    refine g_imul (q := 65) dX7_notes_64 rfl ?_
    rw [show nI 92 * nI s = nI (92 * s) from nI_m rfl rfl]
    refine k_X7_151 (q := 68) rfl (Nat.le_of_ble_eq_true rfl) dX7_notes_65 rfl (c_copies rfl rfl (by decide) (by omega) (by omega) ?_)
    refine g_aload_n (q := 69) dX7_notes_68 rfl rfl ?_
    refine g_dup (q := 70) dX7_notes_69 rfl rfl ?_
    refine gf_X7_155 (q := 73) rfl (by first | assumption | rfl) dX7_notes_70 rfl ?_
    rw [cpI_ne (show 52 ≠ 61 by decide), h7]
    refine g_iconst (q := 74) (v := nI 1) dX7_notes_73 rfl (by decide) ?_
    refine g_iadd (q := 75) dX7_notes_74 rfl ?_
    rw [nI_add]
    refine pf_X7_155 (q := 78) rfl (by first | assumption | rfl) dX7_notes_75 rfl ?_
    refine g_vret rfl dX7_notes_78 (Nat.le_refl _) (Nat.le_refl _) ?_
    exact h
set_option maxRecDepth 100000 in
set_option maxHeartbeats 400000 in
theorem c_X7_notes {d k : Nat} {I : Nat → Nat → Int32} {Q : Option Int32 → Wd → Prop} {S : Sg} (hr : RepM I S) (h : ∀ I2, MActs I2 ((gv S :: S.2.2.2.2.2.1).take 16) → (∀ p, p ≠ 52 → p ≠ 61 → I2 p = I p) → (∀ j, j ≠ 17 → I2 52 j = I 52 j) → Q none (I2, RR k)) : Ex (d + 1) 0 0 mX7_notes [.ref 52] 68 (I, RR k) 68 Q := by
  have hVg : VOk (gv S) := hr.2.2.2.2.1.2
  have hMg : MRep I 58 0 (gv S) := hr.2.2.2.2.1.1
  obtain ⟨v1, v2, v3, v4⟩ := id hVg
  obtain ⟨a1, a2, a3⟩ := id hr.2.2.2.2.2.1
  refine ex_intro (L0 := [.ref 52, .null]) (by decide +kernel) rfl rfl (Nat.le_of_ble_eq_true rfl) rfl ?_
  refine g_aload_n (q := 1) dX7_notes_0 rfl rfl ?_
  refine gf_X7_155 (q := 4) rfl (by first | assumption | rfl) dX7_notes_1 rfl ?_
  rw [a1]
  refine g_bipush (q := 6) (v := nI 16) dX7_notes_4 rfl (by decide) ?_
  refine g_icmp_ne (tgt := 49) (q := 9) dX7_notes_6 (by decide) rfl (fun c6 => ?_) (fun c6 => ?_)
  · have hl : ¬ S.2.2.2.2.2.1.length = 16 := fun z => c6 (by rw [z])
    refine l_notes (s := S.2.2.2.2.2.1.length) (by omega) (Or.inl rfl) a1 (h _ (MActs.push (s := S.2.2.2.2.2.1.length) hr.2.2.2.2.2.1 hVg hMg (by rw [if_neg hl]) uI_eq (fun j hj => ?_) (fun j hj => ?_)) (fun p h1 h2 => ?_) (fun j hj => ?_))
    · rw [if_neg hl, uI_ne (by decide), cpI, if_neg (by omega)]
    · rw [uI_ne (by decide), cpI_eq hj, Nat.zero_add]
    · rw [uI_ne h1, cpI_ne h2]
    · have : uI (cpI I 58 0 61 (92 * S.2.2.2.2.2.1.length) 92) 52 17 (nI (S.2.2.2.2.2.1.length + 1)) 52 j = cpI I 58 0 61 (92 * S.2.2.2.2.2.1.length) 92 52 j := by simp [uI, hj]
      rw [this, cpI_ne (by decide)]
  · refine g_iconst (q := 10) (v := nI 0) dX7_notes_9 rfl (by decide) ?_
    refine g_istore_n (q := 11) dX7_notes_10 rfl (by decide) rfl rfl ?_
    have hl : S.2.2.2.2.2.1.length = 16 := (nI_eq (by omega) (by omega)).mp c6
    suffices hl2 : ∀ (t i : Nat), i + t = 1380 → G mX7_notes (rmd (d + 1) 0 0) (Zm Q 68 68 0 0) 68 11 [.ref 52, .int (nI i)] [] 68 (shP I i, RR k) 0 0 by
      have := hl2 1380 0 rfl
      rw [shP_0] at this
      exact this
    intro t
    induction t with
    | zero =>
      intro i hi
      have hi : i = 1380 := by omega
      subst hi
      refine g_iload_n (q := 12) dX7_notes_11 rfl rfl ?_
      refine g_sipush (q := 15) (v := nI 1380) dX7_notes_12 rfl (by decide) ?_
      refine g_icmp_ge (tgt := 39) (q := 18) dX7_notes_15 (by decide) rfl (fun _ => ?_) (fun c15 => absurd (nI_le (by omega) (by omega)) c15)
      refine g_aload_n (q := 40) dX7_notes_39 rfl rfl ?_
      refine g_dup (q := 41) dX7_notes_40 rfl rfl ?_
      refine gf_X7_155 (q := 44) rfl (by first | assumption | rfl) dX7_notes_41 rfl ?_
      rw [shP_ne (by decide), a1, hl]
      refine g_iconst (q := 45) (v := nI 1) dX7_notes_44 rfl (by decide) ?_
      refine g_isub (q := 46) dX7_notes_45 rfl ?_
      rw [show nI 16 - nI 1 = nI 15 by decide]
      refine pf_X7_155 (q := 49) rfl (by first | assumption | rfl) dX7_notes_46 rfl ?_
      refine l_notes (s := 15) (by omega) (Or.inr rfl) uI_eq (h _ (MActs.push (s := 15) hr.2.2.2.2.2.1 hVg hMg (by rw [if_pos hl]) uI_eq (fun j hj => ?_) (fun j hj => ?_)) (fun p h1 h2 => ?_) (fun j hj => ?_))
      · rw [if_pos hl, uI_ne (by decide), cpI, if_neg (by omega), uI_ne (by decide), shP, if_pos ⟨rfl, by omega⟩]
      · rw [uI_ne (by decide), cpI_eq hj, Nat.zero_add, uI_ne (by decide), shP_ne (by decide)]
      · rw [uI_ne h1, cpI_ne h2, uI_ne h1, shP_ne h2]
      · have e1 : ∀ (J : Nat → Nat → Int32) (x : Int32), uI J 52 17 x 52 j = J 52 j := fun J x => by simp [uI, hj]
        rw [e1, cpI_ne (by decide), e1, shP_ne (by decide)]
    | succ t ih =>
      intro i hi
      refine g_iload_n (q := 12) dX7_notes_11 rfl rfl ?_
      refine g_sipush (q := 15) (v := nI 1380) dX7_notes_12 rfl (by decide) ?_
      refine g_icmp_ge (tgt := 39) (q := 18) dX7_notes_15 (by decide) rfl (fun c15 => absurd c15 (nI_ge (by omega) (by omega))) (fun _ => ?_)
      refine g_aload_n (q := 19) dX7_notes_18 rfl rfl ?_
      refine gf_X7_34 (q := 22) rfl (by first | assumption | rfl) (by first | assumption | rfl) dX7_notes_19 rfl ?_
      refine g_iload_n (q := 23) dX7_notes_22 rfl rfl ?_
      refine g_aload_n (q := 24) dX7_notes_23 rfl rfl ?_
      refine gf_X7_34 (q := 27) rfl (by first | assumption | rfl) (by first | assumption | rfl) dX7_notes_24 rfl ?_
      refine g_iload_n (q := 28) dX7_notes_27 rfl rfl ?_
      refine g_bipush (q := 30) (v := nI 92) dX7_notes_28 rfl (by decide) ?_
      refine g_iadd (q := 31) dX7_notes_30 rfl ?_
      refine g_ialdn (q := 32) (by first | assumption | rfl) (by repeat' first | apply nI_a | apply nI_m | exact rfl) (by omega) dX7_notes_31 rfl ?_
      rw [shP_ge (by omega)]
      refine g_iastn (q := 33) (by first | assumption | rfl) (by repeat' first | apply nI_a | apply nI_m | exact rfl) (by omega) dX7_notes_32 rfl ?_
      rw [shP_s]
      refine g_iincn (q := 36) dX7_notes_33 rfl rfl (by decide) rfl rfl ?_
      refine g_goto (q := 11) dX7_notes_36 (by decide) ?_
      exact ih (i + 1) (by omega)
set_option maxRecDepth 100000 in
set_option maxHeartbeats 400000 in
theorem c_X7_becomes {d k : Nat} {I : Nat → Nat → Int32} {Q : Option Int32 → Wd → Prop} {S : Sg} {p : Nat} {x : Int32} (hr : RepM I S) (hp : p < 92) (h : ∀ I2, MActs I2 ((gv S :: S.2.2.2.2.2.1).take 16) → (∀ p, p ≠ 52 → p ≠ 58 → p ≠ 61 → I2 p = I p) → (∀ j, j ≠ 17 → I2 52 j = I 52 j) → I2 58 = (uI I 58 p x) 58 → Q (some (I 58 p)) (I2, RR k)) : Ex (d + 2) 0 0 mX7_becomes [.ref 52, .int (nI p), .int x] 68 (I, RR k) 68 Q := by
  refine ex_intro (L0 := [.ref 52, .int (nI p), .int x, .null]) (by decide +kernel) rfl rfl (Nat.le_of_ble_eq_true rfl) rfl ?_
  refine g_aload_n (q := 1) dX7_becomes_0 rfl rfl ?_
  refine k_X7_229 (q := 4) rfl (Nat.le_of_ble_eq_true rfl) (by first | assumption | rfl) dX7_becomes_1 rfl (c_X7_notes hr (fun J hJa hJe hJf => ?_))
  refine g_aload_n (q := 5) dX7_becomes_4 rfl rfl ?_
  refine gf_X7_25 (q := 8) rfl (by first | assumption | rfl) (by first | assumption | rfl) dX7_becomes_5 rfl ?_
  refine g_iload_n (q := 9) dX7_becomes_8 rfl rfl ?_
  refine g_ialdn (q := 10) (by first | assumption | rfl) (by repeat' first | apply nI_a | apply nI_m | exact rfl) (by omega) dX7_becomes_9 rfl ?_
  rw [hJe 58 (by decide) (by decide)]
  refine g_istore_n (q := 11) dX7_becomes_10 rfl (by decide) rfl rfl ?_
  refine g_aload_n (q := 12) dX7_becomes_11 rfl rfl ?_
  refine gf_X7_25 (q := 15) rfl (by first | assumption | rfl) (by first | assumption | rfl) dX7_becomes_12 rfl ?_
  refine g_iload_n (q := 16) dX7_becomes_15 rfl rfl ?_
  refine g_iload_n (q := 17) dX7_becomes_16 rfl rfl ?_
  refine g_iastn (q := 18) (by first | assumption | rfl) (by repeat' first | apply nI_a | apply nI_m | exact rfl) (by omega) dX7_becomes_17 rfl ?_
  refine g_iload_n (q := 19) dX7_becomes_18 rfl rfl ?_
  refine g_iret rfl dX7_becomes_19 (Nat.le_refl _) (Nat.le_refl _) ?_
  refine h _ (hJa.eq (by rw [uI_ne (by decide)]) (uI_ne (by decide))) (fun q h1 h2 h3 => ?_) (fun j hj => ?_) ?_
  · rw [uI_ne h2, hJe q h1 h3]
  · rw [uI_ne (by decide), hJf j hj]
  · funext j
    simp only [uI, hJe 58 (by decide) (by decide)]
/-- where the reference keeps a fact -/
def fx (a f : Nat) : Nat := if f = 5 then 62 + 6 * a else 62 + 6 * a + 1 + f
theorem MRep_setFa {I J : Nat → Nat → Int32} {p : Nat} {v : Vv} {a f x : Nat} (h : MRep I p 0 v) (hV : VOk v) (hf : f < 6) (e : J p = (uI I p (fx a f) (nI x)) p) : MRep J p 0 (setFa v a f x) := by
  obtain ⟨h1, h2, h3, h4⟩ := h
  obtain ⟨v1, v2, v3, v4⟩ := hV
  have hg : 62 ≤ fx a f := by unfold fx; split <;> omega
  have E : ∀ j, ¬ j = fx a f → J p j = I p j := fun j hj => by rw [e]; simp [uI, hj]
  refine ⟨(E 0 (by omega)).trans h1, (E 1 (by omega)).trans h2, fun m hm => ⟨?_, ?_, fun i hi => ⟨?_, ?_⟩⟩, fun c hc => ⟨?_, fun g hg => ?_⟩⟩
  · have hm : m < vnm v := hm
    rw [E _ (by omega)]; exact (h3 m hm).1
  · have hm : m < vnm v := hm
    rw [E _ (by omega)]; exact (h3 m hm).2.1
  · have hm : m < vnm v := hm
    have hi : i < vln v m := hi
    have := (v3 m hm).2.1; rw [E _ (by omega)]; exact ((h3 m hm).2.2 i hi).1
  · have hm : m < vnm v := hm
    have hi : i < vln v m := hi
    have := (v3 m hm).2.1; rw [E _ (by omega)]; exact ((h3 m hm).2.2 i hi).2
  · show J p (0 + (62 + 6 * c)) = nI (if c = a ∧ 5 = f then x else vfa v c 5)
    by_cases hz : c = a ∧ 5 = f
    · rw [if_pos hz, e]
      have : 0 + (62 + 6 * c) = fx a f := by unfold fx; rw [if_pos hz.2.symm]; omega
      rw [this, uI_eq]
    · rw [if_neg hz, E _ (by unfold fx; split <;> omega)]; exact (h4 c hc).1
  · show J p (0 + (62 + 6 * c + 1 + g)) = nI (if c = a ∧ g = f then x else vfa v c g)
    by_cases hz : c = a ∧ g = f
    · rw [if_pos hz, e]
      have : 0 + (62 + 6 * c + 1 + g) = fx a f := by unfold fx; rw [if_neg (by omega)]; omega
      rw [this, uI_eq]
    · rw [if_neg hz, E _ (by unfold fx; split <;> omega)]; exact (h4 c hc).2 g hg
theorem MRep_setCl {I J : Nat → Nat → Int32} {p : Nat} {v : Vv} {m x : Nat} (h : MRep I p 0 v) (hV : VOk v) (hm : m < vnm v) (e : J p = (uI I p (2 + 10 * m) (nI x)) p) : MRep J p 0 (setCl v m x) := by
  obtain ⟨h1, h2, h3, h4⟩ := h
  obtain ⟨v1, v2, v3, v4⟩ := hV
  have E : ∀ j, ¬ j = 2 + 10 * m → J p j = I p j := fun j hj => by rw [e]; simp [uI, hj]
  refine ⟨(E 0 (by omega)).trans h1, (E 1 (by omega)).trans h2, fun c hc => ⟨?_, ?_, fun i hi => ⟨?_, ?_⟩⟩, fun c hc => ⟨?_, fun g hg => ?_⟩⟩
  · show J p (0 + (2 + 10 * c)) = nI (if c = m then x else vcl v c)
    by_cases hz : c = m
    · rw [if_pos hz, e, hz, Nat.zero_add, uI_eq]
    · rw [if_neg hz, E _ (by omega)]; exact (h3 c hc).1
  · rw [E _ (by omega)]; exact (h3 c hc).2.1
  · have hc : c < vnm v := hc
    have hi : i < vln v c := hi
    have := (v3 c hc).2.1; rw [E _ (by omega)]; exact ((h3 c hc).2.2 i hi).1
  · have hc : c < vnm v := hc
    have hi : i < vln v c := hi
    have := (v3 c hc).2.1; rw [E _ (by omega)]; exact ((h3 c hc).2.2 i hi).2
  · rw [E _ (by omega)]; exact (h4 c hc).1
  · rw [E _ (by omega)]; exact (h4 c hc).2 g hg
theorem MRep_setSt {I J : Nat → Nat → Int32} {p : Nat} {v : Vv} {m i s x : Nat} (h : MRep I p 0 v) (hV : VOk v) (hm : m < vnm v) (hi : i < vln v m) (e : J p = (uI (uI I p (2 + 10 * m + 2 + 2 * i) (nI s)) p (2 + 10 * m + 2 + 2 * i + 1) (nI x)) p) : MRep J p 0 (setSt v m i s x) := by
  obtain ⟨h1, h2, h3, h4⟩ := h
  obtain ⟨v1, v2, v3, v4⟩ := hV
  have hi4 := (v3 m hm).2.1
  have E : ∀ j, ¬ j = 2 + 10 * m + 2 + 2 * i → ¬ j = 2 + 10 * m + 2 + 2 * i + 1 → J p j = I p j := fun j hj hj2 => by rw [e]; simp [uI, hj, hj2]
  refine ⟨(E 0 (by omega) (by omega)).trans h1, (E 1 (by omega) (by omega)).trans h2, fun c hc => ⟨?_, ?_, fun q hq => ?_⟩, fun c hc => ⟨?_, fun g hg => ?_⟩⟩
  · rw [E _ (by omega) (by omega)]; exact (h3 c hc).1
  · rw [E _ (by omega) (by omega)]; exact (h3 c hc).2.1
  · have hc : c < vnm v := hc
    have hq : q < vln v c := hq
    have := (v3 c hc).2.1
    show J p (0 + (2 + 10 * c + 2 + 2 * q)) = nI (if c = m ∧ q = i then s else vso v c q) ∧ J p (0 + (2 + 10 * c + 2 + 2 * q + 1)) = nI (if c = m ∧ q = i then x else vop v c q)
    by_cases hz : c = m ∧ q = i
    · rw [if_pos hz, if_pos hz, e, hz.1, hz.2, Nat.zero_add, Nat.zero_add, uI_eq]
      exact ⟨by simp [uI], rfl⟩
    · rw [if_neg hz, if_neg hz, E _ (by omega) (by omega), E _ (by omega) (by omega)]
      exact (h3 c hc).2.2 q hq
  · rw [E _ (by omega) (by omega)]; exact (h4 c hc).1
  · rw [E _ (by omega) (by omega)]; exact (h4 c hc).2 g hg
/-- two pieces of advice change places in the row at p: their first k numbers -/
def swP (I : Nat → Nat → Int32) (p a b k : Nat) : Nat → Nat → Int32 := fun z j => if z = p ∧ 62 ≤ j ∧ (j - 62) % 6 < k then (if (j - 62) / 6 = a then I p (62 + 6 * b + (j - 62) % 6) else if (j - 62) / 6 = b then I p (62 + 6 * a + (j - 62) % 6) else I z j) else I z j
theorem swP_ne {I : Nat → Nat → Int32} {p a b k z : Nat} (h : z ≠ p) : swP I p a b k z = I z := by
  funext j
  unfold swP
  rw [if_neg (fun w => h w.1)]
theorem swP_0 {I : Nat → Nat → Int32} {p a b : Nat} : swP I p a b 0 = I := by
  funext z j
  unfold swP
  rw [if_neg (by omega)]
theorem swP_at {I : Nat → Nat → Int32} {p a b k c f : Nat} (hf : f < 6) : swP I p a b k p (62 + 6 * c + f) = if f < k then (if c = a then I p (62 + 6 * b + f) else if c = b then I p (62 + 6 * a + f) else I p (62 + 6 * c + f)) else I p (62 + 6 * c + f) := by
  unfold swP
  have e1 : (62 + 6 * c + f - 62) % 6 = f := by omega
  have e2 : (62 + 6 * c + f - 62) / 6 = c := by omega
  have e3 : 62 ≤ 62 + 6 * c + f := by omega
  rw [e1, e2]
  by_cases h : f < k
  · rw [if_pos ⟨rfl, e3, h⟩, if_pos h]
  · rw [if_neg (fun z => h z.2.2), if_neg h]
theorem swP_s {I : Nat → Nat → Int32} {p a b k : Nat} (hk : k < 6) : uI (uI (swP I p a b k) p (62 + 6 * a + k) (I p (62 + 6 * b + k))) p (62 + 6 * b + k) (I p (62 + 6 * a + k)) = swP I p a b (k + 1) := by
  funext z j
  by_cases hz : z = p
  · subst hz
    by_cases hj : 62 ≤ j
    · obtain ⟨c, f, hf, rfl⟩ : ∃ c f, f < 6 ∧ j = 62 + 6 * c + f := ⟨(j - 62) / 6, (j - 62) % 6, by omega, by omega⟩
      rw [swP_at hf]
      have n1 : 62 + 6 * c + f = 62 + 6 * b + k ↔ (c = b ∧ f = k) := by omega
      have n2 : 62 + 6 * c + f = 62 + 6 * a + k ↔ (c = a ∧ f = k) := by omega
      have u : ∀ (J : Nat → Nat → Int32) (i : Nat) (x : Int32), uI J z i x z (62 + 6 * c + f) = if 62 + 6 * c + f = i then x else J z (62 + 6 * c + f) := fun J i x => by simp [uI]
      rw [u, u, swP_at hf]
      by_cases hfk : f = k
      · subst hfk
        have l1 : ¬ f < f := by omega
        have l2 : f < f + 1 := by omega
        rw [if_neg l1, if_pos l2]
        by_cases hb : c = b
        · rw [if_pos (n1.mpr ⟨hb, rfl⟩)]
          by_cases ha : c = a
          · rw [if_pos ha, ← hb, ha]
          · rw [if_neg ha, if_pos hb]
        · rw [if_neg (fun z => hb (n1.mp z).1)]
          by_cases ha : c = a
          · rw [if_pos (n2.mpr ⟨ha, rfl⟩), if_pos ha]
          · rw [if_neg (fun z => ha (n2.mp z).1), if_neg ha, if_neg hb]
      · rw [if_neg (fun z => hfk (n1.mp z).2), if_neg (fun z => hfk (n2.mp z).2)]
        by_cases hl : f < k
        · rw [if_pos hl, if_pos (show f < k + 1 by omega)]
        · rw [if_neg hl, if_neg (show ¬ f < k + 1 by omega)]
    · have e1 : ¬ j = 62 + 6 * a + k := by omega
      have e2 : ¬ j = 62 + 6 * b + k := by omega
      simp [uI, swP, e1, e2, hj]
  · rw [swP_ne hz, uI_ne hz, uI_ne hz, swP_ne hz]
theorem MRep_exV {I J : Nat → Nat → Int32} {p : Nat} {v : Vv} {a b : Nat} (h : MRep I p 0 v) (hV : VOk v) (ha : a < vna v) (hb : b < vna v) (e : J p = (swP I p a b 6) p) : MRep J p 0 (exV v a b) := by
  obtain ⟨h1, h2, h3, h4⟩ := h
  obtain ⟨v1, v2, v3, v4⟩ := hV
  have E : ∀ j, j < 62 → J p j = I p j := fun j hj => by rw [e, swP, if_neg (by omega)]
  refine ⟨(E 0 (by omega)).trans h1, (E 1 (by omega)).trans h2, fun m hm => ⟨?_, ?_, fun i hi => ⟨?_, ?_⟩⟩, fun c hc => ⟨?_, fun g hg => ?_⟩⟩
  · have hm : m < vnm v := hm
    rw [E _ (by omega)]; exact (h3 m hm).1
  · have hm : m < vnm v := hm
    rw [E _ (by omega)]; exact (h3 m hm).2.1
  · have hm : m < vnm v := hm
    have hi : i < vln v m := hi
    have := (v3 m hm).2.1; rw [E _ (by omega)]; exact ((h3 m hm).2.2 i hi).1
  · have hm : m < vnm v := hm
    have hi : i < vln v m := hi
    have := (v3 m hm).2.1; rw [E _ (by omega)]; exact ((h3 m hm).2.2 i hi).2
  · show J p (0 + (62 + 6 * c)) = nI (if c = a then vfa v b 5 else if c = b then vfa v a 5 else vfa v c 5)
    rw [e, show 0 + (62 + 6 * c) = 62 + 6 * c + 0 by omega, swP_at (by decide), if_pos (by decide)]
    have k1 := (h4 a ha).1
    have k2 := (h4 b hb).1
    have k3 := (h4 c hc).1
    rw [Nat.zero_add] at k1 k2 k3
    split
    · exact k2
    · split
      · exact k1
      · exact k3
  · show J p (0 + (62 + 6 * c + 1 + g)) = nI (if c = a then vfa v b g else if c = b then vfa v a g else vfa v c g)
    rw [e, show 0 + (62 + 6 * c + 1 + g) = 62 + 6 * c + (1 + g) by omega, swP_at (by omega), if_pos (by omega)]
    have k1 := (h4 a ha).2 g hg
    have k2 := (h4 b hb).2 g hg
    have k3 := (h4 c hc).2 g hg
    rw [Nat.zero_add, Nat.add_assoc] at k1 k2 k3
    split
    · exact k2
    · split
      · exact k1
      · exact k3

set_option maxRecDepth 100000 in
set_option maxHeartbeats 400000 in
theorem c_swaps {d k p a b : Nat} {I : Nat → Nat → Int32} {Q : Option Int32 → Wd → Prop} (hsp : shn 68 p = (1, 92)) (ha : a < 5) (hb : b < 5) (h : Q none (swP I p a b 6, RR k)) : Ex d 0 0 mX7_swaps [.ref p, .int (nI a), .int (nI b)] 68 (I, RR k) 68 Q := by
  refine ex_intro (L0 := [.ref p, .int (nI a), .int (nI b), .null, .null]) (by decide +kernel) rfl rfl (Nat.le_of_ble_eq_true rfl) rfl ?_
  refine g_iconst (q := 1) (v := nI 0) dX7_swaps_0 rfl (by decide) ?_
  refine g_istore_n (q := 2) dX7_swaps_1 rfl (by decide) rfl rfl ?_
  suffices hl : ∀ (t i : Nat) (u : Value), i + t = 6 → G mX7_swaps (rmd d 0 0) (Zm Q 68 68 0 0) 68 2 [.ref p, .int (nI a), .int (nI b), .int (nI i), u] [] 68 (swP I p a b i, RR k) 0 0 by
    have := hl 6 0 .null rfl
    rw [swP_0] at this
    exact this
  intro t
  induction t with
  | zero =>
    intro i u hi
    have hi : i = 6 := by omega
    subst hi
    refine g_iload_n (q := 3) dX7_swaps_2 rfl rfl ?_
    refine g_bipush (q := 5) (v := nI 6) dX7_swaps_3 rfl (by decide) ?_
    refine g_icmp_ge (tgt := 62) (q := 8) dX7_swaps_5 (by decide) rfl (fun _ => ?_) (fun c5 => absurd (nI_le (by omega) (by omega)) c5)
    refine g_vret rfl dX7_swaps_62 (Nat.le_refl _) (Nat.le_refl _) ?_
    exact h
  | succ t ih =>
    intro i u hi
    refine g_iload_n (q := 3) dX7_swaps_2 rfl rfl ?_
    refine g_bipush (q := 5) (v := nI 6) dX7_swaps_3 rfl (by decide) ?_
    refine g_icmp_ge (tgt := 62) (q := 8) dX7_swaps_5 (by decide) rfl (fun c5 => absurd c5 (nI_ge (by omega) (by omega))) (fun _ => ?_)
    refine g_aload_n (q := 9) dX7_swaps_8 rfl rfl ?_
    refine g_bipush (q := 11) (v := nI 62) dX7_swaps_9 rfl (by decide) ?_
    refine g_bipush (q := 13) (v := nI 6) dX7_swaps_11 rfl (by decide) ?_
    refine g_iload_n (q := 14) dX7_swaps_13 rfl rfl ?_
    refine g_imul (q := 15) dX7_swaps_14 rfl ?_
    refine g_iadd (q := 16) dX7_swaps_15 rfl ?_
    refine g_iload_n (q := 17) dX7_swaps_16 rfl rfl ?_
    refine g_iadd (q := 18) dX7_swaps_17 rfl ?_
    refine g_ialdn (q := 19) (by first | assumption | rfl) (by repeat' first | apply nI_a | apply nI_m | exact rfl) (by omega) dX7_swaps_18 rfl ?_
    rw [swP_at (show i < 6 by omega), if_neg (Nat.lt_irrefl i)]
    refine g_istore (q := 21) dX7_swaps_19 rfl (by decide) rfl rfl ?_
    refine g_aload_n (q := 22) dX7_swaps_21 rfl rfl ?_
    refine g_bipush (q := 24) (v := nI 62) dX7_swaps_22 rfl (by decide) ?_
    refine g_bipush (q := 26) (v := nI 6) dX7_swaps_24 rfl (by decide) ?_
    refine g_iload_n (q := 27) dX7_swaps_26 rfl rfl ?_
    refine g_imul (q := 28) dX7_swaps_27 rfl ?_
    refine g_iadd (q := 29) dX7_swaps_28 rfl ?_
    refine g_iload_n (q := 30) dX7_swaps_29 rfl rfl ?_
    refine g_iadd (q := 31) dX7_swaps_30 rfl ?_
    refine g_aload_n (q := 32) dX7_swaps_31 rfl rfl ?_
    refine g_bipush (q := 34) (v := nI 62) dX7_swaps_32 rfl (by decide) ?_
    refine g_bipush (q := 36) (v := nI 6) dX7_swaps_34 rfl (by decide) ?_
    refine g_iload_n (q := 37) dX7_swaps_36 rfl rfl ?_
    refine g_imul (q := 38) dX7_swaps_37 rfl ?_
    refine g_iadd (q := 39) dX7_swaps_38 rfl ?_
    refine g_iload_n (q := 40) dX7_swaps_39 rfl rfl ?_
    refine g_iadd (q := 41) dX7_swaps_40 rfl ?_
    refine g_ialdn (q := 42) (by first | assumption | rfl) (by repeat' first | apply nI_a | apply nI_m | exact rfl) (by omega) dX7_swaps_41 rfl ?_
    rw [swP_at (show i < 6 by omega), if_neg (Nat.lt_irrefl i)]
    refine g_iastn (q := 43) (by first | assumption | rfl) (by repeat' first | apply nI_a | apply nI_m | exact rfl) (by omega) dX7_swaps_42 rfl ?_
    refine g_aload_n (q := 44) dX7_swaps_43 rfl rfl ?_
    refine g_bipush (q := 46) (v := nI 62) dX7_swaps_44 rfl (by decide) ?_
    refine g_bipush (q := 48) (v := nI 6) dX7_swaps_46 rfl (by decide) ?_
    refine g_iload_n (q := 49) dX7_swaps_48 rfl rfl ?_
    refine g_imul (q := 50) dX7_swaps_49 rfl ?_
    refine g_iadd (q := 51) dX7_swaps_50 rfl ?_
    refine g_iload_n (q := 52) dX7_swaps_51 rfl rfl ?_
    refine g_iadd (q := 53) dX7_swaps_52 rfl ?_
    refine g_iload (q := 55) dX7_swaps_53 rfl rfl ?_
    refine g_iastn (q := 56) (by first | assumption | rfl) (by repeat' first | apply nI_a | apply nI_m | exact rfl) (by omega) dX7_swaps_55 rfl ?_
    rw [swP_s (by omega)]
    refine g_iincn (q := 59) dX7_swaps_56 rfl rfl (by decide) rfl rfl ?_
    refine g_goto (q := 2) dX7_swaps_59 (by decide) ?_
    exact ih (i + 1) _ (by omega)
