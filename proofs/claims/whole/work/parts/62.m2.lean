theorem in1_iff {x : Int32} {n : Nat} (hn : n < 1000) : (nI 0 ≤ x ∧ x ≤ nI n - nI 1) ↔ (0 ≤ x ∧ x < nI n) := by
  constructor
  · intro h
    obtain ⟨j, hj, rfl⟩ := in1_nat hn h
    exact ⟨nI_pos' (by omega), nI_lt hj (by omega)⟩
  · rintro ⟨h1, h2⟩
    obtain ⟨j, hj, rfl⟩ := nI_of (Int32.not_lt.mpr h1)
    have h3 := (nI_ltI hj (by omega)).mp h2
    obtain ⟨m, rfl⟩ : ∃ m, n = m + 1 := ⟨n - 1, by omega⟩
    rw [show nI (m + 1) - nI 1 = nI m from nI_pred m]
    exact ⟨nI_le (by omega) (by omega), nI_le (by omega) (by omega)⟩
theorem MRep.nm {I : Nat → Nat → Int32} {p : Nat} {v : Vv} (h : MRep I p 0 v) : I p 0 = nI (vnm v) := h.1
theorem MRep.na {I : Nat → Nat → Int32} {p : Nat} {v : Vv} (h : MRep I p 0 v) : I p 1 = nI (vna v) := h.2.1
theorem MRep.cl {I : Nat → Nat → Int32} {p m : Nat} {v : Vv} (h : MRep I p 0 v) (hm : m < vnm v) : I p (2 + 10 * m) = nI (vcl v m) := by
  have := (h.2.2.1 m hm).1; rwa [Nat.zero_add] at this
theorem MRep.ln {I : Nat → Nat → Int32} {p m : Nat} {v : Vv} (h : MRep I p 0 v) (hm : m < vnm v) : I p (2 + 10 * m + 1) = nI (vln v m) := by
  have := (h.2.2.1 m hm).2.1; rwa [Nat.zero_add] at this
theorem MRep.so {I : Nat → Nat → Int32} {p m i : Nat} {v : Vv} (h : MRep I p 0 v) (hm : m < vnm v) (hi : i < vln v m) : I p (2 + 10 * m + 2 + 2 * i) = nI (vso v m i) := by
  have := ((h.2.2.1 m hm).2.2 i hi).1; rwa [Nat.zero_add] at this
theorem MRep.op {I : Nat → Nat → Int32} {p m i : Nat} {v : Vv} (h : MRep I p 0 v) (hm : m < vnm v) (hi : i < vln v m) : I p (2 + 10 * m + 2 + 2 * i + 1) = nI (vop v m i) := by
  have := ((h.2.2.1 m hm).2.2 i hi).2; rwa [Nat.zero_add] at this
theorem MRep.kd {I : Nat → Nat → Int32} {p a : Nat} {v : Vv} (h : MRep I p 0 v) (ha : a < vna v) : I p (62 + 6 * a) = nI (vfa v a 5) := by
  have := (h.2.2.2 a ha).1; rwa [Nat.zero_add] at this
theorem MRep.fa {I : Nat → Nat → Int32} {p a f : Nat} {v : Vv} (h : MRep I p 0 v) (ha : a < vna v) (hf : f < 5) : I p (62 + 6 * a + 1 + f) = nI (vfa v a f) := by
  have := (h.2.2.2 a ha).2 f hf; rwa [Nat.zero_add] at this
theorem MRep.f0 {I : Nat → Nat → Int32} {p a : Nat} {v : Vv} (h : MRep I p 0 v) (ha : a < vna v) : I p (62 + 6 * a + 1) = nI (vfa v a 0) := h.fa ha (f := 0) (by decide)
theorem MRep.f1 {I : Nat → Nat → Int32} {p a : Nat} {v : Vv} (h : MRep I p 0 v) (ha : a < vna v) : I p (62 + 6 * a + 2) = nI (vfa v a 1) := h.fa ha (f := 1) (by decide)
theorem MRep.f2 {I : Nat → Nat → Int32} {p a : Nat} {v : Vv} (h : MRep I p 0 v) (ha : a < vna v) : I p (62 + 6 * a + 3) = nI (vfa v a 2) := h.fa ha (f := 2) (by decide)
theorem MRep.f3 {I : Nat → Nat → Int32} {p a : Nat} {v : Vv} (h : MRep I p 0 v) (ha : a < vna v) : I p (62 + 6 * a + 4) = nI (vfa v a 3) := h.fa ha (f := 3) (by decide)
theorem MRep.f4 {I : Nat → Nat → Int32} {p a : Nat} {v : Vv} (h : MRep I p 0 v) (ha : a < vna v) : I p (62 + 6 * a + 5) = nI (vfa v a 4) := h.fa ha (f := 4) (by decide)

set_option maxRecDepth 100000 in
set_option maxHeartbeats 400000 in
theorem c_X7_set {d k : Nat} {I : Nat → Nat → Int32} {Q : Option Int32 → Wd → Prop} {S : Sg} {r i v : Int32} (hr : RepM I S) (h : ∀ I2, RepM I2 (setS S r i v).2 → FrM I I2 → Q (some (setS S r i v).1) (I2, RR k)) : Ex (d + 2) 0 0 mX7_set [.ref 52, .int r, .int i, .int v] 68 (I, RR k) 68 Q := by
  refine ex_intro (L0 := [.ref 52, .int r, .int i, .int v]) (by decide +kernel) rfl rfl (Nat.le_of_ble_eq_true rfl) rfl ?_
  refine g_iload_n (q := 1) dX7_set_0 rfl rfl ?_
  refine k_X7_66 (q := 4) rfl (Nat.le_of_ble_eq_true rfl) dX7_set_1 rfl (c_X7_isRow (fun z1 => ?_) (fun z1 => ?_))
  · refine g_if_ne (tgt := 10) (q := 7) dX7_set_4 (by decide) rfl (fun _ => ?_) (fun c4 => absurd c4 (by decide))
    have y1 := z1
    obtain ⟨a, ha, rfl⟩ := inR_nat (by decide) z1
    refine g_aload_n (q := 11) dX7_set_10 rfl rfl ?_
    refine g_iload_n (q := 12) dX7_set_11 rfl rfl ?_
    refine k_X7_78 (q := 15) rfl (Nat.le_of_ble_eq_true rfl) (by first | assumption | rfl) dX7_set_12 rfl (c_X7_isMissing (by omega) (fun z12 => ?_) (fun z12 => ?_))
    · have qna : S.1 a = none := (hr.1 a (by omega)).elim (fun w => w.1) (fun ⟨l, z, it, w1, e1, e2, hl, hz, hit⟩ => absurd (e1.symm.trans z12) (nI_none (by omega)))
      refine g_if_eq (tgt := 24) (q := 18) dX7_set_15 (by decide) rfl (fun c15 => absurd c15 (by decide)) (fun _ => ?_)
      refine g_aload_n (q := 19) dX7_set_18 rfl rfl ?_
      refine g_iconst (q := 20) (v := nI 1) dX7_set_19 rfl (by decide) ?_
      refine k_X7_71 (q := 23) rfl (Nat.le_of_ble_eq_true rfl) (by first | assumption | rfl) dX7_set_20 rfl (c_X7_found ?_)
      refine g_iret rfl dX7_set_23 (Nat.le_refl _) (Nat.le_refl _) ?_
      rw [setS, if_pos y1, nI_clamp (by omega)] at h
      simp only [qna] at h
      exact h _ (hr.fnd (by decide)) (FrM.ui (by decide))
    · obtain ⟨la, za, ita, qa, e1a, e2a, hla, hza, hita⟩ : ∃ l z it, S.1 a = some (l, z, it) ∧ I 53 a = nI l ∧ I 54 a = nI z ∧ l < 3 ∧ z ≤ 40 ∧ ∀ j, j < z → I 55 (40 * a + j) = it j := (hr.1 a (by omega)).elim (fun w => absurd w.2 z12) id
      refine g_if_eq (tgt := 24) (q := 18) dX7_set_15 (by decide) rfl (fun _ => ?_) (fun c15 => absurd c15 (by decide))
      refine g_iload_n (q := 25) dX7_set_24 rfl rfl ?_
      refine g_iconst (q := 26) (v := nI 0) dX7_set_25 rfl (by decide) ?_
      refine g_aload_n (q := 27) dX7_set_26 rfl rfl ?_
      refine gf_X7_13 (q := 30) rfl (by first | assumption | rfl) (by first | assumption | rfl) dX7_set_27 rfl ?_
      refine g_iload_n (q := 31) dX7_set_30 rfl rfl ?_
      refine g_ialdn (q := 32) (by first | assumption | rfl) (by repeat' first | apply nI_a | apply nI_m | exact rfl) (by omega) dX7_set_31 rfl ?_
      rw [e2a]
      refine g_iconst (q := 33) (v := nI 1) dX7_set_32 rfl (by decide) ?_
      refine g_isub (q := 34) dX7_set_33 rfl ?_
      refine k_X7_62 (q := 37) rfl (Nat.le_of_ble_eq_true rfl) dX7_set_34 rfl (c_X7_in (fun z341 z342 => ?_) (fun z34 => ?_))
      · have z34 := And.intro z341 z342
        refine g_if_ne (tgt := 46) (q := 40) dX7_set_37 (by decide) rfl (fun _ => ?_) (fun c37 => absurd c37 (by decide))
        have y34 := (in1_iff (by omega)).mp z34
        obtain ⟨i, hi, rfl⟩ := in1_nat (by omega) z34
        refine g_aload_n (q := 47) dX7_set_46 rfl rfl ?_
        refine gf_X7_16 (q := 50) rfl (by first | assumption | rfl) (by first | assumption | rfl) dX7_set_47 rfl ?_
        refine g_bipush (q := 52) (v := nI 40) dX7_set_50 rfl (by decide) ?_
        refine g_iload_n (q := 53) dX7_set_52 rfl rfl ?_
        refine g_imul (q := 54) dX7_set_53 rfl ?_
        refine g_iload_n (q := 55) dX7_set_54 rfl rfl ?_
        refine g_iadd (q := 56) dX7_set_55 rfl ?_
        refine g_aload_n (q := 57) dX7_set_56 rfl rfl ?_
        refine gf_X7_7 (q := 60) rfl (by first | assumption | rfl) (by first | assumption | rfl) dX7_set_57 rfl ?_
        refine g_iload_n (q := 61) dX7_set_60 rfl rfl ?_
        refine g_ialdn (q := 62) (by first | assumption | rfl) (by repeat' first | apply nI_a | apply nI_m | exact rfl) (by omega) dX7_set_61 rfl ?_
        rw [e1a]
        refine g_iload_n (q := 63) dX7_set_62 rfl rfl ?_
        refine k_X7_81 (q := 66) rfl (Nat.le_of_ble_eq_true rfl) dX7_set_63 rfl (c_X7_lowest ?_)
        refine g_iastn (q := 67) (by first | assumption | rfl) (by repeat' first | apply nI_a | apply nI_m | exact rfl) (by omega) dX7_set_66 rfl ?_
        refine g_aload_n (q := 68) dX7_set_67 rfl rfl ?_
        refine g_aload_n (q := 69) dX7_set_68 rfl rfl ?_
        refine gf_X7_16 (q := 72) rfl (by first | assumption | rfl) (by first | assumption | rfl) dX7_set_69 rfl ?_
        refine g_bipush (q := 74) (v := nI 40) dX7_set_72 rfl (by decide) ?_
        refine g_iload_n (q := 75) dX7_set_74 rfl rfl ?_
        refine g_imul (q := 76) dX7_set_75 rfl ?_
        refine g_iload_n (q := 77) dX7_set_76 rfl rfl ?_
        refine g_iadd (q := 78) dX7_set_77 rfl ?_
        refine g_ialdn (q := 79) (by first | assumption | rfl) (by repeat' first | apply nI_a | apply nI_m | exact rfl) (by omega) dX7_set_78 rfl ?_
        rw [uI_eq]
        refine k_X7_75 (q := 82) rfl (Nat.le_of_ble_eq_true rfl) (by first | assumption | rfl) dX7_set_79 rfl (c_X7_well ?_)
        refine g_iret rfl dX7_set_82 (Nat.le_refl _) (Nat.le_refl _) ?_
        rw [setS, if_pos y1, nI_clamp (by omega)] at h
        simp only [qa] at h
        rw [if_pos y34, nI_clamp (by omega)] at h
        refine h _ ?_ (FrM.tr (FrM.ui (by decide)) (FrM.ui (by decide)))
        refine RepM.fnd (x := 0) (RepM.rows hr (MRows.up (r := a) hr.1 (fun q hq => ?_) (fun q hq => ?_) (fun q hq j hj => ?_) (Or.inr ⟨la, za, _, rfl, ?_, ?_, hla, hza, fun j hj => ?_⟩)) (fun p hp => uI_ne (by omega))) (by decide)
        · rw [uI_ne (by decide)]
        · rw [uI_ne (by decide)]
        · have : ¬ 40 * q + j = 40 * a + i := by omega
          simp [uI, this]
        · rw [uI_ne (by decide)]; exact e1a
        · rw [uI_ne (by decide)]; exact e2a
        · by_cases e : j = i
          · subst e; simp [uI]
          · have : ¬ 40 * a + j = 40 * a + i := by omega
            simp [uI, this, e]; exact hita j hj
      · refine g_if_ne (tgt := 46) (q := 40) dX7_set_37 (by decide) rfl (fun c37 => absurd c37 (by decide)) (fun _ => ?_)
        refine g_aload_n (q := 41) dX7_set_40 rfl rfl ?_
        refine g_iconst (q := 42) (v := nI 2) dX7_set_41 rfl (by decide) ?_
        refine k_X7_71 (q := 45) rfl (Nat.le_of_ble_eq_true rfl) (by first | assumption | rfl) dX7_set_42 rfl (c_X7_found ?_)
        refine g_iret rfl dX7_set_45 (Nat.le_refl _) (Nat.le_refl _) ?_
        rw [setS, if_pos y1, nI_clamp (by omega)] at h
        simp only [qa] at h
        rw [if_neg (fun z => z34 ((in1_iff (by omega)).mpr z))] at h
        exact h _ (hr.fnd (by decide)) (FrM.ui (by decide))
  · refine g_if_ne (tgt := 10) (q := 7) dX7_set_4 (by decide) rfl (fun c4 => absurd c4 (by decide)) (fun _ => ?_)
    refine lc_X7_70 (q := 9) rfl dX7_set_7 rfl ?_
    refine g_iret rfl dX7_set_9 (Nat.le_refl _) (Nat.le_refl _) ?_
    rw [setS, if_neg z1] at h
    exact h I hr FrM.rf
set_option maxRecDepth 100000 in
set_option maxHeartbeats 400000 in
theorem c_X7_drop {d k : Nat} {I : Nat → Nat → Int32} {Q : Option Int32 → Wd → Prop} {S : Sg} {r : Int32} (hr : RepM I S) (h : ∀ I2, RepM I2 (dropS S r).2 → FrM I I2 → Q (some (dropS S r).1) (I2, RR k)) : Ex (d + 2) 0 0 mX7_drop [.ref 52, .int r] 68 (I, RR k) 68 Q := by
  refine ex_intro (L0 := [.ref 52, .int r]) (by decide +kernel) rfl rfl (Nat.le_of_ble_eq_true rfl) rfl ?_
  refine g_iload_n (q := 1) dX7_drop_0 rfl rfl ?_
  refine k_X7_66 (q := 4) rfl (Nat.le_of_ble_eq_true rfl) dX7_drop_1 rfl (c_X7_isRow (fun z1 => ?_) (fun z1 => ?_))
  · refine g_if_ne (tgt := 10) (q := 7) dX7_drop_4 (by decide) rfl (fun _ => ?_) (fun c4 => absurd c4 (by decide))
    have y1 := z1
    obtain ⟨a, ha, rfl⟩ := inR_nat (by decide) z1
    refine g_aload_n (q := 11) dX7_drop_10 rfl rfl ?_
    refine g_iload_n (q := 12) dX7_drop_11 rfl rfl ?_
    refine k_X7_78 (q := 15) rfl (Nat.le_of_ble_eq_true rfl) (by first | assumption | rfl) dX7_drop_12 rfl (c_X7_isMissing (by omega) (fun z12 => ?_) (fun z12 => ?_))
    · have qna : S.1 a = none := (hr.1 a (by omega)).elim (fun w => w.1) (fun ⟨l, z, it, w1, e1, e2, hl, hz, hit⟩ => absurd (e1.symm.trans z12) (nI_none (by omega)))
      refine g_if_eq (tgt := 24) (q := 18) dX7_drop_15 (by decide) rfl (fun c15 => absurd c15 (by decide)) (fun _ => ?_)
      refine g_aload_n (q := 19) dX7_drop_18 rfl rfl ?_
      refine g_iconst (q := 20) (v := nI 1) dX7_drop_19 rfl (by decide) ?_
      refine k_X7_71 (q := 23) rfl (Nat.le_of_ble_eq_true rfl) (by first | assumption | rfl) dX7_drop_20 rfl (c_X7_found ?_)
      refine g_iret rfl dX7_drop_23 (Nat.le_refl _) (Nat.le_refl _) ?_
      rw [dropS, if_pos y1, nI_clamp (by omega)] at h
      simp only [qna] at h
      exact h _ (hr.fnd (by decide)) (FrM.ui (by decide))
    · obtain ⟨la, za, ita, qa, e1a, e2a, hla, hza, hita⟩ : ∃ l z it, S.1 a = some (l, z, it) ∧ I 53 a = nI l ∧ I 54 a = nI z ∧ l < 3 ∧ z ≤ 40 ∧ ∀ j, j < z → I 55 (40 * a + j) = it j := (hr.1 a (by omega)).elim (fun w => absurd w.2 z12) id
      refine g_if_eq (tgt := 24) (q := 18) dX7_drop_15 (by decide) rfl (fun _ => ?_) (fun c15 => absurd c15 (by decide))
      refine g_aload_n (q := 25) dX7_drop_24 rfl rfl ?_
      refine gf_X7_7 (q := 28) rfl (by first | assumption | rfl) (by first | assumption | rfl) dX7_drop_25 rfl ?_
      refine g_iload_n (q := 29) dX7_drop_28 rfl rfl ?_
      refine lc_X7_56 (q := 31) rfl dX7_drop_29 rfl ?_
      refine g_iastn (q := 32) (by first | assumption | rfl) (by repeat' first | apply nI_a | apply nI_m | exact rfl) (by omega) dX7_drop_31 rfl ?_
      refine g_aload_n (q := 33) dX7_drop_32 rfl rfl ?_
      refine g_aload_n (q := 34) dX7_drop_33 rfl rfl ?_
      refine gf_X7_13 (q := 37) rfl (by first | assumption | rfl) (by first | assumption | rfl) dX7_drop_34 rfl ?_
      refine g_iload_n (q := 38) dX7_drop_37 rfl rfl ?_
      refine g_ialdn (q := 39) (by first | assumption | rfl) (by repeat' first | apply nI_a | apply nI_m | exact rfl) (by omega) dX7_drop_38 rfl ?_
      rw [uI_ne (by decide), e2a]
      refine k_X7_75 (q := 42) rfl (Nat.le_of_ble_eq_true rfl) (by first | assumption | rfl) dX7_drop_39 rfl (c_X7_well ?_)
      refine g_iret rfl dX7_drop_42 (Nat.le_refl _) (Nat.le_refl _) ?_
      rw [dropS, if_pos y1, nI_clamp (by omega)] at h
      simp only [qa] at h
      refine h _ ?_ (FrM.tr (FrM.ui (by decide)) (FrM.ui (by decide)))
      exact RepM.fnd (x := 0) (RepM.rows hr (MRows.up (r := a) hr.1 (fun q hq => by simp [uI, hq]) (fun q hq => by rw [uI_ne (by decide)]) (fun q hq j hj => by rw [uI_ne (by decide)]) (Or.inl ⟨rfl, uI_eq⟩)) (fun p hp => uI_ne (by omega))) (by decide)
  · refine g_if_ne (tgt := 10) (q := 7) dX7_drop_4 (by decide) rfl (fun c4 => absurd c4 (by decide)) (fun _ => ?_)
    refine lc_X7_70 (q := 9) rfl dX7_drop_7 rfl ?_
    refine g_iret rfl dX7_drop_9 (Nat.le_refl _) (Nat.le_refl _) ?_
    rw [dropS, if_neg z1] at h
    exact h I hr FrM.rf
set_option maxRecDepth 100000 in
set_option maxHeartbeats 400000 in
theorem c_X7_isPart {d k : Nat} {I : Nat → Nat → Int32} {Q : Option Int32 → Wd → Prop} {r : Nat} {i c : Int32} (hr8 : r < 8) (h1 : 0 ≤ i → 0 ≤ c → i ≤ I 54 r → c ≤ I 54 r - i → Q (some (nI 1)) (I, RR k)) (h0 : ¬ (0 ≤ i ∧ 0 ≤ c ∧ i ≤ I 54 r ∧ c ≤ I 54 r - i) → Q (some (nI 0)) (I, RR k)) : Ex d 0 0 mX7_isPart [.ref 52, .int (nI r), .int i, .int c] 68 (I, RR k) 68 Q := by
  refine ex_intro (L0 := [.ref 52, .int (nI r), .int i, .int c]) (by decide +kernel) rfl rfl (Nat.le_of_ble_eq_true rfl) rfl ?_
  refine g_iload_n (q := 1) dX7_isPart_0 rfl rfl ?_
  refine g_if_lt (tgt := 34) (q := 4) dX7_isPart_1 (by decide) rfl (fun c1 => ?_) (fun c1 => ?_)
  · refine g_iconst (q := 35) (v := nI 0) dX7_isPart_34 rfl (by decide) ?_
    refine g_zret rfl (by decide) dX7_isPart_35 (Nat.le_refl _) (Nat.le_refl _) ?_
    exact h0 (fun z => absurd c1 (Int32.not_lt.mpr z.1))
  · refine g_iload_n (q := 5) dX7_isPart_4 rfl rfl ?_
    refine g_if_lt (tgt := 34) (q := 8) dX7_isPart_5 (by decide) rfl (fun c5 => ?_) (fun c5 => ?_)
    · refine g_iconst (q := 35) (v := nI 0) dX7_isPart_34 rfl (by decide) ?_
      refine g_zret rfl (by decide) dX7_isPart_35 (Nat.le_refl _) (Nat.le_refl _) ?_
      exact h0 (fun z => absurd c5 (Int32.not_lt.mpr z.2.1))
    · refine g_iload_n (q := 9) dX7_isPart_8 rfl rfl ?_
      refine g_aload_n (q := 10) dX7_isPart_9 rfl rfl ?_
      refine gf_X7_13 (q := 13) rfl (by first | assumption | rfl) (by first | assumption | rfl) dX7_isPart_10 rfl ?_
      refine g_iload_n (q := 14) dX7_isPart_13 rfl rfl ?_
      refine g_ialdn (q := 15) (by first | assumption | rfl) (by repeat' first | apply nI_a | apply nI_m | exact rfl) (by omega) dX7_isPart_14 rfl ?_
      refine g_icmp_gt (tgt := 34) (q := 18) dX7_isPart_15 (by decide) rfl (fun c15 => ?_) (fun c15 => ?_)
      · refine g_iconst (q := 35) (v := nI 0) dX7_isPart_34 rfl (by decide) ?_
        refine g_zret rfl (by decide) dX7_isPart_35 (Nat.le_refl _) (Nat.le_refl _) ?_
        exact h0 (fun z => absurd c15 (Int32.not_lt.mpr z.2.2.1))
      · refine g_iload_n (q := 19) dX7_isPart_18 rfl rfl ?_
        refine g_aload_n (q := 20) dX7_isPart_19 rfl rfl ?_
        refine gf_X7_13 (q := 23) rfl (by first | assumption | rfl) (by first | assumption | rfl) dX7_isPart_20 rfl ?_
        refine g_iload_n (q := 24) dX7_isPart_23 rfl rfl ?_
        refine g_ialdn (q := 25) (by first | assumption | rfl) (by repeat' first | apply nI_a | apply nI_m | exact rfl) (by omega) dX7_isPart_24 rfl ?_
        refine g_iload_n (q := 26) dX7_isPart_25 rfl rfl ?_
        refine g_isub (q := 27) dX7_isPart_26 rfl ?_
        refine g_icmp_gt (tgt := 34) (q := 30) dX7_isPart_27 (by decide) rfl (fun c27 => ?_) (fun c27 => ?_)
        · refine g_iconst (q := 35) (v := nI 0) dX7_isPart_34 rfl (by decide) ?_
          refine g_zret rfl (by decide) dX7_isPart_35 (Nat.le_refl _) (Nat.le_refl _) ?_
          exact h0 (fun z => absurd c27 (Int32.not_lt.mpr z.2.2.2))
        · refine g_iconst (q := 31) (v := nI 1) dX7_isPart_30 rfl (by decide) ?_
          refine g_goto (q := 35) dX7_isPart_31 (by decide) ?_
          refine g_zret rfl (by decide) dX7_isPart_35 (Nat.le_refl _) (Nat.le_refl _) ?_
          exact h1 (Int32.not_lt.mp c1) (Int32.not_lt.mp c5) (Int32.not_lt.mp c15) (Int32.not_lt.mp c27)
/-- the first k from p at a come to q at b -/
def cpI (I : Nat → Nat → Int32) (p a q b k : Nat) : Nat → Nat → Int32 := fun z j => if z = q ∧ b ≤ j ∧ j < b + k then I p (a + (j - b)) else I z j
theorem cpI_s {I : Nat → Nat → Int32} {p a q b k : Nat} : uI (cpI I p a q b k) q (b + k) (I p (a + k)) = cpI I p a q b (k + 1) := by
  funext z j
  simp only [uI, cpI]
  by_cases h1 : z = q
  · by_cases h2 : j = b + k
    · have e : b ≤ j ∧ j < b + (k + 1) := by omega
      have e2 : a + (j - b) = a + k := by omega
      rw [if_pos ⟨h1, h2⟩, if_pos ⟨h1, e⟩, e2]
    · by_cases h3 : b ≤ j ∧ j < b + k
      · have : b ≤ j ∧ j < b + (k + 1) := by omega
        rw [if_neg (fun z => h2 z.2), if_pos ⟨h1, h3⟩, if_pos ⟨h1, this⟩]
      · have : ¬ (b ≤ j ∧ j < b + (k + 1)) := by omega
        rw [if_neg (fun z => h2 z.2), if_neg (fun z => h3 z.2), if_neg (fun z => this z.2)]
  · rw [if_neg (fun z => h1 z.1), if_neg (fun z => h1 z.1), if_neg (fun z => h1 z.1)]
theorem cpI_0 {I : Nat → Nat → Int32} {p a q b : Nat} : cpI I p a q b 0 = I := by
  funext z j
  unfold cpI
  rw [if_neg (by omega)]
theorem cpI_ne {I : Nat → Nat → Int32} {p a q b k z : Nat} (h : z ≠ q) : cpI I p a q b k z = I z := by
  funext j
  unfold cpI
  rw [if_neg (fun w => h w.1)]
theorem cpI_eq {I : Nat → Nat → Int32} {p a q b k j : Nat} (h : j < k) : cpI I p a q b k q (b + j) = I p (a + j) := by
  unfold cpI
  rw [if_pos ⟨rfl, by omega, by omega⟩, Nat.add_sub_cancel_left]

set_option maxRecDepth 100000 in
set_option maxHeartbeats 400000 in
theorem l_mcopy1 {D k a b x y n n0 : Nat} {Z : Zt} {I : Nat → Nat → Int32} (ha : a < 8) (hn : x + n ≤ 40) (hex : G mX7_copy (rmd D 0 0) Z n0 126 [.ref 52, .int (nI a), .int (nI x), .int (nI b), .int (nI y), .int (nI n), .int (nI n)] [] 68 (cpI I 55 (40 * a + x) 56 0 n, RR k) 0 0) : ∀ (t i : Nat), i + t = n → G mX7_copy (rmd D 0 0) Z n0 92 [.ref 52, .int (nI a), .int (nI x), .int (nI b), .int (nI y), .int (nI n), .int (nI i)] [] 68 (cpI I 55 (40 * a + x) 56 0 i, RR k) 0 0 := by
  intro t
  induction t with
  | zero =>
    intro i hi
    have hi : i = n := by omega
    subst hi
    refine g_iload (q := 94) dX7_copy_92 rfl rfl ?_
    refine g_iload (q := 96) dX7_copy_94 rfl rfl ?_
    refine g_icmp_ge (tgt := 126) (q := 99) dX7_copy_96 (by decide) rfl (fun _ => ?_) (fun c96 => absurd (nI_le (by omega) (by omega)) c96)
    exact hex
  | succ t ih =>
    intro i hi
    refine g_iload (q := 94) dX7_copy_92 rfl rfl ?_
    refine g_iload (q := 96) dX7_copy_94 rfl rfl ?_
    refine g_icmp_ge (tgt := 126) (q := 99) dX7_copy_96 (by decide) rfl (fun c96 => absurd c96 (nI_ge (by omega) (by omega))) (fun _ => ?_)
    refine g_aload_n (q := 100) dX7_copy_99 rfl rfl ?_
    refine gf_X7_19 (q := 103) rfl (by first | assumption | rfl) (by first | assumption | rfl) dX7_copy_100 rfl ?_
    refine g_iload (q := 105) dX7_copy_103 rfl rfl ?_
    refine g_aload_n (q := 106) dX7_copy_105 rfl rfl ?_
    refine gf_X7_16 (q := 109) rfl (by first | assumption | rfl) (by first | assumption | rfl) dX7_copy_106 rfl ?_
    refine g_bipush (q := 111) (v := nI 40) dX7_copy_109 rfl (by decide) ?_
    refine g_iload_n (q := 112) dX7_copy_111 rfl rfl ?_
    refine g_imul (q := 113) dX7_copy_112 rfl ?_
    refine g_iload_n (q := 114) dX7_copy_113 rfl rfl ?_
    refine g_iadd (q := 115) dX7_copy_114 rfl ?_
    refine g_iload (q := 117) dX7_copy_115 rfl rfl ?_
    refine g_iadd (q := 118) dX7_copy_117 rfl ?_
    refine g_ialdn (q := 119) (by first | assumption | rfl) (by repeat' first | apply nI_a | apply nI_m | exact rfl) (by omega) dX7_copy_118 rfl ?_
    rw [cpI_ne (show 55 ≠ 56 by decide)]
    refine g_iastn (q := 120) (by first | assumption | rfl) (by repeat' first | apply nI_a | apply nI_m | exact rfl) (by omega) dX7_copy_119 rfl ?_
    have e := cpI_s (I := I) (p := 55) (a := 40 * a + x) (q := 56) (b := 0) (k := i)
    rw [Nat.zero_add] at e
    rw [e]
    refine g_iincn (q := 123) dX7_copy_120 rfl rfl (by decide) rfl rfl ?_
    refine g_goto (q := 92) dX7_copy_123 (by decide) ?_
    exact ih (i + 1) (by omega)
set_option maxRecDepth 100000 in
set_option maxHeartbeats 400000 in
theorem l_mcopy2 {D k a b x y n n0 : Nat} {Z : Zt} {I : Nat → Nat → Int32} (hb : b < 8) (hn : y + n ≤ 40) (hex : G mX7_copy (rmd D 0 0) Z n0 164 [.ref 52, .int (nI a), .int (nI x), .int (nI b), .int (nI y), .int (nI n), .int (nI n)] [] 68 (cpI I 56 0 55 (40 * b + y) n, RR k) 0 0) : ∀ (t i : Nat), i + t = n → G mX7_copy (rmd D 0 0) Z n0 129 [.ref 52, .int (nI a), .int (nI x), .int (nI b), .int (nI y), .int (nI n), .int (nI i)] [] 68 (cpI I 56 0 55 (40 * b + y) i, RR k) 0 0 := by
  intro t
  induction t with
  | zero =>
    intro i hi
    have hi : i = n := by omega
    subst hi
    refine g_iload (q := 131) dX7_copy_129 rfl rfl ?_
    refine g_iload (q := 133) dX7_copy_131 rfl rfl ?_
    refine g_icmp_ge (tgt := 164) (q := 136) dX7_copy_133 (by decide) rfl (fun _ => ?_) (fun c133 => absurd (nI_le (by omega) (by omega)) c133)
    exact hex
  | succ t ih =>
    intro i hi
    refine g_iload (q := 131) dX7_copy_129 rfl rfl ?_
    refine g_iload (q := 133) dX7_copy_131 rfl rfl ?_
    refine g_icmp_ge (tgt := 164) (q := 136) dX7_copy_133 (by decide) rfl (fun c133 => absurd c133 (nI_ge (by omega) (by omega))) (fun _ => ?_)
    refine g_aload_n (q := 137) dX7_copy_136 rfl rfl ?_
    refine gf_X7_16 (q := 140) rfl (by first | assumption | rfl) (by first | assumption | rfl) dX7_copy_137 rfl ?_
    refine g_bipush (q := 142) (v := nI 40) dX7_copy_140 rfl (by decide) ?_
    refine g_iload_n (q := 143) dX7_copy_142 rfl rfl ?_
    refine g_imul (q := 144) dX7_copy_143 rfl ?_
    refine g_iload (q := 146) dX7_copy_144 rfl rfl ?_
    refine g_iadd (q := 147) dX7_copy_146 rfl ?_
    refine g_iload (q := 149) dX7_copy_147 rfl rfl ?_
    refine g_iadd (q := 150) dX7_copy_149 rfl ?_
    refine g_aload_n (q := 151) dX7_copy_150 rfl rfl ?_
    refine gf_X7_19 (q := 154) rfl (by first | assumption | rfl) (by first | assumption | rfl) dX7_copy_151 rfl ?_
    refine g_iload (q := 156) dX7_copy_154 rfl rfl ?_
    refine g_ialdn (q := 157) (by first | assumption | rfl) (by repeat' first | apply nI_a | apply nI_m | exact rfl) (by omega) dX7_copy_156 rfl ?_
    rw [cpI_ne (show 56 ≠ 55 by decide)]
    refine g_iastn (q := 158) (by first | assumption | rfl) (by repeat' first | apply nI_a | apply nI_m | exact rfl) (by omega) dX7_copy_157 rfl ?_
    have e := cpI_s (I := I) (p := 56) (a := 0) (q := 55) (b := 40 * b + y) (k := i)
    rw [Nat.zero_add] at e
    rw [e]
    refine g_iincn (q := 161) dX7_copy_158 rfl rfl (by decide) rfl rfl ?_
    refine g_goto (q := 129) dX7_copy_161 (by decide) ?_
    exact ih (i + 1) (by omega)
set_option maxRecDepth 100000 in
set_option maxHeartbeats 400000 in
theorem c_X7_copy {d k : Nat} {I : Nat → Nat → Int32} {Q : Option Int32 → Wd → Prop} {S : Sg} {r i t j c : Int32} (hr : RepM I S) (h : ∀ I2, RepM I2 (copyS S r i t j c).2 → FrM I I2 → Q (some (copyS S r i t j c).1) (I2, RR k)) : Ex (d + 2) 0 0 mX7_copy [.ref 52, .int r, .int i, .int t, .int j, .int c] 68 (I, RR k) 68 Q := by
  refine ex_intro (L0 := [.ref 52, .int r, .int i, .int t, .int j, .int c, .null]) (by decide +kernel) rfl rfl (Nat.le_of_ble_eq_true rfl) rfl ?_
  refine g_iload_n (q := 1) dX7_copy_0 rfl rfl ?_
  refine k_X7_66 (q := 4) rfl (Nat.le_of_ble_eq_true rfl) dX7_copy_1 rfl (c_X7_isRow (fun z1 => ?_) (fun z1 => ?_))
  · refine g_if_eq (tgt := 14) (q := 7) dX7_copy_4 (by decide) rfl (fun c4 => absurd c4 (by decide)) (fun _ => ?_)
    refine g_iload_n (q := 8) dX7_copy_7 rfl rfl ?_
    refine k_X7_66 (q := 11) rfl (Nat.le_of_ble_eq_true rfl) dX7_copy_8 rfl (c_X7_isRow (fun z8 => ?_) (fun z8 => ?_))
    · refine g_if_ne (tgt := 17) (q := 14) dX7_copy_11 (by decide) rfl (fun _ => ?_) (fun c11 => absurd c11 (by decide))
      have y1 := z1
      obtain ⟨a, ha, rfl⟩ := inR_nat (by decide) z1
      have y8 := z8
      obtain ⟨b, hb, rfl⟩ := inR_nat (by decide) z8
      refine g_aload_n (q := 18) dX7_copy_17 rfl rfl ?_
      refine g_iload_n (q := 19) dX7_copy_18 rfl rfl ?_
      refine k_X7_78 (q := 22) rfl (Nat.le_of_ble_eq_true rfl) (by first | assumption | rfl) dX7_copy_19 rfl (c_X7_isMissing (by omega) (fun z19 => ?_) (fun z19 => ?_))
      · have qna : S.1 a = none := (hr.1 a (by omega)).elim (fun w => w.1) (fun ⟨l, z, it, w1, e1, e2, hl, hz, hit⟩ => absurd (e1.symm.trans z19) (nI_none (by omega)))
        refine g_if_ne (tgt := 33) (q := 25) dX7_copy_22 (by decide) rfl (fun _ => ?_) (fun c22 => absurd c22 (by decide))
        refine g_aload_n (q := 34) dX7_copy_33 rfl rfl ?_
        refine g_iconst (q := 35) (v := nI 1) dX7_copy_34 rfl (by decide) ?_
        refine k_X7_71 (q := 38) rfl (Nat.le_of_ble_eq_true rfl) (by first | assumption | rfl) dX7_copy_35 rfl (c_X7_found ?_)
        refine g_iret rfl dX7_copy_38 (Nat.le_refl _) (Nat.le_refl _) ?_
        rw [copyS, if_pos y1, if_pos y8, nI_clamp (by omega), nI_clamp (by omega)] at h
        simp only [qna] at h
        exact h _ (hr.fnd (by decide)) (FrM.ui (by decide))
      · obtain ⟨la, za, ita, qa, e1a, e2a, hla, hza, hita⟩ : ∃ l z it, S.1 a = some (l, z, it) ∧ I 53 a = nI l ∧ I 54 a = nI z ∧ l < 3 ∧ z ≤ 40 ∧ ∀ j, j < z → I 55 (40 * a + j) = it j := (hr.1 a (by omega)).elim (fun w => absurd w.2 z19) id
        refine g_if_ne (tgt := 33) (q := 25) dX7_copy_22 (by decide) rfl (fun c22 => absurd c22 (by decide)) (fun _ => ?_)
        refine g_aload_n (q := 26) dX7_copy_25 rfl rfl ?_
        refine g_iload_n (q := 27) dX7_copy_26 rfl rfl ?_
        refine k_X7_78 (q := 30) rfl (Nat.le_of_ble_eq_true rfl) (by first | assumption | rfl) dX7_copy_27 rfl (c_X7_isMissing (by omega) (fun z27 => ?_) (fun z27 => ?_))
        · have qnb : S.1 b = none := (hr.1 b (by omega)).elim (fun w => w.1) (fun ⟨l, z, it, w1, e1, e2, hl, hz, hit⟩ => absurd (e1.symm.trans z27) (nI_none (by omega)))
          refine g_if_eq (tgt := 39) (q := 33) dX7_copy_30 (by decide) rfl (fun c30 => absurd c30 (by decide)) (fun _ => ?_)
          refine g_aload_n (q := 34) dX7_copy_33 rfl rfl ?_
          refine g_iconst (q := 35) (v := nI 1) dX7_copy_34 rfl (by decide) ?_
          refine k_X7_71 (q := 38) rfl (Nat.le_of_ble_eq_true rfl) (by first | assumption | rfl) dX7_copy_35 rfl (c_X7_found ?_)
          refine g_iret rfl dX7_copy_38 (Nat.le_refl _) (Nat.le_refl _) ?_
          rw [copyS, if_pos y1, if_pos y8, nI_clamp (by omega), nI_clamp (by omega)] at h
          simp only [qa, qnb] at h
          exact h _ (hr.fnd (by decide)) (FrM.ui (by decide))
        · obtain ⟨lb, zb, itb, qb, e1b, e2b, hlb, hzb, hitb⟩ : ∃ l z it, S.1 b = some (l, z, it) ∧ I 53 b = nI l ∧ I 54 b = nI z ∧ l < 3 ∧ z ≤ 40 ∧ ∀ j, j < z → I 55 (40 * b + j) = it j := (hr.1 b (by omega)).elim (fun w => absurd w.2 z27) id
          refine g_if_eq (tgt := 39) (q := 33) dX7_copy_30 (by decide) rfl (fun _ => ?_) (fun c30 => absurd c30 (by decide))
          refine g_aload_n (q := 40) dX7_copy_39 rfl rfl ?_
          refine gf_X7_7 (q := 43) rfl (by first | assumption | rfl) (by first | assumption | rfl) dX7_copy_40 rfl ?_
          refine g_iload_n (q := 44) dX7_copy_43 rfl rfl ?_
          refine g_ialdn (q := 45) (by first | assumption | rfl) (by repeat' first | apply nI_a | apply nI_m | exact rfl) (by omega) dX7_copy_44 rfl ?_
          rw [e1a]
          refine g_aload_n (q := 46) dX7_copy_45 rfl rfl ?_
          refine gf_X7_7 (q := 49) rfl (by first | assumption | rfl) (by first | assumption | rfl) dX7_copy_46 rfl ?_
          refine g_iload_n (q := 50) dX7_copy_49 rfl rfl ?_
          refine g_ialdn (q := 51) (by first | assumption | rfl) (by repeat' first | apply nI_a | apply nI_m | exact rfl) (by omega) dX7_copy_50 rfl ?_
          rw [e1b]
          refine g_icmp_eq (tgt := 60) (q := 54) dX7_copy_51 (by decide) rfl (fun c51 => ?_) (fun c51 => ?_)
          · refine g_aload_n (q := 61) dX7_copy_60 rfl rfl ?_
            refine g_iload_n (q := 62) dX7_copy_61 rfl rfl ?_
            refine g_iload_n (q := 63) dX7_copy_62 rfl rfl ?_
            refine g_iload (q := 65) dX7_copy_63 rfl rfl ?_
            refine k_X7_85 (q := 68) rfl (Nat.le_of_ble_eq_true rfl) (by first | assumption | rfl) dX7_copy_65 rfl (c_X7_isPart (by omega) (fun u1 u2 u3 u4 => ?_) (fun z65 => ?_))
            · have z65 : hold za _ _ := ⟨u1, u2, by rw [← e2a]; exact u3, by rw [← e2a]; exact u4⟩
              refine g_if_eq (tgt := 83) (q := 71) dX7_copy_68 (by decide) rfl (fun c68 => absurd c68 (by decide)) (fun _ => ?_)
              refine g_aload_n (q := 72) dX7_copy_71 rfl rfl ?_
              refine g_iload_n (q := 73) dX7_copy_72 rfl rfl ?_
              refine g_iload (q := 75) dX7_copy_73 rfl rfl ?_
              refine g_iload (q := 77) dX7_copy_75 rfl rfl ?_
              refine k_X7_85 (q := 80) rfl (Nat.le_of_ble_eq_true rfl) (by first | assumption | rfl) dX7_copy_77 rfl (c_X7_isPart (by omega) (fun u1 u2 u3 u4 => ?_) (fun z77 => ?_))
              · have z77 : hold zb _ _ := ⟨u1, u2, by rw [← e2b]; exact u3, by rw [← e2b]; exact u4⟩
                refine g_if_ne (tgt := 89) (q := 83) dX7_copy_80 (by decide) rfl (fun _ => ?_) (fun c80 => absurd c80 (by decide))
                have y65 := z65
                have y77 := z77
                obtain ⟨x, n, rfl, rfl, hxn⟩ := hold_nat hza z65
                obtain ⟨y, n2, rfl, en, hyn⟩ := hold_nat hzb z77
                have en := (nI_eq (by omega) (by omega)).mp en
                subst en
                refine g_iconst (q := 90) (v := nI 0) dX7_copy_89 rfl (by decide) ?_
                refine g_istore (q := 92) dX7_copy_90 rfl (by decide) rfl rfl ?_
                have hl := l_mcopy1 (D := d + 2) (k := k) (a := a) (b := b) (x := x) (y := y) (n := n) (Z := Zm Q 68 68 0 0) (n0 := 68) (I := I) (by omega) (by omega) ?_ n 0 (Nat.zero_add n)
                · rw [cpI_0] at hl
                  exact hl
                refine g_iconst (q := 127) (v := nI 0) dX7_copy_126 rfl (by decide) ?_
                refine g_istore (q := 129) dX7_copy_127 rfl (by decide) rfl rfl ?_
                have hl := l_mcopy2 (D := d + 2) (k := k) (a := a) (b := b) (x := x) (y := y) (n := n) (Z := Zm Q 68 68 0 0) (n0 := 68) (I := cpI I 55 (40 * a + x) 56 0 n) (by omega) (by omega) ?_ n 0 (Nat.zero_add n)
                · rw [cpI_0] at hl
                  exact hl
                refine g_aload_n (q := 165) dX7_copy_164 rfl rfl ?_
                refine g_iload (q := 167) dX7_copy_165 rfl rfl ?_
                refine k_X7_75 (q := 170) rfl (Nat.le_of_ble_eq_true rfl) (by first | assumption | rfl) dX7_copy_167 rfl (c_X7_well ?_)
                refine g_iret rfl dX7_copy_170 (Nat.le_refl _) (Nat.le_refl _) ?_
                rw [copyS, if_pos y1, if_pos y8, nI_clamp (by omega), nI_clamp (by omega)] at h
                simp only [qa, qb] at h
                rw [if_pos c51, if_pos y65, if_pos y77, nI_clamp (by omega), nI_clamp (by omega), nI_clamp (by omega)] at h
                refine h _ ?_ (FrM.tr (fun p hp => ?_) (FrM.ui (by decide)))
                · refine RepM.fnd (x := 0) (RepM.rows hr (MRows.up (r := b) hr.1 (fun q hq => ?_) (fun q hq => ?_) (fun q hq j hj => ?_) (Or.inr ⟨lb, zb, _, rfl, ?_, ?_, hlb, hzb, fun j hj => ?_⟩)) (fun p hp => ?_)) (by decide)
                  · rw [cpI_ne (by decide), cpI_ne (by decide)]
                  · rw [cpI_ne (by decide), cpI_ne (by decide)]
                  · have : ¬ (40 * b + y ≤ 40 * q + j ∧ 40 * q + j < 40 * b + y + n) := by omega
                    rw [cpI, if_neg (fun z => this z.2), cpI_ne (by decide)]
                  · rw [cpI_ne (by decide), cpI_ne (by decide)]; exact e1b
                  · rw [cpI_ne (by decide), cpI_ne (by decide)]; exact e2b
                  · simp only [va_cpy]
                    by_cases hc : y ≤ j ∧ j < y + n
                    · rw [if_pos hc, show 40 * b + j = 40 * b + y + (j - y) by omega, cpI_eq (by omega), cpI_eq (by omega), Nat.add_assoc]
                      exact hita _ (by omega)
                    · rw [if_neg hc]
                      have : ¬ (40 * b + y ≤ 40 * b + j ∧ 40 * b + j < 40 * b + y + n) := by omega
                      rw [cpI, if_neg (fun z => this z.2), cpI_ne (by decide)]
                      exact hitb j hj
                  · rw [cpI_ne (by omega), cpI_ne (by omega)]
                · rw [cpI_ne (by omega), cpI_ne (by omega)]
              · rw [e2b] at z77
                refine g_if_ne (tgt := 89) (q := 83) dX7_copy_80 (by decide) rfl (fun c80 => absurd c80 (by decide)) (fun _ => ?_)
                refine g_aload_n (q := 84) dX7_copy_83 rfl rfl ?_
                refine g_iconst (q := 85) (v := nI 2) dX7_copy_84 rfl (by decide) ?_
                refine k_X7_71 (q := 88) rfl (Nat.le_of_ble_eq_true rfl) (by first | assumption | rfl) dX7_copy_85 rfl (c_X7_found ?_)
                refine g_iret rfl dX7_copy_88 (Nat.le_refl _) (Nat.le_refl _) ?_
                rw [copyS, if_pos y1, if_pos y8, nI_clamp (by omega), nI_clamp (by omega)] at h
                simp only [qa, qb] at h
                rw [if_pos c51, if_pos z65, if_neg z77] at h
                exact h _ (hr.fnd (by decide)) (FrM.ui (by decide))
            · rw [e2a] at z65
              refine g_if_eq (tgt := 83) (q := 71) dX7_copy_68 (by decide) rfl (fun _ => ?_) (fun c68 => absurd c68 (by decide))
              refine g_aload_n (q := 84) dX7_copy_83 rfl rfl ?_
              refine g_iconst (q := 85) (v := nI 2) dX7_copy_84 rfl (by decide) ?_
              refine k_X7_71 (q := 88) rfl (Nat.le_of_ble_eq_true rfl) (by first | assumption | rfl) dX7_copy_85 rfl (c_X7_found ?_)
              refine g_iret rfl dX7_copy_88 (Nat.le_refl _) (Nat.le_refl _) ?_
              rw [copyS, if_pos y1, if_pos y8, nI_clamp (by omega), nI_clamp (by omega)] at h
              simp only [qa, qb] at h
              rw [if_pos c51, if_neg z65] at h
              exact h _ (hr.fnd (by decide)) (FrM.ui (by decide))
          · refine g_aload_n (q := 55) dX7_copy_54 rfl rfl ?_
            refine g_iconst (q := 56) (v := nI 5) dX7_copy_55 rfl (by decide) ?_
            refine k_X7_71 (q := 59) rfl (Nat.le_of_ble_eq_true rfl) (by first | assumption | rfl) dX7_copy_56 rfl (c_X7_found ?_)
            refine g_iret rfl dX7_copy_59 (Nat.le_refl _) (Nat.le_refl _) ?_
            rw [copyS, if_pos y1, if_pos y8, nI_clamp (by omega), nI_clamp (by omega)] at h
            simp only [qa, qb] at h
            rw [if_neg c51] at h
            exact h _ (hr.fnd (by decide)) (FrM.ui (by decide))
    · refine g_if_ne (tgt := 17) (q := 14) dX7_copy_11 (by decide) rfl (fun c11 => absurd c11 (by decide)) (fun _ => ?_)
      refine lc_X7_70 (q := 16) rfl dX7_copy_14 rfl ?_
      refine g_iret rfl dX7_copy_16 (Nat.le_refl _) (Nat.le_refl _) ?_
      rw [copyS, if_pos z1, if_neg z8] at h
      exact h I hr FrM.rf
  · refine g_if_eq (tgt := 14) (q := 7) dX7_copy_4 (by decide) rfl (fun _ => ?_) (fun c4 => absurd c4 (by decide))
    refine lc_X7_70 (q := 16) rfl dX7_copy_14 rfl ?_
    refine g_iret rfl dX7_copy_16 (Nat.le_refl _) (Nat.le_refl _) ?_
    rw [copyS, if_neg z1] at h
    exact h I hr FrM.rf
set_option maxRecDepth 100000 in
set_option maxHeartbeats 400000 in
theorem c_X7_fault {d k : Nat} {I : Nat → Nat → Int32} {Q : Option Int32 → Wd → Prop} {S : Sg} (hr : RepM I S) (h : Q (some (nI S.2.2.2.1)) (I, RR k)) : Ex d 0 0 mX7_fault [.ref 52] 68 (I, RR k) 68 Q := by
  refine ex_intro (L0 := [.ref 52]) (by decide +kernel) rfl rfl (Nat.le_of_ble_eq_true rfl) rfl ?_
  refine g_aload_n (q := 1) dX7_fault_0 rfl rfl ?_
  refine gf_X7_114 (q := 4) rfl (by first | assumption | rfl) dX7_fault_1 rfl ?_
  rw [hr.2.2.2.1.1]
  refine g_iret rfl dX7_fault_4 (Nat.le_refl _) (Nat.le_refl _) ?_
  exact h
set_option maxRecDepth 100000 in
set_option maxHeartbeats 400000 in
theorem c_X7_status {d k : Nat} {I : Nat → Nat → Int32} {Q : Option Int32 → Wd → Prop} {S : Sg} (hr : RepM I S) (h : Q (some (nI S.2.1)) (I, RR k)) : Ex d 0 0 mX7_status [.ref 52] 68 (I, RR k) 68 Q := by
  refine ex_intro (L0 := [.ref 52]) (by decide +kernel) rfl rfl (Nat.le_of_ble_eq_true rfl) rfl ?_
  refine g_aload_n (q := 1) dX7_status_0 rfl rfl ?_
  refine gf_X7_57 (q := 4) rfl (by first | assumption | rfl) dX7_status_1 rfl ?_
  rw [hr.2.1.1]
  refine g_iret rfl dX7_status_4 (Nat.le_refl _) (Nat.le_refl _) ?_
  exact h
set_option maxRecDepth 100000 in
set_option maxHeartbeats 400000 in
theorem c_X7_isWeave {d k : Nat} {I : Nat → Nat → Int32} {Q : Option Int32 → Wd → Prop} {v : Vv} (hM : MRep I 58 0 v) (hV : VOk v) (h1 : ¬ vnm v = 0 → Q (some (nI 1)) (I, RR k)) (h0 : vnm v = 0 → Q (some (nI 0)) (I, RR k)) : Ex d 0 0 mX7_isWeave [.ref 52] 68 (I, RR k) 68 Q := by
  have v1 := hV.1
  refine ex_intro (L0 := [.ref 52]) (by decide +kernel) rfl rfl (Nat.le_of_ble_eq_true rfl) rfl ?_
  refine g_aload_n (q := 1) dX7_isWeave_0 rfl rfl ?_
  refine gf_X7_25 (q := 4) rfl (by first | assumption | rfl) (by first | assumption | rfl) dX7_isWeave_1 rfl ?_
  refine g_iconst (q := 5) (v := nI 0) dX7_isWeave_4 rfl (by decide) ?_
  refine g_ialdn (q := 6) (by first | assumption | rfl) (by repeat' first | apply nI_a | apply nI_m | exact rfl) (by omega) dX7_isWeave_5 rfl ?_
  rw [hM.nm]
  refine g_if_le (tgt := 13) (q := 9) dX7_isWeave_6 (by decide) rfl (fun c6 => ?_) (fun c6 => ?_)
  · refine g_iconst (q := 14) (v := nI 0) dX7_isWeave_13 rfl (by decide) ?_
    refine g_zret rfl (by decide) dX7_isWeave_14 (Nat.le_refl _) (Nat.le_refl _) ?_
    exact h0 (by have : nI (vnm v) ≤ nI 0 := c6; have := (nI_leI (by omega) (by omega)).mp this; omega)
  · refine g_iconst (q := 10) (v := nI 1) dX7_isWeave_9 rfl (by decide) ?_
    refine g_goto (q := 14) dX7_isWeave_10 (by decide) ?_
    refine g_zret rfl (by decide) dX7_isWeave_14 (Nat.le_refl _) (Nat.le_refl _) ?_
    exact h1 (fun z => c6 (by rw [z]; decide))
set_option maxRecDepth 100000 in
set_option maxHeartbeats 400000 in
theorem c_X7_isMethod {d k : Nat} {I : Nat → Nat → Int32} {Q : Option Int32 → Wd → Prop} {v : Vv} {x : Int32} (hM : MRep I 58 0 v) (h1 : inM v x → Q (some (nI 1)) (I, RR k)) (h0 : ¬ inM v x → Q (some (nI 0)) (I, RR k)) : Ex (d + 1) 0 0 mX7_isMethod [.ref 52, .int x] 68 (I, RR k) 68 Q := by
  refine ex_intro (L0 := [.ref 52, .int x]) (by decide +kernel) rfl rfl (Nat.le_of_ble_eq_true rfl) rfl ?_
  refine g_iload_n (q := 1) dX7_isMethod_0 rfl rfl ?_
  refine g_iconst (q := 2) (v := nI 0) dX7_isMethod_1 rfl (by decide) ?_
  refine g_aload_n (q := 3) dX7_isMethod_2 rfl rfl ?_
  refine gf_X7_25 (q := 6) rfl (by first | assumption | rfl) (by first | assumption | rfl) dX7_isMethod_3 rfl ?_
  refine g_iconst (q := 7) (v := nI 0) dX7_isMethod_6 rfl (by decide) ?_
  refine g_ialdn (q := 8) (by first | assumption | rfl) (by repeat' first | apply nI_a | apply nI_m | exact rfl) (by omega) dX7_isMethod_7 rfl ?_
  rw [hM.nm]
  refine g_iconst (q := 9) (v := nI 1) dX7_isMethod_8 rfl (by decide) ?_
  refine g_isub (q := 10) dX7_isMethod_9 rfl ?_
  refine k_X7_62 (q := 13) rfl (Nat.le_of_ble_eq_true rfl) dX7_isMethod_10 rfl (c_X7_in (fun z101 z102 => ?_) (fun z10 => ?_))
  · have z10 := And.intro z101 z102
    refine g_zret rfl (by decide) dX7_isMethod_13 (Nat.le_refl _) (Nat.le_refl _) ?_
    exact h1 z10
  · refine g_zret rfl (by decide) dX7_isMethod_13 (Nat.le_refl _) (Nat.le_refl _) ?_
    exact h0 z10
set_option maxRecDepth 100000 in
set_option maxHeartbeats 400000 in
theorem c_X7_isAdvice {d k : Nat} {I : Nat → Nat → Int32} {Q : Option Int32 → Wd → Prop} {v : Vv} {x : Int32} (hM : MRep I 58 0 v) (h1 : inA v x → Q (some (nI 1)) (I, RR k)) (h0 : ¬ inA v x → Q (some (nI 0)) (I, RR k)) : Ex (d + 1) 0 0 mX7_isAdvice [.ref 52, .int x] 68 (I, RR k) 68 Q := by
  refine ex_intro (L0 := [.ref 52, .int x]) (by decide +kernel) rfl rfl (Nat.le_of_ble_eq_true rfl) rfl ?_
  refine g_iload_n (q := 1) dX7_isAdvice_0 rfl rfl ?_
  refine g_iconst (q := 2) (v := nI 0) dX7_isAdvice_1 rfl (by decide) ?_
  refine g_aload_n (q := 3) dX7_isAdvice_2 rfl rfl ?_
  refine gf_X7_25 (q := 6) rfl (by first | assumption | rfl) (by first | assumption | rfl) dX7_isAdvice_3 rfl ?_
  refine g_iconst (q := 7) (v := nI 1) dX7_isAdvice_6 rfl (by decide) ?_
  refine g_ialdn (q := 8) (by first | assumption | rfl) (by repeat' first | apply nI_a | apply nI_m | exact rfl) (by omega) dX7_isAdvice_7 rfl ?_
  rw [hM.na]
  refine g_iconst (q := 9) (v := nI 1) dX7_isAdvice_8 rfl (by decide) ?_
  refine g_isub (q := 10) dX7_isAdvice_9 rfl ?_
  refine k_X7_62 (q := 13) rfl (Nat.le_of_ble_eq_true rfl) dX7_isAdvice_10 rfl (c_X7_in (fun z101 z102 => ?_) (fun z10 => ?_))
  · have z10 := And.intro z101 z102
    refine g_zret rfl (by decide) dX7_isAdvice_13 (Nat.le_refl _) (Nat.le_refl _) ?_
    exact h1 z10
  · refine g_zret rfl (by decide) dX7_isAdvice_13 (Nat.le_refl _) (Nat.le_refl _) ?_
    exact h0 z10
set_option maxRecDepth 100000 in
set_option maxHeartbeats 400000 in
theorem c_X7_kindIn {d k : Nat} {I : Nat → Nat → Int32} {Q : Option Int32 → Wd → Prop} {v : Vv} {a : Nat} (hM : MRep I 58 0 v) (hV : VOk v) (ha : a < vna v) (h : Q (some (nI (vfa v a 5))) (I, RR k)) : Ex d 0 0 mX7_kindIn [.ref 52, .int (nI a)] 68 (I, RR k) 68 Q := by
  have v2 := hV.2.1
  refine ex_intro (L0 := [.ref 52, .int (nI a)]) (by decide +kernel) rfl rfl (Nat.le_of_ble_eq_true rfl) rfl ?_
  refine g_aload_n (q := 1) dX7_kindIn_0 rfl rfl ?_
  refine gf_X7_25 (q := 4) rfl (by first | assumption | rfl) (by first | assumption | rfl) dX7_kindIn_1 rfl ?_
  refine g_bipush (q := 6) (v := nI 62) dX7_kindIn_4 rfl (by decide) ?_
  refine g_bipush (q := 8) (v := nI 6) dX7_kindIn_6 rfl (by decide) ?_
  refine g_iload_n (q := 9) dX7_kindIn_8 rfl rfl ?_
  refine g_imul (q := 10) dX7_kindIn_9 rfl ?_
  refine g_iadd (q := 11) dX7_kindIn_10 rfl ?_
  refine g_ialdn (q := 12) (by first | assumption | rfl) (by repeat' first | apply nI_a | apply nI_m | exact rfl) (by omega) dX7_kindIn_11 rfl ?_
  rw [hM.kd ha]
  refine g_iret rfl dX7_kindIn_12 (Nat.le_refl _) (Nat.le_refl _) ?_
  exact h
set_option maxRecDepth 100000 in
set_option maxHeartbeats 400000 in
theorem c_X7_kind {d k : Nat} {I : Nat → Nat → Int32} {Q : Option Int32 → Wd → Prop} {S : Sg} {x : Int32} (hr : RepM I S) (h : ∀ I2, RepM I2 (kindS S x).2 → FrM I I2 → Q (some (kindS S x).1) (I2, RR k)) : Ex (d + 2) 0 0 mX7_kind [.ref 52, .int x] 68 (I, RR k) 68 Q := by
  have hVg : VOk (gv S) := hr.2.2.2.2.1.2
  have hMg : MRep I 58 0 (gv S) := hr.2.2.2.2.1.1
  obtain ⟨v1, v2, v3, v4⟩ := id hVg

  refine ex_intro (L0 := [.ref 52, .int x]) (by decide +kernel) rfl rfl (Nat.le_of_ble_eq_true rfl) rfl ?_
  refine g_aload_n (q := 1) dX7_kind_0 rfl rfl ?_
  refine g_iload_n (q := 2) dX7_kind_1 rfl rfl ?_
  refine k_X7_232 (q := 5) rfl (Nat.le_of_ble_eq_true rfl) (by first | assumption | rfl) dX7_kind_2 rfl (c_X7_isAdvice hMg (fun z2 => ?_) (fun z2 => ?_))
  · refine g_if_eq (tgt := 16) (q := 8) dX7_kind_5 (by decide) rfl (fun c5 => absurd c5 (by decide)) (fun _ => ?_)
    have y2 := z2
    obtain ⟨a, ha, rfl⟩ := in1_nat (by omega) z2
    refine g_aload_n (q := 9) dX7_kind_8 rfl rfl ?_
    refine g_iload_n (q := 10) dX7_kind_9 rfl rfl ?_
    refine k_X7_263 (q := 13) rfl (Nat.le_of_ble_eq_true rfl) (by first | assumption | rfl) dX7_kind_10 rfl (c_X7_kindIn hMg hVg (by assumption) ?_)
    refine g_goto (q := 18) dX7_kind_13 (by decide) ?_
    refine g_iret rfl dX7_kind_18 (Nat.le_refl _) (Nat.le_refl _) ?_
    rw [kindS, if_pos y2, nI_clamp (by omega)] at h
    exact h I hr FrM.rf
  · refine g_if_eq (tgt := 16) (q := 8) dX7_kind_5 (by decide) rfl (fun _ => ?_) (fun c5 => absurd c5 (by decide))
    refine lc_X7_70 (q := 18) rfl dX7_kind_16 rfl ?_
    refine g_iret rfl dX7_kind_18 (Nat.le_refl _) (Nat.le_refl _) ?_
    rw [kindS, if_neg z2] at h
    exact h I hr FrM.rf
set_option maxRecDepth 100000 in
set_option maxHeartbeats 400000 in
theorem c_X7_advice {d k : Nat} {I : Nat → Nat → Int32} {Q : Option Int32 → Wd → Prop} {S : Sg} {x w : Int32} (hr : RepM I S) (h : ∀ I2, RepM I2 (adviceS S x w).2 → FrM I I2 → Q (some (adviceS S x w).1) (I2, RR k)) : Ex (d + 2) 0 0 mX7_advice [.ref 52, .int x, .int w] 68 (I, RR k) 68 Q := by
  have hVg : VOk (gv S) := hr.2.2.2.2.1.2
  have hMg : MRep I 58 0 (gv S) := hr.2.2.2.2.1.1
  obtain ⟨v1, v2, v3, v4⟩ := id hVg

  refine ex_intro (L0 := [.ref 52, .int x, .int w]) (by decide +kernel) rfl rfl (Nat.le_of_ble_eq_true rfl) rfl ?_
  refine g_aload_n (q := 1) dX7_advice_0 rfl rfl ?_
  refine g_iload_n (q := 2) dX7_advice_1 rfl rfl ?_
  refine k_X7_232 (q := 5) rfl (Nat.le_of_ble_eq_true rfl) (by first | assumption | rfl) dX7_advice_2 rfl (c_X7_isAdvice hMg (fun z2 => ?_) (fun z2 => ?_))
  · refine g_if_eq (tgt := 36) (q := 8) dX7_advice_5 (by decide) rfl (fun c5 => absurd c5 (by decide)) (fun _ => ?_)
    refine g_iload_n (q := 9) dX7_advice_8 rfl rfl ?_
    refine g_iconst (q := 10) (v := nI 0) dX7_advice_9 rfl (by decide) ?_
    refine g_iconst (q := 11) (v := nI 4) dX7_advice_10 rfl (by decide) ?_
    refine k_X7_62 (q := 14) rfl (Nat.le_of_ble_eq_true rfl) dX7_advice_11 rfl (c_X7_in (fun z111 z112 => ?_) (fun z11 => ?_))
    · have z11 := And.intro z111 z112
      refine g_if_eq (tgt := 36) (q := 17) dX7_advice_14 (by decide) rfl (fun c14 => absurd c14 (by decide)) (fun _ => ?_)
      have y2 := z2
      obtain ⟨a, ha, rfl⟩ := in1_nat (by omega) z2
      have y11 := z11
      obtain ⟨f, hf, rfl⟩ := inR_nat (by decide) z11
      refine g_aload_n (q := 18) dX7_advice_17 rfl rfl ?_
      refine gf_X7_25 (q := 21) rfl (by first | assumption | rfl) (by first | assumption | rfl) dX7_advice_18 rfl ?_
      refine g_bipush (q := 23) (v := nI 62) dX7_advice_21 rfl (by decide) ?_
      refine g_bipush (q := 25) (v := nI 6) dX7_advice_23 rfl (by decide) ?_
      refine g_iload_n (q := 26) dX7_advice_25 rfl rfl ?_
      refine g_imul (q := 27) dX7_advice_26 rfl ?_
      refine g_iadd (q := 28) dX7_advice_27 rfl ?_
      refine g_iconst (q := 29) (v := nI 1) dX7_advice_28 rfl (by decide) ?_
      refine g_iadd (q := 30) dX7_advice_29 rfl ?_
      refine g_iload_n (q := 31) dX7_advice_30 rfl rfl ?_
      refine g_iadd (q := 32) dX7_advice_31 rfl ?_
      refine g_ialdn (q := 33) (by first | assumption | rfl) (by repeat' first | apply nI_a | apply nI_m | exact rfl) (by omega) dX7_advice_32 rfl ?_
      rw [hMg.fa ha (by omega)]
      refine g_goto (q := 38) dX7_advice_33 (by decide) ?_
      refine g_iret rfl dX7_advice_38 (Nat.le_refl _) (Nat.le_refl _) ?_
      rw [adviceS, if_pos y2, if_pos y11, nI_clamp (by omega), nI_clamp (by omega)] at h
      exact h I hr FrM.rf
    · refine g_if_eq (tgt := 36) (q := 17) dX7_advice_14 (by decide) rfl (fun _ => ?_) (fun c14 => absurd c14 (by decide))
      refine lc_X7_70 (q := 38) rfl dX7_advice_36 rfl ?_
      refine g_iret rfl dX7_advice_38 (Nat.le_refl _) (Nat.le_refl _) ?_
      rw [adviceS, if_pos z2, if_neg z11] at h
      exact h I hr FrM.rf
  · refine g_if_eq (tgt := 36) (q := 8) dX7_advice_5 (by decide) rfl (fun _ => ?_) (fun c5 => absurd c5 (by decide))
    refine lc_X7_70 (q := 38) rfl dX7_advice_36 rfl ?_
    refine g_iret rfl dX7_advice_38 (Nat.le_refl _) (Nat.le_refl _) ?_
    rw [adviceS, if_neg z2] at h
    exact h I hr FrM.rf
set_option maxRecDepth 100000 in
set_option maxHeartbeats 400000 in
theorem c_X7_trace {d k : Nat} {I : Nat → Nat → Int32} {Q : Option Int32 → Wd → Prop} {S : Sg} {x : Int32} (hr : RepM I S) (h : ∀ I2, RepM I2 (traceS S x).2 → FrM I I2 → Q (some (traceS S x).1) (I2, RR k)) : Ex (d + 2) 0 0 mX7_trace [.ref 52, .int x] 68 (I, RR k) 68 Q := by
  obtain ⟨t1, t2, t3⟩ := id hr.2.2.2.2.2.2.2
  refine ex_intro (L0 := [.ref 52, .int x]) (by decide +kernel) rfl rfl (Nat.le_of_ble_eq_true rfl) rfl ?_
  refine g_iload_n (q := 1) dX7_trace_0 rfl rfl ?_
  refine g_iconst (q := 2) (v := nI 0) dX7_trace_1 rfl (by decide) ?_
  refine g_aload_n (q := 3) dX7_trace_2 rfl rfl ?_
  refine gf_X7_266 (q := 6) rfl (by first | assumption | rfl) dX7_trace_3 rfl ?_
  rw [t1]
  refine g_iconst (q := 7) (v := nI 1) dX7_trace_6 rfl (by decide) ?_
  refine g_isub (q := 8) dX7_trace_7 rfl ?_
  refine k_X7_62 (q := 11) rfl (Nat.le_of_ble_eq_true rfl) dX7_trace_8 rfl (c_X7_in (fun z81 z82 => ?_) (fun z8 => ?_))
  · have z8 := And.intro z81 z82
    refine g_if_eq (tgt := 23) (q := 14) dX7_trace_11 (by decide) rfl (fun c11 => absurd c11 (by decide)) (fun _ => ?_)
    have y8 := z8
    obtain ⟨i, hi, rfl⟩ := in1_nat (by omega) z8
    refine g_aload_n (q := 15) dX7_trace_14 rfl rfl ?_
    refine gf_X7_53 (q := 18) rfl (by first | assumption | rfl) (by first | assumption | rfl) dX7_trace_15 rfl ?_
    refine g_iload_n (q := 19) dX7_trace_18 rfl rfl ?_
    refine g_ialdn (q := 20) (by first | assumption | rfl) (by repeat' first | apply nI_a | apply nI_m | exact rfl) (by omega) dX7_trace_19 rfl ?_
    rw [t2 i hi]
    refine g_goto (q := 25) dX7_trace_20 (by decide) ?_
    refine g_iret rfl dX7_trace_25 (Nat.le_refl _) (Nat.le_refl _) ?_
    rw [traceS, if_pos ((in1_iff (by omega)).mp y8), nI_clamp (by omega)] at h
    exact h I hr FrM.rf
  · refine g_if_eq (tgt := 23) (q := 14) dX7_trace_11 (by decide) rfl (fun _ => ?_) (fun c11 => absurd c11 (by decide))
    refine lc_X7_56 (q := 25) rfl dX7_trace_23 rfl ?_
    refine g_iret rfl dX7_trace_25 (Nat.le_refl _) (Nat.le_refl _) ?_
    rw [traceS, if_neg (fun z => z8 ((in1_iff (by omega)).mpr z))] at h
    exact h I hr FrM.rf
set_option maxRecDepth 100000 in
set_option maxHeartbeats 400000 in
theorem c_X7_feed {d k : Nat} {I : Nat → Nat → Int32} {Q : Option Int32 → Wd → Prop} {S : Sg} {x : Int32} (hr : RepM I S) (h : ∀ I2, RepM I2 (feedS S x).2 → FrM I I2 → Q (some (feedS S x).1) (I2, RR k)) : Ex (d + 1) 0 0 mX7_feed [.ref 52, .int x] 68 (I, RR k) 68 Q := by
  obtain ⟨t1, t2, t3⟩ := id hr.2.2.1
  refine ex_intro (L0 := [.ref 52, .int x]) (by decide +kernel) rfl rfl (Nat.le_of_ble_eq_true rfl) rfl ?_
  refine g_iload_n (q := 1) dX7_feed_0 rfl rfl ?_
  refine g_iconst (q := 2) (v := nI 0) dX7_feed_1 rfl (by decide) ?_
  refine g_sipush (q := 5) (v := nI 255) dX7_feed_2 rfl (by decide) ?_
  refine k_X7_62 (q := 8) rfl (Nat.le_of_ble_eq_true rfl) dX7_feed_5 rfl (c_X7_in (fun z51 z52 => ?_) (fun z5 => ?_))
  · have z5 := And.intro z51 z52
    refine g_if_ne (tgt := 14) (q := 11) dX7_feed_8 (by decide) rfl (fun _ => ?_) (fun c8 => absurd c8 (by decide))
    refine g_aload_n (q := 15) dX7_feed_14 rfl rfl ?_
    refine gf_X7_88 (q := 18) rfl (by first | assumption | rfl) dX7_feed_15 rfl ?_
    rw [t1]
    refine g_sipush (q := 21) (v := nI 130) dX7_feed_18 rfl (by decide) ?_
    refine g_icmp_ne (tgt := 27) (q := 24) dX7_feed_21 (by decide) rfl (fun c21 => ?_) (fun c21 => ?_)
    · have hlt : S.2.2.1.length < 130 := by have : ¬ nI S.2.2.1.length = nI 130 := c21; have : ¬ S.2.2.1.length = 130 := (fun z => this (by rw [z])); omega
      have y5 := z5
      obtain ⟨x, hx, rfl⟩ := inR_nat (by decide) z5
      refine g_aload_n (q := 28) dX7_feed_27 rfl rfl ?_
      refine gf_X7_22 (q := 31) rfl (by first | assumption | rfl) (by first | assumption | rfl) dX7_feed_28 rfl ?_
      refine g_aload_n (q := 32) dX7_feed_31 rfl rfl ?_
      refine gf_X7_88 (q := 35) rfl (by first | assumption | rfl) dX7_feed_32 rfl ?_
      rw [t1]
      refine g_iload_n (q := 36) dX7_feed_35 rfl rfl ?_
      refine g_iastn (q := 37) (by first | assumption | rfl) (by repeat' first | apply nI_a | apply nI_m | exact rfl) (by omega) dX7_feed_36 rfl ?_
      refine g_aload_n (q := 38) dX7_feed_37 rfl rfl ?_
      refine g_dup (q := 39) dX7_feed_38 rfl rfl ?_
      refine gf_X7_88 (q := 42) rfl (by first | assumption | rfl) dX7_feed_39 rfl ?_
      rw [uI_ne (by decide), t1]
      refine g_iconst (q := 43) (v := nI 1) dX7_feed_42 rfl (by decide) ?_
      refine g_iadd (q := 44) dX7_feed_43 rfl ?_
      rw [nI_add]
      refine pf_X7_88 (q := 47) rfl (by first | assumption | rfl) dX7_feed_44 rfl ?_
      refine g_aload_n (q := 48) dX7_feed_47 rfl rfl ?_
      refine gf_X7_88 (q := 51) rfl (by first | assumption | rfl) dX7_feed_48 rfl ?_
      rw [uI_eq]
      refine g_iret rfl dX7_feed_51 (Nat.le_refl _) (Nat.le_refl _) ?_
      rw [feedS, if_pos y5, if_pos hlt, nI_clamp (by omega)] at h
      refine h _ ?_ (FrM.tr (FrM.ui (by decide)) (FrM.ui (by decide)))
      obtain ⟨h1, h2, h3, h4, h5, h6, h7, h8⟩ := hr
      have f : ∀ j, j ≠ 6 → uI (uI I 57 S.2.2.1.length (nI x)) 52 6 (nI (S.2.2.1.length + 1)) 52 j = I 52 j := fun j hj => by simp [uI, hj]
      have e : ∀ p, p ≠ 52 → p ≠ 57 → uI (uI I 57 S.2.2.1.length (nI x)) 52 6 (nI (S.2.2.1.length + 1)) p = I p := fun p h1 h2 => (uI_ne h1).trans (uI_ne h2)
      refine ⟨h1.eq (e 53 (by decide) (by decide)) (e 54 (by decide) (by decide)) (e 55 (by decide) (by decide)), ⟨(f 4 (by decide)).trans h2.1, h2.2⟩, ⟨?_, ?_, fun j hj => ?_⟩, ⟨(f 7 (by decide)).trans h4.1, h4.2⟩, ⟨h5.1.eq (e 58 (by decide) (by decide)), h5.2⟩, h6.eq (f 17 (by decide)) (e 61 (by decide) (by decide)), h7.eq (e 62 (by decide) (by decide)) (e 63 (by decide) (by decide)), h8.eq (f 31 (by decide)) (e 67 (by decide) (by decide))⟩
      · simp [uI]
      · simp only [List.length_append, List.length_cons, List.length_nil]; omega
      · have hj : j < S.2.2.1.length + 1 := by simpa using hj
        by_cases ej : j = S.2.2.1.length
        · subst ej; simp [uI]; omega
        · have e2 : j < S.2.2.1.length := by omega
          have e3 : uI (uI I 57 S.2.2.1.length (nI x)) 52 6 (nI (S.2.2.1.length + 1)) 57 j = I 57 j := by simp [uI, ej]
          rw [e3]
          have := t3 j e2
          simpa [List.getElem?_append_left e2] using this
    · refine lc_X7_91 (q := 26) rfl dX7_feed_24 rfl ?_
      refine g_iret rfl dX7_feed_26 (Nat.le_refl _) (Nat.le_refl _) ?_
      rw [feedS, if_pos z5, if_neg (by have : nI S.2.2.1.length = nI 130 := c21; have := (nI_eq (by omega) (by omega)).mp this; omega)] at h
      exact h I hr FrM.rf
  · refine g_if_ne (tgt := 14) (q := 11) dX7_feed_8 (by decide) rfl (fun c8 => absurd c8 (by decide)) (fun _ => ?_)
    refine lc_X7_70 (q := 13) rfl dX7_feed_11 rfl ?_
    refine g_iret rfl dX7_feed_13 (Nat.le_refl _) (Nat.le_refl _) ?_
    rw [feedS, if_neg z5] at h
    exact h I hr FrM.rf
