set_option maxRecDepth 100000 in
set_option maxHeartbeats 4000000 in
theorem c_X5_fact {d n : Nat} {I : Nat → Nat → Int32} {R : Nat → Nat → Option Nat} {Q : Option Int32 → Wd → Prop} {b a f : Nat} (hW : isWv R n b) (ha : a < 5) (hf : f < 6) (h : Q (some (I (b + 5) (a * 6 + f))) (I, R)) : Ex d 0 0 mX5_fact [.ref b, .int (nI a), .int (nI f)] n (I, R) n Q := by
  obtain ⟨hs, ⟨r0, s0⟩, ⟨r1, s1⟩, ⟨r2, s2⟩, ⟨r3, s3⟩, ⟨r4, s4⟩⟩ := hW
  refine ex_intro (L0 := [.ref b, .int (nI a), .int (nI f)]) (by decide +kernel) rfl rfl (Nat.le_of_ble_eq_true rfl) rfl ?_
  refine g_aload_n (q := 1) dX5_fact_0 rfl rfl ?_
  refine gf_X5_24 (q := 4) rfl (by first | assumption | rfl) (by first | assumption | rfl) dX5_fact_1 rfl ?_
  refine g_iload_n (q := 5) dX5_fact_4 rfl rfl ?_
  refine g_bipush (q := 7) (v := nI 6) dX5_fact_5 rfl (by decide) ?_
  refine g_imul (q := 8) dX5_fact_7 rfl ?_
  refine g_iload_n (q := 9) dX5_fact_8 rfl rfl ?_
  refine g_iadd (q := 10) dX5_fact_9 rfl ?_
  refine g_ialdn (q := 11) (by first | assumption | rfl) (by repeat' first | apply nI_a | apply nI_m | exact rfl) (by omega) dX5_fact_10 rfl ?_
  refine g_iret rfl dX5_fact_11 (Nat.le_refl _) (Nat.le_refl _) ?_
  exact h
set_option maxRecDepth 100000 in
set_option maxHeartbeats 4000000 in
theorem c_X5_putFact {d n : Nat} {I : Nat → Nat → Int32} {R : Nat → Nat → Option Nat} {Q : Option Int32 → Wd → Prop} {b a f : Nat} {v : Int32} (hW : isWv R n b) (ha : a < 5) (hf : f < 6) (h : Q none (uI I (b + 5) (a * 6 + f) v, R)) : Ex d 0 0 mX5_putFact [.ref b, .int (nI a), .int (nI f), .int v] n (I, R) n Q := by
  obtain ⟨hs, ⟨r0, s0⟩, ⟨r1, s1⟩, ⟨r2, s2⟩, ⟨r3, s3⟩, ⟨r4, s4⟩⟩ := hW
  refine ex_intro (L0 := [.ref b, .int (nI a), .int (nI f), .int v]) (by decide +kernel) rfl rfl (Nat.le_of_ble_eq_true rfl) rfl ?_
  refine g_aload_n (q := 1) dX5_putFact_0 rfl rfl ?_
  refine gf_X5_24 (q := 4) rfl (by first | assumption | rfl) (by first | assumption | rfl) dX5_putFact_1 rfl ?_
  refine g_iload_n (q := 5) dX5_putFact_4 rfl rfl ?_
  refine g_bipush (q := 7) (v := nI 6) dX5_putFact_5 rfl (by decide) ?_
  refine g_imul (q := 8) dX5_putFact_7 rfl ?_
  refine g_iload_n (q := 9) dX5_putFact_8 rfl rfl ?_
  refine g_iadd (q := 10) dX5_putFact_9 rfl ?_
  refine g_iload_n (q := 11) dX5_putFact_10 rfl rfl ?_
  refine g_iastn (q := 12) (by first | assumption | rfl) (by repeat' first | apply nI_a | apply nI_m | exact rfl) (by omega) dX5_putFact_11 rfl ?_
  refine g_vret rfl dX5_putFact_12 (Nat.le_refl _) (Nat.le_refl _) ?_
  exact h
set_option maxRecDepth 100000 in
set_option maxHeartbeats 4000000 in
theorem c_X5_methods {d n : Nat} {I : Nat → Nat → Int32} {R : Nat → Nat → Option Nat} {Q : Option Int32 → Wd → Prop} {b : Nat} (hW : isWv R n b) (h : Q (some (I b 5)) (I, R)) : Ex d 0 0 mX5_methods [.ref b] n (I, R) n Q := by
  obtain ⟨hs, ⟨r0, s0⟩, ⟨r1, s1⟩, ⟨r2, s2⟩, ⟨r3, s3⟩, ⟨r4, s4⟩⟩ := hW
  refine ex_intro (L0 := [.ref b]) (by decide +kernel) rfl rfl (Nat.le_of_ble_eq_true rfl) rfl ?_
  refine g_aload_n (q := 1) dX5_methods_0 rfl rfl ?_
  refine gf_X5_27 (q := 4) rfl (by first | assumption | rfl) dX5_methods_1 rfl ?_
  refine g_iret rfl dX5_methods_4 (Nat.le_refl _) (Nat.le_refl _) ?_
  exact h
set_option maxRecDepth 100000 in
set_option maxHeartbeats 4000000 in
theorem c_X5_adviceCount {d n : Nat} {I : Nat → Nat → Int32} {R : Nat → Nat → Option Nat} {Q : Option Int32 → Wd → Prop} {b : Nat} (hW : isWv R n b) (h : Q (some (I b 6)) (I, R)) : Ex d 0 0 mX5_adviceCount [.ref b] n (I, R) n Q := by
  obtain ⟨hs, ⟨r0, s0⟩, ⟨r1, s1⟩, ⟨r2, s2⟩, ⟨r3, s3⟩, ⟨r4, s4⟩⟩ := hW
  refine ex_intro (L0 := [.ref b]) (by decide +kernel) rfl rfl (Nat.le_of_ble_eq_true rfl) rfl ?_
  refine g_aload_n (q := 1) dX5_adviceCount_0 rfl rfl ?_
  refine gf_X5_31 (q := 4) rfl (by first | assumption | rfl) dX5_adviceCount_1 rfl ?_
  refine g_iret rfl dX5_adviceCount_4 (Nat.le_refl _) (Nat.le_refl _) ?_
  exact h
set_option maxRecDepth 100000 in
set_option maxHeartbeats 4000000 in
theorem c_X5_clear {d n : Nat} {I : Nat → Nat → Int32} {R : Nat → Nat → Option Nat} {Q : Option Int32 → Wd → Prop} {b : Nat} (hW : isWv R n b) (h : Q none (uI (uI I b 5 (nI 0)) b 6 (nI 0), R)) : Ex d 0 0 mX5_clear [.ref b] n (I, R) n Q := by
  obtain ⟨hs, ⟨r0, s0⟩, ⟨r1, s1⟩, ⟨r2, s2⟩, ⟨r3, s3⟩, ⟨r4, s4⟩⟩ := hW
  refine ex_intro (L0 := [.ref b]) (by decide +kernel) rfl rfl (Nat.le_of_ble_eq_true rfl) rfl ?_
  refine g_aload_n (q := 1) dX5_clear_0 rfl rfl ?_
  refine g_iconst (q := 2) (v := nI 0) dX5_clear_1 rfl (by decide) ?_
  refine pf_X5_27 (q := 5) rfl (by first | assumption | rfl) dX5_clear_2 rfl ?_
  refine g_aload_n (q := 6) dX5_clear_5 rfl rfl ?_
  refine g_iconst (q := 7) (v := nI 0) dX5_clear_6 rfl (by decide) ?_
  refine pf_X5_31 (q := 10) rfl (by first | assumption | rfl) dX5_clear_7 rfl ?_
  refine g_vret rfl dX5_clear_10 (Nat.le_refl _) (Nat.le_refl _) ?_
  exact h
set_option maxRecDepth 100000 in
set_option maxHeartbeats 4000000 in
theorem c_X5_classOf {d n : Nat} {I : Nat → Nat → Int32} {R : Nat → Nat → Option Nat} {Q : Option Int32 → Wd → Prop} {b a : Nat} (hW : isWv R n b) (ha : a < 6) (h : Q (some (I (b + 1) a)) (I, R)) : Ex d 0 0 mX5_classOf [.ref b, .int (nI a)] n (I, R) n Q := by
  obtain ⟨hs, ⟨r0, s0⟩, ⟨r1, s1⟩, ⟨r2, s2⟩, ⟨r3, s3⟩, ⟨r4, s4⟩⟩ := hW
  refine ex_intro (L0 := [.ref b, .int (nI a)]) (by decide +kernel) rfl rfl (Nat.le_of_ble_eq_true rfl) rfl ?_
  refine g_aload_n (q := 1) dX5_classOf_0 rfl rfl ?_
  refine gf_X5_9 (q := 4) rfl (by first | assumption | rfl) (by first | assumption | rfl) dX5_classOf_1 rfl ?_
  refine g_iload_n (q := 5) dX5_classOf_4 rfl rfl ?_
  refine g_ialdn (q := 6) (by first | assumption | rfl) (by repeat' first | apply nI_a | apply nI_m | exact rfl) (by omega) dX5_classOf_5 rfl ?_
  refine g_iret rfl dX5_classOf_6 (Nat.le_refl _) (Nat.le_refl _) ?_
  exact h
set_option maxRecDepth 100000 in
set_option maxHeartbeats 4000000 in
theorem c_X5_putClass {d n : Nat} {I : Nat → Nat → Int32} {R : Nat → Nat → Option Nat} {Q : Option Int32 → Wd → Prop} {b a : Nat} {v : Int32} (hW : isWv R n b) (ha : a < 6) (h : Q none (uI I (b + 1) a v, R)) : Ex d 0 0 mX5_putClass [.ref b, .int (nI a), .int v] n (I, R) n Q := by
  obtain ⟨hs, ⟨r0, s0⟩, ⟨r1, s1⟩, ⟨r2, s2⟩, ⟨r3, s3⟩, ⟨r4, s4⟩⟩ := hW
  refine ex_intro (L0 := [.ref b, .int (nI a), .int v]) (by decide +kernel) rfl rfl (Nat.le_of_ble_eq_true rfl) rfl ?_
  refine g_aload_n (q := 1) dX5_putClass_0 rfl rfl ?_
  refine gf_X5_9 (q := 4) rfl (by first | assumption | rfl) (by first | assumption | rfl) dX5_putClass_1 rfl ?_
  refine g_iload_n (q := 5) dX5_putClass_4 rfl rfl ?_
  refine g_iload_n (q := 6) dX5_putClass_5 rfl rfl ?_
  refine g_iastn (q := 7) (by first | assumption | rfl) (by repeat' first | apply nI_a | apply nI_m | exact rfl) (by omega) dX5_putClass_6 rfl ?_
  refine g_vret rfl dX5_putClass_7 (Nat.le_refl _) (Nat.le_refl _) ?_
  exact h
set_option maxRecDepth 100000 in
set_option maxHeartbeats 4000000 in
theorem c_X5_length {d n : Nat} {I : Nat → Nat → Int32} {R : Nat → Nat → Option Nat} {Q : Option Int32 → Wd → Prop} {b a : Nat} (hW : isWv R n b) (ha : a < 6) (h : Q (some (I (b + 2) a)) (I, R)) : Ex d 0 0 mX5_length [.ref b, .int (nI a)] n (I, R) n Q := by
  obtain ⟨hs, ⟨r0, s0⟩, ⟨r1, s1⟩, ⟨r2, s2⟩, ⟨r3, s3⟩, ⟨r4, s4⟩⟩ := hW
  refine ex_intro (L0 := [.ref b, .int (nI a)]) (by decide +kernel) rfl rfl (Nat.le_of_ble_eq_true rfl) rfl ?_
  refine g_aload_n (q := 1) dX5_length_0 rfl rfl ?_
  refine gf_X5_15 (q := 4) rfl (by first | assumption | rfl) (by first | assumption | rfl) dX5_length_1 rfl ?_
  refine g_iload_n (q := 5) dX5_length_4 rfl rfl ?_
  refine g_ialdn (q := 6) (by first | assumption | rfl) (by repeat' first | apply nI_a | apply nI_m | exact rfl) (by omega) dX5_length_5 rfl ?_
  refine g_iret rfl dX5_length_6 (Nat.le_refl _) (Nat.le_refl _) ?_
  exact h
set_option maxRecDepth 100000 in
set_option maxHeartbeats 4000000 in
theorem c_X5_sort {d n : Nat} {I : Nat → Nat → Int32} {R : Nat → Nat → Option Nat} {Q : Option Int32 → Wd → Prop} {b a i : Nat} (hW : isWv R n b) (ha : a < 6) (hi : i < 4) (h : Q (some (I (b + 3) (a * 4 + i))) (I, R)) : Ex d 0 0 mX5_sort [.ref b, .int (nI a), .int (nI i)] n (I, R) n Q := by
  obtain ⟨hs, ⟨r0, s0⟩, ⟨r1, s1⟩, ⟨r2, s2⟩, ⟨r3, s3⟩, ⟨r4, s4⟩⟩ := hW
  refine ex_intro (L0 := [.ref b, .int (nI a), .int (nI i)]) (by decide +kernel) rfl rfl (Nat.le_of_ble_eq_true rfl) rfl ?_
  refine g_aload_n (q := 1) dX5_sort_0 rfl rfl ?_
  refine gf_X5_18 (q := 4) rfl (by first | assumption | rfl) (by first | assumption | rfl) dX5_sort_1 rfl ?_
  refine g_iload_n (q := 5) dX5_sort_4 rfl rfl ?_
  refine g_iconst (q := 6) (v := nI 4) dX5_sort_5 rfl (by decide) ?_
  refine g_imul (q := 7) dX5_sort_6 rfl ?_
  refine g_iload_n (q := 8) dX5_sort_7 rfl rfl ?_
  refine g_iadd (q := 9) dX5_sort_8 rfl ?_
  refine g_ialdn (q := 10) (by first | assumption | rfl) (by repeat' first | apply nI_a | apply nI_m | exact rfl) (by omega) dX5_sort_9 rfl ?_
  refine g_iret rfl dX5_sort_10 (Nat.le_refl _) (Nat.le_refl _) ?_
  exact h
set_option maxRecDepth 100000 in
set_option maxHeartbeats 4000000 in
theorem c_X5_operand {d n : Nat} {I : Nat → Nat → Int32} {R : Nat → Nat → Option Nat} {Q : Option Int32 → Wd → Prop} {b a i : Nat} (hW : isWv R n b) (ha : a < 6) (hi : i < 4) (h : Q (some (I (b + 4) (a * 4 + i))) (I, R)) : Ex d 0 0 mX5_operand [.ref b, .int (nI a), .int (nI i)] n (I, R) n Q := by
  obtain ⟨hs, ⟨r0, s0⟩, ⟨r1, s1⟩, ⟨r2, s2⟩, ⟨r3, s3⟩, ⟨r4, s4⟩⟩ := hW
  refine ex_intro (L0 := [.ref b, .int (nI a), .int (nI i)]) (by decide +kernel) rfl rfl (Nat.le_of_ble_eq_true rfl) rfl ?_
  refine g_aload_n (q := 1) dX5_operand_0 rfl rfl ?_
  refine gf_X5_21 (q := 4) rfl (by first | assumption | rfl) (by first | assumption | rfl) dX5_operand_1 rfl ?_
  refine g_iload_n (q := 5) dX5_operand_4 rfl rfl ?_
  refine g_iconst (q := 6) (v := nI 4) dX5_operand_5 rfl (by decide) ?_
  refine g_imul (q := 7) dX5_operand_6 rfl ?_
  refine g_iload_n (q := 8) dX5_operand_7 rfl rfl ?_
  refine g_iadd (q := 9) dX5_operand_8 rfl ?_
  refine g_ialdn (q := 10) (by first | assumption | rfl) (by repeat' first | apply nI_a | apply nI_m | exact rfl) (by omega) dX5_operand_9 rfl ?_
  refine g_iret rfl dX5_operand_10 (Nat.le_refl _) (Nat.le_refl _) ?_
  exact h
set_option maxRecDepth 100000 in
set_option maxHeartbeats 4000000 in
theorem c_X5_putStatement {d n : Nat} {I : Nat → Nat → Int32} {R : Nat → Nat → Option Nat} {Q : Option Int32 → Wd → Prop} {b a i : Nat} {s v : Int32} (hW : isWv R n b) (ha : a < 6) (hi : i < 4) (h : Q none (uI (uI I (b + 3) (a * 4 + i) s) (b + 4) (a * 4 + i) v, R)) : Ex d 0 0 mX5_putStatement [.ref b, .int (nI a), .int (nI i), .int s, .int v] n (I, R) n Q := by
  obtain ⟨hs, ⟨r0, s0⟩, ⟨r1, s1⟩, ⟨r2, s2⟩, ⟨r3, s3⟩, ⟨r4, s4⟩⟩ := hW
  refine ex_intro (L0 := [.ref b, .int (nI a), .int (nI i), .int s, .int v]) (by decide +kernel) rfl rfl (Nat.le_of_ble_eq_true rfl) rfl ?_
  refine g_aload_n (q := 1) dX5_putStatement_0 rfl rfl ?_
  refine gf_X5_18 (q := 4) rfl (by first | assumption | rfl) (by first | assumption | rfl) dX5_putStatement_1 rfl ?_
  refine g_iload_n (q := 5) dX5_putStatement_4 rfl rfl ?_
  refine g_iconst (q := 6) (v := nI 4) dX5_putStatement_5 rfl (by decide) ?_
  refine g_imul (q := 7) dX5_putStatement_6 rfl ?_
  refine g_iload_n (q := 8) dX5_putStatement_7 rfl rfl ?_
  refine g_iadd (q := 9) dX5_putStatement_8 rfl ?_
  refine g_iload_n (q := 10) dX5_putStatement_9 rfl rfl ?_
  refine g_iastn (q := 11) (by first | assumption | rfl) (by repeat' first | apply nI_a | apply nI_m | exact rfl) (by omega) dX5_putStatement_10 rfl ?_
  refine g_aload_n (q := 12) dX5_putStatement_11 rfl rfl ?_
  refine gf_X5_21 (q := 15) rfl (by first | assumption | rfl) (by first | assumption | rfl) dX5_putStatement_12 rfl ?_
  refine g_iload_n (q := 16) dX5_putStatement_15 rfl rfl ?_
  refine g_iconst (q := 17) (v := nI 4) dX5_putStatement_16 rfl (by decide) ?_
  refine g_imul (q := 18) dX5_putStatement_17 rfl ?_
  refine g_iload_n (q := 19) dX5_putStatement_18 rfl rfl ?_
  refine g_iadd (q := 20) dX5_putStatement_19 rfl ?_
  refine g_iload (q := 22) dX5_putStatement_20 rfl rfl ?_
  refine g_iastn (q := 23) (by first | assumption | rfl) (by repeat' first | apply nI_a | apply nI_m | exact rfl) (by omega) dX5_putStatement_22 rfl ?_
  refine g_vret rfl dX5_putStatement_23 (Nat.le_refl _) (Nat.le_refl _) ?_
  exact h
set_option maxRecDepth 100000 in
set_option maxHeartbeats 4000000 in
theorem c_X6_isWithin {d n : Nat} {I : Nat → Nat → Int32} {R : Nat → Nat → Option Nat} {Q : Option Int32 → Wd → Prop} {x lo hi : Int32} (h : Q (some (b2i (decide (lo ≤ x ∧ x ≤ hi)))) (I, R)) : Ex d 0 0 mX6_isWithin [.int x, .int lo, .int hi] n (I, R) n Q := by
  refine ex_intro (L0 := [.int x, .int lo, .int hi]) (by decide +kernel) rfl rfl (Nat.le_of_ble_eq_true rfl) rfl ?_
  refine g_iload_n (q := 1) dX6_isWithin_0 rfl rfl ?_
  refine g_iload_n (q := 2) dX6_isWithin_1 rfl rfl ?_
  refine g_icmp_lt (tgt := 14) (q := 5) dX6_isWithin_2 (by decide) rfl (fun c2 => ?_) (fun c2 => ?_)
  · refine g_iconst (q := 15) (v := nI 0) dX6_isWithin_14 rfl (by decide) ?_
    refine g_zret rfl (by decide) dX6_isWithin_15 (Nat.le_refl _) (Nat.le_refl _) ?_
    simp_all [b2i, nI]
  · refine g_iload_n (q := 6) dX6_isWithin_5 rfl rfl ?_
    refine g_iload_n (q := 7) dX6_isWithin_6 rfl rfl ?_
    refine g_icmp_gt (tgt := 14) (q := 10) dX6_isWithin_7 (by decide) rfl (fun c7 => ?_) (fun c7 => ?_)
    · refine g_iconst (q := 15) (v := nI 0) dX6_isWithin_14 rfl (by decide) ?_
      refine g_zret rfl (by decide) dX6_isWithin_15 (Nat.le_refl _) (Nat.le_refl _) ?_
      simp_all [b2i, nI]
    · refine g_iconst (q := 11) (v := nI 1) dX6_isWithin_10 rfl (by decide) ?_
      refine g_goto (q := 15) dX6_isWithin_11 (by decide) ?_
      refine g_zret rfl (by decide) dX6_isWithin_15 (Nat.le_refl _) (Nat.le_refl _) ?_
      simp_all [b2i, nI]
