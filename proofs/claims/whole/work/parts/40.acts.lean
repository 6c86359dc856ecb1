set_option maxRecDepth 100000 in
set_option maxHeartbeats 400000 in
theorem c_X0_size {d k : Nat} {I : Nat → Nat → Int32} {Q : Option Int32 → Wd → Prop}  (h : Q (some (I 17 1)) (I, RR k)) : Ex d 0 0 mX0_size [.ref 17] 68 (I, RR k) 68 Q := by
  refine ex_intro (L0 := [.ref 17]) (by decide +kernel) rfl rfl (Nat.le_of_ble_eq_true rfl) rfl ?_
  refine g_aload_n (q := 1) dX0_size_0 rfl rfl ?_
  refine gf_X0_15 (q := 4) rfl (by first | assumption | rfl) dX0_size_1 rfl ?_
  refine g_iret rfl dX0_size_4 (Nat.le_refl _) (Nat.le_refl _) ?_
  exact h
set_option maxRecDepth 100000 in
set_option maxHeartbeats 400000 in
theorem c_X0_forget {d k : Nat} {I : Nat → Nat → Int32} {Q : Option Int32 → Wd → Prop}  (h : Q none (uI I 17 1 (nI 0), RR k)) : Ex d 0 0 mX0_forget [.ref 17] 68 (I, RR k) 68 Q := by
  refine ex_intro (L0 := [.ref 17]) (by decide +kernel) rfl rfl (Nat.le_of_ble_eq_true rfl) rfl ?_
  refine g_aload_n (q := 1) dX0_forget_0 rfl rfl ?_
  refine g_iconst (q := 2) (v := nI 0) dX0_forget_1 rfl (by decide) ?_
  refine pf_X0_15 (q := 5) rfl (by first | assumption | rfl) dX0_forget_2 rfl ?_
  refine g_vret rfl dX0_forget_5 (Nat.le_refl _) (Nat.le_refl _) ?_
  exact h
/-- an act is kept at place s -/
def ac5 (I : Nat → Nat → Int32) (s : Nat) (x0 x1 x2 x3 x4 : Int32) : Nat → Nat → Int32 :=
  uI (uI (uI (uI (uI (uI I 18 (s * 5) x0) 18 (s * 5 + 1) x1) 18 (s * 5 + 2) x2) 18 (s * 5 + 3) x3) 18 (s * 5 + 4) x4) 17 1 (nI (s + 1))
def acSh (I : Nat → Nat → Int32) : Nat → Nat → Int32 := uI (uA I 18 (va_cpy (I 18) (I 18) 5 0 75)) 17 1 (nI 15)
def acK (I : Nat → Nat → Int32) (s : Nat) (x0 x1 x2 x3 x4 : Int32) : Nat → Nat → Int32 := if s < 16 then ac5 I s x0 x1 x2 x3 x4 else ac5 (acSh I) 15 x0 x1 x2 x3 x4

set_option maxRecDepth 100000 in
set_option maxHeartbeats 400000 in
theorem l_keep {D k s n0 : Nat} {Z : Zt} {I : Nat → Nat → Int32} {x0 x1 x2 x3 x4 : Int32} (hs : I 17 1 = nI s) (hlt : s < 16) (hex : G mX0_keep (rmd D 0 0) Z n0 98 [.ref 17, .int x0, .int x1, .int x2, .int x3, .int x4, .int (nI (s * 5))] [] 68 (ac5 I s x0 x1 x2 x3 x4, RR k) 0 0) : G mX0_keep (rmd D 0 0) Z n0 30 [.ref 17, .int x0, .int x1, .int x2, .int x3, .int x4, .null] [] 68 (I, RR k) 0 0 := by
  refine g_aload_n (q := 31) dX0_keep_30 rfl rfl ?_
  refine gf_X0_15 (q := 34) rfl (by first | assumption | rfl) dX0_keep_31 rfl ?_
  rw [hs]
  refine g_iconst (q := 35) (v := nI 5) dX0_keep_34 rfl (by decide) ?_
  refine g_imul (q := 36) dX0_keep_35 rfl ?_
  rw [show nI s * nI 5 = nI (s * 5) from (Int32.ofNat_mul _ _).symm]
  refine g_istore (q := 38) dX0_keep_36 rfl (by decide) rfl rfl ?_
  refine g_aload_n (q := 39) dX0_keep_38 rfl rfl ?_
  refine gf_X0_11 (q := 42) rfl (by first | assumption | rfl) (by first | assumption | rfl) dX0_keep_39 rfl ?_
  refine g_iload (q := 44) dX0_keep_42 rfl rfl ?_
  refine g_iload_n (q := 45) dX0_keep_44 rfl rfl ?_
  refine g_iastn (q := 46) (by first | assumption | rfl) (by repeat' first | apply nI_a | apply nI_m | exact rfl) (by omega) dX0_keep_45 rfl ?_
  refine g_aload_n (q := 47) dX0_keep_46 rfl rfl ?_
  refine gf_X0_11 (q := 50) rfl (by first | assumption | rfl) (by first | assumption | rfl) dX0_keep_47 rfl ?_
  refine g_iload (q := 52) dX0_keep_50 rfl rfl ?_
  refine g_iconst (q := 53) (v := nI 1) dX0_keep_52 rfl (by decide) ?_
  refine g_iadd (q := 54) dX0_keep_53 rfl ?_
  refine g_iload_n (q := 55) dX0_keep_54 rfl rfl ?_
  refine g_iastn (q := 56) (by first | assumption | rfl) (by repeat' first | apply nI_a | apply nI_m | exact rfl) (by omega) dX0_keep_55 rfl ?_
  refine g_aload_n (q := 57) dX0_keep_56 rfl rfl ?_
  refine gf_X0_11 (q := 60) rfl (by first | assumption | rfl) (by first | assumption | rfl) dX0_keep_57 rfl ?_
  refine g_iload (q := 62) dX0_keep_60 rfl rfl ?_
  refine g_iconst (q := 63) (v := nI 2) dX0_keep_62 rfl (by decide) ?_
  refine g_iadd (q := 64) dX0_keep_63 rfl ?_
  refine g_iload_n (q := 65) dX0_keep_64 rfl rfl ?_
  refine g_iastn (q := 66) (by first | assumption | rfl) (by repeat' first | apply nI_a | apply nI_m | exact rfl) (by omega) dX0_keep_65 rfl ?_
  refine g_aload_n (q := 67) dX0_keep_66 rfl rfl ?_
  refine gf_X0_11 (q := 70) rfl (by first | assumption | rfl) (by first | assumption | rfl) dX0_keep_67 rfl ?_
  refine g_iload (q := 72) dX0_keep_70 rfl rfl ?_
  refine g_iconst (q := 73) (v := nI 3) dX0_keep_72 rfl (by decide) ?_
  refine g_iadd (q := 74) dX0_keep_73 rfl ?_
  refine g_iload (q := 76) dX0_keep_74 rfl rfl ?_
  refine g_iastn (q := 77) (by first | assumption | rfl) (by repeat' first | apply nI_a | apply nI_m | exact rfl) (by omega) dX0_keep_76 rfl ?_
  refine g_aload_n (q := 78) dX0_keep_77 rfl rfl ?_
  refine gf_X0_11 (q := 81) rfl (by first | assumption | rfl) (by first | assumption | rfl) dX0_keep_78 rfl ?_
  refine g_iload (q := 83) dX0_keep_81 rfl rfl ?_
  refine g_iconst (q := 84) (v := nI 4) dX0_keep_83 rfl (by decide) ?_
  refine g_iadd (q := 85) dX0_keep_84 rfl ?_
  refine g_iload (q := 87) dX0_keep_85 rfl rfl ?_
  refine g_iastn (q := 88) (by first | assumption | rfl) (by repeat' first | apply nI_a | apply nI_m | exact rfl) (by omega) dX0_keep_87 rfl ?_
  refine g_aload_n (q := 89) dX0_keep_88 rfl rfl ?_
  refine g_dup (q := 90) dX0_keep_89 rfl rfl ?_
  refine gf_X0_15 (q := 93) rfl (by first | assumption | rfl) dX0_keep_90 rfl ?_
  rw [uI_ne (show 17 ≠ 18 by decide), uI_ne (show 17 ≠ 18 by decide), uI_ne (show 17 ≠ 18 by decide), uI_ne (show 17 ≠ 18 by decide), uI_ne (show 17 ≠ 18 by decide), hs]
  refine g_iconst (q := 94) (v := nI 1) dX0_keep_93 rfl (by decide) ?_
  refine g_iadd (q := 95) dX0_keep_94 rfl ?_
  rw [nI_add]
  refine pf_X0_15 (q := 98) rfl (by first | assumption | rfl) dX0_keep_95 rfl ?_
  exact hex
set_option maxRecDepth 100000 in
set_option maxHeartbeats 400000 in
theorem c_X0_keep {d k : Nat} {I : Nat → Nat → Int32} {Q : Option Int32 → Wd → Prop} {s : Nat} {x0 x1 x2 x3 x4 : Int32} (hs : I 17 1 = nI s) (hle : s ≤ 16) (h : Q none (acK I s x0 x1 x2 x3 x4, RR k)) : Ex (d + 1) 0 0 mX0_keep [.ref 17, .int x0, .int x1, .int x2, .int x3, .int x4] 68 (I, RR k) 68 Q := by
  refine ex_intro (L0 := [.ref 17, .int x0, .int x1, .int x2, .int x3, .int x4, .null]) (by decide +kernel) rfl rfl (Nat.le_of_ble_eq_true rfl) rfl ?_
  refine g_aload_n (q := 1) dX0_keep_0 rfl rfl ?_
  refine gf_X0_15 (q := 4) rfl (by first | assumption | rfl) dX0_keep_1 rfl ?_
  rw [hs]
  refine g_bipush (q := 6) (v := nI 16) dX0_keep_4 rfl (by decide) ?_
  refine g_icmp_lt (tgt := 30) (q := 9) dX0_keep_6 (by decide) rfl (fun c6 => ?_) (fun c6 => ?_)
  · unfold acK at h
    rw [if_pos ((nI_ltI (by omega) (by omega)).mp c6)] at h
    exact l_keep hs ((nI_ltI (by omega) (by omega)).mp c6) (g_vret rfl dX0_keep_98 (Nat.le_refl _) (Nat.le_refl _) h)
  · refine g_aload_n (q := 10) dX0_keep_9 rfl rfl ?_
    refine gf_X0_11 (q := 13) rfl (by first | assumption | rfl) (by first | assumption | rfl) dX0_keep_10 rfl ?_
    refine g_iconst (q := 14) (v := nI 5) dX0_keep_13 rfl (by decide) ?_
    refine g_aload_n (q := 15) dX0_keep_14 rfl rfl ?_
    refine gf_X0_11 (q := 18) rfl (by first | assumption | rfl) (by first | assumption | rfl) dX0_keep_15 rfl ?_
    refine g_iconst (q := 19) (v := nI 0) dX0_keep_18 rfl (by decide) ?_
    refine g_bipush (q := 21) (v := nI 75) dX0_keep_19 rfl (by decide) ?_
    refine ac_X0_23 (q := 24) (N0 := 80) (N1 := 80) rfl rfl rfl (by decide) (by decide) (by decide) (by decide) (by decide) (Nat.le_of_ble_eq_true rfl) dX0_keep_21 rfl ?_
    refine g_aload_n (q := 25) dX0_keep_24 rfl rfl ?_
    refine g_bipush (q := 27) (v := nI 15) dX0_keep_25 rfl (by decide) ?_
    refine pf_X0_15 (q := 30) rfl (by first | assumption | rfl) dX0_keep_27 rfl ?_
    unfold acK at h
    rw [if_neg (fun z => c6 (nI_lt z (by omega)))] at h
    exact l_keep (I := acSh I) (s := 15) uI_eq (by decide) (g_vret rfl dX0_keep_98 (Nat.le_refl _) (Nat.le_refl _) h)
set_option maxRecDepth 100000 in
set_option maxHeartbeats 400000 in
theorem c_X0_keepFact {d k : Nat} {I : Nat → Nat → Int32} {Q : Option Int32 → Wd → Prop} {s : Nat} {a b c : Int32} (hs : I 17 1 = nI s) (hle : s ≤ 16) (h : Q none (acK I s (nI 0) a b c (nI 0), RR k)) : Ex (d + 2) 0 0 mX0_keepFact [.ref 17, .int a, .int b, .int c] 68 (I, RR k) 68 Q := by
  refine ex_intro (L0 := [.ref 17, .int a, .int b, .int c]) (by decide +kernel) rfl rfl (Nat.le_of_ble_eq_true rfl) rfl ?_
  refine g_aload_n (q := 1) dX0_keepFact_0 rfl rfl ?_
  refine g_iconst (q := 2) (v := nI 0) dX0_keepFact_1 rfl (by decide) ?_
  refine g_iload_n (q := 3) dX0_keepFact_2 rfl rfl ?_
  refine g_iload_n (q := 4) dX0_keepFact_3 rfl rfl ?_
  refine g_iload_n (q := 5) dX0_keepFact_4 rfl rfl ?_
  refine g_iconst (q := 6) (v := nI 0) dX0_keepFact_5 rfl (by decide) ?_
  refine k_X0_19 (q := 9) rfl (Nat.le_of_ble_eq_true rfl) (by first | assumption | rfl) dX0_keepFact_6 rfl (c_X0_keep hs hle ?_)
  refine g_vret rfl dX0_keepFact_9 (Nat.le_refl _) (Nat.le_refl _) ?_
  exact h
set_option maxRecDepth 100000 in
set_option maxHeartbeats 400000 in
theorem c_X0_keepExchange {d k : Nat} {I : Nat → Nat → Int32} {Q : Option Int32 → Wd → Prop} {s : Nat} {a b : Int32} (hs : I 17 1 = nI s) (hle : s ≤ 16) (h : Q none (acK I s (nI 1) a b (nI 0) (nI 0), RR k)) : Ex (d + 2) 0 0 mX0_keepExchange [.ref 17, .int a, .int b] 68 (I, RR k) 68 Q := by
  refine ex_intro (L0 := [.ref 17, .int a, .int b]) (by decide +kernel) rfl rfl (Nat.le_of_ble_eq_true rfl) rfl ?_
  refine g_aload_n (q := 1) dX0_keepExchange_0 rfl rfl ?_
  refine g_iconst (q := 2) (v := nI 1) dX0_keepExchange_1 rfl (by decide) ?_
  refine g_iload_n (q := 3) dX0_keepExchange_2 rfl rfl ?_
  refine g_iload_n (q := 4) dX0_keepExchange_3 rfl rfl ?_
  refine g_iconst (q := 5) (v := nI 0) dX0_keepExchange_4 rfl (by decide) ?_
  refine g_iconst (q := 6) (v := nI 0) dX0_keepExchange_5 rfl (by decide) ?_
  refine k_X0_19 (q := 9) rfl (Nat.le_of_ble_eq_true rfl) (by first | assumption | rfl) dX0_keepExchange_6 rfl (c_X0_keep hs hle ?_)
  refine g_vret rfl dX0_keepExchange_9 (Nat.le_refl _) (Nat.le_refl _) ?_
  exact h
set_option maxRecDepth 100000 in
set_option maxHeartbeats 400000 in
theorem c_X0_keepStatement {d k : Nat} {I : Nat → Nat → Int32} {Q : Option Int32 → Wd → Prop} {s : Nat} {a b c e : Int32} (hs : I 17 1 = nI s) (hle : s ≤ 16) (h : Q none (acK I s (nI 2) a b c e, RR k)) : Ex (d + 2) 0 0 mX0_keepStatement [.ref 17, .int a, .int b, .int c, .int e] 68 (I, RR k) 68 Q := by
  refine ex_intro (L0 := [.ref 17, .int a, .int b, .int c, .int e]) (by decide +kernel) rfl rfl (Nat.le_of_ble_eq_true rfl) rfl ?_
  refine g_aload_n (q := 1) dX0_keepStatement_0 rfl rfl ?_
  refine g_iconst (q := 2) (v := nI 2) dX0_keepStatement_1 rfl (by decide) ?_
  refine g_iload_n (q := 3) dX0_keepStatement_2 rfl rfl ?_
  refine g_iload_n (q := 4) dX0_keepStatement_3 rfl rfl ?_
  refine g_iload_n (q := 5) dX0_keepStatement_4 rfl rfl ?_
  refine g_iload (q := 7) dX0_keepStatement_5 rfl rfl ?_
  refine k_X0_19 (q := 10) rfl (Nat.le_of_ble_eq_true rfl) (by first | assumption | rfl) dX0_keepStatement_7 rfl (c_X0_keep hs hle ?_)
  refine g_vret rfl dX0_keepStatement_10 (Nat.le_refl _) (Nat.le_refl _) ?_
  exact h
set_option maxRecDepth 100000 in
set_option maxHeartbeats 400000 in
theorem c_X0_keepClass {d k : Nat} {I : Nat → Nat → Int32} {Q : Option Int32 → Wd → Prop} {s : Nat} {a b : Int32} (hs : I 17 1 = nI s) (hle : s ≤ 16) (h : Q none (acK I s (nI 3) a b (nI 0) (nI 0), RR k)) : Ex (d + 2) 0 0 mX0_keepClass [.ref 17, .int a, .int b] 68 (I, RR k) 68 Q := by
  refine ex_intro (L0 := [.ref 17, .int a, .int b]) (by decide +kernel) rfl rfl (Nat.le_of_ble_eq_true rfl) rfl ?_
  refine g_aload_n (q := 1) dX0_keepClass_0 rfl rfl ?_
  refine g_iconst (q := 2) (v := nI 3) dX0_keepClass_1 rfl (by decide) ?_
  refine g_iload_n (q := 3) dX0_keepClass_2 rfl rfl ?_
  refine g_iload_n (q := 4) dX0_keepClass_3 rfl rfl ?_
  refine g_iconst (q := 5) (v := nI 0) dX0_keepClass_4 rfl (by decide) ?_
  refine g_iconst (q := 6) (v := nI 0) dX0_keepClass_5 rfl (by decide) ?_
  refine k_X0_19 (q := 9) rfl (Nat.le_of_ble_eq_true rfl) (by first | assumption | rfl) dX0_keepClass_6 rfl (c_X0_keep hs hle ?_)
  refine g_vret rfl dX0_keepClass_9 (Nat.le_refl _) (Nat.le_refl _) ?_
  exact h
set_option maxRecDepth 100000 in
set_option maxHeartbeats 400000 in
theorem c_tb_fact {d k : Nat} {I : Nat → Nat → Int32} {Q : Option Int32 → Wd → Prop} {b s a f : Nat} (hW : isWv (RR k) 68 b) (hs : I 17 1 = nI (s + 1)) (hlt : s < 16) (h0 : I 18 (s * 5) = nI 0) {x : Int32} (h1 : I 18 (s * 5 + 1) = nI a) (h2 : I 18 (s * 5 + 2) = nI f) (h3 : I 18 (s * 5 + 3) = x) (ha : a < 5) (hf : f < 6) (h : Q none (uI (uI I 17 1 (nI s)) (b + 5) (a * 6 + f) x, RR k)) : Ex (d + 2) 0 0 mX0_takeBack [.ref 17, .ref b] 68 (I, RR k) 68 Q := by
  have hsb := hW.1
  refine ex_intro (L0 := [.ref 17, .ref b, .null]) (by decide +kernel) rfl rfl (Nat.le_of_ble_eq_true rfl) rfl ?_
  refine g_aload_n (q := 1) dX0_takeBack_0 rfl rfl ?_
  refine gf_X0_15 (q := 4) rfl (by first | assumption | rfl) dX0_takeBack_1 rfl ?_
  rw [hs]
  refine g_if_ne (tgt := 8) (q := 7) dX0_takeBack_4 (by decide) rfl (fun _ => ?_) (fun c4 => absurd c4 (nI_ne0 (by omega) (by omega)))
  refine g_aload_n (q := 9) dX0_takeBack_8 rfl rfl ?_
  refine g_dup (q := 10) dX0_takeBack_9 rfl rfl ?_
  refine gf_X0_15 (q := 13) rfl (by first | assumption | rfl) dX0_takeBack_10 rfl ?_
  rw [hs]
  refine g_iconst (q := 14) (v := nI 1) dX0_takeBack_13 rfl (by decide) ?_
  refine g_isub (q := 15) dX0_takeBack_14 rfl ?_
  rw [show nI (s + 1) - nI 1 = nI s from nI_pred s]
  refine pf_X0_15 (q := 18) rfl (by first | assumption | rfl) dX0_takeBack_15 rfl ?_
  refine g_aload_n (q := 19) dX0_takeBack_18 rfl rfl ?_
  refine gf_X0_15 (q := 22) rfl (by first | assumption | rfl) dX0_takeBack_19 rfl ?_
  rw [uI_eq]
  refine g_iconst (q := 23) (v := nI 5) dX0_takeBack_22 rfl (by decide) ?_
  refine g_imul (q := 24) dX0_takeBack_23 rfl ?_
  rw [show nI s * nI 5 = nI (s * 5) from (Int32.ofNat_mul _ _).symm]
  refine g_istore_n (q := 25) dX0_takeBack_24 rfl (by decide) rfl rfl ?_
  refine g_aload_n (q := 26) dX0_takeBack_25 rfl rfl ?_
  refine gf_X0_11 (q := 29) rfl (by first | assumption | rfl) (by first | assumption | rfl) dX0_takeBack_26 rfl ?_
  refine g_iload_n (q := 30) dX0_takeBack_29 rfl rfl ?_
  refine g_ialdn (q := 31) (by first | assumption | rfl) (by repeat' first | apply nI_a | apply nI_m | exact rfl) (by omega) dX0_takeBack_30 rfl ?_
  rw [uI_ne (show 18 ≠ 17 by decide), h0]
  refine g_tabIn (q := 0) (tgt := 56) (off := 25) dX0_takeBack_31 (by decide) (by decide) (by decide) (by decide) ?_
  refine g_aload_n (q := 57) dX0_takeBack_56 rfl rfl ?_
  refine g_aload_n (q := 58) dX0_takeBack_57 rfl rfl ?_
  refine gf_X0_11 (q := 61) rfl (by first | assumption | rfl) (by first | assumption | rfl) dX0_takeBack_58 rfl ?_
  refine g_iload_n (q := 62) dX0_takeBack_61 rfl rfl ?_
  refine g_iconst (q := 63) (v := nI 1) dX0_takeBack_62 rfl (by decide) ?_
  refine g_iadd (q := 64) dX0_takeBack_63 rfl ?_
  refine g_ialdn (q := 65) (by first | assumption | rfl) (by repeat' first | apply nI_a | apply nI_m | exact rfl) (by omega) dX0_takeBack_64 rfl ?_
  rw [uI_ne (show 18 ≠ 17 by decide), h1]
  refine g_aload_n (q := 66) dX0_takeBack_65 rfl rfl ?_
  refine gf_X0_11 (q := 69) rfl (by first | assumption | rfl) (by first | assumption | rfl) dX0_takeBack_66 rfl ?_
  refine g_iload_n (q := 70) dX0_takeBack_69 rfl rfl ?_
  refine g_iconst (q := 71) (v := nI 2) dX0_takeBack_70 rfl (by decide) ?_
  refine g_iadd (q := 72) dX0_takeBack_71 rfl ?_
  refine g_ialdn (q := 73) (by first | assumption | rfl) (by repeat' first | apply nI_a | apply nI_m | exact rfl) (by omega) dX0_takeBack_72 rfl ?_
  rw [uI_ne (show 18 ≠ 17 by decide), h2]
  refine g_aload_n (q := 74) dX0_takeBack_73 rfl rfl ?_
  refine gf_X0_11 (q := 77) rfl (by first | assumption | rfl) (by first | assumption | rfl) dX0_takeBack_74 rfl ?_
  refine g_iload_n (q := 78) dX0_takeBack_77 rfl rfl ?_
  refine g_iconst (q := 79) (v := nI 3) dX0_takeBack_78 rfl (by decide) ?_
  refine g_iadd (q := 80) dX0_takeBack_79 rfl ?_
  refine g_ialdn (q := 81) (by first | assumption | rfl) (by repeat' first | apply nI_a | apply nI_m | exact rfl) (by omega) dX0_takeBack_80 rfl ?_
  rw [uI_ne (show 18 ≠ 17 by decide), h3]
  refine k_X0_29 (q := 84) rfl (Nat.le_of_ble_eq_true rfl) (by first | assumption | rfl) dX0_takeBack_81 rfl (c_X5_putFact hW ha hf ?_)
  refine g_goto (q := 169) dX0_takeBack_84 (by decide) ?_
  refine g_vret rfl dX0_takeBack_169 (Nat.le_refl _) (Nat.le_refl _) ?_
  exact h
set_option maxRecDepth 100000 in
set_option maxHeartbeats 400000 in
theorem c_tb_exch {d k : Nat} {I : Nat → Nat → Int32} {Q : Option Int32 → Wd → Prop} {b s a f : Nat} (hW : isWv (RR k) 68 b) (hs : I 17 1 = nI (s + 1)) (hlt : s < 16) (h0 : I 18 (s * 5) = nI 1) (h1 : I 18 (s * 5 + 1) = nI a) (h2 : I 18 (s * 5 + 2) = nI f) (ha : a < 5) (hf : f < 5) (h : Q none (exP (uI I 17 1 (nI s)) b a f 6, RR k)) : Ex (d + 2) 0 0 mX0_takeBack [.ref 17, .ref b] 68 (I, RR k) 68 Q := by
  have hsb := hW.1
  refine ex_intro (L0 := [.ref 17, .ref b, .null]) (by decide +kernel) rfl rfl (Nat.le_of_ble_eq_true rfl) rfl ?_
  refine g_aload_n (q := 1) dX0_takeBack_0 rfl rfl ?_
  refine gf_X0_15 (q := 4) rfl (by first | assumption | rfl) dX0_takeBack_1 rfl ?_
  rw [hs]
  refine g_if_ne (tgt := 8) (q := 7) dX0_takeBack_4 (by decide) rfl (fun _ => ?_) (fun c4 => absurd c4 (nI_ne0 (by omega) (by omega)))
  refine g_aload_n (q := 9) dX0_takeBack_8 rfl rfl ?_
  refine g_dup (q := 10) dX0_takeBack_9 rfl rfl ?_
  refine gf_X0_15 (q := 13) rfl (by first | assumption | rfl) dX0_takeBack_10 rfl ?_
  rw [hs]
  refine g_iconst (q := 14) (v := nI 1) dX0_takeBack_13 rfl (by decide) ?_
  refine g_isub (q := 15) dX0_takeBack_14 rfl ?_
  rw [show nI (s + 1) - nI 1 = nI s from nI_pred s]
  refine pf_X0_15 (q := 18) rfl (by first | assumption | rfl) dX0_takeBack_15 rfl ?_
  refine g_aload_n (q := 19) dX0_takeBack_18 rfl rfl ?_
  refine gf_X0_15 (q := 22) rfl (by first | assumption | rfl) dX0_takeBack_19 rfl ?_
  rw [uI_eq]
  refine g_iconst (q := 23) (v := nI 5) dX0_takeBack_22 rfl (by decide) ?_
  refine g_imul (q := 24) dX0_takeBack_23 rfl ?_
  rw [show nI s * nI 5 = nI (s * 5) from (Int32.ofNat_mul _ _).symm]
  refine g_istore_n (q := 25) dX0_takeBack_24 rfl (by decide) rfl rfl ?_
  refine g_aload_n (q := 26) dX0_takeBack_25 rfl rfl ?_
  refine gf_X0_11 (q := 29) rfl (by first | assumption | rfl) (by first | assumption | rfl) dX0_takeBack_26 rfl ?_
  refine g_iload_n (q := 30) dX0_takeBack_29 rfl rfl ?_
  refine g_ialdn (q := 31) (by first | assumption | rfl) (by repeat' first | apply nI_a | apply nI_m | exact rfl) (by omega) dX0_takeBack_30 rfl ?_
  rw [uI_ne (show 18 ≠ 17 by decide), h0]
  refine g_tabIn (q := 0) (tgt := 87) (off := 56) dX0_takeBack_31 (by decide) (by decide) (by decide) (by decide) ?_
  refine g_aload_n (q := 88) dX0_takeBack_87 rfl rfl ?_
  refine g_aload_n (q := 89) dX0_takeBack_88 rfl rfl ?_
  refine gf_X0_11 (q := 92) rfl (by first | assumption | rfl) (by first | assumption | rfl) dX0_takeBack_89 rfl ?_
  refine g_iload_n (q := 93) dX0_takeBack_92 rfl rfl ?_
  refine g_iconst (q := 94) (v := nI 1) dX0_takeBack_93 rfl (by decide) ?_
  refine g_iadd (q := 95) dX0_takeBack_94 rfl ?_
  refine g_ialdn (q := 96) (by first | assumption | rfl) (by repeat' first | apply nI_a | apply nI_m | exact rfl) (by omega) dX0_takeBack_95 rfl ?_
  rw [uI_ne (show 18 ≠ 17 by decide), h1]
  refine g_aload_n (q := 97) dX0_takeBack_96 rfl rfl ?_
  refine gf_X0_11 (q := 100) rfl (by first | assumption | rfl) (by first | assumption | rfl) dX0_takeBack_97 rfl ?_
  refine g_iload_n (q := 101) dX0_takeBack_100 rfl rfl ?_
  refine g_iconst (q := 102) (v := nI 2) dX0_takeBack_101 rfl (by decide) ?_
  refine g_iadd (q := 103) dX0_takeBack_102 rfl ?_
  refine g_ialdn (q := 104) (by first | assumption | rfl) (by repeat' first | apply nI_a | apply nI_m | exact rfl) (by omega) dX0_takeBack_103 rfl ?_
  rw [uI_ne (show 18 ≠ 17 by decide), h2]
  refine k_X0_35 (q := 107) rfl (Nat.le_of_ble_eq_true rfl) (by first | assumption | rfl) dX0_takeBack_104 rfl (c_X5_exchange hW ha hf ?_)
  refine g_goto (q := 169) dX0_takeBack_107 (by decide) ?_
  refine g_vret rfl dX0_takeBack_169 (Nat.le_refl _) (Nat.le_refl _) ?_
  exact h
set_option maxRecDepth 100000 in
set_option maxHeartbeats 400000 in
theorem c_tb_stat {d k : Nat} {I : Nat → Nat → Int32} {Q : Option Int32 → Wd → Prop} {b s a i : Nat} (hW : isWv (RR k) 68 b) (hs : I 17 1 = nI (s + 1)) (hlt : s < 16) (h0 : I 18 (s * 5) = nI 2) {x y : Int32} (h1 : I 18 (s * 5 + 1) = nI a) (h2 : I 18 (s * 5 + 2) = nI i) (h3 : I 18 (s * 5 + 3) = x) (h4 : I 18 (s * 5 + 4) = y) (ha : a < 6) (hi : i < 4) (h : Q none (uI (uI (uI I 17 1 (nI s)) (b + 3) (a * 4 + i) x) (b + 4) (a * 4 + i) y, RR k)) : Ex (d + 2) 0 0 mX0_takeBack [.ref 17, .ref b] 68 (I, RR k) 68 Q := by
  have hsb := hW.1
  refine ex_intro (L0 := [.ref 17, .ref b, .null]) (by decide +kernel) rfl rfl (Nat.le_of_ble_eq_true rfl) rfl ?_
  refine g_aload_n (q := 1) dX0_takeBack_0 rfl rfl ?_
  refine gf_X0_15 (q := 4) rfl (by first | assumption | rfl) dX0_takeBack_1 rfl ?_
  rw [hs]
  refine g_if_ne (tgt := 8) (q := 7) dX0_takeBack_4 (by decide) rfl (fun _ => ?_) (fun c4 => absurd c4 (nI_ne0 (by omega) (by omega)))
  refine g_aload_n (q := 9) dX0_takeBack_8 rfl rfl ?_
  refine g_dup (q := 10) dX0_takeBack_9 rfl rfl ?_
  refine gf_X0_15 (q := 13) rfl (by first | assumption | rfl) dX0_takeBack_10 rfl ?_
  rw [hs]
  refine g_iconst (q := 14) (v := nI 1) dX0_takeBack_13 rfl (by decide) ?_
  refine g_isub (q := 15) dX0_takeBack_14 rfl ?_
  rw [show nI (s + 1) - nI 1 = nI s from nI_pred s]
  refine pf_X0_15 (q := 18) rfl (by first | assumption | rfl) dX0_takeBack_15 rfl ?_
  refine g_aload_n (q := 19) dX0_takeBack_18 rfl rfl ?_
  refine gf_X0_15 (q := 22) rfl (by first | assumption | rfl) dX0_takeBack_19 rfl ?_
  rw [uI_eq]
  refine g_iconst (q := 23) (v := nI 5) dX0_takeBack_22 rfl (by decide) ?_
  refine g_imul (q := 24) dX0_takeBack_23 rfl ?_
  rw [show nI s * nI 5 = nI (s * 5) from (Int32.ofNat_mul _ _).symm]
  refine g_istore_n (q := 25) dX0_takeBack_24 rfl (by decide) rfl rfl ?_
  refine g_aload_n (q := 26) dX0_takeBack_25 rfl rfl ?_
  refine gf_X0_11 (q := 29) rfl (by first | assumption | rfl) (by first | assumption | rfl) dX0_takeBack_26 rfl ?_
  refine g_iload_n (q := 30) dX0_takeBack_29 rfl rfl ?_
  refine g_ialdn (q := 31) (by first | assumption | rfl) (by repeat' first | apply nI_a | apply nI_m | exact rfl) (by omega) dX0_takeBack_30 rfl ?_
  rw [uI_ne (show 18 ≠ 17 by decide), h0]
  refine g_tabIn (q := 0) (tgt := 110) (off := 79) dX0_takeBack_31 (by decide) (by decide) (by decide) (by decide) ?_
  refine g_aload_n (q := 111) dX0_takeBack_110 rfl rfl ?_
  refine g_aload_n (q := 112) dX0_takeBack_111 rfl rfl ?_
  refine gf_X0_11 (q := 115) rfl (by first | assumption | rfl) (by first | assumption | rfl) dX0_takeBack_112 rfl ?_
  refine g_iload_n (q := 116) dX0_takeBack_115 rfl rfl ?_
  refine g_iconst (q := 117) (v := nI 1) dX0_takeBack_116 rfl (by decide) ?_
  refine g_iadd (q := 118) dX0_takeBack_117 rfl ?_
  refine g_ialdn (q := 119) (by first | assumption | rfl) (by repeat' first | apply nI_a | apply nI_m | exact rfl) (by omega) dX0_takeBack_118 rfl ?_
  rw [uI_ne (show 18 ≠ 17 by decide), h1]
  refine g_aload_n (q := 120) dX0_takeBack_119 rfl rfl ?_
  refine gf_X0_11 (q := 123) rfl (by first | assumption | rfl) (by first | assumption | rfl) dX0_takeBack_120 rfl ?_
  refine g_iload_n (q := 124) dX0_takeBack_123 rfl rfl ?_
  refine g_iconst (q := 125) (v := nI 2) dX0_takeBack_124 rfl (by decide) ?_
  refine g_iadd (q := 126) dX0_takeBack_125 rfl ?_
  refine g_ialdn (q := 127) (by first | assumption | rfl) (by repeat' first | apply nI_a | apply nI_m | exact rfl) (by omega) dX0_takeBack_126 rfl ?_
  rw [uI_ne (show 18 ≠ 17 by decide), h2]
  refine g_aload_n (q := 128) dX0_takeBack_127 rfl rfl ?_
  refine gf_X0_11 (q := 131) rfl (by first | assumption | rfl) (by first | assumption | rfl) dX0_takeBack_128 rfl ?_
  refine g_iload_n (q := 132) dX0_takeBack_131 rfl rfl ?_
  refine g_iconst (q := 133) (v := nI 3) dX0_takeBack_132 rfl (by decide) ?_
  refine g_iadd (q := 134) dX0_takeBack_133 rfl ?_
  refine g_ialdn (q := 135) (by first | assumption | rfl) (by repeat' first | apply nI_a | apply nI_m | exact rfl) (by omega) dX0_takeBack_134 rfl ?_
  rw [uI_ne (show 18 ≠ 17 by decide), h3]
  refine g_aload_n (q := 136) dX0_takeBack_135 rfl rfl ?_
  refine gf_X0_11 (q := 139) rfl (by first | assumption | rfl) (by first | assumption | rfl) dX0_takeBack_136 rfl ?_
  refine g_iload_n (q := 140) dX0_takeBack_139 rfl rfl ?_
  refine g_iconst (q := 141) (v := nI 4) dX0_takeBack_140 rfl (by decide) ?_
  refine g_iadd (q := 142) dX0_takeBack_141 rfl ?_
  refine g_ialdn (q := 143) (by first | assumption | rfl) (by repeat' first | apply nI_a | apply nI_m | exact rfl) (by omega) dX0_takeBack_142 rfl ?_
  rw [uI_ne (show 18 ≠ 17 by decide), h4]
  refine k_X0_39 (q := 146) rfl (Nat.le_of_ble_eq_true rfl) (by first | assumption | rfl) dX0_takeBack_143 rfl (c_X5_putStatement hW ha hi ?_)
  refine g_goto (q := 169) dX0_takeBack_146 (by decide) ?_
  refine g_vret rfl dX0_takeBack_169 (Nat.le_refl _) (Nat.le_refl _) ?_
  exact h
set_option maxRecDepth 100000 in
set_option maxHeartbeats 400000 in
theorem c_tb_class {d k : Nat} {I : Nat → Nat → Int32} {Q : Option Int32 → Wd → Prop} {b s a : Nat} (hW : isWv (RR k) 68 b) (hs : I 17 1 = nI (s + 1)) (hlt : s < 16) (h0 : I 18 (s * 5) = nI 3) {x : Int32} (h1 : I 18 (s * 5 + 1) = nI a) (h2 : I 18 (s * 5 + 2) = x) (ha : a < 6) (h : Q none (uI (uI I 17 1 (nI s)) (b + 1) a x, RR k)) : Ex (d + 2) 0 0 mX0_takeBack [.ref 17, .ref b] 68 (I, RR k) 68 Q := by
  have hsb := hW.1
  refine ex_intro (L0 := [.ref 17, .ref b, .null]) (by decide +kernel) rfl rfl (Nat.le_of_ble_eq_true rfl) rfl ?_
  refine g_aload_n (q := 1) dX0_takeBack_0 rfl rfl ?_
  refine gf_X0_15 (q := 4) rfl (by first | assumption | rfl) dX0_takeBack_1 rfl ?_
  rw [hs]
  refine g_if_ne (tgt := 8) (q := 7) dX0_takeBack_4 (by decide) rfl (fun _ => ?_) (fun c4 => absurd c4 (nI_ne0 (by omega) (by omega)))
  refine g_aload_n (q := 9) dX0_takeBack_8 rfl rfl ?_
  refine g_dup (q := 10) dX0_takeBack_9 rfl rfl ?_
  refine gf_X0_15 (q := 13) rfl (by first | assumption | rfl) dX0_takeBack_10 rfl ?_
  rw [hs]
  refine g_iconst (q := 14) (v := nI 1) dX0_takeBack_13 rfl (by decide) ?_
  refine g_isub (q := 15) dX0_takeBack_14 rfl ?_
  rw [show nI (s + 1) - nI 1 = nI s from nI_pred s]
  refine pf_X0_15 (q := 18) rfl (by first | assumption | rfl) dX0_takeBack_15 rfl ?_
  refine g_aload_n (q := 19) dX0_takeBack_18 rfl rfl ?_
  refine gf_X0_15 (q := 22) rfl (by first | assumption | rfl) dX0_takeBack_19 rfl ?_
  rw [uI_eq]
  refine g_iconst (q := 23) (v := nI 5) dX0_takeBack_22 rfl (by decide) ?_
  refine g_imul (q := 24) dX0_takeBack_23 rfl ?_
  rw [show nI s * nI 5 = nI (s * 5) from (Int32.ofNat_mul _ _).symm]
  refine g_istore_n (q := 25) dX0_takeBack_24 rfl (by decide) rfl rfl ?_
  refine g_aload_n (q := 26) dX0_takeBack_25 rfl rfl ?_
  refine gf_X0_11 (q := 29) rfl (by first | assumption | rfl) (by first | assumption | rfl) dX0_takeBack_26 rfl ?_
  refine g_iload_n (q := 30) dX0_takeBack_29 rfl rfl ?_
  refine g_ialdn (q := 31) (by first | assumption | rfl) (by repeat' first | apply nI_a | apply nI_m | exact rfl) (by omega) dX0_takeBack_30 rfl ?_
  rw [uI_ne (show 18 ≠ 17 by decide), h0]
  refine g_tabOut (q := 0) (tgt := 149) dX0_takeBack_31 (by decide) (by decide) ?_
  refine g_aload_n (q := 150) dX0_takeBack_149 rfl rfl ?_
  refine g_aload_n (q := 151) dX0_takeBack_150 rfl rfl ?_
  refine gf_X0_11 (q := 154) rfl (by first | assumption | rfl) (by first | assumption | rfl) dX0_takeBack_151 rfl ?_
  refine g_iload_n (q := 155) dX0_takeBack_154 rfl rfl ?_
  refine g_iconst (q := 156) (v := nI 1) dX0_takeBack_155 rfl (by decide) ?_
  refine g_iadd (q := 157) dX0_takeBack_156 rfl ?_
  refine g_ialdn (q := 158) (by first | assumption | rfl) (by repeat' first | apply nI_a | apply nI_m | exact rfl) (by omega) dX0_takeBack_157 rfl ?_
  rw [uI_ne (show 18 ≠ 17 by decide), h1]
  refine g_aload_n (q := 159) dX0_takeBack_158 rfl rfl ?_
  refine gf_X0_11 (q := 162) rfl (by first | assumption | rfl) (by first | assumption | rfl) dX0_takeBack_159 rfl ?_
  refine g_iload_n (q := 163) dX0_takeBack_162 rfl rfl ?_
  refine g_iconst (q := 164) (v := nI 2) dX0_takeBack_163 rfl (by decide) ?_
  refine g_iadd (q := 165) dX0_takeBack_164 rfl ?_
  refine g_ialdn (q := 166) (by first | assumption | rfl) (by repeat' first | apply nI_a | apply nI_m | exact rfl) (by omega) dX0_takeBack_165 rfl ?_
  rw [uI_ne (show 18 ≠ 17 by decide), h2]
  refine k_X0_43 (q := 169) rfl (Nat.le_of_ble_eq_true rfl) (by first | assumption | rfl) dX0_takeBack_166 rfl (c_X5_putClass hW ha ?_)
  refine g_vret rfl dX0_takeBack_169 (Nat.le_refl _) (Nat.le_refl _) ?_
  exact h
/-- THE TRACE holds these -/
def ATr (I : Nat → Nat → Int32) (tl : List Nat) : Prop := I 22 2 = nI tl.length ∧ (∀ j, j < tl.length → I 23 j = nI (tl.getD j 0)) ∧ tl.length ≤ 16
def lvF (tl : List Nat) (x : Nat) : List Nat := if tl.length < 16 then tl ++ [x] else tl
theorem ATr_leave {I : Nat → Nat → Int32} {tl : List Nat} {x : Nat} (h : ATr I tl) (hl : tl.length < 16) : ATr (uI (uI I 23 tl.length (nI x)) 22 2 (nI (tl.length + 1))) (tl ++ [x]) := by
  obtain ⟨h1, h2, h3⟩ := h
  refine ⟨by simp [uI], fun j hj => ?_, by simp; omega⟩
  have hj : j < tl.length + 1 := by simpa using hj
  by_cases e : j = tl.length
  · subst e; simp [uI]
  · have e2 : j < tl.length := by omega
    have : uI (uI I 23 tl.length (nI x)) 22 2 (nI (tl.length + 1)) 23 j = I 23 j := by simp [uI, e]
    rw [this, h2 j e2]
    simp [List.getElem?_append_left e2]
theorem afr {k : Nat} (hk : k = 4 ∨ k = 10) : ∀ p ∈ [22, 23], p < k ∨ k + 5 < p := by
  intro p hp
  simp only [List.mem_cons, List.not_mem_nil, or_false] at hp
  omega

set_option maxRecDepth 100000 in
set_option maxHeartbeats 400000 in
theorem c_X1_leave {d k : Nat} {I : Nat → Nat → Int32} {Q : Option Int32 → Wd → Prop} {x : Nat} {tl : List Nat} (hA : ATr I tl) (h : ∀ I2, Fr [22, 23] I I2 → ATr I2 (lvF tl x) → Q none (I2, RR k)) : Ex d 0 0 mX1_leave [.ref 22, .int (nI x)] 68 (I, RR k) 68 Q := by
  obtain ⟨a1, a2, a3⟩ := id hA
  unfold lvF at h
  refine ex_intro (L0 := [.ref 22, .int (nI x)]) (by decide +kernel) rfl rfl (Nat.le_of_ble_eq_true rfl) rfl ?_
  refine g_aload_n (q := 1) dX1_leave_0 rfl rfl ?_
  refine gf_X1_15 (q := 4) rfl (by first | assumption | rfl) dX1_leave_1 rfl ?_
  rw [a1]
  refine g_bipush (q := 6) (v := nI 16) dX1_leave_4 rfl (by decide) ?_
  refine g_icmp_ge (tgt := 29) (q := 9) dX1_leave_6 (by decide) rfl (fun c6 => ?_) (fun c6 => ?_)
  · refine g_vret rfl dX1_leave_29 (Nat.le_refl _) (Nat.le_refl _) ?_
    rw [if_neg (by have := (nI_leI (a := 16) (b := tl.length) (by omega) (by omega)).mp c6; omega)] at h
    exact h I Fr.rf hA
  · refine g_aload_n (q := 10) dX1_leave_9 rfl rfl ?_
    refine gf_X1_9 (q := 13) rfl (by first | assumption | rfl) (by first | assumption | rfl) dX1_leave_10 rfl ?_
    refine g_aload_n (q := 14) dX1_leave_13 rfl rfl ?_
    refine gf_X1_15 (q := 17) rfl (by first | assumption | rfl) dX1_leave_14 rfl ?_
    rw [a1]
    refine g_iload_n (q := 18) dX1_leave_17 rfl rfl ?_
    refine g_iastn (q := 19) (by first | assumption | rfl) (by repeat' first | apply nI_a | apply nI_m | exact rfl) (by have := mt (nI_leI (a := 16) (b := tl.length) (by omega) (by omega)).mpr c6; omega) dX1_leave_18 rfl ?_
    refine g_aload_n (q := 20) dX1_leave_19 rfl rfl ?_
    refine g_dup (q := 21) dX1_leave_20 rfl rfl ?_
    refine gf_X1_15 (q := 24) rfl (by first | assumption | rfl) dX1_leave_21 rfl ?_
    rw [uI_ne (show 22 ≠ 23 by decide), a1]
    refine g_iconst (q := 25) (v := nI 1) dX1_leave_24 rfl (by decide) ?_
    refine g_iadd (q := 26) dX1_leave_25 rfl ?_
    rw [nI_add]
    refine pf_X1_15 (q := 29) rfl (by first | assumption | rfl) dX1_leave_26 rfl ?_
    refine g_vret rfl dX1_leave_29 (Nat.le_refl _) (Nat.le_refl _) ?_
    have hl : tl.length < 16 := by have := mt (nI_leI (a := 16) (b := tl.length) (by omega) (by omega)).mpr c6; omega
    rw [if_pos hl] at h
    exact h _ (Fr.tr (Fr.ui (by decide)) (Fr.ui (by decide))) (ATr_leave hA hl)
set_option maxRecDepth 100000 in
set_option maxHeartbeats 400000 in
theorem c_X1_traced {d k : Nat} {I : Nat → Nat → Int32} {Q : Option Int32 → Wd → Prop} {i : Int32} {tl : List Nat} (hA : ATr I tl) (h1 : ∀ j : Nat, j < tl.length → i = nI j → Q (some (nI (tl.getD j 0))) (I, RR k)) (h0 : (i < 0 ∨ nI tl.length ≤ i) → Q (some (-1000000)) (I, RR k)) : Ex d 0 0 mX1_traced [.ref 22, .int i] 68 (I, RR k) 68 Q := by
  obtain ⟨a1, a2, a3⟩ := id hA
  refine ex_intro (L0 := [.ref 22, .int i]) (by decide +kernel) rfl rfl (Nat.le_of_ble_eq_true rfl) rfl ?_
  refine g_iload_n (q := 1) dX1_traced_0 rfl rfl ?_
  refine g_if_lt (tgt := 21) (q := 4) dX1_traced_1 (by decide) rfl (fun c1 => ?_) (fun c1 => ?_)
  · refine lc_X1_23 (q := 23) rfl dX1_traced_21 rfl ?_
    refine g_iret rfl dX1_traced_23 (Nat.le_refl _) (Nat.le_refl _) ?_
    exact h0 (Or.inl c1)
  · refine g_iload_n (q := 5) dX1_traced_4 rfl rfl ?_
    refine g_aload_n (q := 6) dX1_traced_5 rfl rfl ?_
    refine gf_X1_15 (q := 9) rfl (by first | assumption | rfl) dX1_traced_6 rfl ?_
    rw [a1]
    refine g_icmp_ge (tgt := 21) (q := 12) dX1_traced_9 (by decide) rfl (fun c9 => ?_) (fun c9 => ?_)
    · refine lc_X1_23 (q := 23) rfl dX1_traced_21 rfl ?_
      refine g_iret rfl dX1_traced_23 (Nat.le_refl _) (Nat.le_refl _) ?_
      exact h0 (Or.inr c9)
    · obtain ⟨j, hj, rfl⟩ := nI_of c1
      have hlt : j < tl.length := by have := mt (nI_leI (a := tl.length) (b := j) (by omega) (by omega)).mpr c9; omega
      refine g_aload_n (q := 13) dX1_traced_12 rfl rfl ?_
      refine gf_X1_9 (q := 16) rfl (by first | assumption | rfl) (by first | assumption | rfl) dX1_traced_13 rfl ?_
      refine g_iload_n (q := 17) dX1_traced_16 rfl rfl ?_
      refine g_ialdn (q := 18) (by first | assumption | rfl) rfl (by omega) dX1_traced_17 rfl ?_
      rw [a2 j hlt]
      refine g_goto (q := 23) dX1_traced_18 (by decide) ?_
      refine g_iret rfl dX1_traced_23 (Nat.le_refl _) (Nat.le_refl _) ?_
      exact h1 j hlt rfl
set_option maxRecDepth 100000 in
set_option maxHeartbeats 400000 in
theorem c_s10 {d k : Nat} {I : Nat → Nat → Int32} {Q : Option Int32 → Wd → Prop} {a : Nat} {v : Vv} {tl : List Nat} (hC : CRep I 4 v) (hV : VOk v) (ha : a < vna v) (hA : ATr I tl) (h : ∀ I2, Fr [22, 23] I I2 → ATr I2 (lvF (tl) 10) → Q (some (nI (vfa v a 0))) (I2, RR k)) : Ex (d + 1) 0 0 mX1_sizeBy [.ref 22, .int (nI 10), .int (nI a)] 68 (I, RR k) 68 Q := by
  have hef := hC.2.2.2 a ha
  have hv4 := hV.2.2.2 a ha
  have hv2 := hV.2.1
  refine ex_intro (L0 := [.ref 22, .int (nI 10), .int (nI a)]) (by decide +kernel) rfl rfl (Nat.le_of_ble_eq_true rfl) rfl ?_
  refine g_aload_n (q := 1) dX1_sizeBy_0 rfl rfl ?_
  refine g_iload_n (q := 2) dX1_sizeBy_1 rfl rfl ?_
  refine k_X1_45 (q := 5) rfl (Nat.le_of_ble_eq_true rfl) (by first | assumption | rfl) dX1_sizeBy_2 rfl (c_X1_leave hA (fun I2 hF2 hA2 => ?_))
  have hC2 := hC.fr hF2 (afr (Or.inl rfl))
  refine g_iload_n (q := 6) dX1_sizeBy_5 rfl rfl ?_
  refine g_tabOut (q := 0) (tgt := 81) dX1_sizeBy_6 (by decide) (by decide) ?_
  refine g_aload_n (q := 82) dX1_sizeBy_81 rfl rfl ?_
  refine gf_X1_19 (q := 85) rfl (by first | assumption | rfl) (by first | assumption | rfl) dX1_sizeBy_82 rfl ?_
  refine g_iload_n (q := 86) dX1_sizeBy_85 rfl rfl ?_
  refine g_iconst (q := 87) (v := nI 0) dX1_sizeBy_86 rfl (by decide) ?_
  refine k_X1_28 (q := 90) rfl (Nat.le_of_ble_eq_true rfl) (by first | assumption | rfl) dX1_sizeBy_87 rfl (c_X5_fact (wv4 k) (by omega) (by omega) ?_)
  rw [hC2.2.2.2 a ha 0 (by omega)]
  refine g_iret rfl dX1_sizeBy_90 (Nat.le_refl _) (Nat.le_refl _) ?_
  exact h I2 hF2 hA2
set_option maxRecDepth 100000 in
set_option maxHeartbeats 400000 in
theorem c_m20 {d k : Nat} {I : Nat → Nat → Int32} {Q : Option Int32 → Wd → Prop} {a : Nat} {v : Vv} {tl : List Nat} (hC : CRep I 4 v) (hV : VOk v) (ha : a < vna v) (hA : ATr I tl) (h : ∀ I2, Fr [22, 23] I I2 → ATr I2 (lvF (tl) 20) → Q (some (nI a)) (I2, RR k)) : Ex (d + 1) 0 0 mX1_markBy [.ref 22, .int (nI 20), .int (nI a)] 68 (I, RR k) 68 Q := by
  have hef := hC.2.2.2 a ha
  have hv4 := hV.2.2.2 a ha
  have hv2 := hV.2.1
  refine ex_intro (L0 := [.ref 22, .int (nI 20), .int (nI a)]) (by decide +kernel) rfl rfl (Nat.le_of_ble_eq_true rfl) rfl ?_
  refine g_aload_n (q := 1) dX1_markBy_0 rfl rfl ?_
  refine g_iload_n (q := 2) dX1_markBy_1 rfl rfl ?_
  refine k_X1_45 (q := 5) rfl (Nat.le_of_ble_eq_true rfl) (by first | assumption | rfl) dX1_markBy_2 rfl (c_X1_leave hA (fun I2 hF2 hA2 => ?_))
  have hC2 := hC.fr hF2 (afr (Or.inl rfl))
  refine g_iload_n (q := 6) dX1_markBy_5 rfl rfl ?_
  refine g_tabOut (q := 0) (tgt := 90) dX1_markBy_6 (by decide) (by decide) ?_
  refine g_iload_n (q := 91) dX1_markBy_90 rfl rfl ?_
  refine g_iret rfl dX1_markBy_91 (Nat.le_refl _) (Nat.le_refl _) ?_
  exact h I2 hF2 hA2
set_option maxRecDepth 100000 in
set_option maxHeartbeats 400000 in
theorem c_m21 {d k : Nat} {I : Nat → Nat → Int32} {Q : Option Int32 → Wd → Prop} {a : Nat} {v : Vv} {tl : List Nat} (hC : CRep I 4 v) (hV : VOk v) (ha : a < vna v) (hA : ATr I tl) (h : ∀ I2, Fr [22, 23] I I2 → ATr I2 (lvF (lvF (tl) 21) 20) → Q (some (nI a + nI (notF v a))) (I2, RR k)) : Ex (d + 7) 0 0 mX1_markBy [.ref 22, .int (nI 21), .int (nI a)] 68 (I, RR k) 68 Q := by
  have hef := hC.2.2.2 a ha
  have hv4 := hV.2.2.2 a ha
  have hv2 := hV.2.1
  refine ex_intro (L0 := [.ref 22, .int (nI 21), .int (nI a)]) (by decide +kernel) rfl rfl (Nat.le_of_ble_eq_true rfl) rfl ?_
  refine g_aload_n (q := 1) dX1_markBy_0 rfl rfl ?_
  refine g_iload_n (q := 2) dX1_markBy_1 rfl rfl ?_
  refine k_X1_45 (q := 5) rfl (Nat.le_of_ble_eq_true rfl) (by first | assumption | rfl) dX1_markBy_2 rfl (c_X1_leave hA (fun I2 hF2 hA2 => ?_))
  have hC2 := hC.fr hF2 (afr (Or.inl rfl))
  refine g_iload_n (q := 6) dX1_markBy_5 rfl rfl ?_
  refine g_tabIn (q := 0) (tgt := 36) (off := 30) dX1_markBy_6 (by decide) (by decide) (by decide) (by decide) ?_
  refine g_aload_n (q := 37) dX1_markBy_36 rfl rfl ?_
  refine g_bipush (q := 39) (v := nI 20) dX1_markBy_37 rfl (by decide) ?_
  refine g_iload_n (q := 40) dX1_markBy_39 rfl rfl ?_
  refine k_X1_42 (q := 43) rfl (Nat.le_of_ble_eq_true rfl) (by first | assumption | rfl) dX1_markBy_40 rfl (c_m20 hC2 hV ha hA2 (fun I3 hF3 hA3 => ?_))
  have hC3 := hC2.fr hF3 (afr (Or.inl rfl))
  refine g_aload_n (q := 44) dX1_markBy_43 rfl rfl ?_
  refine gf_X1_19 (q := 47) rfl (by first | assumption | rfl) (by first | assumption | rfl) dX1_markBy_44 rfl ?_
  refine g_iload_n (q := 48) dX1_markBy_47 rfl rfl ?_
  refine k_X1_49 (q := 51) rfl (Nat.le_of_ble_eq_true rfl) (by first | assumption | rfl) dX1_markBy_48 rfl (c_X5_methodsNotNever (wv4 k) hC3 hV ha ?_)
  refine g_iadd (q := 52) dX1_markBy_51 rfl ?_
  refine g_iret rfl dX1_markBy_52 (Nat.le_refl _) (Nat.le_refl _) ?_
  exact h I3 (hF2.tr hF3) hA3
set_option maxRecDepth 100000 in
set_option maxHeartbeats 400000 in
theorem c_m22 {d k : Nat} {I : Nat → Nat → Int32} {Q : Option Int32 → Wd → Prop} {a : Nat} {v : Vv} {tl : List Nat} (hC : CRep I 4 v) (hV : VOk v) (ha : a < vna v) (hA : ATr I tl) (h : ∀ I2, Fr [22, 23] I I2 → ATr I2 (lvF (lvF (lvF (tl) 22) 21) 20) → Q (some (nI a + nI (notF v a) - nI 1000)) (I2, RR k)) : Ex (d + 8) 0 0 mX1_markBy [.ref 22, .int (nI 22), .int (nI a)] 68 (I, RR k) 68 Q := by
  have hef := hC.2.2.2 a ha
  have hv4 := hV.2.2.2 a ha
  have hv2 := hV.2.1
  refine ex_intro (L0 := [.ref 22, .int (nI 22), .int (nI a)]) (by decide +kernel) rfl rfl (Nat.le_of_ble_eq_true rfl) rfl ?_
  refine g_aload_n (q := 1) dX1_markBy_0 rfl rfl ?_
  refine g_iload_n (q := 2) dX1_markBy_1 rfl rfl ?_
  refine k_X1_45 (q := 5) rfl (Nat.le_of_ble_eq_true rfl) (by first | assumption | rfl) dX1_markBy_2 rfl (c_X1_leave hA (fun I2 hF2 hA2 => ?_))
  have hC2 := hC.fr hF2 (afr (Or.inl rfl))
  refine g_iload_n (q := 6) dX1_markBy_5 rfl rfl ?_
  refine g_tabIn (q := 0) (tgt := 53) (off := 47) dX1_markBy_6 (by decide) (by decide) (by decide) (by decide) ?_
  refine g_aload_n (q := 54) dX1_markBy_53 rfl rfl ?_
  refine g_bipush (q := 56) (v := nI 21) dX1_markBy_54 rfl (by decide) ?_
  refine g_iload_n (q := 57) dX1_markBy_56 rfl rfl ?_
  refine k_X1_42 (q := 60) rfl (Nat.le_of_ble_eq_true rfl) (by first | assumption | rfl) dX1_markBy_57 rfl (c_m21 hC2 hV ha hA2 (fun I3 hF3 hA3 => ?_))
  have hC3 := hC2.fr hF3 (afr (Or.inl rfl))
  refine g_sipush (q := 63) (v := nI 1000) dX1_markBy_60 rfl (by decide) ?_
  refine g_isub (q := 64) dX1_markBy_63 rfl ?_
  refine g_iret rfl dX1_markBy_64 (Nat.le_refl _) (Nat.le_refl _) ?_
  exact h I3 (hF2.tr hF3) hA3
set_option maxRecDepth 100000 in
set_option maxHeartbeats 400000 in
theorem c_m24 {d k : Nat} {I : Nat → Nat → Int32} {Q : Option Int32 → Wd → Prop} {a : Nat} {v : Vv} {tl : List Nat} (hC : CRep I 4 v) (hV : VOk v) (ha : a < vna v) (hA : ATr I tl) (h : ∀ I2, Fr [22, 23] I I2 → ATr I2 (lvF (lvF (lvF (tl) 24) 21) 20) → Q (some (nI 2 * (nI a + nI (notF v a)))) (I2, RR k)) : Ex (d + 8) 0 0 mX1_markBy [.ref 22, .int (nI 24), .int (nI a)] 68 (I, RR k) 68 Q := by
  have hef := hC.2.2.2 a ha
  have hv4 := hV.2.2.2 a ha
  have hv2 := hV.2.1
  refine ex_intro (L0 := [.ref 22, .int (nI 24), .int (nI a)]) (by decide +kernel) rfl rfl (Nat.le_of_ble_eq_true rfl) rfl ?_
  refine g_aload_n (q := 1) dX1_markBy_0 rfl rfl ?_
  refine g_iload_n (q := 2) dX1_markBy_1 rfl rfl ?_
  refine k_X1_45 (q := 5) rfl (Nat.le_of_ble_eq_true rfl) (by first | assumption | rfl) dX1_markBy_2 rfl (c_X1_leave hA (fun I2 hF2 hA2 => ?_))
  have hC2 := hC.fr hF2 (afr (Or.inl rfl))
  refine g_iload_n (q := 6) dX1_markBy_5 rfl rfl ?_
  refine g_tabIn (q := 0) (tgt := 80) (off := 74) dX1_markBy_6 (by decide) (by decide) (by decide) (by decide) ?_
  refine g_iconst (q := 81) (v := nI 2) dX1_markBy_80 rfl (by decide) ?_
  refine g_aload_n (q := 82) dX1_markBy_81 rfl rfl ?_
  refine g_bipush (q := 84) (v := nI 21) dX1_markBy_82 rfl (by decide) ?_
  refine g_iload_n (q := 85) dX1_markBy_84 rfl rfl ?_
  refine k_X1_42 (q := 88) rfl (Nat.le_of_ble_eq_true rfl) (by first | assumption | rfl) dX1_markBy_85 rfl (c_m21 hC2 hV ha hA2 (fun I3 hF3 hA3 => ?_))
  have hC3 := hC2.fr hF3 (afr (Or.inl rfl))
  refine g_imul (q := 89) dX1_markBy_88 rfl ?_
  refine g_iret rfl dX1_markBy_89 (Nat.le_refl _) (Nat.le_refl _) ?_
  exact h I3 (hF2.tr hF3) hA3
set_option maxRecDepth 100000 in
set_option maxHeartbeats 400000 in
theorem c_s13 {d k : Nat} {I : Nat → Nat → Int32} {Q : Option Int32 → Wd → Prop} {a : Nat} {v : Vv} {tl : List Nat} (hC : CRep I 4 v) (hV : VOk v) (ha : a < vna v) (hA : ATr I tl) (h : ∀ I2, Fr [22, 23] I I2 → ATr I2 (lvF (lvF (tl) 13) 10) → Q (some (nI (vfa v a 0) - nI 100)) (I2, RR k)) : Ex (d + 2) 0 0 mX1_sizeBy [.ref 22, .int (nI 13), .int (nI a)] 68 (I, RR k) 68 Q := by
  have hef := hC.2.2.2 a ha
  have hv4 := hV.2.2.2 a ha
  have hv2 := hV.2.1
  refine ex_intro (L0 := [.ref 22, .int (nI 13), .int (nI a)]) (by decide +kernel) rfl rfl (Nat.le_of_ble_eq_true rfl) rfl ?_
  refine g_aload_n (q := 1) dX1_sizeBy_0 rfl rfl ?_
  refine g_iload_n (q := 2) dX1_sizeBy_1 rfl rfl ?_
  refine k_X1_45 (q := 5) rfl (Nat.le_of_ble_eq_true rfl) (by first | assumption | rfl) dX1_sizeBy_2 rfl (c_X1_leave hA (fun I2 hF2 hA2 => ?_))
  have hC2 := hC.fr hF2 (afr (Or.inl rfl))
  refine g_iload_n (q := 6) dX1_sizeBy_5 rfl rfl ?_
  refine g_tabIn (q := 0) (tgt := 60) (off := 54) dX1_sizeBy_6 (by decide) (by decide) (by decide) (by decide) ?_
  refine g_aload_n (q := 61) dX1_sizeBy_60 rfl rfl ?_
  refine g_bipush (q := 63) (v := nI 10) dX1_sizeBy_61 rfl (by decide) ?_
  refine g_iload_n (q := 64) dX1_sizeBy_63 rfl rfl ?_
  refine k_X1_36 (q := 67) rfl (Nat.le_of_ble_eq_true rfl) (by first | assumption | rfl) dX1_sizeBy_64 rfl (c_s10 hC2 hV ha hA2 (fun I3 hF3 hA3 => ?_))
  have hC3 := hC2.fr hF3 (afr (Or.inl rfl))
  refine g_bipush (q := 69) (v := nI 100) dX1_sizeBy_67 rfl (by decide) ?_
  refine g_isub (q := 70) dX1_sizeBy_69 rfl ?_
  refine g_iret rfl dX1_sizeBy_70 (Nat.le_refl _) (Nat.le_refl _) ?_
  exact h I3 (hF2.tr hF3) hA3
set_option maxRecDepth 100000 in
set_option maxHeartbeats 400000 in
theorem c_s14 {d k : Nat} {I : Nat → Nat → Int32} {Q : Option Int32 → Wd → Prop} {a : Nat} {v : Vv} {tl : List Nat} (hC : CRep I 4 v) (hV : VOk v) (ha : a < vna v) (hA : ATr I tl) (h : ∀ I2, Fr [22, 23] I I2 → ATr I2 (lvF (lvF (lvF (tl) 14) 13) 10) → Q (some (nI 2 * (nI (vfa v a 0) - nI 100))) (I2, RR k)) : Ex (d + 3) 0 0 mX1_sizeBy [.ref 22, .int (nI 14), .int (nI a)] 68 (I, RR k) 68 Q := by
  have hef := hC.2.2.2 a ha
  have hv4 := hV.2.2.2 a ha
  have hv2 := hV.2.1
  refine ex_intro (L0 := [.ref 22, .int (nI 14), .int (nI a)]) (by decide +kernel) rfl rfl (Nat.le_of_ble_eq_true rfl) rfl ?_
  refine g_aload_n (q := 1) dX1_sizeBy_0 rfl rfl ?_
  refine g_iload_n (q := 2) dX1_sizeBy_1 rfl rfl ?_
  refine k_X1_45 (q := 5) rfl (Nat.le_of_ble_eq_true rfl) (by first | assumption | rfl) dX1_sizeBy_2 rfl (c_X1_leave hA (fun I2 hF2 hA2 => ?_))
  have hC2 := hC.fr hF2 (afr (Or.inl rfl))
  refine g_iload_n (q := 6) dX1_sizeBy_5 rfl rfl ?_
  refine g_tabIn (q := 0) (tgt := 71) (off := 65) dX1_sizeBy_6 (by decide) (by decide) (by decide) (by decide) ?_
  refine g_iconst (q := 72) (v := nI 2) dX1_sizeBy_71 rfl (by decide) ?_
  refine g_aload_n (q := 73) dX1_sizeBy_72 rfl rfl ?_
  refine g_bipush (q := 75) (v := nI 13) dX1_sizeBy_73 rfl (by decide) ?_
  refine g_iload_n (q := 76) dX1_sizeBy_75 rfl rfl ?_
  refine k_X1_36 (q := 79) rfl (Nat.le_of_ble_eq_true rfl) (by first | assumption | rfl) dX1_sizeBy_76 rfl (c_s13 hC2 hV ha hA2 (fun I3 hF3 hA3 => ?_))
  have hC3 := hC2.fr hF3 (afr (Or.inl rfl))
  refine g_imul (q := 80) dX1_sizeBy_79 rfl ?_
  refine g_iret rfl dX1_sizeBy_80 (Nat.le_refl _) (Nat.le_refl _) ?_
  exact h I3 (hF2.tr hF3) hA3
def kdF (v : Vv) (a : Nat) : Nat := vfa v a 5
def mkV (v : Vv) (a : Nat) : Int32 := if vfa v a 5 = 1 then nI a + nI (notF v a) else if vfa v a 5 = 2 then nI 2 * (nI a + nI (notF v a)) else if vfa v a 5 = 3 then nI a + nI (notF v a) - nI 1000 else if vfa v a 5 = 4 then nI a - (nI (vfa v a 0) - nI 100) else nI a - nI 2 * (nI (vfa v a 0) - nI 100)
def mkT (v : Vv) (a : Nat) (tl : List Nat) : List Nat := if vfa v a 5 = 1 then lvF (lvF (tl) 21) 20 else if vfa v a 5 = 2 then lvF (lvF (lvF (tl) 24) 21) 20 else if vfa v a 5 = 3 then lvF (lvF (lvF (tl) 22) 21) 20 else if vfa v a 5 = 4 then lvF (lvF (lvF (lvF (tl) 23) 20) 13) 10 else lvF (lvF (lvF (lvF (lvF (tl) 23) 20) 14) 13) 10
def szV (v : Vv) (a : Nat) : Int32 := if vfa v a 5 = 2 then -(nI (vfa v a 0) + mkV v a) else if vfa v a 5 < 4 then nI (vfa v a 0) + mkV v a else if vfa v a 5 = 4 then nI (vfa v a 0) - nI 100 else nI 2 * (nI (vfa v a 0) - nI 100)
def szT (v : Vv) (a : Nat) (tl : List Nat) : List Nat := if vfa v a 5 = 2 then mkT v a (lvF (lvF (lvF (tl) 12) 11) 10) else if vfa v a 5 < 4 then mkT v a (lvF (lvF (tl) 11) 10) else if vfa v a 5 = 4 then lvF (lvF (tl) 13) 10 else lvF (lvF (lvF (tl) 14) 13) 10

set_option maxRecDepth 100000 in
set_option maxHeartbeats 400000 in
theorem c_bM1 {d k : Nat} {I : Nat → Nat → Int32} {Q : Option Int32 → Wd → Prop} {a : Nat} {v : Vv} {tl : List Nat} (hC : CRep I 4 v) (hV : VOk v) (ha : a < vna v) (hA : ATr I tl) (hkd : vfa v a 5 = 1) (h : ∀ I2, Fr [22, 23] I I2 → ATr I2 (lvF (lvF (tl) 21) 20) → Q (some (nI a + nI (notF v a))) (I2, RR k)) : Ex (d + 8) 0 0 mX1_begin [.ref 22, .int (nI 1), .int (nI a)] 68 (I, RR k) 68 Q := by
  have hef := hC.2.2.2 a ha
  have hv4 := hV.2.2.2 a ha
  have hv2 := hV.2.1
  refine ex_intro (L0 := [.ref 22, .int (nI 1), .int (nI a), .null]) (by decide +kernel) rfl rfl (Nat.le_of_ble_eq_true rfl) rfl ?_
  refine g_aload_n (q := 1) dX1_begin_0 rfl rfl ?_
  refine gf_X1_19 (q := 4) rfl (by first | assumption | rfl) (by first | assumption | rfl) dX1_begin_1 rfl ?_
  refine g_iload_n (q := 5) dX1_begin_4 rfl rfl ?_
  refine g_iconst (q := 6) (v := nI 5) dX1_begin_5 rfl (by decide) ?_
  refine k_X1_28 (q := 9) rfl (Nat.le_of_ble_eq_true rfl) (by first | assumption | rfl) dX1_begin_6 rfl (c_X5_fact (wv4 k) (by omega) (by omega) ?_)
  rw [hef 5 (by omega), hkd]
  refine g_istore_n (q := 10) dX1_begin_9 rfl (by decide) rfl rfl ?_
  refine g_iload_n (q := 11) dX1_begin_10 rfl rfl ?_
  refine g_if_ne (tgt := 27) (q := 14) dX1_begin_11 (by decide) rfl (fun _ => ?_) (fun c11 => absurd c11 (by decide))
  refine g_aload_n (q := 28) dX1_begin_27 rfl rfl ?_
  refine gs_X1_39 (q := 31) rfl dX1_begin_28 rfl ?_
  refine g_iload_n (q := 32) dX1_begin_31 rfl rfl ?_
  refine g_tald (i := 3) (q := 33) (by decide) (nI_in (by decide) (by decide)) dX1_begin_32 rfl ?_
  refine g_iload_n (q := 34) dX1_begin_33 rfl rfl ?_
  refine k_X1_42 (q := 37) rfl (Nat.le_of_ble_eq_true rfl) (by first | assumption | rfl) dX1_begin_34 rfl (c_m21 hC hV ha hA (fun I2 hF2 hA2 => ?_))
  refine g_iret rfl dX1_begin_37 (Nat.le_refl _) (Nat.le_refl _) ?_
  exact h I2 hF2 hA2
set_option maxRecDepth 100000 in
set_option maxHeartbeats 400000 in
theorem c_bM2 {d k : Nat} {I : Nat → Nat → Int32} {Q : Option Int32 → Wd → Prop} {a : Nat} {v : Vv} {tl : List Nat} (hC : CRep I 4 v) (hV : VOk v) (ha : a < vna v) (hA : ATr I tl) (hkd : vfa v a 5 = 2) (h : ∀ I2, Fr [22, 23] I I2 → ATr I2 (lvF (lvF (lvF (tl) 24) 21) 20) → Q (some (nI 2 * (nI a + nI (notF v a)))) (I2, RR k)) : Ex (d + 9) 0 0 mX1_begin [.ref 22, .int (nI 1), .int (nI a)] 68 (I, RR k) 68 Q := by
  have hef := hC.2.2.2 a ha
  have hv4 := hV.2.2.2 a ha
  have hv2 := hV.2.1
  refine ex_intro (L0 := [.ref 22, .int (nI 1), .int (nI a), .null]) (by decide +kernel) rfl rfl (Nat.le_of_ble_eq_true rfl) rfl ?_
  refine g_aload_n (q := 1) dX1_begin_0 rfl rfl ?_
  refine gf_X1_19 (q := 4) rfl (by first | assumption | rfl) (by first | assumption | rfl) dX1_begin_1 rfl ?_
  refine g_iload_n (q := 5) dX1_begin_4 rfl rfl ?_
  refine g_iconst (q := 6) (v := nI 5) dX1_begin_5 rfl (by decide) ?_
  refine k_X1_28 (q := 9) rfl (Nat.le_of_ble_eq_true rfl) (by first | assumption | rfl) dX1_begin_6 rfl (c_X5_fact (wv4 k) (by omega) (by omega) ?_)
  rw [hef 5 (by omega), hkd]
  refine g_istore_n (q := 10) dX1_begin_9 rfl (by decide) rfl rfl ?_
  refine g_iload_n (q := 11) dX1_begin_10 rfl rfl ?_
  refine g_if_ne (tgt := 27) (q := 14) dX1_begin_11 (by decide) rfl (fun _ => ?_) (fun c11 => absurd c11 (by decide))
  refine g_aload_n (q := 28) dX1_begin_27 rfl rfl ?_
  refine gs_X1_39 (q := 31) rfl dX1_begin_28 rfl ?_
  refine g_iload_n (q := 32) dX1_begin_31 rfl rfl ?_
  refine g_tald (i := 3) (q := 33) (by decide) (nI_in (by decide) (by decide)) dX1_begin_32 rfl ?_
  refine g_iload_n (q := 34) dX1_begin_33 rfl rfl ?_
  refine k_X1_42 (q := 37) rfl (Nat.le_of_ble_eq_true rfl) (by first | assumption | rfl) dX1_begin_34 rfl (c_m24 hC hV ha hA (fun I2 hF2 hA2 => ?_))
  refine g_iret rfl dX1_begin_37 (Nat.le_refl _) (Nat.le_refl _) ?_
  exact h I2 hF2 hA2
set_option maxRecDepth 100000 in
set_option maxHeartbeats 400000 in
theorem c_bM3 {d k : Nat} {I : Nat → Nat → Int32} {Q : Option Int32 → Wd → Prop} {a : Nat} {v : Vv} {tl : List Nat} (hC : CRep I 4 v) (hV : VOk v) (ha : a < vna v) (hA : ATr I tl) (hkd : vfa v a 5 = 3) (h : ∀ I2, Fr [22, 23] I I2 → ATr I2 (lvF (lvF (lvF (tl) 22) 21) 20) → Q (some (nI a + nI (notF v a) - nI 1000)) (I2, RR k)) : Ex (d + 9) 0 0 mX1_begin [.ref 22, .int (nI 1), .int (nI a)] 68 (I, RR k) 68 Q := by
  have hef := hC.2.2.2 a ha
  have hv4 := hV.2.2.2 a ha
  have hv2 := hV.2.1
  refine ex_intro (L0 := [.ref 22, .int (nI 1), .int (nI a), .null]) (by decide +kernel) rfl rfl (Nat.le_of_ble_eq_true rfl) rfl ?_
  refine g_aload_n (q := 1) dX1_begin_0 rfl rfl ?_
  refine gf_X1_19 (q := 4) rfl (by first | assumption | rfl) (by first | assumption | rfl) dX1_begin_1 rfl ?_
  refine g_iload_n (q := 5) dX1_begin_4 rfl rfl ?_
  refine g_iconst (q := 6) (v := nI 5) dX1_begin_5 rfl (by decide) ?_
  refine k_X1_28 (q := 9) rfl (Nat.le_of_ble_eq_true rfl) (by first | assumption | rfl) dX1_begin_6 rfl (c_X5_fact (wv4 k) (by omega) (by omega) ?_)
  rw [hef 5 (by omega), hkd]
  refine g_istore_n (q := 10) dX1_begin_9 rfl (by decide) rfl rfl ?_
  refine g_iload_n (q := 11) dX1_begin_10 rfl rfl ?_
  refine g_if_ne (tgt := 27) (q := 14) dX1_begin_11 (by decide) rfl (fun _ => ?_) (fun c11 => absurd c11 (by decide))
  refine g_aload_n (q := 28) dX1_begin_27 rfl rfl ?_
  refine gs_X1_39 (q := 31) rfl dX1_begin_28 rfl ?_
  refine g_iload_n (q := 32) dX1_begin_31 rfl rfl ?_
  refine g_tald (i := 3) (q := 33) (by decide) (nI_in (by decide) (by decide)) dX1_begin_32 rfl ?_
  refine g_iload_n (q := 34) dX1_begin_33 rfl rfl ?_
  refine k_X1_42 (q := 37) rfl (Nat.le_of_ble_eq_true rfl) (by first | assumption | rfl) dX1_begin_34 rfl (c_m22 hC hV ha hA (fun I2 hF2 hA2 => ?_))
  refine g_iret rfl dX1_begin_37 (Nat.le_refl _) (Nat.le_refl _) ?_
  exact h I2 hF2 hA2
set_option maxRecDepth 100000 in
set_option maxHeartbeats 400000 in
theorem c_bM {d k : Nat} {I : Nat → Nat → Int32} {Q : Option Int32 → Wd → Prop} {a : Nat} {v : Vv} {tl : List Nat} (hC : CRep I 4 v) (hV : VOk v) (ha : a < vna v) (hA : ATr I tl) (hk4 : vfa v a 5 < 4) (h : ∀ I2, Fr [22, 23] I I2 → ATr I2 (mkT v a tl) → Q (some (mkV v a)) (I2, RR k)) : Ex (d + 9) 0 0 mX1_begin [.ref 22, .int (nI 1), .int (nI a)] 68 (I, RR k) 68 Q := by
  have hv4 := hV.2.2.2 a ha
  have h3 : vfa v a 5 = 1 ∨ vfa v a 5 = 2 ∨ vfa v a 5 = 3 := by omega
  simp only [mkT, mkV] at h
  rcases h3 with e | e | e
  · rw [if_pos e, if_pos e] at h; exact c_bM1 (d := d + 1) hC hV ha hA e h
  · rw [if_neg (by omega), if_pos e, if_neg (by omega), if_pos e] at h; exact c_bM2 hC hV ha hA e h
  · rw [if_neg (by omega), if_neg (by omega), if_pos e, if_neg (by omega), if_neg (by omega), if_pos e] at h; exact c_bM3 hC hV ha hA e h
set_option maxRecDepth 100000 in
set_option maxHeartbeats 400000 in
theorem c_s11 {d k : Nat} {I : Nat → Nat → Int32} {Q : Option Int32 → Wd → Prop} {a : Nat} {v : Vv} {tl : List Nat} (hC : CRep I 4 v) (hV : VOk v) (ha : a < vna v) (hA : ATr I tl) (hk4 : vfa v a 5 < 4) (h : ∀ I2, Fr [22, 23] I I2 → ATr I2 (mkT v a (lvF (lvF (tl) 11) 10)) → Q (some (nI (vfa v a 0) + mkV v a)) (I2, RR k)) : Ex (d + 10) 0 0 mX1_sizeBy [.ref 22, .int (nI 11), .int (nI a)] 68 (I, RR k) 68 Q := by
  have hef := hC.2.2.2 a ha
  have hv4 := hV.2.2.2 a ha
  have hv2 := hV.2.1
  refine ex_intro (L0 := [.ref 22, .int (nI 11), .int (nI a)]) (by decide +kernel) rfl rfl (Nat.le_of_ble_eq_true rfl) rfl ?_
  refine g_aload_n (q := 1) dX1_sizeBy_0 rfl rfl ?_
  refine g_iload_n (q := 2) dX1_sizeBy_1 rfl rfl ?_
  refine k_X1_45 (q := 5) rfl (Nat.le_of_ble_eq_true rfl) (by first | assumption | rfl) dX1_sizeBy_2 rfl (c_X1_leave hA (fun I2 hF2 hA2 => ?_))
  have hC2 := hC.fr hF2 (afr (Or.inl rfl))
  refine g_iload_n (q := 6) dX1_sizeBy_5 rfl rfl ?_
  refine g_tabIn (q := 0) (tgt := 36) (off := 30) dX1_sizeBy_6 (by decide) (by decide) (by decide) (by decide) ?_
  refine g_aload_n (q := 37) dX1_sizeBy_36 rfl rfl ?_
  refine g_bipush (q := 39) (v := nI 10) dX1_sizeBy_37 rfl (by decide) ?_
  refine g_iload_n (q := 40) dX1_sizeBy_39 rfl rfl ?_
  refine k_X1_36 (q := 43) rfl (Nat.le_of_ble_eq_true rfl) (by first | assumption | rfl) dX1_sizeBy_40 rfl (c_s10 hC2 hV ha hA2 (fun I3 hF3 hA3 => ?_))
  have hC3 := hC2.fr hF3 (afr (Or.inl rfl))
  refine g_aload_n (q := 44) dX1_sizeBy_43 rfl rfl ?_
  refine g_iconst (q := 45) (v := nI 1) dX1_sizeBy_44 rfl (by decide) ?_
  refine g_iload_n (q := 46) dX1_sizeBy_45 rfl rfl ?_
  refine k_X1_24 (q := 49) rfl (Nat.le_of_ble_eq_true rfl) (by first | assumption | rfl) dX1_sizeBy_46 rfl (c_bM hC3 hV ha hA3 hk4 (fun I4 hF4 hA4 => ?_))
  refine g_iadd (q := 50) dX1_sizeBy_49 rfl ?_
  refine g_iret rfl dX1_sizeBy_50 (Nat.le_refl _) (Nat.le_refl _) ?_
  exact h I4 (hF2.tr (hF3.tr hF4)) hA4
set_option maxRecDepth 100000 in
set_option maxHeartbeats 400000 in
theorem c_s12 {d k : Nat} {I : Nat → Nat → Int32} {Q : Option Int32 → Wd → Prop} {a : Nat} {v : Vv} {tl : List Nat} (hC : CRep I 4 v) (hV : VOk v) (ha : a < vna v) (hA : ATr I tl) (hk4 : vfa v a 5 < 4) (h : ∀ I2, Fr [22, 23] I I2 → ATr I2 (mkT v a (lvF (lvF (lvF (tl) 12) 11) 10)) → Q (some (-(nI (vfa v a 0) + mkV v a))) (I2, RR k)) : Ex (d + 11) 0 0 mX1_sizeBy [.ref 22, .int (nI 12), .int (nI a)] 68 (I, RR k) 68 Q := by
  have hef := hC.2.2.2 a ha
  have hv4 := hV.2.2.2 a ha
  have hv2 := hV.2.1
  refine ex_intro (L0 := [.ref 22, .int (nI 12), .int (nI a)]) (by decide +kernel) rfl rfl (Nat.le_of_ble_eq_true rfl) rfl ?_
  refine g_aload_n (q := 1) dX1_sizeBy_0 rfl rfl ?_
  refine g_iload_n (q := 2) dX1_sizeBy_1 rfl rfl ?_
  refine k_X1_45 (q := 5) rfl (Nat.le_of_ble_eq_true rfl) (by first | assumption | rfl) dX1_sizeBy_2 rfl (c_X1_leave hA (fun I2 hF2 hA2 => ?_))
  have hC2 := hC.fr hF2 (afr (Or.inl rfl))
  refine g_iload_n (q := 6) dX1_sizeBy_5 rfl rfl ?_
  refine g_tabIn (q := 0) (tgt := 51) (off := 45) dX1_sizeBy_6 (by decide) (by decide) (by decide) (by decide) ?_
  refine g_aload_n (q := 52) dX1_sizeBy_51 rfl rfl ?_
  refine g_bipush (q := 54) (v := nI 11) dX1_sizeBy_52 rfl (by decide) ?_
  refine g_iload_n (q := 55) dX1_sizeBy_54 rfl rfl ?_
  refine k_X1_36 (q := 58) rfl (Nat.le_of_ble_eq_true rfl) (by first | assumption | rfl) dX1_sizeBy_55 rfl (c_s11 hC2 hV ha hA2 hk4 (fun I3 hF3 hA3 => ?_))
  refine g_ineg (q := 59) dX1_sizeBy_58 rfl ?_
  refine g_iret rfl dX1_sizeBy_59 (Nat.le_refl _) (Nat.le_refl _) ?_
  exact h I3 (hF2.tr hF3) hA3
set_option maxRecDepth 100000 in
set_option maxHeartbeats 400000 in
theorem c_bS1 {d k : Nat} {I : Nat → Nat → Int32} {Q : Option Int32 → Wd → Prop} {a : Nat} {v : Vv} {tl : List Nat} (hC : CRep I 4 v) (hV : VOk v) (ha : a < vna v) (hA : ATr I tl) (hkd : vfa v a 5 = 1) (h : ∀ I2, Fr [22, 23] I I2 → ATr I2 (mkT v a (lvF (lvF (tl) 11) 10)) → Q (some (nI (vfa v a 0) + mkV v a)) (I2, RR k)) : Ex (d + 11) 0 0 mX1_begin [.ref 22, .int (nI 0), .int (nI a)] 68 (I, RR k) 68 Q := by
  have hef := hC.2.2.2 a ha
  have hv4 := hV.2.2.2 a ha
  have hv2 := hV.2.1
  refine ex_intro (L0 := [.ref 22, .int (nI 0), .int (nI a), .null]) (by decide +kernel) rfl rfl (Nat.le_of_ble_eq_true rfl) rfl ?_
  refine g_aload_n (q := 1) dX1_begin_0 rfl rfl ?_
  refine gf_X1_19 (q := 4) rfl (by first | assumption | rfl) (by first | assumption | rfl) dX1_begin_1 rfl ?_
  refine g_iload_n (q := 5) dX1_begin_4 rfl rfl ?_
  refine g_iconst (q := 6) (v := nI 5) dX1_begin_5 rfl (by decide) ?_
  refine k_X1_28 (q := 9) rfl (Nat.le_of_ble_eq_true rfl) (by first | assumption | rfl) dX1_begin_6 rfl (c_X5_fact (wv4 k) (by omega) (by omega) ?_)
  rw [hef 5 (by omega), hkd]
  refine g_istore_n (q := 10) dX1_begin_9 rfl (by decide) rfl rfl ?_
  refine g_iload_n (q := 11) dX1_begin_10 rfl rfl ?_
  refine g_if_ne (tgt := 27) (q := 14) dX1_begin_11 (by decide) rfl (fun c11 => absurd c11 (fun z => z rfl)) (fun _ => ?_)
  refine g_aload_n (q := 15) dX1_begin_14 rfl rfl ?_
  refine gs_X1_33 (q := 18) rfl dX1_begin_15 rfl ?_
  refine g_iload_n (q := 19) dX1_begin_18 rfl rfl ?_
  refine g_tald (i := 2) (q := 20) (by decide) (nI_in (by decide) (by decide)) dX1_begin_19 rfl ?_
  refine g_iload_n (q := 21) dX1_begin_20 rfl rfl ?_
  refine k_X1_36 (q := 24) rfl (Nat.le_of_ble_eq_true rfl) (by first | assumption | rfl) dX1_begin_21 rfl (c_s11 hC hV ha hA (by omega) (fun I2 hF2 hA2 => ?_))
  refine g_goto (q := 37) dX1_begin_24 (by decide) ?_
  refine g_iret rfl dX1_begin_37 (Nat.le_refl _) (Nat.le_refl _) ?_
  exact h I2 hF2 hA2
set_option maxRecDepth 100000 in
set_option maxHeartbeats 400000 in
theorem c_bS2 {d k : Nat} {I : Nat → Nat → Int32} {Q : Option Int32 → Wd → Prop} {a : Nat} {v : Vv} {tl : List Nat} (hC : CRep I 4 v) (hV : VOk v) (ha : a < vna v) (hA : ATr I tl) (hkd : vfa v a 5 = 2) (h : ∀ I2, Fr [22, 23] I I2 → ATr I2 (mkT v a (lvF (lvF (lvF (tl) 12) 11) 10)) → Q (some (-(nI (vfa v a 0) + mkV v a))) (I2, RR k)) : Ex (d + 12) 0 0 mX1_begin [.ref 22, .int (nI 0), .int (nI a)] 68 (I, RR k) 68 Q := by
  have hef := hC.2.2.2 a ha
  have hv4 := hV.2.2.2 a ha
  have hv2 := hV.2.1
  refine ex_intro (L0 := [.ref 22, .int (nI 0), .int (nI a), .null]) (by decide +kernel) rfl rfl (Nat.le_of_ble_eq_true rfl) rfl ?_
  refine g_aload_n (q := 1) dX1_begin_0 rfl rfl ?_
  refine gf_X1_19 (q := 4) rfl (by first | assumption | rfl) (by first | assumption | rfl) dX1_begin_1 rfl ?_
  refine g_iload_n (q := 5) dX1_begin_4 rfl rfl ?_
  refine g_iconst (q := 6) (v := nI 5) dX1_begin_5 rfl (by decide) ?_
  refine k_X1_28 (q := 9) rfl (Nat.le_of_ble_eq_true rfl) (by first | assumption | rfl) dX1_begin_6 rfl (c_X5_fact (wv4 k) (by omega) (by omega) ?_)
  rw [hef 5 (by omega), hkd]
  refine g_istore_n (q := 10) dX1_begin_9 rfl (by decide) rfl rfl ?_
  refine g_iload_n (q := 11) dX1_begin_10 rfl rfl ?_
  refine g_if_ne (tgt := 27) (q := 14) dX1_begin_11 (by decide) rfl (fun c11 => absurd c11 (fun z => z rfl)) (fun _ => ?_)
  refine g_aload_n (q := 15) dX1_begin_14 rfl rfl ?_
  refine gs_X1_33 (q := 18) rfl dX1_begin_15 rfl ?_
  refine g_iload_n (q := 19) dX1_begin_18 rfl rfl ?_
  refine g_tald (i := 2) (q := 20) (by decide) (nI_in (by decide) (by decide)) dX1_begin_19 rfl ?_
  refine g_iload_n (q := 21) dX1_begin_20 rfl rfl ?_
  refine k_X1_36 (q := 24) rfl (Nat.le_of_ble_eq_true rfl) (by first | assumption | rfl) dX1_begin_21 rfl (c_s12 hC hV ha hA (by omega) (fun I2 hF2 hA2 => ?_))
  refine g_goto (q := 37) dX1_begin_24 (by decide) ?_
  refine g_iret rfl dX1_begin_37 (Nat.le_refl _) (Nat.le_refl _) ?_
  exact h I2 hF2 hA2
set_option maxRecDepth 100000 in
set_option maxHeartbeats 400000 in
theorem c_bS3 {d k : Nat} {I : Nat → Nat → Int32} {Q : Option Int32 → Wd → Prop} {a : Nat} {v : Vv} {tl : List Nat} (hC : CRep I 4 v) (hV : VOk v) (ha : a < vna v) (hA : ATr I tl) (hkd : vfa v a 5 = 3) (h : ∀ I2, Fr [22, 23] I I2 → ATr I2 (mkT v a (lvF (lvF (tl) 11) 10)) → Q (some (nI (vfa v a 0) + mkV v a)) (I2, RR k)) : Ex (d + 11) 0 0 mX1_begin [.ref 22, .int (nI 0), .int (nI a)] 68 (I, RR k) 68 Q := by
  have hef := hC.2.2.2 a ha
  have hv4 := hV.2.2.2 a ha
  have hv2 := hV.2.1
  refine ex_intro (L0 := [.ref 22, .int (nI 0), .int (nI a), .null]) (by decide +kernel) rfl rfl (Nat.le_of_ble_eq_true rfl) rfl ?_
  refine g_aload_n (q := 1) dX1_begin_0 rfl rfl ?_
  refine gf_X1_19 (q := 4) rfl (by first | assumption | rfl) (by first | assumption | rfl) dX1_begin_1 rfl ?_
  refine g_iload_n (q := 5) dX1_begin_4 rfl rfl ?_
  refine g_iconst (q := 6) (v := nI 5) dX1_begin_5 rfl (by decide) ?_
  refine k_X1_28 (q := 9) rfl (Nat.le_of_ble_eq_true rfl) (by first | assumption | rfl) dX1_begin_6 rfl (c_X5_fact (wv4 k) (by omega) (by omega) ?_)
  rw [hef 5 (by omega), hkd]
  refine g_istore_n (q := 10) dX1_begin_9 rfl (by decide) rfl rfl ?_
  refine g_iload_n (q := 11) dX1_begin_10 rfl rfl ?_
  refine g_if_ne (tgt := 27) (q := 14) dX1_begin_11 (by decide) rfl (fun c11 => absurd c11 (fun z => z rfl)) (fun _ => ?_)
  refine g_aload_n (q := 15) dX1_begin_14 rfl rfl ?_
  refine gs_X1_33 (q := 18) rfl dX1_begin_15 rfl ?_
  refine g_iload_n (q := 19) dX1_begin_18 rfl rfl ?_
  refine g_tald (i := 2) (q := 20) (by decide) (nI_in (by decide) (by decide)) dX1_begin_19 rfl ?_
  refine g_iload_n (q := 21) dX1_begin_20 rfl rfl ?_
  refine k_X1_36 (q := 24) rfl (Nat.le_of_ble_eq_true rfl) (by first | assumption | rfl) dX1_begin_21 rfl (c_s11 hC hV ha hA (by omega) (fun I2 hF2 hA2 => ?_))
  refine g_goto (q := 37) dX1_begin_24 (by decide) ?_
  refine g_iret rfl dX1_begin_37 (Nat.le_refl _) (Nat.le_refl _) ?_
  exact h I2 hF2 hA2
set_option maxRecDepth 100000 in
set_option maxHeartbeats 400000 in
theorem c_bS4 {d k : Nat} {I : Nat → Nat → Int32} {Q : Option Int32 → Wd → Prop} {a : Nat} {v : Vv} {tl : List Nat} (hC : CRep I 4 v) (hV : VOk v) (ha : a < vna v) (hA : ATr I tl) (hkd : vfa v a 5 = 4) (h : ∀ I2, Fr [22, 23] I I2 → ATr I2 (lvF (lvF (tl) 13) 10) → Q (some (nI (vfa v a 0) - nI 100)) (I2, RR k)) : Ex (d + 3) 0 0 mX1_begin [.ref 22, .int (nI 0), .int (nI a)] 68 (I, RR k) 68 Q := by
  have hef := hC.2.2.2 a ha
  have hv4 := hV.2.2.2 a ha
  have hv2 := hV.2.1
  refine ex_intro (L0 := [.ref 22, .int (nI 0), .int (nI a), .null]) (by decide +kernel) rfl rfl (Nat.le_of_ble_eq_true rfl) rfl ?_
  refine g_aload_n (q := 1) dX1_begin_0 rfl rfl ?_
  refine gf_X1_19 (q := 4) rfl (by first | assumption | rfl) (by first | assumption | rfl) dX1_begin_1 rfl ?_
  refine g_iload_n (q := 5) dX1_begin_4 rfl rfl ?_
  refine g_iconst (q := 6) (v := nI 5) dX1_begin_5 rfl (by decide) ?_
  refine k_X1_28 (q := 9) rfl (Nat.le_of_ble_eq_true rfl) (by first | assumption | rfl) dX1_begin_6 rfl (c_X5_fact (wv4 k) (by omega) (by omega) ?_)
  rw [hef 5 (by omega), hkd]
  refine g_istore_n (q := 10) dX1_begin_9 rfl (by decide) rfl rfl ?_
  refine g_iload_n (q := 11) dX1_begin_10 rfl rfl ?_
  refine g_if_ne (tgt := 27) (q := 14) dX1_begin_11 (by decide) rfl (fun c11 => absurd c11 (fun z => z rfl)) (fun _ => ?_)
  refine g_aload_n (q := 15) dX1_begin_14 rfl rfl ?_
  refine gs_X1_33 (q := 18) rfl dX1_begin_15 rfl ?_
  refine g_iload_n (q := 19) dX1_begin_18 rfl rfl ?_
  refine g_tald (i := 2) (q := 20) (by decide) (nI_in (by decide) (by decide)) dX1_begin_19 rfl ?_
  refine g_iload_n (q := 21) dX1_begin_20 rfl rfl ?_
  refine k_X1_36 (q := 24) rfl (Nat.le_of_ble_eq_true rfl) (by first | assumption | rfl) dX1_begin_21 rfl (c_s13 hC hV ha hA (fun I2 hF2 hA2 => ?_))
  refine g_goto (q := 37) dX1_begin_24 (by decide) ?_
  refine g_iret rfl dX1_begin_37 (Nat.le_refl _) (Nat.le_refl _) ?_
  exact h I2 hF2 hA2
set_option maxRecDepth 100000 in
set_option maxHeartbeats 400000 in
theorem c_bS5 {d k : Nat} {I : Nat → Nat → Int32} {Q : Option Int32 → Wd → Prop} {a : Nat} {v : Vv} {tl : List Nat} (hC : CRep I 4 v) (hV : VOk v) (ha : a < vna v) (hA : ATr I tl) (hkd : vfa v a 5 = 5) (h : ∀ I2, Fr [22, 23] I I2 → ATr I2 (lvF (lvF (lvF (tl) 14) 13) 10) → Q (some (nI 2 * (nI (vfa v a 0) - nI 100))) (I2, RR k)) : Ex (d + 4) 0 0 mX1_begin [.ref 22, .int (nI 0), .int (nI a)] 68 (I, RR k) 68 Q := by
  have hef := hC.2.2.2 a ha
  have hv4 := hV.2.2.2 a ha
  have hv2 := hV.2.1
  refine ex_intro (L0 := [.ref 22, .int (nI 0), .int (nI a), .null]) (by decide +kernel) rfl rfl (Nat.le_of_ble_eq_true rfl) rfl ?_
  refine g_aload_n (q := 1) dX1_begin_0 rfl rfl ?_
  refine gf_X1_19 (q := 4) rfl (by first | assumption | rfl) (by first | assumption | rfl) dX1_begin_1 rfl ?_
  refine g_iload_n (q := 5) dX1_begin_4 rfl rfl ?_
  refine g_iconst (q := 6) (v := nI 5) dX1_begin_5 rfl (by decide) ?_
  refine k_X1_28 (q := 9) rfl (Nat.le_of_ble_eq_true rfl) (by first | assumption | rfl) dX1_begin_6 rfl (c_X5_fact (wv4 k) (by omega) (by omega) ?_)
  rw [hef 5 (by omega), hkd]
  refine g_istore_n (q := 10) dX1_begin_9 rfl (by decide) rfl rfl ?_
  refine g_iload_n (q := 11) dX1_begin_10 rfl rfl ?_
  refine g_if_ne (tgt := 27) (q := 14) dX1_begin_11 (by decide) rfl (fun c11 => absurd c11 (fun z => z rfl)) (fun _ => ?_)
  refine g_aload_n (q := 15) dX1_begin_14 rfl rfl ?_
  refine gs_X1_33 (q := 18) rfl dX1_begin_15 rfl ?_
  refine g_iload_n (q := 19) dX1_begin_18 rfl rfl ?_
  refine g_tald (i := 2) (q := 20) (by decide) (nI_in (by decide) (by decide)) dX1_begin_19 rfl ?_
  refine g_iload_n (q := 21) dX1_begin_20 rfl rfl ?_
  refine k_X1_36 (q := 24) rfl (Nat.le_of_ble_eq_true rfl) (by first | assumption | rfl) dX1_begin_21 rfl (c_s14 hC hV ha hA (fun I2 hF2 hA2 => ?_))
  refine g_goto (q := 37) dX1_begin_24 (by decide) ?_
  refine g_iret rfl dX1_begin_37 (Nat.le_refl _) (Nat.le_refl _) ?_
  exact h I2 hF2 hA2
set_option maxRecDepth 100000 in
set_option maxHeartbeats 400000 in
theorem c_m23_4 {d k : Nat} {I : Nat → Nat → Int32} {Q : Option Int32 → Wd → Prop} {a : Nat} {v : Vv} {tl : List Nat} (hC : CRep I 4 v) (hV : VOk v) (ha : a < vna v) (hA : ATr I tl) (hkd : vfa v a 5 = 4) (h : ∀ I2, Fr [22, 23] I I2 → ATr I2 (lvF (lvF (lvF (lvF (tl) 23) 20) 13) 10) → Q (some (nI a - (nI (vfa v a 0) - nI 100))) (I2, RR k)) : Ex (d + 5) 0 0 mX1_markBy [.ref 22, .int (nI 23), .int (nI a)] 68 (I, RR k) 68 Q := by
  have hef := hC.2.2.2 a ha
  have hv4 := hV.2.2.2 a ha
  have hv2 := hV.2.1
  refine ex_intro (L0 := [.ref 22, .int (nI 23), .int (nI a)]) (by decide +kernel) rfl rfl (Nat.le_of_ble_eq_true rfl) rfl ?_
  refine g_aload_n (q := 1) dX1_markBy_0 rfl rfl ?_
  refine g_iload_n (q := 2) dX1_markBy_1 rfl rfl ?_
  refine k_X1_45 (q := 5) rfl (Nat.le_of_ble_eq_true rfl) (by first | assumption | rfl) dX1_markBy_2 rfl (c_X1_leave hA (fun I2 hF2 hA2 => ?_))
  have hC2 := hC.fr hF2 (afr (Or.inl rfl))
  refine g_iload_n (q := 6) dX1_markBy_5 rfl rfl ?_
  refine g_tabIn (q := 0) (tgt := 65) (off := 59) dX1_markBy_6 (by decide) (by decide) (by decide) (by decide) ?_
  refine g_aload_n (q := 66) dX1_markBy_65 rfl rfl ?_
  refine g_bipush (q := 68) (v := nI 20) dX1_markBy_66 rfl (by decide) ?_
  refine g_iload_n (q := 69) dX1_markBy_68 rfl rfl ?_
  refine k_X1_42 (q := 72) rfl (Nat.le_of_ble_eq_true rfl) (by first | assumption | rfl) dX1_markBy_69 rfl (c_m20 hC2 hV ha hA2 (fun I3 hF3 hA3 => ?_))
  have hC3 := hC2.fr hF3 (afr (Or.inl rfl))
  refine g_aload_n (q := 73) dX1_markBy_72 rfl rfl ?_
  refine g_iconst (q := 74) (v := nI 0) dX1_markBy_73 rfl (by decide) ?_
  refine g_iload_n (q := 75) dX1_markBy_74 rfl rfl ?_
  refine k_X1_24 (q := 78) rfl (Nat.le_of_ble_eq_true rfl) (by first | assumption | rfl) dX1_markBy_75 rfl (c_bS4 hC3 hV ha hA3 hkd (fun I4 hF4 hA4 => ?_))
  refine g_isub (q := 79) dX1_markBy_78 rfl ?_
  refine g_iret rfl dX1_markBy_79 (Nat.le_refl _) (Nat.le_refl _) ?_
  exact h I4 (hF2.tr (hF3.tr hF4)) hA4
set_option maxRecDepth 100000 in
set_option maxHeartbeats 400000 in
theorem c_bM4 {d k : Nat} {I : Nat → Nat → Int32} {Q : Option Int32 → Wd → Prop} {a : Nat} {v : Vv} {tl : List Nat} (hC : CRep I 4 v) (hV : VOk v) (ha : a < vna v) (hA : ATr I tl) (hkd : vfa v a 5 = 4) (h : ∀ I2, Fr [22, 23] I I2 → ATr I2 (lvF (lvF (lvF (lvF (tl) 23) 20) 13) 10) → Q (some (nI a - (nI (vfa v a 0) - nI 100))) (I2, RR k)) : Ex (d + 6) 0 0 mX1_begin [.ref 22, .int (nI 1), .int (nI a)] 68 (I, RR k) 68 Q := by
  have hef := hC.2.2.2 a ha
  have hv4 := hV.2.2.2 a ha
  have hv2 := hV.2.1
  refine ex_intro (L0 := [.ref 22, .int (nI 1), .int (nI a), .null]) (by decide +kernel) rfl rfl (Nat.le_of_ble_eq_true rfl) rfl ?_
  refine g_aload_n (q := 1) dX1_begin_0 rfl rfl ?_
  refine gf_X1_19 (q := 4) rfl (by first | assumption | rfl) (by first | assumption | rfl) dX1_begin_1 rfl ?_
  refine g_iload_n (q := 5) dX1_begin_4 rfl rfl ?_
  refine g_iconst (q := 6) (v := nI 5) dX1_begin_5 rfl (by decide) ?_
  refine k_X1_28 (q := 9) rfl (Nat.le_of_ble_eq_true rfl) (by first | assumption | rfl) dX1_begin_6 rfl (c_X5_fact (wv4 k) (by omega) (by omega) ?_)
  rw [hef 5 (by omega), hkd]
  refine g_istore_n (q := 10) dX1_begin_9 rfl (by decide) rfl rfl ?_
  refine g_iload_n (q := 11) dX1_begin_10 rfl rfl ?_
  refine g_if_ne (tgt := 27) (q := 14) dX1_begin_11 (by decide) rfl (fun _ => ?_) (fun c11 => absurd c11 (by decide))
  refine g_aload_n (q := 28) dX1_begin_27 rfl rfl ?_
  refine gs_X1_39 (q := 31) rfl dX1_begin_28 rfl ?_
  refine g_iload_n (q := 32) dX1_begin_31 rfl rfl ?_
  refine g_tald (i := 3) (q := 33) (by decide) (nI_in (by decide) (by decide)) dX1_begin_32 rfl ?_
  refine g_iload_n (q := 34) dX1_begin_33 rfl rfl ?_
  refine k_X1_42 (q := 37) rfl (Nat.le_of_ble_eq_true rfl) (by first | assumption | rfl) dX1_begin_34 rfl (c_m23_4 hC hV ha hA hkd (fun I2 hF2 hA2 => ?_))
  refine g_iret rfl dX1_begin_37 (Nat.le_refl _) (Nat.le_refl _) ?_
  exact h I2 hF2 hA2
set_option maxRecDepth 100000 in
set_option maxHeartbeats 400000 in
theorem c_m23_5 {d k : Nat} {I : Nat → Nat → Int32} {Q : Option Int32 → Wd → Prop} {a : Nat} {v : Vv} {tl : List Nat} (hC : CRep I 4 v) (hV : VOk v) (ha : a < vna v) (hA : ATr I tl) (hkd : vfa v a 5 = 5) (h : ∀ I2, Fr [22, 23] I I2 → ATr I2 (lvF (lvF (lvF (lvF (lvF (tl) 23) 20) 14) 13) 10) → Q (some (nI a - nI 2 * (nI (vfa v a 0) - nI 100))) (I2, RR k)) : Ex (d + 5) 0 0 mX1_markBy [.ref 22, .int (nI 23), .int (nI a)] 68 (I, RR k) 68 Q := by
  have hef := hC.2.2.2 a ha
  have hv4 := hV.2.2.2 a ha
  have hv2 := hV.2.1
  refine ex_intro (L0 := [.ref 22, .int (nI 23), .int (nI a)]) (by decide +kernel) rfl rfl (Nat.le_of_ble_eq_true rfl) rfl ?_
  refine g_aload_n (q := 1) dX1_markBy_0 rfl rfl ?_
  refine g_iload_n (q := 2) dX1_markBy_1 rfl rfl ?_
  refine k_X1_45 (q := 5) rfl (Nat.le_of_ble_eq_true rfl) (by first | assumption | rfl) dX1_markBy_2 rfl (c_X1_leave hA (fun I2 hF2 hA2 => ?_))
  have hC2 := hC.fr hF2 (afr (Or.inl rfl))
  refine g_iload_n (q := 6) dX1_markBy_5 rfl rfl ?_
  refine g_tabIn (q := 0) (tgt := 65) (off := 59) dX1_markBy_6 (by decide) (by decide) (by decide) (by decide) ?_
  refine g_aload_n (q := 66) dX1_markBy_65 rfl rfl ?_
  refine g_bipush (q := 68) (v := nI 20) dX1_markBy_66 rfl (by decide) ?_
  refine g_iload_n (q := 69) dX1_markBy_68 rfl rfl ?_
  refine k_X1_42 (q := 72) rfl (Nat.le_of_ble_eq_true rfl) (by first | assumption | rfl) dX1_markBy_69 rfl (c_m20 hC2 hV ha hA2 (fun I3 hF3 hA3 => ?_))
  have hC3 := hC2.fr hF3 (afr (Or.inl rfl))
  refine g_aload_n (q := 73) dX1_markBy_72 rfl rfl ?_
  refine g_iconst (q := 74) (v := nI 0) dX1_markBy_73 rfl (by decide) ?_
  refine g_iload_n (q := 75) dX1_markBy_74 rfl rfl ?_
  refine k_X1_24 (q := 78) rfl (Nat.le_of_ble_eq_true rfl) (by first | assumption | rfl) dX1_markBy_75 rfl (c_bS5 hC3 hV ha hA3 hkd (fun I4 hF4 hA4 => ?_))
  refine g_isub (q := 79) dX1_markBy_78 rfl ?_
  refine g_iret rfl dX1_markBy_79 (Nat.le_refl _) (Nat.le_refl _) ?_
  exact h I4 (hF2.tr (hF3.tr hF4)) hA4
set_option maxRecDepth 100000 in
set_option maxHeartbeats 400000 in
theorem c_bM5 {d k : Nat} {I : Nat → Nat → Int32} {Q : Option Int32 → Wd → Prop} {a : Nat} {v : Vv} {tl : List Nat} (hC : CRep I 4 v) (hV : VOk v) (ha : a < vna v) (hA : ATr I tl) (hkd : vfa v a 5 = 5) (h : ∀ I2, Fr [22, 23] I I2 → ATr I2 (lvF (lvF (lvF (lvF (lvF (tl) 23) 20) 14) 13) 10) → Q (some (nI a - nI 2 * (nI (vfa v a 0) - nI 100))) (I2, RR k)) : Ex (d + 6) 0 0 mX1_begin [.ref 22, .int (nI 1), .int (nI a)] 68 (I, RR k) 68 Q := by
  have hef := hC.2.2.2 a ha
  have hv4 := hV.2.2.2 a ha
  have hv2 := hV.2.1
  refine ex_intro (L0 := [.ref 22, .int (nI 1), .int (nI a), .null]) (by decide +kernel) rfl rfl (Nat.le_of_ble_eq_true rfl) rfl ?_
  refine g_aload_n (q := 1) dX1_begin_0 rfl rfl ?_
  refine gf_X1_19 (q := 4) rfl (by first | assumption | rfl) (by first | assumption | rfl) dX1_begin_1 rfl ?_
  refine g_iload_n (q := 5) dX1_begin_4 rfl rfl ?_
  refine g_iconst (q := 6) (v := nI 5) dX1_begin_5 rfl (by decide) ?_
  refine k_X1_28 (q := 9) rfl (Nat.le_of_ble_eq_true rfl) (by first | assumption | rfl) dX1_begin_6 rfl (c_X5_fact (wv4 k) (by omega) (by omega) ?_)
  rw [hef 5 (by omega), hkd]
  refine g_istore_n (q := 10) dX1_begin_9 rfl (by decide) rfl rfl ?_
  refine g_iload_n (q := 11) dX1_begin_10 rfl rfl ?_
  refine g_if_ne (tgt := 27) (q := 14) dX1_begin_11 (by decide) rfl (fun _ => ?_) (fun c11 => absurd c11 (by decide))
  refine g_aload_n (q := 28) dX1_begin_27 rfl rfl ?_
  refine gs_X1_39 (q := 31) rfl dX1_begin_28 rfl ?_
  refine g_iload_n (q := 32) dX1_begin_31 rfl rfl ?_
  refine g_tald (i := 3) (q := 33) (by decide) (nI_in (by decide) (by decide)) dX1_begin_32 rfl ?_
  refine g_iload_n (q := 34) dX1_begin_33 rfl rfl ?_
  refine k_X1_42 (q := 37) rfl (Nat.le_of_ble_eq_true rfl) (by first | assumption | rfl) dX1_begin_34 rfl (c_m23_5 hC hV ha hA hkd (fun I2 hF2 hA2 => ?_))
  refine g_iret rfl dX1_begin_37 (Nat.le_refl _) (Nat.le_refl _) ?_
  exact h I2 hF2 hA2
set_option maxRecDepth 100000 in
set_option maxHeartbeats 400000 in
theorem c_bS_all {d k : Nat} {I : Nat → Nat → Int32} {Q : Option Int32 → Wd → Prop} {a : Nat} {v : Vv} {tl : List Nat} (hC : CRep I 4 v) (hV : VOk v) (ha : a < vna v) (hA : ATr I tl) (h : ∀ I2, Fr [22, 23] I I2 → ATr I2 (szT v a tl) → Q (some (szV v a)) (I2, RR k)) : Ex (d + 12) 0 0 mX1_begin [.ref 22, .int (nI 0), .int (nI a)] 68 (I, RR k) 68 Q := by
  have hv4 := hV.2.2.2 a ha
  have h3 : vfa v a 5 = 1 ∨ vfa v a 5 = 2 ∨ vfa v a 5 = 3 ∨ vfa v a 5 = 4 ∨ vfa v a 5 = 5 := by omega
  simp only [szT, szV] at h
  rcases h3 with e | e | e | e | e
  · rw [if_neg (by omega), if_pos (by omega), if_neg (by omega), if_pos (by omega)] at h; exact c_bS1 (d := d + 1) hC hV ha hA e h
  · rw [if_pos e, if_pos e] at h; exact c_bS2 hC hV ha hA e h
  · rw [if_neg (by omega), if_pos (by omega), if_neg (by omega), if_pos (by omega)] at h; exact c_bS3 (d := d + 1) hC hV ha hA e h
  · rw [if_neg (by omega), if_neg (by omega), if_pos e, if_neg (by omega), if_neg (by omega), if_pos e] at h; exact c_bS4 (d := d + 9) hC hV ha hA e h
  · rw [if_neg (by omega), if_neg (by omega), if_neg (by omega), if_neg (by omega), if_neg (by omega), if_neg (by omega)] at h; exact c_bS5 (d := d + 8) hC hV ha hA e h
set_option maxRecDepth 100000 in
set_option maxHeartbeats 400000 in
theorem c_bM_all {d k : Nat} {I : Nat → Nat → Int32} {Q : Option Int32 → Wd → Prop} {a : Nat} {v : Vv} {tl : List Nat} (hC : CRep I 4 v) (hV : VOk v) (ha : a < vna v) (hA : ATr I tl) (h : ∀ I2, Fr [22, 23] I I2 → ATr I2 (mkT v a tl) → Q (some (mkV v a)) (I2, RR k)) : Ex (d + 12) 0 0 mX1_begin [.ref 22, .int (nI 1), .int (nI a)] 68 (I, RR k) 68 Q := by
  have hv4 := hV.2.2.2 a ha
  have h3 : vfa v a 5 = 1 ∨ vfa v a 5 = 2 ∨ vfa v a 5 = 3 ∨ vfa v a 5 = 4 ∨ vfa v a 5 = 5 := by omega
  by_cases h4 : vfa v a 5 < 4
  · exact c_bM (d := d + 3) hC hV ha hA h4 h
  simp only [mkT, mkV] at h
  rcases h3 with e | e | e | e | e
  · omega
  · omega
  · omega
  · rw [if_neg (by omega), if_neg (by omega), if_neg (by omega), if_pos e, if_neg (by omega), if_neg (by omega), if_neg (by omega), if_pos e] at h; exact c_bM4 (d := d + 6) hC hV ha hA e h
  · rw [if_neg (by omega), if_neg (by omega), if_neg (by omega), if_neg (by omega), if_neg (by omega), if_neg (by omega), if_neg (by omega), if_neg (by omega)] at h; exact c_bM5 (d := d + 6) hC hV ha hA e h
set_option maxRecDepth 100000 in
set_option maxHeartbeats 400000 in
theorem c_ans0 {d k : Nat} {I : Nat → Nat → Int32} {Q : Option Int32 → Wd → Prop} {a : Nat} {v : Vv} (hC : CRep I 4 v) (hV : VOk v) (ha : a < vna v) (h : ∀ I2, Fr [22, 23] I I2 → ATr I2 (szT v a []) → Q (some (szV v a)) (I2, RR k)) : Ex (d + 13) 0 0 mX1_answer [.ref 22, .int (nI a), .int (nI 0)] 68 (I, RR k) 68 Q := by
  refine ex_intro (L0 := [.ref 22, .int (nI a), .int (nI 0)]) (by decide +kernel) rfl rfl (Nat.le_of_ble_eq_true rfl) rfl ?_
  have hF0 : Fr [22, 23] I (uI I 22 2 (nI 0)) := Fr.ui (by decide)
  have hA0 : ATr (uI I 22 2 (nI 0)) [] := ⟨uI_eq, fun j hj => absurd hj (by simp), by simp⟩
  refine g_aload_n (q := 1) dX1_answer_0 rfl rfl ?_
  refine g_iconst (q := 2) (v := nI 0) dX1_answer_1 rfl (by decide) ?_
  refine pf_X1_15 (q := 5) rfl (by first | assumption | rfl) dX1_answer_2 rfl ?_
  refine g_aload_n (q := 6) dX1_answer_5 rfl rfl ?_
  refine g_iload_n (q := 7) dX1_answer_6 rfl rfl ?_
  refine g_iload_n (q := 8) dX1_answer_7 rfl rfl ?_
  refine k_X1_24 (q := 11) rfl (Nat.le_of_ble_eq_true rfl) (by first | assumption | rfl) dX1_answer_8 rfl (c_bS_all (hC.fr hF0 (afr (Or.inl rfl))) hV ha hA0 (fun I2 hF2 hA2 => ?_))
  refine g_iret rfl dX1_answer_11 (Nat.le_refl _) (Nat.le_refl _) ?_
  exact h I2 (hF0.tr hF2) hA2
set_option maxRecDepth 100000 in
set_option maxHeartbeats 400000 in
theorem c_ans1 {d k : Nat} {I : Nat → Nat → Int32} {Q : Option Int32 → Wd → Prop} {a : Nat} {v : Vv} (hC : CRep I 4 v) (hV : VOk v) (ha : a < vna v) (h : ∀ I2, Fr [22, 23] I I2 → ATr I2 (mkT v a []) → Q (some (mkV v a)) (I2, RR k)) : Ex (d + 13) 0 0 mX1_answer [.ref 22, .int (nI a), .int (nI 1)] 68 (I, RR k) 68 Q := by
  refine ex_intro (L0 := [.ref 22, .int (nI a), .int (nI 1)]) (by decide +kernel) rfl rfl (Nat.le_of_ble_eq_true rfl) rfl ?_
  have hF0 : Fr [22, 23] I (uI I 22 2 (nI 0)) := Fr.ui (by decide)
  have hA0 : ATr (uI I 22 2 (nI 0)) [] := ⟨uI_eq, fun j hj => absurd hj (by simp), by simp⟩
  refine g_aload_n (q := 1) dX1_answer_0 rfl rfl ?_
  refine g_iconst (q := 2) (v := nI 0) dX1_answer_1 rfl (by decide) ?_
  refine pf_X1_15 (q := 5) rfl (by first | assumption | rfl) dX1_answer_2 rfl ?_
  refine g_aload_n (q := 6) dX1_answer_5 rfl rfl ?_
  refine g_iload_n (q := 7) dX1_answer_6 rfl rfl ?_
  refine g_iload_n (q := 8) dX1_answer_7 rfl rfl ?_
  refine k_X1_24 (q := 11) rfl (Nat.le_of_ble_eq_true rfl) (by first | assumption | rfl) dX1_answer_8 rfl (c_bM_all (hC.fr hF0 (afr (Or.inl rfl))) hV ha hA0 (fun I2 hF2 hA2 => ?_))
  refine g_iret rfl dX1_answer_11 (Nat.le_refl _) (Nat.le_refl _) ?_
  exact h I2 (hF0.tr hF2) hA2
