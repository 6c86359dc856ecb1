theorem g_nkj {Y : MD} {R : Room} {Z : Zt} {n0 pc n n' k k' j j' : Nat} {L st : List Value} {w : Wd} (hn : n = n') (hk : k = k') (hj : j = j') (h : G Y R Z n0 pc L st n' w k' j') : G Y R Z n0 pc L st n w k j := by
  subst hn hk hj
  exact h
theorem g_aastn {Y : MD} {R : Room} {Z : Zt} {n0 pc q n k j : Nat} {L st : List Value} {I : Nat → Nat → Int32} {F : Nat → Nat → Option Nat} {b v N t ci i : Nat} {r : vw_C} {x : Int32} (hx : x = nI i) (hi : i < N) (hs : shn n b = (t, N)) (ht3 : ¬ t ≤ 2) (ht9 : t ≠ 9) (hv : shn n v = (0, ci)) (hr : vwCl[ci]? = some r) (hty : ∀ aC : Nat → ClassId, (tysOf aC)[t - 1]? = some (aC t, FieldType.object r.1)) (hd : decode Y.2.1 pc = .ok (.aastore, 1)) (hq : pc + 1 = q) (h : G Y R Z n0 q L st n (I, uR F b i (some v)) k j) : G Y R Z n0 pc L (.ref v :: .int x :: .ref b :: st) n (I, F) k j :=
  g_aast hx hi hs ht3 ht9 hv hr hty hd hq h

set_option maxRecDepth 100000 in
set_option maxHeartbeats 400000 in
theorem c_X4_init_2 {I : Nat → Nat → Int32} {F : Nat → Nat → Option Nat} {Q : Option Int32 → Wd → Prop} (hw : Wz (I, F) 2) (h : Wz (uI I 2 4 (-2), uR (F) 2 0 (some 3)) 4 → Q none (uI I 2 4 (-2), uR (F) 2 0 (some 3))) : Ex 1 1 130 mX4_init [.ref 2] 3 (I, F) 4 Q := by
  have h0 : ∀ i, I 2 i = nI 0 := fun i => (hw.1 2 i (Nat.le_refl _)).trans nI_0z.symm
  refine ex_intro (L0 := [.ref 2]) (by decide +kernel) rfl rfl (Nat.le_of_ble_eq_true rfl) rfl ?_
  refine g_aload_n (q := 1) dX4_init_0 rfl rfl ?_
  refine oi_X4_3 (q := 4) rfl (by decide) (by decide) dX4_init_1 rfl ?_
  refine g_aload_n (q := 5) dX4_init_4 rfl rfl ?_
  refine g_sipush (q := 8) (v := nI 130) dX4_init_5 rfl (by decide) ?_
  refine g_newi (q := 10) (N := 130) rfl rfl (by repeat' first | exact hw.mo (by decide) | apply Wz.r | apply Wz.i | decide) (by decide) rfl rfl (Nat.le_of_ble_eq_true rfl) (Nat.le_of_ble_eq_true rfl) (by decide) dX4_init_8 rfl wa_int ?_
  refine g_nkj (n' := 4) (k' := 1) (j' := 130) rfl rfl rfl ?_
  refine pf_X4_9 (q := 13) rfl rfl (by first | assumption | rfl) dX4_init_10 rfl ?_
  refine g_aload_n (q := 14) dX4_init_13 rfl rfl ?_
  refine g_iconst (q := 15) (v := nI 0) dX4_init_14 rfl (by decide) ?_
  refine pf_X4_15 (q := 18) rfl (by first | assumption | rfl) dX4_init_15 rfl ?_
  rw [uI_same (h0 _)]
  refine g_aload_n (q := 19) dX4_init_18 rfl rfl ?_
  refine g_iconst (q := 20) (v := nI 0) dX4_init_19 rfl (by decide) ?_
  refine pf_X4_19 (q := 23) rfl (by first | assumption | rfl) dX4_init_20 rfl ?_
  rw [uI_same (h0 _)]
  refine g_aload_n (q := 24) dX4_init_23 rfl rfl ?_
  refine g_iconst (q := 25) (v := nI 0) dX4_init_24 rfl (by decide) ?_
  refine pf_X4_22 (q := 28) rfl (by first | assumption | rfl) dX4_init_25 rfl ?_
  rw [uI_same (h0 _)]
  refine g_aload_n (q := 29) dX4_init_28 rfl rfl ?_
  refine g_bipush (q := 31) (v := (-2)) dX4_init_29 rfl (by decide) ?_
  refine pf_X4_25 (q := 34) rfl (by first | assumption | rfl) dX4_init_31 rfl ?_
  refine g_aload_n (q := 35) dX4_init_34 rfl rfl ?_
  refine g_iconst (q := 36) (v := nI 0) dX4_init_35 rfl (by decide) ?_
  refine pf_X4_28 (q := 39) rfl (by first | assumption | rfl) dX4_init_36 rfl ?_
  rw [uI_same (I := uI I 2 4 (-2)) ((uI_n2 (by decide)).trans (h0 _))]
  refine g_aload_n (q := 40) dX4_init_39 rfl rfl ?_
  refine g_iconst (q := 41) (v := nI 0) dX4_init_40 rfl (by decide) ?_
  refine pf_X4_31 (q := 44) rfl (by first | assumption | rfl) dX4_init_41 rfl ?_
  rw [uI_same (I := uI I 2 4 (-2)) ((uI_n2 (by decide)).trans (h0 _))]
  refine g_vret rfl dX4_init_44 (Nat.le_refl _) (Nat.le_refl _) ?_
  exact h (by repeat' first | exact hw.mo (by decide) | apply Wz.r | apply Wz.i | decide)
set_option maxRecDepth 100000 in
set_option maxHeartbeats 400000 in
theorem c_X5_init_4 {I : Nat → Nat → Int32} {F : Nat → Nat → Option Nat} {Q : Option Int32 → Wd → Prop} (hw : Wz (I, F) 4) (h : Wz (I, uR (uR (uR (uR (uR (F) 4 0 (some 5)) 4 1 (some 6)) 4 2 (some 7)) 4 3 (some 8)) 4 4 (some 9)) 10 → Q none (I, uR (uR (uR (uR (uR (F) 4 0 (some 5)) 4 1 (some 6)) 4 2 (some 7)) 4 3 (some 8)) 4 4 (some 9))) : Ex 1 5 90 mX5_init [.ref 4] 5 (I, F) 10 Q := by
  have h0 : ∀ i, I 4 i = nI 0 := fun i => (hw.1 4 i (Nat.le_refl _)).trans nI_0z.symm
  refine ex_intro (L0 := [.ref 4]) (by decide +kernel) rfl rfl (Nat.le_of_ble_eq_true rfl) rfl ?_
  refine g_aload_n (q := 1) dX5_init_0 rfl rfl ?_
  refine oi_X5_3 (q := 4) rfl (by decide) (by decide) dX5_init_1 rfl ?_
  refine g_aload_n (q := 5) dX5_init_4 rfl rfl ?_
  refine g_bipush (q := 7) (v := nI 6) dX5_init_5 rfl (by decide) ?_
  refine g_newi (q := 9) (N := 6) rfl rfl (by repeat' first | exact hw.mo (by decide) | apply Wz.r | apply Wz.i | decide) (by decide) rfl rfl (Nat.le_of_ble_eq_true rfl) (Nat.le_of_ble_eq_true rfl) (by decide) dX5_init_7 rfl wa_int ?_
  refine g_nkj (n' := 6) (k' := 1) (j' := 6) rfl rfl rfl ?_
  refine pf_X5_9 (q := 12) rfl rfl (by first | assumption | rfl) dX5_init_9 rfl ?_
  refine g_aload_n (q := 13) dX5_init_12 rfl rfl ?_
  refine g_bipush (q := 15) (v := nI 6) dX5_init_13 rfl (by decide) ?_
  refine g_newi (q := 17) (N := 6) rfl rfl (by repeat' first | exact hw.mo (by decide) | apply Wz.r | apply Wz.i | decide) (by decide) rfl rfl (Nat.le_of_ble_eq_true rfl) (Nat.le_of_ble_eq_true rfl) (by decide) dX5_init_15 rfl wa_int ?_
  refine g_nkj (n' := 7) (k' := 2) (j' := 12) rfl rfl rfl ?_
  refine pf_X5_15 (q := 20) rfl rfl (by first | assumption | rfl) dX5_init_17 rfl ?_
  refine g_aload_n (q := 21) dX5_init_20 rfl rfl ?_
  refine g_bipush (q := 23) (v := nI 24) dX5_init_21 rfl (by decide) ?_
  refine g_newi (q := 25) (N := 24) rfl rfl (by repeat' first | exact hw.mo (by decide) | apply Wz.r | apply Wz.i | decide) (by decide) rfl rfl (Nat.le_of_ble_eq_true rfl) (Nat.le_of_ble_eq_true rfl) (by decide) dX5_init_23 rfl wa_int ?_
  refine g_nkj (n' := 8) (k' := 3) (j' := 36) rfl rfl rfl ?_
  refine pf_X5_18 (q := 28) rfl rfl (by first | assumption | rfl) dX5_init_25 rfl ?_
  refine g_aload_n (q := 29) dX5_init_28 rfl rfl ?_
  refine g_bipush (q := 31) (v := nI 24) dX5_init_29 rfl (by decide) ?_
  refine g_newi (q := 33) (N := 24) rfl rfl (by repeat' first | exact hw.mo (by decide) | apply Wz.r | apply Wz.i | decide) (by decide) rfl rfl (Nat.le_of_ble_eq_true rfl) (Nat.le_of_ble_eq_true rfl) (by decide) dX5_init_31 rfl wa_int ?_
  refine g_nkj (n' := 9) (k' := 4) (j' := 60) rfl rfl rfl ?_
  refine pf_X5_21 (q := 36) rfl rfl (by first | assumption | rfl) dX5_init_33 rfl ?_
  refine g_aload_n (q := 37) dX5_init_36 rfl rfl ?_
  refine g_bipush (q := 39) (v := nI 30) dX5_init_37 rfl (by decide) ?_
  refine g_newi (q := 41) (N := 30) rfl rfl (by repeat' first | exact hw.mo (by decide) | apply Wz.r | apply Wz.i | decide) (by decide) rfl rfl (Nat.le_of_ble_eq_true rfl) (Nat.le_of_ble_eq_true rfl) (by decide) dX5_init_39 rfl wa_int ?_
  refine g_nkj (n' := 10) (k' := 5) (j' := 90) rfl rfl rfl ?_
  refine pf_X5_24 (q := 44) rfl rfl (by first | assumption | rfl) dX5_init_41 rfl ?_
  refine g_aload_n (q := 45) dX5_init_44 rfl rfl ?_
  refine g_iconst (q := 46) (v := nI 0) dX5_init_45 rfl (by decide) ?_
  refine pf_X5_27 (q := 49) rfl (by first | assumption | rfl) dX5_init_46 rfl ?_
  rw [uI_same (h0 _)]
  refine g_aload_n (q := 50) dX5_init_49 rfl rfl ?_
  refine g_iconst (q := 51) (v := nI 0) dX5_init_50 rfl (by decide) ?_
  refine pf_X5_31 (q := 54) rfl (by first | assumption | rfl) dX5_init_51 rfl ?_
  rw [uI_same (h0 _)]
  refine g_vret rfl dX5_init_54 (Nat.le_refl _) (Nat.le_refl _) ?_
  exact h (by repeat' first | exact hw.mo (by decide) | apply Wz.r | apply Wz.i | decide)
set_option maxRecDepth 100000 in
set_option maxHeartbeats 400000 in
theorem c_X5_init_10 {I : Nat → Nat → Int32} {F : Nat → Nat → Option Nat} {Q : Option Int32 → Wd → Prop} (hw : Wz (I, F) 10) (h : Wz (I, uR (uR (uR (uR (uR (F) 10 0 (some 11)) 10 1 (some 12)) 10 2 (some 13)) 10 3 (some 14)) 10 4 (some 15)) 16 → Q none (I, uR (uR (uR (uR (uR (F) 10 0 (some 11)) 10 1 (some 12)) 10 2 (some 13)) 10 3 (some 14)) 10 4 (some 15))) : Ex 1 5 90 mX5_init [.ref 10] 11 (I, F) 16 Q := by
  have h0 : ∀ i, I 10 i = nI 0 := fun i => (hw.1 10 i (Nat.le_refl _)).trans nI_0z.symm
  refine ex_intro (L0 := [.ref 10]) (by decide +kernel) rfl rfl (Nat.le_of_ble_eq_true rfl) rfl ?_
  refine g_aload_n (q := 1) dX5_init_0 rfl rfl ?_
  refine oi_X5_3 (q := 4) rfl (by decide) (by decide) dX5_init_1 rfl ?_
  refine g_aload_n (q := 5) dX5_init_4 rfl rfl ?_
  refine g_bipush (q := 7) (v := nI 6) dX5_init_5 rfl (by decide) ?_
  refine g_newi (q := 9) (N := 6) rfl rfl (by repeat' first | exact hw.mo (by decide) | apply Wz.r | apply Wz.i | decide) (by decide) rfl rfl (Nat.le_of_ble_eq_true rfl) (Nat.le_of_ble_eq_true rfl) (by decide) dX5_init_7 rfl wa_int ?_
  refine g_nkj (n' := 12) (k' := 1) (j' := 6) rfl rfl rfl ?_
  refine pf_X5_9 (q := 12) rfl rfl (by first | assumption | rfl) dX5_init_9 rfl ?_
  refine g_aload_n (q := 13) dX5_init_12 rfl rfl ?_
  refine g_bipush (q := 15) (v := nI 6) dX5_init_13 rfl (by decide) ?_
  refine g_newi (q := 17) (N := 6) rfl rfl (by repeat' first | exact hw.mo (by decide) | apply Wz.r | apply Wz.i | decide) (by decide) rfl rfl (Nat.le_of_ble_eq_true rfl) (Nat.le_of_ble_eq_true rfl) (by decide) dX5_init_15 rfl wa_int ?_
  refine g_nkj (n' := 13) (k' := 2) (j' := 12) rfl rfl rfl ?_
  refine pf_X5_15 (q := 20) rfl rfl (by first | assumption | rfl) dX5_init_17 rfl ?_
  refine g_aload_n (q := 21) dX5_init_20 rfl rfl ?_
  refine g_bipush (q := 23) (v := nI 24) dX5_init_21 rfl (by decide) ?_
  refine g_newi (q := 25) (N := 24) rfl rfl (by repeat' first | exact hw.mo (by decide) | apply Wz.r | apply Wz.i | decide) (by decide) rfl rfl (Nat.le_of_ble_eq_true rfl) (Nat.le_of_ble_eq_true rfl) (by decide) dX5_init_23 rfl wa_int ?_
  refine g_nkj (n' := 14) (k' := 3) (j' := 36) rfl rfl rfl ?_
  refine pf_X5_18 (q := 28) rfl rfl (by first | assumption | rfl) dX5_init_25 rfl ?_
  refine g_aload_n (q := 29) dX5_init_28 rfl rfl ?_
  refine g_bipush (q := 31) (v := nI 24) dX5_init_29 rfl (by decide) ?_
  refine g_newi (q := 33) (N := 24) rfl rfl (by repeat' first | exact hw.mo (by decide) | apply Wz.r | apply Wz.i | decide) (by decide) rfl rfl (Nat.le_of_ble_eq_true rfl) (Nat.le_of_ble_eq_true rfl) (by decide) dX5_init_31 rfl wa_int ?_
  refine g_nkj (n' := 15) (k' := 4) (j' := 60) rfl rfl rfl ?_
  refine pf_X5_21 (q := 36) rfl rfl (by first | assumption | rfl) dX5_init_33 rfl ?_
  refine g_aload_n (q := 37) dX5_init_36 rfl rfl ?_
  refine g_bipush (q := 39) (v := nI 30) dX5_init_37 rfl (by decide) ?_
  refine g_newi (q := 41) (N := 30) rfl rfl (by repeat' first | exact hw.mo (by decide) | apply Wz.r | apply Wz.i | decide) (by decide) rfl rfl (Nat.le_of_ble_eq_true rfl) (Nat.le_of_ble_eq_true rfl) (by decide) dX5_init_39 rfl wa_int ?_
  refine g_nkj (n' := 16) (k' := 5) (j' := 90) rfl rfl rfl ?_
  refine pf_X5_24 (q := 44) rfl rfl (by first | assumption | rfl) dX5_init_41 rfl ?_
  refine g_aload_n (q := 45) dX5_init_44 rfl rfl ?_
  refine g_iconst (q := 46) (v := nI 0) dX5_init_45 rfl (by decide) ?_
  refine pf_X5_27 (q := 49) rfl (by first | assumption | rfl) dX5_init_46 rfl ?_
  rw [uI_same (h0 _)]
  refine g_aload_n (q := 50) dX5_init_49 rfl rfl ?_
  refine g_iconst (q := 51) (v := nI 0) dX5_init_50 rfl (by decide) ?_
  refine pf_X5_31 (q := 54) rfl (by first | assumption | rfl) dX5_init_51 rfl ?_
  rw [uI_same (h0 _)]
  refine g_vret rfl dX5_init_54 (Nat.le_refl _) (Nat.le_refl _) ?_
  exact h (by repeat' first | exact hw.mo (by decide) | apply Wz.r | apply Wz.i | decide)
set_option maxRecDepth 100000 in
set_option maxHeartbeats 400000 in
theorem c_X5_init_40 {I : Nat → Nat → Int32} {F : Nat → Nat → Option Nat} {Q : Option Int32 → Wd → Prop} (hw : Wz (I, F) 40) (h : Wz (I, uR (uR (uR (uR (uR (F) 40 0 (some 41)) 40 1 (some 42)) 40 2 (some 43)) 40 3 (some 44)) 40 4 (some 45)) 46 → Q none (I, uR (uR (uR (uR (uR (F) 40 0 (some 41)) 40 1 (some 42)) 40 2 (some 43)) 40 3 (some 44)) 40 4 (some 45))) : Ex 1 5 90 mX5_init [.ref 40] 41 (I, F) 46 Q := by
  have h0 : ∀ i, I 40 i = nI 0 := fun i => (hw.1 40 i (Nat.le_refl _)).trans nI_0z.symm
  refine ex_intro (L0 := [.ref 40]) (by decide +kernel) rfl rfl (Nat.le_of_ble_eq_true rfl) rfl ?_
  refine g_aload_n (q := 1) dX5_init_0 rfl rfl ?_
  refine oi_X5_3 (q := 4) rfl (by decide) (by decide) dX5_init_1 rfl ?_
  refine g_aload_n (q := 5) dX5_init_4 rfl rfl ?_
  refine g_bipush (q := 7) (v := nI 6) dX5_init_5 rfl (by decide) ?_
  refine g_newi (q := 9) (N := 6) rfl rfl (by repeat' first | exact hw.mo (by decide) | apply Wz.r | apply Wz.i | decide) (by decide) rfl rfl (Nat.le_of_ble_eq_true rfl) (Nat.le_of_ble_eq_true rfl) (by decide) dX5_init_7 rfl wa_int ?_
  refine g_nkj (n' := 42) (k' := 1) (j' := 6) rfl rfl rfl ?_
  refine pf_X5_9 (q := 12) rfl rfl (by first | assumption | rfl) dX5_init_9 rfl ?_
  refine g_aload_n (q := 13) dX5_init_12 rfl rfl ?_
  refine g_bipush (q := 15) (v := nI 6) dX5_init_13 rfl (by decide) ?_
  refine g_newi (q := 17) (N := 6) rfl rfl (by repeat' first | exact hw.mo (by decide) | apply Wz.r | apply Wz.i | decide) (by decide) rfl rfl (Nat.le_of_ble_eq_true rfl) (Nat.le_of_ble_eq_true rfl) (by decide) dX5_init_15 rfl wa_int ?_
  refine g_nkj (n' := 43) (k' := 2) (j' := 12) rfl rfl rfl ?_
  refine pf_X5_15 (q := 20) rfl rfl (by first | assumption | rfl) dX5_init_17 rfl ?_
  refine g_aload_n (q := 21) dX5_init_20 rfl rfl ?_
  refine g_bipush (q := 23) (v := nI 24) dX5_init_21 rfl (by decide) ?_
  refine g_newi (q := 25) (N := 24) rfl rfl (by repeat' first | exact hw.mo (by decide) | apply Wz.r | apply Wz.i | decide) (by decide) rfl rfl (Nat.le_of_ble_eq_true rfl) (Nat.le_of_ble_eq_true rfl) (by decide) dX5_init_23 rfl wa_int ?_
  refine g_nkj (n' := 44) (k' := 3) (j' := 36) rfl rfl rfl ?_
  refine pf_X5_18 (q := 28) rfl rfl (by first | assumption | rfl) dX5_init_25 rfl ?_
  refine g_aload_n (q := 29) dX5_init_28 rfl rfl ?_
  refine g_bipush (q := 31) (v := nI 24) dX5_init_29 rfl (by decide) ?_
  refine g_newi (q := 33) (N := 24) rfl rfl (by repeat' first | exact hw.mo (by decide) | apply Wz.r | apply Wz.i | decide) (by decide) rfl rfl (Nat.le_of_ble_eq_true rfl) (Nat.le_of_ble_eq_true rfl) (by decide) dX5_init_31 rfl wa_int ?_
  refine g_nkj (n' := 45) (k' := 4) (j' := 60) rfl rfl rfl ?_
  refine pf_X5_21 (q := 36) rfl rfl (by first | assumption | rfl) dX5_init_33 rfl ?_
  refine g_aload_n (q := 37) dX5_init_36 rfl rfl ?_
  refine g_bipush (q := 39) (v := nI 30) dX5_init_37 rfl (by decide) ?_
  refine g_newi (q := 41) (N := 30) rfl rfl (by repeat' first | exact hw.mo (by decide) | apply Wz.r | apply Wz.i | decide) (by decide) rfl rfl (Nat.le_of_ble_eq_true rfl) (Nat.le_of_ble_eq_true rfl) (by decide) dX5_init_39 rfl wa_int ?_
  refine g_nkj (n' := 46) (k' := 5) (j' := 90) rfl rfl rfl ?_
  refine pf_X5_24 (q := 44) rfl rfl (by first | assumption | rfl) dX5_init_41 rfl ?_
  refine g_aload_n (q := 45) dX5_init_44 rfl rfl ?_
  refine g_iconst (q := 46) (v := nI 0) dX5_init_45 rfl (by decide) ?_
  refine pf_X5_27 (q := 49) rfl (by first | assumption | rfl) dX5_init_46 rfl ?_
  rw [uI_same (h0 _)]
  refine g_aload_n (q := 50) dX5_init_49 rfl rfl ?_
  refine g_iconst (q := 51) (v := nI 0) dX5_init_50 rfl (by decide) ?_
  refine pf_X5_31 (q := 54) rfl (by first | assumption | rfl) dX5_init_51 rfl ?_
  rw [uI_same (h0 _)]
  refine g_vret rfl dX5_init_54 (Nat.le_refl _) (Nat.le_refl _) ?_
  exact h (by repeat' first | exact hw.mo (by decide) | apply Wz.r | apply Wz.i | decide)
set_option maxRecDepth 100000 in
set_option maxHeartbeats 400000 in
theorem c_X5_init_46 {I : Nat → Nat → Int32} {F : Nat → Nat → Option Nat} {Q : Option Int32 → Wd → Prop} (hw : Wz (I, F) 46) (h : Wz (I, uR (uR (uR (uR (uR (F) 46 0 (some 47)) 46 1 (some 48)) 46 2 (some 49)) 46 3 (some 50)) 46 4 (some 51)) 52 → Q none (I, uR (uR (uR (uR (uR (F) 46 0 (some 47)) 46 1 (some 48)) 46 2 (some 49)) 46 3 (some 50)) 46 4 (some 51))) : Ex 1 5 90 mX5_init [.ref 46] 47 (I, F) 52 Q := by
  have h0 : ∀ i, I 46 i = nI 0 := fun i => (hw.1 46 i (Nat.le_refl _)).trans nI_0z.symm
  refine ex_intro (L0 := [.ref 46]) (by decide +kernel) rfl rfl (Nat.le_of_ble_eq_true rfl) rfl ?_
  refine g_aload_n (q := 1) dX5_init_0 rfl rfl ?_
  refine oi_X5_3 (q := 4) rfl (by decide) (by decide) dX5_init_1 rfl ?_
  refine g_aload_n (q := 5) dX5_init_4 rfl rfl ?_
  refine g_bipush (q := 7) (v := nI 6) dX5_init_5 rfl (by decide) ?_
  refine g_newi (q := 9) (N := 6) rfl rfl (by repeat' first | exact hw.mo (by decide) | apply Wz.r | apply Wz.i | decide) (by decide) rfl rfl (Nat.le_of_ble_eq_true rfl) (Nat.le_of_ble_eq_true rfl) (by decide) dX5_init_7 rfl wa_int ?_
  refine g_nkj (n' := 48) (k' := 1) (j' := 6) rfl rfl rfl ?_
  refine pf_X5_9 (q := 12) rfl rfl (by first | assumption | rfl) dX5_init_9 rfl ?_
  refine g_aload_n (q := 13) dX5_init_12 rfl rfl ?_
  refine g_bipush (q := 15) (v := nI 6) dX5_init_13 rfl (by decide) ?_
  refine g_newi (q := 17) (N := 6) rfl rfl (by repeat' first | exact hw.mo (by decide) | apply Wz.r | apply Wz.i | decide) (by decide) rfl rfl (Nat.le_of_ble_eq_true rfl) (Nat.le_of_ble_eq_true rfl) (by decide) dX5_init_15 rfl wa_int ?_
  refine g_nkj (n' := 49) (k' := 2) (j' := 12) rfl rfl rfl ?_
  refine pf_X5_15 (q := 20) rfl rfl (by first | assumption | rfl) dX5_init_17 rfl ?_
  refine g_aload_n (q := 21) dX5_init_20 rfl rfl ?_
  refine g_bipush (q := 23) (v := nI 24) dX5_init_21 rfl (by decide) ?_
  refine g_newi (q := 25) (N := 24) rfl rfl (by repeat' first | exact hw.mo (by decide) | apply Wz.r | apply Wz.i | decide) (by decide) rfl rfl (Nat.le_of_ble_eq_true rfl) (Nat.le_of_ble_eq_true rfl) (by decide) dX5_init_23 rfl wa_int ?_
  refine g_nkj (n' := 50) (k' := 3) (j' := 36) rfl rfl rfl ?_
  refine pf_X5_18 (q := 28) rfl rfl (by first | assumption | rfl) dX5_init_25 rfl ?_
  refine g_aload_n (q := 29) dX5_init_28 rfl rfl ?_
  refine g_bipush (q := 31) (v := nI 24) dX5_init_29 rfl (by decide) ?_
  refine g_newi (q := 33) (N := 24) rfl rfl (by repeat' first | exact hw.mo (by decide) | apply Wz.r | apply Wz.i | decide) (by decide) rfl rfl (Nat.le_of_ble_eq_true rfl) (Nat.le_of_ble_eq_true rfl) (by decide) dX5_init_31 rfl wa_int ?_
  refine g_nkj (n' := 51) (k' := 4) (j' := 60) rfl rfl rfl ?_
  refine pf_X5_21 (q := 36) rfl rfl (by first | assumption | rfl) dX5_init_33 rfl ?_
  refine g_aload_n (q := 37) dX5_init_36 rfl rfl ?_
  refine g_bipush (q := 39) (v := nI 30) dX5_init_37 rfl (by decide) ?_
  refine g_newi (q := 41) (N := 30) rfl rfl (by repeat' first | exact hw.mo (by decide) | apply Wz.r | apply Wz.i | decide) (by decide) rfl rfl (Nat.le_of_ble_eq_true rfl) (Nat.le_of_ble_eq_true rfl) (by decide) dX5_init_39 rfl wa_int ?_
  refine g_nkj (n' := 52) (k' := 5) (j' := 90) rfl rfl rfl ?_
  refine pf_X5_24 (q := 44) rfl rfl (by first | assumption | rfl) dX5_init_41 rfl ?_
  refine g_aload_n (q := 45) dX5_init_44 rfl rfl ?_
  refine g_iconst (q := 46) (v := nI 0) dX5_init_45 rfl (by decide) ?_
  refine pf_X5_27 (q := 49) rfl (by first | assumption | rfl) dX5_init_46 rfl ?_
  rw [uI_same (h0 _)]
  refine g_aload_n (q := 50) dX5_init_49 rfl rfl ?_
  refine g_iconst (q := 51) (v := nI 0) dX5_init_50 rfl (by decide) ?_
  refine pf_X5_31 (q := 54) rfl (by first | assumption | rfl) dX5_init_51 rfl ?_
  rw [uI_same (h0 _)]
  refine g_vret rfl dX5_init_54 (Nat.le_refl _) (Nat.le_refl _) ?_
  exact h (by repeat' first | exact hw.mo (by decide) | apply Wz.r | apply Wz.i | decide)
set_option maxRecDepth 100000 in
set_option maxHeartbeats 400000 in
theorem c_X0_init_17 {I : Nat → Nat → Int32} {F : Nat → Nat → Option Nat} {Q : Option Int32 → Wd → Prop} (hw : Wz (I, F) 17) (h : Wz (I, uR (F) 17 0 (some 18)) 19 → Q none (I, uR (F) 17 0 (some 18))) : Ex 1 1 80 mX0_init [.ref 17] 18 (I, F) 19 Q := by
  have h0 : ∀ i, I 17 i = nI 0 := fun i => (hw.1 17 i (Nat.le_refl _)).trans nI_0z.symm
  refine ex_intro (L0 := [.ref 17]) (by decide +kernel) rfl rfl (Nat.le_of_ble_eq_true rfl) rfl ?_
  refine g_aload_n (q := 1) dX0_init_0 rfl rfl ?_
  refine oi_X0_3 (q := 4) rfl (by decide) (by decide) dX0_init_1 rfl ?_
  refine g_aload_n (q := 5) dX0_init_4 rfl rfl ?_
  refine g_bipush (q := 7) (v := nI 80) dX0_init_5 rfl (by decide) ?_
  refine g_newi (q := 9) (N := 80) rfl rfl (by repeat' first | exact hw.mo (by decide) | apply Wz.r | apply Wz.i | decide) (by decide) rfl rfl (Nat.le_of_ble_eq_true rfl) (Nat.le_of_ble_eq_true rfl) (by decide) dX0_init_7 rfl wa_int ?_
  refine g_nkj (n' := 19) (k' := 1) (j' := 80) rfl rfl rfl ?_
  refine pf_X0_11 (q := 12) rfl rfl (by first | assumption | rfl) dX0_init_9 rfl ?_
  refine g_aload_n (q := 13) dX0_init_12 rfl rfl ?_
  refine g_iconst (q := 14) (v := nI 0) dX0_init_13 rfl (by decide) ?_
  refine pf_X0_15 (q := 17) rfl (by first | assumption | rfl) dX0_init_14 rfl ?_
  rw [uI_same (h0 _)]
  refine g_vret rfl dX0_init_17 (Nat.le_refl _) (Nat.le_refl _) ?_
  exact h (by repeat' first | exact hw.mo (by decide) | apply Wz.r | apply Wz.i | decide)
set_option maxRecDepth 100000 in
set_option maxHeartbeats 400000 in
theorem c_X3_init_19 {I : Nat → Nat → Int32} {F : Nat → Nat → Option Nat} {Q : Option Int32 → Wd → Prop} (hw : Wz (I, F) 19) (h : Wz (I, uR (uR (uR (F) 19 0 (some 20)) 19 1 (some 21)) 19 2 (some 4)) 22 → Q none (I, uR (uR (uR (F) 19 0 (some 20)) 19 1 (some 21)) 19 2 (some 4))) : Ex 1 2 105 mX3_init [.ref 19, .ref 4] 20 (I, F) 22 Q := by
  have h0 : ∀ i, I 19 i = nI 0 := fun i => (hw.1 19 i (Nat.le_refl _)).trans nI_0z.symm
  refine ex_intro (L0 := [.ref 19, .ref 4]) (by decide +kernel) rfl rfl (Nat.le_of_ble_eq_true rfl) rfl ?_
  refine g_aload_n (q := 1) dX3_init_0 rfl rfl ?_
  refine oi_X3_3 (q := 4) rfl (by decide) (by decide) dX3_init_1 rfl ?_
  refine g_aload_n (q := 5) dX3_init_4 rfl rfl ?_
  refine g_bipush (q := 7) (v := nI 99) dX3_init_5 rfl (by decide) ?_
  refine g_newi (q := 9) (N := 99) rfl rfl (by repeat' first | exact hw.mo (by decide) | apply Wz.r | apply Wz.i | decide) (by decide) rfl rfl (Nat.le_of_ble_eq_true rfl) (Nat.le_of_ble_eq_true rfl) (by decide) dX3_init_7 rfl wa_int ?_
  refine g_nkj (n' := 21) (k' := 1) (j' := 99) rfl rfl rfl ?_
  refine pf_X3_9 (q := 12) rfl rfl (by first | assumption | rfl) dX3_init_9 rfl ?_
  refine g_aload_n (q := 13) dX3_init_12 rfl rfl ?_
  refine g_bipush (q := 15) (v := nI 6) dX3_init_13 rfl (by decide) ?_
  refine g_newi (q := 17) (N := 6) rfl rfl (by repeat' first | exact hw.mo (by decide) | apply Wz.r | apply Wz.i | decide) (by decide) rfl rfl (Nat.le_of_ble_eq_true rfl) (Nat.le_of_ble_eq_true rfl) (by decide) dX3_init_15 rfl wa_int ?_
  refine g_nkj (n' := 22) (k' := 2) (j' := 105) rfl rfl rfl ?_
  refine pf_X3_15 (q := 20) rfl rfl (by first | assumption | rfl) dX3_init_17 rfl ?_
  refine g_aload_n (q := 21) dX3_init_20 rfl rfl ?_
  refine g_iconst (q := 22) (v := nI 0) dX3_init_21 rfl (by decide) ?_
  refine pf_X3_18 (q := 25) rfl (by first | assumption | rfl) dX3_init_22 rfl ?_
  rw [uI_same (h0 _)]
  refine g_aload_n (q := 26) dX3_init_25 rfl rfl ?_
  refine g_iconst (q := 27) (v := nI 0) dX3_init_26 rfl (by decide) ?_
  refine pf_X3_22 (q := 30) rfl (by first | assumption | rfl) dX3_init_27 rfl ?_
  rw [uI_same (h0 _)]
  refine g_aload_n (q := 31) dX3_init_30 rfl rfl ?_
  refine g_iconst (q := 32) (v := nI 0) dX3_init_31 rfl (by decide) ?_
  refine pf_X3_25 (q := 35) rfl (by first | assumption | rfl) dX3_init_32 rfl ?_
  rw [uI_same (h0 _)]
  refine g_aload_n (q := 36) dX3_init_35 rfl rfl ?_
  refine g_iconst (q := 37) (v := nI 0) dX3_init_36 rfl (by decide) ?_
  refine pf_X3_28 (q := 40) rfl (by first | assumption | rfl) dX3_init_37 rfl ?_
  rw [uI_same (h0 _)]
  refine g_aload_n (q := 41) dX3_init_40 rfl rfl ?_
  refine g_iconst (q := 42) (v := nI 0) dX3_init_41 rfl (by decide) ?_
  refine pf_X3_31 (q := 45) rfl (by decide) (by decide) (by first | assumption | rfl) dX3_init_42 rfl ?_
  rw [uI_same (h0 _)]
  refine g_aload_n (q := 46) dX3_init_45 rfl rfl ?_
  refine g_aload_n (q := 47) dX3_init_46 rfl rfl ?_
  refine pf_X3_35 (q := 50) rfl (by first | assumption | rfl) dX3_init_47 rfl ?_
  refine g_vret rfl dX3_init_50 (Nat.le_refl _) (Nat.le_refl _) ?_
  exact h (by repeat' first | exact hw.mo (by decide) | apply Wz.r | apply Wz.i | decide)
set_option maxRecDepth 100000 in
set_option maxHeartbeats 400000 in
theorem c_X1_init_22 {I : Nat → Nat → Int32} {F : Nat → Nat → Option Nat} {Q : Option Int32 → Wd → Prop} (hw : Wz (I, F) 22) (h : Wz (I, uR (uR (F) 22 0 (some 23)) 22 1 (some 4)) 24 → Q none (I, uR (uR (F) 22 0 (some 23)) 22 1 (some 4))) : Ex 1 1 16 mX1_init [.ref 22, .ref 4] 23 (I, F) 24 Q := by
  have h0 : ∀ i, I 22 i = nI 0 := fun i => (hw.1 22 i (Nat.le_refl _)).trans nI_0z.symm
  refine ex_intro (L0 := [.ref 22, .ref 4]) (by decide +kernel) rfl rfl (Nat.le_of_ble_eq_true rfl) rfl ?_
  refine g_aload_n (q := 1) dX1_init_0 rfl rfl ?_
  refine oi_X1_3 (q := 4) rfl (by decide) (by decide) dX1_init_1 rfl ?_
  refine g_aload_n (q := 5) dX1_init_4 rfl rfl ?_
  refine g_bipush (q := 7) (v := nI 16) dX1_init_5 rfl (by decide) ?_
  refine g_newi (q := 9) (N := 16) rfl rfl (by repeat' first | exact hw.mo (by decide) | apply Wz.r | apply Wz.i | decide) (by decide) rfl rfl (Nat.le_of_ble_eq_true rfl) (Nat.le_of_ble_eq_true rfl) (by decide) dX1_init_7 rfl wa_int ?_
  refine g_nkj (n' := 24) (k' := 1) (j' := 16) rfl rfl rfl ?_
  refine pf_X1_9 (q := 12) rfl rfl (by first | assumption | rfl) dX1_init_9 rfl ?_
  refine g_aload_n (q := 13) dX1_init_12 rfl rfl ?_
  refine g_iconst (q := 14) (v := nI 0) dX1_init_13 rfl (by decide) ?_
  refine pf_X1_15 (q := 17) rfl (by first | assumption | rfl) dX1_init_14 rfl ?_
  rw [uI_same (h0 _)]
  refine g_aload_n (q := 18) dX1_init_17 rfl rfl ?_
  refine g_aload_n (q := 19) dX1_init_18 rfl rfl ?_
  refine pf_X1_19 (q := 22) rfl rfl (by first | assumption | rfl) dX1_init_19 rfl ?_
  refine g_vret rfl dX1_init_22 (Nat.le_refl _) (Nat.le_refl _) ?_
  exact h (by repeat' first | exact hw.mo (by decide) | apply Wz.r | apply Wz.i | decide)
set_option maxRecDepth 100000 in
set_option maxHeartbeats 400000 in
theorem c_X2_init_24 {I : Nat → Nat → Int32} {F : Nat → Nat → Option Nat} {Q : Option Int32 → Wd → Prop} (hw : Wz (I, F) 24) (h : Wz (uI I 24 2 (-1), uR (F) 24 0 (some 25)) 26 → Q none (uI I 24 2 (-1), uR (F) 24 0 (some 25))) : Ex 1 1 40 mX2_init [.ref 24] 25 (I, F) 26 Q := by
  have h0 : ∀ i, I 24 i = nI 0 := fun i => (hw.1 24 i (Nat.le_refl _)).trans nI_0z.symm
  refine ex_intro (L0 := [.ref 24]) (by decide +kernel) rfl rfl (Nat.le_of_ble_eq_true rfl) rfl ?_
  refine g_aload_n (q := 1) dX2_init_0 rfl rfl ?_
  refine oi_X2_3 (q := 4) rfl (by decide) (by decide) dX2_init_1 rfl ?_
  refine g_aload_n (q := 5) dX2_init_4 rfl rfl ?_
  refine g_bipush (q := 7) (v := nI 40) dX2_init_5 rfl (by decide) ?_
  refine g_newi (q := 9) (N := 40) rfl rfl (by repeat' first | exact hw.mo (by decide) | apply Wz.r | apply Wz.i | decide) (by decide) rfl rfl (Nat.le_of_ble_eq_true rfl) (Nat.le_of_ble_eq_true rfl) (by decide) dX2_init_7 rfl wa_int ?_
  refine g_nkj (n' := 26) (k' := 1) (j' := 40) rfl rfl rfl ?_
  refine pf_X2_9 (q := 12) rfl rfl (by first | assumption | rfl) dX2_init_9 rfl ?_
  refine g_aload_n (q := 13) dX2_init_12 rfl rfl ?_
  refine g_iconst (q := 14) (v := nI 0) dX2_init_13 rfl (by decide) ?_
  refine pf_X2_15 (q := 17) rfl (by first | assumption | rfl) dX2_init_14 rfl ?_
  rw [uI_same (h0 _)]
  refine g_aload_n (q := 18) dX2_init_17 rfl rfl ?_
  refine g_iconst (q := 19) (v := (-1)) dX2_init_18 rfl (by decide) ?_
  refine pf_X2_19 (q := 22) rfl (by first | assumption | rfl) dX2_init_19 rfl ?_
  refine g_vret rfl dX2_init_22 (Nat.le_refl _) (Nat.le_refl _) ?_
  exact h (by repeat' first | exact hw.mo (by decide) | apply Wz.r | apply Wz.i | decide)
set_option maxRecDepth 100000 in
set_option maxHeartbeats 400000 in
theorem c_X2_init_26 {I : Nat → Nat → Int32} {F : Nat → Nat → Option Nat} {Q : Option Int32 → Wd → Prop} (hw : Wz (I, F) 26) (h : Wz (uI I 26 2 (-1), uR (F) 26 0 (some 27)) 28 → Q none (uI I 26 2 (-1), uR (F) 26 0 (some 27))) : Ex 1 1 40 mX2_init [.ref 26] 27 (I, F) 28 Q := by
  have h0 : ∀ i, I 26 i = nI 0 := fun i => (hw.1 26 i (Nat.le_refl _)).trans nI_0z.symm
  refine ex_intro (L0 := [.ref 26]) (by decide +kernel) rfl rfl (Nat.le_of_ble_eq_true rfl) rfl ?_
  refine g_aload_n (q := 1) dX2_init_0 rfl rfl ?_
  refine oi_X2_3 (q := 4) rfl (by decide) (by decide) dX2_init_1 rfl ?_
  refine g_aload_n (q := 5) dX2_init_4 rfl rfl ?_
  refine g_bipush (q := 7) (v := nI 40) dX2_init_5 rfl (by decide) ?_
  refine g_newi (q := 9) (N := 40) rfl rfl (by repeat' first | exact hw.mo (by decide) | apply Wz.r | apply Wz.i | decide) (by decide) rfl rfl (Nat.le_of_ble_eq_true rfl) (Nat.le_of_ble_eq_true rfl) (by decide) dX2_init_7 rfl wa_int ?_
  refine g_nkj (n' := 28) (k' := 1) (j' := 40) rfl rfl rfl ?_
  refine pf_X2_9 (q := 12) rfl rfl (by first | assumption | rfl) dX2_init_9 rfl ?_
  refine g_aload_n (q := 13) dX2_init_12 rfl rfl ?_
  refine g_iconst (q := 14) (v := nI 0) dX2_init_13 rfl (by decide) ?_
  refine pf_X2_15 (q := 17) rfl (by first | assumption | rfl) dX2_init_14 rfl ?_
  rw [uI_same (h0 _)]
  refine g_aload_n (q := 18) dX2_init_17 rfl rfl ?_
  refine g_iconst (q := 19) (v := (-1)) dX2_init_18 rfl (by decide) ?_
  refine pf_X2_19 (q := 22) rfl (by first | assumption | rfl) dX2_init_19 rfl ?_
  refine g_vret rfl dX2_init_22 (Nat.le_refl _) (Nat.le_refl _) ?_
  exact h (by repeat' first | exact hw.mo (by decide) | apply Wz.r | apply Wz.i | decide)
set_option maxRecDepth 100000 in
set_option maxHeartbeats 400000 in
theorem c_X2_init_28 {I : Nat → Nat → Int32} {F : Nat → Nat → Option Nat} {Q : Option Int32 → Wd → Prop} (hw : Wz (I, F) 28) (h : Wz (uI I 28 2 (-1), uR (F) 28 0 (some 29)) 30 → Q none (uI I 28 2 (-1), uR (F) 28 0 (some 29))) : Ex 1 1 40 mX2_init [.ref 28] 29 (I, F) 30 Q := by
  have h0 : ∀ i, I 28 i = nI 0 := fun i => (hw.1 28 i (Nat.le_refl _)).trans nI_0z.symm
  refine ex_intro (L0 := [.ref 28]) (by decide +kernel) rfl rfl (Nat.le_of_ble_eq_true rfl) rfl ?_
  refine g_aload_n (q := 1) dX2_init_0 rfl rfl ?_
  refine oi_X2_3 (q := 4) rfl (by decide) (by decide) dX2_init_1 rfl ?_
  refine g_aload_n (q := 5) dX2_init_4 rfl rfl ?_
  refine g_bipush (q := 7) (v := nI 40) dX2_init_5 rfl (by decide) ?_
  refine g_newi (q := 9) (N := 40) rfl rfl (by repeat' first | exact hw.mo (by decide) | apply Wz.r | apply Wz.i | decide) (by decide) rfl rfl (Nat.le_of_ble_eq_true rfl) (Nat.le_of_ble_eq_true rfl) (by decide) dX2_init_7 rfl wa_int ?_
  refine g_nkj (n' := 30) (k' := 1) (j' := 40) rfl rfl rfl ?_
  refine pf_X2_9 (q := 12) rfl rfl (by first | assumption | rfl) dX2_init_9 rfl ?_
  refine g_aload_n (q := 13) dX2_init_12 rfl rfl ?_
  refine g_iconst (q := 14) (v := nI 0) dX2_init_13 rfl (by decide) ?_
  refine pf_X2_15 (q := 17) rfl (by first | assumption | rfl) dX2_init_14 rfl ?_
  rw [uI_same (h0 _)]
  refine g_aload_n (q := 18) dX2_init_17 rfl rfl ?_
  refine g_iconst (q := 19) (v := (-1)) dX2_init_18 rfl (by decide) ?_
  refine pf_X2_19 (q := 22) rfl (by first | assumption | rfl) dX2_init_19 rfl ?_
  refine g_vret rfl dX2_init_22 (Nat.le_refl _) (Nat.le_refl _) ?_
  exact h (by repeat' first | exact hw.mo (by decide) | apply Wz.r | apply Wz.i | decide)
set_option maxRecDepth 100000 in
set_option maxHeartbeats 400000 in
theorem c_X2_init_30 {I : Nat → Nat → Int32} {F : Nat → Nat → Option Nat} {Q : Option Int32 → Wd → Prop} (hw : Wz (I, F) 30) (h : Wz (uI I 30 2 (-1), uR (F) 30 0 (some 31)) 32 → Q none (uI I 30 2 (-1), uR (F) 30 0 (some 31))) : Ex 1 1 40 mX2_init [.ref 30] 31 (I, F) 32 Q := by
  have h0 : ∀ i, I 30 i = nI 0 := fun i => (hw.1 30 i (Nat.le_refl _)).trans nI_0z.symm
  refine ex_intro (L0 := [.ref 30]) (by decide +kernel) rfl rfl (Nat.le_of_ble_eq_true rfl) rfl ?_
  refine g_aload_n (q := 1) dX2_init_0 rfl rfl ?_
  refine oi_X2_3 (q := 4) rfl (by decide) (by decide) dX2_init_1 rfl ?_
  refine g_aload_n (q := 5) dX2_init_4 rfl rfl ?_
  refine g_bipush (q := 7) (v := nI 40) dX2_init_5 rfl (by decide) ?_
  refine g_newi (q := 9) (N := 40) rfl rfl (by repeat' first | exact hw.mo (by decide) | apply Wz.r | apply Wz.i | decide) (by decide) rfl rfl (Nat.le_of_ble_eq_true rfl) (Nat.le_of_ble_eq_true rfl) (by decide) dX2_init_7 rfl wa_int ?_
  refine g_nkj (n' := 32) (k' := 1) (j' := 40) rfl rfl rfl ?_
  refine pf_X2_9 (q := 12) rfl rfl (by first | assumption | rfl) dX2_init_9 rfl ?_
  refine g_aload_n (q := 13) dX2_init_12 rfl rfl ?_
  refine g_iconst (q := 14) (v := nI 0) dX2_init_13 rfl (by decide) ?_
  refine pf_X2_15 (q := 17) rfl (by first | assumption | rfl) dX2_init_14 rfl ?_
  rw [uI_same (h0 _)]
  refine g_aload_n (q := 18) dX2_init_17 rfl rfl ?_
  refine g_iconst (q := 19) (v := (-1)) dX2_init_18 rfl (by decide) ?_
  refine pf_X2_19 (q := 22) rfl (by first | assumption | rfl) dX2_init_19 rfl ?_
  refine g_vret rfl dX2_init_22 (Nat.le_refl _) (Nat.le_refl _) ?_
  exact h (by repeat' first | exact hw.mo (by decide) | apply Wz.r | apply Wz.i | decide)
set_option maxRecDepth 100000 in
set_option maxHeartbeats 400000 in
theorem c_X2_init_32 {I : Nat → Nat → Int32} {F : Nat → Nat → Option Nat} {Q : Option Int32 → Wd → Prop} (hw : Wz (I, F) 32) (h : Wz (uI I 32 2 (-1), uR (F) 32 0 (some 33)) 34 → Q none (uI I 32 2 (-1), uR (F) 32 0 (some 33))) : Ex 1 1 40 mX2_init [.ref 32] 33 (I, F) 34 Q := by
  have h0 : ∀ i, I 32 i = nI 0 := fun i => (hw.1 32 i (Nat.le_refl _)).trans nI_0z.symm
  refine ex_intro (L0 := [.ref 32]) (by decide +kernel) rfl rfl (Nat.le_of_ble_eq_true rfl) rfl ?_
  refine g_aload_n (q := 1) dX2_init_0 rfl rfl ?_
  refine oi_X2_3 (q := 4) rfl (by decide) (by decide) dX2_init_1 rfl ?_
  refine g_aload_n (q := 5) dX2_init_4 rfl rfl ?_
  refine g_bipush (q := 7) (v := nI 40) dX2_init_5 rfl (by decide) ?_
  refine g_newi (q := 9) (N := 40) rfl rfl (by repeat' first | exact hw.mo (by decide) | apply Wz.r | apply Wz.i | decide) (by decide) rfl rfl (Nat.le_of_ble_eq_true rfl) (Nat.le_of_ble_eq_true rfl) (by decide) dX2_init_7 rfl wa_int ?_
  refine g_nkj (n' := 34) (k' := 1) (j' := 40) rfl rfl rfl ?_
  refine pf_X2_9 (q := 12) rfl rfl (by first | assumption | rfl) dX2_init_9 rfl ?_
  refine g_aload_n (q := 13) dX2_init_12 rfl rfl ?_
  refine g_iconst (q := 14) (v := nI 0) dX2_init_13 rfl (by decide) ?_
  refine pf_X2_15 (q := 17) rfl (by first | assumption | rfl) dX2_init_14 rfl ?_
  rw [uI_same (h0 _)]
  refine g_aload_n (q := 18) dX2_init_17 rfl rfl ?_
  refine g_iconst (q := 19) (v := (-1)) dX2_init_18 rfl (by decide) ?_
  refine pf_X2_19 (q := 22) rfl (by first | assumption | rfl) dX2_init_19 rfl ?_
  refine g_vret rfl dX2_init_22 (Nat.le_refl _) (Nat.le_refl _) ?_
  exact h (by repeat' first | exact hw.mo (by decide) | apply Wz.r | apply Wz.i | decide)
set_option maxRecDepth 100000 in
set_option maxHeartbeats 400000 in
theorem c_X2_init_34 {I : Nat → Nat → Int32} {F : Nat → Nat → Option Nat} {Q : Option Int32 → Wd → Prop} (hw : Wz (I, F) 34) (h : Wz (uI I 34 2 (-1), uR (F) 34 0 (some 35)) 36 → Q none (uI I 34 2 (-1), uR (F) 34 0 (some 35))) : Ex 1 1 40 mX2_init [.ref 34] 35 (I, F) 36 Q := by
  have h0 : ∀ i, I 34 i = nI 0 := fun i => (hw.1 34 i (Nat.le_refl _)).trans nI_0z.symm
  refine ex_intro (L0 := [.ref 34]) (by decide +kernel) rfl rfl (Nat.le_of_ble_eq_true rfl) rfl ?_
  refine g_aload_n (q := 1) dX2_init_0 rfl rfl ?_
  refine oi_X2_3 (q := 4) rfl (by decide) (by decide) dX2_init_1 rfl ?_
  refine g_aload_n (q := 5) dX2_init_4 rfl rfl ?_
  refine g_bipush (q := 7) (v := nI 40) dX2_init_5 rfl (by decide) ?_
  refine g_newi (q := 9) (N := 40) rfl rfl (by repeat' first | exact hw.mo (by decide) | apply Wz.r | apply Wz.i | decide) (by decide) rfl rfl (Nat.le_of_ble_eq_true rfl) (Nat.le_of_ble_eq_true rfl) (by decide) dX2_init_7 rfl wa_int ?_
  refine g_nkj (n' := 36) (k' := 1) (j' := 40) rfl rfl rfl ?_
  refine pf_X2_9 (q := 12) rfl rfl (by first | assumption | rfl) dX2_init_9 rfl ?_
  refine g_aload_n (q := 13) dX2_init_12 rfl rfl ?_
  refine g_iconst (q := 14) (v := nI 0) dX2_init_13 rfl (by decide) ?_
  refine pf_X2_15 (q := 17) rfl (by first | assumption | rfl) dX2_init_14 rfl ?_
  rw [uI_same (h0 _)]
  refine g_aload_n (q := 18) dX2_init_17 rfl rfl ?_
  refine g_iconst (q := 19) (v := (-1)) dX2_init_18 rfl (by decide) ?_
  refine pf_X2_19 (q := 22) rfl (by first | assumption | rfl) dX2_init_19 rfl ?_
  refine g_vret rfl dX2_init_22 (Nat.le_refl _) (Nat.le_refl _) ?_
  exact h (by repeat' first | exact hw.mo (by decide) | apply Wz.r | apply Wz.i | decide)
set_option maxRecDepth 100000 in
set_option maxHeartbeats 400000 in
theorem c_X2_init_36 {I : Nat → Nat → Int32} {F : Nat → Nat → Option Nat} {Q : Option Int32 → Wd → Prop} (hw : Wz (I, F) 36) (h : Wz (uI I 36 2 (-1), uR (F) 36 0 (some 37)) 38 → Q none (uI I 36 2 (-1), uR (F) 36 0 (some 37))) : Ex 1 1 40 mX2_init [.ref 36] 37 (I, F) 38 Q := by
  have h0 : ∀ i, I 36 i = nI 0 := fun i => (hw.1 36 i (Nat.le_refl _)).trans nI_0z.symm
  refine ex_intro (L0 := [.ref 36]) (by decide +kernel) rfl rfl (Nat.le_of_ble_eq_true rfl) rfl ?_
  refine g_aload_n (q := 1) dX2_init_0 rfl rfl ?_
  refine oi_X2_3 (q := 4) rfl (by decide) (by decide) dX2_init_1 rfl ?_
  refine g_aload_n (q := 5) dX2_init_4 rfl rfl ?_
  refine g_bipush (q := 7) (v := nI 40) dX2_init_5 rfl (by decide) ?_
  refine g_newi (q := 9) (N := 40) rfl rfl (by repeat' first | exact hw.mo (by decide) | apply Wz.r | apply Wz.i | decide) (by decide) rfl rfl (Nat.le_of_ble_eq_true rfl) (Nat.le_of_ble_eq_true rfl) (by decide) dX2_init_7 rfl wa_int ?_
  refine g_nkj (n' := 38) (k' := 1) (j' := 40) rfl rfl rfl ?_
  refine pf_X2_9 (q := 12) rfl rfl (by first | assumption | rfl) dX2_init_9 rfl ?_
  refine g_aload_n (q := 13) dX2_init_12 rfl rfl ?_
  refine g_iconst (q := 14) (v := nI 0) dX2_init_13 rfl (by decide) ?_
  refine pf_X2_15 (q := 17) rfl (by first | assumption | rfl) dX2_init_14 rfl ?_
  rw [uI_same (h0 _)]
  refine g_aload_n (q := 18) dX2_init_17 rfl rfl ?_
  refine g_iconst (q := 19) (v := (-1)) dX2_init_18 rfl (by decide) ?_
  refine pf_X2_19 (q := 22) rfl (by first | assumption | rfl) dX2_init_19 rfl ?_
  refine g_vret rfl dX2_init_22 (Nat.le_refl _) (Nat.le_refl _) ?_
  exact h (by repeat' first | exact hw.mo (by decide) | apply Wz.r | apply Wz.i | decide)
set_option maxRecDepth 100000 in
set_option maxHeartbeats 400000 in
theorem c_X2_init_38 {I : Nat → Nat → Int32} {F : Nat → Nat → Option Nat} {Q : Option Int32 → Wd → Prop} (hw : Wz (I, F) 38) (h : Wz (uI I 38 2 (-1), uR (F) 38 0 (some 39)) 40 → Q none (uI I 38 2 (-1), uR (F) 38 0 (some 39))) : Ex 1 1 40 mX2_init [.ref 38] 39 (I, F) 40 Q := by
  have h0 : ∀ i, I 38 i = nI 0 := fun i => (hw.1 38 i (Nat.le_refl _)).trans nI_0z.symm
  refine ex_intro (L0 := [.ref 38]) (by decide +kernel) rfl rfl (Nat.le_of_ble_eq_true rfl) rfl ?_
  refine g_aload_n (q := 1) dX2_init_0 rfl rfl ?_
  refine oi_X2_3 (q := 4) rfl (by decide) (by decide) dX2_init_1 rfl ?_
  refine g_aload_n (q := 5) dX2_init_4 rfl rfl ?_
  refine g_bipush (q := 7) (v := nI 40) dX2_init_5 rfl (by decide) ?_
  refine g_newi (q := 9) (N := 40) rfl rfl (by repeat' first | exact hw.mo (by decide) | apply Wz.r | apply Wz.i | decide) (by decide) rfl rfl (Nat.le_of_ble_eq_true rfl) (Nat.le_of_ble_eq_true rfl) (by decide) dX2_init_7 rfl wa_int ?_
  refine g_nkj (n' := 40) (k' := 1) (j' := 40) rfl rfl rfl ?_
  refine pf_X2_9 (q := 12) rfl rfl (by first | assumption | rfl) dX2_init_9 rfl ?_
  refine g_aload_n (q := 13) dX2_init_12 rfl rfl ?_
  refine g_iconst (q := 14) (v := nI 0) dX2_init_13 rfl (by decide) ?_
  refine pf_X2_15 (q := 17) rfl (by first | assumption | rfl) dX2_init_14 rfl ?_
  rw [uI_same (h0 _)]
  refine g_aload_n (q := 18) dX2_init_17 rfl rfl ?_
  refine g_iconst (q := 19) (v := (-1)) dX2_init_18 rfl (by decide) ?_
  refine pf_X2_19 (q := 22) rfl (by first | assumption | rfl) dX2_init_19 rfl ?_
  refine g_vret rfl dX2_init_22 (Nat.le_refl _) (Nat.le_refl _) ?_
  exact h (by repeat' first | exact hw.mo (by decide) | apply Wz.r | apply Wz.i | decide)
def IC : Nat → Nat → Int32 := ((uI (uI (uI (uI (uI (uI (uI (uI ((((((uI zI 2 4 (-2))))))) 24 2 (-1)) 26 2 (-1)) 28 2 (-1)) 30 2 (-1)) 32 2 (-1)) 34 2 (-1)) 36 2 (-1)) 38 2 (-1)))
def FC : Nat → Nat → Option Nat := uR (uR (uR (uR (uR (uR ((uR (uR (uR (uR (uR (uR ((uR (uR ((uR (uR ((uR (uR ((uR (uR ((uR (uR ((uR (uR ((uR (uR ((uR (uR ((uR (uR (uR ((uR (uR (uR (uR ((uR (uR ((uR (uR (uR (uR (uR (uR (uR ((uR (uR (uR (uR (uR (uR ((uR (uR ((uR (zF) 0 0 (some 1))) 2 0 (some 3)) 0 1 (some 2))) 4 0 (some 5)) 4 1 (some 6)) 4 2 (some 7)) 4 3 (some 8)) 4 4 (some 9)) 0 2 (some 4))) 10 0 (some 11)) 10 1 (some 12)) 10 2 (some 13)) 10 3 (some 14)) 10 4 (some 15)) 0 3 (some 10)) 0 4 (some 16))) 17 0 (some 18)) 0 5 (some 17))) 19 0 (some 20)) 19 1 (some 21)) 19 2 (some 4)) 0 6 (some 19))) 22 0 (some 23)) 22 1 (some 4)) 0 7 (some 22))) 24 0 (some 25)) 1 0 (some 24))) 26 0 (some 27)) 1 1 (some 26))) 28 0 (some 29)) 1 2 (some 28))) 30 0 (some 31)) 1 3 (some 30))) 32 0 (some 33)) 1 4 (some 32))) 34 0 (some 35)) 1 5 (some 34))) 36 0 (some 37)) 1 6 (some 36))) 38 0 (some 39)) 1 7 (some 38))) 40 0 (some 41)) 40 1 (some 42)) 40 2 (some 43)) 40 3 (some 44)) 40 4 (some 45)) 16 0 (some 40))) 46 0 (some 47)) 46 1 (some 48)) 46 2 (some 49)) 46 3 (some 50)) 46 4 (some 51)) 16 1 (some 46)
set_option maxRecDepth 100000 in
set_option maxHeartbeats 4000000 in
theorem c_X6_init_0 {Q : Option Int32 → Wd → Prop} (h : Wz (IC, FC) 52 → Q none (IC, FC)) : Ex 2 51 1093 mX6_init [.ref 0] 1 (zI, zF) 52 Q := by
  have hw : Wz (zI, zF) 1 := Wz.z.mo (by decide)
  refine ex_intro (L0 := [.ref 0, .null]) (by decide +kernel) rfl rfl (Nat.le_of_ble_eq_true rfl) rfl ?_
  refine g_aload_n (q := 1) dX6_init_0 rfl rfl ?_
  refine oi_X6_1 (q := 4) rfl (by decide) (by decide) dX6_init_1 rfl ?_
  refine g_aload_n (q := 5) dX6_init_4 rfl rfl ?_
  refine g_bipush (q := 7) (v := nI 8) dX6_init_5 rfl (by decide) ?_
  refine nq_X6_9 (q := 10) rfl rfl rfl (by repeat' first | exact hw.mo (by decide) | apply Wz.r | apply Wz.i | decide) (by decide) rfl rfl (Nat.le_of_ble_eq_true rfl) (Nat.le_of_ble_eq_true rfl) dX6_init_7 rfl ?_
  refine g_nkj (n' := 2) (k' := 1) (j' := 8) rfl rfl rfl ?_
  refine pf_X6_11 (q := 13) rfl rfl rfl dX6_init_10 rfl ?_
  refine g_aload_n (q := 14) dX6_init_13 rfl rfl ?_
  refine nw_X6_15 (q := 17) rfl rfl (by repeat' first | exact hw.mo (by decide) | apply Wz.r | apply Wz.i | decide) (by decide) rfl rfl (Nat.le_of_ble_eq_true rfl) (Nat.le_of_ble_eq_true rfl) dX6_init_14 rfl ?_
  refine g_nkj (n' := 3) (k' := 2) (j' := 15) rfl rfl rfl ?_
  refine g_dup (q := 18) dX6_init_17 rfl rfl ?_
  refine k_X6_17 (q := 21) (d := 1) (mc := 1) (ms := 130) (n1 := 4) rfl ⟨(Nat.le_of_ble_eq_true rfl), (Nat.le_of_ble_eq_true rfl)⟩ ⟨(Nat.le_of_ble_eq_true rfl), (Nat.le_of_ble_eq_true rfl)⟩ (Or.inr ⟨rfl, rfl⟩) (Nat.le_of_ble_eq_true rfl) dX6_init_18 rfl (c_X4_init_2 (by repeat' first | exact hw.mo (by decide) | apply Wz.r | apply Wz.i | decide) (fun w1 => ?_))
  refine g_nkj (n' := 4) (k' := 3) (j' := 145) rfl rfl rfl ?_
  refine pf_X6_18 (q := 24) rfl rfl rfl dX6_init_21 rfl ?_
  refine g_aload_n (q := 25) dX6_init_24 rfl rfl ?_
  refine nw_X6_22 (q := 28) rfl rfl (by repeat' first | exact w1.mo (by decide) | apply Wz.r | apply Wz.i | decide) (by decide) rfl rfl (Nat.le_of_ble_eq_true rfl) (Nat.le_of_ble_eq_true rfl) dX6_init_25 rfl ?_
  refine g_nkj (n' := 5) (k' := 4) (j' := 152) rfl rfl rfl ?_
  refine g_dup (q := 29) dX6_init_28 rfl rfl ?_
  refine k_X6_24 (q := 32) (d := 1) (mc := 5) (ms := 90) (n1 := 10) rfl ⟨(Nat.le_of_ble_eq_true rfl), (Nat.le_of_ble_eq_true rfl)⟩ ⟨(Nat.le_of_ble_eq_true rfl), (Nat.le_of_ble_eq_true rfl)⟩ (Or.inr ⟨rfl, rfl⟩) (Nat.le_of_ble_eq_true rfl) dX6_init_29 rfl (c_X5_init_4 (by repeat' first | exact w1.mo (by decide) | apply Wz.r | apply Wz.i | decide) (fun w2 => ?_))
  refine g_nkj (n' := 10) (k' := 9) (j' := 242) rfl rfl rfl ?_
  refine pf_X6_25 (q := 35) rfl rfl rfl dX6_init_32 rfl ?_
  refine g_aload_n (q := 36) dX6_init_35 rfl rfl ?_
  refine nw_X6_22 (q := 39) rfl rfl (by repeat' first | exact w2.mo (by decide) | apply Wz.r | apply Wz.i | decide) (by decide) rfl rfl (Nat.le_of_ble_eq_true rfl) (Nat.le_of_ble_eq_true rfl) dX6_init_36 rfl ?_
  refine g_nkj (n' := 11) (k' := 10) (j' := 249) rfl rfl rfl ?_
  refine g_dup (q := 40) dX6_init_39 rfl rfl ?_
  refine k_X6_24 (q := 43) (d := 1) (mc := 5) (ms := 90) (n1 := 16) rfl ⟨(Nat.le_of_ble_eq_true rfl), (Nat.le_of_ble_eq_true rfl)⟩ ⟨(Nat.le_of_ble_eq_true rfl), (Nat.le_of_ble_eq_true rfl)⟩ (Or.inr ⟨rfl, rfl⟩) (Nat.le_of_ble_eq_true rfl) dX6_init_40 rfl (c_X5_init_10 (by repeat' first | exact w2.mo (by decide) | apply Wz.r | apply Wz.i | decide) (fun w3 => ?_))
  refine g_nkj (n' := 16) (k' := 15) (j' := 339) rfl rfl rfl ?_
  refine pf_X6_29 (q := 46) rfl rfl rfl dX6_init_43 rfl ?_
  refine g_aload_n (q := 47) dX6_init_46 rfl rfl ?_
  refine g_iconst (q := 48) (v := nI 2) dX6_init_47 rfl (by decide) ?_
  refine nq_X6_22 (q := 51) rfl rfl rfl (by repeat' first | exact w3.mo (by decide) | apply Wz.r | apply Wz.i | decide) (by decide) rfl rfl (Nat.le_of_ble_eq_true rfl) (Nat.le_of_ble_eq_true rfl) dX6_init_48 rfl ?_
  refine g_nkj (n' := 17) (k' := 16) (j' := 341) rfl rfl rfl ?_
  refine pf_X6_32 (q := 54) rfl rfl rfl dX6_init_51 rfl ?_
  refine g_aload_n (q := 55) dX6_init_54 rfl rfl ?_
  refine nw_X6_36 (q := 58) rfl rfl (by repeat' first | exact w3.mo (by decide) | apply Wz.r | apply Wz.i | decide) (by decide) rfl rfl (Nat.le_of_ble_eq_true rfl) (Nat.le_of_ble_eq_true rfl) dX6_init_55 rfl ?_
  refine g_nkj (n' := 18) (k' := 17) (j' := 343) rfl rfl rfl ?_
  refine g_dup (q := 59) dX6_init_58 rfl rfl ?_
  refine k_X6_38 (q := 62) (d := 1) (mc := 1) (ms := 80) (n1 := 19) rfl ⟨(Nat.le_of_ble_eq_true rfl), (Nat.le_of_ble_eq_true rfl)⟩ ⟨(Nat.le_of_ble_eq_true rfl), (Nat.le_of_ble_eq_true rfl)⟩ (Or.inr ⟨rfl, rfl⟩) (Nat.le_of_ble_eq_true rfl) dX6_init_59 rfl (c_X0_init_17 (by repeat' first | exact w3.mo (by decide) | apply Wz.r | apply Wz.i | decide) (fun w4 => ?_))
  refine g_nkj (n' := 19) (k' := 18) (j' := 423) rfl rfl rfl ?_
  refine pf_X6_39 (q := 65) rfl rfl rfl dX6_init_62 rfl ?_
  refine g_aload_n (q := 66) dX6_init_65 rfl rfl ?_
  refine nw_X6_43 (q := 69) rfl rfl (by repeat' first | exact w4.mo (by decide) | apply Wz.r | apply Wz.i | decide) (by decide) rfl rfl (Nat.le_of_ble_eq_true rfl) (Nat.le_of_ble_eq_true rfl) dX6_init_66 rfl ?_
  refine g_nkj (n' := 20) (k' := 19) (j' := 431) rfl rfl rfl ?_
  refine g_dup (q := 70) dX6_init_69 rfl rfl ?_
  refine g_aload_n (q := 71) dX6_init_70 rfl rfl ?_
  refine gf_X6_25 (q := 74) rfl rfl rfl dX6_init_71 rfl ?_
  refine k_X6_45 (q := 77) (d := 1) (mc := 2) (ms := 105) (n1 := 22) rfl ⟨(Nat.le_of_ble_eq_true rfl), (Nat.le_of_ble_eq_true rfl)⟩ ⟨(Nat.le_of_ble_eq_true rfl), (Nat.le_of_ble_eq_true rfl)⟩ (Or.inr ⟨rfl, rfl⟩) (Nat.le_of_ble_eq_true rfl) dX6_init_74 rfl (c_X3_init_19 (by repeat' first | exact w4.mo (by decide) | apply Wz.r | apply Wz.i | decide) (fun w5 => ?_))
  refine g_nkj (n' := 22) (k' := 21) (j' := 536) rfl rfl rfl ?_
  refine pf_X6_48 (q := 80) rfl rfl rfl dX6_init_77 rfl ?_
  refine g_aload_n (q := 81) dX6_init_80 rfl rfl ?_
  refine nw_X6_52 (q := 84) rfl rfl (by repeat' first | exact w5.mo (by decide) | apply Wz.r | apply Wz.i | decide) (by decide) rfl rfl (Nat.le_of_ble_eq_true rfl) (Nat.le_of_ble_eq_true rfl) dX6_init_81 rfl ?_
  refine g_nkj (n' := 23) (k' := 22) (j' := 539) rfl rfl rfl ?_
  refine g_dup (q := 85) dX6_init_84 rfl rfl ?_
  refine g_aload_n (q := 86) dX6_init_85 rfl rfl ?_
  refine gf_X6_25 (q := 89) rfl rfl rfl dX6_init_86 rfl ?_
  refine k_X6_54 (q := 92) (d := 1) (mc := 1) (ms := 16) (n1 := 24) rfl ⟨(Nat.le_of_ble_eq_true rfl), (Nat.le_of_ble_eq_true rfl)⟩ ⟨(Nat.le_of_ble_eq_true rfl), (Nat.le_of_ble_eq_true rfl)⟩ (Or.inr ⟨rfl, rfl⟩) (Nat.le_of_ble_eq_true rfl) dX6_init_89 rfl (c_X1_init_22 (by repeat' first | exact w5.mo (by decide) | apply Wz.r | apply Wz.i | decide) (fun w6 => ?_))
  refine g_nkj (n' := 24) (k' := 23) (j' := 555) rfl rfl rfl ?_
  refine pf_X6_55 (q := 95) rfl rfl rfl dX6_init_92 rfl ?_
  refine g_aload_n (q := 96) dX6_init_95 rfl rfl ?_
  refine g_iconst (q := 97) (v := nI 0) dX6_init_96 rfl (by decide) ?_
  refine pf_X6_59 (q := 100) rfl rfl dX6_init_97 rfl ?_
  rw [uI_same (show uI zI 2 4 (-2) 0 8 = nI 0 by rw [uI_ne (by decide)]; exact nI_0z.symm)]
  refine g_aload_n (q := 101) dX6_init_100 rfl rfl ?_
  refine g_iconst (q := 102) (v := nI 0) dX6_init_101 rfl (by decide) ?_
  refine pf_X6_63 (q := 105) rfl rfl dX6_init_102 rfl ?_
  rw [uI_same (show uI zI 2 4 (-2) 0 9 = nI 0 by rw [uI_ne (by decide)]; exact nI_0z.symm)]
  refine g_iconst (q := 106) (v := nI 0) dX6_init_105 rfl (by decide) ?_
  refine g_istore_n (q := 107) dX6_init_106 rfl (by decide) rfl rfl ?_
  refine g_iload_n (q := 108) dX6_init_107 rfl rfl ?_
  refine g_bipush (q := 110) (v := nI 8) dX6_init_108 rfl (by decide) ?_
  refine g_icmp_ge (tgt := 132) (q := 113) dX6_init_110 (by decide) rfl (fun c110 => absurd c110 (by decide)) (fun _ => ?_)
  refine g_aload_n (q := 114) dX6_init_113 rfl rfl ?_
  refine gf_X6_11 (q := 117) rfl rfl rfl dX6_init_114 rfl ?_
  refine g_iload_n (q := 118) dX6_init_117 rfl rfl ?_
  refine nw_X6_9 (q := 121) rfl rfl (by repeat' first | exact w6.mo (by decide) | apply Wz.r | apply Wz.i | decide) (by decide) rfl rfl (Nat.le_of_ble_eq_true rfl) (Nat.le_of_ble_eq_true rfl) dX6_init_118 rfl ?_
  refine g_nkj (n' := 25) (k' := 24) (j' := 558) rfl rfl rfl ?_
  refine g_dup (q := 122) dX6_init_121 rfl rfl ?_
  refine k_X6_66 (q := 125) (d := 1) (mc := 1) (ms := 40) (n1 := 26) rfl ⟨(Nat.le_of_ble_eq_true rfl), (Nat.le_of_ble_eq_true rfl)⟩ ⟨(Nat.le_of_ble_eq_true rfl), (Nat.le_of_ble_eq_true rfl)⟩ (Or.inr ⟨rfl, rfl⟩) (Nat.le_of_ble_eq_true rfl) dX6_init_122 rfl (c_X2_init_24 (by repeat' first | exact w6.mo (by decide) | apply Wz.r | apply Wz.i | decide) (fun w7 => ?_))
  refine g_nkj (n' := 26) (k' := 25) (j' := 598) rfl rfl rfl ?_
  refine g_aastn (q := 126) (t := 3) (N := 8) (ci := 2) (i := 0) (r := (RX2, TX2, 3)) rfl (by decide) rfl (by decide) (by decide) rfl rfl (fun _ => rfl) dX6_init_125 rfl ?_
  refine g_iincn (q := 129) dX6_init_126 rfl rfl (by decide) rfl rfl ?_
  refine g_goto (q := 107) dX6_init_129 (by decide) ?_
  refine g_iload_n (q := 108) dX6_init_107 rfl rfl ?_
  refine g_bipush (q := 110) (v := nI 8) dX6_init_108 rfl (by decide) ?_
  refine g_icmp_ge (tgt := 132) (q := 113) dX6_init_110 (by decide) rfl (fun c110 => absurd c110 (by decide)) (fun _ => ?_)
  refine g_aload_n (q := 114) dX6_init_113 rfl rfl ?_
  refine gf_X6_11 (q := 117) rfl rfl rfl dX6_init_114 rfl ?_
  refine g_iload_n (q := 118) dX6_init_117 rfl rfl ?_
  refine nw_X6_9 (q := 121) rfl rfl (by repeat' first | exact w7.mo (by decide) | apply Wz.r | apply Wz.i | decide) (by decide) rfl rfl (Nat.le_of_ble_eq_true rfl) (Nat.le_of_ble_eq_true rfl) dX6_init_118 rfl ?_
  refine g_nkj (n' := 27) (k' := 26) (j' := 601) rfl rfl rfl ?_
  refine g_dup (q := 122) dX6_init_121 rfl rfl ?_
  refine k_X6_66 (q := 125) (d := 1) (mc := 1) (ms := 40) (n1 := 28) rfl ⟨(Nat.le_of_ble_eq_true rfl), (Nat.le_of_ble_eq_true rfl)⟩ ⟨(Nat.le_of_ble_eq_true rfl), (Nat.le_of_ble_eq_true rfl)⟩ (Or.inr ⟨rfl, rfl⟩) (Nat.le_of_ble_eq_true rfl) dX6_init_122 rfl (c_X2_init_26 (by repeat' first | exact w7.mo (by decide) | apply Wz.r | apply Wz.i | decide) (fun w8 => ?_))
  refine g_nkj (n' := 28) (k' := 27) (j' := 641) rfl rfl rfl ?_
  refine g_aastn (q := 126) (t := 3) (N := 8) (ci := 2) (i := 1) (r := (RX2, TX2, 3)) rfl (by decide) rfl (by decide) (by decide) rfl rfl (fun _ => rfl) dX6_init_125 rfl ?_
  refine g_iincn (q := 129) dX6_init_126 rfl rfl (by decide) rfl rfl ?_
  refine g_goto (q := 107) dX6_init_129 (by decide) ?_
  refine g_iload_n (q := 108) dX6_init_107 rfl rfl ?_
  refine g_bipush (q := 110) (v := nI 8) dX6_init_108 rfl (by decide) ?_
  refine g_icmp_ge (tgt := 132) (q := 113) dX6_init_110 (by decide) rfl (fun c110 => absurd c110 (by decide)) (fun _ => ?_)
  refine g_aload_n (q := 114) dX6_init_113 rfl rfl ?_
  refine gf_X6_11 (q := 117) rfl rfl rfl dX6_init_114 rfl ?_
  refine g_iload_n (q := 118) dX6_init_117 rfl rfl ?_
  refine nw_X6_9 (q := 121) rfl rfl (by repeat' first | exact w8.mo (by decide) | apply Wz.r | apply Wz.i | decide) (by decide) rfl rfl (Nat.le_of_ble_eq_true rfl) (Nat.le_of_ble_eq_true rfl) dX6_init_118 rfl ?_
  refine g_nkj (n' := 29) (k' := 28) (j' := 644) rfl rfl rfl ?_
  refine g_dup (q := 122) dX6_init_121 rfl rfl ?_
  refine k_X6_66 (q := 125) (d := 1) (mc := 1) (ms := 40) (n1 := 30) rfl ⟨(Nat.le_of_ble_eq_true rfl), (Nat.le_of_ble_eq_true rfl)⟩ ⟨(Nat.le_of_ble_eq_true rfl), (Nat.le_of_ble_eq_true rfl)⟩ (Or.inr ⟨rfl, rfl⟩) (Nat.le_of_ble_eq_true rfl) dX6_init_122 rfl (c_X2_init_28 (by repeat' first | exact w8.mo (by decide) | apply Wz.r | apply Wz.i | decide) (fun w9 => ?_))
  refine g_nkj (n' := 30) (k' := 29) (j' := 684) rfl rfl rfl ?_
  refine g_aastn (q := 126) (t := 3) (N := 8) (ci := 2) (i := 2) (r := (RX2, TX2, 3)) rfl (by decide) rfl (by decide) (by decide) rfl rfl (fun _ => rfl) dX6_init_125 rfl ?_
  refine g_iincn (q := 129) dX6_init_126 rfl rfl (by decide) rfl rfl ?_
  refine g_goto (q := 107) dX6_init_129 (by decide) ?_
  refine g_iload_n (q := 108) dX6_init_107 rfl rfl ?_
  refine g_bipush (q := 110) (v := nI 8) dX6_init_108 rfl (by decide) ?_
  refine g_icmp_ge (tgt := 132) (q := 113) dX6_init_110 (by decide) rfl (fun c110 => absurd c110 (by decide)) (fun _ => ?_)
  refine g_aload_n (q := 114) dX6_init_113 rfl rfl ?_
  refine gf_X6_11 (q := 117) rfl rfl rfl dX6_init_114 rfl ?_
  refine g_iload_n (q := 118) dX6_init_117 rfl rfl ?_
  refine nw_X6_9 (q := 121) rfl rfl (by repeat' first | exact w9.mo (by decide) | apply Wz.r | apply Wz.i | decide) (by decide) rfl rfl (Nat.le_of_ble_eq_true rfl) (Nat.le_of_ble_eq_true rfl) dX6_init_118 rfl ?_
  refine g_nkj (n' := 31) (k' := 30) (j' := 687) rfl rfl rfl ?_
  refine g_dup (q := 122) dX6_init_121 rfl rfl ?_
  refine k_X6_66 (q := 125) (d := 1) (mc := 1) (ms := 40) (n1 := 32) rfl ⟨(Nat.le_of_ble_eq_true rfl), (Nat.le_of_ble_eq_true rfl)⟩ ⟨(Nat.le_of_ble_eq_true rfl), (Nat.le_of_ble_eq_true rfl)⟩ (Or.inr ⟨rfl, rfl⟩) (Nat.le_of_ble_eq_true rfl) dX6_init_122 rfl (c_X2_init_30 (by repeat' first | exact w9.mo (by decide) | apply Wz.r | apply Wz.i | decide) (fun w10 => ?_))
  refine g_nkj (n' := 32) (k' := 31) (j' := 727) rfl rfl rfl ?_
  refine g_aastn (q := 126) (t := 3) (N := 8) (ci := 2) (i := 3) (r := (RX2, TX2, 3)) rfl (by decide) rfl (by decide) (by decide) rfl rfl (fun _ => rfl) dX6_init_125 rfl ?_
  refine g_iincn (q := 129) dX6_init_126 rfl rfl (by decide) rfl rfl ?_
  refine g_goto (q := 107) dX6_init_129 (by decide) ?_
  refine g_iload_n (q := 108) dX6_init_107 rfl rfl ?_
  refine g_bipush (q := 110) (v := nI 8) dX6_init_108 rfl (by decide) ?_
  refine g_icmp_ge (tgt := 132) (q := 113) dX6_init_110 (by decide) rfl (fun c110 => absurd c110 (by decide)) (fun _ => ?_)
  refine g_aload_n (q := 114) dX6_init_113 rfl rfl ?_
  refine gf_X6_11 (q := 117) rfl rfl rfl dX6_init_114 rfl ?_
  refine g_iload_n (q := 118) dX6_init_117 rfl rfl ?_
  refine nw_X6_9 (q := 121) rfl rfl (by repeat' first | exact w10.mo (by decide) | apply Wz.r | apply Wz.i | decide) (by decide) rfl rfl (Nat.le_of_ble_eq_true rfl) (Nat.le_of_ble_eq_true rfl) dX6_init_118 rfl ?_
  refine g_nkj (n' := 33) (k' := 32) (j' := 730) rfl rfl rfl ?_
  refine g_dup (q := 122) dX6_init_121 rfl rfl ?_
  refine k_X6_66 (q := 125) (d := 1) (mc := 1) (ms := 40) (n1 := 34) rfl ⟨(Nat.le_of_ble_eq_true rfl), (Nat.le_of_ble_eq_true rfl)⟩ ⟨(Nat.le_of_ble_eq_true rfl), (Nat.le_of_ble_eq_true rfl)⟩ (Or.inr ⟨rfl, rfl⟩) (Nat.le_of_ble_eq_true rfl) dX6_init_122 rfl (c_X2_init_32 (by repeat' first | exact w10.mo (by decide) | apply Wz.r | apply Wz.i | decide) (fun w11 => ?_))
  refine g_nkj (n' := 34) (k' := 33) (j' := 770) rfl rfl rfl ?_
  refine g_aastn (q := 126) (t := 3) (N := 8) (ci := 2) (i := 4) (r := (RX2, TX2, 3)) rfl (by decide) rfl (by decide) (by decide) rfl rfl (fun _ => rfl) dX6_init_125 rfl ?_
  refine g_iincn (q := 129) dX6_init_126 rfl rfl (by decide) rfl rfl ?_
  refine g_goto (q := 107) dX6_init_129 (by decide) ?_
  refine g_iload_n (q := 108) dX6_init_107 rfl rfl ?_
  refine g_bipush (q := 110) (v := nI 8) dX6_init_108 rfl (by decide) ?_
  refine g_icmp_ge (tgt := 132) (q := 113) dX6_init_110 (by decide) rfl (fun c110 => absurd c110 (by decide)) (fun _ => ?_)
  refine g_aload_n (q := 114) dX6_init_113 rfl rfl ?_
  refine gf_X6_11 (q := 117) rfl rfl rfl dX6_init_114 rfl ?_
  refine g_iload_n (q := 118) dX6_init_117 rfl rfl ?_
  refine nw_X6_9 (q := 121) rfl rfl (by repeat' first | exact w11.mo (by decide) | apply Wz.r | apply Wz.i | decide) (by decide) rfl rfl (Nat.le_of_ble_eq_true rfl) (Nat.le_of_ble_eq_true rfl) dX6_init_118 rfl ?_
  refine g_nkj (n' := 35) (k' := 34) (j' := 773) rfl rfl rfl ?_
  refine g_dup (q := 122) dX6_init_121 rfl rfl ?_
  refine k_X6_66 (q := 125) (d := 1) (mc := 1) (ms := 40) (n1 := 36) rfl ⟨(Nat.le_of_ble_eq_true rfl), (Nat.le_of_ble_eq_true rfl)⟩ ⟨(Nat.le_of_ble_eq_true rfl), (Nat.le_of_ble_eq_true rfl)⟩ (Or.inr ⟨rfl, rfl⟩) (Nat.le_of_ble_eq_true rfl) dX6_init_122 rfl (c_X2_init_34 (by repeat' first | exact w11.mo (by decide) | apply Wz.r | apply Wz.i | decide) (fun w12 => ?_))
  refine g_nkj (n' := 36) (k' := 35) (j' := 813) rfl rfl rfl ?_
  refine g_aastn (q := 126) (t := 3) (N := 8) (ci := 2) (i := 5) (r := (RX2, TX2, 3)) rfl (by decide) rfl (by decide) (by decide) rfl rfl (fun _ => rfl) dX6_init_125 rfl ?_
  refine g_iincn (q := 129) dX6_init_126 rfl rfl (by decide) rfl rfl ?_
  refine g_goto (q := 107) dX6_init_129 (by decide) ?_
  refine g_iload_n (q := 108) dX6_init_107 rfl rfl ?_
  refine g_bipush (q := 110) (v := nI 8) dX6_init_108 rfl (by decide) ?_
  refine g_icmp_ge (tgt := 132) (q := 113) dX6_init_110 (by decide) rfl (fun c110 => absurd c110 (by decide)) (fun _ => ?_)
  refine g_aload_n (q := 114) dX6_init_113 rfl rfl ?_
  refine gf_X6_11 (q := 117) rfl rfl rfl dX6_init_114 rfl ?_
  refine g_iload_n (q := 118) dX6_init_117 rfl rfl ?_
  refine nw_X6_9 (q := 121) rfl rfl (by repeat' first | exact w12.mo (by decide) | apply Wz.r | apply Wz.i | decide) (by decide) rfl rfl (Nat.le_of_ble_eq_true rfl) (Nat.le_of_ble_eq_true rfl) dX6_init_118 rfl ?_
  refine g_nkj (n' := 37) (k' := 36) (j' := 816) rfl rfl rfl ?_
  refine g_dup (q := 122) dX6_init_121 rfl rfl ?_
  refine k_X6_66 (q := 125) (d := 1) (mc := 1) (ms := 40) (n1 := 38) rfl ⟨(Nat.le_of_ble_eq_true rfl), (Nat.le_of_ble_eq_true rfl)⟩ ⟨(Nat.le_of_ble_eq_true rfl), (Nat.le_of_ble_eq_true rfl)⟩ (Or.inr ⟨rfl, rfl⟩) (Nat.le_of_ble_eq_true rfl) dX6_init_122 rfl (c_X2_init_36 (by repeat' first | exact w12.mo (by decide) | apply Wz.r | apply Wz.i | decide) (fun w13 => ?_))
  refine g_nkj (n' := 38) (k' := 37) (j' := 856) rfl rfl rfl ?_
  refine g_aastn (q := 126) (t := 3) (N := 8) (ci := 2) (i := 6) (r := (RX2, TX2, 3)) rfl (by decide) rfl (by decide) (by decide) rfl rfl (fun _ => rfl) dX6_init_125 rfl ?_
  refine g_iincn (q := 129) dX6_init_126 rfl rfl (by decide) rfl rfl ?_
  refine g_goto (q := 107) dX6_init_129 (by decide) ?_
  refine g_iload_n (q := 108) dX6_init_107 rfl rfl ?_
  refine g_bipush (q := 110) (v := nI 8) dX6_init_108 rfl (by decide) ?_
  refine g_icmp_ge (tgt := 132) (q := 113) dX6_init_110 (by decide) rfl (fun c110 => absurd c110 (by decide)) (fun _ => ?_)
  refine g_aload_n (q := 114) dX6_init_113 rfl rfl ?_
  refine gf_X6_11 (q := 117) rfl rfl rfl dX6_init_114 rfl ?_
  refine g_iload_n (q := 118) dX6_init_117 rfl rfl ?_
  refine nw_X6_9 (q := 121) rfl rfl (by repeat' first | exact w13.mo (by decide) | apply Wz.r | apply Wz.i | decide) (by decide) rfl rfl (Nat.le_of_ble_eq_true rfl) (Nat.le_of_ble_eq_true rfl) dX6_init_118 rfl ?_
  refine g_nkj (n' := 39) (k' := 38) (j' := 859) rfl rfl rfl ?_
  refine g_dup (q := 122) dX6_init_121 rfl rfl ?_
  refine k_X6_66 (q := 125) (d := 1) (mc := 1) (ms := 40) (n1 := 40) rfl ⟨(Nat.le_of_ble_eq_true rfl), (Nat.le_of_ble_eq_true rfl)⟩ ⟨(Nat.le_of_ble_eq_true rfl), (Nat.le_of_ble_eq_true rfl)⟩ (Or.inr ⟨rfl, rfl⟩) (Nat.le_of_ble_eq_true rfl) dX6_init_122 rfl (c_X2_init_38 (by repeat' first | exact w13.mo (by decide) | apply Wz.r | apply Wz.i | decide) (fun w14 => ?_))
  refine g_nkj (n' := 40) (k' := 39) (j' := 899) rfl rfl rfl ?_
  refine g_aastn (q := 126) (t := 3) (N := 8) (ci := 2) (i := 7) (r := (RX2, TX2, 3)) rfl (by decide) rfl (by decide) (by decide) rfl rfl (fun _ => rfl) dX6_init_125 rfl ?_
  refine g_iincn (q := 129) dX6_init_126 rfl rfl (by decide) rfl rfl ?_
  refine g_goto (q := 107) dX6_init_129 (by decide) ?_
  refine g_iload_n (q := 108) dX6_init_107 rfl rfl ?_
  refine g_bipush (q := 110) (v := nI 8) dX6_init_108 rfl (by decide) ?_
  refine g_icmp_ge (tgt := 132) (q := 113) dX6_init_110 (by decide) rfl (fun _ => ?_) (fun c110 => absurd c110 (by decide))
  refine g_iconst (q := 133) (v := nI 0) dX6_init_132 rfl (by decide) ?_
  refine g_istore_n (q := 134) dX6_init_133 rfl (by decide) rfl rfl ?_
  refine g_iload_n (q := 135) dX6_init_134 rfl rfl ?_
  refine g_iconst (q := 136) (v := nI 2) dX6_init_135 rfl (by decide) ?_
  refine g_icmp_ge (tgt := 158) (q := 139) dX6_init_136 (by decide) rfl (fun c136 => absurd c136 (by decide)) (fun _ => ?_)
  refine g_aload_n (q := 140) dX6_init_139 rfl rfl ?_
  refine gf_X6_32 (q := 143) rfl rfl rfl dX6_init_140 rfl ?_
  refine g_iload_n (q := 144) dX6_init_143 rfl rfl ?_
  refine nw_X6_22 (q := 147) rfl rfl (by repeat' first | exact w14.mo (by decide) | apply Wz.r | apply Wz.i | decide) (by decide) rfl rfl (Nat.le_of_ble_eq_true rfl) (Nat.le_of_ble_eq_true rfl) dX6_init_144 rfl ?_
  refine g_nkj (n' := 41) (k' := 40) (j' := 906) rfl rfl rfl ?_
  refine g_dup (q := 148) dX6_init_147 rfl rfl ?_
  refine k_X6_24 (q := 151) (d := 1) (mc := 5) (ms := 90) (n1 := 46) rfl ⟨(Nat.le_of_ble_eq_true rfl), (Nat.le_of_ble_eq_true rfl)⟩ ⟨(Nat.le_of_ble_eq_true rfl), (Nat.le_of_ble_eq_true rfl)⟩ (Or.inr ⟨rfl, rfl⟩) (Nat.le_of_ble_eq_true rfl) dX6_init_148 rfl (c_X5_init_40 (by repeat' first | exact w14.mo (by decide) | apply Wz.r | apply Wz.i | decide) (fun w15 => ?_))
  refine g_nkj (n' := 46) (k' := 45) (j' := 996) rfl rfl rfl ?_
  refine g_aastn (q := 152) (t := 4) (N := 2) (ci := 5) (i := 0) (r := (RX5, TX5, 7)) rfl (by decide) rfl (by decide) (by decide) rfl rfl (fun _ => rfl) dX6_init_151 rfl ?_
  refine g_iincn (q := 155) dX6_init_152 rfl rfl (by decide) rfl rfl ?_
  refine g_goto (q := 134) dX6_init_155 (by decide) ?_
  refine g_iload_n (q := 135) dX6_init_134 rfl rfl ?_
  refine g_iconst (q := 136) (v := nI 2) dX6_init_135 rfl (by decide) ?_
  refine g_icmp_ge (tgt := 158) (q := 139) dX6_init_136 (by decide) rfl (fun c136 => absurd c136 (by decide)) (fun _ => ?_)
  refine g_aload_n (q := 140) dX6_init_139 rfl rfl ?_
  refine gf_X6_32 (q := 143) rfl rfl rfl dX6_init_140 rfl ?_
  refine g_iload_n (q := 144) dX6_init_143 rfl rfl ?_
  refine nw_X6_22 (q := 147) rfl rfl (by repeat' first | exact w15.mo (by decide) | apply Wz.r | apply Wz.i | decide) (by decide) rfl rfl (Nat.le_of_ble_eq_true rfl) (Nat.le_of_ble_eq_true rfl) dX6_init_144 rfl ?_
  refine g_nkj (n' := 47) (k' := 46) (j' := 1003) rfl rfl rfl ?_
  refine g_dup (q := 148) dX6_init_147 rfl rfl ?_
  refine k_X6_24 (q := 151) (d := 1) (mc := 5) (ms := 90) (n1 := 52) rfl ⟨(Nat.le_of_ble_eq_true rfl), (Nat.le_of_ble_eq_true rfl)⟩ ⟨(Nat.le_of_ble_eq_true rfl), (Nat.le_of_ble_eq_true rfl)⟩ (Or.inr ⟨rfl, rfl⟩) (Nat.le_of_ble_eq_true rfl) dX6_init_148 rfl (c_X5_init_46 (by repeat' first | exact w15.mo (by decide) | apply Wz.r | apply Wz.i | decide) (fun w16 => ?_))
  refine g_nkj (n' := 52) (k' := 51) (j' := 1093) rfl rfl rfl ?_
  refine g_aastn (q := 152) (t := 4) (N := 2) (ci := 5) (i := 1) (r := (RX5, TX5, 7)) rfl (by decide) rfl (by decide) (by decide) rfl rfl (fun _ => rfl) dX6_init_151 rfl ?_
  refine g_iincn (q := 155) dX6_init_152 rfl rfl (by decide) rfl rfl ?_
  refine g_goto (q := 134) dX6_init_155 (by decide) ?_
  refine g_iload_n (q := 135) dX6_init_134 rfl rfl ?_
  refine g_iconst (q := 136) (v := nI 2) dX6_init_135 rfl (by decide) ?_
  refine g_icmp_ge (tgt := 158) (q := 139) dX6_init_136 (by decide) rfl (fun _ => ?_) (fun c136 => absurd c136 (by decide))
  refine g_vret rfl dX6_init_158 (Nat.le_refl _) (Nat.le_refl _) ?_
  exact h (by repeat' first | exact w16.mo (by decide) | apply Wz.r | apply Wz.i | decide)
def iM (I : Nat → Nat → Int32) : Nat → Nat → Int32 := uI (uI (uI (uI (uI (uI (uI (uI I 53 0 (-1000000)) 53 1 (-1000000)) 53 2 (-1000000)) 53 3 (-1000000)) 53 4 (-1000000)) 53 5 (-1000000)) 53 6 (-1000000)) 53 7 (-1000000)
def fM (F : Nat → Nat → Option Nat) : Nat → Nat → Option Nat := uR (uR (uR (uR (uR (uR (uR (uR (uR (uR (uR (uR (uR (uR (uR (F) 52 0 (some 53)) 52 1 (some 54)) 52 2 (some 55)) 52 3 (some 56)) 52 5 (some 57)) 52 13 (some 58)) 52 14 (some 59)) 52 15 (some 60)) 52 16 (some 61)) 52 18 (some 62)) 52 19 (some 63)) 52 20 (some 64)) 52 22 (some 65)) 52 23 (some 66)) 52 30 (some 67)
set_option maxRecDepth 100000 in
set_option maxHeartbeats 4000000 in
theorem c_X7_init_52 {I : Nat → Nat → Int32} {F : Nat → Nat → Option Nat} {Q : Option Int32 → Wd → Prop} (hw : Wz (I, F) 52) (h : Q none (iM I, fM F)) : Ex 1 15 3262 mX7_init [.ref 52] 53 (I, F) 68 Q := by
  refine ex_intro (L0 := [.ref 52, .null]) (by decide +kernel) rfl rfl (Nat.le_of_ble_eq_true rfl) rfl ?_
  refine g_aload_n (q := 1) dX7_init_0 rfl rfl ?_
  refine oi_X7_1 (q := 4) rfl (by decide) (by decide) dX7_init_1 rfl ?_
  refine g_aload_n (q := 5) dX7_init_4 rfl rfl ?_
  refine g_bipush (q := 7) (v := nI 8) dX7_init_5 rfl (by decide) ?_
  refine g_newi (q := 9) (N := 8) rfl rfl (by repeat' first | exact hw.mo (by decide) | apply Wz.r | apply Wz.i | decide) (by decide) rfl rfl (Nat.le_of_ble_eq_true rfl) (Nat.le_of_ble_eq_true rfl) (by decide) dX7_init_7 rfl wa_int ?_
  refine g_nkj (n' := 54) (k' := 1) (j' := 8) rfl rfl rfl ?_
  refine pf_X7_7 (q := 12) rfl rfl rfl dX7_init_9 rfl ?_
  refine g_aload_n (q := 13) dX7_init_12 rfl rfl ?_
  refine g_bipush (q := 15) (v := nI 8) dX7_init_13 rfl (by decide) ?_
  refine g_newi (q := 17) (N := 8) rfl rfl (by repeat' first | exact hw.mo (by decide) | apply Wz.r | apply Wz.i | decide) (by decide) rfl rfl (Nat.le_of_ble_eq_true rfl) (Nat.le_of_ble_eq_true rfl) (by decide) dX7_init_15 rfl wa_int ?_
  refine g_nkj (n' := 55) (k' := 2) (j' := 16) rfl rfl rfl ?_
  refine pf_X7_13 (q := 20) rfl rfl rfl dX7_init_17 rfl ?_
  refine g_aload_n (q := 21) dX7_init_20 rfl rfl ?_
  refine g_sipush (q := 24) (v := nI 320) dX7_init_21 rfl (by decide) ?_
  refine g_newi (q := 26) (N := 320) rfl rfl (by repeat' first | exact hw.mo (by decide) | apply Wz.r | apply Wz.i | decide) (by decide) rfl rfl (Nat.le_of_ble_eq_true rfl) (Nat.le_of_ble_eq_true rfl) (by decide) dX7_init_24 rfl wa_int ?_
  refine g_nkj (n' := 56) (k' := 3) (j' := 336) rfl rfl rfl ?_
  refine pf_X7_16 (q := 29) rfl rfl rfl dX7_init_26 rfl ?_
  refine g_aload_n (q := 30) dX7_init_29 rfl rfl ?_
  refine g_bipush (q := 32) (v := nI 40) dX7_init_30 rfl (by decide) ?_
  refine g_newi (q := 34) (N := 40) rfl rfl (by repeat' first | exact hw.mo (by decide) | apply Wz.r | apply Wz.i | decide) (by decide) rfl rfl (Nat.le_of_ble_eq_true rfl) (Nat.le_of_ble_eq_true rfl) (by decide) dX7_init_32 rfl wa_int ?_
  refine g_nkj (n' := 57) (k' := 4) (j' := 376) rfl rfl rfl ?_
  refine pf_X7_19 (q := 37) rfl rfl rfl dX7_init_34 rfl ?_
  refine g_aload_n (q := 38) dX7_init_37 rfl rfl ?_
  refine g_sipush (q := 41) (v := nI 130) dX7_init_38 rfl (by decide) ?_
  refine g_newi (q := 43) (N := 130) rfl rfl (by repeat' first | exact hw.mo (by decide) | apply Wz.r | apply Wz.i | decide) (by decide) rfl rfl (Nat.le_of_ble_eq_true rfl) (Nat.le_of_ble_eq_true rfl) (by decide) dX7_init_41 rfl wa_int ?_
  refine g_nkj (n' := 58) (k' := 5) (j' := 506) rfl rfl rfl ?_
  refine pf_X7_22 (q := 46) rfl rfl rfl dX7_init_43 rfl ?_
  refine g_aload_n (q := 47) dX7_init_46 rfl rfl ?_
  refine g_bipush (q := 49) (v := nI 92) dX7_init_47 rfl (by decide) ?_
  refine g_newi (q := 51) (N := 92) rfl rfl (by repeat' first | exact hw.mo (by decide) | apply Wz.r | apply Wz.i | decide) (by decide) rfl rfl (Nat.le_of_ble_eq_true rfl) (Nat.le_of_ble_eq_true rfl) (by decide) dX7_init_49 rfl wa_int ?_
  refine g_nkj (n' := 59) (k' := 6) (j' := 598) rfl rfl rfl ?_
  refine pf_X7_25 (q := 54) rfl rfl rfl dX7_init_51 rfl ?_
  refine g_aload_n (q := 55) dX7_init_54 rfl rfl ?_
  refine g_bipush (q := 57) (v := nI 92) dX7_init_55 rfl (by decide) ?_
  refine g_newi (q := 59) (N := 92) rfl rfl (by repeat' first | exact hw.mo (by decide) | apply Wz.r | apply Wz.i | decide) (by decide) rfl rfl (Nat.le_of_ble_eq_true rfl) (Nat.le_of_ble_eq_true rfl) (by decide) dX7_init_57 rfl wa_int ?_
  refine g_nkj (n' := 60) (k' := 7) (j' := 690) rfl rfl rfl ?_
  refine pf_X7_28 (q := 62) rfl rfl rfl dX7_init_59 rfl ?_
  refine g_aload_n (q := 63) dX7_init_62 rfl rfl ?_
  refine g_bipush (q := 65) (v := nI 92) dX7_init_63 rfl (by decide) ?_
  refine g_newi (q := 67) (N := 92) rfl rfl (by repeat' first | exact hw.mo (by decide) | apply Wz.r | apply Wz.i | decide) (by decide) rfl rfl (Nat.le_of_ble_eq_true rfl) (Nat.le_of_ble_eq_true rfl) (by decide) dX7_init_65 rfl wa_int ?_
  refine g_nkj (n' := 61) (k' := 8) (j' := 782) rfl rfl rfl ?_
  refine pf_X7_31 (q := 70) rfl rfl rfl dX7_init_67 rfl ?_
  refine g_aload_n (q := 71) dX7_init_70 rfl rfl ?_
  refine g_sipush (q := 74) (v := nI 1472) dX7_init_71 rfl (by decide) ?_
  refine g_newi (q := 76) (N := 1472) rfl rfl (by repeat' first | exact hw.mo (by decide) | apply Wz.r | apply Wz.i | decide) (by decide) rfl rfl (Nat.le_of_ble_eq_true rfl) (Nat.le_of_ble_eq_true rfl) (by decide) dX7_init_74 rfl wa_int ?_
  refine g_nkj (n' := 62) (k' := 9) (j' := 2254) rfl rfl rfl ?_
  refine pf_X7_34 (q := 79) rfl rfl rfl dX7_init_76 rfl ?_
  refine g_aload_n (q := 80) dX7_init_79 rfl rfl ?_
  refine g_sipush (q := 83) (v := nI 184) dX7_init_80 rfl (by decide) ?_
  refine g_newi (q := 85) (N := 184) rfl rfl (by repeat' first | exact hw.mo (by decide) | apply Wz.r | apply Wz.i | decide) (by decide) rfl rfl (Nat.le_of_ble_eq_true rfl) (Nat.le_of_ble_eq_true rfl) (by decide) dX7_init_83 rfl wa_int ?_
  refine g_nkj (n' := 63) (k' := 10) (j' := 2438) rfl rfl rfl ?_
  refine pf_X7_37 (q := 88) rfl rfl rfl dX7_init_85 rfl ?_
  refine g_aload_n (q := 89) dX7_init_88 rfl rfl ?_
  refine g_iconst (q := 90) (v := nI 2) dX7_init_89 rfl (by decide) ?_
  refine g_newz (q := 92) (N := 2) rfl rfl (by repeat' first | exact hw.mo (by decide) | apply Wz.r | apply Wz.i | decide) (by decide) rfl rfl (Nat.le_of_ble_eq_true rfl) (Nat.le_of_ble_eq_true rfl) (by decide) dX7_init_90 rfl wa_bool ?_
  refine g_nkj (n' := 64) (k' := 11) (j' := 2440) rfl rfl rfl ?_
  refine pf_X7_40 (q := 95) rfl rfl rfl dX7_init_92 rfl ?_
  refine g_aload_n (q := 96) dX7_init_95 rfl rfl ?_
  refine g_sipush (q := 99) (v := nI 700) dX7_init_96 rfl (by decide) ?_
  refine g_newi (q := 101) (N := 700) rfl rfl (by repeat' first | exact hw.mo (by decide) | apply Wz.r | apply Wz.i | decide) (by decide) rfl rfl (Nat.le_of_ble_eq_true rfl) (Nat.le_of_ble_eq_true rfl) (by decide) dX7_init_99 rfl wa_int ?_
  refine g_nkj (n' := 65) (k' := 12) (j' := 3140) rfl rfl rfl ?_
  refine pf_X7_44 (q := 104) rfl rfl rfl dX7_init_101 rfl ?_
  refine g_aload_n (q := 105) dX7_init_104 rfl rfl ?_
  refine g_bipush (q := 107) (v := nI 6) dX7_init_105 rfl (by decide) ?_
  refine g_newi (q := 109) (N := 6) rfl rfl (by repeat' first | exact hw.mo (by decide) | apply Wz.r | apply Wz.i | decide) (by decide) rfl rfl (Nat.le_of_ble_eq_true rfl) (Nat.le_of_ble_eq_true rfl) (by decide) dX7_init_107 rfl wa_int ?_
  refine g_nkj (n' := 66) (k' := 13) (j' := 3146) rfl rfl rfl ?_
  refine pf_X7_47 (q := 112) rfl rfl rfl dX7_init_109 rfl ?_
  refine g_aload_n (q := 113) dX7_init_112 rfl rfl ?_
  refine g_bipush (q := 115) (v := nI 100) dX7_init_113 rfl (by decide) ?_
  refine g_newi (q := 117) (N := 100) rfl rfl (by repeat' first | exact hw.mo (by decide) | apply Wz.r | apply Wz.i | decide) (by decide) rfl rfl (Nat.le_of_ble_eq_true rfl) (Nat.le_of_ble_eq_true rfl) (by decide) dX7_init_115 rfl wa_int ?_
  refine g_nkj (n' := 67) (k' := 14) (j' := 3246) rfl rfl rfl ?_
  refine pf_X7_50 (q := 120) rfl rfl rfl dX7_init_117 rfl ?_
  refine g_aload_n (q := 121) dX7_init_120 rfl rfl ?_
  refine g_bipush (q := 123) (v := nI 16) dX7_init_121 rfl (by decide) ?_
  refine g_newi (q := 125) (N := 16) rfl rfl (by repeat' first | exact hw.mo (by decide) | apply Wz.r | apply Wz.i | decide) (by decide) rfl rfl (Nat.le_of_ble_eq_true rfl) (Nat.le_of_ble_eq_true rfl) (by decide) dX7_init_123 rfl wa_int ?_
  refine g_nkj (n' := 68) (k' := 15) (j' := 3262) rfl rfl rfl ?_
  refine pf_X7_53 (q := 128) rfl rfl rfl dX7_init_125 rfl ?_
  refine g_iconst (q := 129) (v := nI 0) dX7_init_128 rfl (by decide) ?_
  refine g_istore_n (q := 130) dX7_init_129 rfl (by decide) rfl rfl ?_
  refine g_iload_n (q := 131) dX7_init_130 rfl rfl ?_
  refine g_bipush (q := 133) (v := nI 8) dX7_init_131 rfl (by decide) ?_
  refine g_icmp_ge (tgt := 150) (q := 136) dX7_init_133 (by decide) rfl (fun c133 => absurd c133 (by decide)) (fun _ => ?_)
  refine g_aload_n (q := 137) dX7_init_136 rfl rfl ?_
  refine gf_X7_7 (q := 140) rfl rfl rfl dX7_init_137 rfl ?_
  refine g_iload_n (q := 141) dX7_init_140 rfl rfl ?_
  refine lc_X7_56 (q := 143) rfl dX7_init_141 rfl ?_
  refine g_iastn (q := 144) rfl (by repeat' first | apply nI_a | apply nI_m | exact rfl) (by decide) dX7_init_143 rfl ?_
  refine g_iincn (q := 147) dX7_init_144 rfl rfl (by decide) rfl rfl ?_
  refine g_goto (q := 130) dX7_init_147 (by decide) ?_
  refine g_iload_n (q := 131) dX7_init_130 rfl rfl ?_
  refine g_bipush (q := 133) (v := nI 8) dX7_init_131 rfl (by decide) ?_
  refine g_icmp_ge (tgt := 150) (q := 136) dX7_init_133 (by decide) rfl (fun c133 => absurd c133 (by decide)) (fun _ => ?_)
  refine g_aload_n (q := 137) dX7_init_136 rfl rfl ?_
  refine gf_X7_7 (q := 140) rfl rfl rfl dX7_init_137 rfl ?_
  refine g_iload_n (q := 141) dX7_init_140 rfl rfl ?_
  refine lc_X7_56 (q := 143) rfl dX7_init_141 rfl ?_
  refine g_iastn (q := 144) rfl (by repeat' first | apply nI_a | apply nI_m | exact rfl) (by decide) dX7_init_143 rfl ?_
  refine g_iincn (q := 147) dX7_init_144 rfl rfl (by decide) rfl rfl ?_
  refine g_goto (q := 130) dX7_init_147 (by decide) ?_
  refine g_iload_n (q := 131) dX7_init_130 rfl rfl ?_
  refine g_bipush (q := 133) (v := nI 8) dX7_init_131 rfl (by decide) ?_
  refine g_icmp_ge (tgt := 150) (q := 136) dX7_init_133 (by decide) rfl (fun c133 => absurd c133 (by decide)) (fun _ => ?_)
  refine g_aload_n (q := 137) dX7_init_136 rfl rfl ?_
  refine gf_X7_7 (q := 140) rfl rfl rfl dX7_init_137 rfl ?_
  refine g_iload_n (q := 141) dX7_init_140 rfl rfl ?_
  refine lc_X7_56 (q := 143) rfl dX7_init_141 rfl ?_
  refine g_iastn (q := 144) rfl (by repeat' first | apply nI_a | apply nI_m | exact rfl) (by decide) dX7_init_143 rfl ?_
  refine g_iincn (q := 147) dX7_init_144 rfl rfl (by decide) rfl rfl ?_
  refine g_goto (q := 130) dX7_init_147 (by decide) ?_
  refine g_iload_n (q := 131) dX7_init_130 rfl rfl ?_
  refine g_bipush (q := 133) (v := nI 8) dX7_init_131 rfl (by decide) ?_
  refine g_icmp_ge (tgt := 150) (q := 136) dX7_init_133 (by decide) rfl (fun c133 => absurd c133 (by decide)) (fun _ => ?_)
  refine g_aload_n (q := 137) dX7_init_136 rfl rfl ?_
  refine gf_X7_7 (q := 140) rfl rfl rfl dX7_init_137 rfl ?_
  refine g_iload_n (q := 141) dX7_init_140 rfl rfl ?_
  refine lc_X7_56 (q := 143) rfl dX7_init_141 rfl ?_
  refine g_iastn (q := 144) rfl (by repeat' first | apply nI_a | apply nI_m | exact rfl) (by decide) dX7_init_143 rfl ?_
  refine g_iincn (q := 147) dX7_init_144 rfl rfl (by decide) rfl rfl ?_
  refine g_goto (q := 130) dX7_init_147 (by decide) ?_
  refine g_iload_n (q := 131) dX7_init_130 rfl rfl ?_
  refine g_bipush (q := 133) (v := nI 8) dX7_init_131 rfl (by decide) ?_
  refine g_icmp_ge (tgt := 150) (q := 136) dX7_init_133 (by decide) rfl (fun c133 => absurd c133 (by decide)) (fun _ => ?_)
  refine g_aload_n (q := 137) dX7_init_136 rfl rfl ?_
  refine gf_X7_7 (q := 140) rfl rfl rfl dX7_init_137 rfl ?_
  refine g_iload_n (q := 141) dX7_init_140 rfl rfl ?_
  refine lc_X7_56 (q := 143) rfl dX7_init_141 rfl ?_
  refine g_iastn (q := 144) rfl (by repeat' first | apply nI_a | apply nI_m | exact rfl) (by decide) dX7_init_143 rfl ?_
  refine g_iincn (q := 147) dX7_init_144 rfl rfl (by decide) rfl rfl ?_
  refine g_goto (q := 130) dX7_init_147 (by decide) ?_
  refine g_iload_n (q := 131) dX7_init_130 rfl rfl ?_
  refine g_bipush (q := 133) (v := nI 8) dX7_init_131 rfl (by decide) ?_
  refine g_icmp_ge (tgt := 150) (q := 136) dX7_init_133 (by decide) rfl (fun c133 => absurd c133 (by decide)) (fun _ => ?_)
  refine g_aload_n (q := 137) dX7_init_136 rfl rfl ?_
  refine gf_X7_7 (q := 140) rfl rfl rfl dX7_init_137 rfl ?_
  refine g_iload_n (q := 141) dX7_init_140 rfl rfl ?_
  refine lc_X7_56 (q := 143) rfl dX7_init_141 rfl ?_
  refine g_iastn (q := 144) rfl (by repeat' first | apply nI_a | apply nI_m | exact rfl) (by decide) dX7_init_143 rfl ?_
  refine g_iincn (q := 147) dX7_init_144 rfl rfl (by decide) rfl rfl ?_
  refine g_goto (q := 130) dX7_init_147 (by decide) ?_
  refine g_iload_n (q := 131) dX7_init_130 rfl rfl ?_
  refine g_bipush (q := 133) (v := nI 8) dX7_init_131 rfl (by decide) ?_
  refine g_icmp_ge (tgt := 150) (q := 136) dX7_init_133 (by decide) rfl (fun c133 => absurd c133 (by decide)) (fun _ => ?_)
  refine g_aload_n (q := 137) dX7_init_136 rfl rfl ?_
  refine gf_X7_7 (q := 140) rfl rfl rfl dX7_init_137 rfl ?_
  refine g_iload_n (q := 141) dX7_init_140 rfl rfl ?_
  refine lc_X7_56 (q := 143) rfl dX7_init_141 rfl ?_
  refine g_iastn (q := 144) rfl (by repeat' first | apply nI_a | apply nI_m | exact rfl) (by decide) dX7_init_143 rfl ?_
  refine g_iincn (q := 147) dX7_init_144 rfl rfl (by decide) rfl rfl ?_
  refine g_goto (q := 130) dX7_init_147 (by decide) ?_
  refine g_iload_n (q := 131) dX7_init_130 rfl rfl ?_
  refine g_bipush (q := 133) (v := nI 8) dX7_init_131 rfl (by decide) ?_
  refine g_icmp_ge (tgt := 150) (q := 136) dX7_init_133 (by decide) rfl (fun c133 => absurd c133 (by decide)) (fun _ => ?_)
  refine g_aload_n (q := 137) dX7_init_136 rfl rfl ?_
  refine gf_X7_7 (q := 140) rfl rfl rfl dX7_init_137 rfl ?_
  refine g_iload_n (q := 141) dX7_init_140 rfl rfl ?_
  refine lc_X7_56 (q := 143) rfl dX7_init_141 rfl ?_
  refine g_iastn (q := 144) rfl (by repeat' first | apply nI_a | apply nI_m | exact rfl) (by decide) dX7_init_143 rfl ?_
  refine g_iincn (q := 147) dX7_init_144 rfl rfl (by decide) rfl rfl ?_
  refine g_goto (q := 130) dX7_init_147 (by decide) ?_
  refine g_iload_n (q := 131) dX7_init_130 rfl rfl ?_
  refine g_bipush (q := 133) (v := nI 8) dX7_init_131 rfl (by decide) ?_
  refine g_icmp_ge (tgt := 150) (q := 136) dX7_init_133 (by decide) rfl (fun _ => ?_) (fun c133 => absurd c133 (by decide))
  refine g_vret rfl dX7_init_150 (Nat.le_refl _) (Nat.le_refl _) ?_
  exact h
