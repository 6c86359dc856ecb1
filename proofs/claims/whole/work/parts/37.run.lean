theorem rem3 : ∀ x, x < 100 → nI x - nI x / nI 3 * nI 3 = nI (x % 3) := by decide +kernel
theorem RR_up (k b : Nat) : uR (RR k) 19 2 (some b) = RR b := by
  funext p j
  by_cases h : p = 19 ∧ j = 2
  · simp [uR, RR, h]
  · simp [uR, RR, h]

set_option maxRecDepth 100000 in
set_option maxHeartbeats 400000 in
theorem c_X3_isFull {d k : Nat} {I : Nat → Nat → Int32} {Q : Option Int32 → Wd → Prop}  (h1 : ¬ I 19 7 = nI 0 → I 19 7 = nI 1 → Q (some (nI 1)) (I, RR k)) (h0 : I 19 7 = nI 0 → Q (some (nI 0)) (I, RR k)) (hb : I 19 7 = nI 0 ∨ I 19 7 = nI 1) : Ex d 0 0 mX3_isFull [.ref 19] 68 (I, RR k) 68 Q := by
  refine ex_intro (L0 := [.ref 19]) (by decide +kernel) rfl rfl (Nat.le_of_ble_eq_true rfl) rfl ?_
  refine g_aload_n (q := 1) dX3_isFull_0 rfl rfl ?_
  refine gf_X3_31 (q := 4) rfl (by first | assumption | rfl) dX3_isFull_1 rfl ?_
  rcases hb with hb | hb
  · rw [hb]
    exact g_zret rfl (by decide) dX3_isFull_4 (Nat.le_refl _) (Nat.le_refl _) (h0 hb)
  · rw [hb]
    exact g_zret rfl (by decide) dX3_isFull_4 (Nat.le_refl _) (Nat.le_refl _) (h1 (by rw [hb]; decide) hb)
set_option maxRecDepth 100000 in
set_option maxHeartbeats 400000 in
theorem c_X3_size {d k : Nat} {I : Nat → Nat → Int32} {Q : Option Int32 → Wd → Prop}  (h : Q (some (I 19 3)) (I, RR k)) : Ex d 0 0 mX3_size [.ref 19] 68 (I, RR k) 68 Q := by
  refine ex_intro (L0 := [.ref 19]) (by decide +kernel) rfl rfl (Nat.le_of_ble_eq_true rfl) rfl ?_
  refine g_aload_n (q := 1) dX3_size_0 rfl rfl ?_
  refine gf_X3_18 (q := 4) rfl (by first | assumption | rfl) dX3_size_1 rfl ?_
  refine g_iret rfl dX3_size_4 (Nat.le_refl _) (Nat.le_refl _) ?_
  exact h
set_option maxRecDepth 100000 in
set_option maxHeartbeats 400000 in
theorem c_X3_calls {d k : Nat} {I : Nat → Nat → Int32} {Q : Option Int32 → Wd → Prop}  (h : Q (some (I 19 4)) (I, RR k)) : Ex d 0 0 mX3_calls [.ref 19] 68 (I, RR k) 68 Q := by
  refine ex_intro (L0 := [.ref 19]) (by decide +kernel) rfl rfl (Nat.le_of_ble_eq_true rfl) rfl ?_
  refine g_aload_n (q := 1) dX3_calls_0 rfl rfl ?_
  refine gf_X3_22 (q := 4) rfl (by first | assumption | rfl) dX3_calls_1 rfl ?_
  refine g_iret rfl dX3_calls_4 (Nat.le_refl _) (Nat.le_refl _) ?_
  exact h
set_option maxRecDepth 100000 in
set_option maxHeartbeats 400000 in
theorem c_X3_failure {d k : Nat} {I : Nat → Nat → Int32} {Q : Option Int32 → Wd → Prop}  (h : Q (some (I 19 5)) (I, RR k)) : Ex d 0 0 mX3_failure [.ref 19] 68 (I, RR k) 68 Q := by
  refine ex_intro (L0 := [.ref 19]) (by decide +kernel) rfl rfl (Nat.le_of_ble_eq_true rfl) rfl ?_
  refine g_aload_n (q := 1) dX3_failure_0 rfl rfl ?_
  refine gf_X3_25 (q := 4) rfl (by first | assumption | rfl) dX3_failure_1 rfl ?_
  refine g_iret rfl dX3_failure_4 (Nat.le_refl _) (Nat.le_refl _) ?_
  exact h
set_option maxRecDepth 100000 in
set_option maxHeartbeats 400000 in
theorem c_X3_fails {d k : Nat} {I : Nat → Nat → Int32} {Q : Option Int32 → Wd → Prop}  (h1 : I 19 7 = 0 → ¬ I 19 5 = 0 → Q (some (nI 1)) (I, RR k)) (h0 : ¬ (I 19 7 = 0 ∧ ¬ I 19 5 = 0) → Q (some (nI 0)) (I, RR k)) : Ex d 0 0 mX3_fails [.ref 19] 68 (I, RR k) 68 Q := by
  refine ex_intro (L0 := [.ref 19]) (by decide +kernel) rfl rfl (Nat.le_of_ble_eq_true rfl) rfl ?_
  refine g_aload_n (q := 1) dX3_fails_0 rfl rfl ?_
  refine gf_X3_31 (q := 4) rfl (by first | assumption | rfl) dX3_fails_1 rfl ?_
  refine g_if_ne (tgt := 18) (q := 7) dX3_fails_4 (by decide) rfl (fun c4 => ?_) (fun c4 => ?_)
  · refine g_iconst (q := 19) (v := nI 0) dX3_fails_18 rfl (by decide) ?_
    refine g_zret rfl (by decide) dX3_fails_19 (Nat.le_refl _) (Nat.le_refl _) ?_
    exact h0 (fun z => c4 z.1)
  · refine g_aload_n (q := 8) dX3_fails_7 rfl rfl ?_
    refine gf_X3_25 (q := 11) rfl (by first | assumption | rfl) dX3_fails_8 rfl ?_
    refine g_if_eq (tgt := 18) (q := 14) dX3_fails_11 (by decide) rfl (fun c11 => ?_) (fun c11 => ?_)
    · refine g_iconst (q := 19) (v := nI 0) dX3_fails_18 rfl (by decide) ?_
      refine g_zret rfl (by decide) dX3_fails_19 (Nat.le_refl _) (Nat.le_refl _) ?_
      exact h0 (fun z => z.2 c11)
    · refine g_iconst (q := 15) (v := nI 1) dX3_fails_14 rfl (by decide) ?_
      refine g_goto (q := 19) dX3_fails_15 (by decide) ?_
      refine g_zret rfl (by decide) dX3_fails_19 (Nat.le_refl _) (Nat.le_refl _) ?_
      exact h1 c4 c11
set_option maxRecDepth 100000 in
set_option maxHeartbeats 400000 in
theorem c_X3_isStopped {d k : Nat} {I : Nat → Nat → Int32} {Q : Option Int32 → Wd → Prop}  (h1 : (¬ I 19 7 = 0 ∨ ¬ I 19 5 = 0) → Q (some (nI 1)) (I, RR k)) (h0 : I 19 7 = 0 → I 19 5 = 0 → Q (some (nI 0)) (I, RR k)) : Ex d 0 0 mX3_isStopped [.ref 19] 68 (I, RR k) 68 Q := by
  refine ex_intro (L0 := [.ref 19]) (by decide +kernel) rfl rfl (Nat.le_of_ble_eq_true rfl) rfl ?_
  refine g_aload_n (q := 1) dX3_isStopped_0 rfl rfl ?_
  refine gf_X3_31 (q := 4) rfl (by first | assumption | rfl) dX3_isStopped_1 rfl ?_
  refine g_if_ne (tgt := 14) (q := 7) dX3_isStopped_4 (by decide) rfl (fun c4 => ?_) (fun c4 => ?_)
  · refine g_iconst (q := 15) (v := nI 1) dX3_isStopped_14 rfl (by decide) ?_
    refine g_goto (q := 19) dX3_isStopped_15 (by decide) ?_
    refine g_zret rfl (by decide) dX3_isStopped_19 (Nat.le_refl _) (Nat.le_refl _) ?_
    exact h1 (Or.inl c4)
  · refine g_aload_n (q := 8) dX3_isStopped_7 rfl rfl ?_
    refine gf_X3_25 (q := 11) rfl (by first | assumption | rfl) dX3_isStopped_8 rfl ?_
    refine g_if_eq (tgt := 18) (q := 14) dX3_isStopped_11 (by decide) rfl (fun c11 => ?_) (fun c11 => ?_)
    · refine g_iconst (q := 19) (v := nI 0) dX3_isStopped_18 rfl (by decide) ?_
      refine g_zret rfl (by decide) dX3_isStopped_19 (Nat.le_refl _) (Nat.le_refl _) ?_
      exact h0 c4 c11
    · refine g_iconst (q := 15) (v := nI 1) dX3_isStopped_14 rfl (by decide) ?_
      refine g_goto (q := 19) dX3_isStopped_15 (by decide) ?_
      refine g_zret rfl (by decide) dX3_isStopped_19 (Nat.le_refl _) (Nat.le_refl _) ?_
      exact h1 (Or.inr c11)
set_option maxRecDepth 100000 in
set_option maxHeartbeats 400000 in
theorem c_X3_returned {d k : Nat} {I : Nat → Nat → Int32} {Q : Option Int32 → Wd → Prop}  (h : Q (some (if I 19 5 = 0 then I 19 6 else -1000000)) (I, RR k)) : Ex d 0 0 mX3_returned [.ref 19] 68 (I, RR k) 68 Q := by
  refine ex_intro (L0 := [.ref 19]) (by decide +kernel) rfl rfl (Nat.le_of_ble_eq_true rfl) rfl ?_
  refine g_aload_n (q := 1) dX3_returned_0 rfl rfl ?_
  refine gf_X3_25 (q := 4) rfl (by first | assumption | rfl) dX3_returned_1 rfl ?_
  refine g_if_eq (tgt := 12) (q := 7) dX3_returned_4 (by decide) rfl (fun c4 => ?_) (fun c4 => ?_)
  · refine g_aload_n (q := 13) dX3_returned_12 rfl rfl ?_
    refine gf_X3_28 (q := 16) rfl (by first | assumption | rfl) dX3_returned_13 rfl ?_
    refine g_iret rfl dX3_returned_16 (Nat.le_refl _) (Nat.le_refl _) ?_
    rw [if_pos c4] at h; exact h
  · refine lc_X3_43 (q := 9) rfl dX3_returned_7 rfl ?_
    refine g_goto (q := 16) dX3_returned_9 (by decide) ?_
    refine g_iret rfl dX3_returned_16 (Nat.le_refl _) (Nat.le_refl _) ?_
    rw [if_neg c4] at h; exact h
set_option maxRecDepth 100000 in
set_option maxHeartbeats 400000 in
theorem c_emit_ok {d k : Nat} {I : Nat → Nat → Int32} {Q : Option Int32 → Wd → Prop} {x : Nat} {s : Rs} {f : Nat} (hS : RSt I s f) (hl : s.1.length < 99) (h : Q none (uI (uI I 20 s.1.length (nI x)) 19 3 (nI (s.1.length + 1)), RR k)) : Ex d 0 0 mX3_emit [.ref 19, .int (nI x)] 68 (I, RR k) 68 Q := by
  obtain ⟨h1, h2, h3, h4, h5⟩ := id hS
  refine ex_intro (L0 := [.ref 19, .int (nI x)]) (by decide +kernel) rfl rfl (Nat.le_of_ble_eq_true rfl) rfl ?_
  refine g_aload_n (q := 1) dX3_emit_0 rfl rfl ?_
  refine gf_X3_18 (q := 4) rfl (by first | assumption | rfl) dX3_emit_1 rfl ?_
  rw [h1]
  refine g_bipush (q := 6) (v := nI 99) dX3_emit_4 rfl (by decide) ?_
  refine g_icmp_lt (tgt := 14) (q := 9) dX3_emit_6 (by decide) rfl (fun _ => ?_) (fun c6 => absurd (nI_lt (by omega) (by omega)) c6)
  refine g_aload_n (q := 15) dX3_emit_14 rfl rfl ?_
  refine gf_X3_31 (q := 18) rfl (by first | assumption | rfl) dX3_emit_15 rfl ?_
  rw [h4]
  refine g_if_ne (tgt := 41) (q := 21) dX3_emit_18 (by decide) rfl (fun c18 => absurd c18 (fun z => z rfl)) (fun _ => ?_)
  refine g_aload_n (q := 22) dX3_emit_21 rfl rfl ?_
  refine gf_X3_9 (q := 25) rfl (by first | assumption | rfl) (by first | assumption | rfl) dX3_emit_22 rfl ?_
  refine g_aload_n (q := 26) dX3_emit_25 rfl rfl ?_
  refine gf_X3_18 (q := 29) rfl (by first | assumption | rfl) dX3_emit_26 rfl ?_
  rw [h1]
  refine g_iload_n (q := 30) dX3_emit_29 rfl rfl ?_
  refine g_iastn (q := 31) (by first | assumption | rfl) (by repeat' first | apply nI_a | apply nI_m | exact rfl) (by omega) dX3_emit_30 rfl ?_
  refine g_aload_n (q := 32) dX3_emit_31 rfl rfl ?_
  refine g_dup (q := 33) dX3_emit_32 rfl rfl ?_
  refine gf_X3_18 (q := 36) rfl (by first | assumption | rfl) dX3_emit_33 rfl ?_
  rw [uI_ne (show 19 ≠ 20 by decide), h1]
  refine g_iconst (q := 37) (v := nI 1) dX3_emit_36 rfl (by decide) ?_
  refine g_iadd (q := 38) dX3_emit_37 rfl ?_
  rw [nI_add]
  refine pf_X3_18 (q := 41) rfl (by first | assumption | rfl) dX3_emit_38 rfl ?_
  refine g_vret rfl dX3_emit_41 (Nat.le_refl _) (Nat.le_refl _) ?_
  exact h
set_option maxRecDepth 100000 in
set_option maxHeartbeats 400000 in
theorem c_emit_no {d k : Nat} {I : Nat → Nat → Int32} {Q : Option Int32 → Wd → Prop} {x : Nat} {s : Rs} {f : Nat} (hS : RSt I s f) (hl : ¬ s.1.length < 99) (h : Q none (uI I 19 7 (nI 1), RR k)) : Ex d 0 0 mX3_emit [.ref 19, .int (nI x)] 68 (I, RR k) 68 Q := by
  obtain ⟨h1, h2, h3, h4, h5, h6, h7, h8⟩ := id hS
  refine ex_intro (L0 := [.ref 19, .int (nI x)]) (by decide +kernel) rfl rfl (Nat.le_of_ble_eq_true rfl) rfl ?_
  refine g_aload_n (q := 1) dX3_emit_0 rfl rfl ?_
  refine gf_X3_18 (q := 4) rfl (by first | assumption | rfl) dX3_emit_1 rfl ?_
  rw [h1]
  refine g_bipush (q := 6) (v := nI 99) dX3_emit_4 rfl (by decide) ?_
  refine g_icmp_lt (tgt := 14) (q := 9) dX3_emit_6 (by decide) rfl (fun c6 => absurd c6 (nI_nlt (by omega) (by omega))) (fun _ => ?_)
  refine g_aload_n (q := 10) dX3_emit_9 rfl rfl ?_
  refine g_iconst (q := 11) (v := nI 1) dX3_emit_10 rfl (by decide) ?_
  refine pf_X3_31 (q := 14) rfl (by decide) (by decide) (by first | assumption | rfl) dX3_emit_11 rfl ?_
  refine g_aload_n (q := 15) dX3_emit_14 rfl rfl ?_
  refine gf_X3_31 (q := 18) rfl (by first | assumption | rfl) dX3_emit_15 rfl ?_
  rw [uI_eq]
  refine g_if_ne (tgt := 41) (q := 21) dX3_emit_18 (by decide) rfl (fun _ => ?_) (fun c18 => absurd c18 (by decide))
  refine g_vret rfl dX3_emit_41 (Nat.le_refl _) (Nat.le_refl _) ?_
  exact h
set_option maxRecDepth 100000 in
set_option maxHeartbeats 400000 in
theorem c_emit_full {d k : Nat} {I : Nat → Nat → Int32} {Q : Option Int32 → Wd → Prop} {x : Nat} (hS : I 19 7 = nI 1) (h : ∀ I2, Fr [19, 20, 21] I I2 → I2 19 7 = nI 1 → Q none (I2, RR k)) : Ex d 0 0 mX3_emit [.ref 19, .int (nI x)] 68 (I, RR k) 68 Q := by
  refine ex_intro (L0 := [.ref 19, .int (nI x)]) (by decide +kernel) rfl rfl (Nat.le_of_ble_eq_true rfl) rfl ?_
  refine g_aload_n (q := 1) dX3_emit_0 rfl rfl ?_
  refine gf_X3_18 (q := 4) rfl (by first | assumption | rfl) dX3_emit_1 rfl ?_
  refine g_bipush (q := 6) (v := nI 99) dX3_emit_4 rfl (by decide) ?_
  refine g_icmp_lt (tgt := 14) (q := 9) dX3_emit_6 (by decide) rfl (fun c6 => ?_) (fun c6 => ?_)
  · refine g_aload_n (q := 15) dX3_emit_14 rfl rfl ?_
    refine gf_X3_31 (q := 18) rfl (by first | assumption | rfl) dX3_emit_15 rfl ?_
    first | rw [uI_eq] | rw [hS]
    refine g_if_ne (tgt := 41) (q := 21) dX3_emit_18 (by decide) rfl (fun _ => ?_) (fun c18 => absurd c18 (by decide))
    refine g_vret rfl dX3_emit_41 (Nat.le_refl _) (Nat.le_refl _) ?_
    exact h _ Fr.rf hS
  · refine g_aload_n (q := 10) dX3_emit_9 rfl rfl ?_
    refine g_iconst (q := 11) (v := nI 1) dX3_emit_10 rfl (by decide) ?_
    refine pf_X3_31 (q := 14) rfl (by decide) (by decide) (by first | assumption | rfl) dX3_emit_11 rfl ?_
    refine g_aload_n (q := 15) dX3_emit_14 rfl rfl ?_
    refine gf_X3_31 (q := 18) rfl (by first | assumption | rfl) dX3_emit_15 rfl ?_
    first | rw [uI_eq] | rw [hS]
    refine g_if_ne (tgt := 41) (q := 21) dX3_emit_18 (by decide) rfl (fun _ => ?_) (fun c18 => absurd c18 (by decide))
    refine g_vret rfl dX3_emit_41 (Nat.le_refl _) (Nat.le_refl _) ?_
    exact h _ (Fr.ui (by decide)) uI_eq
set_option maxRecDepth 100000 in
set_option maxHeartbeats 400000 in
theorem c_emit {d k : Nat} {I : Nat → Nat → Int32} {Q : Option Int32 → Wd → Prop} {x : Nat} {s : Rs} {f : Nat} (hS : RSt I s f) (h : ∀ I2, Fr [19, 20, 21] I I2 → EPost I2 (emF x s) f → Q none (I2, RR k)) : Ex d 0 0 mX3_emit [.ref 19, .int (nI x)] 68 (I, RR k) 68 Q := by
  unfold emF at h
  by_cases hl : s.1.length < 99
  · rw [if_neg (by omega)] at h
    exact c_emit_ok hS hl (h _ (Fr.tr (Fr.ui (by decide)) (Fr.ui (by decide))) (RSt_emit hS hl))
  · rw [if_pos (by omega)] at h
    exact c_emit_no hS hl (h _ (Fr.ui (by decide)) uI_eq)
/-- the four contracts of a run, at depth D, argument x, over the weave v at k -/
def enP (v : Vv) (x : Nat) : Nat → Nat → Rs → Res := match x with
  | 0 => fun _ _ _ => none
  | x + 1 => enF v x
def bo (v : Vv) (x m g : Nat) : Rs → Res := fun s1 => boF v x m (fun m2 s2 => enP v x m2 g s2) (vln v m) 0 s1 (nI x)
def CT (D x : Nat) (v : Vv) (k : Nat) : Prop := ∀ (I : Nat → Nat → Int32) (s : Rs) (m g : Nat) (Q : Option Int32 → Wd → Prop), RSt I s 0 → CRep I k v → m < vnm v → g < 64 → (∀ I2 r, Fr [19, 20, 21] I I2 → RPost I2 (bo v x m g s) r → Q (some r) (I2, RR k)) → Ex D 0 0 mX3_goThrough [.ref 19, .int (nI m), .int (nI x), .int (nI g)] 68 (I, RR k) 68 Q
def CO (D x j : Nat) (v : Vv) (k : Nat) : Prop := ∀ (I : Nat → Nat → Int32) (s : Rs) (m g mt p : Nat) (Q : Option Int32 → Wd → Prop), p + j = 5 → mt < 2 ^ vna v → RSt I s 0 → CRep I k v → m < vnm v → g < 64 → (∀ I2 r, Fr [19, 20, 21] I I2 → RPost I2 (onF v mt (bo v x m g) j p s) r → Q (some r) (I2, RR k)) → Ex D 0 0 mX3_goOn [.ref 19, .int (nI m), .int (nI x), .int (nI g), .int (nI mt), .int (nI p)] 68 (I, RR k) 68 Q
def CA (D x j : Nat) (v : Vv) (k : Nat) : Prop := ∀ (I : Nat → Nat → Int32) (s : Rs) (m g mt p : Nat) (Q : Option Int32 → Wd → Prop), p + 1 + j = 5 → p < vna v → mt < 2 ^ vna v → vfa v p 5 = 4 → RSt I s 0 → CRep I k v → m < vnm v → g < 64 → (∀ I2 r, Fr [19, 20, 21] I I2 → RPost I2 (advF (vfa v p 5) (vfa v p 0) (onF v mt (bo v x m g) j (p + 1)) s) r → Q (some r) (I2, RR k)) → Ex D 0 0 mX3_goAround [.ref 19, .int (nI m), .int (nI x), .int (nI g), .int (nI mt), .int (nI p)] 68 (I, RR k) 68 Q
def CE (D x : Nat) (v : Vv) (k : Nat) : Prop := ∀ (I : Nat → Nat → Int32) (s : Rs) (m g : Nat) (Q : Option Int32 → Wd → Prop), RSt I s 0 → CRep I k v → m < vnm v → g < 64 → (∀ I2 r, Fr [19, 20, 21] I I2 → RPost I2 (enF v x m g s) r → Q (some r) (I2, RR k)) → Ex D 0 0 mX3_enter [.ref 19, .int (nI m), .int (nI x), .int (nI g)] 68 (I, RR k) 68 Q
theorem kfr {k : Nat} (hk : k = 4 ∨ k = 10) : ∀ p ∈ [19, 20, 21], p < k ∨ k + 5 < p := by
  intro p hp
  simp only [List.mem_cons, List.not_mem_nil, or_false] at hp
  omega
theorem kwv {k : Nat} (hk : k = 4 ∨ k = 10) : isWv (RR k) 68 k ∧ RR k 19 2 = some k ∧ shn 68 k = (0, 5) := by
  rcases hk with rfl | rfl
  · exact ⟨wv4 _, rfl, rfl⟩
  · exact ⟨wv10 _, rfl, rfl⟩

set_option maxRecDepth 100000 in
set_option maxHeartbeats 400000 in
theorem goT_stop {D k m x g i : Nat} {v : Vv} {I : Nat → Nat → Int32} {Q : Option Int32 → Wd → Prop} {acc : Int32} {fz : Value} (hk : k = 4 ∨ k = 10) (hV : VOk v) (hC : CRep I k v) (hm : m < vnm v) (hi : i ≤ vln v m) (hst : ¬ I 19 7 = 0 ∨ ¬ I 19 5 = 0) (h : Q (some acc) (I, RR k)) : G mX3_goThrough (rmd (D + 1) 0 0) (Zm Q 68 68 0 0) 68 6 [.ref 19, .int (nI m), .int (nI x), .int (nI g), .int acc, .int (nI i), fz] [] 68 (I, RR k) 0 0 := by
  obtain ⟨hW, hwk, hsk⟩ := kwv hk
  have hp21 := kfr hk
  obtain ⟨v1, v2, v3, v4⟩ := id hV
  obtain ⟨e1, e2, e3⟩ := hC.2.2.1 m hm
  have u2 := (v3 m hm).2.1
  refine g_iload (q := 8) dX3_goThrough_6 rfl rfl ?_
  refine g_aload_n (q := 9) dX3_goThrough_8 rfl rfl ?_
  refine gf_X3_35 (q := 12) rfl (by first | assumption | rfl) (by first | assumption | rfl) dX3_goThrough_9 rfl ?_
  refine g_iload_n (q := 13) dX3_goThrough_12 rfl rfl ?_
  refine k_X3_92 (q := 16) rfl (Nat.le_of_ble_eq_true rfl) (by first | assumption | rfl) dX3_goThrough_13 rfl (c_X5_length hW (by omega) ?_)
  rw [e2]
  refine g_icmp_ge (tgt := 123) (q := 19) dX3_goThrough_16 (by decide) rfl (fun c16 => ?_) (fun c16 => ?_)
  · refine g_iload (q := 125) dX3_goThrough_123 rfl rfl ?_
    refine g_iret rfl dX3_goThrough_125 (Nat.le_refl _) (Nat.le_refl _) ?_
    exact h
  · refine g_aload_n (q := 20) dX3_goThrough_19 rfl rfl ?_
    refine k_X3_70 (q := 23) rfl (Nat.le_of_ble_eq_true rfl) (by first | assumption | rfl) dX3_goThrough_20 rfl (c_X3_isStopped (fun _ => ?_) (fun z1 z2 => absurd hst (fun z => z.elim (fun y => y z1) (fun y => y z2))))
    · refine g_if_ne (tgt := 123) (q := 26) dX3_goThrough_23 (by decide) rfl (fun _ => ?_) (fun c23 => absurd c23 (by decide))
      refine g_iload (q := 125) dX3_goThrough_123 rfl rfl ?_
      refine g_iret rfl dX3_goThrough_125 (Nat.le_refl _) (Nat.le_refl _) ?_
      exact h
set_option maxRecDepth 100000 in
set_option maxHeartbeats 400000 in
theorem l_goT_0 {D k m g : Nat} {v : Vv} {Q : Option Int32 → Wd → Prop} (hk : k = 4 ∨ k = 10) (hV : VOk v) (hm : m < vnm v) (hg : g < 64) : ∀ (kk i : Nat) (I : Nat → Nat → Int32) (s : Rs) (acc : Int32) (fz : Value), i + kk = vln v m → RSt I s 0 → CRep I k v → (∀ I2 r, Fr [19, 20, 21] I I2 → RPost I2 (boF v 0 m (fun m2 s2 => enP v 0 m2 g s2) kk i s acc) r → Q (some r) (I2, RR k)) → G mX3_goThrough (rmd (D + 1) 0 0) (Zm Q 68 68 0 0) 68 6 [.ref 19, .int (nI m), .int (nI 0), .int (nI g), .int acc, .int (nI i), fz] [] 68 (I, RR k) 0 0 := by
  obtain ⟨hW, hwk, hsk⟩ := kwv hk
  have hp21 := kfr hk
  obtain ⟨v1, v2, v3, v4⟩ := id hV
  have u2 := (v3 m hm).2.1
  intro kk
  induction kk with
  | zero =>
    intro i I s acc fz hi SS hC hpost
    obtain ⟨e1, e2, e3⟩ := hC.2.2.1 m hm
    refine g_iload (q := 8) dX3_goThrough_6 rfl rfl ?_
    refine g_aload_n (q := 9) dX3_goThrough_8 rfl rfl ?_
    refine gf_X3_35 (q := 12) rfl (by first | assumption | rfl) (by first | assumption | rfl) dX3_goThrough_9 rfl ?_
    refine g_iload_n (q := 13) dX3_goThrough_12 rfl rfl ?_
    refine k_X3_92 (q := 16) rfl (Nat.le_of_ble_eq_true rfl) (by first | assumption | rfl) dX3_goThrough_13 rfl (c_X5_length hW (by omega) ?_)
    rw [e2]
    refine g_icmp_ge (tgt := 123) (q := 19) dX3_goThrough_16 (by decide) rfl (fun _ => ?_) (fun c16 => absurd (nI_le (by omega) (by omega)) c16)
    refine g_iload (q := 125) dX3_goThrough_123 rfl rfl ?_
    refine g_iret rfl dX3_goThrough_125 (Nat.le_refl _) (Nat.le_refl _) ?_
    exact hpost I acc Fr.rf ⟨SS, fun _ => rfl⟩
  | succ kk ih =>
    intro i I s acc fz hi SS hC hpost
    obtain ⟨e1, e2, e3⟩ := hC.2.2.1 m hm
    refine g_iload (q := 8) dX3_goThrough_6 rfl rfl ?_
    refine g_aload_n (q := 9) dX3_goThrough_8 rfl rfl ?_
    refine gf_X3_35 (q := 12) rfl (by first | assumption | rfl) (by first | assumption | rfl) dX3_goThrough_9 rfl ?_
    refine g_iload_n (q := 13) dX3_goThrough_12 rfl rfl ?_
    refine k_X3_92 (q := 16) rfl (Nat.le_of_ble_eq_true rfl) (by first | assumption | rfl) dX3_goThrough_13 rfl (c_X5_length hW (by omega) ?_)
    rw [e2]
    refine g_icmp_ge (tgt := 123) (q := 19) dX3_goThrough_16 (by decide) rfl (fun c16 => absurd c16 (nI_ge (by omega) (by omega))) (fun _ => ?_)
    refine g_aload_n (q := 20) dX3_goThrough_19 rfl rfl ?_
    refine k_X3_70 (q := 23) rfl (Nat.le_of_ble_eq_true rfl) (by first | assumption | rfl) dX3_goThrough_20 rfl (c_X3_isStopped (fun z => absurd z (by rw [SS.2.2.1, SS.2.2.2.1]; decide)) (fun _ _ => ?_))
    · refine g_if_ne (tgt := 123) (q := 26) dX3_goThrough_23 (by decide) rfl (fun c23 => absurd c23 (by decide)) (fun _ => ?_)
      refine g_aload_n (q := 27) dX3_goThrough_26 rfl rfl ?_
      refine gf_X3_35 (q := 30) rfl (by first | assumption | rfl) (by first | assumption | rfl) dX3_goThrough_27 rfl ?_
      refine g_iload_n (q := 31) dX3_goThrough_30 rfl rfl ?_
      refine g_iload (q := 33) dX3_goThrough_31 rfl rfl ?_
      refine k_X3_95 (q := 36) rfl (Nat.le_of_ble_eq_true rfl) (by first | assumption | rfl) dX3_goThrough_33 rfl (c_X5_operand hW (by omega) (by omega) ?_)
      rw [(e3 i (by omega)).2]
      refine g_istore (q := 38) dX3_goThrough_36 rfl (by decide) rfl rfl ?_
      refine g_aload_n (q := 39) dX3_goThrough_38 rfl rfl ?_
      refine gf_X3_35 (q := 42) rfl (by first | assumption | rfl) (by first | assumption | rfl) dX3_goThrough_39 rfl ?_
      refine g_iload_n (q := 43) dX3_goThrough_42 rfl rfl ?_
      refine g_iload (q := 45) dX3_goThrough_43 rfl rfl ?_
      refine k_X3_98 (q := 48) rfl (Nat.le_of_ble_eq_true rfl) (by first | assumption | rfl) dX3_goThrough_45 rfl (c_X5_sort hW (by omega) (by omega) ?_)
      rw [(e3 i (by omega)).1]
      have hso := ((v3 m hm).2.2 i (by omega)).1
      have h3 : vso v m i = 0 ∨ vso v m i = 1 ∨ vso v m i = 2 := by omega
      rcases h3 with e | e | e
      · rw [e]
        refine g_lookup (q := 0) (tgt := 76) (off := 28) dX3_goThrough_48 (by decide) (by decide) (by decide) ?_
        refine g_aload_n (q := 77) dX3_goThrough_76 rfl rfl ?_
        refine g_iload (q := 79) dX3_goThrough_77 rfl rfl ?_
        refine k_X3_88 (q := 82) rfl (Nat.le_of_ble_eq_true rfl) (by first | assumption | rfl) dX3_goThrough_79 rfl (c_emit SS (fun I2 hF hE => ?_))
        have hC2 := hC.fr hF hp21
        refine g_goto (q := 117) dX3_goThrough_82 (by decide) ?_
        refine g_iincn (q := 120) dX3_goThrough_117 rfl rfl (by decide) rfl rfl ?_
        refine g_goto (q := 6) dX3_goThrough_120 (by decide) ?_
        cases hr : emF (vop v m i) s with
        | none =>
          rw [hr] at hE
          refine goT_stop hk hV hC2 hm (by omega) (Or.inl (by rw [show I2 19 7 = nI 1 from hE]; decide)) ?_
          refine hpost I2 _ hF ?_
          rw [boF, if_pos e, hr]
          exact hE
        | some s1 =>
          rw [hr] at hE
          refine ih (i + 1) I2 s1 acc _ (by omega) hE hC2 (fun I3 r hF3 hP => hpost I3 r (hF.tr hF3) ?_)
          rw [boF, if_pos e, hr]
          exact hP
      · rw [e]
        refine g_lookup (q := 0) (tgt := 85) (off := 37) dX3_goThrough_48 (by decide) (by decide) (by decide) ?_
        refine g_iload (q := 87) dX3_goThrough_85 rfl rfl ?_
        refine g_iload_n (q := 88) dX3_goThrough_87 rfl rfl ?_
        refine g_if_le (tgt := 104) (q := 91) dX3_goThrough_88 (by decide) rfl (fun _ => ?_) (fun c88 => absurd (by decide) c88)
        refine g_iconst (q := 105) (v := nI 0) dX3_goThrough_104 rfl (by decide) ?_
        refine g_iadd (q := 106) dX3_goThrough_105 rfl ?_
        refine g_istore (q := 108) dX3_goThrough_106 rfl (by decide) rfl rfl ?_
        refine g_goto (q := 117) dX3_goThrough_108 (by decide) ?_
        refine g_iincn (q := 120) dX3_goThrough_117 rfl rfl (by decide) rfl rfl ?_
        refine g_goto (q := 6) dX3_goThrough_120 (by decide) ?_
        rw [show acc + nI 0 = acc from by rw [nI_0]; exact Int32.add_zero acc]
        refine ih (i + 1) I s acc _ (by omega) SS hC (fun I3 r hF3 hP => hpost I3 r hF3 ?_)
        rw [boF, if_neg (by omega), if_pos e, if_pos rfl]
        exact hP
      · rw [e]
        refine g_lookup (q := 0) (tgt := 111) (off := 63) dX3_goThrough_48 (by decide) (by decide) (by decide) ?_
        refine g_aload_n (q := 112) dX3_goThrough_111 rfl rfl ?_
        refine g_iload (q := 114) dX3_goThrough_112 rfl rfl ?_
        refine pf_X3_25 (q := 117) rfl (by first | assumption | rfl) dX3_goThrough_114 rfl ?_
        refine g_iincn (q := 120) dX3_goThrough_117 rfl rfl (by decide) rfl rfl ?_
        refine g_goto (q := 6) dX3_goThrough_120 (by decide) ?_
        have hop := ((v3 m hm).2.2 i (by omega)).2.2.2 e
        have hS2 : RSt (uI I 19 5 (nI (vop v m i))) s (vop v m i) := by
          obtain ⟨h1, h2, h3, h4, h5, h6, h7, h8, h9, h10⟩ := SS
          exact ⟨by simp [uI, h1], by simp [uI, h2], by simp [uI], by simp [uI, h4], fun z hz => by simp [uI, h5 z hz], fun z hz => by simp [uI, h6 z hz], h7, h8, h9, hop.2⟩
        refine goT_stop hk hV (hC.fr (Fr.ui (ps := [19, 20, 21]) (by decide)) hp21) hm (by omega) (Or.inr (by rw [hS2.2.2.1]; exact fun z => by have := (nI_eq (b := 0) (by omega) (by omega)).mp z; omega)) ?_
        refine hpost _ _ (Fr.ui (by decide)) ?_
        rw [boF, if_neg (by omega), if_neg (by omega)]
        exact ⟨hS2, fun z => absurd (show vop v m i = 0 from z) (by omega)⟩
theorem CT_0 {D k : Nat} {v : Vv} (hk : k = 4 ∨ k = 10) (hV : VOk v) : CT (D + 1) 0 v k := by
  intro I s m g Q SS hC hm hg hpost
  obtain ⟨hW, hwk, hsk⟩ := kwv hk
  refine ex_intro (L0 := [.ref 19, .int (nI m), .int (nI 0), .int (nI g), .null, .null, .null]) (by decide +kernel) rfl rfl (Nat.le_of_ble_eq_true rfl) rfl ?_
  refine g_iload_n (q := 1) dX3_goThrough_0 rfl rfl ?_
  refine g_istore (q := 3) dX3_goThrough_1 rfl (by decide) rfl rfl ?_
  refine g_iconst (q := 4) (v := nI 0) dX3_goThrough_3 rfl (by decide) ?_
  refine g_istore (q := 6) dX3_goThrough_4 rfl (by decide) rfl rfl ?_
  exact l_goT_0 hk hV hm hg (vln v m) 0 I s _ _ (by omega) SS hC hpost
set_option maxRecDepth 100000 in
set_option maxHeartbeats 400000 in
theorem l_goT_s {D k m g : Nat} {x : Nat} {v : Vv} {Q : Option Int32 → Wd → Prop} (hk : k = 4 ∨ k = 10) (hV : VOk v) (hEn : CE D x v k) (hx9 : x < 9) (hm : m < vnm v) (hg : g < 64) : ∀ (kk i : Nat) (I : Nat → Nat → Int32) (s : Rs) (acc : Int32) (fz : Value), i + kk = vln v m → RSt I s 0 → CRep I k v → (∀ I2 r, Fr [19, 20, 21] I I2 → RPost I2 (boF v (x + 1) m (fun m2 s2 => enP v (x + 1) m2 g s2) kk i s acc) r → Q (some r) (I2, RR k)) → G mX3_goThrough (rmd (D + 1) 0 0) (Zm Q 68 68 0 0) 68 6 [.ref 19, .int (nI m), .int (nI (x + 1)), .int (nI g), .int acc, .int (nI i), fz] [] 68 (I, RR k) 0 0 := by
  obtain ⟨hW, hwk, hsk⟩ := kwv hk
  have hp21 := kfr hk
  obtain ⟨v1, v2, v3, v4⟩ := id hV
  have u2 := (v3 m hm).2.1
  intro kk
  induction kk with
  | zero =>
    intro i I s acc fz hi SS hC hpost
    obtain ⟨e1, e2, e3⟩ := hC.2.2.1 m hm
    refine g_iload (q := 8) dX3_goThrough_6 rfl rfl ?_
    refine g_aload_n (q := 9) dX3_goThrough_8 rfl rfl ?_
    refine gf_X3_35 (q := 12) rfl (by first | assumption | rfl) (by first | assumption | rfl) dX3_goThrough_9 rfl ?_
    refine g_iload_n (q := 13) dX3_goThrough_12 rfl rfl ?_
    refine k_X3_92 (q := 16) rfl (Nat.le_of_ble_eq_true rfl) (by first | assumption | rfl) dX3_goThrough_13 rfl (c_X5_length hW (by omega) ?_)
    rw [e2]
    refine g_icmp_ge (tgt := 123) (q := 19) dX3_goThrough_16 (by decide) rfl (fun _ => ?_) (fun c16 => absurd (nI_le (by omega) (by omega)) c16)
    refine g_iload (q := 125) dX3_goThrough_123 rfl rfl ?_
    refine g_iret rfl dX3_goThrough_125 (Nat.le_refl _) (Nat.le_refl _) ?_
    exact hpost I acc Fr.rf ⟨SS, fun _ => rfl⟩
  | succ kk ih =>
    intro i I s acc fz hi SS hC hpost
    obtain ⟨e1, e2, e3⟩ := hC.2.2.1 m hm
    refine g_iload (q := 8) dX3_goThrough_6 rfl rfl ?_
    refine g_aload_n (q := 9) dX3_goThrough_8 rfl rfl ?_
    refine gf_X3_35 (q := 12) rfl (by first | assumption | rfl) (by first | assumption | rfl) dX3_goThrough_9 rfl ?_
    refine g_iload_n (q := 13) dX3_goThrough_12 rfl rfl ?_
    refine k_X3_92 (q := 16) rfl (Nat.le_of_ble_eq_true rfl) (by first | assumption | rfl) dX3_goThrough_13 rfl (c_X5_length hW (by omega) ?_)
    rw [e2]
    refine g_icmp_ge (tgt := 123) (q := 19) dX3_goThrough_16 (by decide) rfl (fun c16 => absurd c16 (nI_ge (by omega) (by omega))) (fun _ => ?_)
    refine g_aload_n (q := 20) dX3_goThrough_19 rfl rfl ?_
    refine k_X3_70 (q := 23) rfl (Nat.le_of_ble_eq_true rfl) (by first | assumption | rfl) dX3_goThrough_20 rfl (c_X3_isStopped (fun z => absurd z (by rw [SS.2.2.1, SS.2.2.2.1]; decide)) (fun _ _ => ?_))
    · refine g_if_ne (tgt := 123) (q := 26) dX3_goThrough_23 (by decide) rfl (fun c23 => absurd c23 (by decide)) (fun _ => ?_)
      refine g_aload_n (q := 27) dX3_goThrough_26 rfl rfl ?_
      refine gf_X3_35 (q := 30) rfl (by first | assumption | rfl) (by first | assumption | rfl) dX3_goThrough_27 rfl ?_
      refine g_iload_n (q := 31) dX3_goThrough_30 rfl rfl ?_
      refine g_iload (q := 33) dX3_goThrough_31 rfl rfl ?_
      refine k_X3_95 (q := 36) rfl (Nat.le_of_ble_eq_true rfl) (by first | assumption | rfl) dX3_goThrough_33 rfl (c_X5_operand hW (by omega) (by omega) ?_)
      rw [(e3 i (by omega)).2]
      refine g_istore (q := 38) dX3_goThrough_36 rfl (by decide) rfl rfl ?_
      refine g_aload_n (q := 39) dX3_goThrough_38 rfl rfl ?_
      refine gf_X3_35 (q := 42) rfl (by first | assumption | rfl) (by first | assumption | rfl) dX3_goThrough_39 rfl ?_
      refine g_iload_n (q := 43) dX3_goThrough_42 rfl rfl ?_
      refine g_iload (q := 45) dX3_goThrough_43 rfl rfl ?_
      refine k_X3_98 (q := 48) rfl (Nat.le_of_ble_eq_true rfl) (by first | assumption | rfl) dX3_goThrough_45 rfl (c_X5_sort hW (by omega) (by omega) ?_)
      rw [(e3 i (by omega)).1]
      have hso := ((v3 m hm).2.2 i (by omega)).1
      have h3 : vso v m i = 0 ∨ vso v m i = 1 ∨ vso v m i = 2 := by omega
      rcases h3 with e | e | e
      · rw [e]
        refine g_lookup (q := 0) (tgt := 76) (off := 28) dX3_goThrough_48 (by decide) (by decide) (by decide) ?_
        refine g_aload_n (q := 77) dX3_goThrough_76 rfl rfl ?_
        refine g_iload (q := 79) dX3_goThrough_77 rfl rfl ?_
        refine k_X3_88 (q := 82) rfl (Nat.le_of_ble_eq_true rfl) (by first | assumption | rfl) dX3_goThrough_79 rfl (c_emit SS (fun I2 hF hE => ?_))
        have hC2 := hC.fr hF hp21
        refine g_goto (q := 117) dX3_goThrough_82 (by decide) ?_
        refine g_iincn (q := 120) dX3_goThrough_117 rfl rfl (by decide) rfl rfl ?_
        refine g_goto (q := 6) dX3_goThrough_120 (by decide) ?_
        cases hr : emF (vop v m i) s with
        | none =>
          rw [hr] at hE
          refine goT_stop hk hV hC2 hm (by omega) (Or.inl (by rw [show I2 19 7 = nI 1 from hE]; decide)) ?_
          refine hpost I2 _ hF ?_
          rw [boF, if_pos e, hr]
          exact hE
        | some s1 =>
          rw [hr] at hE
          refine ih (i + 1) I2 s1 acc _ (by omega) hE hC2 (fun I3 r hF3 hP => hpost I3 r (hF.tr hF3) ?_)
          rw [boF, if_pos e, hr]
          exact hP
      · rw [e]
        refine g_lookup (q := 0) (tgt := 85) (off := 37) dX3_goThrough_48 (by decide) (by decide) (by decide) ?_
        refine g_iload (q := 87) dX3_goThrough_85 rfl rfl ?_
        refine g_iload_n (q := 88) dX3_goThrough_87 rfl rfl ?_
        refine g_if_le (tgt := 104) (q := 91) dX3_goThrough_88 (by decide) rfl (fun c88 => absurd c88 (nI_nle (by omega) (by omega))) (fun _ => ?_)
        refine g_aload_n (q := 92) dX3_goThrough_91 rfl rfl ?_
        refine g_iload (q := 94) dX3_goThrough_92 rfl rfl ?_
        refine g_iload_n (q := 95) dX3_goThrough_94 rfl rfl ?_
        refine g_iconst (q := 96) (v := nI 1) dX3_goThrough_95 rfl (by decide) ?_
        refine g_isub (q := 97) dX3_goThrough_96 rfl ?_
        rw [show nI (x + 1) - nI 1 = nI x from nI_pred x]
        refine g_iload_n (q := 98) dX3_goThrough_97 rfl rfl ?_
        refine k_X3_39 (q := 101) rfl (Nat.le_of_ble_eq_true rfl) (by first | assumption | rfl) dX3_goThrough_98 rfl (hEn I s (vop v m i) g _ SS hC (((v3 m hm).2.2 i (by omega)).2.2.1 e) hg (fun I2 r hF hE => ?_))
        have hC2 := hC.fr hF hp21
        refine g_goto (q := 105) dX3_goThrough_101 (by decide) ?_
        refine g_iadd (q := 106) dX3_goThrough_105 rfl ?_
        refine g_istore (q := 108) dX3_goThrough_106 rfl (by decide) rfl rfl ?_
        refine g_goto (q := 117) dX3_goThrough_108 (by decide) ?_
        refine g_iincn (q := 120) dX3_goThrough_117 rfl rfl (by decide) rfl rfl ?_
        refine g_goto (q := 6) dX3_goThrough_120 (by decide) ?_
        cases hr : enF v x (vop v m i) g s with
        | none =>
          rw [hr] at hE
          refine goT_stop hk hV hC2 hm (by omega) (Or.inl (by rw [show I2 19 7 = nI 1 from hE]; decide)) ?_
          refine hpost I2 _ hF ?_
          rw [boF, if_neg (by omega), if_pos e, if_neg (by omega), show enP v (x + 1) (vop v m i) g s = none from hr]
          exact hE
        | some q =>
          rw [hr] at hE
          obtain ⟨hE1, hE2⟩ := hE
          by_cases hf : q.2.1 = 0
          · rw [hf] at hE1
            refine ih (i + 1) I2 q.1 (acc + r) _ (by omega) hE1 hC2 (fun I3 r3 hF3 hP => hpost I3 r3 (hF.tr hF3) ?_)
            rw [boF, if_neg (by omega), if_pos e, if_neg (by omega), show enP v (x + 1) (vop v m i) g s = some q from hr]
            show RPost I3 (if q.2.1 = 0 then _ else _) r3
            rw [if_pos hf, ← hE2 hf]
            exact hP
          · refine goT_stop hk hV hC2 hm (by omega) (Or.inr (by rw [hE1.2.2.1]; exact fun z => hf ((nI_eq (b := 0) (by have := hE1.2.2.2.2.2.2.2.2.2; omega) (by omega)).mp z))) ?_
            refine hpost I2 _ hF ?_
            rw [boF, if_neg (by omega), if_pos e, if_neg (by omega), show enP v (x + 1) (vop v m i) g s = some q from hr]
            show RPost I2 (if q.2.1 = 0 then _ else _) _
            rw [if_neg hf]
            exact ⟨hE1, fun z => absurd z hf⟩
      · rw [e]
        refine g_lookup (q := 0) (tgt := 111) (off := 63) dX3_goThrough_48 (by decide) (by decide) (by decide) ?_
        refine g_aload_n (q := 112) dX3_goThrough_111 rfl rfl ?_
        refine g_iload (q := 114) dX3_goThrough_112 rfl rfl ?_
        refine pf_X3_25 (q := 117) rfl (by first | assumption | rfl) dX3_goThrough_114 rfl ?_
        refine g_iincn (q := 120) dX3_goThrough_117 rfl rfl (by decide) rfl rfl ?_
        refine g_goto (q := 6) dX3_goThrough_120 (by decide) ?_
        have hop := ((v3 m hm).2.2 i (by omega)).2.2.2 e
        have hS2 : RSt (uI I 19 5 (nI (vop v m i))) s (vop v m i) := by
          obtain ⟨h1, h2, h3, h4, h5, h6, h7, h8, h9, h10⟩ := SS
          exact ⟨by simp [uI, h1], by simp [uI, h2], by simp [uI], by simp [uI, h4], fun z hz => by simp [uI, h5 z hz], fun z hz => by simp [uI, h6 z hz], h7, h8, h9, hop.2⟩
        refine goT_stop hk hV (hC.fr (Fr.ui (ps := [19, 20, 21]) (by decide)) hp21) hm (by omega) (Or.inr (by rw [hS2.2.2.1]; exact fun z => by have := (nI_eq (b := 0) (by omega) (by omega)).mp z; omega)) ?_
        refine hpost _ _ (Fr.ui (by decide)) ?_
        rw [boF, if_neg (by omega), if_neg (by omega)]
        exact ⟨hS2, fun z => absurd (show vop v m i = 0 from z) (by omega)⟩
theorem CT_s {D k x : Nat} {v : Vv} (hk : k = 4 ∨ k = 10) (hV : VOk v) (hEn : CE D x v k) (hx9 : x < 9) : CT (D + 1) (x + 1) v k := by
  intro I s m g Q SS hC hm hg hpost
  obtain ⟨hW, hwk, hsk⟩ := kwv hk
  refine ex_intro (L0 := [.ref 19, .int (nI m), .int (nI (x + 1)), .int (nI g), .null, .null, .null]) (by decide +kernel) rfl rfl (Nat.le_of_ble_eq_true rfl) rfl ?_
  refine g_iload_n (q := 1) dX3_goThrough_0 rfl rfl ?_
  refine g_istore (q := 3) dX3_goThrough_1 rfl (by decide) rfl rfl ?_
  refine g_iconst (q := 4) (v := nI 0) dX3_goThrough_3 rfl (by decide) ?_
  refine g_istore (q := 6) dX3_goThrough_4 rfl (by decide) rfl rfl ?_
  exact l_goT_s hk hV hEn hx9 hm hg (vln v m) 0 I s _ _ (by omega) SS hC hpost
