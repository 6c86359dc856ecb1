/-! THE CLAIM OUT OF ONE WALK OF THE LAW'S BODY. Your part is whole_start (and what it stands on); all else here is the same for every law, but numbers. -/
def R_law : String := "WovenCallsLaw"
def lw_P (b : Addr) (xs : List Int32) (args : Array Value) (s : State) : Prop := args = #[.ref b] ∧ s.IntsAt b xs ∧ xs.length ≤ 3072 ∧ (Jvm.Cond.and given_1 narrow_1).before args s = true
def lw_Q (_ : Array Value) (s : State) (o : Outcome) (t : State) : Prop := o = .returned (some (.int 1)) ∧ Framed s o t [] 600000 7302250
def lw_Z (below : List Frame) (a : Array Value) (s : State) : State → Prop := fun t => ∃ o, t.status = .running ∧ Ended t below o ∧ lw_Q a s o t
/-- the law's own end, with 1 on the stack, nothing written that was there before, its room as the claim has it -/
theorem lw_ret {p : Program} {l : Launch} {e : Env} {s : State} {m : MethodId} {below : List Frame} {meth : Method} {c : Code} {b : Nat} (hx : p.tables.exec = Jvm.exec) (hb : c.code = code) (hr : meth.sig.returnType = ret) (hlocks : meth.locks = false) {pc : Nat} {H : Heap} {ls : Array Slot} (hdg : decode code pc = .ok (.ireturn, 1)) : W p l e room_1 s m #[Value.ref b] below meth c H [] 600000 7302250 (lw_Z below #[Value.ref b] s) (F0 m pc ls [.int 1]) := by
  intro T hT X
  obtain ⟨fs, hret, hrun, hended, hW, hframe⟩ := X.leave (v := some (.int 1)) (hlocks := hlocks) (fun h => by rw [hr] at h; cases h)
  have hmeth' : T.vm.method? m = some meth := X.method'
  refine ⟨T.setFrames fs, ?_, .returned (some (.int 1)), hrun, hended, rfl, ⟨_, rfl⟩, hW, hframe⟩
  jvm_step X.here [X.here.top, hx, hb, hdg, hmeth', hr, ret, narrow_b1]
  (try refine ⟨rfl, ?_⟩); (try refine ⟨rfl, ?_⟩)
  first | (intro acts; rw [hret _ acts rfl rfl rfl]) | rw [hret _ _ rfl rfl rfl]
  exact Steps.refl _
/-- what holds at the law's entry: the machine, the code, the tables' words (any of lw_tbl by 'hts w (by decide +kernel)'), the script of L ints xs at the cell b, what the Statement gives of the start (any of its parts by flat_of_before) -/
def lw_At (p : Program) (s : State) (m : MethodId) (meth : Method) (c : Code) (b L : Nat) (xs : Nat → Int32) : Prop :=
  p.tables.exec = Jvm.exec ∧ c.code = code ∧ meth.sig.returnType = ret ∧ c.maxLocals = 4 ∧ s.vm.findClass R_law = some m.cls ∧ (∀ w ∈ lw_tbl, w.before #[Value.ref b] s = true) ∧ va_X b L xs s s.heap ∧ b < s.heap.size ∧ meth.locks = false ∧ (Jvm.Cond.and given_1 narrow_1).before #[Value.ref b] s = true
/-! the start: all that is made holds the first state -/
theorem uR_x {F : Nat → Nat → Option Nat} {p j a b : Nat} {x : Option Nat} (hp : p < 68) (hj : j < 32) (h : 68 ≤ a ∨ 32 ≤ b) : uR F p j x a b = F a b := by
  unfold uR
  rw [if_neg (by omega)]
theorem rT_len : ∀ a, a < 68 → (rT.getD a []).length ≤ 31 := by decide +kernel
theorem RR_x {a b : Nat} (h : 68 ≤ a ∨ 32 ≤ b) : RR 4 a b = none := by
  unfold RR
  rw [if_neg (by omega)]
  unfold RT
  by_cases ha : a < 68
  · have := rT_len a ha
    rw [List.getD_eq_getElem?_getD, List.getElem?_eq_none (by omega)]
    rfl
  · have e : rT.getD a [] = [] := by
      rw [List.getD_eq_getElem?_getD, List.getElem?_eq_none (by show 68 ≤ a; omega)]
      rfl
    rw [e]
    rfl
theorem fM_in : ∀ a, a < 68 → ∀ b, b < 32 → fM FC a b = RR 4 a b := by decide +kernel
theorem fM_FC : fM FC = RR 4 := by
  funext a b
  by_cases h : a < 68 ∧ b < 32
  · exact fM_in a h.1 b h.2
  · have h : 68 ≤ a ∨ 32 ≤ b := by omega
    rw [RR_x h]
    unfold fM FC
    repeat rw [uR_x (by decide) (by decide) h]
    rfl
def S0 : Sg := (fun _ => none, 0, [], 0, v0, [], fun _ => none, [])
theorem v0_vok : VOk v0 := ⟨by decide, by decide, fun m hm => absurd hm (Nat.not_lt_zero _), fun a ha => absurd ha (Nat.not_lt_zero _)⟩
theorem b_rows : ∀ r, r < 8 → iM IC (24 + 2 * r) 2 = -1 := by decide +kernel
theorem b_img : ∀ q, q < 2 → iM IC (40 + 6 * q) 5 = nI 0 := by decide +kernel
theorem b_lane : ∀ r, r < 8 → iM IC 53 r = -1000000 := by decide +kernel
theorem b_kept : ∀ q, q < 2 → iM IC 63 q = nI 0 := by decide +kernel
theorem b_one : iM IC 0 9 = nI 0 ∧ iM IC 2 1 = nI 0 ∧ iM IC 0 8 = nI 0 ∧ iM IC 4 5 = nI 0 ∧ iM IC 4 6 = nI 0 ∧ iM IC 17 1 = nI 0 ∧ iM IC 22 2 = nI 0 ∧ iM IC 52 4 = nI 0 ∧ iM IC 52 6 = nI 0 ∧ iM IC 52 7 = nI 0 ∧ iM IC 58 0 = nI 0 ∧ iM IC 58 1 = nI 0 ∧ iM IC 52 17 = nI 0 ∧ iM IC 52 31 = nI 0 := by decide +kernel
theorem S0_C : RepC (iM IC) S0 := by
  obtain ⟨a1, a2, a3, a4, a5, a6, a7, -⟩ := b_one
  exact ⟨fun r hr => Or.inl ⟨rfl, b_rows r hr⟩, ⟨a1, by decide⟩, ⟨a2, Nat.zero_le _, fun j hj => absurd hj (Nat.not_lt_zero _)⟩, ⟨a3, by decide⟩, ⟨⟨a4, a5, fun m hm => absurd hm (Nat.not_lt_zero _), fun a ha => absurd ha (Nat.not_lt_zero _)⟩, v0_vok⟩, ⟨a6, Nat.zero_le _, rfl⟩, fun q hq => Or.inl ⟨rfl, b_img q hq⟩, ⟨a7, fun j hj => absurd hj (Nat.not_lt_zero _), Nat.zero_le _⟩⟩
theorem S0_M : RepM (iM IC) S0 := by
  obtain ⟨-, -, -, -, -, -, -, a1, a2, a3, a4, a5, a6, a7⟩ := b_one
  exact ⟨fun r hr => Or.inl ⟨rfl, b_lane r hr⟩, ⟨a1, by decide⟩, ⟨a2, Nat.zero_le _, fun j hj => absurd hj (Nat.not_lt_zero _)⟩, ⟨a3, by decide⟩, ⟨⟨a4, a5, fun m hm => absurd hm (Nat.not_lt_zero _), fun a ha => absurd ha (Nat.not_lt_zero _)⟩, v0_vok⟩, ⟨a6, Nat.zero_le _, rfl⟩, fun q hq => Or.inl ⟨rfl, b_kept q hq⟩, ⟨a7, fun j hj => absurd hj (Nat.not_lt_zero _), Nat.zero_le _⟩⟩
theorem RepM.frC {I J : Nat → Nat → Int32} {S : Sg} (h : RepM I S) (hF : FrC I J) : RepM J S := by
  obtain ⟨h1, h2, h3, h4, h5, h6, h7, h8⟩ := h
  have e0 := hF 52 (by decide)
  exact ⟨h1.eq (hF 53 (by decide)) (hF 54 (by decide)) (hF 55 (by decide)), by rw [e0]; exact h2, h3.eq (by rw [e0]) (hF 57 (by decide)), by rw [e0]; exact h4, ⟨h5.1.eq (hF 58 (by decide)), h5.2⟩, h6.eq (by rw [e0]) (hF 61 (by decide)), h7.eq (hF 62 (by decide)) (hF 63 (by decide)), h8.eq (by rw [e0]) (hF 67 (by decide))⟩
theorem RepC.frM {I J : Nat → Nat → Int32} {S : Sg} (h : RepC I S) (hF : FrM I J) : RepC J S := by
  obtain ⟨h1, h2, h3, h4, h5, h6, h7, h8⟩ := h
  have e0 := hF 0 (by decide)
  exact ⟨h1.eq (fun p _ hp => hF p (by omega)), by rw [e0]; exact h2, h3.eq (hF 2 (by decide)) (hF 3 (by decide)), by rw [e0]; exact h4, ⟨h5.1.eq (fun i hi => hF _ (by omega)), h5.2⟩, h6.eq (hF 17 (by decide)) (hF 18 (by decide)), h7.eq (fun p _ hp => hF p (by omega)), h8.eq (hF 22 (by decide)) (hF 23 (by decide))⟩
/-! the law as a method -/
abbrev mLw (N : Nat) (xs : Nat → Int32) : MD := (yL_law, cL_law, 4, some .boolean, some (N, xs))
def ZL : Zt := fun args below s _ _ A _ t => (∀ q, A q → s.heap.size ≤ q) → lw_Z below args s t
theorem lw_ret2 {p : Program} {l : Launch} {e : Jvm.Env} {s : State} {m : MethodId} {args : Array Value} {below : List Frame} {meth : Method} {c : Code} (hx : p.tables.exec = Jvm.exec) (hb : c.code = code) (hr : meth.sig.returnType = ret) (hlocks : meth.locks = false) {pc : Nat} {H : Heap} {ls : Array Slot} (hdg : decode code pc = .ok (.ireturn, 1)) : W p l e room_1 s m args below meth c H [] 600000 7302250 (lw_Z below args s) (F0 m pc ls [.int 1]) := by
  intro T hT X
  obtain ⟨fs, hret, hrun, hended, hW, hframe⟩ := X.leave (v := some (.int 1)) (hlocks := hlocks) (fun h => by rw [hr] at h; cases h)
  have hmeth' : T.vm.method? m = some meth := X.method'
  refine ⟨T.setFrames fs, ?_, .returned (some (.int 1)), hrun, hended, rfl, ⟨_, rfl⟩, hW, hframe⟩
  jvm_step X.here [X.here.top, hx, hb, hdg, hmeth', hr, ret, narrow_b1]
  (try refine ⟨rfl, ?_⟩); (try refine ⟨rfl, ?_⟩)
  first | (intro acts; rw [hret _ acts rfl rfl rfl]) | rw [hret _ _ rfl rfl rfl]
  exact Steps.refl _
theorem g_lret {N : Nat} {xs : Nat → Int32} {n0 pc n k j : Nat} {L : List Value} {w : Wd} (hd : decode code pc = .ok (.ireturn, 1)) (hk : k ≤ 600000) (hj : j ≤ 7302250) : G (mLw N xs) room_1 ZL n0 pc L [.int (nI 1)] n w k j := by
  intro p l e s m args below meth c D aC A ad0 ad H locs ls hC hK hY hl
  by_cases hA : ∀ q, A q → s.heap.size ≤ q
  · refine va_forget (fun q hq => hA _ (hY.2.2.1.2.2 q hq)) ?_
    refine W.widen (k := 600000) (n := 7302250) hk hj ?_
    intro T hT X
    obtain ⟨t, a, b⟩ := lw_ret2 (l := l) (e := e) (s := s) (m := m) (args := args) (below := below) (meth := meth) (c := c) (H := H) (ls := ls) hC.1 hC.2.1 hC.2.2.1 hC.2.2.2.2.2.2.1 hd T hT X
    exact ⟨t, a, fun _ => b⟩
  · intro T hT X
    exact ⟨_, Steps.refl _, fun h => absurd h hA⟩
theorem g_sldn {Y : MD} {R : Room} {Z : Zt} {n0 pc q n k j : Nat} {L st : List Value} {w : Wd} {N c : Nat} {xs : Nat → Int32} {x : Int32} (hsc : Y.2.2.2.2 = some (N, xs)) (hx : x = nI c) (hc : c < N) (hN : N ≤ 3072) (hd : decode Y.2.1 pc = .ok (.iaload, 1)) (hq : pc + 1 = q) (h : G Y R Z n0 q L (.int (xs c) :: st) n w k j) : G Y R Z n0 pc L (.int x :: .ref 1000 :: st) n w k j := by
  subst hx
  refine g_sld hsc (nI_in hc (by omega)) hd hq ?_
  rw [nI_clamp (by omega)]
  exact h
theorem inc6 (a : Nat) : nI a + Int32.ofInt 6 = nI (a + 6) := by
  rw [show Int32.ofInt 6 = nI 6 by decide]
  exact nI_add a 6
theorem law_gt {N a : Nat} (hN : N ≤ 3072) (ha : a ≤ 5000) : nI N - nI 6 < nI a ↔ N < a + 6 := by
  by_cases h : 6 ≤ N
  · rw [nI_sb h, nI_ltI (by omega) (by omega)]
    omega
  · refine ⟨fun _ => by omega, fun _ => ?_⟩
    have h0 : (0 : Int32) ≤ nI a := nI_pos' (by omega)
    have h5 : N = 0 ∨ N = 1 ∨ N = 2 ∨ N = 3 ∨ N = 4 ∨ N = 5 := by omega
    rcases h5 with rfl | rfl | rfl | rfl | rfl | rfl
    · exact Int32.lt_of_lt_of_le (by decide : nI 0 - nI 6 < 0) h0
    · exact Int32.lt_of_lt_of_le (by decide : nI 1 - nI 6 < 0) h0
    · exact Int32.lt_of_lt_of_le (by decide : nI 2 - nI 6 < 0) h0
    · exact Int32.lt_of_lt_of_le (by decide : nI 3 - nI 6 < 0) h0
    · exact Int32.lt_of_lt_of_le (by decide : nI 4 - nI 6 < 0) h0
    · exact Int32.lt_of_lt_of_le (by decide : nI 5 - nI 6 < 0) h0
theorem and31 (x : Int32) : ∃ c : Nat, c < 32 ∧ x &&& nI 31 = nI c := pk_andE x 5 (by decide)
