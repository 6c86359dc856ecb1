/-! the loop does what a run is -/
def EnM (d k p : Nat) (Z : Zt) (l2 l3 : Int32) (v : Vv) (I0 : Nat → Nat → Int32) : Prop := (p = 58 ∨ p = 60) ∧ shn 68 p = (1, 92) ∧ MRep I0 p 0 v ∧ VOk v
theorem EnM.m {d k p : Nat} {Z : Zt} {l2 l3 : Int32} {v : Vv} {I0 : Nat → Nat → Int32} {I : Nat → Nat → Int32} (h : EnM d k p Z l2 l3 v I0) (hF : FrR I0 I) : MRep I p 0 v := by
  have := h.1
  exact h.2.2.1.eq (hF.1 p (by omega) (by omega) (by omega) (by omega))
def Kn (d k p : Nat) (Z : Zt) (l2 l3 : Int32) (v : Vv) (I0 : Nat → Nat → Int32) (c : Res) (U : Nat) (go : Nat → Nat) (H : Nat → Int32) : Prop := (∀ J s f r u5 u6, c = some (s, f, r) → RS v J s U go → J 52 25 = nI f → J 52 26 = (if f = 0 then r else nI 0) → (∀ i, i < 7 * U → J 64 i = H i) → FrR I0 J → f < 10 → LH (d + 5) k p Z l2 l3 J (U + 1) u5 u6) ∧ (c = none → ∀ J had u5 u6, FrR I0 J → J 52 29 = nI 1 → LH (d + 5) k p Z l2 l3 J had u5 u6)
def Fre (I : Nat → Nat → Int32) (U w m x mt a : Nat) : Prop := Ent I U (nI w) (nI m) (nI x) (nI mt) (nI a) ∧ I 64 (7 * U + 5) = -1 ∧ I 64 (7 * U + 6) = nI x
def aftF (kd num : Nat) (r : Rs × Nat × Int32) : Res := if kd = 1 ∨ (kd = 2 ∧ r.2.1 = 0) ∨ (kd = 3 ∧ ¬ r.2.1 = 0) then (emF num r.1).bind (fun s2 => some (s2, r.2)) else some r
theorem advF_n {kd num : Nat} {inner : Rs → Res} {s : Rs} (h4 : ¬ kd = 4) (h5 : ¬ kd = 5) : advF kd num inner s = (inner s).bind (aftF kd num) := by
  unfold advF aftF; rw [if_neg h4, if_neg h5]
theorem advF_5 {num : Nat} {inner : Rs → Res} {s : Rs} : advF 5 num inner s = (emF num s).bind inner := by
  unfold advF; rw [if_neg (by decide), if_pos rfl]
theorem advF_4 {num : Nat} {inner : Rs → Res} {s : Rs} : advF 4 num inner s = (emF num s).bind (fun s1 => arF num inner (num % 3) s1 (nI num)) := by
  unfold advF; rw [if_pos rfl]
theorem aftF_5 {num : Nat} {r : Rs × Nat × Int32} : aftF 5 num r = some r := by
  unfold aftF; rw [if_neg (by omega)]

set_option maxRecDepth 100000 in
set_option maxHeartbeats 400000 in
theorem sim_bh1 {d k p : Nat} {Z : Zt} {l2 l3 : Int32} {v : Vv} {I0 : Nat → Nat → Int32} {U m x mt a j f : Nat} {go : Nat → Nat} {s : Rs} {rr : Int32} {J : Nat → Nat → Int32} {H : Nat → Int32} {u5 u6 : Value} (hE : EnM d k p Z l2 l3 v I0) (ha : a < vna v) (haj : a + 1 + j = 5) (hmt : mt < 2 ^ vna v) (hmt6 : mt < 64) (hU : U < 98) (hkd : vfa v a 5 = 1) (hS : RS v J s (U + 1) go) (hEn : Ent J U (nI 1) (nI m) (nI x) (nI mt) (nI a)) (ht : J 64 (7 * U + 5) = nI 0) (hf : J 52 25 = nI f) (hr : J 52 26 = if f = 0 then rr else nI 0) (hf9 : f < 10) (hF : FrR I0 J) (hH : ∀ i, i < 7 * U → J 64 i = H i) (hK : Kn d k p Z l2 l3 v I0 (aftF 1 (vfa v a 0) (s, f, rr)) U go H) : LH (d + 5) k p Z l2 l3 J (U + 2) u5 u6 := by
  obtain ⟨hp, hsp, hM0, hV⟩ := id hE
  by_cases hf0 : f = 0
  · subst hf0
    rw [if_pos rfl] at hr
    refine l_ab1 hS.1 hS.2.2.2.2.1 hEn.1 (by omega) rfl (fun Q hQ => ?_)
    exact c_ab_bo1 hp hsp (hE.m hF) hV ha haj hmt hmt6 hU hS hEn hkd ht (by decide) hf hr (fun hc J2 hF2 h29 => hQ J2 (hK.2 (by simp [aftF, hc]) _ _ _ _ (hF.tr hF2) h29)) (fun J2 s2 he hA => hQ J2 (hK.1 J2 s2 0 rr _ _ (by simp [aftF, he]) hA.1 hA.2.1 (by rw [if_pos rfl]; exact hA.2.2.1) (fun i hi => (hA.2.2.2.1 i hi).trans (hH i hi)) (hF.tr hA.2.2.2.2) (by decide)))
  · rw [if_neg hf0] at hr
    refine l_ab1 hS.1 hS.2.2.2.2.1 hEn.1 (by omega) rfl (fun Q hQ => ?_)
    exact c_ab_bf1 hp hsp (hE.m hF) hV ha haj hmt hmt6 hU hS hEn hkd ht hf (by omega) hf9 (fun hc J2 hF2 h29 => hQ J2 (hK.2 (by simp [aftF, hc, hf0]) _ _ _ _ (hF.tr hF2) h29)) (fun J2 s2 he hA => hQ J2 (hK.1 J2 s2 f rr _ _ (by simp [aftF, he, hf0]) hA.1 hA.2.1 (by rw [if_neg hf0]; exact hA.2.2.1) (fun i hi => (hA.2.2.2.1 i hi).trans (hH i hi)) (hF.tr hA.2.2.2.2) hf9))
set_option maxRecDepth 100000 in
set_option maxHeartbeats 400000 in
theorem sim_bh2 {d k p : Nat} {Z : Zt} {l2 l3 : Int32} {v : Vv} {I0 : Nat → Nat → Int32} {U m x mt a j f : Nat} {go : Nat → Nat} {s : Rs} {rr : Int32} {J : Nat → Nat → Int32} {H : Nat → Int32} {u5 u6 : Value} (hE : EnM d k p Z l2 l3 v I0) (ha : a < vna v) (haj : a + 1 + j = 5) (hmt : mt < 2 ^ vna v) (hmt6 : mt < 64) (hU : U < 98) (hkd : vfa v a 5 = 2) (hS : RS v J s (U + 1) go) (hEn : Ent J U (nI 1) (nI m) (nI x) (nI mt) (nI a)) (ht : J 64 (7 * U + 5) = nI 0) (hf : J 52 25 = nI f) (hr : J 52 26 = if f = 0 then rr else nI 0) (hf9 : f < 10) (hF : FrR I0 J) (hH : ∀ i, i < 7 * U → J 64 i = H i) (hK : Kn d k p Z l2 l3 v I0 (aftF 2 (vfa v a 0) (s, f, rr)) U go H) : LH (d + 5) k p Z l2 l3 J (U + 2) u5 u6 := by
  obtain ⟨hp, hsp, hM0, hV⟩ := id hE
  by_cases hf0 : f = 0
  · subst hf0
    rw [if_pos rfl] at hr
    refine l_ab1 hS.1 hS.2.2.2.2.1 hEn.1 (by omega) rfl (fun Q hQ => ?_)
    exact c_ab_bo2 hp hsp (hE.m hF) hV ha haj hmt hmt6 hU hS hEn hkd ht (by decide) hf hr (fun hc J2 hF2 h29 => hQ J2 (hK.2 (by simp [aftF, hc]) _ _ _ _ (hF.tr hF2) h29)) (fun J2 s2 he hA => hQ J2 (hK.1 J2 s2 0 rr _ _ (by simp [aftF, he]) hA.1 hA.2.1 (by rw [if_pos rfl]; exact hA.2.2.1) (fun i hi => (hA.2.2.2.1 i hi).trans (hH i hi)) (hF.tr hA.2.2.2.2) (by decide)))
  · rw [if_neg hf0] at hr
    refine l_ab1 hS.1 hS.2.2.2.2.1 hEn.1 (by omega) rfl (fun Q hQ => ?_)
    exact c_ab_bf2 hp hsp (hE.m hF) hV ha haj hmt hmt6 hU hS hEn hkd ht hf (by omega) hf9 (fun hc => hc.elim) (fun J2 hA => hQ J2 (hK.1 J2 s f rr _ _ (by simp [aftF, hf0]) hA.1 hA.2.1 (by rw [if_neg hf0]; exact hA.2.2.1) (fun i hi => (hA.2.2.2.1 i hi).trans (hH i hi)) (hF.tr hA.2.2.2.2) hf9))
set_option maxRecDepth 100000 in
set_option maxHeartbeats 400000 in
theorem sim_bh3 {d k p : Nat} {Z : Zt} {l2 l3 : Int32} {v : Vv} {I0 : Nat → Nat → Int32} {U m x mt a j f : Nat} {go : Nat → Nat} {s : Rs} {rr : Int32} {J : Nat → Nat → Int32} {H : Nat → Int32} {u5 u6 : Value} (hE : EnM d k p Z l2 l3 v I0) (ha : a < vna v) (haj : a + 1 + j = 5) (hmt : mt < 2 ^ vna v) (hmt6 : mt < 64) (hU : U < 98) (hkd : vfa v a 5 = 3) (hS : RS v J s (U + 1) go) (hEn : Ent J U (nI 1) (nI m) (nI x) (nI mt) (nI a)) (ht : J 64 (7 * U + 5) = nI 0) (hf : J 52 25 = nI f) (hr : J 52 26 = if f = 0 then rr else nI 0) (hf9 : f < 10) (hF : FrR I0 J) (hH : ∀ i, i < 7 * U → J 64 i = H i) (hK : Kn d k p Z l2 l3 v I0 (aftF 3 (vfa v a 0) (s, f, rr)) U go H) : LH (d + 5) k p Z l2 l3 J (U + 2) u5 u6 := by
  obtain ⟨hp, hsp, hM0, hV⟩ := id hE
  by_cases hf0 : f = 0
  · subst hf0
    rw [if_pos rfl] at hr
    refine l_ab1 hS.1 hS.2.2.2.2.1 hEn.1 (by omega) rfl (fun Q hQ => ?_)
    exact c_ab_bo3 hp hsp (hE.m hF) hV ha haj hmt hmt6 hU hS hEn hkd ht (by decide) hf hr (fun hc => hc.elim) (fun J2 hA => hQ J2 (hK.1 J2 s 0 rr _ _ (by simp [aftF]) hA.1 hA.2.1 (by rw [if_pos rfl]; exact hA.2.2.1) (fun i hi => (hA.2.2.2.1 i hi).trans (hH i hi)) (hF.tr hA.2.2.2.2) (by decide)))
  · rw [if_neg hf0] at hr
    refine l_ab1 hS.1 hS.2.2.2.2.1 hEn.1 (by omega) rfl (fun Q hQ => ?_)
    exact c_ab_bf3 hp hsp (hE.m hF) hV ha haj hmt hmt6 hU hS hEn hkd ht hf (by omega) hf9 (fun hc J2 hF2 h29 => hQ J2 (hK.2 (by simp [aftF, hc, hf0]) _ _ _ _ (hF.tr hF2) h29)) (fun J2 s2 he hA => hQ J2 (hK.1 J2 s2 f rr _ _ (by simp [aftF, he, hf0]) hA.1 hA.2.1 (by rw [if_neg hf0]; exact hA.2.2.1) (fun i hi => (hA.2.2.2.1 i hi).trans (hH i hi)) (hF.tr hA.2.2.2.2) hf9))
set_option maxRecDepth 100000 in
set_option maxHeartbeats 400000 in
theorem sim_bh5 {d k p : Nat} {Z : Zt} {l2 l3 : Int32} {v : Vv} {I0 : Nat → Nat → Int32} {U m x mt a j f : Nat} {go : Nat → Nat} {s : Rs} {rr : Int32} {J : Nat → Nat → Int32} {H : Nat → Int32} {u5 u6 : Value} (hE : EnM d k p Z l2 l3 v I0) (ha : a < vna v) (haj : a + 1 + j = 5) (hmt : mt < 2 ^ vna v) (hmt6 : mt < 64) (hU : U < 98) (hkd : vfa v a 5 = 5) (hS : RS v J s (U + 1) go) (hEn : Ent J U (nI 1) (nI m) (nI x) (nI mt) (nI a)) (ht : J 64 (7 * U + 5) = nI 0) (hf : J 52 25 = nI f) (hr : J 52 26 = if f = 0 then rr else nI 0) (hf9 : f < 10) (hF : FrR I0 J) (hH : ∀ i, i < 7 * U → J 64 i = H i) (hK : Kn d k p Z l2 l3 v I0 (aftF 5 (vfa v a 0) (s, f, rr)) U go H) : LH (d + 5) k p Z l2 l3 J (U + 2) u5 u6 := by
  obtain ⟨hp, hsp, hM0, hV⟩ := id hE
  by_cases hf0 : f = 0
  · subst hf0
    rw [if_pos rfl] at hr
    refine l_ab1 hS.1 hS.2.2.2.2.1 hEn.1 (by omega) rfl (fun Q hQ => ?_)
    exact c_ab_bo5 hp hsp (hE.m hF) hV ha haj hmt hmt6 hU hS hEn hkd ht (by decide) hf hr (fun hc => hc.elim) (fun J2 hA => hQ J2 (hK.1 J2 s 0 rr _ _ (by simp [aftF]) hA.1 hA.2.1 (by rw [if_pos rfl]; exact hA.2.2.1) (fun i hi => (hA.2.2.2.1 i hi).trans (hH i hi)) (hF.tr hA.2.2.2.2) (by decide)))
  · rw [if_neg hf0] at hr
    refine l_ab1 hS.1 hS.2.2.2.2.1 hEn.1 (by omega) rfl (fun Q hQ => ?_)
    exact c_ab_bf5 hp hsp (hE.m hF) hV ha haj hmt hmt6 hU hS hEn hkd ht hf (by omega) hf9 (fun hc => hc.elim) (fun J2 hA => hQ J2 (hK.1 J2 s f rr _ _ (by simp [aftF, hf0]) hA.1 hA.2.1 (by rw [if_neg hf0]; exact hA.2.2.1) (fun i hi => (hA.2.2.2.1 i hi).trans (hH i hi)) (hF.tr hA.2.2.2.2) hf9))
set_option maxRecDepth 100000 in
set_option maxHeartbeats 400000 in
theorem sim_adv1 {d k p : Nat} {Z : Zt} {l2 l3 : Int32} {v : Vv} {I0 : Nat → Nat → Int32} {U m x mt a j : Nat} {go : Nat → Nat} {s : Rs} {I : Nat → Nat → Int32} {H : Nat → Int32} {inner : Rs → Res} {had : Nat} {u5 u6 : Value} (hE : EnM d k p Z l2 l3 v I0) (ha : a < vna v) (haj : a + 1 + j = 5) (hmt : mt < 2 ^ vna v) (hmt6 : mt < 64) (hU : U < 98) (hin : ∀ J s, RS v J s (U + 2) go → Fre J (U + 1) (wxF mt j (a + 1)).1 m x mt (wxF mt j (a + 1)).2 → J 52 25 = nI 0 → FrR I0 J → ∀ (H : Nat → Int32) had u5 u6, (∀ i, i < 7 * (U + 1) → J 64 i = H i) → Kn d k p Z l2 l3 v I0 (inner s) (U + 1) go H → had ≤ U + 2 → LH (d + 5) k p Z l2 l3 J had u5 u6) (hkd : vfa v a 5 = 1) (hS : RS v I s (U + 1) go) (hEn : Ent I U (nI 1) (nI m) (nI x) (nI mt) (nI a)) (ht : I 64 (7 * U + 5) = -1) (h25 : I 52 25 = nI 0) (hF : FrR I0 I) (hH : ∀ i, i < 7 * U → I 64 i = H i) (hK : Kn d k p Z l2 l3 v I0 (advF 1 (vfa v a 0) inner s) U go H) (hhad : had ≤ U + 1) : LH (d + 5) k p Z l2 l3 I had u5 u6 := by
  obtain ⟨hp, hsp, hM0, hV⟩ := id hE
  refine l_ab0 hS.1 hS.2.2.2.2.1 hEn.1 (by omega) hhad (fun Q hQ => ?_)
  refine c_ab_nb1 hp hsp (hE.m hF) hV ha haj hmt hmt6 hU hS hEn hkd ht (fun hc => hc.elim) (fun J hG => hQ J ?_)
  obtain ⟨g1, g2, g3, g4, g5, g6, g7, g8, g9⟩ := hG
  refine hin J s g1 ⟨g4, g5, g6⟩ (g9.trans h25) (hF.tr g8) (J 64) _ _ _ (fun _ _ => rfl) ⟨?_, fun hc0 => hK.2 (by rw [advF_n (by decide) (by decide), hc0]; rfl)⟩ (by omega)
  intro J2 s2 f r u5 u6 hc hR2 q25 q26 hh hF2 hf9
  refine sim_bh1 hE ha haj hmt hmt6 hU hkd hR2 (g2.to (fun i hi => hh _ (by omega))) ((hh _ (by omega)).trans g3) q25 q26 hf9 hF2 (fun i hi => (hh i (by omega)).trans ((g7 i hi).trans (hH i hi))) ?_
  refine ⟨?_, fun hc0 => hK.2 (by rw [advF_n (by decide) (by decide), hc]; exact hc0)⟩
  intro J3 s3 f3 r3 u5 u6 hc3
  exact hK.1 J3 s3 f3 r3 u5 u6 (by rw [advF_n (by decide) (by decide), hc]; exact hc3)
set_option maxRecDepth 100000 in
set_option maxHeartbeats 400000 in
theorem sim_adv2 {d k p : Nat} {Z : Zt} {l2 l3 : Int32} {v : Vv} {I0 : Nat → Nat → Int32} {U m x mt a j : Nat} {go : Nat → Nat} {s : Rs} {I : Nat → Nat → Int32} {H : Nat → Int32} {inner : Rs → Res} {had : Nat} {u5 u6 : Value} (hE : EnM d k p Z l2 l3 v I0) (ha : a < vna v) (haj : a + 1 + j = 5) (hmt : mt < 2 ^ vna v) (hmt6 : mt < 64) (hU : U < 98) (hin : ∀ J s, RS v J s (U + 2) go → Fre J (U + 1) (wxF mt j (a + 1)).1 m x mt (wxF mt j (a + 1)).2 → J 52 25 = nI 0 → FrR I0 J → ∀ (H : Nat → Int32) had u5 u6, (∀ i, i < 7 * (U + 1) → J 64 i = H i) → Kn d k p Z l2 l3 v I0 (inner s) (U + 1) go H → had ≤ U + 2 → LH (d + 5) k p Z l2 l3 J had u5 u6) (hkd : vfa v a 5 = 2) (hS : RS v I s (U + 1) go) (hEn : Ent I U (nI 1) (nI m) (nI x) (nI mt) (nI a)) (ht : I 64 (7 * U + 5) = -1) (h25 : I 52 25 = nI 0) (hF : FrR I0 I) (hH : ∀ i, i < 7 * U → I 64 i = H i) (hK : Kn d k p Z l2 l3 v I0 (advF 2 (vfa v a 0) inner s) U go H) (hhad : had ≤ U + 1) : LH (d + 5) k p Z l2 l3 I had u5 u6 := by
  obtain ⟨hp, hsp, hM0, hV⟩ := id hE
  refine l_ab0 hS.1 hS.2.2.2.2.1 hEn.1 (by omega) hhad (fun Q hQ => ?_)
  refine c_ab_nb2 hp hsp (hE.m hF) hV ha haj hmt hmt6 hU hS hEn hkd ht (fun hc => hc.elim) (fun J hG => hQ J ?_)
  obtain ⟨g1, g2, g3, g4, g5, g6, g7, g8, g9⟩ := hG
  refine hin J s g1 ⟨g4, g5, g6⟩ (g9.trans h25) (hF.tr g8) (J 64) _ _ _ (fun _ _ => rfl) ⟨?_, fun hc0 => hK.2 (by rw [advF_n (by decide) (by decide), hc0]; rfl)⟩ (by omega)
  intro J2 s2 f r u5 u6 hc hR2 q25 q26 hh hF2 hf9
  refine sim_bh2 hE ha haj hmt hmt6 hU hkd hR2 (g2.to (fun i hi => hh _ (by omega))) ((hh _ (by omega)).trans g3) q25 q26 hf9 hF2 (fun i hi => (hh i (by omega)).trans ((g7 i hi).trans (hH i hi))) ?_
  refine ⟨?_, fun hc0 => hK.2 (by rw [advF_n (by decide) (by decide), hc]; exact hc0)⟩
  intro J3 s3 f3 r3 u5 u6 hc3
  exact hK.1 J3 s3 f3 r3 u5 u6 (by rw [advF_n (by decide) (by decide), hc]; exact hc3)
set_option maxRecDepth 100000 in
set_option maxHeartbeats 400000 in
theorem sim_adv3 {d k p : Nat} {Z : Zt} {l2 l3 : Int32} {v : Vv} {I0 : Nat → Nat → Int32} {U m x mt a j : Nat} {go : Nat → Nat} {s : Rs} {I : Nat → Nat → Int32} {H : Nat → Int32} {inner : Rs → Res} {had : Nat} {u5 u6 : Value} (hE : EnM d k p Z l2 l3 v I0) (ha : a < vna v) (haj : a + 1 + j = 5) (hmt : mt < 2 ^ vna v) (hmt6 : mt < 64) (hU : U < 98) (hin : ∀ J s, RS v J s (U + 2) go → Fre J (U + 1) (wxF mt j (a + 1)).1 m x mt (wxF mt j (a + 1)).2 → J 52 25 = nI 0 → FrR I0 J → ∀ (H : Nat → Int32) had u5 u6, (∀ i, i < 7 * (U + 1) → J 64 i = H i) → Kn d k p Z l2 l3 v I0 (inner s) (U + 1) go H → had ≤ U + 2 → LH (d + 5) k p Z l2 l3 J had u5 u6) (hkd : vfa v a 5 = 3) (hS : RS v I s (U + 1) go) (hEn : Ent I U (nI 1) (nI m) (nI x) (nI mt) (nI a)) (ht : I 64 (7 * U + 5) = -1) (h25 : I 52 25 = nI 0) (hF : FrR I0 I) (hH : ∀ i, i < 7 * U → I 64 i = H i) (hK : Kn d k p Z l2 l3 v I0 (advF 3 (vfa v a 0) inner s) U go H) (hhad : had ≤ U + 1) : LH (d + 5) k p Z l2 l3 I had u5 u6 := by
  obtain ⟨hp, hsp, hM0, hV⟩ := id hE
  refine l_ab0 hS.1 hS.2.2.2.2.1 hEn.1 (by omega) hhad (fun Q hQ => ?_)
  refine c_ab_nb3 hp hsp (hE.m hF) hV ha haj hmt hmt6 hU hS hEn hkd ht (fun hc => hc.elim) (fun J hG => hQ J ?_)
  obtain ⟨g1, g2, g3, g4, g5, g6, g7, g8, g9⟩ := hG
  refine hin J s g1 ⟨g4, g5, g6⟩ (g9.trans h25) (hF.tr g8) (J 64) _ _ _ (fun _ _ => rfl) ⟨?_, fun hc0 => hK.2 (by rw [advF_n (by decide) (by decide), hc0]; rfl)⟩ (by omega)
  intro J2 s2 f r u5 u6 hc hR2 q25 q26 hh hF2 hf9
  refine sim_bh3 hE ha haj hmt hmt6 hU hkd hR2 (g2.to (fun i hi => hh _ (by omega))) ((hh _ (by omega)).trans g3) q25 q26 hf9 hF2 (fun i hi => (hh i (by omega)).trans ((g7 i hi).trans (hH i hi))) ?_
  refine ⟨?_, fun hc0 => hK.2 (by rw [advF_n (by decide) (by decide), hc]; exact hc0)⟩
  intro J3 s3 f3 r3 u5 u6 hc3
  exact hK.1 J3 s3 f3 r3 u5 u6 (by rw [advF_n (by decide) (by decide), hc]; exact hc3)
set_option maxRecDepth 100000 in
set_option maxHeartbeats 400000 in
theorem sim_adv5 {d k p : Nat} {Z : Zt} {l2 l3 : Int32} {v : Vv} {I0 : Nat → Nat → Int32} {U m x mt a j : Nat} {go : Nat → Nat} {s : Rs} {I : Nat → Nat → Int32} {H : Nat → Int32} {inner : Rs → Res} {had : Nat} {u5 u6 : Value} (hE : EnM d k p Z l2 l3 v I0) (ha : a < vna v) (haj : a + 1 + j = 5) (hmt : mt < 2 ^ vna v) (hmt6 : mt < 64) (hU : U < 98) (hin : ∀ J s, RS v J s (U + 2) go → Fre J (U + 1) (wxF mt j (a + 1)).1 m x mt (wxF mt j (a + 1)).2 → J 52 25 = nI 0 → FrR I0 J → ∀ (H : Nat → Int32) had u5 u6, (∀ i, i < 7 * (U + 1) → J 64 i = H i) → Kn d k p Z l2 l3 v I0 (inner s) (U + 1) go H → had ≤ U + 2 → LH (d + 5) k p Z l2 l3 J had u5 u6) (hkd : vfa v a 5 = 5) (hS : RS v I s (U + 1) go) (hEn : Ent I U (nI 1) (nI m) (nI x) (nI mt) (nI a)) (ht : I 64 (7 * U + 5) = -1) (h25 : I 52 25 = nI 0) (hF : FrR I0 I) (hH : ∀ i, i < 7 * U → I 64 i = H i) (hK : Kn d k p Z l2 l3 v I0 (advF 5 (vfa v a 0) inner s) U go H) (hhad : had ≤ U + 1) : LH (d + 5) k p Z l2 l3 I had u5 u6 := by
  obtain ⟨hp, hsp, hM0, hV⟩ := id hE
  refine l_ab0 hS.1 hS.2.2.2.2.1 hEn.1 (by omega) hhad (fun Q hQ => ?_)
  refine c_ab_nb5 hp hsp (hE.m hF) hV ha haj hmt hmt6 hU hS hEn hkd ht (fun hc J2 hF2 h29 => hQ J2 (hK.2 (by rw [advF_5, hc]; rfl) _ _ _ _ (hF.tr hF2) h29)) (fun J s1 he hG => hQ J ?_)
  obtain ⟨g1, g2, g3, g4, g5, g6, g7, g8, g9⟩ := hG
  refine hin J s1 g1 ⟨g4, g5, g6⟩ (g9.trans h25) (hF.tr g8) (J 64) _ _ _ (fun _ _ => rfl) ⟨?_, fun hc0 => hK.2 (by rw [advF_5, he]; exact hc0)⟩ (by omega)
  intro J2 s2 f r u5 u6 hc hR2 q25 q26 hh hF2 hf9
  refine sim_bh5 hE ha haj hmt hmt6 hU hkd hR2 (g2.to (fun i hi => hh _ (by omega))) ((hh _ (by omega)).trans g3) q25 q26 hf9 hF2 (fun i hi => (hh i (by omega)).trans ((g7 i hi).trans (hH i hi))) ?_
  refine ⟨?_, fun hc0 => hK.2 (by rw [aftF_5] at hc0; cases hc0)⟩
  intro J3 s3 f3 r3 u5 u6 hc3
  exact hK.1 J3 s3 f3 r3 u5 u6 (by rw [advF_5, he]; exact hc.trans (aftF_5.symm.trans hc3))
set_option maxRecDepth 100000 in
set_option maxHeartbeats 400000 in
theorem sim_ar {d k p : Nat} {Z : Zt} {l2 l3 : Int32} {v : Vv} {I0 : Nat → Nat → Int32} {U m x mt a j : Nat} {go : Nat → Nat} {H : Nat → Int32} {inner : Rs → Res} (hE : EnM d k p Z l2 l3 v I0) (ha : a < vna v) (haj : a + 1 + j = 5) (hmt : mt < 2 ^ vna v) (hmt6 : mt < 64) (hU : U < 98) (hin : ∀ J s, RS v J s (U + 2) go → Fre J (U + 1) (wxF mt j (a + 1)).1 m x mt (wxF mt j (a + 1)).2 → J 52 25 = nI 0 → FrR I0 J → ∀ (H : Nat → Int32) had u5 u6, (∀ i, i < 7 * (U + 1) → J 64 i = H i) → Kn d k p Z l2 l3 v I0 (inner s) (U + 1) go H → had ≤ U + 2 → LH (d + 5) k p Z l2 l3 J had u5 u6) (hkd : vfa v a 5 = 4) : ∀ (t i : Nat) (J : Nat → Nat → Int32) (s : Rs) (acc : Int32) (had : Nat) (u5 u6 : Value), i + 1 + t = vfa v a 0 % 3 → RS v J s (U + 2) go → Ent J U (nI 1) (nI m) (nI x) (nI mt) (nI a) → J 64 (7 * U + 5) = nI i → Fre J (U + 1) (wxF mt j (a + 1)).1 m x mt (wxF mt j (a + 1)).2 → J 52 25 = nI 0 → FrR I0 J → (∀ i, i < 7 * U → J 64 i = H i) → Kn d k p Z l2 l3 v I0 (arF (vfa v a 0) inner (t + 1) s acc) U go H → had ≤ U + 2 → LH (d + 5) k p Z l2 l3 J had u5 u6 := by
  obtain ⟨hp, hsp, hM0, hV⟩ := id hE
  intro t
  induction t with
  | zero =>
    intro i J s acc had u5 u6 hi hS hEn ht hFr h25 hF hH hK hhad
    refine hin J s hS hFr h25 hF (J 64) _ _ _ (fun _ _ => rfl) ⟨?_, fun hc0 => hK.2 (by rw [arF, hc0]; rfl)⟩ hhad
    intro J2 s2 f r u5 u6 hc hR2 q25 q26 hh hF2 hf9
    have hE2 : Ent J2 U (nI 1) (nI m) (nI x) (nI mt) (nI a) := hEn.to (fun i hi => hh _ (by omega))
    have ht2 : J2 64 (7 * U + 5) = nI i := (hh _ (by omega)).trans ht
    by_cases hf0 : f = 0
    · subst hf0
      rw [if_pos rfl] at q26
      refine l_ab1 hR2.1 hR2.2.2.2.2.1 hE2.1 (by omega) rfl (fun Q hQ => ?_)
      refine c_ab_bo4 hp hsp (hE.m hF2) hV ha haj hmt hmt6 hU hR2 hE2 hkd ht2 (by omega) q25 q26 (fun hc0 J3 hF3 h29 => hQ J3 (hK.2 (by simp [arF, hc, hc0.2]) _ _ _ _ (hF2.tr hF3) h29)) (fun hz => absurd hz (by omega)) (fun _ J3 s3 he hA => hQ J3 ?_)
      exact hK.1 J3 s3 0 (r + 1) _ _ (by simp [arF, hc, he]) hA.1 hA.2.1 (by rw [if_pos rfl]; exact hA.2.2.1) (fun i hi => (hA.2.2.2.1 i hi).trans ((hh i (by omega)).trans (hH i hi))) (hF2.tr hA.2.2.2.2) (by decide)
    · rw [if_neg hf0] at q26
      refine l_ab1 hR2.1 hR2.2.2.2.2.1 hE2.1 (by omega) rfl (fun Q hQ => ?_)
      refine c_ab_bf4 hp hsp (hE.m hF2) hV ha haj hmt hmt6 hU hR2 hE2 hkd ht2 q25 (by omega) hf9 (fun hc0 => hc0.elim) (fun J3 hA => hQ J3 ?_)
      exact hK.1 J3 s2 f r _ _ (by simp [arF, hc, hf0]) hA.1 hA.2.1 (by rw [if_neg hf0]; exact hA.2.2.1) (fun i hi => (hA.2.2.2.1 i hi).trans ((hh i (by omega)).trans (hH i hi))) (hF2.tr hA.2.2.2.2) hf9
  | succ t ih =>
    intro i J s acc had u5 u6 hi hS hEn ht hFr h25 hF hH hK hhad
    refine hin J s hS hFr h25 hF (J 64) _ _ _ (fun _ _ => rfl) ⟨?_, fun hc0 => hK.2 (by rw [arF, hc0]; rfl)⟩ hhad
    intro J2 s2 f r u5 u6 hc hR2 q25 q26 hh hF2 hf9
    have hE2 : Ent J2 U (nI 1) (nI m) (nI x) (nI mt) (nI a) := hEn.to (fun i hi => hh _ (by omega))
    have ht2 : J2 64 (7 * U + 5) = nI i := (hh _ (by omega)).trans ht
    by_cases hf0 : f = 0
    · subst hf0
      rw [if_pos rfl] at q26
      refine l_ab1 hR2.1 hR2.2.2.2.2.1 hE2.1 (by omega) rfl (fun Q hQ => ?_)
      refine c_ab_bo4 hp hsp (hE.m hF2) hV ha haj hmt hmt6 hU hR2 hE2 hkd ht2 (by omega) q25 q26 (fun hc0 => absurd (show i + 1 < vfa v a 0 % 3 by omega) hc0.1) (fun _ J3 hG => hQ J3 ?_) (fun hz => absurd (show i + 1 < vfa v a 0 % 3 by omega) hz)
      obtain ⟨g1, g2, g3, g4, g5, g6, g7, g8, g9⟩ := hG
      refine ih (i + 1) J3 s2 (r + 1) (U + 1) _ _ (by omega) g1 g2 g3 ⟨g4, g5, g6⟩ (g9.trans q25) (hF2.tr g8) (fun i hi => (g7 i hi).trans ((hh i (by omega)).trans (hH i hi))) ⟨?_, fun hc0 => hK.2 (by rw [arF, hc]; exact hc0)⟩ (by omega)
      intro J4 s4 f4 r4 u5 u6 hc4
      exact hK.1 J4 s4 f4 r4 u5 u6 (by rw [arF, hc]; exact hc4)
    · rw [if_neg hf0] at q26
      refine l_ab1 hR2.1 hR2.2.2.2.2.1 hE2.1 (by omega) rfl (fun Q hQ => ?_)
      refine c_ab_bf4 hp hsp (hE.m hF2) hV ha haj hmt hmt6 hU hR2 hE2 hkd ht2 q25 (by omega) hf9 (fun hc0 => hc0.elim) (fun J3 hA => hQ J3 ?_)
      exact hK.1 J3 s2 f r _ _ (by rw [arF, hc]; exact if_neg hf0) hA.1 hA.2.1 (by rw [if_neg hf0]; exact hA.2.2.1) (fun i hi => (hA.2.2.2.1 i hi).trans ((hh i (by omega)).trans (hH i hi))) (hF2.tr hA.2.2.2.2) hf9
set_option maxRecDepth 100000 in
set_option maxHeartbeats 400000 in
theorem sim_adv4 {d k p : Nat} {Z : Zt} {l2 l3 : Int32} {v : Vv} {I0 : Nat → Nat → Int32} {U m x mt a j : Nat} {go : Nat → Nat} {s : Rs} {I : Nat → Nat → Int32} {H : Nat → Int32} {inner : Rs → Res} {had : Nat} {u5 u6 : Value} (hE : EnM d k p Z l2 l3 v I0) (ha : a < vna v) (haj : a + 1 + j = 5) (hmt : mt < 2 ^ vna v) (hmt6 : mt < 64) (hU : U < 98) (hin : ∀ J s, RS v J s (U + 2) go → Fre J (U + 1) (wxF mt j (a + 1)).1 m x mt (wxF mt j (a + 1)).2 → J 52 25 = nI 0 → FrR I0 J → ∀ (H : Nat → Int32) had u5 u6, (∀ i, i < 7 * (U + 1) → J 64 i = H i) → Kn d k p Z l2 l3 v I0 (inner s) (U + 1) go H → had ≤ U + 2 → LH (d + 5) k p Z l2 l3 J had u5 u6) (hkd : vfa v a 5 = 4) (hS : RS v I s (U + 1) go) (hEn : Ent I U (nI 1) (nI m) (nI x) (nI mt) (nI a)) (ht : I 64 (7 * U + 5) = -1) (h25 : I 52 25 = nI 0) (hF : FrR I0 I) (hH : ∀ i, i < 7 * U → I 64 i = H i) (hK : Kn d k p Z l2 l3 v I0 (advF 4 (vfa v a 0) inner s) U go H) (hhad : had ≤ U + 1) : LH (d + 5) k p Z l2 l3 I had u5 u6 := by
  obtain ⟨hp, hsp, hM0, hV⟩ := id hE
  refine l_ab0 hS.1 hS.2.2.2.2.1 hEn.1 (by omega) hhad (fun Q hQ => ?_)
  refine c_ab_nb4 hp hsp (hE.m hF) hV ha haj hmt hmt6 hU hS hEn hkd ht (fun hc J2 hF2 h29 => hQ J2 (hK.2 (hc.elim (fun he => by rw [advF_4, he]; rfl) (fun ⟨hd, s1, he1, he2⟩ => by rw [advF_4, he1]; show arF _ inner (vfa v a 0 % 3) s1 _ = _; rw [hd, arF, he2]; rfl)) _ _ _ _ (hF.tr hF2) h29)) (fun hd J s1 he hG => hQ J ?_) (fun hd J s1 s2 he1 he2 hA => hQ J ?_)
  · obtain ⟨g1, g2, g3, g4, g5, g6, g7, g8, g9⟩ := hG
    obtain ⟨t, htt⟩ : ∃ t, 0 + 1 + t = vfa v a 0 % 3 := ⟨vfa v a 0 % 3 - 1, by omega⟩
    refine sim_ar hE ha haj hmt hmt6 hU hin hkd t 0 J s1 (nI (vfa v a 0)) _ _ _ htt g1 g2 g3 ⟨g4, g5, g6⟩ (g9.trans h25) (hF.tr g8) (fun i hi => (g7 i hi).trans (hH i hi)) ?_ (by omega)
    have e : t + 1 = vfa v a 0 % 3 := by omega
    rw [e]
    refine ⟨?_, fun hc0 => hK.2 (by rw [advF_4, he]; exact hc0)⟩
    intro J3 s3 f3 r3 u5 u6 hc3
    exact hK.1 J3 s3 f3 r3 u5 u6 (by rw [advF_4, he]; exact hc3)
  · exact hK.1 J s2 0 (nI (vfa v a 0)) _ _ (by rw [advF_4, he1]; show arF _ inner (vfa v a 0 % 3) s1 _ = _; rw [hd, arF, he2]; rfl) hA.1 hA.2.1 (by rw [if_pos rfl]; exact hA.2.2.1) (fun i hi => (hA.2.2.2.1 i hi).trans (hH i hi)) (hF.tr hA.2.2.2.2) (by decide)
set_option maxRecDepth 100000 in
set_option maxHeartbeats 400000 in
theorem sim_on {d k p : Nat} {Z : Zt} {l2 l3 : Int32} {v : Vv} {I0 : Nat → Nat → Int32} {UB m x mt : Nat} {go : Nat → Nat} {body : Rs → Res} (hE : EnM d k p Z l2 l3 v I0) (hmt : mt < 2 ^ vna v) (hmt6 : mt < 64) (hUB : UB < 90)
    (hB : ∀ U I s, U ≤ UB → RS v I s (U + 1) go → Ent I U (nI 2) (nI m) (nI x) (nI mt) (nI 0) → I 64 (7 * U + 6) = nI x → I 52 25 = nI 0 → FrR I0 I → ∀ (H : Nat → Int32) had u5 u6, (∀ i, i < 7 * U → I 64 i = H i) → Kn d k p Z l2 l3 v I0 (body s) U go H → had ≤ U + 1 → LH (d + 5) k p Z l2 l3 I had u5 u6) :
    ∀ (j a U : Nat) (I : Nat → Nat → Int32) (s : Rs), a + j = 5 → U + j ≤ UB → RS v I s (U + 1) go → Fre I U (wxF mt j a).1 m x mt (wxF mt j a).2 → I 52 25 = nI 0 → FrR I0 I → ∀ (H : Nat → Int32) had u5 u6, (∀ i, i < 7 * U → I 64 i = H i) → Kn d k p Z l2 l3 v I0 (onF v mt body j a s) U go H → had ≤ U + 1 → LH (d + 5) k p Z l2 l3 I had u5 u6 := by
  obtain ⟨hp, hsp, hM0, hV⟩ := id hE
  intro j
  induction j with
  | zero =>
    intro a U I s haj hUj hS hFr h25 hF H had u5 u6 hH hK hhad
    exact hB U I s (by omega) hS hFr.1 hFr.2.2 h25 hF H had u5 u6 hH hK hhad
  | succ j ih =>
    intro a U I s haj hUj hS hFr h25 hF H had u5 u6 hH hK hhad
    by_cases hb : mt.testBit a = true
    · have ew : wxF mt (j + 1) a = (1, a) := by unfold wxF; rw [nxF, if_pos hb]
      have ha : a < vna v := by
        apply Decidable.byContradiction
        intro hn
        have := Nat.testBit_lt_two_pow (Nat.lt_of_lt_of_le hmt (Nat.pow_le_pow_right (by decide) (Nat.not_lt.mp hn)))
        rw [this] at hb
        exact absurd hb (by decide)
      rw [ew] at hFr
      rw [onF, if_pos hb] at hK
      have hin : ∀ J s, RS v J s (U + 2) go → Fre J (U + 1) (wxF mt j (a + 1)).1 m x mt (wxF mt j (a + 1)).2 → J 52 25 = nI 0 → FrR I0 J → ∀ (H : Nat → Int32) had u5 u6, (∀ i, i < 7 * (U + 1) → J 64 i = H i) → Kn d k p Z l2 l3 v I0 (onF v mt body j (a + 1) s) (U + 1) go H → had ≤ U + 2 → LH (d + 5) k p Z l2 l3 J had u5 u6 :=
        fun J s a1 a2 a3 a4 H had u5 u6 a5 a6 a7 => ih (a + 1) (U + 1) J s (by omega) (by omega) a1 a2 a3 a4 H had u5 u6 a5 a6 a7
      have k5 := hV.2.2.2 a ha
      have hk : vfa v a 5 = 1 ∨ vfa v a 5 = 2 ∨ vfa v a 5 = 3 ∨ vfa v a 5 = 4 ∨ vfa v a 5 = 5 := by omega
      rcases hk with hk | hk | hk | hk | hk
      · rw [hk] at hK; exact sim_adv1 hE ha (by omega) hmt hmt6 (by omega) hin hk hS hFr.1 hFr.2.1 h25 hF hH hK hhad
      · rw [hk] at hK; exact sim_adv2 hE ha (by omega) hmt hmt6 (by omega) hin hk hS hFr.1 hFr.2.1 h25 hF hH hK hhad
      · rw [hk] at hK; exact sim_adv3 hE ha (by omega) hmt hmt6 (by omega) hin hk hS hFr.1 hFr.2.1 h25 hF hH hK hhad
      · rw [hk] at hK; exact sim_adv4 hE ha (by omega) hmt hmt6 (by omega) hin hk hS hFr.1 hFr.2.1 h25 hF hH hK hhad
      · rw [hk] at hK; exact sim_adv5 hE ha (by omega) hmt hmt6 (by omega) hin hk hS hFr.1 hFr.2.1 h25 hF hH hK hhad
    · have ew : wxF mt (j + 1) a = wxF mt j (a + 1) := by unfold wxF; rw [nxF, if_neg hb]
      rw [ew] at hFr
      rw [onF, if_neg hb] at hK
      exact ih (a + 1) U I s (by omega) (by omega) hS hFr h25 hF H had u5 u6 hH hK hhad
def EnX (d k p : Nat) (Z : Zt) (l2 l3 : Int32) (v : Vv) (I0 : Nat → Nat → Int32) (x : Nat) : Prop := ∀ (U g m : Nat) (go : Nat → Nat) (I : Nat → Nat → Int32) (s : Rs), U + 7 * x ≤ 63 → m < vnm v → g < 64 → Gof g go → (∀ z, z < 6 → go z + x ≤ 9) → RS v I (s.1, s.2.1 + 1, upC s.2.2 m) (U + 2) (upC go m) → Ent I U (nI 0) (nI m) (nI x) (nI (meantF v m x (g ||| 1 <<< m))) (nI 0) → Fre I (U + 1) (wxF (meantF v m x (g ||| 1 <<< m)) 5 0).1 m x (meantF v m x (g ||| 1 <<< m)) (wxF (meantF v m x (g ||| 1 <<< m)) 5 0).2 → ¬ 300 ≤ s.2.1 → I 52 25 = nI 0 → FrR I0 I → ∀ (H : Nat → Int32) had u5 u6, (∀ i, i < 7 * U → I 64 i = H i) → Kn d k p Z l2 l3 v I0 (enF v x m g s) U go H → had ≤ U + 2 → LH (d + 5) k p Z l2 l3 I had u5 u6

theorem bo_none {v : Vv} {x m g n i : Nat} {s : Rs} {acc : Int32} (h : (vso v m i = 0 ∧ emF (vop v m i) s = none) ∨ (vso v m i = 1 ∧ 0 < x ∧ 300 ≤ s.2.1)) : boF v x m (fun m2 s2 => enP v x m2 g s2) (n + 1) i s acc = none := by
  rcases h with ⟨h1, h2⟩ | ⟨h1, h2, h3⟩
  · rw [boF, if_pos h1, h2]; rfl
  · obtain ⟨y, rfl⟩ : ∃ y, x = y + 1 := ⟨x - 1, by omega⟩
    rw [boF, if_neg (by rw [h1]; decide), if_pos h1, if_neg (by omega)]
    have : enP v (y + 1) (vop v m i) g s = none := by
      show enF v y (vop v m i) g s = none
      cases y <;> rw [enF, enS, if_pos h3]
    rw [this]; rfl
set_option maxRecDepth 100000 in
set_option maxHeartbeats 400000 in
theorem sim_bo {d k p : Nat} {Z : Zt} {l2 l3 : Int32} {v : Vv} {I0 : Nat → Nat → Int32} {U m x mt g : Nat} {go : Nat → Nat} {H : Nat → Int32} (hE : EnM d k p Z l2 l3 v I0) (hm : m < vnm v) (hUx : U + 1 + 7 * x ≤ 70) (hg6 : g < 64) (hg : Gof g go) (hgo : ∀ z, z < 6 → go z + x ≤ 10) (hC0 : ∀ y, x = y + 1 → EnX d k p Z l2 l3 v I0 y) : ∀ (n i : Nat) (I : Nat → Nat → Int32) (s : Rs) (acc : Int32), i + n = vln v m → RS v I s (U + 1) go → Ent I U (nI 2) (nI m) (nI x) (nI mt) (nI i) → FrR I0 I → (∀ i, i < 7 * U → I 64 i = H i) → I 52 25 = nI 0 → Kn d k p Z l2 l3 v I0 (boF v x m (fun m2 s2 => enP v x m2 g s2) n i s acc) U go H → (I 64 (7 * U + 6) = acc → ∀ had u5 u6, had ≤ U + 1 → LH (d + 5) k p Z l2 l3 I had u5 u6) ∧ (∀ a0 r, I 64 (7 * U + 6) = a0 → I 52 26 = r → acc = a0 + r → ∀ u5 u6, LH (d + 5) k p Z l2 l3 I (U + 2) u5 u6) := by
  obtain ⟨hp, hsp, hM0, hV⟩ := id hE
  intro n
  induction n with
  | zero =>
    intro i I s acc hi hS hEn hF hH h25 hK
    constructor
    · intro hsum had u5 u6 hhad
      refine l_bo0 hS.1 hS.2.2.2.2.1 hEn.1 (by omega) hhad (fun Q hQ => ?_)
      refine c_bo0 (g := g) hp hsp (hE.m hF) hV hm (by omega) (by omega) (by omega) hg (fun z hz => by have := hgo z hz; omega) hS hEn hsum (fun hc => absurd hc.1 (by omega)) (fun hz J hA => hQ J ?_) (fun hz hso J s1 he hG => hQ J ?_) (fun hz hso J hA => hQ J ?_) (fun hz hso hx0 J hG => hQ J ?_) (fun hz hso hx0 h3 J hC => hQ J ?_)
      · exact hK.1 J s 0 (acc) _ _ rfl hA.1 hA.2.1 (by rw [if_pos rfl]; exact hA.2.2.1) (fun i hi => (hA.2.2.2.1 i hi).trans (hH i hi)) (hF.tr hA.2.2.2.2) (by decide)
      · exact absurd hz (by omega)
      · exact absurd hz (by omega)
      · exact absurd hz (by omega)
      · exact absurd hz (by omega)
    · intro a0 r hsum hr hacc u5 u6
      subst hacc
      refine l_bo1 hS.1 hS.2.2.2.2.1 hEn.1 (by omega) rfl (fun Q hQ => ?_)
      refine c_bo1 (g := g) hp hsp (hE.m hF) hV hm (by omega) (by omega) (by omega) hg (fun z hz => by have := hgo z hz; omega) hS hEn hsum h25 hr (fun hc => absurd hc.1 (by omega)) (fun hz J hA => hQ J ?_) (fun hz hso J s1 he hG => hQ J ?_) (fun hz hso J hA => hQ J ?_) (fun hz hso hx0 J hG => hQ J ?_) (fun hz hso hx0 h3 J hC => hQ J ?_)
      · exact hK.1 J s 0 (a0 + r) _ _ rfl hA.1 hA.2.1 (by rw [if_pos rfl]; exact hA.2.2.1) (fun i hi => (hA.2.2.2.1 i hi).trans (hH i hi)) (hF.tr hA.2.2.2.2) (by decide)
      · exact absurd hz (by omega)
      · exact absurd hz (by omega)
      · exact absurd hz (by omega)
      · exact absurd hz (by omega)
  | succ n ih =>
    intro i I s acc hi hS hEn hF hH h25 hK
    constructor
    · intro hsum had u5 u6 hhad
      refine l_bo0 hS.1 hS.2.2.2.2.1 hEn.1 (by omega) hhad (fun Q hQ => ?_)
      refine c_bo0 (g := g) hp hsp (hE.m hF) hV hm (by omega) (by omega) (by omega) hg (fun z hz => by have := hgo z hz; omega) hS hEn hsum (fun hc J2 hF2 h29 => hQ J2 (hK.2 (bo_none hc.2) _ _ _ _ (hF.tr hF2) h29)) (fun hz J hA => hQ J ?_) (fun hz hso J s1 he hG => hQ J ?_) (fun hz hso J hA => hQ J ?_) (fun hz hso hx0 J hG => hQ J ?_) (fun hz hso hx0 h3 J hC => hQ J ?_)
      · exact absurd hz (by omega)
      · obtain ⟨g1, g2, g3, g4, g5, g6⟩ := hG
        refine (ih (i + 1) J s1 (acc) (by omega) g1 g2 (hF.tr g5) (fun i hi => (g4 i hi).trans (hH i hi)) (g6.trans h25) ⟨?_, fun hc0 => hK.2 (by rw [boF, if_pos hso, he]; exact hc0)⟩).1 g3 _ _ _ (by omega)
        intro J3 s3 f3 r3 u5 u6 hc3
        exact hK.1 J3 s3 f3 r3 u5 u6 (by rw [boF, if_pos hso, he]; exact hc3)
      · have hok := ((hV.2.2.1 m hm).2.2 i hz).2.2.2 hso
        exact hK.1 J s (vop v m i) (acc) _ _ (by rw [boF, if_neg (by rw [hso]; decide), if_neg (by rw [hso]; decide)]) hA.1 hA.2.1 (by rw [if_neg (by omega)]; exact hA.2.2.1) (fun i hi => (hA.2.2.2.1 i hi).trans (hH i hi)) (hF.tr hA.2.2.2.2) hok.2
      · obtain ⟨g1, g2, g3, g4, g5, g6⟩ := hG
        refine (ih (i + 1) J s (acc) (by omega) g1 g2 (hF.tr g5) (fun i hi => (g4 i hi).trans (hH i hi)) (g6.trans h25) ⟨?_, fun hc0 => hK.2 (by rw [boF, if_neg (by rw [hso]; decide), if_pos hso, if_pos hx0]; exact hc0)⟩).1 g3 _ _ _ (by omega)
        intro J3 s3 f3 r3 u5 u6 hc3
        exact hK.1 J3 s3 f3 r3 u5 u6 (by rw [boF, if_neg (by rw [hso]; decide), if_pos hso, if_pos hx0]; exact hc3)
      · obtain ⟨g1, g2, g3, g4, g5, g6, g7, g8, g9, g10⟩ := hC
        have hm2 := ((hV.2.2.1 m hm).2.2 i hz).2.2.1 hso
        obtain ⟨y, rfl⟩ : ∃ y, x = y + 1 := ⟨x - 1, by omega⟩
        rw [Nat.add_sub_cancel] at g4 g5 g7
        refine hC0 y rfl (U + 1) g (vop v m i) go J s (by omega) hm2 hg6 hg (fun z hz => by have := hgo z hz; omega) g1 g4 ⟨g5, g6, g7⟩ h3 (g10.trans h25) (hF.tr g9) (J 64) _ _ _ (fun _ _ => rfl) ⟨?_, fun hc0 => hK.2 (by rw [boF, if_neg (by rw [hso]; decide), if_pos hso, if_neg (by omega)]; show (enP v (y + 1) (vop v m i) g s).bind _ = _; rw [show enP v (y + 1) (vop v m i) g s = _ from hc0]; rfl)⟩ (by omega)
        intro J2 s2 f rc u5 u6 hc hR2 q25 q26 hh hF2 hf9
        have hE2 : Ent J2 U (nI 2) (nI m) (nI (y + 1)) (nI mt) (nI (i + 1)) := g2.to (fun i hi => hh _ (by omega))
        have hs2 := (hh (7 * U + 6) (by omega)).trans g3
        have hH2 : ∀ i, i < 7 * U → J2 64 i = H i := fun i hi => (hh i (by omega)).trans ((g8 i hi).trans (hH i hi))
        by_cases hf0 : f = 0
        · subst hf0
          rw [if_pos rfl] at q26
          refine (ih (i + 1) J2 s2 (acc + rc) (by omega) hR2 hE2 hF2 hH2 q25 ⟨?_, fun hc0 => hK.2 (by rw [boF, if_neg (by rw [hso]; decide), if_pos hso, if_neg (by omega)]; show (enP v (y + 1) (vop v m i) g s).bind _ = _; rw [show enP v (y + 1) (vop v m i) g s = _ from hc]; exact hc0)⟩).2 _ _ hs2 q26 rfl _ _
          intro J3 s3 f3 r3 u5 u6 hc3
          exact hK.1 J3 s3 f3 r3 u5 u6 (by rw [boF, if_neg (by rw [hso]; decide), if_pos hso, if_neg (by omega)]; show (enP v (y + 1) (vop v m i) g s).bind _ = _; rw [show enP v (y + 1) (vop v m i) g s = _ from hc]; exact hc3)
        · refine l_bo1 hR2.1 hR2.2.2.2.2.1 hE2.1 (by omega) rfl (fun Q hQ => c_bo_bf hR2 q25 (by omega) hf9 (fun J3 hA => hQ J3 ?_))
          refine hK.1 J3 s2 f rc _ _ ?_ hA.1 hA.2.1 (by rw [if_neg hf0]; exact hA.2.2.1) (fun i hi => (hA.2.2.2.1 i hi).trans (hH2 i hi)) (hF2.tr hA.2.2.2.2) hf9
          rw [boF, if_neg (by rw [hso]; decide), if_pos hso, if_neg (by omega)]
          show (enP v (y + 1) (vop v m i) g s).bind _ = _
          rw [show enP v (y + 1) (vop v m i) g s = _ from hc]
          exact if_neg hf0
    · intro a0 r hsum hr hacc u5 u6
      subst hacc
      refine l_bo1 hS.1 hS.2.2.2.2.1 hEn.1 (by omega) rfl (fun Q hQ => ?_)
      refine c_bo1 (g := g) hp hsp (hE.m hF) hV hm (by omega) (by omega) (by omega) hg (fun z hz => by have := hgo z hz; omega) hS hEn hsum h25 hr (fun hc J2 hF2 h29 => hQ J2 (hK.2 (bo_none hc.2) _ _ _ _ (hF.tr hF2) h29)) (fun hz J hA => hQ J ?_) (fun hz hso J s1 he hG => hQ J ?_) (fun hz hso J hA => hQ J ?_) (fun hz hso hx0 J hG => hQ J ?_) (fun hz hso hx0 h3 J hC => hQ J ?_)
      · exact absurd hz (by omega)
      · obtain ⟨g1, g2, g3, g4, g5, g6⟩ := hG
        refine (ih (i + 1) J s1 (a0 + r) (by omega) g1 g2 (hF.tr g5) (fun i hi => (g4 i hi).trans (hH i hi)) (g6.trans h25) ⟨?_, fun hc0 => hK.2 (by rw [boF, if_pos hso, he]; exact hc0)⟩).1 g3 _ _ _ (by omega)
        intro J3 s3 f3 r3 u5 u6 hc3
        exact hK.1 J3 s3 f3 r3 u5 u6 (by rw [boF, if_pos hso, he]; exact hc3)
      · have hok := ((hV.2.2.1 m hm).2.2 i hz).2.2.2 hso
        exact hK.1 J s (vop v m i) (a0 + r) _ _ (by rw [boF, if_neg (by rw [hso]; decide), if_neg (by rw [hso]; decide)]) hA.1 hA.2.1 (by rw [if_neg (by omega)]; exact hA.2.2.1) (fun i hi => (hA.2.2.2.1 i hi).trans (hH i hi)) (hF.tr hA.2.2.2.2) hok.2
      · obtain ⟨g1, g2, g3, g4, g5, g6⟩ := hG
        refine (ih (i + 1) J s (a0 + r) (by omega) g1 g2 (hF.tr g5) (fun i hi => (g4 i hi).trans (hH i hi)) (g6.trans h25) ⟨?_, fun hc0 => hK.2 (by rw [boF, if_neg (by rw [hso]; decide), if_pos hso, if_pos hx0]; exact hc0)⟩).1 g3 _ _ _ (by omega)
        intro J3 s3 f3 r3 u5 u6 hc3
        exact hK.1 J3 s3 f3 r3 u5 u6 (by rw [boF, if_neg (by rw [hso]; decide), if_pos hso, if_pos hx0]; exact hc3)
      · obtain ⟨g1, g2, g3, g4, g5, g6, g7, g8, g9, g10⟩ := hC
        have hm2 := ((hV.2.2.1 m hm).2.2 i hz).2.2.1 hso
        obtain ⟨y, rfl⟩ : ∃ y, x = y + 1 := ⟨x - 1, by omega⟩
        rw [Nat.add_sub_cancel] at g4 g5 g7
        refine hC0 y rfl (U + 1) g (vop v m i) go J s (by omega) hm2 hg6 hg (fun z hz => by have := hgo z hz; omega) g1 g4 ⟨g5, g6, g7⟩ h3 (g10.trans h25) (hF.tr g9) (J 64) _ _ _ (fun _ _ => rfl) ⟨?_, fun hc0 => hK.2 (by rw [boF, if_neg (by rw [hso]; decide), if_pos hso, if_neg (by omega)]; show (enP v (y + 1) (vop v m i) g s).bind _ = _; rw [show enP v (y + 1) (vop v m i) g s = _ from hc0]; rfl)⟩ (by omega)
        intro J2 s2 f rc u5 u6 hc hR2 q25 q26 hh hF2 hf9
        have hE2 : Ent J2 U (nI 2) (nI m) (nI (y + 1)) (nI mt) (nI (i + 1)) := g2.to (fun i hi => hh _ (by omega))
        have hs2 := (hh (7 * U + 6) (by omega)).trans g3
        have hH2 : ∀ i, i < 7 * U → J2 64 i = H i := fun i hi => (hh i (by omega)).trans ((g8 i hi).trans (hH i hi))
        by_cases hf0 : f = 0
        · subst hf0
          rw [if_pos rfl] at q26
          refine (ih (i + 1) J2 s2 ((a0 + r) + rc) (by omega) hR2 hE2 hF2 hH2 q25 ⟨?_, fun hc0 => hK.2 (by rw [boF, if_neg (by rw [hso]; decide), if_pos hso, if_neg (by omega)]; show (enP v (y + 1) (vop v m i) g s).bind _ = _; rw [show enP v (y + 1) (vop v m i) g s = _ from hc]; exact hc0)⟩).2 _ _ hs2 q26 rfl _ _
          intro J3 s3 f3 r3 u5 u6 hc3
          exact hK.1 J3 s3 f3 r3 u5 u6 (by rw [boF, if_neg (by rw [hso]; decide), if_pos hso, if_neg (by omega)]; show (enP v (y + 1) (vop v m i) g s).bind _ = _; rw [show enP v (y + 1) (vop v m i) g s = _ from hc]; exact hc3)
        · refine l_bo1 hR2.1 hR2.2.2.2.2.1 hE2.1 (by omega) rfl (fun Q hQ => c_bo_bf hR2 q25 (by omega) hf9 (fun J3 hA => hQ J3 ?_))
          refine hK.1 J3 s2 f rc _ _ ?_ hA.1 hA.2.1 (by rw [if_neg hf0]; exact hA.2.2.1) (fun i hi => (hA.2.2.2.1 i hi).trans (hH2 i hi)) (hF2.tr hA.2.2.2.2) hf9
          rw [boF, if_neg (by rw [hso]; decide), if_pos hso, if_neg (by omega)]
          show (enP v (y + 1) (vop v m i) g s).bind _ = _
          rw [show enP v (y + 1) (vop v m i) g s = _ from hc]
          exact if_neg hf0
theorem g_up {g m : Nat} (hg : g < 64) (hm : m < 6) : g ||| 1 <<< m < 64 := Nat.or_lt_two_pow (n := 6) hg (sh_lt m hm)
set_option maxRecDepth 100000 in
set_option maxHeartbeats 400000 in
theorem sim_en {d k p : Nat} {Z : Zt} {l2 l3 : Int32} {v : Vv} {I0 : Nat → Nat → Int32} (hE : EnM d k p Z l2 l3 v I0) : ∀ x, EnX d k p Z l2 l3 v I0 x := by
  obtain ⟨hp, hsp, hM0, hV⟩ := id hE
  intro x
  induction x with
  | zero =>
    intro U g m go I s hUx hm hg6 hg hgo hS hEn hFr h3 h25 hF H had u5 u6 hH hK hhad
    have hm6 : m < 6 := Nat.lt_of_lt_of_le hm hV.1
    have hmt : meantF v m (0) (g ||| 1 <<< m) < 2 ^ vna v := orN_lt (n := vna v) _ _ (fun i hi => by unfold mbit; split; (· exact sh_n _ (by have := hV.2.1; omega) _ hi); (· exact Nat.two_pow_pos _))
    have hmt6 : meantF v m (0) (g ||| 1 <<< m) < 64 := Nat.lt_trans (meantF_lt hV) (by decide)
    refine sim_on (UB := U + 6) (body := bo v (0) m (g ||| 1 <<< m)) hE hmt hmt6 (by omega) (fun U2 I2 s2 hU2 hS2 hE2 hs2 q25 hF2 H2 had2 w5 w6 hH2 hK2 hhad2 => ?_) 5 0 (U + 1) I _ rfl (by omega) hS hFr h25 hF (I 64) had u5 u6 (fun _ _ => rfl) ⟨?_, fun hc0 => hK.2 (by rw [enF, enS, if_neg h3]; exact hc0)⟩ hhad
    · exact (sim_bo hE hm (by omega) (g_up hg6 hm6) hg.up (fun z hz => by have h1 := hgo z hz; have h2 := hgo m hm6; unfold upC; split <;> omega) (fun y hy => absurd hy (by omega)) (vln v m) 0 I2 s2 (nI (0)) (Nat.zero_add _) hS2 hE2 hF2 hH2 q25 hK2).1 hs2 had2 w5 w6 hhad2
    · intro J s2 f r u5 u6 hc hR2 q25 q26 hh hF2 hf9
      have hof : J 64 (7 * U + 1) = nI m := (hh _ (by omega)).trans hEn.2.1
      have h65 : J 65 m = nI (go m + 1) := by rw [hR2.2.2.2.2.2.2.2.2 m hm6]; simp [upC]
      refine l_call hR2.1 hR2.2.2.2.2.1 ((hh _ (by omega)).trans hEn.1) hof hm6 (by omega) (fun u5 u6 => ?_)
      rw [h65, show nI (go m + 1) - nI 1 = nI (go m) from nI_pred _]
      refine hK.1 _ s2 f r _ _ ?_ ?_ ?_ ?_ ?_ ?_ hf9
      · rw [enF, enS, if_neg h3]
        exact hc
      · obtain ⟨r1, r2, r3, r4, r5, r6, r7, r8, r9⟩ := hR2
        have f1 : ∀ j, j ≠ 21 → j ≠ 25 → j ≠ 26 → enW (uI J 65 m (nI (go m))) U (J 52 25) (J 52 26) 52 j = J 52 j := fun j a b c => by rw [enW_f a b c, uI_ne (by decide)]
        refine ⟨by unfold enW; rw [uI_n2 (by decide), uI_n2 (by decide), uI_eq], (f1 24 (by decide) (by decide) (by decide)).trans r2, (f1 27 (by decide) (by decide) (by decide)).trans r3, (f1 28 (by decide) (by decide) (by decide)).trans r4, (f1 29 (by decide) (by decide) (by decide)).trans r5, fun j hj => ?_, r7, r8, fun z hz => ?_⟩
        · rw [enW_ne (by decide), uI_ne (by decide)]; exact r6 j hj
        · rw [enW_ne (by decide)]
          by_cases e : z = m
          · subst e; rw [uI_eq]
          · rw [uI_n2 e, r9 z hz]; simp [upC, e]
      · unfold enW; rw [uI_n2 (by decide), uI_eq, q25]
      · unfold enW; rw [uI_eq, q26]
      · intro i hi
        rw [enW_ne (by decide), uI_ne (by decide), hh i (by omega), hH i hi]
      · exact FrR.tr (FrR.tr hF2 (FrR.u (Or.inr (Or.inl rfl)))) enW_fr
  | succ x ih =>
    intro U g m go I s hUx hm hg6 hg hgo hS hEn hFr h3 h25 hF H had u5 u6 hH hK hhad
    have hm6 : m < 6 := Nat.lt_of_lt_of_le hm hV.1
    have hmt : meantF v m (x + 1) (g ||| 1 <<< m) < 2 ^ vna v := orN_lt (n := vna v) _ _ (fun i hi => by unfold mbit; split; (· exact sh_n _ (by have := hV.2.1; omega) _ hi); (· exact Nat.two_pow_pos _))
    have hmt6 : meantF v m (x + 1) (g ||| 1 <<< m) < 64 := Nat.lt_trans (meantF_lt hV) (by decide)
    refine sim_on (UB := U + 6) (body := bo v (x + 1) m (g ||| 1 <<< m)) hE hmt hmt6 (by omega) (fun U2 I2 s2 hU2 hS2 hE2 hs2 q25 hF2 H2 had2 w5 w6 hH2 hK2 hhad2 => ?_) 5 0 (U + 1) I _ rfl (by omega) hS hFr h25 hF (I 64) had u5 u6 (fun _ _ => rfl) ⟨?_, fun hc0 => hK.2 (by rw [enF, enS, if_neg h3]; exact hc0)⟩ hhad
    · exact (sim_bo hE hm (by omega) (g_up hg6 hm6) hg.up (fun z hz => by have h1 := hgo z hz; have h2 := hgo m hm6; unfold upC; split <;> omega) (fun y hy => by have : y = x := (by omega); subst this; exact ih) (vln v m) 0 I2 s2 (nI (x + 1)) (Nat.zero_add _) hS2 hE2 hF2 hH2 q25 hK2).1 hs2 had2 w5 w6 hhad2
    · intro J s2 f r u5 u6 hc hR2 q25 q26 hh hF2 hf9
      have hof : J 64 (7 * U + 1) = nI m := (hh _ (by omega)).trans hEn.2.1
      have h65 : J 65 m = nI (go m + 1) := by rw [hR2.2.2.2.2.2.2.2.2 m hm6]; simp [upC]
      refine l_call hR2.1 hR2.2.2.2.2.1 ((hh _ (by omega)).trans hEn.1) hof hm6 (by omega) (fun u5 u6 => ?_)
      rw [h65, show nI (go m + 1) - nI 1 = nI (go m) from nI_pred _]
      refine hK.1 _ s2 f r _ _ ?_ ?_ ?_ ?_ ?_ ?_ hf9
      · rw [enF, enS, if_neg h3]
        exact hc
      · obtain ⟨r1, r2, r3, r4, r5, r6, r7, r8, r9⟩ := hR2
        have f1 : ∀ j, j ≠ 21 → j ≠ 25 → j ≠ 26 → enW (uI J 65 m (nI (go m))) U (J 52 25) (J 52 26) 52 j = J 52 j := fun j a b c => by rw [enW_f a b c, uI_ne (by decide)]
        refine ⟨by unfold enW; rw [uI_n2 (by decide), uI_n2 (by decide), uI_eq], (f1 24 (by decide) (by decide) (by decide)).trans r2, (f1 27 (by decide) (by decide) (by decide)).trans r3, (f1 28 (by decide) (by decide) (by decide)).trans r4, (f1 29 (by decide) (by decide) (by decide)).trans r5, fun j hj => ?_, r7, r8, fun z hz => ?_⟩
        · rw [enW_ne (by decide), uI_ne (by decide)]; exact r6 j hj
        · rw [enW_ne (by decide)]
          by_cases e : z = m
          · subst e; rw [uI_eq]
          · rw [uI_n2 e, r9 z hz]; simp [upC, e]
      · unfold enW; rw [uI_n2 (by decide), uI_eq, q25]
      · unfold enW; rw [uI_eq, q26]
      · intro i hi
        rw [enW_ne (by decide), uI_ne (by decide), hh i (by omega), hH i hi]
      · exact FrR.tr (FrR.tr hF2 (FrR.u (Or.inr (Or.inl rfl)))) enW_fr
