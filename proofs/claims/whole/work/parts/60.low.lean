theorem low8 (v : Int32) : v <<< (nI 24 &&& 31) >>> (nI 24 &&& 31) = v.toInt8.toInt32 := by
  apply Int32.toBitVec_inj.mp
  show (v.toBitVec <<< (24 : BitVec 32)).sshiftRight' (24 : BitVec 32) = (v.toBitVec.signExtend 8).signExtend 32
  apply BitVec.eq_of_getLsbD_eq
  intro i hi
  have e : (24 : BitVec 32).toNat = 24 := rfl
  simp only [BitVec.sshiftRight', BitVec.shiftLeft_eq', e, BitVec.getLsbD_sshiftRight, BitVec.getLsbD_shiftLeft, BitVec.getLsbD_signExtend, BitVec.msb_eq_getLsbD_last]
  by_cases h8 : i < 8
  · have h1 : 24 + i < 32 := by omega
    have h2 : ¬ 32 ≤ i := by omega
    have h4 : ¬ 24 + i < 24 := by omega
    simp [h1, h8, hi, Nat.add_sub_cancel_left, h2, h4]
  · have h1 : ¬ 24 + i < 32 := by omega
    simp [h1, h8, hi]
theorem low16 (v : Int32) : v <<< (nI 16 &&& 31) >>> (nI 16 &&& 31) = v.toInt16.toInt32 := by
  apply Int32.toBitVec_inj.mp
  show (v.toBitVec <<< (16 : BitVec 32)).sshiftRight' (16 : BitVec 32) = (v.toBitVec.signExtend 16).signExtend 32
  apply BitVec.eq_of_getLsbD_eq
  intro i hi
  have e : (16 : BitVec 32).toNat = 16 := rfl
  simp only [BitVec.sshiftRight', BitVec.shiftLeft_eq', e, BitVec.getLsbD_sshiftRight, BitVec.getLsbD_shiftLeft, BitVec.getLsbD_signExtend, BitVec.msb_eq_getLsbD_last]
  by_cases h8 : i < 16
  · have h1 : 16 + i < 32 := by omega
    have h2 : ¬ 32 ≤ i := by omega
    have h4 : ¬ 16 + i < 16 := by omega
    simp [h1, h8, hi, Nat.add_sub_cancel_left, h2, h4]
  · have h1 : ¬ 16 + i < 32 := by omega
    simp [h1, h8, hi]
