/-! 45: cuts to eight and sixteen bits -/
theorem gb_shl (n : Nat) (hn : n < 32) (x : Int32) {i : Nat} (hi : i < 32) : gb (x <<< (nI n &&& 31)) i = (decide (n ≤ i) && gb x (i - n)) := by
  unfold gb
  rw [Int32.toBitVec_shiftLeft, BitVec.shiftLeft_eq', gs_l n hn, BitVec.getLsbD_shiftLeft]
  simp only [hi, decide_true, Bool.true_and]
  by_cases h : i < n
  · rw [decide_eq_true h, decide_eq_false (by omega)]; rfl
  · rw [decide_eq_false h, decide_eq_true (by omega)]; rfl
theorem gb_i8 (x : Int32) {i : Nat} (hi : i < 32) : gb x.toInt8.toInt32 i = gb x (if i < 8 then i else 7) := by
  unfold gb
  show (BitVec.signExtend 32 (BitVec.signExtend 8 x.toBitVec)).getLsbD i = _
  rw [BitVec.getLsbD_signExtend, decide_eq_true hi, Bool.true_and]
  by_cases h : i < 8
  · rw [if_pos h, if_pos h, BitVec.getLsbD_signExtend, decide_eq_true h, Bool.true_and, if_pos (by omega)]
  · rw [if_neg h, if_neg h, BitVec.msb_eq_getLsbD_last, BitVec.getLsbD_signExtend]; rfl
theorem gb_i16 (x : Int32) {i : Nat} (hi : i < 32) : gb x.toInt16.toInt32 i = gb x (if i < 16 then i else 15) := by
  unfold gb
  show (BitVec.signExtend 32 (BitVec.signExtend 16 x.toBitVec)).getLsbD i = _
  rw [BitVec.getLsbD_signExtend, decide_eq_true hi, Bool.true_and]
  by_cases h : i < 16
  · rw [if_pos h, if_pos h, BitVec.getLsbD_signExtend, decide_eq_true h, Bool.true_and, if_pos (by omega)]
  · rw [if_neg h, if_neg h, BitVec.msb_eq_getLsbD_last, BitVec.getLsbD_signExtend]; rfl
theorem cut_8 (x : Int32) : (x <<< (nI 24 &&& 31)) >>> (nI 24 &&& 31) = x.toInt8.toInt32 := gb_ext (fun i hi => by
  rw [gb_sshr 24 (by decide) _ hi, gb_i8 x hi]
  by_cases h : i < 8
  · rw [if_pos (by omega), if_pos h, gb_shl 24 (by decide) x (by omega), decide_eq_true (by omega), Bool.true_and, show 24 + i - 24 = i by omega]
  · rw [if_neg (by omega), if_neg h, gb_shl 24 (by decide) x (by omega)]; rfl)
theorem cut_16 (x : Int32) : (x <<< (nI 16 &&& 31)) >>> (nI 16 &&& 31) = x.toInt16.toInt32 := gb_ext (fun i hi => by
  rw [gb_sshr 16 (by decide) _ hi, gb_i16 x hi]
  by_cases h : i < 16
  · rw [if_pos (by omega), if_pos h, gb_shl 16 (by decide) x (by omega), decide_eq_true (by omega), Bool.true_and, show 16 + i - 16 = i by omega]
  · rw [if_neg (by omega), if_neg h, gb_shl 16 (by decide) x (by omega)]; rfl)
theorem and_255 (x : Int32) : vp_nar .byte (x.toInt8.toInt32) &&& 255 = x &&& 255 := gb_ext (fun i hi => by
  rw [show vp_nar .byte (x.toInt8.toInt32) = x.toInt8.toInt32.toInt8.toInt32 from rfl, gb_and, gb_and, gb_255 i hi]
  by_cases h : i < 8
  · rw [gb_i8 _ hi, if_pos h, gb_i8 x hi, if_pos h]
  · rw [decide_eq_false h, Bool.and_false, Bool.and_false])
theorem i8_bt (x : Int32) : bt (vp_nar .byte x) (-128) 127 := by
  have e : (vp_nar .byte x).toInt = x.toInt8.toInt := by
    rw [show vp_nar .byte x = x.toInt8.toInt32 from rfl, Int8.toInt_toInt32]
  have h1 := Int8.le_toInt x.toInt8
  have h2 := Int8.toInt_lt x.toInt8
  exact ⟨by omega, by omega⟩
