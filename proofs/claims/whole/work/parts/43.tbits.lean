theorem l_or_add {x y : Int64} (h : x &&& y = 0) : x + y = x ||| y := Int64.toBitVec_inj.mp (BitVec.add_eq_or_of_and_eq_zero x.toBitVec y.toBitVec (congrArg Int64.toBitVec h))
theorem l_dis {a b m k : Int64} (h : m &&& k = 0) : (a &&& m) &&& (b &&& k) = 0 := by
  have e : (a &&& m) &&& (b &&& k) = (a &&& b) &&& (m &&& k) := by ac_rfl
  rw [e, h]
  exact Int64.and_zero
theorem l_m1 : (-1 : Int64).toBitVec = BitVec.allOnes 64 := by decide
theorem l_and_not (x m : Int64) : x &&& (m ^^^ (-1)) = x - (x &&& m) := by
  have d : (x &&& (m ^^^ (-1))) &&& (x &&& m) = 0 := by
    apply Int64.toBitVec_inj.mp
    rw [Int64.toBitVec_and, Int64.toBitVec_and, Int64.toBitVec_and, Int64.toBitVec_xor, l_m1]
    apply BitVec.eq_of_getLsbD_eq
    intro i hi
    show _ = (0#64).getLsbD i
    rw [BitVec.getLsbD_and, BitVec.getLsbD_and, BitVec.getLsbD_and, BitVec.getLsbD_xor, BitVec.getLsbD_allOnes, BitVec.getLsbD_zero, decide_eq_true hi]
    cases x.toBitVec.getLsbD i <;> cases m.toBitVec.getLsbD i <;> rfl
  have o : (x &&& (m ^^^ (-1))) ||| (x &&& m) = x := by
    apply Int64.toBitVec_inj.mp
    rw [Int64.toBitVec_or, Int64.toBitVec_and, Int64.toBitVec_and, Int64.toBitVec_xor, l_m1]
    apply BitVec.eq_of_getLsbD_eq
    intro i hi
    rw [BitVec.getLsbD_or, BitVec.getLsbD_and, BitVec.getLsbD_and, BitVec.getLsbD_xor, BitVec.getLsbD_allOnes, decide_eq_true hi]
    cases x.toBitVec.getLsbD i <;> cases m.toBitVec.getLsbD i <;> rfl
  have e : (x &&& (m ^^^ (-1))) + (x &&& m) = x := by rw [l_or_add d, o]
  calc x &&& (m ^^^ (-1)) = (x &&& (m ^^^ (-1))) + (x &&& m) - (x &&& m) := (Int64.add_sub_cancel _ _).symm
    _ = x - (x &&& m) := by rw [e]
theorem t_lo (w : Int64) : w >>> ((Int32.toInt64 0) &&& 63) = w := by
  rw [show (Int32.toInt64 0 &&& 63) = 0 by decide]
  exact Int64.shiftRight_zero
theorem b64_low : ∀ i, i < 64 → (4294967295#64).getLsbD i = decide (i < 32) := by decide +kernel
theorem t_hi (w : Int64) : (w >>> ((Int32.toInt64 32) &&& 63)) &&& 4294967295 = (UInt64.toInt64 ((Int64.toUInt64 w) >>> ((Int64.toUInt64 (Int32.toInt64 32)) &&& Int64.toUInt64 63))) := by
  apply Int64.toBitVec_inj.mp
  have h1 : (((Int32.toInt64 32) &&& 63).toBitVec.smod 64).toNat = 32 := by decide
  have h2 : (((Int64.toUInt64 (Int32.toInt64 32)) &&& Int64.toUInt64 63).toBitVec % 64).toNat = 32 := by decide
  show (w.toBitVec.sshiftRight (((Int32.toInt64 32) &&& 63).toBitVec.smod 64).toNat) &&& 4294967295#64 = w.toBitVec >>> (((Int64.toUInt64 (Int32.toInt64 32)) &&& Int64.toUInt64 63).toBitVec % 64).toNat
  rw [h1, h2]
  apply BitVec.eq_of_getLsbD_eq
  intro i hi
  rw [BitVec.getLsbD_and, b64_low i hi, BitVec.getLsbD_sshiftRight, BitVec.getLsbD_ushiftRight]
  by_cases h : i < 32
  · simp [h, show 32 + i < 64 by omega]
    omega
  · rw [decide_eq_false h, Bool.and_false]
    exact (BitVec.getLsbD_of_ge _ (32 + i) (by omega)).symm
theorem t_stlo (w v : Int64) : (w &&& (-4294967296)) ||| (v &&& 4294967295) = (w - (w &&& 4294967295)) + (v &&& 4294967295) := by
  rw [← l_and_not, show (4294967295 : Int64) ^^^ (-1) = -4294967296 by decide]
  exact (l_or_add (l_dis (by decide))).symm
theorem t_sthi (w v : Int64) : (v <<< ((Int32.toInt64 32) &&& 63)) ||| (w &&& 4294967295) = (w &&& 4294967295) + (v <<< ((Int32.toInt64 32) &&& 63)) := by
  rw [Int64.add_comm]
  refine (l_or_add ?_).symm
  apply Int64.toBitVec_inj.mp
  have h1 : (((Int32.toInt64 32) &&& 63).toBitVec.smod 64).toNat = 32 := by decide
  show (v.toBitVec <<< (((Int32.toInt64 32) &&& 63).toBitVec.smod 64).toNat) &&& (w.toBitVec &&& 4294967295#64) = 0#64
  rw [h1]
  apply BitVec.eq_of_getLsbD_eq
  intro i hi
  rw [BitVec.getLsbD_and, BitVec.getLsbD_and, b64_low i hi, BitVec.getLsbD_shiftLeft]
  by_cases h : i < 32
  · simp [h]
  · simp [h]
