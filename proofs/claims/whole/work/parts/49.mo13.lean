/-! offsets read by bits -/
theorem sx_upper (x : BitVec 32) : (((x >>> 20) &&& 4095#32) <<< 20).sshiftRight 20 = x.sshiftRight 20 := by
  have e : (x >>> 20) &&& 4095#32 = x >>> 20 := by
    apply BitVec.eq_of_toNat_eq
    rw [BitVec.toNat_and, BitVec.toNat_ushiftRight, Nat.shiftRight_eq_div_pow]
    have := x.isLt
    exact (Nat.and_two_pow_sub_one_eq_mod _ 12).trans (Nat.mod_eq_of_lt (by omega))
  rw [e]
  apply BitVec.eq_of_getLsbD_eq
  intro i hi
  simp only [BitVec.getLsbD_sshiftRight, BitVec.getLsbD_shiftLeft, BitVec.getLsbD_ushiftRight, BitVec.msb_eq_getLsbD_last]
  by_cases c : 20 + i < 32
  · have d : ¬ 20 + i < 20 := by omega
    simp [c, d, hi]
  · simp [c, hi]
theorem of_upper (w : Int32) : sp_Mo_byUpper w = (w : Int32) >>> ((20 : Int32) &&& 31) := congrArg Int32.ofBitVec (sx_upper w.toBitVec)
