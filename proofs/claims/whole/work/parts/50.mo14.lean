/-! the other offsets -/
theorem bv_cases {P : Nat → Prop} (h0 : P 0) (h1 : P 1) (h2 : P 2) (h3 : P 3) (h4 : P 4) (h5 : P 5) (h6 : P 6) (h7 : P 7) (h8 : P 8) (h9 : P 9) (h10 : P 10) (h11 : P 11) (h12 : P 12) (h13 : P 13) (h14 : P 14) (h15 : P 15) (h16 : P 16) (h17 : P 17) (h18 : P 18) (h19 : P 19) (h20 : P 20) (h21 : P 21) (h22 : P 22) (h23 : P 23) (h24 : P 24) (h25 : P 25) (h26 : P 26) (h27 : P 27) (h28 : P 28) (h29 : P 29) (h30 : P 30) (h31 : P 31) : ∀ i, i < 32 → P i := by
  intro i hi
  match i, hi with
  | 0, _ => exact h0
  | 1, _ => exact h1
  | 2, _ => exact h2
  | 3, _ => exact h3
  | 4, _ => exact h4
  | 5, _ => exact h5
  | 6, _ => exact h6
  | 7, _ => exact h7
  | 8, _ => exact h8
  | 9, _ => exact h9
  | 10, _ => exact h10
  | 11, _ => exact h11
  | 12, _ => exact h12
  | 13, _ => exact h13
  | 14, _ => exact h14
  | 15, _ => exact h15
  | 16, _ => exact h16
  | 17, _ => exact h17
  | 18, _ => exact h18
  | 19, _ => exact h19
  | 20, _ => exact h20
  | 21, _ => exact h21
  | 22, _ => exact h22
  | 23, _ => exact h23
  | 24, _ => exact h24
  | 25, _ => exact h25
  | 26, _ => exact h26
  | 27, _ => exact h27
  | 28, _ => exact h28
  | 29, _ => exact h29
  | 30, _ => exact h30
  | 31, _ => exact h31
  | n + 32, h => exact absurd h (by omega)
theorem sx_store (x : BitVec 32) : (((((x >>> 25) &&& 127#32) <<< 5) ||| ((x >>> 7) &&& 31#32)) <<< 20).sshiftRight 20 = ((x.sshiftRight 25) <<< 5) ||| ((x.sshiftRight 7) &&& 31#32) := by
  apply BitVec.eq_of_getLsbD_eq
  intro i hi
  simp only [BitVec.getLsbD_sshiftRight, BitVec.getLsbD_shiftLeft, BitVec.getLsbD_ushiftRight, BitVec.getLsbD_or, BitVec.getLsbD_and, BitVec.msb_eq_getLsbD_last]
  revert i
  refine bv_cases ?_ ?_ ?_ ?_ ?_ ?_ ?_ ?_ ?_ ?_ ?_ ?_ ?_ ?_ ?_ ?_ ?_ ?_ ?_ ?_ ?_ ?_ ?_ ?_ ?_ ?_ ?_ ?_ ?_ ?_ ?_ ?_ <;> simp
theorem of_store (w : Int32) : sp_Mo_byStore w = sp_Rv_storeOffset w := congrArg Int32.ofBitVec (sx_store w.toBitVec)
theorem sx_branch (x : BitVec 32) : (((((((x >>> 31) &&& 1#32) <<< 12) ||| (((x >>> 7) &&& 1#32) <<< 11)) ||| (((x >>> 25) &&& 63#32) <<< 5)) ||| (((x >>> 8) &&& 15#32) <<< 1)) <<< 19).sshiftRight 19 = ((((x.sshiftRight 31) <<< 12) ||| ((x <<< 4) &&& 2048#32)) ||| ((x.sshiftRight 20) &&& 2016#32)) ||| ((x.sshiftRight 7) &&& 30#32) := by
  apply BitVec.eq_of_getLsbD_eq
  intro i hi
  simp only [BitVec.getLsbD_sshiftRight, BitVec.getLsbD_shiftLeft, BitVec.getLsbD_ushiftRight, BitVec.getLsbD_or, BitVec.getLsbD_and, BitVec.msb_eq_getLsbD_last]
  revert i
  refine bv_cases ?_ ?_ ?_ ?_ ?_ ?_ ?_ ?_ ?_ ?_ ?_ ?_ ?_ ?_ ?_ ?_ ?_ ?_ ?_ ?_ ?_ ?_ ?_ ?_ ?_ ?_ ?_ ?_ ?_ ?_ ?_ ?_ <;> simp
theorem of_branch (w : Int32) : sp_Mo_byBranch w = sp_Rv_branchOffset w := congrArg Int32.ofBitVec (sx_branch w.toBitVec)
theorem sx_jump (x : BitVec 32) : (((((((x >>> 31) &&& 1#32) <<< 20) ||| (((x >>> 12) &&& 255#32) <<< 12)) ||| (((x >>> 20) &&& 1#32) <<< 11)) ||| (((x >>> 21) &&& 1023#32) <<< 1)) <<< 11).sshiftRight 11 = ((((x.sshiftRight 31) <<< 20) ||| (x &&& 1044480#32)) ||| ((x.sshiftRight 9) &&& 2048#32)) ||| ((x.sshiftRight 20) &&& 2046#32) := by
  apply BitVec.eq_of_getLsbD_eq
  intro i hi
  simp only [BitVec.getLsbD_sshiftRight, BitVec.getLsbD_shiftLeft, BitVec.getLsbD_ushiftRight, BitVec.getLsbD_or, BitVec.getLsbD_and, BitVec.msb_eq_getLsbD_last]
  revert i
  refine bv_cases ?_ ?_ ?_ ?_ ?_ ?_ ?_ ?_ ?_ ?_ ?_ ?_ ?_ ?_ ?_ ?_ ?_ ?_ ?_ ?_ ?_ ?_ ?_ ?_ ?_ ?_ ?_ ?_ ?_ ?_ ?_ ?_ <;> simp
theorem of_jump (w : Int32) : sp_Mo_byJump w = sp_Rv_jumpOffset w := congrArg Int32.ofBitVec (sx_jump w.toBitVec)
