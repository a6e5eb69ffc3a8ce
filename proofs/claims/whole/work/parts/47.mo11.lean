/-! the same byte by either shift -/
theorem sh_byte (w : Int64) : ∀ j, j < 8 → ((zlshr w (8 * nI j) : Int64).toInt32).toInt8 = ((zlushr w (8 * nI j) : Int64).toInt32).toInt8 := by
  intro j hj
  have key : ∀ s : Nat, s ≤ 56 → ∀ x : BitVec 64, ((x.sshiftRight s).signExtend 32).signExtend 8 = ((x >>> s).signExtend 32).signExtend 8 := by
    intro s hs x
    apply BitVec.eq_of_getLsbD_eq
    intro i hi
    simp only [BitVec.getLsbD_signExtend, BitVec.getLsbD_sshiftRight, BitVec.getLsbD_ushiftRight]
    have h1 : i < 32 := by omega
    have h2 : s + i < 64 := by omega
    have h3 : i < 64 := by omega
    simp [h1, h2, h3, hi]
    all_goals omega
  have hc : j = 0 ∨ j = 1 ∨ j = 2 ∨ j = 3 ∨ j = 4 ∨ j = 5 ∨ j = 6 ∨ j = 7 := by omega
  rcases hc with rfl | rfl | rfl | rfl | rfl | rfl | rfl | rfl
  · exact congrArg Int8.ofBitVec (key 0 (by omega) w.toBitVec)
  · exact congrArg Int8.ofBitVec (key 8 (by omega) w.toBitVec)
  · exact congrArg Int8.ofBitVec (key 16 (by omega) w.toBitVec)
  · exact congrArg Int8.ofBitVec (key 24 (by omega) w.toBitVec)
  · exact congrArg Int8.ofBitVec (key 32 (by omega) w.toBitVec)
  · exact congrArg Int8.ofBitVec (key 40 (by omega) w.toBitVec)
  · exact congrArg Int8.ofBitVec (key 48 (by omega) w.toBitVec)
  · exact congrArg Int8.ofBitVec (key 56 (by omega) w.toBitVec)
theorem rIn_x (w : Int64) : ∀ j, j ≤ 8 → ∀ L, rIn w j L = xIn w j L
  | 0, _, _ => rfl
  | j + 1, h, L => by
    have e : bAdd 1000 L ((zlshr w (8 * (nI j)) : Int64).toInt32) = bAdd 1000 L ((zlushr w (8 * (nI j)) : Int64).toInt32) := by
      unfold bAdd
      rw [sh_byte w j (by omega)]
    show rIn w j (bAdd 1000 L ((zlshr w (8 * (nI j)) : Int64).toInt32)) = xIn w j (bAdd 1000 L ((zlushr w (8 * (nI j)) : Int64).toInt32))
    rw [e]
    exact rIn_x w j (by omega) _
