/-! small rows on ints and longs -/
theorem z_nz1 {y : Int32} (h : ¬ y = 0) : ¬ y.toInt64 = 0 := by
  intro q
  have q1 := congrArg Int64.toInt q
  rw [Int32.toInt_toInt64] at q1
  exact h (Int32.toInt_inj.mp (q1.trans (by decide)))
theorem z_m32 : ∀ i, i < 32 → ((4294967295 : Int64).toBitVec).getLsbD i = true := by decide
theorem z_lo32 (y : Int32) : (y.toInt64 &&& 4294967295).toBitVec.setWidth 32 = y.toBitVec := by
  apply BitVec.eq_of_getLsbD_eq
  intro i hi
  have h1 := z_m32 i hi
  have h2 : i < 64 := by omega
  simp only [Int64.toBitVec_and, Int32.toBitVec_toInt64, BitVec.getLsbD_setWidth, BitVec.getLsbD_and, BitVec.getLsbD_signExtend, h1, hi, h2, decide_true, Bool.true_and, Bool.and_true, if_true]
theorem z_nz2 {y : Int32} (h : ¬ y = 0) : ¬ (y.toInt64 &&& 4294967295) = 0 := by
  intro q
  have q1 := z_lo32 y
  rw [q] at q1
  exact h (Int32.toBitVec_inj.mp (q1.symm.trans (by decide)))
theorem z_lt {x y : Int32} (h : x < y) : x.toInt < y.toInt := Int32.lt_iff_toInt_lt.mp h
theorem z_le {x y : Int32} (h : x ≤ y) : x.toInt ≤ y.toInt := Int32.le_iff_toInt_le.mp h
theorem z_nlt {x y : Int32} (h : ¬ x < y) : y.toInt ≤ x.toInt := Int.not_lt.mp (fun q => h (Int32.lt_iff_toInt_lt.mpr q))
theorem z_nle {x y : Int32} (h : ¬ x ≤ y) : y.toInt < x.toInt := Int.not_le.mp (fun q => h (Int32.le_iff_toInt_le.mpr q))
theorem z_eq {x y : Int32} (h : x = y) : x.toInt = y.toInt := congrArg Int32.toInt h
theorem z_neq {x y : Int32} (h : ¬ x = y) : x.toInt ≠ y.toInt := fun q => h (Int32.toInt_inj.mp q)
theorem z_in {x : Int32} {n : Nat} (h : 0 ≤ x.toInt ∧ x.toInt < n) : vp_in x n := vp_in_iff.mpr h
abbrev zT (cI cB cJ : ClassId) : List (ClassId × FieldType) := [(cI, .int), (cB, .byte), (cJ, .long)]
/-- an int by its bits -/
def zN (x : Int32) : Nat := x.toBitVec.toNat
theorem zN_lt (x : Int32) : zN x < 2 ^ 32 := x.toBitVec.isLt
theorem z_of (x : Int32) : x = nI (zN x) := Int32.toBitVec_inj.mp (by simp [nI, zN])
theorem z_ushr (x s : Int32) (k : Nat) (hs : ((s.toUInt32 &&& Int32.toUInt32 31).toBitVec % 32).toNat = k) : zushr x s = nI (zN x / 2 ^ k) := by
  have h := pk_ushrN (zN_lt x) s k hs
  rw [← z_of x] at h
  exact h
theorem z_u16 (x : Int32) : zushr x 16 = nI (zN x / 65536) := z_ushr x 16 16 (by decide)
theorem zus16 (x : Int32) : 0 ≤ (zushr x 16).toInt ∧ (zushr x 16).toInt < 65536 := by
  have h := zN_lt x
  rw [z_u16, nI_toInt (by omega)]
  omega
theorem z_add {x y : Int32} (h : -2147483648 ≤ x.toInt + y.toInt ∧ x.toInt + y.toInt < 2147483648) : (x + y).toInt = x.toInt + y.toInt := by
  rw [Int32.toInt_add]
  exact Int.bmod_eq_of_le (by omega) (by omega)
theorem z_sub {x y : Int32} (h : -2147483648 ≤ x.toInt - y.toInt ∧ x.toInt - y.toInt < 2147483648) : (x - y).toInt = x.toInt - y.toInt := by
  rw [Int32.toInt_sub]
  exact Int.bmod_eq_of_le (by omega) (by omega)
theorem zK_int {D : va_G} {s : State} {cI cB cJ cA : ClassId} (h : va_K D zC (zT cI cB cJ ++ [(cA, .int)]) s) : cI = cA := Option.some.inj (((h.2 0 (cI, .int) rfl).2).symm.trans (h.2 3 (cA, .int) rfl).2)
theorem zK_byte {D : va_G} {s : State} {cI cB cJ cA : ClassId} (h : va_K D zC (zT cI cB cJ ++ [(cA, .byte)]) s) : cB = cA := Option.some.inj (((h.2 1 (cB, .byte) rfl).2).symm.trans (h.2 3 (cA, .byte) rfl).2)
theorem zK_long {D : va_G} {s : State} {cI cB cJ cA : ClassId} (h : va_K D zC (zT cI cB cJ ++ [(cA, .long)]) s) : cJ = cA := Option.some.inj (((h.2 2 (cJ, .long) rfl).2).symm.trans (h.2 3 (cA, .long) rfl).2)
theorem z_nle' {a b : Nat} (hb : b < 2 ^ 31) (h : ¬ nI a ≤ nI b) : b < a := Nat.not_le.mp (fun q => h (nI_le q hb))
theorem z_le' {a b : Nat} (ha : a < 2 ^ 31) (h : nI a ≤ nI b) : ¬ b < a := fun q => nI_ge q ha h
theorem z_e0 {a : Nat} (ha : a < 2 ^ 31) (h : nI a = 0) : a = 0 := (nI_eq ha (by decide)).mp (h.trans nI_0.symm)
theorem z_n0 {a : Nat} (h : ¬ nI a = 0) : a ≠ 0 := fun q => h (by rw [q]; exact nI_0)
theorem z_st {p : Program} {l : Launch} {e : Env} {R : Room} {s : State} {m : MethodId} {args : Array Value} {below : List Frame} {meth : Method} {c : Code} {H : Heap} {locs : List Loc} {cells slots : Nat} {Q : State → Prop} {pc : Nat} {ls : Array Slot} {st st' : List Value} (e1 : st = st') (k : W p l e R s m args below meth c H locs cells slots Q (F0 m pc ls st')) : W p l e R s m args below meth c H locs cells slots Q (F0 m pc ls st) := e1 ▸ k
