/-! the memory in own words: how many were made, the bytes there, the LAST ones (newest first), sizes (none: not there), given or not, contents -/
abbrev MM : Type := Nat × Nat × List Nat × (Nat → Option Nat) × (Nat → Bool) × (Nat → Nat → Int32)
def mMd (M : MM) : Nat := M.1
def mBt (M : MM) : Nat := M.2.1
def mLs (M : MM) : List Nat := M.2.2.1
def mSz (M : MM) : Nat → Option Nat := M.2.2.2.1
def mGv (M : MM) : Nat → Bool := M.2.2.2.2.1
def mCt (M : MM) : Nat → Nat → Int32 := M.2.2.2.2.2
def up4 (n : Nat) : Nat := (n + 3) / 4 * 4
def mUp (o : Option Nat) : Nat := match o with
  | some z => up4 z
  | none => 0
def mSum (sz : Nat → Option Nat) : Nat → Nat
  | 0 => 0
  | k + 1 => mSum sz k + mUp (sz (k + 1))
/-- what holds of every memory -/
def MI (M : MM) : Prop := mMd M ≤ 8000 ∧ mBt M ≤ 40000 ∧ (∀ k z, mSz M k = some z → 1 ≤ k ∧ k ≤ mMd M ∧ z ≤ 4000) ∧ mBt M = mSum (mSz M) (mMd M) ∧ (mLs M).length ≤ mMd M ∧ (mLs M).Nodup ∧
  (∀ k, k ∈ mLs M → ∃ z, mSz M k = some z ∧ mGv M k = false) ∧ (∀ k z, mSz M k = some z → mGv M k = false → k ∈ mLs M)
def mEmpty : MM := (0, 0, [], fun _ => none, fun _ => false, fun _ _ => 0)
def mMake (M : MM) (n : Nat) (gv : Bool) : MM := (mMd M + 1, mBt M + up4 n, if gv then mLs M else (mMd M + 1) :: mLs M, fun k => if k = mMd M + 1 then some n else mSz M k, fun k => if k = mMd M + 1 then gv else mGv M k, fun k => if k = mMd M + 1 then fun _ => 0 else mCt M k)
/-- an object goes, and out of the row of LAST ones -/
def mGone (M : MM) (k : Nat) : MM := (mMd M, mBt M - mUp (mSz M k), (mLs M).filter (fun j => j != k), fun j => if j = k then none else mSz M j, mGv M, mCt M)
def mPut (M : MM) (k : Nat) (f : Nat → Int32) : MM := (mMd M, mBt M, mLs M, mSz M, mGv M, fun j => if j = k then f else mCt M j)
/-- n bytes from an address on lie in one object -/
def mHas (M : MM) (a : Int32) (n : Nat) : Bool := match mSz M (zN a / 65536) with
  | some z => decide (zN a % 65536 + n ≤ z)
  | none => false
theorem up4_le (n : Nat) : n ≤ up4 n ∧ up4 n ≤ n + 3 := by unfold up4; omega
theorem up4_d : ∀ a, a < 64 → ∀ b, b < 64 → sp_Me_roundedUp (nI (64 * a + b)) = nI (up4 (64 * a + b)) := by decide +kernel
theorem up4_c (z : Nat) (h : z < 4001) : sp_Me_roundedUp (nI z) = nI (up4 z) := by
  have e := up4_d (z / 64) (by omega) (z % 64) (by omega)
  rw [Nat.div_add_mod] at e
  exact e
theorem mSum_up {sz : Nat → Option Nat} {k : Nat} : ∀ n, 1 ≤ k → k ≤ n → mUp (sz k) ≤ mSum sz n
  | 0, h1, h2 => by omega
  | n + 1, h1, h2 => by
    unfold mSum
    by_cases h : k = n + 1
    · subst h
      omega
    · have := mSum_up (sz := sz) (k := k) n h1 (by omega)
      omega
theorem mSum_congr {f g : Nat → Option Nat} : ∀ n, (∀ k, 1 ≤ k → k ≤ n → f k = g k) → mSum f n = mSum g n
  | 0, _ => rfl
  | n + 1, h => by
    unfold mSum
    rw [mSum_congr n (fun k h1 h2 => h k h1 (by omega)), h (n + 1) (by omega) (by omega)]
theorem mSum_gone {sz : Nat → Option Nat} {k : Nat} : ∀ n, 1 ≤ k → k ≤ n → mSum (fun j => if j = k then none else sz j) n + mUp (sz k) = mSum sz n
  | 0, h1, h2 => by omega
  | n + 1, h1, h2 => by
    unfold mSum
    by_cases h : k = n + 1
    · subst h
      rw [if_pos rfl, mSum_congr n (f := fun j => if j = n + 1 then none else sz j) (g := sz) (fun j _ h2 => if_neg (by omega))]
      show _ + 0 + _ = _
      omega
    · rw [if_neg (by omega)]
      have := mSum_gone (sz := sz) (k := k) n h1 (by omega)
      omega
theorem MI_gone {M : MM} (h : MI M) {k z : Nat} (hk : mSz M k = some z) : MI (mGone M k) := by
  obtain ⟨h1, h2, h3, h4, h5, h6, h7, h8⟩ := h
  obtain ⟨k1, k2, k3⟩ := h3 k z hk
  have hs := mSum_gone (sz := mSz M) (mMd M) k1 k2
  refine ⟨h1, ?_, ?_, ?_, ?_, ?_, ?_, ?_⟩
  · show mBt M - _ ≤ _
    omega
  · intro j y hj
    have hj : (if j = k then none else mSz M j) = some y := hj
    by_cases q : j = k
    · rw [if_pos q] at hj
      cases hj
    · rw [if_neg q] at hj
      exact h3 j y hj
  · show mBt M - mUp (mSz M k) = mSum (fun j => if j = k then none else mSz M j) (mMd M)
    omega
  · show ((mLs M).filter _).length ≤ mMd M
    have := List.length_filter_le (fun j => j != k) (mLs M)
    omega
  · exact h6.filter _
  · intro j hj
    have hj : j ∈ (mLs M).filter (fun j => j != k) := hj
    obtain ⟨q1, q2⟩ := List.mem_filter.mp hj
    obtain ⟨y, q3, q4⟩ := h7 j q1
    have q5 : ¬ j = k := by simpa using q2
    exact ⟨y, (by show (if j = k then none else mSz M j) = some y; rw [if_neg q5]; exact q3), q4⟩
  · intro j y hj hg
    have hj : (if j = k then none else mSz M j) = some y := hj
    by_cases q : j = k
    · rw [if_pos q] at hj
      cases hj
    · rw [if_neg q] at hj
      exact List.mem_filter.mpr ⟨h8 j y hj hg, by simpa using q⟩
/-- how the class lays a memory -/
def cRep (M : MM) (md bt nl pe rn pn : Nat) (sf tf uf pf : Nat → Int32) : Prop := MI M ∧ md = mMd M ∧ bt = mBt M ∧ nl = (mLs M).headD 0 ∧ md < rn ∧ rn ≤ 8001 ∧ pe ≤ pn ∧ 256 ≤ pn ∧ pn ≤ 80000 ∧
  (∀ i, i < pn → fits .byte (.int (pf i)) = true) ∧ (∀ k, 1 ≤ k → k ≤ md → sf k = match mSz M k with | some z => nI z | none => -1) ∧ (∀ k z, mSz M k = some z → mGv M k = true → uf k = -1) ∧
  (∀ i, i < (mLs M).length → uf ((mLs M).getD i 0) = nI ((mLs M).getD (i + 1) 0)) ∧
  ∃ st : Nat → Nat, (∀ k z, mSz M k = some z → tf k = nI (st k) ∧ st k ≤ pn ∧ (0 < z → st k + up4 z ≤ pe)) ∧ (∀ j k y z, j < k → mSz M j = some y → mSz M k = some z → 0 < y → 0 < z → st j + up4 y ≤ st k) ∧ ∀ k z i, mSz M k = some z → i < z → pf (st k + i) = mCt M k i
