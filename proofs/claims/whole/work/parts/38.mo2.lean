/-! how the reference lays a memory -/
def rRep (M : MM) (md lq tp tr : Nat) (af zf of lf rf : Nat → Int32) : Prop := MI M ∧ md = mMd M ∧ tr = mBt M ∧ lq = (mLs M).length ∧ tp ≤ 90000 ∧ (∀ i, i < 90000 → fits .byte (.int (rf i)) = true) ∧
  (∀ k, 1 ≤ k → k ≤ md → of k = match mSz M k with | some _ => (if mGv M k = true then 2 else 1) | none => 0) ∧ (∀ k z, mSz M k = some z → zf k = nI z) ∧ (∀ i, i < lq → lf i = nI ((mLs M).getD (lq - 1 - i) 0)) ∧
  ∃ st : Nat → Nat, (∀ k z, mSz M k = some z → af k = nI (st k) ∧ st k + up4 z ≤ tp) ∧ (∀ j k y z, j < k → mSz M j = some y → mSz M k = some z → st j + up4 y ≤ st k) ∧ ∀ k z i, mSz M k = some z → i < z → rf (st k + i) = mCt M k i
/-- n bytes at an address whose offset is a multiple of n -/
def mPl (M : MM) (a : Int32) (k : Nat) : Prop := (∃ z, mSz M (zN a / 65536) = some z ∧ zN a % 65536 + k ≤ z) ∧ zN a % 65536 % k = 0
theorem mHs_iff {M : MM} (hM : MI M) {a : Int32} {k : Nat} (hk : k ≤ 4000) : ¬ mHs M a (nI k) = 0 ↔ ∃ z, mSz M (zN a / 65536) = some z ∧ zN a % 65536 + k ≤ z := by
  unfold mHs
  cases e : mSz M (zN a / 65536) with
  | none => exact ⟨fun q => absurd rfl q, fun ⟨z, q, _⟩ => by cases q⟩
  | some z =>
    have hz := hM.2.2.1 _ z e
    show ¬ (if nI z < (a &&& 65535) + nI k then (0 : Int32) else 1) = 0 ↔ _
    rw [z_a16, nI_add]
    by_cases c : z < zN a % 65536 + k
    · rw [if_pos (nI_lt c (by omega))]
      exact ⟨fun q => absurd rfl q, fun ⟨y, q, r⟩ => by cases q; omega⟩
    · rw [if_neg (nI_nlt (by omega) (by omega))]
      exact ⟨fun _ => ⟨z, rfl, by omega⟩, fun _ => by decide⟩
theorem rRep_place {M : MM} {md lq tp tr : Nat} {af zf of lf rf : Nat → Int32} (h : rRep M md lq tp tr af zf of lf rf) (a : Int32) {k : Nat} (hk : 1 ≤ k) (hk4 : k ≤ 4000) :
    (mPl M a k → ∃ q z, sp_Mo_place a (nI k) (nI md) af zf of = nI (q + zN a % 65536) ∧ mSz M (zN a / 65536) = some z ∧ zN a % 65536 + k ≤ z ∧ q + up4 z ≤ 90000 ∧ af (zN a / 65536) = nI q ∧ ∀ i, i < k → rf (q + zN a % 65536 + i) = mCt M (zN a / 65536) (zN a % 65536 + i)) ∧
    (¬ mPl M a k → sp_Mo_place a (nI k) (nI md) af zf of = -1) := by
  obtain ⟨hI, h1, h2, h3, h4, h5, h6, h7, h8, st, g1, g2, g3⟩ := h
  have hz := zN_lt a
  have hm := hI.1
  unfold sp_Mo_place
  rw [z_u16, z_a16]
  have hnone : (zN a / 65536 = 0 ∨ md < zN a / 65536) → mSz M (zN a / 65536) = none := by
    intro c
    cases e : mSz M (zN a / 65536) with
    | none => rfl
    | some z =>
      have := hI.2.2.1 _ z e
      omega
  by_cases c1 : zN a / 65536 = 0
  · rw [if_pos (by rw [c1]; exact nI_0)]
    exact ⟨(fun ⟨⟨z, q, _⟩, _⟩ => by rw [hnone (Or.inl c1)] at q; cases q), fun _ => rfl⟩
  · rw [if_neg (nI_ne0 (by omega) (by omega))]
    by_cases c2 : md < zN a / 65536
    · rw [if_pos (nI_lt c2 (by omega))]
      exact ⟨(fun ⟨⟨z, q, _⟩, _⟩ => by rw [hnone (Or.inr c2)] at q; cases q), fun _ => rfl⟩
    · rw [if_neg (nI_nlt (by omega) (by omega)), nI_clamp (by omega), h6 _ (by omega) (by omega)]
      cases e : mSz M (zN a / 65536) with
      | none =>
        show _ ∧ (_ → (if (0 : Int32) = 0 then (-1 : Int32) else _) = -1)
        exact ⟨(fun ⟨⟨z, q, _⟩, _⟩ => by rw [e] at q; cases q), fun _ => if_pos rfl⟩
      | some z =>
        have hzz := hI.2.2.1 _ z e
        have hs : ¬ (if mGv M (zN a / 65536) = true then (2 : Int32) else 1) = 0 := by split <;> decide
        rw [if_neg hs, h7 _ z e, nI_add]
        obtain ⟨a1, a2⟩ := g1 _ z e
        by_cases c3 : z < zN a % 65536 + k
        · rw [if_pos (nI_lt c3 (by omega))]
          exact ⟨(fun ⟨⟨y, q, r⟩, _⟩ => by rw [e] at q; cases q; omega), fun _ => rfl⟩
        · rw [if_neg (nI_nlt (by omega) (by omega)), pk_div (by omega) (by omega) (by omega), pk_mul]
          have hd := Nat.div_add_mod (zN a % 65536) k
          have hc : k * (zN a % 65536 / k) = zN a % 65536 / k * k := Nat.mul_comm _ _
          have hu := up4_le z
          by_cases c4 : zN a % 65536 % k = 0
          · rw [if_pos (by rw [show zN a % 65536 / k * k = zN a % 65536 by omega]), a1, nI_add]
            refine ⟨fun _ => ⟨st (zN a / 65536), z, rfl, rfl, by omega, by omega, rfl, fun i hi => ?_⟩, fun q => absurd ⟨⟨z, e, by omega⟩, c4⟩ q⟩
            rw [Nat.add_assoc]
            exact g3 _ z _ e (by omega)
          · rw [if_neg (fun q => c4 (by have := (nI_eq (by omega) (by omega)).mp q; omega))]
            exact ⟨fun q => absurd q.2 c4, fun _ => rfl⟩
