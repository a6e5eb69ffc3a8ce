/-! where the class and the reference find the same bytes -/
theorem mHsA_iff {M : MM} (hM : MI M) {a : Int32} {k : Nat} (hk : k = 1 ∨ k = 2 ∨ k = 4) : ¬ mHsA M a (nI k) = 0 ↔ mPl M a k := by
  have ha : (a &&& (nI k - 1)) = nI (zN a % k) := by
    rcases hk with rfl | rfl | rfl
    · exact pk_and a 0 (by decide)
    · exact pk_and a 1 (by decide)
    · exact pk_and a 2 (by decide)
  have hm : zN a % 65536 % k = zN a % k := by rcases hk with rfl | rfl | rfl <;> omega
  have hlt : zN a % k < 5 := by rcases hk with rfl | rfl | rfl <;> omega
  have hh := mHs_iff hM (a := a) (k := k) (by omega)
  unfold mHsA mPl
  rw [ha, hm, ← hh]
  by_cases c : zN a % k = 0
  · rw [if_pos (by rw [c]; rfl)]
    by_cases d : mHs M a (nI k) = 0
    · rw [if_pos d]
      exact ⟨fun q => absurd rfl q, fun q => absurd d q.1⟩
    · rw [if_neg d]
      exact ⟨fun _ => ⟨d, c⟩, fun _ => by decide⟩
  · rw [if_neg (nI_ne0 (by omega) (by omega))]
    exact ⟨fun q => absurd rfl q, fun q => absurd q.2 c⟩
