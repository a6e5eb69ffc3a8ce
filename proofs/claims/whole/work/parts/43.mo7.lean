/-! an object of the reference goes -/
theorem rRep_gone {M : MM} {md lq tp tr : Nat} {af zf of lf rf : Nat → Int32} (h : rRep M md lq tp tr af zf of lf rf) {k z : Nat} (hk : mSz M k = some z)
    (hch : ∀ i, i < ((mLs M).filter (fun j => j != k)).length → lf i = nI (((mLs M).filter (fun j => j != k)).getD (((mLs M).filter (fun j => j != k)).length - 1 - i) 0)) :
    rRep (mGone M k) md ((mLs M).filter (fun j => j != k)).length tp (tr - up4 z) af zf (upd of k 0) lf rf := by
  obtain ⟨hI, h1, h2, h3, h4, h5, h6, h7, h8, st, g1, g2, g3⟩ := h
  have hold : ∀ j y, mSz (mGone M k) j = some y → ¬ j = k ∧ mSz M j = some y := by
    intro j y hj
    have hj : (if j = k then none else mSz M j) = some y := hj
    by_cases c : j = k
    · rw [if_pos c] at hj
      cases hj
    · rw [if_neg c] at hj
      exact ⟨c, hj⟩
  refine ⟨MI_gone hI hk, h1, ?_, rfl, h4, h5, ?_, fun j y hj => h7 j y (hold j y hj).2, hch, st, fun j y hj => g1 j y (hold j y hj).2, fun i j y w hij hi hj => g2 i j y w hij (hold i y hi).2 (hold j w hj).2, fun j y i hj hi => g3 j y i (hold j y hj).2 hi⟩
  · show tr - up4 z = mBt M - mUp (mSz M k)
    rw [hk, h2]
    rfl
  · intro j j1 j2
    show upd of k 0 j = match (if j = k then none else mSz M j) with | some _ => (if mGv M j = true then 2 else 1) | none => 0
    by_cases c : j = k
    · rw [if_pos c, c, upd_self]
    · rw [if_neg c, upd_ne c]
      exact h6 j j1 j2
theorem rRep_given {M : MM} {md lq tp tr : Nat} {af zf of lf rf : Nat → Int32} (h : rRep M md lq tp tr af zf of lf rf) {k z : Nat} (hk : mSz M k = some z) (hg : mGv M k = true) :
    rRep (mGone M k) md lq tp (tr - up4 z) af zf (upd of k 0) lf rf := by
  have hn : k ∉ mLs M := fun q => by
    obtain ⟨y, -, q2⟩ := h.1.2.2.2.2.2.2.1 k q
    rw [hg] at q2
    cases q2
  have e := filter_out hn
  have h3 := h.2.2.2.1
  have h8 := h.2.2.2.2.2.2.2.2.1
  have r := rRep_gone h hk (by rw [e, ← h3]; exact h8)
  rw [e, ← h3] at r
  exact r
theorem rRep_last {M : MM} {md lq tp tr : Nat} {af zf of lf rf : Nat → Int32} (h : rRep M md (lq + 1) tp tr af zf of lf rf) :
    ∃ k z, mSz M k = some z ∧ (mLs M).headD 0 = k ∧ lf lq = nI k ∧ zf k = nI z ∧ up4 z ≤ tr ∧ rRep (mGone M k) md lq tp (tr - up4 z) af zf (upd of k 0) lf rf := by
  have hI := h.1
  have h3 := h.2.2.2.1
  have h8 := h.2.2.2.2.2.2.2.2.1
  cases hl : mLs M with
  | nil =>
    rw [hl] at h3
    cases h3
  | cons k r =>
    rw [hl] at h3 h8
    have hnd : (k :: r).Nodup := by rw [← hl]; exact hI.2.2.2.2.2.1
    have hlr : lq = r.length := by
      have h3 : lq + 1 = r.length + 1 := h3
      omega
    obtain ⟨z, hz, -⟩ := hI.2.2.2.2.2.2.1 k (by rw [hl]; exact List.mem_cons_self)
    have e : (mLs M).filter (fun j => j != k) = r := by rw [hl]; exact filter_head hnd
    have q := rRep_gone h hz (by
      rw [e]
      intro i hi
      rw [h8 i (by omega), show lq + 1 - 1 - i = (r.length - 1 - i) + 1 by omega]
      rfl)
    rw [e, ← hlr] at q
    have hin := rRep_in h hz
    refine ⟨k, z, hz, rfl, ?_, h.2.2.2.2.2.2.2.1 k z hz, by omega, q⟩
    rw [h8 lq (by omega), show lq + 1 - 1 - lq = 0 by omega]
    rfl
theorem nI_sub {a b : Nat} (h : b ≤ a) : nI a - nI b = nI (a - b) := by
  rw [show nI a = nI (a - b) + nI b by rw [nI_add, Nat.sub_add_cancel h]]
  exact Int32.add_sub_cancel _ _
theorem sp_gone {M : MM} {md lq tp tr : Nat} {af zf of lf rf : Nat → Int32} (h : rRep M md lq tp tr af zf of lf rf) {k z : Nat} (hk : mSz M k = some z) : sp_Mo_gone (nI k) (nI tr) zf of = (nI (tr - up4 z), upd of k 0) := by
  have hkk := h.1.2.2.1 k z hk
  have hm := h.1.1
  have hin := rRep_in h hk
  unfold sp_Mo_gone
  rw [nI_clamp (by omega), h.2.2.2.2.2.2.2.1 k z hk, up4_m z (by omega), nI_sub (by omega)]
