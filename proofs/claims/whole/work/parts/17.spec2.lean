/-! an object goes: the class's rows behind it -/
theorem upd_self (f : Nat → Int32) (k : Nat) (x : Int32) : upd f k x k = x := by unfold upd; rw [if_pos rfl]
theorem upd_ne {f : Nat → Int32} {k j : Nat} {x : Int32} (h : ¬ j = k) : upd f k x j = f j := by unfold upd; rw [if_neg h]
theorem up4_pos {z : Nat} (h : 0 < z) : 4 ≤ up4 z := by unfold up4; omega
theorem cRep_gone {M : MM} {md bt nl pe rn pn : Nat} {sf tf uf pf : Nat → Int32} (h : cRep M md bt nl pe rn pn sf tf uf pf) {k z q : Nat} (hk : mSz M k = some z) (hq : tf k = nI q) (hq8 : q ≤ 80000)
    (hch : ∀ i, i < ((mLs M).filter (fun j => j != k)).length → uf (((mLs M).filter (fun j => j != k)).getD i 0) = nI (((mLs M).filter (fun j => j != k)).getD (i + 1) 0)) :
    cRep (mGone M k) md (bt - up4 z) (((mLs M).filter (fun j => j != k)).headD 0) (if q + up4 z = pe then q else pe) rn pn (upd sf k (-1)) tf uf pf := by
  obtain ⟨hI, h1, h2, h3, h4, h5, h6, h7, h8, h9, h10, h11, h12, st, g1, g2, g3⟩ := h
  have hkk := hI.2.2.1 k z hk
  obtain ⟨e1, e2, e3⟩ := g1 k z hk
  have hsq : st k = q := (nI_eq (by omega) (by omega)).mp (e1.symm.trans hq)
  have hold : ∀ j y, mSz (mGone M k) j = some y → ¬ j = k ∧ mSz M j = some y := by
    intro j y hj
    have hj : (if j = k then none else mSz M j) = some y := hj
    by_cases c : j = k
    · rw [if_pos c] at hj
      cases hj
    · rw [if_neg c] at hj
      exact ⟨c, hj⟩
  refine ⟨MI_gone hI hk, h1, ?_, rfl, h4, h5, ?_, h7, h8, h9, ?_, ?_, hch, st, ?_, ?_, ?_⟩
  · show bt - up4 z = mBt M - mUp (mSz M k)
    rw [hk, h2]
    rfl
  · by_cases c : q + up4 z = pe
    · rw [if_pos c]
      omega
    · rw [if_neg c]
      exact h6
  · intro j j1 j2
    show upd sf k (-1) j = match (if j = k then none else mSz M j) with | some z => nI z | none => -1
    by_cases c : j = k
    · rw [if_pos c, c, upd_self]
    · rw [if_neg c, upd_ne c]
      exact h10 j j1 j2
  · intro j y hj hg
    exact h11 j y (hold j y hj).2 hg
  · intro j y hj
    obtain ⟨c, hj⟩ := hold j y hj
    obtain ⟨a1, a2, a3⟩ := g1 j y hj
    refine ⟨a1, a2, fun hy => ?_⟩
    by_cases cc : q + up4 z = pe
    · rw [if_pos cc]
      have b1 := a3 hy
      have b2 := up4_pos hy
      rcases Nat.eq_zero_or_pos z with hz | hz
      · subst hz
        have : up4 0 = 0 := rfl
        omega
      · rcases Nat.lt_or_gt_of_ne c with d | d
        · have := g2 j k y z d hj hk hy hz
          omega
        · have := g2 k j z y d hk hj hz hy
          omega
    · rw [if_neg cc]
      exact a3 hy
  · intro i j y x hij hi hj
    exact g2 i j y x hij (hold i y hi).2 (hold j x hj).2
  · intro j y i hj hi
    exact g3 j y i (hold j y hj).2 hi
theorem filter_out {L : List Nat} {k : Nat} (h : k ∉ L) : L.filter (fun j => j != k) = L := List.filter_eq_self.mpr (fun j hj => by
  have : j ≠ k := fun e => h (e ▸ hj)
  simpa using this)
theorem filter_head {r : List Nat} {k : Nat} (h : (k :: r).Nodup) : (k :: r).filter (fun j => j != k) = r := by
  have hk : k ∉ r := (List.nodup_cons.mp h).1
  rw [List.filter_cons_of_neg (by simp), filter_out hk]
/-- a GIVEN one goes -/
theorem cRep_given {M : MM} {md bt nl pe rn pn : Nat} {sf tf uf pf : Nat → Int32} (h : cRep M md bt nl pe rn pn sf tf uf pf) {k z q : Nat} (hk : mSz M k = some z) (hg : mGv M k = true) (hq : tf k = nI q) (hq8 : q ≤ 80000) :
    cRep (mGone M k) md (bt - up4 z) nl (if q + up4 z = pe then q else pe) rn pn (upd sf k (-1)) tf uf pf := by
  have hn : k ∉ mLs M := fun hm => by
    obtain ⟨y, -, hy⟩ := h.1.2.2.2.2.2.2.1 k hm
    rw [hg] at hy
    cases hy
  have e := filter_out hn
  have hc := cRep_gone h hk hq hq8 (by rw [e]; exact h.2.2.2.2.2.2.2.2.2.2.2.2.1)
  rw [e, ← h.2.2.2.1] at hc
  exact hc
/-- the newest LAST one goes -/
theorem cRep_last {M : MM} {md bt nl pe rn pn : Nat} {sf tf uf pf : Nat → Int32} (h : cRep M md bt nl pe rn pn sf tf uf pf) {k z q : Nat} {r : List Nat} (hl : mLs M = k :: r) (hk : mSz M k = some z) (hq : tf k = nI q) (hq8 : q ≤ 80000) :
    cRep (mGone M k) md (bt - up4 z) (r.headD 0) (if q + up4 z = pe then q else pe) rn pn (upd sf k (-1)) tf uf pf ∧ mLs (mGone M k) = r ∧ uf k = nI (r.headD 0) := by
  have hnd : (k :: r).Nodup := hl ▸ h.1.2.2.2.2.2.1
  have e : (mLs M).filter (fun j => j != k) = r := by rw [hl]; exact filter_head hnd
  have hch := h.2.2.2.2.2.2.2.2.2.2.2.2.1
  have hc := cRep_gone h hk hq hq8 (by
    rw [e]
    intro i hi
    have := hch (i + 1) (by rw [hl]; simpa using hi)
    rw [hl] at this
    simpa using this)
  rw [e] at hc
  refine ⟨hc, e, ?_⟩
  have := hch 0 (by rw [hl]; simp)
  rw [hl] at this
  cases r <;> simpa using this
