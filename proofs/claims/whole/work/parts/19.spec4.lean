/-! the pool is tidied -/
theorem mSum_mono {sz : Nat → Option Nat} {a : Nat} : ∀ b, a ≤ b → mSum sz a ≤ mSum sz b
  | 0, h => by
    have : a = 0 := by omega
    subst this
    exact Nat.le_refl _
  | b + 1, h => by
    by_cases c : a = b + 1
    · subst c
      exact Nat.le_refl _
    · have := mSum_mono (sz := sz) (a := a) b (by omega)
      show mSum sz a ≤ mSum sz b + mUp (sz (b + 1))
      omega
theorem mSum_at {sz : Nat → Option Nat} {k z : Nat} (h1 : 1 ≤ k) (hk : sz k = some z) : mSum sz k = mSum sz (k - 1) + up4 z := by
  obtain ⟨j, rfl⟩ : ∃ j, k = j + 1 := ⟨k - 1, by omega⟩
  show mSum sz j + mUp (sz (j + 1)) = _
  rw [hk]
  rfl
theorem mSum_skip {sz : Nat → Option Nat} {k : Nat} (h1 : 1 ≤ k) (hk : sz k = none) : mSum sz k = mSum sz (k - 1) := by
  obtain ⟨j, rfl⟩ : ∃ j, k = j + 1 := ⟨k - 1, by omega⟩
  show mSum sz j + mUp (sz (j + 1)) = _
  rw [hk]
  rfl
/-- those before lie before -/
theorem mSum_st {sz : Nat → Option Nat} {st : Nat → Nat} (g2 : ∀ j k y z, j < k → sz j = some y → sz k = some z → 0 < y → 0 < z → st j + up4 y ≤ st k) : ∀ n j z, sz j = some z → 0 < z → n < j → mSum sz n ≤ st j
  | 0, j, z, _, _, _ => Nat.zero_le _
  | n + 1, j, z, hj, hz, hn => by
    show mSum sz n + mUp (sz (n + 1)) ≤ st j
    cases e : sz (n + 1) with
    | none =>
      have := mSum_st g2 n j z hj hz (by omega)
      show _ + 0 ≤ _
      omega
    | some y =>
      rcases Nat.eq_zero_or_pos y with c | c
      · have := mSum_st g2 n j z hj hz (by omega)
        subst c
        show _ + up4 0 ≤ _
        have : up4 0 = 0 := rfl
        omega
      · have q1 := mSum_st g2 n (n + 1) y e c (by omega)
        have q2 := g2 (n + 1) j y z hn e hj c hz
        show _ + up4 y ≤ _
        omega
def tInv (M : MM) (pn : Nat) (st : Nat → Nat) (k : Nat) (tf pf : Nat → Int32) : Prop := (∀ j z, mSz M j = some z → j < k → tf j = nI (mSum (mSz M) (j - 1)) ∧ ∀ i, i < z → pf (mSum (mSz M) (j - 1) + i) = mCt M j i) ∧
  (∀ j z, mSz M j = some z → k ≤ j → tf j = nI (st j) ∧ ∀ i, i < z → pf (st j + i) = mCt M j i) ∧ ∀ i, i < pn → fits .byte (.int (pf i)) = true
theorem tInv_skip {M : MM} {pn : Nat} {st : Nat → Nat} {k : Nat} {tf pf : Nat → Int32} (h : tInv M pn st k tf pf) (hk : mSz M k = none) : tInv M pn st (k + 1) tf pf := by
  obtain ⟨h1, h2, h3⟩ := h
  refine ⟨fun j z hj hjk => h1 j z hj ?_, fun j z hj hjk => h2 j z hj (by omega), h3⟩
  have : j ≠ k := fun e => by rw [e, hk] at hj; cases hj
  omega
theorem tInv_step {M : MM} {pn : Nat} {st : Nat → Nat} {k z : Nat} {tf pf : Nat → Int32} (hI : MI M) (g2 : ∀ j k y z, j < k → mSz M j = some y → mSz M k = some z → 0 < y → 0 < z → st j + up4 y ≤ st k) (h : tInv M pn st k tf pf) (hk : mSz M k = some z) (hb : 0 < z → st k + up4 z ≤ pn) (hpn : pn ≤ 80000) (hs0 : z = 0 → st k ≤ pn) :
    tInv M pn st (k + 1) (upd tf k (nI (mSum (mSz M) (k - 1)))) (va_cpy pf pf (st k) (mSum (mSz M) (k - 1)) (up4 z)) := by
  obtain ⟨h1, h2, h3⟩ := h
  have hk1 := hI.2.2.1 k z hk
  have hle := up4_le z
  refine ⟨fun j y hj hjk => ?_, fun j y hj hjk => ?_, fun i hi => ?_⟩
  · have hj1 := hI.2.2.1 j y hj
    by_cases c : j = k
    · subst c
      cases hk.symm.trans hj
      refine ⟨upd_self _ _ _, fun i hi => ?_⟩
      rw [pk_cpy_in (by omega) (by omega), show mSum (mSz M) (j - 1) + i - mSum (mSz M) (j - 1) = i by omega]
      exact (h2 j z hk (Nat.le_refl _)).2 i hi
    · obtain ⟨q1, q2⟩ := h1 j y hj (by omega)
      refine ⟨by rw [upd_ne c]; exact q1, fun i hi => ?_⟩
      have e1 := mSum_at hj1.1 hj
      have e2 := mSum_mono (sz := mSz M) (a := j) (k - 1) (by omega)
      have e3 := up4_le y
      rw [pk_cpy_out (by omega)]
      exact q2 i hi
  · obtain ⟨q1, q2⟩ := h2 j y hj (by omega)
    refine ⟨by rw [upd_ne (by omega)]; exact q1, fun i hi => ?_⟩
    rw [pk_cpy_out ?_]
    · exact q2 i hi
    · rcases Nat.eq_zero_or_pos z with c | c
      · right
        have : up4 0 = 0 := rfl
        subst c
        have := mSum_st g2 (k - 1) j y hj (by omega) (by omega)
        omega
      · right
        have w1 := mSum_st g2 (k - 1) k z hk c (by omega)
        have w2 := g2 k j z y (by omega) hk hj c (by omega)
        omega
  · by_cases c : mSum (mSz M) (k - 1) ≤ i ∧ i < mSum (mSz M) (k - 1) + up4 z
    · rw [pk_cpy_in c.1 c.2]
      rcases Nat.eq_zero_or_pos z with d | d
      · subst d
        have : up4 0 = 0 := rfl
        omega
      · exact h3 _ (by have := hb d; omega)
    · rw [pk_cpy_out (by omega)]
      exact h3 i hi
def tdl (pn w : Nat) : Nat := if 2 * w ≤ pn then pn else min 80000 (2 * (2 * w))
def tkc (pn w : Nat) : Nat := if 2 * w ≤ pn then 0 else 1
def tks (pn w : Nat) : Nat := if 2 * w ≤ pn then 0 else tdl pn w
theorem cRep_bt {M : MM} {md bt nl pe rn pn : Nat} {sf tf uf pf : Nat → Int32} (h : cRep M md bt nl pe rn pn sf tf uf pf) : bt ≤ pn := by
  obtain ⟨hI, h1, h2, h3, h4, h5, h6, h7, h8, h9, h10, h11, h12, st0, g1, g2, g3⟩ := h
  rw [h2, hI.2.2.2.1]
  have key : ∀ n, n ≤ mMd M → mSum (mSz M) n ≤ pe := by
    intro n
    induction n with
    | zero => intro _; exact Nat.zero_le _
    | succ n ih =>
      intro hn
      show mSum (mSz M) n + mUp (mSz M (n + 1)) ≤ pe
      cases e : mSz M (n + 1) with
      | none => exact ih (by omega)
      | some y =>
        rcases Nat.eq_zero_or_pos y with c | c
        · subst c
          exact ih (by omega)
        · have q1 := mSum_st g2 n (n + 1) y e c (by omega)
          have q2 := (g1 (n + 1) y e).2.2 c
          show _ + up4 y ≤ _
          omega
  exact Nat.le_trans (key _ (Nat.le_refl _)) h6
theorem cRep_in {M : MM} {md bt nl pe rn pn : Nat} {sf tf uf pf : Nat → Int32} (h : cRep M md bt nl pe rn pn sf tf uf pf) {k z : Nat} (hk : mSz M k = some z) : mSum (mSz M) (k - 1) + up4 z ≤ bt := by
  obtain ⟨k1, k2, k3⟩ := h.1.2.2.1 k z hk
  have e1 := mSum_at k1 hk
  have e2 := mSum_mono (sz := mSz M) (a := k) (mMd M) k2
  rw [h.2.2.1, h.1.2.2.2.1]
  omega
theorem cRep_sz {M : MM} {md bt nl pe rn pn : Nat} {sf tf uf pf : Nat → Int32} (h : cRep M md bt nl pe rn pn sf tf uf pf) {k : Nat} (h1 : 1 ≤ k) (h2 : k ≤ md) : sf k = -1 ↔ mSz M k = none := by
  rw [h.2.2.2.2.2.2.2.2.2.2.1 k h1 h2]
  cases e : mSz M k with
  | none => exact ⟨fun _ => rfl, fun _ => rfl⟩
  | some z =>
    have := h.1.2.2.1 k z e
    exact ⟨fun q => absurd q (nI_nm1 (by omega)), fun q => by cases q⟩
/-- behind the tidying -/
theorem cRep_tidy {M : MM} {md bt nl pe rn pn : Nat} {sf tf uf pf tf2 pf2 : Nat → Int32} {st : Nat → Nat} (h : cRep M md bt nl pe rn pn sf tf uf pf) (ht : tInv M pn st (md + 1) tf2 pf2) : cRep M md bt nl bt rn pn sf tf2 uf pf2 := by
  have hbt := cRep_bt h
  obtain ⟨hI, h1, h2, h3, h4, h5, h6, h7, h8, h9, h10, h11, h12, st0, g1, g2, g3⟩ := h
  have hin : ∀ k z, mSz M k = some z → mSum (mSz M) (k - 1) + up4 z ≤ bt := by
    intro k z hk
    obtain ⟨k1, k2, k3⟩ := hI.2.2.1 k z hk
    have e1 := mSum_at k1 hk
    have e2 := mSum_mono (sz := mSz M) (a := k) (mMd M) k2
    rw [h2, hI.2.2.2.1]
    omega
  refine ⟨hI, h1, h2, h3, h4, h5, hbt, h7, h8, ht.2.2, h10, h11, h12, fun k => mSum (mSz M) (k - 1), ?_, ?_, ?_⟩
  · intro k z hk
    obtain ⟨k1, k2, k3⟩ := hI.2.2.1 k z hk
    have := hin k z hk
    exact ⟨(ht.1 k z hk (by omega)).1, by show mSum (mSz M) (k - 1) ≤ pn; omega, fun _ => this⟩
  · intro j k y z hjk hj hk _ _
    obtain ⟨k1, k2, k3⟩ := hI.2.2.1 j y hj
    have e1 := mSum_at k1 hj
    have e2 := mSum_mono (sz := mSz M) (a := j) (k - 1) (by omega)
    show mSum (mSz M) (j - 1) + up4 y ≤ mSum (mSz M) (k - 1)
    omega
  · intro k z i hk hi
    obtain ⟨k1, k2, k3⟩ := hI.2.2.1 k z hk
    exact (ht.1 k z hk (by omega)).2 i hi
/-- a longer pool with the same bytes -/
theorem cRep_pool {M : MM} {md bt nl pe rn pn qn : Nat} {sf tf uf pf : Nat → Int32} (h : cRep M md bt nl pe rn pn sf tf uf pf) (h1 : pn ≤ qn) (h2 : qn ≤ 80000) : cRep M md bt nl pe rn qn sf tf uf (va_cpy pf (fun _ => 0) 0 0 pn) := by
  obtain ⟨hI, e1, e2, e3, e4, e5, e6, e7, e8, e9, e10, e11, e12, st, g1, g2, g3⟩ := h
  have hc : ∀ i, i < pn → va_cpy pf (fun _ => 0) 0 0 pn i = pf i := fun i hi => by
    rw [pk_cpy_in (Nat.zero_le _) (by omega), show 0 + (i - 0) = i by omega]
  refine ⟨hI, e1, e2, e3, e4, e5, by omega, by omega, h2, fun i hi => ?_, e10, e11, e12, st, fun k z hk => ?_, g2, fun k z i hk hi => ?_⟩
  · by_cases c : i < pn
    · rw [hc i c]
      exact e9 i c
    · rw [pk_cpy_out (by omega)]
      rfl
  · obtain ⟨a1, a2, a3⟩ := g1 k z hk
    exact ⟨a1, by omega, a3⟩
  · have a3 := (g1 k z hk).2.2 (by omega)
    have := up4_le z
    rw [hc _ (by omega)]
    exact g3 k z i hk hi
