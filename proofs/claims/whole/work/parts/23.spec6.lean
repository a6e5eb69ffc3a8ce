/-! what the class's memory answers, in own words -/
def mHs (M : MM) (a n : Int32) : Int32 := match mSz M (zN a / 65536) with
  | some z => if nI z < (a &&& 65535) + n then 0 else 1
  | none => 0
def mHsA (M : MM) (a n : Int32) : Int32 := if (a &&& (n - 1)) = 0 then (if mHs M a n = 0 then 0 else 1) else 0
def mRd (M : MM) (a n : Int32) : Int32 := zrd (fun i => mCt M (zN a / 65536) (zN a % 65536 + i)) (zN n) 0
/-- contents behind a write, behind a copy -/
def mWr (M : MM) (a n v : Int32) : MM := mPut M (zN a / 65536) (zwt (mCt M (zN a / 65536)) (zN a % 65536) (zN n) v)
def mCp (M : MM) (a b n : Int32) : MM := mPut M (zN a / 65536) (va_cpy (mCt M (zN b / 65536)) (mCt M (zN a / 65536)) (zN b % 65536) (zN a % 65536) (zN n))
theorem cRep_holds {M : MM} {md bt nl pe rn pn : Nat} {sf tf uf pf : Nat → Int32} (h : cRep M md bt nl pe rn pn sf tf uf pf) (a n : Int32) : sp_Me_holds a n md sf = mHs M a n := by
  have hz := zN_lt a
  unfold sp_Me_holds mHs
  rw [z_u16, cRep_there h (by omega)]
  cases e : mSz M (zN a / 65536) with
  | none => rfl
  | some z =>
    have ha := cRep_at h e
    show (if (if True then (1 : Int32) else 0) = 0 then (0 : Int32) else _) = _
    rw [if_pos trivial, if_neg (by decide), nI_clamp (by omega), ha.2.2.1]
theorem cRep_holdsA {M : MM} {md bt nl pe rn pn : Nat} {sf tf uf pf : Nat → Int32} (h : cRep M md bt nl pe rn pn sf tf uf pf) (a n : Int32) : sp_Me_holdsAligned a n md sf = mHsA M a n := by
  unfold sp_Me_holdsAligned mHsA
  rw [cRep_holds h]
theorem mHsA_hs {M : MM} {a n : Int32} (h : ¬ mHsA M a n = 0) : ¬ mHs M a n = 0 := by
  intro q
  unfold mHsA at h
  rw [q] at h
  split at h <;> exact absurd rfl h
theorem cRep_spot {M : MM} {md bt nl pe rn pn : Nat} {sf tf uf pf : Nat → Int32} (h : cRep M md bt nl pe rn pn sf tf uf pf) {a n : Int32} (hh : ¬ mHs M a n = 0) (h1 : 1 ≤ zN n) (h2 : zN n ≤ 4000) :
    ∃ a0 z, zN a / 65536 < rn ∧ rn ≤ 8001 ∧ sp_Me_spot a tf = nI a0 ∧ a0 + zN n ≤ pn ∧ pn ≤ 80000 ∧ mSz M (zN a / 65536) = some z ∧ zN a % 65536 + zN n ≤ z ∧ (∃ q, a0 = q + zN a % 65536 ∧ tf (zN a / 65536) = nI q) ∧ ∀ i, i < zN n → pf (a0 + i) = mCt M (zN a / 65536) (zN a % 65536 + i) := by
  have hz := zN_lt a
  unfold mHs at hh
  cases e : mSz M (zN a / 65536) with
  | none =>
    rw [e] at hh
    exact absurd rfl hh
  | some z =>
    rw [e] at hh
    obtain ⟨b1, b2, b3, b4, ⟨q, c1, c2, c3, c4⟩, b5, b6, b7⟩ := cRep_at h e
    have hn : n = nI (zN n) := z_of n
    have hle : zN a % 65536 + zN n ≤ z := by
      refine Nat.not_lt.mp (fun c => hh ?_)
      show (if nI z < (a &&& 65535) + n then (0 : Int32) else 1) = 0
      rw [z_a16, hn, nI_add]
      exact if_pos (nI_lt c (by omega))
    have hp := h.2.2.2.2.2.2.2.2.1
    have c5 := c3 (by omega)
    have hu := up4_le z
    refine ⟨q + zN a % 65536, z, b1, b2, ?_, by omega, hp, rfl, hle, ⟨q, rfl, c1⟩, fun i hi => ?_⟩
    · unfold sp_Me_spot
      rw [z_u16, nI_clamp (by omega), c1, z_a16, nI_add]
    · rw [Nat.add_assoc]
      exact c4 _ (by omega)
theorem zrd_congr {f g : Nat → Int32} : ∀ (k : Nat) (v : Int32), (∀ i, i < k → f i = g i) → zrd f k v = zrd g k v
  | 0, _, _ => rfl
  | k + 1, v, h => by
    unfold zrd
    rw [h k (by omega)]
    exact zrd_congr k _ (fun i hi => h i (by omega))
theorem cRep_put {M : MM} {md bt nl pe rn pn : Nat} {sf tf uf pf pf2 : Nat → Int32} (h : cRep M md bt nl pe rn pn sf tf uf pf) {o z q : Nat} {f : Nat → Int32} (ho : mSz M o = some z) (hz : 0 < z) (hq : tf o = nI q) (hq8 : q ≤ 80000) (h1 : ∀ i, i < z → pf2 (q + i) = f i) (h2 : ∀ p, (p < q ∨ q + z ≤ p) → pf2 p = pf p) (h3 : ∀ i, i < pn → fits .byte (.int (pf2 i)) = true) :
    cRep (mPut M o f) md bt nl pe rn pn sf tf uf pf2 := by
  obtain ⟨hI, e1, e2, e3, e4, e5, e6, e7, e8, e9, e10, e11, e12, st, g1, g2, g3⟩ := h
  have hst : st o = q := by
    obtain ⟨a1, a2, a3⟩ := g1 o z ho
    exact (nI_eq (by omega) (by omega)).mp (a1.symm.trans hq)
  refine ⟨hI, e1, e2, e3, e4, e5, e6, e7, e8, h3, e10, e11, e12, st, g1, g2, fun k y i hk hi => ?_⟩
  have hk : mSz M k = some y := hk
  show pf2 (st k + i) = (if k = o then f else mCt M k) i
  by_cases c : k = o
  · subst c
    cases hk.symm.trans ho
    rw [if_pos rfl, hst]
    exact h1 i hi
  · rw [if_neg c, h2 _ ?_]
    · exact g3 k y i hk hi
    · have u1 := up4_le y
      have u2 := up4_le z
      rcases Nat.lt_or_gt_of_ne c with d | d
      · have := g2 k o y z d hk ho (by omega) hz
        left
        omega
      · have := g2 o k z y d ho hk hz (by omega)
        right
        omega
theorem zwt_fit {f : Nat → Int32} {a k : Nat} {v : Int32} {n : Nat} (h : ∀ i, i < n → fits .byte (.int (f i)) = true) : ∀ i, i < n → fits .byte (.int (zwt f a k v i)) = true := by
  intro i hi
  unfold zwt
  by_cases c : a ≤ i ∧ i < a + k
  · rw [if_pos c]
    exact pk_fb _
  · rw [if_neg c]
    exact h i hi
theorem cRep_write {M : MM} {md bt nl pe rn pn : Nat} {sf tf uf pf : Nat → Int32} (h : cRep M md bt nl pe rn pn sf tf uf pf) {a n v : Int32} {a0 z q : Nat} (h1 : 1 ≤ zN n) (ho : mSz M (zN a / 65536) = some z) (hle : zN a % 65536 + zN n ≤ z) (ha : a0 = q + zN a % 65536) (ha8 : a0 ≤ 80000) (hq : tf (zN a / 65536) = nI q) : cRep (mWr M a n v) md bt nl pe rn pn sf tf uf (zwt pf a0 (zN n) v) := by
  obtain ⟨b1, b2, b3, b4, ⟨q', c1, c2, c3, c4⟩, b5, b6, b7⟩ := cRep_at h ho
  have hqq : q' = q := (nI_eq (by omega) (by omega)).mp (c1.symm.trans hq)
  subst hqq
  refine cRep_put h ho (by omega) hq c2 (fun i hi => ?_) (fun p hp => ?_) (zwt_fit h.2.2.2.2.2.2.2.2.2.1)
  · unfold zwt
    by_cases c : zN a % 65536 ≤ i ∧ i < zN a % 65536 + zN n
    · rw [if_pos (by omega), if_pos c, show q' + i - a0 = i - zN a % 65536 by omega]
    · rw [if_neg (by omega), if_neg c]
      exact c4 i hi
  · unfold zwt
    rw [if_neg (by omega)]
theorem zsz_d : ∀ j, j < 4 → 1 ≤ zN ((1 : Int32) <<< (nI j &&& 31)) ∧ zN ((1 : Int32) <<< (nI j &&& 31)) ≤ 4000 := by decide
theorem zsz (k : Int32) : 1 ≤ zN ((1 : Int32) <<< ((k &&& 3) &&& 31)) ∧ zN ((1 : Int32) <<< ((k &&& 3) &&& 31)) ≤ 4000 := by
  obtain ⟨j, hj, e⟩ := pk_andE k (m := 3) 2 (by decide)
  rw [e]
  exact zsz_d j hj
theorem zsz2 (w : Int32) (h : sp_Rv_middle w ≤ 2) : 1 ≤ zN ((1 : Int32) <<< (sp_Rv_middle w &&& 31)) ∧ zN ((1 : Int32) <<< (sp_Rv_middle w &&& 31)) ≤ 4000 := by
  obtain ⟨j, hj, e⟩ := pk_andE (zushr w 12) (m := 7) 3 (by decide)
  have e : sp_Rv_middle w = nI j := e
  rw [e] at h ⊢
  have := z_le' (a := j) (b := 2) (by omega) h
  exact zsz_d j (by omega)
