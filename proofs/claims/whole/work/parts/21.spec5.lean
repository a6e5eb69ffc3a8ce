/-! a new object -/
theorem wdf_at {f : Nat → Int32} {n d j : Nat} (h : j < n) : wdf f n d j = f j := by
  unfold wdf
  by_cases c : d ≤ n
  · rw [if_pos c]
  · rw [if_neg c, pk_cpy_in (Nat.zero_le _) (by omega), show 0 + (j - 0) = j by omega]
theorem wdl_gt {n d t : Nat} (hd : d ≤ t) : d ≤ wdl n d t := by
  unfold wdl
  by_cases c : d ≤ n
  · rw [if_pos c]
    exact c
  · rw [if_neg c]
    omega
theorem wdl_le {n d t : Nat} (hn : n ≤ t) : wdl n d t ≤ t := by
  unfold wdl
  by_cases c : d ≤ n
  · rw [if_pos c]
    exact hn
  · rw [if_neg c]
    omega
theorem wdl_ge {n d t : Nat} (hn : n ≤ t) : n ≤ wdl n d t := by
  unfold wdl
  by_cases c : d ≤ n
  · rw [if_pos c]
    exact Nat.le_refl _
  · rw [if_neg c]
    omega
theorem tdl_ge {pn w : Nat} (hw : w ≤ 40000) : w ≤ tdl pn w := by
  unfold tdl
  by_cases c : 2 * w ≤ pn
  · rw [if_pos c]
    omega
  · rw [if_neg c]
    omega
theorem mSum_make {sz : Nat → Option Nat} {n z : Nat} : mSum (fun k => if k = n + 1 then some z else sz k) (n + 1) = mSum sz n + up4 z := by
  show mSum _ n + mUp (if n + 1 = n + 1 then some z else sz (n + 1)) = _
  rw [if_pos rfl, mSum_congr n (f := fun k => if k = n + 1 then some z else sz k) (g := sz) (fun k _ h => if_neg (by omega))]
  rfl
theorem MI_make {M : MM} (h : MI M) {z : Nat} (gb : Bool) (hm : mMd M < 8000) (hz : z ≤ 4000) (hb : mBt M + up4 z ≤ 40000) : MI (mMake M z gb) := by
  obtain ⟨h1, h2, h3, h4, h5, h6, h7, h8⟩ := h
  have hnew : ∀ k, k ∈ mLs M → ¬ k = mMd M + 1 := fun k hk e => by
    obtain ⟨y, hy, -⟩ := h7 k hk
    have := h3 k y hy
    omega
  refine ⟨by show mMd M + 1 ≤ 8000; omega, hb, ?_, ?_, ?_, ?_, ?_, ?_⟩
  · intro k y hk
    have hk : (if k = mMd M + 1 then some z else mSz M k) = some y := hk
    show 1 ≤ k ∧ k ≤ mMd M + 1 ∧ y ≤ 4000
    by_cases c : k = mMd M + 1
    · rw [if_pos c] at hk
      cases hk
      omega
    · rw [if_neg c] at hk
      have := h3 k y hk
      omega
  · show mBt M + up4 z = mSum (fun k => if k = mMd M + 1 then some z else mSz M k) (mMd M + 1)
    rw [mSum_make, h4]
  · show (if gb = true then mLs M else (mMd M + 1) :: mLs M).length ≤ mMd M + 1
    cases gb
    · show (mLs M).length + 1 ≤ _
      omega
    · show (mLs M).length ≤ _
      omega
  · show (if gb = true then mLs M else (mMd M + 1) :: mLs M).Nodup
    cases gb
    · exact List.nodup_cons.mpr ⟨fun q => hnew _ q rfl, h6⟩
    · exact h6
  · intro k hk
    have hk : k ∈ (if gb = true then mLs M else (mMd M + 1) :: mLs M) := hk
    show ∃ y, (if k = mMd M + 1 then some z else mSz M k) = some y ∧ (if k = mMd M + 1 then gb else mGv M k) = false
    have old : k ∈ mLs M → ∃ y, (if k = mMd M + 1 then some z else mSz M k) = some y ∧ (if k = mMd M + 1 then gb else mGv M k) = false := by
      intro q
      rw [if_neg (hnew k q), if_neg (hnew k q)]
      exact h7 k q
    cases gb with
    | true => exact old hk
    | false =>
      rcases List.mem_cons.mp hk with q | q
      · rw [if_pos q, if_pos q]
        exact ⟨z, rfl, rfl⟩
      · exact old q
  · intro k y hk hg
    have hk : (if k = mMd M + 1 then some z else mSz M k) = some y := hk
    have hg : (if k = mMd M + 1 then gb else mGv M k) = false := hg
    show k ∈ (if gb = true then mLs M else (mMd M + 1) :: mLs M)
    by_cases c : k = mMd M + 1
    · rw [if_pos c] at hg
      rw [hg, c]
      exact List.mem_cons_self
    · rw [if_neg c] at hk hg
      have := h8 k y hk hg
      cases gb
      · exact List.mem_cons_of_mem _ this
      · exact this
theorem cRep_make {M : MM} {md bt nl pe rn pn z : Nat} {sf tf uf pf : Nat → Int32} (gb : Bool) (h : cRep M md bt nl pe rn pn sf tf uf pf) (hm : md < 8000) (hz : z ≤ 4000) (hb : bt + up4 z ≤ 40000) (hp : pe + up4 z ≤ pn) :
    cRep (mMake M z gb) (md + 1) (bt + up4 z) (if gb = true then nl else md + 1) (pe + up4 z) (wdl rn (md + 2) 8001) pn (upd (wdf sf rn (md + 2)) (md + 1) (nI z)) (upd (wdf tf rn (md + 2)) (md + 1) (nI pe)) (upd (wdf uf rn (md + 2)) (md + 1) (if gb = true then -1 else nI nl)) (va_cpy (fun _ => 0) pf 0 pe (up4 z)) := by
  obtain ⟨hI, h1, h2, h3, h4, h5, h6, h7, h8, h9, h10, h11, h12, st, g1, g2, g3⟩ := h
  have hold : ∀ k y, mSz (mMake M z gb) k = some y → (k = md + 1 ∧ y = z) ∨ (¬ k = md + 1 ∧ mSz M k = some y ∧ k ≤ md ∧ 1 ≤ k) := by
    intro k y hk
    have hk : (if k = mMd M + 1 then some z else mSz M k) = some y := hk
    rw [← h1] at hk
    by_cases c : k = md + 1
    · rw [if_pos c] at hk
      cases hk
      exact Or.inl ⟨c, rfl⟩
    · rw [if_neg c] at hk
      have := hI.2.2.1 k y hk
      exact Or.inr ⟨c, hk, by omega, this.1⟩
  have hu := up4_le z
  refine ⟨MI_make hI gb (by omega) hz (by omega), by rw [h1]; rfl, by rw [h2]; rfl, ?_, ?_, wdl_le h5, hp, h7, h8, ?_, ?_, ?_, ?_, fun k => if k = md + 1 then pe else st k, ?_, ?_, ?_⟩
  · show (if gb = true then nl else md + 1) = (if gb = true then mLs M else (mMd M + 1) :: mLs M).headD 0
    cases gb
    · show md + 1 = mMd M + 1
      omega
    · exact h3
  · have := wdl_gt (n := rn) (d := md + 2) (t := 8001) (by omega)
    omega
  · intro i hi
    by_cases c : pe ≤ i ∧ i < pe + up4 z
    · rw [pk_cpy_in c.1 c.2]
      rfl
    · rw [pk_cpy_out (by omega)]
      exact h9 i hi
  · intro k k1 k2
    show upd (wdf sf rn (md + 2)) (md + 1) (nI z) k = match (if k = mMd M + 1 then some z else mSz M k) with | some z => nI z | none => -1
    rw [← h1]
    by_cases c : k = md + 1
    · rw [if_pos c, c, upd_self]
    · rw [if_neg c, upd_ne c, wdf_at (by omega)]
      exact h10 k k1 (by omega)
  · intro k y hk hg
    have hg : (if k = mMd M + 1 then gb else mGv M k) = true := hg
    rw [← h1] at hg
    rcases hold k y hk with ⟨c, -⟩ | ⟨c, q, q2, -⟩
    · rw [if_pos c] at hg
      rw [c, upd_self, hg]
      rfl
    · rw [if_neg c] at hg
      rw [upd_ne c, wdf_at (by omega)]
      exact h11 k y q hg
  · have hold2 : ∀ i, i < (mLs M).length → upd (wdf uf rn (md + 2)) (md + 1) (if gb = true then -1 else nI nl) ((mLs M).getD i 0) = nI ((mLs M).getD (i + 1) 0) := by
      intro i hi
      have hmem : (mLs M).getD i 0 ∈ mLs M := by rw [List.getD_eq_getElem?_getD, List.getElem?_eq_getElem hi]; exact List.getElem_mem hi
      obtain ⟨y, hy, -⟩ := hI.2.2.2.2.2.2.1 _ hmem
      have := hI.2.2.1 _ y hy
      rw [upd_ne (by omega), wdf_at (by omega)]
      exact h12 i hi
    show ∀ i, i < (if gb = true then mLs M else (mMd M + 1) :: mLs M).length → _
    cases gb with
    | true => exact hold2
    | false =>
      intro i hi
      rcases Nat.eq_zero_or_pos i with c | c
      · subst c
        show upd _ (md + 1) (nI nl) (mMd M + 1) = nI ((mLs M).getD 0 0)
        rw [← h1, upd_self, h3]
        cases mLs M <;> rfl
      · obtain ⟨j, rfl⟩ : ∃ j, i = j + 1 := ⟨i - 1, by omega⟩
        have hi : j + 1 < (mLs M).length + 1 := hi
        exact hold2 j (by omega)
  · intro k y hk
    show _ = nI (if k = md + 1 then pe else st k) ∧ (if k = md + 1 then pe else st k) ≤ pn ∧ (0 < y → (if k = md + 1 then pe else st k) + up4 y ≤ pe + up4 z)
    rcases hold k y hk with ⟨c, q⟩ | ⟨c, q, q2, -⟩
    · rw [if_pos c, c, upd_self, q]
      exact ⟨rfl, by omega, fun _ => Nat.le_refl _⟩
    · obtain ⟨a1, a2, a3⟩ := g1 k y q
      rw [if_neg c, upd_ne c, wdf_at (by omega)]
      exact ⟨a1, a2, fun hy => by have := a3 hy; omega⟩
  · intro j k y x hjk hj hk hy hx
    show (if j = md + 1 then pe else st j) + up4 y ≤ (if k = md + 1 then pe else st k)
    rcases hold j y hj with ⟨c, q⟩ | ⟨c, q, q2, -⟩
    · rcases hold k x hk with ⟨c2, r⟩ | ⟨c2, r, r2, -⟩ <;> omega
    · rw [if_neg c]
      rcases hold k x hk with ⟨c2, r⟩ | ⟨c2, r, r2, -⟩
      · rw [if_pos c2]
        exact (g1 j y q).2.2 hy
      · rw [if_neg c2]
        exact g2 j k y x hjk q r hy hx
  · intro k y i hk hi
    show va_cpy (fun _ => 0) pf 0 pe (up4 z) ((if k = md + 1 then pe else st k) + i) = (if k = mMd M + 1 then fun _ => 0 else mCt M k) i
    rw [← h1]
    rcases hold k y hk with ⟨c, q⟩ | ⟨c, q, q2, -⟩
    · rw [if_pos c, if_pos c, pk_cpy_in (by omega) (by omega)]
    · have a3 := (g1 k y q).2.2 (by omega)
      have := up4_le y
      rw [if_neg c, if_neg c, pk_cpy_out (by omega)]
      exact g3 k y i q hi
/-- how often a row can still grow -/
def zi (a n : Nat) : Nat := if n < a then 1 else 0
theorem zi_1 {a n : Nat} (h : n < a) : zi a n = 1 := if_pos h
theorem zi_0 {a n : Nat} (h : a ≤ n) : zi a n = 0 := if_neg (by omega)
theorem zi_dn {t a b n k : Nat} (hk : t ≤ k ∨ 2 * n ≤ k) (hab : a ≤ 2 * b) (ha : a ≤ t) : zi a k ≤ zi b n := by
  by_cases c : n < b
  · rw [zi_1 c]
    unfold zi
    split <;> omega
  · rw [zi_0 (a := a) (n := k) (by omega)]
    exact Nat.zero_le _
def phP (n : Nat) : Nat := zi 80000 n + zi 40000 n + zi 20000 n + zi 10000 n + zi 5000 n + zi 2500 n + zi 1250 n + zi 625 n + zi 313 n
def phR (n : Nat) : Nat := zi 8001 n + zi 4001 n + zi 2001 n + zi 1001 n + zi 501 n + zi 251 n + zi 126 n + zi 63 n + zi 32 n
theorem phP_dn {n k : Nat} (h2 : 256 ≤ n) (hk : 80000 ≤ k ∨ 2 * n ≤ k) (hn : n < 80000) : phP k + 1 ≤ phP n := by
  have q0 := zi_1 hn
  have q1 := zi_dn (a := 80000) (b := 40000) hk (by decide) (by decide)
  have q2 := zi_dn (a := 40000) (b := 20000) hk (by decide) (by decide)
  have q3 := zi_dn (a := 20000) (b := 10000) hk (by decide) (by decide)
  have q4 := zi_dn (a := 10000) (b := 5000) hk (by decide) (by decide)
  have q5 := zi_dn (a := 5000) (b := 2500) hk (by decide) (by decide)
  have q6 := zi_dn (a := 2500) (b := 1250) hk (by decide) (by decide)
  have q7 := zi_dn (a := 1250) (b := 625) hk (by decide) (by decide)
  have q8 := zi_dn (a := 625) (b := 313) hk (by decide) (by decide)
  have q9 := zi_0 (a := 313) (n := k) (by omega)
  unfold phP
  omega
theorem phR_dn {n k : Nat} (h2 : 16 ≤ n) (hk : 8001 ≤ k ∨ 2 * n ≤ k) (hn : n < 8001) : phR k + 1 ≤ phR n := by
  have q0 := zi_1 hn
  have q1 := zi_dn (a := 8001) (b := 4001) hk (by decide) (by decide)
  have q2 := zi_dn (a := 4001) (b := 2001) hk (by decide) (by decide)
  have q3 := zi_dn (a := 2001) (b := 1001) hk (by decide) (by decide)
  have q4 := zi_dn (a := 1001) (b := 501) hk (by decide) (by decide)
  have q5 := zi_dn (a := 501) (b := 251) hk (by decide) (by decide)
  have q6 := zi_dn (a := 251) (b := 126) hk (by decide) (by decide)
  have q7 := zi_dn (a := 126) (b := 63) hk (by decide) (by decide)
  have q8 := zi_dn (a := 63) (b := 32) hk (by decide) (by decide)
  have q9 := zi_0 (a := 32) (n := k) (by omega)
  unfold phR
  omega
theorem fuP {pn w : Nat} (h2 : 256 ≤ pn) (hp : pn ≤ 80000) (hw : w ≤ 40000) : tkc pn w + phP (tdl pn w) ≤ phP pn ∧ tks pn w + 80000 * phP (tdl pn w) ≤ 80000 * phP pn := by
  unfold tkc tks
  by_cases c : 2 * w ≤ pn
  · rw [if_pos c, if_pos c]
    unfold tdl
    rw [if_pos c]
    omega
  · rw [if_neg c, if_neg c]
    have e : tdl pn w = min 80000 (2 * (2 * w)) := if_neg c
    have := phP_dn (n := pn) (k := tdl pn w) h2 (by omega) (by omega)
    omega
theorem fuR {rn md : Nat} (h2 : 16 ≤ rn) (hp : rn ≤ 8001) (hm : md < rn) (hm8 : md < 8000) : wkc rn (md + 2) + phR (wdl rn (md + 2) 8001) ≤ phR rn ∧ wks rn (md + 2) 8001 + 8001 * phR (wdl rn (md + 2) 8001) ≤ 8001 * phR rn := by
  unfold wkc wks
  by_cases c : md + 2 ≤ rn
  · rw [if_pos c, if_pos c]
    unfold wdl
    rw [if_pos c]
    omega
  · rw [if_neg c, if_neg c]
    have e : wdl rn (md + 2) 8001 = min 8001 (max (md + 2) (2 * rn)) := if_neg c
    have := phR_dn (n := rn) (k := wdl rn (md + 2) 8001) h2 (by omega) (by omega)
    omega
def mMk (M : MM) (n : Int32) (gb : Bool) : Option MM := if 0 ≤ n.toInt ∧ n.toInt ≤ 4000 ∧ mMd M < 8000 ∧ mBt M + up4 n.toInt.toNat ≤ 40000 then some (mMake M n.toInt.toNat gb) else none
/-- the class's memory as it lies: numbers; lengths; addresses; rows -/
abbrev CM : Type := (Nat × Nat × Nat × Nat × Nat) × (Nat × Nat) × (Nat × Nat × Nat × Nat) × ((Nat → Int32) × (Nat → Int32) × (Nat → Int32) × (Nat → Int32))
def cMd (c : CM) : Nat := c.1.1
def cBt (c : CM) : Nat := c.1.2.1
def cLo (c : CM) : Nat := c.1.2.2.1
def cNl (c : CM) : Nat := c.1.2.2.2.1
def cPe (c : CM) : Nat := c.1.2.2.2.2
def cRn (c : CM) : Nat := c.2.1.1
def cPn (c : CM) : Nat := c.2.1.2
def cSa (c : CM) : Nat := c.2.2.1.1
def cTa (c : CM) : Nat := c.2.2.1.2.1
def cFa (c : CM) : Nat := c.2.2.1.2.2.1
def cPa (c : CM) : Nat := c.2.2.1.2.2.2
def cSf (c : CM) : Nat → Int32 := c.2.2.2.1
def cTf (c : CM) : Nat → Int32 := c.2.2.2.2.1
def cUf (c : CM) : Nat → Int32 := c.2.2.2.2.2.1
def cPf (c : CM) : Nat → Int32 := c.2.2.2.2.2.2
/-- such a memory lies so -/
def cR (M : MM) (c : CM) : Prop := cRep M (cMd c) (cBt c) (cNl c) (cPe c) (cRn c) (cPn c) (cSf c) (cTf c) (cUf c) (cPf c) ∧ cLo c = (mLs M).length ∧ 16 ≤ cRn c
def fuC (c : CM) : Nat := phP (cPn c) + 3 * phR (cRn c)
def fuS (c : CM) : Nat := 80000 * phP (cPn c) + 3 * (8001 * phR (cRn c))
