/-! what the law keeps between two calls -/
def LInv (wl : Nat) (c0 : CM) (ui uh : Nat) (uq : Nat → Int32) (oi oh : Nat) (oqf : Nat → Int32) (rc : RM) (M : MM) (I O : List Int32) (nx : Int32) (wn1 : Nat) (wf : Nat → Int32) : Prop := cR M c0 ∧ bR 1000 I ui uh uq ∧ bR 4096 O oi oh oqf ∧ rR M I O rc ∧ wn1 ≤ 4000 ∧ wn1 ≤ wl ∧ wl ≤ 4000 ∧ (∀ j, wn1 ≤ j → wf j = 0) ∧ nx &&& 3 = 0
theorem nI_in2 {x : Int32} {n : Nat} (hn : n < 2 ^ 31) (h : 0 ≤ x.toInt ∧ x.toInt < (nI n).toInt) : ∃ k, k < n ∧ x = nI k ∧ x.toNatClampNeg = k := by
  have h0 : ¬ x < 0 := fun q => by
    have q1 := z_lt q
    have k0 : ((0) : Int32).toInt = 0 := by decide
    omega
  obtain ⟨k, hk, rfl⟩ := nI_of h0
  rw [nI_toInt hk, nI_toInt hn] at h
  exact ⟨k, by omega, rfl, nI_clamp hk⟩
theorem wk_le {n d : Nat} (h : n ≤ 4000) : wkc n d ≤ 1 ∧ wks n d 4000 ≤ 4000 := by
  unfold wkc wks
  by_cases c : d ≤ n
  · rw [if_pos c, if_pos c]
    omega
  · rw [if_neg c, if_neg c]
    exact ⟨Nat.le_refl _, wdl_le h⟩
theorem mow_n {w : Int32} {n : Nat} {wf : Nat → Int32} (h : n < 4000) : sp_Mo_word w (nI n) wf = (nI (n + 1), 0, nI (n + 1), upd wf n w) := by
  unfold sp_Mo_word
  rw [if_neg (fun q => by have e : n = 4000 := (nI_eq (b := 4000) (by omega) (by omega)).mp q; omega), nI_1, nI_clamp (by omega)]
theorem mow_t {w : Int32} {n : Nat} {wf : Nat → Int32} (h : n = 4000) : sp_Mo_word w (nI n) wf = (0, 1, nI n, wf) := by
  subst h
  unfold sp_Mo_word
  exact if_pos rfl
theorem moc_n {k w wn : Int32} {wf : Nat → Int32} (h : 0 ≤ k.toInt ∧ k.toInt < wn.toInt) : sp_Mo_change k w wn wf = (wf k.toNatClampNeg, 0, upd wf k.toNatClampNeg w) := by
  unfold sp_Mo_change
  rw [if_neg (fun q => by have q1 := z_lt q; have k0 : ((0) : Int32).toInt = 0 := (by decide); omega), if_pos (Int32.lt_iff_toInt_lt.mpr h.2)]
theorem moc_t {k w wn : Int32} {wf : Nat → Int32} (h : ¬ (0 ≤ k.toInt ∧ k.toInt < wn.toInt)) : sp_Mo_change k w wn wf = (0, 1, wf) := by
  unfold sp_Mo_change
  by_cases c : k < 0
  · rw [if_pos c]
  · have q1 := z_nlt c
    have k0 : ((0) : Int32).toInt = 0 := by decide
    rw [if_neg c, if_neg (fun q => by have q2 := z_lt q; omega)]
theorem mor_n {k pc : Int32} {rg : Nat → Int32} (h : 0 ≤ k.toInt ∧ k.toInt ≤ 32) : sp_Mo_register k pc rg = (sp_Rv_register k pc rg, 0) := by
  have k0 : ((0) : Int32).toInt = 0 := by decide
  have k2 : ((32) : Int32).toInt = 32 := by decide
  unfold sp_Mo_register sp_Rv_register
  rw [if_neg (fun q => by have q1 := z_lt q; omega), if_pos (Int32.le_iff_toInt_le.mpr (by omega))]
  by_cases c : k = 32
  · rw [if_pos c, if_pos c]
  · rw [if_neg c, if_neg c]
theorem mor_t {k pc : Int32} {rg : Nat → Int32} (h : ¬ (0 ≤ k.toInt ∧ k.toInt ≤ 32)) : sp_Mo_register k pc rg = (0, 1) := by
  have k0 : ((0) : Int32).toInt = 0 := by decide
  have k2 : ((32) : Int32).toInt = 32 := by decide
  unfold sp_Mo_register
  by_cases c : k < 0
  · rw [if_pos c]
  · have q1 := z_nlt c
    rw [if_neg c, if_neg (fun q => by have q2 := z_le q; omega)]
theorem mos_n {k v : Int32} {rg : Nat → Int32} (h : 1 ≤ k.toInt ∧ k.toInt ≤ 31) : sp_Mo_set k v rg = (rg k.toNatClampNeg, 0, upd rg k.toNatClampNeg v) := by
  have k0 : ((1) : Int32).toInt = 1 := by decide
  have k2 : ((31) : Int32).toInt = 31 := by decide
  unfold sp_Mo_set
  rw [if_neg (fun q => by have q1 := z_lt q; omega), if_pos (Int32.le_iff_toInt_le.mpr (by omega))]
theorem mos_t {k v : Int32} {rg : Nat → Int32} (h : ¬ (1 ≤ k.toInt ∧ k.toInt ≤ 31)) : sp_Mo_set k v rg = (0, 1, rg) := by
  have k0 : ((1) : Int32).toInt = 1 := by decide
  have k2 : ((31) : Int32).toInt = 31 := by decide
  unfold sp_Mo_set
  by_cases c : k < 1
  · rw [if_pos c]
  · have q1 := z_nlt c
    rw [if_neg c, if_neg (fun q => by have q2 := z_le q; omega)]
theorem mon_n {k wn dn : Int32} {a b d u o : Nat} (h : 0 ≤ k.toInt ∧ k.toInt ≤ 6) : sp_Mo_count k wn dn (nI a) (nI d) (nI b) (nI u) (nI o) = (sp_Rv_count k wn dn a b d u o, 0) := by
  have k0 : ((0) : Int32).toInt = 0 := by decide
  have k2 : ((6) : Int32).toInt = 6 := by decide
  unfold sp_Mo_count sp_Rv_count
  rw [if_neg (fun q => by have q1 := z_lt q; omega), if_pos (Int32.le_iff_toInt_le.mpr (by omega))]
  repeat' split
  all_goals rfl
theorem mon_t {k wn dn a b d u o : Int32} (h : ¬ (0 ≤ k.toInt ∧ k.toInt ≤ 6)) : sp_Mo_count k wn dn a d b u o = (0, 1) := by
  have k0 : ((0) : Int32).toInt = 0 := by decide
  have k2 : ((6) : Int32).toInt = 6 := by decide
  unfold sp_Mo_count
  by_cases c : k < 0
  · rw [if_pos c]
  · have q1 := z_nlt c
    rw [if_neg c, if_neg (fun q => by have q2 := z_le q; omega)]
theorem rRep_empty {M : MM} {md lq tp tr : Nat} {af zf of lf rf : Nat → Int32} (h : rRep M md lq tp tr af zf of lf rf) : rRep mEmpty 0 0 0 0 af zf of lf rf :=
  ⟨MI_empty, rfl, rfl, rfl, Nat.zero_le _, h.2.2.2.2.2.1, (fun k h1 h2 => by omega), (fun k z h => by cases h), (fun i h => absurd h (Nat.not_lt_zero _)), fun _ => 0, (fun k z h => by cases h), (fun j k y z _ h => by cases h), (fun k z i h => by cases h)⟩
theorem jR_empty {cap n : Nat} {L : List Int32} {f : Nat → Int32} (h : jR cap L n f) : jR cap [] 0 f := ⟨rfl, Nat.zero_le _, h.2.2.1, (fun i h => absurd h (Nat.not_lt_zero _)), h.2.2.2.2⟩
theorem bR_empty {cap fi he : Nat} {L : List Int32} {f : Nat → Int32} (h : bR cap L fi he f) : bR cap [] 0 0 f := ⟨Nat.lt_of_le_of_lt (Nat.zero_le _) h.1, rfl, Nat.zero_le _, h.2.2.2.1, fun i h => absurd h (Nat.not_lt_zero _)⟩
theorem four_pc {k : Int32} {n : Nat} (hn : n ≤ 4000) (h : 0 ≤ k.toInt ∧ k.toInt < (nI n).toInt) : (4 * k) &&& 3 = 0 := by
  obtain ⟨j, hj, e, -⟩ := nI_in2 (by omega) h
  have e2 : 4 * k = nI (4 * j) := by rw [e]; exact pk_mul 4 j
  have e3 : (4 * k) &&& 3 = nI (zN (4 * k) % 4) := pk_and (4 * k) 2 (by decide)
  rw [e3, e2, zN_nI (by omega), show 4 * j % 4 = 0 by omega]
  rfl
theorem run_pc {wc : Int32} {wf : Nat → Int32} : ∀ (j : Nat) (y : XS), y.2.2.2.2.2.2.1 &&& 3 = 0 → (xRun wc wf j y).2.2.2.2.2.2.1 &&& 3 = 0
  | 0, _, h => h
  | j + 1, y, h => by
    rw [xRun]
    by_cases c : y.2.2.2.2.1 = 1
    · rw [if_pos c]
      exact run_pc j _ (next_pc h)
    · rw [if_neg c]
      exact h
theorem peek_x {M : MM} (hM : MI M) {ad r : Int32} (h : (mPl M ad 1 ∧ r = mCt M (zN ad / 65536) (zN ad % 65536) &&& 255) ∨ (¬ mPl M ad 1 ∧ r = -1)) : sp_Rv_peek ad M = r := by
  have hh := mHs_iff hM (a := ad) (k := 1) (by omega)
  unfold sp_Rv_peek
  rcases h with ⟨h1, h2⟩ | ⟨h1, h2⟩
  · rw [if_neg (show ¬ mHs M ad 1 = 0 from hh.mpr h1.1), h2]
    unfold mRd
    rw [show zN 1 = 1 by decide]
    unfold zrd
    unfold zrd
    rw [show ((0 : Int32) <<< ((8 : Int32) &&& 31)) = 0 by decide, Int32.zero_or]
    rfl
  · have d : mHs M ad 1 = 0 := Classical.byContradiction (fun q => h1 ⟨hh.mp q, Nat.mod_one _⟩)
    rw [if_pos d, h2]
theorem xIn_len {w : Int64} {k n : Nat} {I : List Int32} {f : Nat → Int32} (hk : k ≤ 8) (h : jR 1000 (rIn w k I) n f) : (xIn w k I).length = n := by
  rw [← rIn_x w k hk I]
  exact h.1.symm
theorem z_known {args : Array Value} {s : State} (hw : ∀ w ∈ zW, w.before args s = true) : ∃ (D : va_G) (cI cB cJ : ClassId), va_K D zC (zT cI cB cJ) s := by
  obtain ⟨c0, i0, k0⟩ := u_known hw ly_Rv (hw _ ib_0)
  obtain ⟨c1, i1, k1⟩ := u_known hw ly_Me (hw _ ib_1)
  obtain ⟨c2, i2, k2⟩ := u_known hw ly_By (hw _ ib_2)
  obtain ⟨c3, i3, k3⟩ := u_known hw ly_Mo (hw _ ib_3)
  obtain ⟨cI, kI, pI, fI, gI, jI⟩ := Cond.arrayClass_spec (hw _ aw_int)
  obtain ⟨cB, kB, pB, fB, gB, jB⟩ := Cond.arrayClass_spec (hw _ aw_byte)
  obtain ⟨cJ, kJ, pJ, fJ, gJ, jJ⟩ := Cond.arrayClass_spec (hw _ aw_long)
  refine ⟨(fun c => match c with | 0 => c0 | 1 => c1 | 2 => c2 | _ => c3, fun c => match c with | 0 => i0 | 1 => i1 | 2 => i2 | _ => i3), cI, cB, cJ, ?_, ?_⟩
  · intro c q hq
    match c, hq with
    | 0, hq => cases hq; exact k0
    | 1, hq => cases hq; exact k1
    | 2, hq => cases hq; exact k2
    | 3, hq => cases hq; exact k3
    | n + 4, hq => cases hq
  · intro k q hk
    match k, hk with
    | 0, hk => cases hk; exact ⟨fun n z => ⟨fun k h => (by cases h), kI, gI, pI, jI⟩, fI⟩
    | 1, hk => cases hk; exact ⟨fun n z => ⟨fun k h => (by cases h), kB, gB, pB, jB⟩, fB⟩
    | 2, hk => cases hk; exact ⟨fun n z => ⟨fun k h => (by cases h), kJ, gJ, pJ, jJ⟩, fJ⟩
    | n + 3, hk => cases hk
