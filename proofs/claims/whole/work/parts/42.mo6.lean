/-! decode rows -/
theorem d_Mo_object_0 : decode b_Mo_object 0 = .ok (.iload_n 1, 1) := by decide +kernel
theorem d_Mo_object_1 : decode b_Mo_object 1 = .ok (.ifCond .lt 34, 3) := by decide +kernel
theorem d_Mo_object_4 : decode b_Mo_object 4 = .ok (.iload_n 1, 1) := by decide +kernel
theorem d_Mo_object_5 : decode b_Mo_object 5 = .ok (.sipush 4000, 3) := by decide +kernel
theorem d_Mo_object_8 : decode b_Mo_object 8 = .ok (.if_icmp .gt 27, 3) := by decide +kernel
theorem d_Mo_object_11 : decode b_Mo_object 11 = .ok (.aload_n 0, 1) := by decide +kernel
theorem d_Mo_object_12 : decode b_Mo_object 12 = .ok (.getfield 74, 3) := by decide +kernel
theorem d_Mo_object_15 : decode b_Mo_object 15 = .ok (.sipush 8000, 3) := by decide +kernel
theorem d_Mo_object_18 : decode b_Mo_object 18 = .ok (.if_icmp .eq 17, 3) := by decide +kernel
theorem d_Mo_object_21 : decode b_Mo_object 21 = .ok (.aload_n 0, 1) := by decide +kernel
theorem d_Mo_object_22 : decode b_Mo_object 22 = .ok (.getfield 77, 3) := by decide +kernel
theorem d_Mo_object_25 : decode b_Mo_object 25 = .ok (.iload_n 1, 1) := by decide +kernel
theorem d_Mo_object_26 : decode b_Mo_object 26 = .ok (.invokestatic 80, 3) := by decide +kernel
theorem d_Mo_object_29 : decode b_Mo_object 29 = .ok (.iadd, 1) := by decide +kernel
theorem d_Mo_object_30 : decode b_Mo_object 30 = .ok (.ldc 84, 2) := by decide +kernel
theorem d_Mo_object_32 : decode b_Mo_object 32 = .ok (.if_icmp .le 5, 3) := by decide +kernel
theorem d_Mo_object_35 : decode b_Mo_object 35 = .ok (.iconst 0, 1) := by decide +kernel
theorem d_Mo_object_36 : decode b_Mo_object 36 = .ok (.ireturn, 1) := by decide +kernel
theorem d_Mo_object_37 : decode b_Mo_object 37 = .ok (.aload_n 0, 1) := by decide +kernel
theorem d_Mo_object_38 : decode b_Mo_object 38 = .ok (.getfield 85, 3) := by decide +kernel
theorem d_Mo_object_41 : decode b_Mo_object 41 = .ok (.iload_n 1, 1) := by decide +kernel
theorem d_Mo_object_42 : decode b_Mo_object 42 = .ok (.invokestatic 80, 3) := by decide +kernel
theorem d_Mo_object_45 : decode b_Mo_object 45 = .ok (.iadd, 1) := by decide +kernel
theorem d_Mo_object_46 : decode b_Mo_object 46 = .ok (.ldc 22, 2) := by decide +kernel
theorem d_Mo_object_48 : decode b_Mo_object 48 = .ok (.if_icmp .le 7, 3) := by decide +kernel
theorem d_Mo_object_51 : decode b_Mo_object 51 = .ok (.aload_n 0, 1) := by decide +kernel
theorem d_Mo_object_52 : decode b_Mo_object 52 = .ok (.invokevirtual 88, 3) := by decide +kernel
theorem d_Mo_object_55 : decode b_Mo_object 55 = .ok (.aload_n 0, 1) := by decide +kernel
theorem d_Mo_object_56 : decode b_Mo_object 56 = .ok (.dup, 1) := by decide +kernel
theorem d_Mo_object_57 : decode b_Mo_object 57 = .ok (.getfield 74, 3) := by decide +kernel
theorem d_Mo_object_60 : decode b_Mo_object 60 = .ok (.iconst 1, 1) := by decide +kernel
theorem d_Mo_object_61 : decode b_Mo_object 61 = .ok (.iadd, 1) := by decide +kernel
theorem d_Mo_object_62 : decode b_Mo_object 62 = .ok (.putfield 74, 3) := by decide +kernel
theorem d_Mo_object_65 : decode b_Mo_object 65 = .ok (.aload_n 0, 1) := by decide +kernel
theorem d_Mo_object_66 : decode b_Mo_object 66 = .ok (.getfield 27, 3) := by decide +kernel
theorem d_Mo_object_69 : decode b_Mo_object 69 = .ok (.aload_n 0, 1) := by decide +kernel
theorem d_Mo_object_70 : decode b_Mo_object 70 = .ok (.getfield 74, 3) := by decide +kernel
theorem d_Mo_object_73 : decode b_Mo_object 73 = .ok (.aload_n 0, 1) := by decide +kernel
theorem d_Mo_object_74 : decode b_Mo_object 74 = .ok (.getfield 85, 3) := by decide +kernel
theorem d_Mo_object_77 : decode b_Mo_object 77 = .ok (.iastore, 1) := by decide +kernel
theorem d_Mo_object_78 : decode b_Mo_object 78 = .ok (.aload_n 0, 1) := by decide +kernel
theorem d_Mo_object_79 : decode b_Mo_object 79 = .ok (.getfield 30, 3) := by decide +kernel
theorem d_Mo_object_82 : decode b_Mo_object 82 = .ok (.aload_n 0, 1) := by decide +kernel
theorem d_Mo_object_83 : decode b_Mo_object 83 = .ok (.getfield 74, 3) := by decide +kernel
theorem d_Mo_object_86 : decode b_Mo_object 86 = .ok (.iload_n 1, 1) := by decide +kernel
theorem d_Mo_object_87 : decode b_Mo_object 87 = .ok (.iastore, 1) := by decide +kernel
theorem d_Mo_object_88 : decode b_Mo_object 88 = .ok (.aload_n 0, 1) := by decide +kernel
theorem d_Mo_object_89 : decode b_Mo_object 89 = .ok (.getfield 33, 3) := by decide +kernel
theorem d_Mo_object_92 : decode b_Mo_object 92 = .ok (.aload_n 0, 1) := by decide +kernel
theorem d_Mo_object_93 : decode b_Mo_object 93 = .ok (.getfield 74, 3) := by decide +kernel
theorem d_Mo_object_96 : decode b_Mo_object 96 = .ok (.iload_n 2, 1) := by decide +kernel
theorem d_Mo_object_97 : decode b_Mo_object 97 = .ok (.iastore, 1) := by decide +kernel
theorem d_Mo_object_98 : decode b_Mo_object 98 = .ok (.iconst 0, 1) := by decide +kernel
theorem d_Mo_object_99 : decode b_Mo_object 99 = .ok (.istore_n 3, 1) := by decide +kernel
theorem d_Mo_object_100 : decode b_Mo_object 100 = .ok (.iload_n 3, 1) := by decide +kernel
theorem d_Mo_object_101 : decode b_Mo_object 101 = .ok (.iload_n 1, 1) := by decide +kernel
theorem d_Mo_object_102 : decode b_Mo_object 102 = .ok (.if_icmp .ge 21, 3) := by decide +kernel
theorem d_Mo_object_105 : decode b_Mo_object 105 = .ok (.aload_n 0, 1) := by decide +kernel
theorem d_Mo_object_106 : decode b_Mo_object 106 = .ok (.getfield 23, 3) := by decide +kernel
theorem d_Mo_object_109 : decode b_Mo_object 109 = .ok (.aload_n 0, 1) := by decide +kernel
theorem d_Mo_object_110 : decode b_Mo_object 110 = .ok (.getfield 85, 3) := by decide +kernel
theorem d_Mo_object_113 : decode b_Mo_object 113 = .ok (.iload_n 3, 1) := by decide +kernel
theorem d_Mo_object_114 : decode b_Mo_object 114 = .ok (.iadd, 1) := by decide +kernel
theorem d_Mo_object_115 : decode b_Mo_object 115 = .ok (.iconst 0, 1) := by decide +kernel
theorem d_Mo_object_116 : decode b_Mo_object 116 = .ok (.bastore, 1) := by decide +kernel
theorem d_Mo_object_117 : decode b_Mo_object 117 = .ok (.iinc 3 1, 3) := by decide +kernel
theorem d_Mo_object_120 : decode b_Mo_object 120 = .ok (.goto (-20), 3) := by decide +kernel
theorem d_Mo_object_123 : decode b_Mo_object 123 = .ok (.aload_n 0, 1) := by decide +kernel
theorem d_Mo_object_124 : decode b_Mo_object 124 = .ok (.dup, 1) := by decide +kernel
theorem d_Mo_object_125 : decode b_Mo_object 125 = .ok (.getfield 85, 3) := by decide +kernel
theorem d_Mo_object_128 : decode b_Mo_object 128 = .ok (.iload_n 1, 1) := by decide +kernel
theorem d_Mo_object_129 : decode b_Mo_object 129 = .ok (.invokestatic 80, 3) := by decide +kernel
theorem d_Mo_object_132 : decode b_Mo_object 132 = .ok (.iadd, 1) := by decide +kernel
theorem d_Mo_object_133 : decode b_Mo_object 133 = .ok (.putfield 85, 3) := by decide +kernel
theorem d_Mo_object_136 : decode b_Mo_object 136 = .ok (.aload_n 0, 1) := by decide +kernel
theorem d_Mo_object_137 : decode b_Mo_object 137 = .ok (.dup, 1) := by decide +kernel
theorem d_Mo_object_138 : decode b_Mo_object 138 = .ok (.getfield 77, 3) := by decide +kernel
theorem d_Mo_object_141 : decode b_Mo_object 141 = .ok (.iload_n 1, 1) := by decide +kernel
theorem d_Mo_object_142 : decode b_Mo_object 142 = .ok (.invokestatic 80, 3) := by decide +kernel
theorem d_Mo_object_145 : decode b_Mo_object 145 = .ok (.iadd, 1) := by decide +kernel
theorem d_Mo_object_146 : decode b_Mo_object 146 = .ok (.putfield 77, 3) := by decide +kernel
theorem d_Mo_object_149 : decode b_Mo_object 149 = .ok (.aload_n 0, 1) := by decide +kernel
theorem d_Mo_object_150 : decode b_Mo_object 150 = .ok (.getfield 74, 3) := by decide +kernel
theorem d_Mo_object_153 : decode b_Mo_object 153 = .ok (.ireturn, 1) := by decide +kernel

/-! the reference makes an object -/
theorem cz_0 (f : Nat → Int32) (a : Nat) : va_cpy (fun _ => 0) f 0 a 0 = f := by
  funext j
  rw [pk_cpy_out (by omega)]
theorem cz_s (f : Nat → Int32) (a x : Nat) : upd (va_cpy (fun _ => 0) f 0 a x) (a + x) 0 = va_cpy (fun _ => 0) f 0 a (x + 1) := by
  funext j
  by_cases c : j = a + x
  · rw [c, upd_self, pk_cpy_in (by omega) (by omega)]
  · rw [upd_ne c]
    by_cases d : a ≤ j ∧ j < a + x
    · rw [pk_cpy_in d.1 d.2, pk_cpy_in d.1 (by omega)]
    · rw [pk_cpy_out (by omega), pk_cpy_out (by omega)]
theorem rRep_make {M : MM} {md lq tp tr z : Nat} {af zf of lf rf : Nat → Int32} (gb : Bool) (h : rRep M md lq tp tr af zf of lf rf) (hm : md < 8000) (hz : z ≤ 4000) (hb : tr + up4 z ≤ 40000) (hp : tp + up4 z ≤ 90000) :
    rRep (mMake M z gb) (md + 1) (mLs (mMake M z gb)).length (tp + up4 z) (tr + up4 z) (upd af (md + 1) (nI tp)) (upd zf (md + 1) (nI z)) (upd of (md + 1) (if gb = true then 2 else 1)) (if gb = true then lf else upd lf lq (nI (md + 1))) (va_cpy (fun _ => 0) rf 0 tp z) := by
  obtain ⟨hI, h1, h2, h3, h4, h5, h6, h7, h8, st, g1, g2, g3⟩ := h
  have hold : ∀ k y, mSz (mMake M z gb) k = some y → (k = md + 1 ∧ y = z) ∨ (¬ k = md + 1 ∧ mSz M k = some y ∧ k ≤ md ∧ 1 ≤ k) := by
    intro k y hk
    have hk : (if k = mMd M + 1 then some z else mSz M k) = some y := hk
    rw [← h1] at hk
    by_cases c : k = md + 1
    · rw [if_pos c] at hk
      cases hk
      exact Or.inl ⟨c, rfl⟩
    · rw [if_neg c] at hk
      have := hI.2.2.1 k y hk
      exact Or.inr ⟨c, hk, by omega, this.1⟩
  have hu := up4_le z
  refine ⟨MI_make hI gb (by omega) hz (by omega), by rw [h1]; rfl, by rw [h2]; rfl, rfl, hp, ?_, ?_, ?_, ?_, fun k => if k = md + 1 then tp else st k, ?_, ?_, ?_⟩
  · intro i hi
    by_cases c : tp ≤ i ∧ i < tp + z
    · rw [pk_cpy_in c.1 c.2]
      rfl
    · rw [pk_cpy_out (by omega)]
      exact h5 i hi
  · intro k k1 k2
    show upd of (md + 1) (if gb = true then 2 else 1) k = match (if k = mMd M + 1 then some z else mSz M k) with | some _ => (if (if k = mMd M + 1 then gb else mGv M k) = true then 2 else 1) | none => 0
    rw [← h1]
    by_cases c : k = md + 1
    · rw [if_pos c, if_pos c, c, upd_self]
    · rw [if_neg c, if_neg c, upd_ne c]
      exact h6 k k1 (by omega)
  · intro k y hk
    rcases hold k y hk with ⟨c, rfl⟩ | ⟨c, q, q2, -⟩
    · rw [c, upd_self]
    · rw [upd_ne c]
      exact h7 k y q
  · intro i hi
    cases gb
    · have hi : i < (mLs M).length + 1 := hi
      show upd lf lq (nI (md + 1)) i = nI (((mMd M + 1) :: mLs M).getD ((mLs M).length + 1 - 1 - i) 0)
      by_cases c : i = lq
      · rw [c, upd_self, h3, show (mLs M).length + 1 - 1 - (mLs M).length = 0 by omega, h1]
        rfl
      · rw [upd_ne c, h8 i (by omega), h3, show (mLs M).length + 1 - 1 - i = ((mLs M).length - 1 - i) + 1 by omega]
        rfl
    · have hi : i < (mLs M).length := hi
      show lf i = nI ((mLs M).getD ((mLs M).length - 1 - i) 0)
      rw [h8 i (by omega), h3]
  · intro k y hk
    show upd af (md + 1) (nI tp) k = nI (if k = md + 1 then tp else st k) ∧ (if k = md + 1 then tp else st k) + up4 y ≤ tp + up4 z
    rcases hold k y hk with ⟨c, rfl⟩ | ⟨c, q, q2, -⟩
    · rw [if_pos c, c, upd_self]
      exact ⟨rfl, Nat.le_refl _⟩
    · rw [if_neg c, upd_ne c]
      have := g1 k y q
      exact ⟨this.1, by omega⟩
  · intro j k y w hjk hj hk
    show (if j = md + 1 then tp else st j) + up4 y ≤ (if k = md + 1 then tp else st k)
    rcases hold j y hj with ⟨c, -⟩ | ⟨c, q, q2, -⟩
    · rcases hold k w hk with ⟨d, -⟩ | ⟨d, -, d2, -⟩
      · omega
      · omega
    · rw [if_neg c]
      rcases hold k w hk with ⟨d, -⟩ | ⟨d, r, d2, -⟩
      · rw [if_pos d]
        exact (g1 j y q).2
      · rw [if_neg d]
        exact g2 j k y w hjk q r
  · intro k y i hk hi
    show va_cpy (fun _ => 0) rf 0 tp z ((if k = md + 1 then tp else st k) + i) = (if k = mMd M + 1 then fun _ => 0 else mCt M k) i
    rw [← h1]
    rcases hold k y hk with ⟨c, rfl⟩ | ⟨c, q, q2, -⟩
    · rw [if_pos c, if_pos c, pk_cpy_in (by omega) (by omega)]
    · rw [if_neg c, if_neg c]
      have := (g1 k y q).2
      have := up4_le y
      rw [pk_cpy_out (by omega)]
      exact g3 k y i q hi
/-- what object answers; the row of lasts once its caller has put the number there -/
def oAn (M : MM) (n : Int32) (gb : Bool) : Int32 := match mMk M n gb with
  | some M' => nI (mMd M')
  | none => 0
def oM (M : MM) (n : Int32) (gb : Bool) : MM := (mMk M n gb).getD M
def oLf (M : MM) (n : Int32) (gb : Bool) (lf : Nat → Int32) : Nat → Int32 := match mMk M n gb with
  | some _ => if gb = true then lf else upd lf (mLs M).length (nI (mMd M + 1))
  | none => lf

set_option maxHeartbeats 4000000 in
theorem c_Mo_object (l : Launch) (D : va_G) (cI cB cJ : ClassId) (sz : Nat) (n0 : Int32) (kin : Int32) (m0 : Nat) (mk : Nat) (mt : Nat) (kd : Int32) (wo : Nat) (wn : Int32) (re : Nat) (pc : Int32) (sta : Int32) (dn : Int32) (th : Int32) (ro : Nat) (aa : Nat) (si : Nat) (so : Nat) (la : Nat) (gd : Nat) (gl : Nat) (gt : Nat) (gr : Nat) (ip : Nat) (oq : Nat) (cp : Nat) (ni : Int32) (no : Int32) (af : Nat → Int32) (zf : Nat → Int32) (of : Nat → Int32) (rf : Nat → Int32) (M : MM) (lf : Nat → Int32) (gb : Bool) (hR : rRep M gd gl gt gr af zf of lf rf) (hkn : kin = if gb = true then 2 else 1) : zMet l y_Mo_object (zWs y_Mo_object b_Mo_object 4 (some .int)) { frames := 2, cells := 0, slots := 0, locals := 81 } (zPc D (zT cI cB cJ) sz [(m0, .inr (3, [.ref mk, .ref mt, .int kd, .ref wo, .int wn, .ref re, .int pc, .int sta, .int dn, .int th, .ref ro, .ref aa, .ref si, .ref so, .ref la, .int (nI gd), .int (nI gl), .int (nI gt), .int (nI gr), .ref ip, .ref oq, .ref cp, .int ni, .int no])), (aa, .inl (cI, 8001, .inl (af))), (si, .inl (cI, 8001, .inl (zf))), (so, .inl (cI, 8001, .inl (of))), (ro, .inl (cB, 90000, .inl (rf)))] [.ref m0, .int n0, .int kin]) (zQi D (va_A [(m0, .inr (3, [.ref mk, .ref mt, .int kd, .ref wo, .int wn, .ref re, .int pc, .int sta, .int dn, .int th, .ref ro, .ref aa, .ref si, .ref so, .ref la, .int (nI gd), .int (nI gl), .int (nI gt), .int (nI gr), .ref ip, .ref oq, .ref cp, .int ni, .int no])), (aa, .inl (cI, 8001, .inl (af))), (si, .inl (cI, 8001, .inl (zf))), (so, .inl (cI, 8001, .inl (of))), (ro, .inl (cB, 90000, .inl (rf)))] sz) (fun r (U : ((Nat × Nat × Nat) × (Nat → Int32) × (Nat → Int32) × (Nat → Int32) × (Nat → Int32))) => r = oAn M n0 gb ∧ rRep (oM M n0 gb) U.1.1 (mLs (oM M n0 gb)).length U.1.2.1 U.1.2.2 U.2.1 U.2.2.1 U.2.2.2.1 (oLf M n0 gb lf) U.2.2.2.2) (fun _ => (0, 0)) (fun (U : ((Nat × Nat × Nat) × (Nat → Int32) × (Nat → Int32) × (Nat → Int32) × (Nat → Int32))) => [(m0, .inr (3, [.ref mk, .ref mt, .int kd, .ref wo, .int wn, .ref re, .int pc, .int sta, .int dn, .int th, .ref ro, .ref aa, .ref si, .ref so, .ref la, .int (nI U.1.1), .int (nI gl), .int (nI U.1.2.1), .int (nI U.1.2.2), .ref ip, .ref oq, .ref cp, .int ni, .int no])), (aa, .inl (cI, 8001, .inl (U.2.1))), (si, .inl (cI, 8001, .inl (U.2.2.1))), (so, .inl (cI, 8001, .inl (U.2.2.2.1))), (ro, .inl (cB, 90000, .inl (U.2.2.2.2)))])) (va_A [(m0, .inr (3, [.ref mk, .ref mt, .int kd, .ref wo, .int wn, .ref re, .int pc, .int sta, .int dn, .int th, .ref ro, .ref aa, .ref si, .ref so, .ref la, .int (nI gd), .int (nI gl), .int (nI gt), .int (nI gr), .ref ip, .ref oq, .ref cp, .int ni, .int no])), (aa, .inl (cI, 8001, .inl (af))), (si, .inl (cI, 8001, .inl (zf))), (so, .inl (cI, 8001, .inl (of))), (ro, .inl (cB, 90000, .inl (rf)))] sz) := by
  refine zstart (Qc := fun A => zQi D A (fun r (U : ((Nat × Nat × Nat) × (Nat → Int32) × (Nat → Int32) × (Nat → Int32) × (Nat → Int32))) => r = oAn M n0 gb ∧ rRep (oM M n0 gb) U.1.1 (mLs (oM M n0 gb)).length U.1.2.1 U.1.2.2 U.2.1 U.2.2.1 U.2.2.2.1 (oLf M n0 gb lf) U.2.2.2.2) (fun _ => (0, 0)) (fun (U : ((Nat × Nat × Nat) × (Nat → Int32) × (Nat → Int32) × (Nat → Int32) × (Nat → Int32))) => [(m0, .inr (3, [.ref mk, .ref mt, .int kd, .ref wo, .int wn, .ref re, .int pc, .int sta, .int dn, .int th, .ref ro, .ref aa, .ref si, .ref so, .ref la, .int (nI U.1.1), .int (nI gl), .int (nI U.1.2.1), .int (nI U.1.2.2), .ref ip, .ref oq, .ref cp, .int ni, .int no])), (aa, .inl (cI, 8001, .inl (U.2.1))), (si, .inl (cI, 8001, .inl (U.2.2.1))), (so, .inl (cI, 8001, .inl (U.2.2.2.1))), (ro, .inl (cB, 90000, .inl (U.2.2.2.2)))])) (by decide) (Nat.le_of_ble_eq_true rfl) ?_
  intro p e s m below meth c ls A hE hr hlocks hin hsz hK hP hD hS hA hAe hl
  have hx := hE.1
  have hb := hE.2.1
  have hown := hE.2.2.2.1
  have hw := hE.2.2.2.2
  have hl : lv_has ls 4 [(0, .ref m0), (1, .int n0), (2, .int kin)] := hl
  have hmd2 := hR.2.1
  have hbt2 := hR.2.2.1
  have htp := hR.2.2.2.2.1
  have hm80 := hR.1.1
  have hb40 := hR.1.2.1
  refine lv_iload_n hx hb d_Mo_object_0 rfl (lv_at hl 1 rfl) ?_
  refine lv_if_lt (tgt := 35) hx hb d_Mo_object_1 (by decide) (fun h1 => ?_) (fun h1 => ?_)
  · have hnone : mMk M n0 gb = none := if_neg (fun q => by have q1 := q.1; have := Int32.lt_iff_toInt_lt.mp h1; simp at this; omega)
    refine lv_iconst (v := 0) hx hb d_Mo_object_35 (by decide) ?_
    have hP9 := hP.sub (ws' := [(m0, .inr (3, [.ref mk, .ref mt, .int kd, .ref wo, .int wn, .ref re, .int pc, .int sta, .int dn, .int th, .ref ro, .ref aa, .ref si, .ref so, .ref la, .int (nI gd), .int (nI gl), .int (nI gt), .int (nI gr), .ref ip, .ref oq, .ref cp, .int ni, .int no])), (aa, .inl (cI, 8001, .inl (af))), (si, .inl (cI, 8001, .inl (zf))), (so, .inl (cI, 8001, .inl (of))), (ro, .inl (cB, 90000, .inl (rf)))]) [0, 1, 2, 3, 4] rfl
    have hD9 := hD.sub (ws' := [(m0, .inr (3, [.ref mk, .ref mt, .int kd, .ref wo, .int wn, .ref re, .int pc, .int sta, .int dn, .int th, .ref ro, .ref aa, .ref si, .ref so, .ref la, .int (nI gd), .int (nI gl), .int (nI gt), .int (nI gr), .ref ip, .ref oq, .ref cp, .int ni, .int no])), (aa, .inl (cI, 8001, .inl (af))), (si, .inl (cI, 8001, .inl (zf))), (so, .inl (cI, 8001, .inl (of))), (ro, .inl (cB, 90000, .inl (rf)))]) [0, 1, 2, 3, 4] rfl rfl
    exact zreti hx hb hr rfl hlocks hS ((gd, gt, gr), af, zf, of, rf) ⟨by unfold oAn; rw [hnone], by unfold oM oLf; rw [hnone]; exact (hR.2.2.2.1 ▸ hR)⟩ rfl hP9 hD9 d_Mo_object_36
  · refine lv_iload_n hx hb d_Mo_object_4 rfl (lv_at hl 1 rfl) ?_
    refine lv_sipush (v := 4000) hx hb d_Mo_object_5 (by decide) ?_
    refine lv_icmp_gt (tgt := 35) hx hb d_Mo_object_8 (by decide) (fun h2 => ?_) (fun h2 => ?_)
    · have hnone : mMk M n0 gb = none := if_neg (fun q => by have q1 := q.2.1; have := Int32.lt_iff_toInt_lt.mp h2; simp at this; omega)
      refine lv_iconst (v := 0) hx hb d_Mo_object_35 (by decide) ?_
      have hP9 := hP.sub (ws' := [(m0, .inr (3, [.ref mk, .ref mt, .int kd, .ref wo, .int wn, .ref re, .int pc, .int sta, .int dn, .int th, .ref ro, .ref aa, .ref si, .ref so, .ref la, .int (nI gd), .int (nI gl), .int (nI gt), .int (nI gr), .ref ip, .ref oq, .ref cp, .int ni, .int no])), (aa, .inl (cI, 8001, .inl (af))), (si, .inl (cI, 8001, .inl (zf))), (so, .inl (cI, 8001, .inl (of))), (ro, .inl (cB, 90000, .inl (rf)))]) [0, 1, 2, 3, 4] rfl
      have hD9 := hD.sub (ws' := [(m0, .inr (3, [.ref mk, .ref mt, .int kd, .ref wo, .int wn, .ref re, .int pc, .int sta, .int dn, .int th, .ref ro, .ref aa, .ref si, .ref so, .ref la, .int (nI gd), .int (nI gl), .int (nI gt), .int (nI gr), .ref ip, .ref oq, .ref cp, .int ni, .int no])), (aa, .inl (cI, 8001, .inl (af))), (si, .inl (cI, 8001, .inl (zf))), (so, .inl (cI, 8001, .inl (of))), (ro, .inl (cB, 90000, .inl (rf)))]) [0, 1, 2, 3, 4] rfl rfl
      exact zreti hx hb hr rfl hlocks hS ((gd, gt, gr), af, zf, of, rf) ⟨by unfold oAn; rw [hnone], by unfold oM oLf; rw [hnone]; exact (hR.2.2.2.1 ▸ hR)⟩ rfl hP9 hD9 d_Mo_object_36
    · obtain ⟨z, hz, rfl⟩ := nI_of2 (M := 4000) (n := 4000) (by decide) h1 (Int32.not_lt.mp h2)
      have hu4 : up4 z ≤ 4000 := by unfold up4; omega
      have hul := up4_le z
      have hti : (nI z).toInt = (z : Int) := nI_toInt (by omega)
      refine lv_aload_n hx hb d_Mo_object_11 rfl (lv_at hl 0 rfl) ?_
      refine zget hE hK hP 0 rfl fd_Mo_74 rfl d_Mo_object_12 ?_
      refine lv_sipush (v := 8000) hx hb d_Mo_object_15 (by decide) ?_
      refine lv_icmp_eq (tgt := 35) hx hb d_Mo_object_18 (by decide) (fun h3 => ?_) (fun h3 => ?_)
      · have hnone : mMk M (nI z) gb = none := if_neg (fun q => by have q1 := q.2.2.1; have e : gd = 8000 := (nI_eq (by omega) (by omega)).mp h3; omega)
        refine lv_iconst (v := 0) hx hb d_Mo_object_35 (by decide) ?_
        have hP9 := hP.sub (ws' := [(m0, .inr (3, [.ref mk, .ref mt, .int kd, .ref wo, .int wn, .ref re, .int pc, .int sta, .int dn, .int th, .ref ro, .ref aa, .ref si, .ref so, .ref la, .int (nI gd), .int (nI gl), .int (nI gt), .int (nI gr), .ref ip, .ref oq, .ref cp, .int ni, .int no])), (aa, .inl (cI, 8001, .inl (af))), (si, .inl (cI, 8001, .inl (zf))), (so, .inl (cI, 8001, .inl (of))), (ro, .inl (cB, 90000, .inl (rf)))]) [0, 1, 2, 3, 4] rfl
        have hD9 := hD.sub (ws' := [(m0, .inr (3, [.ref mk, .ref mt, .int kd, .ref wo, .int wn, .ref re, .int pc, .int sta, .int dn, .int th, .ref ro, .ref aa, .ref si, .ref so, .ref la, .int (nI gd), .int (nI gl), .int (nI gt), .int (nI gr), .ref ip, .ref oq, .ref cp, .int ni, .int no])), (aa, .inl (cI, 8001, .inl (af))), (si, .inl (cI, 8001, .inl (zf))), (so, .inl (cI, 8001, .inl (of))), (ro, .inl (cB, 90000, .inl (rf)))]) [0, 1, 2, 3, 4] rfl rfl
        exact zreti hx hb hr rfl hlocks hS ((gd, gt, gr), af, zf, of, rf) ⟨by unfold oAn; rw [hnone], by unfold oM oLf; rw [hnone]; exact (hR.2.2.2.1 ▸ hR)⟩ rfl hP9 hD9 d_Mo_object_36
      · have hm8 : gd < 8000 := by have q : ¬ gd = 8000 := fun q => h3 (by rw [q]; rfl); omega
        refine lv_aload_n hx hb d_Mo_object_21 rfl (lv_at hl 0 rfl) ?_
        refine zget hE hK hP 0 rfl fd_Mo_77 rfl d_Mo_object_22 ?_
        refine lv_iload_n hx hb d_Mo_object_25 rfl (lv_at hl 1 rfl) ?_
        refine zgoi (wr := [(m0, .inr (3, [.ref mk, .ref mt, .int kd, .ref wo, .int wn, .ref re, .int pc, .int sta, .int dn, .int th, .ref ro, .ref aa, .ref si, .ref so, .ref la, .int (nI gd), .int (nI gl), .int (nI gt), .int (nI gr), .ref ip, .ref oq, .ref cp, .int ni, .int no])), (aa, .inl (cI, 8001, .inl (af))), (si, .inl (cI, 8001, .inl (zf))), (so, .inl (cI, 8001, .inl (of))), (ro, .inl (cB, 90000, .inl (rf)))]) (zrunS (n := 1) (As := [.int ((nI z))]) (rest := [.int (nI gr)]) hE (c_Mo_up l D _ _ (nI z)) cb_Mo_up lk_Mo_80 st_Mo_up (zpreS hK hP hD [] rfl rfl rfl) ⟨Nat.le_of_ble_eq_true rfl, Nat.le_of_ble_eq_true rfl, Nat.le_of_ble_eq_true rfl, Nat.le_of_ble_eq_true rfl⟩ rfl hl.1 rfl (Nat.le_of_ble_eq_true rfl) d_Mo_object_26) hP hD hS hA [] [0, 1, 2, 3, 4] rfl rfl rfl (by decide) (fun r5 u6 H locs hq4 hP hD hS => ?_)
        subst hq4
        have hP : va_P D zC [(m0, .inr (3, [.ref mk, .ref mt, .int kd, .ref wo, .int wn, .ref re, .int pc, .int sta, .int dn, .int th, .ref ro, .ref aa, .ref si, .ref so, .ref la, .int (nI gd), .int (nI gl), .int (nI gt), .int (nI gr), .ref ip, .ref oq, .ref cp, .int ni, .int no])), (aa, .inl (cI, 8001, .inl (af))), (si, .inl (cI, 8001, .inl (zf))), (so, .inl (cI, 8001, .inl (of))), (ro, .inl (cB, 90000, .inl (rf)))] _ := hP
        have hD : va_D A [(m0, .inr (3, [.ref mk, .ref mt, .int kd, .ref wo, .int wn, .ref re, .int pc, .int sta, .int dn, .int th, .ref ro, .ref aa, .ref si, .ref so, .ref la, .int (nI gd), .int (nI gl), .int (nI gt), .int (nI gr), .ref ip, .ref oq, .ref cp, .int ni, .int no])), (aa, .inl (cI, 8001, .inl (af))), (si, .inl (cI, 8001, .inl (zf))), (so, .inl (cI, 8001, .inl (of))), (ro, .inl (cB, 90000, .inl (rf)))] := hD
        refine z_st (st' := [.int (nI (up4 z)), .int (nI gr)]) (by rw [show ((sp_Mo_up (nI z)) : Int32) = nI (up4 z) from up4_m z (by omega)]) ?_
        refine lv_iadd hx hb d_Mo_object_29 ?_
        refine z_st (st' := [.int (nI (gr + up4 z))]) (by rw [show (((nI gr) + (nI (up4 z))) : Int32) = nI (gr + up4 z) from nI_add _ _]) ?_
        refine lv_ldc (v := 40000) hx hb hown (hw _ kc_Mo_84) d_Mo_object_30 ?_
        refine lv_icmp_le (tgt := 37) hx hb d_Mo_object_32 (by decide) (fun h7 => ?_) (fun h7 => ?_)
        · have hbz : gr + up4 z ≤ 40000 := Nat.not_lt.mp (z_le' (b := 40000) (by omega) h7)
          have hsm : mMk M (nI z) gb = some (mMake M z gb) := by unfold mMk; rw [hti, if_pos (by rw [← hmd2, ← hbt2]; exact ⟨by omega, by omega, hm8, hbz⟩)]; rfl
          refine lv_aload_n hx hb d_Mo_object_37 rfl (lv_at hl 0 rfl) ?_
          refine zget hE hK hP 0 rfl fd_Mo_85 rfl d_Mo_object_38 ?_
          refine lv_iload_n hx hb d_Mo_object_41 rfl (lv_at hl 1 rfl) ?_
          refine zgoi (wr := [(m0, .inr (3, [.ref mk, .ref mt, .int kd, .ref wo, .int wn, .ref re, .int pc, .int sta, .int dn, .int th, .ref ro, .ref aa, .ref si, .ref so, .ref la, .int (nI gd), .int (nI gl), .int (nI gt), .int (nI gr), .ref ip, .ref oq, .ref cp, .int ni, .int no])), (aa, .inl (cI, 8001, .inl (af))), (si, .inl (cI, 8001, .inl (zf))), (so, .inl (cI, 8001, .inl (of))), (ro, .inl (cB, 90000, .inl (rf)))]) (zrunS (n := 1) (As := [.int ((nI z))]) (rest := [.int (nI gt)]) hE (c_Mo_up l D _ _ (nI z)) cb_Mo_up lk_Mo_80 st_Mo_up (zpreS hK hP hD [] rfl rfl rfl) ⟨Nat.le_of_ble_eq_true rfl, Nat.le_of_ble_eq_true rfl, Nat.le_of_ble_eq_true rfl, Nat.le_of_ble_eq_true rfl⟩ rfl hl.1 rfl (Nat.le_of_ble_eq_true rfl) d_Mo_object_42) hP hD hS hA [] [0, 1, 2, 3, 4] rfl rfl rfl (by decide) (fun r9 u10 H locs hq8 hP hD hS => ?_)
          subst hq8
          have hP : va_P D zC [(m0, .inr (3, [.ref mk, .ref mt, .int kd, .ref wo, .int wn, .ref re, .int pc, .int sta, .int dn, .int th, .ref ro, .ref aa, .ref si, .ref so, .ref la, .int (nI gd), .int (nI gl), .int (nI gt), .int (nI gr), .ref ip, .ref oq, .ref cp, .int ni, .int no])), (aa, .inl (cI, 8001, .inl (af))), (si, .inl (cI, 8001, .inl (zf))), (so, .inl (cI, 8001, .inl (of))), (ro, .inl (cB, 90000, .inl (rf)))] _ := hP
          have hD : va_D A [(m0, .inr (3, [.ref mk, .ref mt, .int kd, .ref wo, .int wn, .ref re, .int pc, .int sta, .int dn, .int th, .ref ro, .ref aa, .ref si, .ref so, .ref la, .int (nI gd), .int (nI gl), .int (nI gt), .int (nI gr), .ref ip, .ref oq, .ref cp, .int ni, .int no])), (aa, .inl (cI, 8001, .inl (af))), (si, .inl (cI, 8001, .inl (zf))), (so, .inl (cI, 8001, .inl (of))), (ro, .inl (cB, 90000, .inl (rf)))] := hD
          refine z_st (st' := [.int (nI (up4 z)), .int (nI gt)]) (by rw [show ((sp_Mo_up (nI z)) : Int32) = nI (up4 z) from up4_m z (by omega)]) ?_
          refine lv_iadd hx hb d_Mo_object_45 ?_
          refine z_st (st' := [.int (nI (gt + up4 z))]) (by rw [show (((nI gt) + (nI (up4 z))) : Int32) = nI (gt + up4 z) from nI_add _ _]) ?_
          refine lv_ldc (v := 90000) hx hb hown (hw _ kc_Mo_22) d_Mo_object_46 ?_
          refine lv_icmp_le (tgt := 55) hx hb d_Mo_object_48 (by decide) (fun h11 => ?_) (fun h11 => ?_)
          · have hroom : gt + up4 z ≤ 90000 := Nat.not_lt.mp (z_le' (b := 90000) (by omega) h11)
            refine lv_aload_n hx hb d_Mo_object_55 rfl (lv_at hl 0 rfl) ?_
            refine lv_dup hx hb d_Mo_object_56 rfl ?_
            refine zget hE hK hP 0 rfl fd_Mo_74 rfl d_Mo_object_57 ?_
            refine lv_iconst (v := 1) hx hb d_Mo_object_60 (by decide) ?_
            refine lv_iadd hx hb d_Mo_object_61 ?_
            refine z_st (st' := [.int (nI (gd + 1)), .ref m0]) (by rw [show (((nI gd) + 1) : Int32) = nI (gd + 1) from nI_1 gd]) ?_
            refine zput (v := .int (nI (gd + 1))) hE hK hP hD hS 0 rfl fd_Mo_74 ft_Mo_15 rfl rfl (Nat.le_of_ble_eq_true rfl) d_Mo_object_62 (fun H locs hP hD hS => ?_)
            have hP : va_P D zC [(m0, .inr (3, [.ref mk, .ref mt, .int kd, .ref wo, .int wn, .ref re, .int pc, .int sta, .int dn, .int th, .ref ro, .ref aa, .ref si, .ref so, .ref la, .int (nI (gd + 1)), .int (nI gl), .int (nI gt), .int (nI gr), .ref ip, .ref oq, .ref cp, .int ni, .int no])), (aa, .inl (cI, 8001, .inl (af))), (si, .inl (cI, 8001, .inl (zf))), (so, .inl (cI, 8001, .inl (of))), (ro, .inl (cB, 90000, .inl (rf)))] _ := hP
            have hD : va_D A [(m0, .inr (3, [.ref mk, .ref mt, .int kd, .ref wo, .int wn, .ref re, .int pc, .int sta, .int dn, .int th, .ref ro, .ref aa, .ref si, .ref so, .ref la, .int (nI (gd + 1)), .int (nI gl), .int (nI gt), .int (nI gr), .ref ip, .ref oq, .ref cp, .int ni, .int no])), (aa, .inl (cI, 8001, .inl (af))), (si, .inl (cI, 8001, .inl (zf))), (so, .inl (cI, 8001, .inl (of))), (ro, .inl (cB, 90000, .inl (rf)))] := hD
            refine lv_aload_n hx hb d_Mo_object_65 rfl (lv_at hl 0 rfl) ?_
            refine zget hE hK hP 0 rfl fd_Mo_27 rfl d_Mo_object_66 ?_
            refine lv_aload_n hx hb d_Mo_object_69 rfl (lv_at hl 0 rfl) ?_
            refine zget hE hK hP 0 rfl fd_Mo_74 rfl d_Mo_object_70 ?_
            refine lv_aload_n hx hb d_Mo_object_73 rfl (lv_at hl 0 rfl) ?_
            refine zget hE hK hP 0 rfl fd_Mo_85 rfl d_Mo_object_74 ?_
            refine va_iast hx hb hK hP hD hS 1 0 rfl rfl (vp_in_nI (by omega) (by omega)) d_Mo_object_77 (fun H locs hP hD hS => ?_)
            have hP : va_P D zC [(m0, .inr (3, [.ref mk, .ref mt, .int kd, .ref wo, .int wn, .ref re, .int pc, .int sta, .int dn, .int th, .ref ro, .ref aa, .ref si, .ref so, .ref la, .int (nI (gd + 1)), .int (nI gl), .int (nI gt), .int (nI gr), .ref ip, .ref oq, .ref cp, .int ni, .int no])), (aa, .inl (cI, 8001, .inl (upd af (nI (gd + 1)).toNatClampNeg (nI gt)))), (si, .inl (cI, 8001, .inl (zf))), (so, .inl (cI, 8001, .inl (of))), (ro, .inl (cB, 90000, .inl (rf)))] _ := hP
            have hD : va_D A [(m0, .inr (3, [.ref mk, .ref mt, .int kd, .ref wo, .int wn, .ref re, .int pc, .int sta, .int dn, .int th, .ref ro, .ref aa, .ref si, .ref so, .ref la, .int (nI (gd + 1)), .int (nI gl), .int (nI gt), .int (nI gr), .ref ip, .ref oq, .ref cp, .int ni, .int no])), (aa, .inl (cI, 8001, .inl (upd af (nI (gd + 1)).toNatClampNeg (nI gt)))), (si, .inl (cI, 8001, .inl (zf))), (so, .inl (cI, 8001, .inl (of))), (ro, .inl (cB, 90000, .inl (rf)))] := hD
            rw [show ((upd af (nI (gd + 1)).toNatClampNeg (nI gt)) : Nat → Int32) = upd af (gd + 1) (nI gt) from by rw [nI_clamp (by omega)]] at hP hD
            have hP : va_P D zC [(m0, .inr (3, [.ref mk, .ref mt, .int kd, .ref wo, .int wn, .ref re, .int pc, .int sta, .int dn, .int th, .ref ro, .ref aa, .ref si, .ref so, .ref la, .int (nI (gd + 1)), .int (nI gl), .int (nI gt), .int (nI gr), .ref ip, .ref oq, .ref cp, .int ni, .int no])), (aa, .inl (cI, 8001, .inl (upd af (gd + 1) (nI gt)))), (si, .inl (cI, 8001, .inl (zf))), (so, .inl (cI, 8001, .inl (of))), (ro, .inl (cB, 90000, .inl (rf)))] _ := hP
            have hD : va_D A [(m0, .inr (3, [.ref mk, .ref mt, .int kd, .ref wo, .int wn, .ref re, .int pc, .int sta, .int dn, .int th, .ref ro, .ref aa, .ref si, .ref so, .ref la, .int (nI (gd + 1)), .int (nI gl), .int (nI gt), .int (nI gr), .ref ip, .ref oq, .ref cp, .int ni, .int no])), (aa, .inl (cI, 8001, .inl (upd af (gd + 1) (nI gt)))), (si, .inl (cI, 8001, .inl (zf))), (so, .inl (cI, 8001, .inl (of))), (ro, .inl (cB, 90000, .inl (rf)))] := hD
            refine lv_aload_n hx hb d_Mo_object_78 rfl (lv_at hl 0 rfl) ?_
            refine zget hE hK hP 0 rfl fd_Mo_30 rfl d_Mo_object_79 ?_
            refine lv_aload_n hx hb d_Mo_object_82 rfl (lv_at hl 0 rfl) ?_
            refine zget hE hK hP 0 rfl fd_Mo_74 rfl d_Mo_object_83 ?_
            refine lv_iload_n hx hb d_Mo_object_86 rfl (lv_at hl 1 rfl) ?_
            refine va_iast hx hb hK hP hD hS 2 0 rfl rfl (vp_in_nI (by omega) (by omega)) d_Mo_object_87 (fun H locs hP hD hS => ?_)
            have hP : va_P D zC [(m0, .inr (3, [.ref mk, .ref mt, .int kd, .ref wo, .int wn, .ref re, .int pc, .int sta, .int dn, .int th, .ref ro, .ref aa, .ref si, .ref so, .ref la, .int (nI (gd + 1)), .int (nI gl), .int (nI gt), .int (nI gr), .ref ip, .ref oq, .ref cp, .int ni, .int no])), (aa, .inl (cI, 8001, .inl (upd af (gd + 1) (nI gt)))), (si, .inl (cI, 8001, .inl (upd zf (nI (gd + 1)).toNatClampNeg (nI z)))), (so, .inl (cI, 8001, .inl (of))), (ro, .inl (cB, 90000, .inl (rf)))] _ := hP
            have hD : va_D A [(m0, .inr (3, [.ref mk, .ref mt, .int kd, .ref wo, .int wn, .ref re, .int pc, .int sta, .int dn, .int th, .ref ro, .ref aa, .ref si, .ref so, .ref la, .int (nI (gd + 1)), .int (nI gl), .int (nI gt), .int (nI gr), .ref ip, .ref oq, .ref cp, .int ni, .int no])), (aa, .inl (cI, 8001, .inl (upd af (gd + 1) (nI gt)))), (si, .inl (cI, 8001, .inl (upd zf (nI (gd + 1)).toNatClampNeg (nI z)))), (so, .inl (cI, 8001, .inl (of))), (ro, .inl (cB, 90000, .inl (rf)))] := hD
            rw [show ((upd zf (nI (gd + 1)).toNatClampNeg (nI z)) : Nat → Int32) = upd zf (gd + 1) (nI z) from by rw [nI_clamp (by omega)]] at hP hD
            have hP : va_P D zC [(m0, .inr (3, [.ref mk, .ref mt, .int kd, .ref wo, .int wn, .ref re, .int pc, .int sta, .int dn, .int th, .ref ro, .ref aa, .ref si, .ref so, .ref la, .int (nI (gd + 1)), .int (nI gl), .int (nI gt), .int (nI gr), .ref ip, .ref oq, .ref cp, .int ni, .int no])), (aa, .inl (cI, 8001, .inl (upd af (gd + 1) (nI gt)))), (si, .inl (cI, 8001, .inl (upd zf (gd + 1) (nI z)))), (so, .inl (cI, 8001, .inl (of))), (ro, .inl (cB, 90000, .inl (rf)))] _ := hP
            have hD : va_D A [(m0, .inr (3, [.ref mk, .ref mt, .int kd, .ref wo, .int wn, .ref re, .int pc, .int sta, .int dn, .int th, .ref ro, .ref aa, .ref si, .ref so, .ref la, .int (nI (gd + 1)), .int (nI gl), .int (nI gt), .int (nI gr), .ref ip, .ref oq, .ref cp, .int ni, .int no])), (aa, .inl (cI, 8001, .inl (upd af (gd + 1) (nI gt)))), (si, .inl (cI, 8001, .inl (upd zf (gd + 1) (nI z)))), (so, .inl (cI, 8001, .inl (of))), (ro, .inl (cB, 90000, .inl (rf)))] := hD
            refine lv_aload_n hx hb d_Mo_object_88 rfl (lv_at hl 0 rfl) ?_
            refine zget hE hK hP 0 rfl fd_Mo_33 rfl d_Mo_object_89 ?_
            refine lv_aload_n hx hb d_Mo_object_92 rfl (lv_at hl 0 rfl) ?_
            refine zget hE hK hP 0 rfl fd_Mo_74 rfl d_Mo_object_93 ?_
            refine lv_iload_n hx hb d_Mo_object_96 rfl (lv_at hl 2 rfl) ?_
            refine va_iast hx hb hK hP hD hS 3 0 rfl rfl (vp_in_nI (by omega) (by omega)) d_Mo_object_97 (fun H locs hP hD hS => ?_)
            have hP : va_P D zC [(m0, .inr (3, [.ref mk, .ref mt, .int kd, .ref wo, .int wn, .ref re, .int pc, .int sta, .int dn, .int th, .ref ro, .ref aa, .ref si, .ref so, .ref la, .int (nI (gd + 1)), .int (nI gl), .int (nI gt), .int (nI gr), .ref ip, .ref oq, .ref cp, .int ni, .int no])), (aa, .inl (cI, 8001, .inl (upd af (gd + 1) (nI gt)))), (si, .inl (cI, 8001, .inl (upd zf (gd + 1) (nI z)))), (so, .inl (cI, 8001, .inl (upd of (nI (gd + 1)).toNatClampNeg kin))), (ro, .inl (cB, 90000, .inl (rf)))] _ := hP
            have hD : va_D A [(m0, .inr (3, [.ref mk, .ref mt, .int kd, .ref wo, .int wn, .ref re, .int pc, .int sta, .int dn, .int th, .ref ro, .ref aa, .ref si, .ref so, .ref la, .int (nI (gd + 1)), .int (nI gl), .int (nI gt), .int (nI gr), .ref ip, .ref oq, .ref cp, .int ni, .int no])), (aa, .inl (cI, 8001, .inl (upd af (gd + 1) (nI gt)))), (si, .inl (cI, 8001, .inl (upd zf (gd + 1) (nI z)))), (so, .inl (cI, 8001, .inl (upd of (nI (gd + 1)).toNatClampNeg kin))), (ro, .inl (cB, 90000, .inl (rf)))] := hD
            rw [show ((upd of (nI (gd + 1)).toNatClampNeg kin) : Nat → Int32) = upd of (gd + 1) kin from by rw [nI_clamp (by omega)]] at hP hD
            have hP : va_P D zC [(m0, .inr (3, [.ref mk, .ref mt, .int kd, .ref wo, .int wn, .ref re, .int pc, .int sta, .int dn, .int th, .ref ro, .ref aa, .ref si, .ref so, .ref la, .int (nI (gd + 1)), .int (nI gl), .int (nI gt), .int (nI gr), .ref ip, .ref oq, .ref cp, .int ni, .int no])), (aa, .inl (cI, 8001, .inl (upd af (gd + 1) (nI gt)))), (si, .inl (cI, 8001, .inl (upd zf (gd + 1) (nI z)))), (so, .inl (cI, 8001, .inl (upd of (gd + 1) kin))), (ro, .inl (cB, 90000, .inl (rf)))] _ := hP
            have hD : va_D A [(m0, .inr (3, [.ref mk, .ref mt, .int kd, .ref wo, .int wn, .ref re, .int pc, .int sta, .int dn, .int th, .ref ro, .ref aa, .ref si, .ref so, .ref la, .int (nI (gd + 1)), .int (nI gl), .int (nI gt), .int (nI gr), .ref ip, .ref oq, .ref cp, .int ni, .int no])), (aa, .inl (cI, 8001, .inl (upd af (gd + 1) (nI gt)))), (si, .inl (cI, 8001, .inl (upd zf (gd + 1) (nI z)))), (so, .inl (cI, 8001, .inl (upd of (gd + 1) kin))), (ro, .inl (cB, 90000, .inl (rf)))] := hD
            refine lv_iconst (v := 0) hx hb d_Mo_object_98 (by decide) ?_
            refine lv_istore_n (lv' := [(3, .int 0), (0, .ref m0), (1, .int ((nI z))), (2, .int kin)]) hx hb d_Mo_object_99 rfl hl (by decide) rfl (fun ls hl => ?_)
            rw [show ((rf) : Nat → Int32) = va_cpy (fun _ => 0) (rf) 0 gt 0 from (cz_0 (rf) gt).symm] at hP hD
            have hP : va_P D zC [(m0, .inr (3, [.ref mk, .ref mt, .int kd, .ref wo, .int wn, .ref re, .int pc, .int sta, .int dn, .int th, .ref ro, .ref aa, .ref si, .ref so, .ref la, .int (nI (gd + 1)), .int (nI gl), .int (nI gt), .int (nI gr), .ref ip, .ref oq, .ref cp, .int ni, .int no])), (aa, .inl (cI, 8001, .inl (upd af (gd + 1) (nI gt)))), (si, .inl (cI, 8001, .inl (upd zf (gd + 1) (nI z)))), (so, .inl (cI, 8001, .inl (upd of (gd + 1) kin))), (ro, .inl (cB, 90000, .inl (va_cpy (fun _ => 0) (rf) 0 gt 0)))] _ := hP
            have hD : va_D A [(m0, .inr (3, [.ref mk, .ref mt, .int kd, .ref wo, .int wn, .ref re, .int pc, .int sta, .int dn, .int th, .ref ro, .ref aa, .ref si, .ref so, .ref la, .int (nI (gd + 1)), .int (nI gl), .int (nI gt), .int (nI gr), .ref ip, .ref oq, .ref cp, .int ni, .int no])), (aa, .inl (cI, 8001, .inl (upd af (gd + 1) (nI gt)))), (si, .inl (cI, 8001, .inl (upd zf (gd + 1) (nI z)))), (so, .inl (cI, 8001, .inl (upd of (gd + 1) kin))), (ro, .inl (cB, 90000, .inl (va_cpy (fun _ => 0) (rf) 0 gt 0)))] := hD
            refine zloopH (σ := Nat) (fun j x ls H locs cells slots => (x + j = z ∧ cells = 0 ∧ slots = 0) ∧ lv_has ls 4 [(3, .int (nI x)), (0, .ref m0), (1, .int (nI z)), (2, .int kin)] ∧ va_P D zC [(m0, .inr (3, [.ref mk, .ref mt, .int kd, .ref wo, .int wn, .ref re, .int pc, .int sta, .int dn, .int th, .ref ro, .ref aa, .ref si, .ref so, .ref la, .int (nI (gd + 1)), .int (nI gl), .int (nI gt), .int (nI gr), .ref ip, .ref oq, .ref cp, .int ni, .int no])), (aa, .inl (cI, 8001, .inl (upd af (gd + 1) (nI gt)))), (si, .inl (cI, 8001, .inl (upd zf (gd + 1) (nI z)))), (so, .inl (cI, 8001, .inl (upd of (gd + 1) kin))), (ro, .inl (cB, 90000, .inl (va_cpy (fun _ => 0) (rf) 0 gt x)))] H ∧ va_D A [(m0, .inr (3, [.ref mk, .ref mt, .int kd, .ref wo, .int wn, .ref re, .int pc, .int sta, .int dn, .int th, .ref ro, .ref aa, .ref si, .ref so, .ref la, .int (nI (gd + 1)), .int (nI gl), .int (nI gt), .int (nI gr), .ref ip, .ref oq, .ref cp, .int ni, .int no])), (aa, .inl (cI, 8001, .inl (upd af (gd + 1) (nI gt)))), (si, .inl (cI, 8001, .inl (upd zf (gd + 1) (nI z)))), (so, .inl (cI, 8001, .inl (upd of (gd + 1) kin))), (ro, .inl (cB, 90000, .inl (va_cpy (fun _ => 0) (rf) 0 gt x)))] ∧ va_S A s.heap H locs) (fun j x ls H locs cells slots hI ih => ?_) z 0 ls ⟨⟨by omega, rfl, rfl⟩, hl, hP, hD, hS⟩
            obtain ⟨⟨hj, rfl, rfl⟩, hl, hP, hD, hS⟩ := hI
            refine lv_iload_n hx hb d_Mo_object_100 rfl (lv_at hl 0 rfl) ?_
            refine lv_iload_n hx hb d_Mo_object_101 rfl (lv_at hl 2 rfl) ?_
            refine lv_icmp_ge (tgt := 123) hx hb d_Mo_object_102 (by decide) (fun h12 => ?_) (fun h12 => ?_)
            · have hx0 : x = z := by have := z_le' (by omega) h12; omega
              subst hx0
              refine lv_aload_n hx hb d_Mo_object_123 rfl (lv_at hl 1 rfl) ?_
              refine lv_dup hx hb d_Mo_object_124 rfl ?_
              refine zget hE hK hP 0 rfl fd_Mo_85 rfl d_Mo_object_125 ?_
              refine lv_iload_n hx hb d_Mo_object_128 rfl (lv_at hl 2 rfl) ?_
              refine zgoi (wr := [(m0, .inr (3, [.ref mk, .ref mt, .int kd, .ref wo, .int wn, .ref re, .int pc, .int sta, .int dn, .int th, .ref ro, .ref aa, .ref si, .ref so, .ref la, .int (nI (gd + 1)), .int (nI gl), .int (nI gt), .int (nI gr), .ref ip, .ref oq, .ref cp, .int ni, .int no])), (aa, .inl (cI, 8001, .inl (upd af (gd + 1) (nI gt)))), (si, .inl (cI, 8001, .inl (upd zf (gd + 1) (nI x)))), (so, .inl (cI, 8001, .inl (upd of (gd + 1) kin))), (ro, .inl (cB, 90000, .inl (va_cpy (fun _ => 0) (rf) 0 gt x)))]) (zrunS (n := 1) (As := [.int (nI x)]) (rest := [.int (nI gt), .ref m0]) hE (c_Mo_up l D _ _ (nI x)) cb_Mo_up lk_Mo_80 st_Mo_up (zpreS hK hP hD [] rfl rfl rfl) ⟨Nat.le_of_ble_eq_true rfl, Nat.le_of_ble_eq_true rfl, Nat.le_of_ble_eq_true rfl, Nat.le_of_ble_eq_true rfl⟩ rfl hl.1 rfl (Nat.le_of_ble_eq_true rfl) d_Mo_object_129) hP hD hS hA [] [0, 1, 2, 3, 4] rfl rfl rfl (by decide) (fun r14 u15 H locs hq13 hP hD hS => ?_)
              subst hq13
              have hP : va_P D zC [(m0, .inr (3, [.ref mk, .ref mt, .int kd, .ref wo, .int wn, .ref re, .int pc, .int sta, .int dn, .int th, .ref ro, .ref aa, .ref si, .ref so, .ref la, .int (nI (gd + 1)), .int (nI gl), .int (nI gt), .int (nI gr), .ref ip, .ref oq, .ref cp, .int ni, .int no])), (aa, .inl (cI, 8001, .inl (upd af (gd + 1) (nI gt)))), (si, .inl (cI, 8001, .inl (upd zf (gd + 1) (nI x)))), (so, .inl (cI, 8001, .inl (upd of (gd + 1) kin))), (ro, .inl (cB, 90000, .inl (va_cpy (fun _ => 0) (rf) 0 gt x)))] _ := hP
              have hD : va_D A [(m0, .inr (3, [.ref mk, .ref mt, .int kd, .ref wo, .int wn, .ref re, .int pc, .int sta, .int dn, .int th, .ref ro, .ref aa, .ref si, .ref so, .ref la, .int (nI (gd + 1)), .int (nI gl), .int (nI gt), .int (nI gr), .ref ip, .ref oq, .ref cp, .int ni, .int no])), (aa, .inl (cI, 8001, .inl (upd af (gd + 1) (nI gt)))), (si, .inl (cI, 8001, .inl (upd zf (gd + 1) (nI x)))), (so, .inl (cI, 8001, .inl (upd of (gd + 1) kin))), (ro, .inl (cB, 90000, .inl (va_cpy (fun _ => 0) (rf) 0 gt x)))] := hD
              refine z_st (st' := [.int (nI (up4 x)), .int (nI gt), .ref m0]) (by rw [show ((sp_Mo_up (nI x)) : Int32) = nI (up4 x) from up4_m x (by omega)]) ?_
              refine lv_iadd hx hb d_Mo_object_132 ?_
              refine z_st (st' := [.int (nI (gt + up4 x)), .ref m0]) (by rw [show (((nI gt) + (nI (up4 x))) : Int32) = nI (gt + up4 x) from nI_add _ _]) ?_
              refine zput (v := .int (nI (gt + up4 x))) hE hK hP hD hS 0 rfl fd_Mo_85 ft_Mo_17 rfl rfl (Nat.le_of_ble_eq_true rfl) d_Mo_object_133 (fun H locs hP hD hS => ?_)
              have hP : va_P D zC [(m0, .inr (3, [.ref mk, .ref mt, .int kd, .ref wo, .int wn, .ref re, .int pc, .int sta, .int dn, .int th, .ref ro, .ref aa, .ref si, .ref so, .ref la, .int (nI (gd + 1)), .int (nI gl), .int (nI (gt + up4 x)), .int (nI gr), .ref ip, .ref oq, .ref cp, .int ni, .int no])), (aa, .inl (cI, 8001, .inl (upd af (gd + 1) (nI gt)))), (si, .inl (cI, 8001, .inl (upd zf (gd + 1) (nI x)))), (so, .inl (cI, 8001, .inl (upd of (gd + 1) kin))), (ro, .inl (cB, 90000, .inl (va_cpy (fun _ => 0) (rf) 0 gt x)))] _ := hP
              have hD : va_D A [(m0, .inr (3, [.ref mk, .ref mt, .int kd, .ref wo, .int wn, .ref re, .int pc, .int sta, .int dn, .int th, .ref ro, .ref aa, .ref si, .ref so, .ref la, .int (nI (gd + 1)), .int (nI gl), .int (nI (gt + up4 x)), .int (nI gr), .ref ip, .ref oq, .ref cp, .int ni, .int no])), (aa, .inl (cI, 8001, .inl (upd af (gd + 1) (nI gt)))), (si, .inl (cI, 8001, .inl (upd zf (gd + 1) (nI x)))), (so, .inl (cI, 8001, .inl (upd of (gd + 1) kin))), (ro, .inl (cB, 90000, .inl (va_cpy (fun _ => 0) (rf) 0 gt x)))] := hD
              refine lv_aload_n hx hb d_Mo_object_136 rfl (lv_at hl 1 rfl) ?_
              refine lv_dup hx hb d_Mo_object_137 rfl ?_
              refine zget hE hK hP 0 rfl fd_Mo_77 rfl d_Mo_object_138 ?_
              refine lv_iload_n hx hb d_Mo_object_141 rfl (lv_at hl 2 rfl) ?_
              refine zgoi (wr := [(m0, .inr (3, [.ref mk, .ref mt, .int kd, .ref wo, .int wn, .ref re, .int pc, .int sta, .int dn, .int th, .ref ro, .ref aa, .ref si, .ref so, .ref la, .int (nI (gd + 1)), .int (nI gl), .int (nI (gt + up4 x)), .int (nI gr), .ref ip, .ref oq, .ref cp, .int ni, .int no])), (aa, .inl (cI, 8001, .inl (upd af (gd + 1) (nI gt)))), (si, .inl (cI, 8001, .inl (upd zf (gd + 1) (nI x)))), (so, .inl (cI, 8001, .inl (upd of (gd + 1) kin))), (ro, .inl (cB, 90000, .inl (va_cpy (fun _ => 0) (rf) 0 gt x)))]) (zrunS (n := 1) (As := [.int (nI x)]) (rest := [.int (nI gr), .ref m0]) hE (c_Mo_up l D _ _ (nI x)) cb_Mo_up lk_Mo_80 st_Mo_up (zpreS hK hP hD [] rfl rfl rfl) ⟨Nat.le_of_ble_eq_true rfl, Nat.le_of_ble_eq_true rfl, Nat.le_of_ble_eq_true rfl, Nat.le_of_ble_eq_true rfl⟩ rfl hl.1 rfl (Nat.le_of_ble_eq_true rfl) d_Mo_object_142) hP hD hS hA [] [0, 1, 2, 3, 4] rfl rfl rfl (by decide) (fun r17 u18 H locs hq16 hP hD hS => ?_)
              subst hq16
              have hP : va_P D zC [(m0, .inr (3, [.ref mk, .ref mt, .int kd, .ref wo, .int wn, .ref re, .int pc, .int sta, .int dn, .int th, .ref ro, .ref aa, .ref si, .ref so, .ref la, .int (nI (gd + 1)), .int (nI gl), .int (nI (gt + up4 x)), .int (nI gr), .ref ip, .ref oq, .ref cp, .int ni, .int no])), (aa, .inl (cI, 8001, .inl (upd af (gd + 1) (nI gt)))), (si, .inl (cI, 8001, .inl (upd zf (gd + 1) (nI x)))), (so, .inl (cI, 8001, .inl (upd of (gd + 1) kin))), (ro, .inl (cB, 90000, .inl (va_cpy (fun _ => 0) (rf) 0 gt x)))] _ := hP
              have hD : va_D A [(m0, .inr (3, [.ref mk, .ref mt, .int kd, .ref wo, .int wn, .ref re, .int pc, .int sta, .int dn, .int th, .ref ro, .ref aa, .ref si, .ref so, .ref la, .int (nI (gd + 1)), .int (nI gl), .int (nI (gt + up4 x)), .int (nI gr), .ref ip, .ref oq, .ref cp, .int ni, .int no])), (aa, .inl (cI, 8001, .inl (upd af (gd + 1) (nI gt)))), (si, .inl (cI, 8001, .inl (upd zf (gd + 1) (nI x)))), (so, .inl (cI, 8001, .inl (upd of (gd + 1) kin))), (ro, .inl (cB, 90000, .inl (va_cpy (fun _ => 0) (rf) 0 gt x)))] := hD
              refine z_st (st' := [.int (nI (up4 x)), .int (nI gr), .ref m0]) (by rw [show ((sp_Mo_up (nI x)) : Int32) = nI (up4 x) from up4_m x (by omega)]) ?_
              refine lv_iadd hx hb d_Mo_object_145 ?_
              refine z_st (st' := [.int (nI (gr + up4 x)), .ref m0]) (by rw [show (((nI gr) + (nI (up4 x))) : Int32) = nI (gr + up4 x) from nI_add _ _]) ?_
              refine zput (v := .int (nI (gr + up4 x))) hE hK hP hD hS 0 rfl fd_Mo_77 ft_Mo_18 rfl rfl (Nat.le_of_ble_eq_true rfl) d_Mo_object_146 (fun H locs hP hD hS => ?_)
              have hP : va_P D zC [(m0, .inr (3, [.ref mk, .ref mt, .int kd, .ref wo, .int wn, .ref re, .int pc, .int sta, .int dn, .int th, .ref ro, .ref aa, .ref si, .ref so, .ref la, .int (nI (gd + 1)), .int (nI gl), .int (nI (gt + up4 x)), .int (nI (gr + up4 x)), .ref ip, .ref oq, .ref cp, .int ni, .int no])), (aa, .inl (cI, 8001, .inl (upd af (gd + 1) (nI gt)))), (si, .inl (cI, 8001, .inl (upd zf (gd + 1) (nI x)))), (so, .inl (cI, 8001, .inl (upd of (gd + 1) kin))), (ro, .inl (cB, 90000, .inl (va_cpy (fun _ => 0) (rf) 0 gt x)))] _ := hP
              have hD : va_D A [(m0, .inr (3, [.ref mk, .ref mt, .int kd, .ref wo, .int wn, .ref re, .int pc, .int sta, .int dn, .int th, .ref ro, .ref aa, .ref si, .ref so, .ref la, .int (nI (gd + 1)), .int (nI gl), .int (nI (gt + up4 x)), .int (nI (gr + up4 x)), .ref ip, .ref oq, .ref cp, .int ni, .int no])), (aa, .inl (cI, 8001, .inl (upd af (gd + 1) (nI gt)))), (si, .inl (cI, 8001, .inl (upd zf (gd + 1) (nI x)))), (so, .inl (cI, 8001, .inl (upd of (gd + 1) kin))), (ro, .inl (cB, 90000, .inl (va_cpy (fun _ => 0) (rf) 0 gt x)))] := hD
              refine lv_aload_n hx hb d_Mo_object_149 rfl (lv_at hl 1 rfl) ?_
              refine zget hE hK hP 0 rfl fd_Mo_74 rfl d_Mo_object_150 ?_
              subst hkn
              have hP9 := hP.sub (ws' := [(m0, .inr (3, [.ref mk, .ref mt, .int kd, .ref wo, .int wn, .ref re, .int pc, .int sta, .int dn, .int th, .ref ro, .ref aa, .ref si, .ref so, .ref la, .int (nI (gd + 1)), .int (nI gl), .int (nI (gt + up4 x)), .int (nI (gr + up4 x)), .ref ip, .ref oq, .ref cp, .int ni, .int no])), (aa, .inl (cI, 8001, .inl (upd af (gd + 1) (nI gt)))), (si, .inl (cI, 8001, .inl (upd zf (gd + 1) (nI x)))), (so, .inl (cI, 8001, .inl (upd of (gd + 1) (if gb = true then 2 else 1)))), (ro, .inl (cB, 90000, .inl (va_cpy (fun _ => 0) (rf) 0 gt x)))]) [0, 1, 2, 3, 4] rfl
              have hD9 := hD.sub (ws' := [(m0, .inr (3, [.ref mk, .ref mt, .int kd, .ref wo, .int wn, .ref re, .int pc, .int sta, .int dn, .int th, .ref ro, .ref aa, .ref si, .ref so, .ref la, .int (nI (gd + 1)), .int (nI gl), .int (nI (gt + up4 x)), .int (nI (gr + up4 x)), .ref ip, .ref oq, .ref cp, .int ni, .int no])), (aa, .inl (cI, 8001, .inl (upd af (gd + 1) (nI gt)))), (si, .inl (cI, 8001, .inl (upd zf (gd + 1) (nI x)))), (so, .inl (cI, 8001, .inl (upd of (gd + 1) (if gb = true then 2 else 1)))), (ro, .inl (cB, 90000, .inl (va_cpy (fun _ => 0) (rf) 0 gt x)))]) [0, 1, 2, 3, 4] rfl rfl
              exact zreti hx hb hr rfl hlocks hS (((gd + 1), (gt + up4 x), (gr + up4 x)), upd af (gd + 1) (nI gt), upd zf (gd + 1) (nI x), upd of (gd + 1) (if gb = true then 2 else 1), va_cpy (fun _ => 0) (rf) 0 gt x) ⟨by unfold oAn; rw [hsm, hmd2]; rfl, by unfold oM oLf; rw [hsm, ← hmd2, ← hR.2.2.2.1]; exact rRep_make gb hR hm8 hz hbz hroom⟩ rfl hP9 hD9 d_Mo_object_153
            · have hlt : x < z := z_nle' (by omega) h12
              refine lv_aload_n hx hb d_Mo_object_105 rfl (lv_at hl 1 rfl) ?_
              refine zget hE hK hP 0 rfl fd_Mo_23 rfl d_Mo_object_106 ?_
              refine lv_aload_n hx hb d_Mo_object_109 rfl (lv_at hl 1 rfl) ?_
              refine zget hE hK hP 0 rfl fd_Mo_85 rfl d_Mo_object_110 ?_
              refine lv_iload_n hx hb d_Mo_object_113 rfl (lv_at hl 0 rfl) ?_
              refine lv_iadd hx hb d_Mo_object_114 ?_
              refine z_st (st' := [.int (nI (gt + x)), .ref ro]) (by rw [show (((nI gt) + (nI x)) : Int32) = nI (gt + x) from nI_add gt x]) ?_
              refine lv_iconst (v := 0) hx hb d_Mo_object_115 (by decide) ?_
              refine va_bast hx hb hK hP hD hS 4 1 rfl rfl (vp_in_nI (by omega) (by omega)) d_Mo_object_116 (fun H locs hP hD hS => ?_)
              have hP : va_P D zC [(m0, .inr (3, [.ref mk, .ref mt, .int kd, .ref wo, .int wn, .ref re, .int pc, .int sta, .int dn, .int th, .ref ro, .ref aa, .ref si, .ref so, .ref la, .int (nI (gd + 1)), .int (nI gl), .int (nI gt), .int (nI gr), .ref ip, .ref oq, .ref cp, .int ni, .int no])), (aa, .inl (cI, 8001, .inl (upd af (gd + 1) (nI gt)))), (si, .inl (cI, 8001, .inl (upd zf (gd + 1) (nI z)))), (so, .inl (cI, 8001, .inl (upd of (gd + 1) kin))), (ro, .inl (cB, 90000, .inl (upd (va_cpy (fun _ => 0) (rf) 0 gt x) (nI (gt + x)).toNatClampNeg (vp_nar .byte 0))))] _ := hP
              have hD : va_D A [(m0, .inr (3, [.ref mk, .ref mt, .int kd, .ref wo, .int wn, .ref re, .int pc, .int sta, .int dn, .int th, .ref ro, .ref aa, .ref si, .ref so, .ref la, .int (nI (gd + 1)), .int (nI gl), .int (nI gt), .int (nI gr), .ref ip, .ref oq, .ref cp, .int ni, .int no])), (aa, .inl (cI, 8001, .inl (upd af (gd + 1) (nI gt)))), (si, .inl (cI, 8001, .inl (upd zf (gd + 1) (nI z)))), (so, .inl (cI, 8001, .inl (upd of (gd + 1) kin))), (ro, .inl (cB, 90000, .inl (upd (va_cpy (fun _ => 0) (rf) 0 gt x) (nI (gt + x)).toNatClampNeg (vp_nar .byte 0))))] := hD
              rw [show ((upd (va_cpy (fun _ => 0) (rf) 0 gt x) (nI (gt + x)).toNatClampNeg (vp_nar .byte 0)) : Nat → Int32) = upd (va_cpy (fun _ => 0) (rf) 0 gt x) (gt + x) 0 from by rw [nI_clamp (by omega), show vp_nar .byte 0 = 0 from by decide]] at hP hD
              have hP : va_P D zC [(m0, .inr (3, [.ref mk, .ref mt, .int kd, .ref wo, .int wn, .ref re, .int pc, .int sta, .int dn, .int th, .ref ro, .ref aa, .ref si, .ref so, .ref la, .int (nI (gd + 1)), .int (nI gl), .int (nI gt), .int (nI gr), .ref ip, .ref oq, .ref cp, .int ni, .int no])), (aa, .inl (cI, 8001, .inl (upd af (gd + 1) (nI gt)))), (si, .inl (cI, 8001, .inl (upd zf (gd + 1) (nI z)))), (so, .inl (cI, 8001, .inl (upd of (gd + 1) kin))), (ro, .inl (cB, 90000, .inl (upd (va_cpy (fun _ => 0) (rf) 0 gt x) (gt + x) 0)))] _ := hP
              have hD : va_D A [(m0, .inr (3, [.ref mk, .ref mt, .int kd, .ref wo, .int wn, .ref re, .int pc, .int sta, .int dn, .int th, .ref ro, .ref aa, .ref si, .ref so, .ref la, .int (nI (gd + 1)), .int (nI gl), .int (nI gt), .int (nI gr), .ref ip, .ref oq, .ref cp, .int ni, .int no])), (aa, .inl (cI, 8001, .inl (upd af (gd + 1) (nI gt)))), (si, .inl (cI, 8001, .inl (upd zf (gd + 1) (nI z)))), (so, .inl (cI, 8001, .inl (upd of (gd + 1) kin))), (ro, .inl (cB, 90000, .inl (upd (va_cpy (fun _ => 0) (rf) 0 gt x) (gt + x) 0)))] := hD
              refine lv_iinc (k := 0) (v := (nI x) + 1) (lv' := [(3, .int ((nI x) + 1)), (0, .ref m0), (1, .int (nI z)), (2, .int kin)]) hx hb d_Mo_object_117 hl rfl rfl (by decide) rfl (fun ls hl => ?_)
              refine lv_goto (tgt := 100) hx hb d_Mo_object_120 (by decide) ?_
              rw [nI_1] at hl
              rw [show ((upd (va_cpy (fun _ => 0) (rf) 0 gt x) (gt + x) 0) : Nat → Int32) = va_cpy (fun _ => 0) (rf) 0 gt (x + 1) from cz_s (rf) gt x] at hP hD
              have hP : va_P D zC [(m0, .inr (3, [.ref mk, .ref mt, .int kd, .ref wo, .int wn, .ref re, .int pc, .int sta, .int dn, .int th, .ref ro, .ref aa, .ref si, .ref so, .ref la, .int (nI (gd + 1)), .int (nI gl), .int (nI gt), .int (nI gr), .ref ip, .ref oq, .ref cp, .int ni, .int no])), (aa, .inl (cI, 8001, .inl (upd af (gd + 1) (nI gt)))), (si, .inl (cI, 8001, .inl (upd zf (gd + 1) (nI z)))), (so, .inl (cI, 8001, .inl (upd of (gd + 1) kin))), (ro, .inl (cB, 90000, .inl (va_cpy (fun _ => 0) (rf) 0 gt (x + 1))))] _ := hP
              have hD : va_D A [(m0, .inr (3, [.ref mk, .ref mt, .int kd, .ref wo, .int wn, .ref re, .int pc, .int sta, .int dn, .int th, .ref ro, .ref aa, .ref si, .ref so, .ref la, .int (nI (gd + 1)), .int (nI gl), .int (nI gt), .int (nI gr), .ref ip, .ref oq, .ref cp, .int ni, .int no])), (aa, .inl (cI, 8001, .inl (upd af (gd + 1) (nI gt)))), (si, .inl (cI, 8001, .inl (upd zf (gd + 1) (nI z)))), (so, .inl (cI, 8001, .inl (upd of (gd + 1) kin))), (ro, .inl (cB, 90000, .inl (va_cpy (fun _ => 0) (rf) 0 gt (x + 1))))] := hD
              exact ih (j - 1) (x + 1) ls H locs 0 0 (by omega) ⟨⟨by omega, rfl, rfl⟩, hl, hP, hD, hS⟩
          · refine lv_aload_n hx hb d_Mo_object_51 rfl (lv_at hl 0 rfl) ?_
            refine zgov (wr := []) (zrunV (n := 0) (As := []) (rest := []) hE (c_Mo_pack l D cI cB cJ _ m0 mk mt kd wo wn re pc sta dn th ro aa si so la gd gl gt gr ip oq cp ni no af zf of rf M lf hR) cb_Mo_pack lk_Mo_88 in_Mo_pack se_Mo_pack (zpreV (q0 := 0) hK hP hD rfl rfl rfl [0, 1, 2, 3, 4] rfl rfl rfl) ⟨Nat.le_of_ble_eq_true rfl, Nat.le_of_ble_eq_true rfl, Nat.le_of_ble_eq_true rfl, Nat.le_of_ble_eq_true rfl⟩ rfl hl.1 rfl (Nat.le_of_ble_eq_true rfl) d_Mo_object_52) hP hD hS hA [0, 1, 2, 3, 4] [] rfl rfl rfl (by decide) (fun u21 H locs hq19 hP hD hS => ?_)
            have hR := hq19
            have hP : va_P D zC [(m0, .inr (3, [.ref mk, .ref mt, .int kd, .ref wo, .int wn, .ref re, .int pc, .int sta, .int dn, .int th, .ref ro, .ref aa, .ref si, .ref so, .ref la, .int (nI gd), .int (nI gl), .int (nI gr), .int (nI gr), .ref ip, .ref oq, .ref cp, .int ni, .int no])), (aa, .inl (cI, 8001, .inl (u21.1))), (si, .inl (cI, 8001, .inl (zf))), (so, .inl (cI, 8001, .inl (of))), (ro, .inl (cB, 90000, .inl (u21.2)))] _ := hP
            have hD : va_D A [(m0, .inr (3, [.ref mk, .ref mt, .int kd, .ref wo, .int wn, .ref re, .int pc, .int sta, .int dn, .int th, .ref ro, .ref aa, .ref si, .ref so, .ref la, .int (nI gd), .int (nI gl), .int (nI gr), .int (nI gr), .ref ip, .ref oq, .ref cp, .int ni, .int no])), (aa, .inl (cI, 8001, .inl (u21.1))), (si, .inl (cI, 8001, .inl (zf))), (so, .inl (cI, 8001, .inl (of))), (ro, .inl (cB, 90000, .inl (u21.2)))] := hD
            have hroom : gr + up4 z ≤ 90000 := by omega
            refine lv_aload_n hx hb d_Mo_object_55 rfl (lv_at hl 0 rfl) ?_
            refine lv_dup hx hb d_Mo_object_56 rfl ?_
            refine zget hE hK hP 0 rfl fd_Mo_74 rfl d_Mo_object_57 ?_
            refine lv_iconst (v := 1) hx hb d_Mo_object_60 (by decide) ?_
            refine lv_iadd hx hb d_Mo_object_61 ?_
            refine z_st (st' := [.int (nI (gd + 1)), .ref m0]) (by rw [show (((nI gd) + 1) : Int32) = nI (gd + 1) from nI_1 gd]) ?_
            refine zput (v := .int (nI (gd + 1))) hE hK hP hD hS 0 rfl fd_Mo_74 ft_Mo_15 rfl rfl (Nat.le_of_ble_eq_true rfl) d_Mo_object_62 (fun H locs hP hD hS => ?_)
            have hP : va_P D zC [(m0, .inr (3, [.ref mk, .ref mt, .int kd, .ref wo, .int wn, .ref re, .int pc, .int sta, .int dn, .int th, .ref ro, .ref aa, .ref si, .ref so, .ref la, .int (nI (gd + 1)), .int (nI gl), .int (nI gr), .int (nI gr), .ref ip, .ref oq, .ref cp, .int ni, .int no])), (aa, .inl (cI, 8001, .inl (u21.1))), (si, .inl (cI, 8001, .inl (zf))), (so, .inl (cI, 8001, .inl (of))), (ro, .inl (cB, 90000, .inl (u21.2)))] _ := hP
            have hD : va_D A [(m0, .inr (3, [.ref mk, .ref mt, .int kd, .ref wo, .int wn, .ref re, .int pc, .int sta, .int dn, .int th, .ref ro, .ref aa, .ref si, .ref so, .ref la, .int (nI (gd + 1)), .int (nI gl), .int (nI gr), .int (nI gr), .ref ip, .ref oq, .ref cp, .int ni, .int no])), (aa, .inl (cI, 8001, .inl (u21.1))), (si, .inl (cI, 8001, .inl (zf))), (so, .inl (cI, 8001, .inl (of))), (ro, .inl (cB, 90000, .inl (u21.2)))] := hD
            refine lv_aload_n hx hb d_Mo_object_65 rfl (lv_at hl 0 rfl) ?_
            refine zget hE hK hP 0 rfl fd_Mo_27 rfl d_Mo_object_66 ?_
            refine lv_aload_n hx hb d_Mo_object_69 rfl (lv_at hl 0 rfl) ?_
            refine zget hE hK hP 0 rfl fd_Mo_74 rfl d_Mo_object_70 ?_
            refine lv_aload_n hx hb d_Mo_object_73 rfl (lv_at hl 0 rfl) ?_
            refine zget hE hK hP 0 rfl fd_Mo_85 rfl d_Mo_object_74 ?_
            refine va_iast hx hb hK hP hD hS 1 0 rfl rfl (vp_in_nI (by omega) (by omega)) d_Mo_object_77 (fun H locs hP hD hS => ?_)
            have hP : va_P D zC [(m0, .inr (3, [.ref mk, .ref mt, .int kd, .ref wo, .int wn, .ref re, .int pc, .int sta, .int dn, .int th, .ref ro, .ref aa, .ref si, .ref so, .ref la, .int (nI (gd + 1)), .int (nI gl), .int (nI gr), .int (nI gr), .ref ip, .ref oq, .ref cp, .int ni, .int no])), (aa, .inl (cI, 8001, .inl (upd u21.1 (nI (gd + 1)).toNatClampNeg (nI gr)))), (si, .inl (cI, 8001, .inl (zf))), (so, .inl (cI, 8001, .inl (of))), (ro, .inl (cB, 90000, .inl (u21.2)))] _ := hP
            have hD : va_D A [(m0, .inr (3, [.ref mk, .ref mt, .int kd, .ref wo, .int wn, .ref re, .int pc, .int sta, .int dn, .int th, .ref ro, .ref aa, .ref si, .ref so, .ref la, .int (nI (gd + 1)), .int (nI gl), .int (nI gr), .int (nI gr), .ref ip, .ref oq, .ref cp, .int ni, .int no])), (aa, .inl (cI, 8001, .inl (upd u21.1 (nI (gd + 1)).toNatClampNeg (nI gr)))), (si, .inl (cI, 8001, .inl (zf))), (so, .inl (cI, 8001, .inl (of))), (ro, .inl (cB, 90000, .inl (u21.2)))] := hD
            rw [show ((upd u21.1 (nI (gd + 1)).toNatClampNeg (nI gr)) : Nat → Int32) = upd u21.1 (gd + 1) (nI gr) from by rw [nI_clamp (by omega)]] at hP hD
            have hP : va_P D zC [(m0, .inr (3, [.ref mk, .ref mt, .int kd, .ref wo, .int wn, .ref re, .int pc, .int sta, .int dn, .int th, .ref ro, .ref aa, .ref si, .ref so, .ref la, .int (nI (gd + 1)), .int (nI gl), .int (nI gr), .int (nI gr), .ref ip, .ref oq, .ref cp, .int ni, .int no])), (aa, .inl (cI, 8001, .inl (upd u21.1 (gd + 1) (nI gr)))), (si, .inl (cI, 8001, .inl (zf))), (so, .inl (cI, 8001, .inl (of))), (ro, .inl (cB, 90000, .inl (u21.2)))] _ := hP
            have hD : va_D A [(m0, .inr (3, [.ref mk, .ref mt, .int kd, .ref wo, .int wn, .ref re, .int pc, .int sta, .int dn, .int th, .ref ro, .ref aa, .ref si, .ref so, .ref la, .int (nI (gd + 1)), .int (nI gl), .int (nI gr), .int (nI gr), .ref ip, .ref oq, .ref cp, .int ni, .int no])), (aa, .inl (cI, 8001, .inl (upd u21.1 (gd + 1) (nI gr)))), (si, .inl (cI, 8001, .inl (zf))), (so, .inl (cI, 8001, .inl (of))), (ro, .inl (cB, 90000, .inl (u21.2)))] := hD
            refine lv_aload_n hx hb d_Mo_object_78 rfl (lv_at hl 0 rfl) ?_
            refine zget hE hK hP 0 rfl fd_Mo_30 rfl d_Mo_object_79 ?_
            refine lv_aload_n hx hb d_Mo_object_82 rfl (lv_at hl 0 rfl) ?_
            refine zget hE hK hP 0 rfl fd_Mo_74 rfl d_Mo_object_83 ?_
            refine lv_iload_n hx hb d_Mo_object_86 rfl (lv_at hl 1 rfl) ?_
            refine va_iast hx hb hK hP hD hS 2 0 rfl rfl (vp_in_nI (by omega) (by omega)) d_Mo_object_87 (fun H locs hP hD hS => ?_)
            have hP : va_P D zC [(m0, .inr (3, [.ref mk, .ref mt, .int kd, .ref wo, .int wn, .ref re, .int pc, .int sta, .int dn, .int th, .ref ro, .ref aa, .ref si, .ref so, .ref la, .int (nI (gd + 1)), .int (nI gl), .int (nI gr), .int (nI gr), .ref ip, .ref oq, .ref cp, .int ni, .int no])), (aa, .inl (cI, 8001, .inl (upd u21.1 (gd + 1) (nI gr)))), (si, .inl (cI, 8001, .inl (upd zf (nI (gd + 1)).toNatClampNeg (nI z)))), (so, .inl (cI, 8001, .inl (of))), (ro, .inl (cB, 90000, .inl (u21.2)))] _ := hP
            have hD : va_D A [(m0, .inr (3, [.ref mk, .ref mt, .int kd, .ref wo, .int wn, .ref re, .int pc, .int sta, .int dn, .int th, .ref ro, .ref aa, .ref si, .ref so, .ref la, .int (nI (gd + 1)), .int (nI gl), .int (nI gr), .int (nI gr), .ref ip, .ref oq, .ref cp, .int ni, .int no])), (aa, .inl (cI, 8001, .inl (upd u21.1 (gd + 1) (nI gr)))), (si, .inl (cI, 8001, .inl (upd zf (nI (gd + 1)).toNatClampNeg (nI z)))), (so, .inl (cI, 8001, .inl (of))), (ro, .inl (cB, 90000, .inl (u21.2)))] := hD
            rw [show ((upd zf (nI (gd + 1)).toNatClampNeg (nI z)) : Nat → Int32) = upd zf (gd + 1) (nI z) from by rw [nI_clamp (by omega)]] at hP hD
            have hP : va_P D zC [(m0, .inr (3, [.ref mk, .ref mt, .int kd, .ref wo, .int wn, .ref re, .int pc, .int sta, .int dn, .int th, .ref ro, .ref aa, .ref si, .ref so, .ref la, .int (nI (gd + 1)), .int (nI gl), .int (nI gr), .int (nI gr), .ref ip, .ref oq, .ref cp, .int ni, .int no])), (aa, .inl (cI, 8001, .inl (upd u21.1 (gd + 1) (nI gr)))), (si, .inl (cI, 8001, .inl (upd zf (gd + 1) (nI z)))), (so, .inl (cI, 8001, .inl (of))), (ro, .inl (cB, 90000, .inl (u21.2)))] _ := hP
            have hD : va_D A [(m0, .inr (3, [.ref mk, .ref mt, .int kd, .ref wo, .int wn, .ref re, .int pc, .int sta, .int dn, .int th, .ref ro, .ref aa, .ref si, .ref so, .ref la, .int (nI (gd + 1)), .int (nI gl), .int (nI gr), .int (nI gr), .ref ip, .ref oq, .ref cp, .int ni, .int no])), (aa, .inl (cI, 8001, .inl (upd u21.1 (gd + 1) (nI gr)))), (si, .inl (cI, 8001, .inl (upd zf (gd + 1) (nI z)))), (so, .inl (cI, 8001, .inl (of))), (ro, .inl (cB, 90000, .inl (u21.2)))] := hD
            refine lv_aload_n hx hb d_Mo_object_88 rfl (lv_at hl 0 rfl) ?_
            refine zget hE hK hP 0 rfl fd_Mo_33 rfl d_Mo_object_89 ?_
            refine lv_aload_n hx hb d_Mo_object_92 rfl (lv_at hl 0 rfl) ?_
            refine zget hE hK hP 0 rfl fd_Mo_74 rfl d_Mo_object_93 ?_
            refine lv_iload_n hx hb d_Mo_object_96 rfl (lv_at hl 2 rfl) ?_
            refine va_iast hx hb hK hP hD hS 3 0 rfl rfl (vp_in_nI (by omega) (by omega)) d_Mo_object_97 (fun H locs hP hD hS => ?_)
            have hP : va_P D zC [(m0, .inr (3, [.ref mk, .ref mt, .int kd, .ref wo, .int wn, .ref re, .int pc, .int sta, .int dn, .int th, .ref ro, .ref aa, .ref si, .ref so, .ref la, .int (nI (gd + 1)), .int (nI gl), .int (nI gr), .int (nI gr), .ref ip, .ref oq, .ref cp, .int ni, .int no])), (aa, .inl (cI, 8001, .inl (upd u21.1 (gd + 1) (nI gr)))), (si, .inl (cI, 8001, .inl (upd zf (gd + 1) (nI z)))), (so, .inl (cI, 8001, .inl (upd of (nI (gd + 1)).toNatClampNeg kin))), (ro, .inl (cB, 90000, .inl (u21.2)))] _ := hP
            have hD : va_D A [(m0, .inr (3, [.ref mk, .ref mt, .int kd, .ref wo, .int wn, .ref re, .int pc, .int sta, .int dn, .int th, .ref ro, .ref aa, .ref si, .ref so, .ref la, .int (nI (gd + 1)), .int (nI gl), .int (nI gr), .int (nI gr), .ref ip, .ref oq, .ref cp, .int ni, .int no])), (aa, .inl (cI, 8001, .inl (upd u21.1 (gd + 1) (nI gr)))), (si, .inl (cI, 8001, .inl (upd zf (gd + 1) (nI z)))), (so, .inl (cI, 8001, .inl (upd of (nI (gd + 1)).toNatClampNeg kin))), (ro, .inl (cB, 90000, .inl (u21.2)))] := hD
            rw [show ((upd of (nI (gd + 1)).toNatClampNeg kin) : Nat → Int32) = upd of (gd + 1) kin from by rw [nI_clamp (by omega)]] at hP hD
            have hP : va_P D zC [(m0, .inr (3, [.ref mk, .ref mt, .int kd, .ref wo, .int wn, .ref re, .int pc, .int sta, .int dn, .int th, .ref ro, .ref aa, .ref si, .ref so, .ref la, .int (nI (gd + 1)), .int (nI gl), .int (nI gr), .int (nI gr), .ref ip, .ref oq, .ref cp, .int ni, .int no])), (aa, .inl (cI, 8001, .inl (upd u21.1 (gd + 1) (nI gr)))), (si, .inl (cI, 8001, .inl (upd zf (gd + 1) (nI z)))), (so, .inl (cI, 8001, .inl (upd of (gd + 1) kin))), (ro, .inl (cB, 90000, .inl (u21.2)))] _ := hP
            have hD : va_D A [(m0, .inr (3, [.ref mk, .ref mt, .int kd, .ref wo, .int wn, .ref re, .int pc, .int sta, .int dn, .int th, .ref ro, .ref aa, .ref si, .ref so, .ref la, .int (nI (gd + 1)), .int (nI gl), .int (nI gr), .int (nI gr), .ref ip, .ref oq, .ref cp, .int ni, .int no])), (aa, .inl (cI, 8001, .inl (upd u21.1 (gd + 1) (nI gr)))), (si, .inl (cI, 8001, .inl (upd zf (gd + 1) (nI z)))), (so, .inl (cI, 8001, .inl (upd of (gd + 1) kin))), (ro, .inl (cB, 90000, .inl (u21.2)))] := hD
            refine lv_iconst (v := 0) hx hb d_Mo_object_98 (by decide) ?_
            refine lv_istore_n (lv' := [(3, .int 0), (0, .ref m0), (1, .int ((nI z))), (2, .int kin)]) hx hb d_Mo_object_99 rfl hl (by decide) rfl (fun ls hl => ?_)
            rw [show ((u21.2) : Nat → Int32) = va_cpy (fun _ => 0) (u21.2) 0 gr 0 from (cz_0 (u21.2) gr).symm] at hP hD
            have hP : va_P D zC [(m0, .inr (3, [.ref mk, .ref mt, .int kd, .ref wo, .int wn, .ref re, .int pc, .int sta, .int dn, .int th, .ref ro, .ref aa, .ref si, .ref so, .ref la, .int (nI (gd + 1)), .int (nI gl), .int (nI gr), .int (nI gr), .ref ip, .ref oq, .ref cp, .int ni, .int no])), (aa, .inl (cI, 8001, .inl (upd u21.1 (gd + 1) (nI gr)))), (si, .inl (cI, 8001, .inl (upd zf (gd + 1) (nI z)))), (so, .inl (cI, 8001, .inl (upd of (gd + 1) kin))), (ro, .inl (cB, 90000, .inl (va_cpy (fun _ => 0) (u21.2) 0 gr 0)))] _ := hP
            have hD : va_D A [(m0, .inr (3, [.ref mk, .ref mt, .int kd, .ref wo, .int wn, .ref re, .int pc, .int sta, .int dn, .int th, .ref ro, .ref aa, .ref si, .ref so, .ref la, .int (nI (gd + 1)), .int (nI gl), .int (nI gr), .int (nI gr), .ref ip, .ref oq, .ref cp, .int ni, .int no])), (aa, .inl (cI, 8001, .inl (upd u21.1 (gd + 1) (nI gr)))), (si, .inl (cI, 8001, .inl (upd zf (gd + 1) (nI z)))), (so, .inl (cI, 8001, .inl (upd of (gd + 1) kin))), (ro, .inl (cB, 90000, .inl (va_cpy (fun _ => 0) (u21.2) 0 gr 0)))] := hD
            refine zloopH (σ := Nat) (fun j x ls H locs cells slots => (x + j = z ∧ cells = 0 ∧ slots = 0) ∧ lv_has ls 4 [(3, .int (nI x)), (0, .ref m0), (1, .int (nI z)), (2, .int kin)] ∧ va_P D zC [(m0, .inr (3, [.ref mk, .ref mt, .int kd, .ref wo, .int wn, .ref re, .int pc, .int sta, .int dn, .int th, .ref ro, .ref aa, .ref si, .ref so, .ref la, .int (nI (gd + 1)), .int (nI gl), .int (nI gr), .int (nI gr), .ref ip, .ref oq, .ref cp, .int ni, .int no])), (aa, .inl (cI, 8001, .inl (upd u21.1 (gd + 1) (nI gr)))), (si, .inl (cI, 8001, .inl (upd zf (gd + 1) (nI z)))), (so, .inl (cI, 8001, .inl (upd of (gd + 1) kin))), (ro, .inl (cB, 90000, .inl (va_cpy (fun _ => 0) (u21.2) 0 gr x)))] H ∧ va_D A [(m0, .inr (3, [.ref mk, .ref mt, .int kd, .ref wo, .int wn, .ref re, .int pc, .int sta, .int dn, .int th, .ref ro, .ref aa, .ref si, .ref so, .ref la, .int (nI (gd + 1)), .int (nI gl), .int (nI gr), .int (nI gr), .ref ip, .ref oq, .ref cp, .int ni, .int no])), (aa, .inl (cI, 8001, .inl (upd u21.1 (gd + 1) (nI gr)))), (si, .inl (cI, 8001, .inl (upd zf (gd + 1) (nI z)))), (so, .inl (cI, 8001, .inl (upd of (gd + 1) kin))), (ro, .inl (cB, 90000, .inl (va_cpy (fun _ => 0) (u21.2) 0 gr x)))] ∧ va_S A s.heap H locs) (fun j x ls H locs cells slots hI ih => ?_) z 0 ls ⟨⟨by omega, rfl, rfl⟩, hl, hP, hD, hS⟩
            obtain ⟨⟨hj, rfl, rfl⟩, hl, hP, hD, hS⟩ := hI
            refine lv_iload_n hx hb d_Mo_object_100 rfl (lv_at hl 0 rfl) ?_
            refine lv_iload_n hx hb d_Mo_object_101 rfl (lv_at hl 2 rfl) ?_
            refine lv_icmp_ge (tgt := 123) hx hb d_Mo_object_102 (by decide) (fun h22 => ?_) (fun h22 => ?_)
            · have hx0 : x = z := by have := z_le' (by omega) h22; omega
              subst hx0
              refine lv_aload_n hx hb d_Mo_object_123 rfl (lv_at hl 1 rfl) ?_
              refine lv_dup hx hb d_Mo_object_124 rfl ?_
              refine zget hE hK hP 0 rfl fd_Mo_85 rfl d_Mo_object_125 ?_
              refine lv_iload_n hx hb d_Mo_object_128 rfl (lv_at hl 2 rfl) ?_
              refine zgoi (wr := [(m0, .inr (3, [.ref mk, .ref mt, .int kd, .ref wo, .int wn, .ref re, .int pc, .int sta, .int dn, .int th, .ref ro, .ref aa, .ref si, .ref so, .ref la, .int (nI (gd + 1)), .int (nI gl), .int (nI gr), .int (nI gr), .ref ip, .ref oq, .ref cp, .int ni, .int no])), (aa, .inl (cI, 8001, .inl (upd u21.1 (gd + 1) (nI gr)))), (si, .inl (cI, 8001, .inl (upd zf (gd + 1) (nI x)))), (so, .inl (cI, 8001, .inl (upd of (gd + 1) kin))), (ro, .inl (cB, 90000, .inl (va_cpy (fun _ => 0) (u21.2) 0 gr x)))]) (zrunS (n := 1) (As := [.int (nI x)]) (rest := [.int (nI gr), .ref m0]) hE (c_Mo_up l D _ _ (nI x)) cb_Mo_up lk_Mo_80 st_Mo_up (zpreS hK hP hD [] rfl rfl rfl) ⟨Nat.le_of_ble_eq_true rfl, Nat.le_of_ble_eq_true rfl, Nat.le_of_ble_eq_true rfl, Nat.le_of_ble_eq_true rfl⟩ rfl hl.1 rfl (Nat.le_of_ble_eq_true rfl) d_Mo_object_129) hP hD hS hA [] [0, 1, 2, 3, 4] rfl rfl rfl (by decide) (fun r24 u25 H locs hq23 hP hD hS => ?_)
              subst hq23
              have hP : va_P D zC [(m0, .inr (3, [.ref mk, .ref mt, .int kd, .ref wo, .int wn, .ref re, .int pc, .int sta, .int dn, .int th, .ref ro, .ref aa, .ref si, .ref so, .ref la, .int (nI (gd + 1)), .int (nI gl), .int (nI gr), .int (nI gr), .ref ip, .ref oq, .ref cp, .int ni, .int no])), (aa, .inl (cI, 8001, .inl (upd u21.1 (gd + 1) (nI gr)))), (si, .inl (cI, 8001, .inl (upd zf (gd + 1) (nI x)))), (so, .inl (cI, 8001, .inl (upd of (gd + 1) kin))), (ro, .inl (cB, 90000, .inl (va_cpy (fun _ => 0) (u21.2) 0 gr x)))] _ := hP
              have hD : va_D A [(m0, .inr (3, [.ref mk, .ref mt, .int kd, .ref wo, .int wn, .ref re, .int pc, .int sta, .int dn, .int th, .ref ro, .ref aa, .ref si, .ref so, .ref la, .int (nI (gd + 1)), .int (nI gl), .int (nI gr), .int (nI gr), .ref ip, .ref oq, .ref cp, .int ni, .int no])), (aa, .inl (cI, 8001, .inl (upd u21.1 (gd + 1) (nI gr)))), (si, .inl (cI, 8001, .inl (upd zf (gd + 1) (nI x)))), (so, .inl (cI, 8001, .inl (upd of (gd + 1) kin))), (ro, .inl (cB, 90000, .inl (va_cpy (fun _ => 0) (u21.2) 0 gr x)))] := hD
              refine z_st (st' := [.int (nI (up4 x)), .int (nI gr), .ref m0]) (by rw [show ((sp_Mo_up (nI x)) : Int32) = nI (up4 x) from up4_m x (by omega)]) ?_
              refine lv_iadd hx hb d_Mo_object_132 ?_
              refine z_st (st' := [.int (nI (gr + up4 x)), .ref m0]) (by rw [show (((nI gr) + (nI (up4 x))) : Int32) = nI (gr + up4 x) from nI_add _ _]) ?_
              refine zput (v := .int (nI (gr + up4 x))) hE hK hP hD hS 0 rfl fd_Mo_85 ft_Mo_17 rfl rfl (Nat.le_of_ble_eq_true rfl) d_Mo_object_133 (fun H locs hP hD hS => ?_)
              have hP : va_P D zC [(m0, .inr (3, [.ref mk, .ref mt, .int kd, .ref wo, .int wn, .ref re, .int pc, .int sta, .int dn, .int th, .ref ro, .ref aa, .ref si, .ref so, .ref la, .int (nI (gd + 1)), .int (nI gl), .int (nI (gr + up4 x)), .int (nI gr), .ref ip, .ref oq, .ref cp, .int ni, .int no])), (aa, .inl (cI, 8001, .inl (upd u21.1 (gd + 1) (nI gr)))), (si, .inl (cI, 8001, .inl (upd zf (gd + 1) (nI x)))), (so, .inl (cI, 8001, .inl (upd of (gd + 1) kin))), (ro, .inl (cB, 90000, .inl (va_cpy (fun _ => 0) (u21.2) 0 gr x)))] _ := hP
              have hD : va_D A [(m0, .inr (3, [.ref mk, .ref mt, .int kd, .ref wo, .int wn, .ref re, .int pc, .int sta, .int dn, .int th, .ref ro, .ref aa, .ref si, .ref so, .ref la, .int (nI (gd + 1)), .int (nI gl), .int (nI (gr + up4 x)), .int (nI gr), .ref ip, .ref oq, .ref cp, .int ni, .int no])), (aa, .inl (cI, 8001, .inl (upd u21.1 (gd + 1) (nI gr)))), (si, .inl (cI, 8001, .inl (upd zf (gd + 1) (nI x)))), (so, .inl (cI, 8001, .inl (upd of (gd + 1) kin))), (ro, .inl (cB, 90000, .inl (va_cpy (fun _ => 0) (u21.2) 0 gr x)))] := hD
              refine lv_aload_n hx hb d_Mo_object_136 rfl (lv_at hl 1 rfl) ?_
              refine lv_dup hx hb d_Mo_object_137 rfl ?_
              refine zget hE hK hP 0 rfl fd_Mo_77 rfl d_Mo_object_138 ?_
              refine lv_iload_n hx hb d_Mo_object_141 rfl (lv_at hl 2 rfl) ?_
              refine zgoi (wr := [(m0, .inr (3, [.ref mk, .ref mt, .int kd, .ref wo, .int wn, .ref re, .int pc, .int sta, .int dn, .int th, .ref ro, .ref aa, .ref si, .ref so, .ref la, .int (nI (gd + 1)), .int (nI gl), .int (nI (gr + up4 x)), .int (nI gr), .ref ip, .ref oq, .ref cp, .int ni, .int no])), (aa, .inl (cI, 8001, .inl (upd u21.1 (gd + 1) (nI gr)))), (si, .inl (cI, 8001, .inl (upd zf (gd + 1) (nI x)))), (so, .inl (cI, 8001, .inl (upd of (gd + 1) kin))), (ro, .inl (cB, 90000, .inl (va_cpy (fun _ => 0) (u21.2) 0 gr x)))]) (zrunS (n := 1) (As := [.int (nI x)]) (rest := [.int (nI gr), .ref m0]) hE (c_Mo_up l D _ _ (nI x)) cb_Mo_up lk_Mo_80 st_Mo_up (zpreS hK hP hD [] rfl rfl rfl) ⟨Nat.le_of_ble_eq_true rfl, Nat.le_of_ble_eq_true rfl, Nat.le_of_ble_eq_true rfl, Nat.le_of_ble_eq_true rfl⟩ rfl hl.1 rfl (Nat.le_of_ble_eq_true rfl) d_Mo_object_142) hP hD hS hA [] [0, 1, 2, 3, 4] rfl rfl rfl (by decide) (fun r27 u28 H locs hq26 hP hD hS => ?_)
              subst hq26
              have hP : va_P D zC [(m0, .inr (3, [.ref mk, .ref mt, .int kd, .ref wo, .int wn, .ref re, .int pc, .int sta, .int dn, .int th, .ref ro, .ref aa, .ref si, .ref so, .ref la, .int (nI (gd + 1)), .int (nI gl), .int (nI (gr + up4 x)), .int (nI gr), .ref ip, .ref oq, .ref cp, .int ni, .int no])), (aa, .inl (cI, 8001, .inl (upd u21.1 (gd + 1) (nI gr)))), (si, .inl (cI, 8001, .inl (upd zf (gd + 1) (nI x)))), (so, .inl (cI, 8001, .inl (upd of (gd + 1) kin))), (ro, .inl (cB, 90000, .inl (va_cpy (fun _ => 0) (u21.2) 0 gr x)))] _ := hP
              have hD : va_D A [(m0, .inr (3, [.ref mk, .ref mt, .int kd, .ref wo, .int wn, .ref re, .int pc, .int sta, .int dn, .int th, .ref ro, .ref aa, .ref si, .ref so, .ref la, .int (nI (gd + 1)), .int (nI gl), .int (nI (gr + up4 x)), .int (nI gr), .ref ip, .ref oq, .ref cp, .int ni, .int no])), (aa, .inl (cI, 8001, .inl (upd u21.1 (gd + 1) (nI gr)))), (si, .inl (cI, 8001, .inl (upd zf (gd + 1) (nI x)))), (so, .inl (cI, 8001, .inl (upd of (gd + 1) kin))), (ro, .inl (cB, 90000, .inl (va_cpy (fun _ => 0) (u21.2) 0 gr x)))] := hD
              refine z_st (st' := [.int (nI (up4 x)), .int (nI gr), .ref m0]) (by rw [show ((sp_Mo_up (nI x)) : Int32) = nI (up4 x) from up4_m x (by omega)]) ?_
              refine lv_iadd hx hb d_Mo_object_145 ?_
              refine z_st (st' := [.int (nI (gr + up4 x)), .ref m0]) (by rw [show (((nI gr) + (nI (up4 x))) : Int32) = nI (gr + up4 x) from nI_add _ _]) ?_
              refine zput (v := .int (nI (gr + up4 x))) hE hK hP hD hS 0 rfl fd_Mo_77 ft_Mo_18 rfl rfl (Nat.le_of_ble_eq_true rfl) d_Mo_object_146 (fun H locs hP hD hS => ?_)
              have hP : va_P D zC [(m0, .inr (3, [.ref mk, .ref mt, .int kd, .ref wo, .int wn, .ref re, .int pc, .int sta, .int dn, .int th, .ref ro, .ref aa, .ref si, .ref so, .ref la, .int (nI (gd + 1)), .int (nI gl), .int (nI (gr + up4 x)), .int (nI (gr + up4 x)), .ref ip, .ref oq, .ref cp, .int ni, .int no])), (aa, .inl (cI, 8001, .inl (upd u21.1 (gd + 1) (nI gr)))), (si, .inl (cI, 8001, .inl (upd zf (gd + 1) (nI x)))), (so, .inl (cI, 8001, .inl (upd of (gd + 1) kin))), (ro, .inl (cB, 90000, .inl (va_cpy (fun _ => 0) (u21.2) 0 gr x)))] _ := hP
              have hD : va_D A [(m0, .inr (3, [.ref mk, .ref mt, .int kd, .ref wo, .int wn, .ref re, .int pc, .int sta, .int dn, .int th, .ref ro, .ref aa, .ref si, .ref so, .ref la, .int (nI (gd + 1)), .int (nI gl), .int (nI (gr + up4 x)), .int (nI (gr + up4 x)), .ref ip, .ref oq, .ref cp, .int ni, .int no])), (aa, .inl (cI, 8001, .inl (upd u21.1 (gd + 1) (nI gr)))), (si, .inl (cI, 8001, .inl (upd zf (gd + 1) (nI x)))), (so, .inl (cI, 8001, .inl (upd of (gd + 1) kin))), (ro, .inl (cB, 90000, .inl (va_cpy (fun _ => 0) (u21.2) 0 gr x)))] := hD
              refine lv_aload_n hx hb d_Mo_object_149 rfl (lv_at hl 1 rfl) ?_
              refine zget hE hK hP 0 rfl fd_Mo_74 rfl d_Mo_object_150 ?_
              subst hkn
              have hP9 := hP.sub (ws' := [(m0, .inr (3, [.ref mk, .ref mt, .int kd, .ref wo, .int wn, .ref re, .int pc, .int sta, .int dn, .int th, .ref ro, .ref aa, .ref si, .ref so, .ref la, .int (nI (gd + 1)), .int (nI gl), .int (nI (gr + up4 x)), .int (nI (gr + up4 x)), .ref ip, .ref oq, .ref cp, .int ni, .int no])), (aa, .inl (cI, 8001, .inl (upd u21.1 (gd + 1) (nI gr)))), (si, .inl (cI, 8001, .inl (upd zf (gd + 1) (nI x)))), (so, .inl (cI, 8001, .inl (upd of (gd + 1) (if gb = true then 2 else 1)))), (ro, .inl (cB, 90000, .inl (va_cpy (fun _ => 0) (u21.2) 0 gr x)))]) [0, 1, 2, 3, 4] rfl
              have hD9 := hD.sub (ws' := [(m0, .inr (3, [.ref mk, .ref mt, .int kd, .ref wo, .int wn, .ref re, .int pc, .int sta, .int dn, .int th, .ref ro, .ref aa, .ref si, .ref so, .ref la, .int (nI (gd + 1)), .int (nI gl), .int (nI (gr + up4 x)), .int (nI (gr + up4 x)), .ref ip, .ref oq, .ref cp, .int ni, .int no])), (aa, .inl (cI, 8001, .inl (upd u21.1 (gd + 1) (nI gr)))), (si, .inl (cI, 8001, .inl (upd zf (gd + 1) (nI x)))), (so, .inl (cI, 8001, .inl (upd of (gd + 1) (if gb = true then 2 else 1)))), (ro, .inl (cB, 90000, .inl (va_cpy (fun _ => 0) (u21.2) 0 gr x)))]) [0, 1, 2, 3, 4] rfl rfl
              exact zreti hx hb hr rfl hlocks hS (((gd + 1), (gr + up4 x), (gr + up4 x)), upd u21.1 (gd + 1) (nI gr), upd zf (gd + 1) (nI x), upd of (gd + 1) (if gb = true then 2 else 1), va_cpy (fun _ => 0) (u21.2) 0 gr x) ⟨by unfold oAn; rw [hsm, hmd2]; rfl, by unfold oM oLf; rw [hsm, ← hmd2, ← hR.2.2.2.1]; exact rRep_make gb hR hm8 hz hbz hroom⟩ rfl hP9 hD9 d_Mo_object_153
            · have hlt : x < z := z_nle' (by omega) h22
              refine lv_aload_n hx hb d_Mo_object_105 rfl (lv_at hl 1 rfl) ?_
              refine zget hE hK hP 0 rfl fd_Mo_23 rfl d_Mo_object_106 ?_
              refine lv_aload_n hx hb d_Mo_object_109 rfl (lv_at hl 1 rfl) ?_
              refine zget hE hK hP 0 rfl fd_Mo_85 rfl d_Mo_object_110 ?_
              refine lv_iload_n hx hb d_Mo_object_113 rfl (lv_at hl 0 rfl) ?_
              refine lv_iadd hx hb d_Mo_object_114 ?_
              refine z_st (st' := [.int (nI (gr + x)), .ref ro]) (by rw [show (((nI gr) + (nI x)) : Int32) = nI (gr + x) from nI_add gr x]) ?_
              refine lv_iconst (v := 0) hx hb d_Mo_object_115 (by decide) ?_
              refine va_bast hx hb hK hP hD hS 4 1 rfl rfl (vp_in_nI (by omega) (by omega)) d_Mo_object_116 (fun H locs hP hD hS => ?_)
              have hP : va_P D zC [(m0, .inr (3, [.ref mk, .ref mt, .int kd, .ref wo, .int wn, .ref re, .int pc, .int sta, .int dn, .int th, .ref ro, .ref aa, .ref si, .ref so, .ref la, .int (nI (gd + 1)), .int (nI gl), .int (nI gr), .int (nI gr), .ref ip, .ref oq, .ref cp, .int ni, .int no])), (aa, .inl (cI, 8001, .inl (upd u21.1 (gd + 1) (nI gr)))), (si, .inl (cI, 8001, .inl (upd zf (gd + 1) (nI z)))), (so, .inl (cI, 8001, .inl (upd of (gd + 1) kin))), (ro, .inl (cB, 90000, .inl (upd (va_cpy (fun _ => 0) (u21.2) 0 gr x) (nI (gr + x)).toNatClampNeg (vp_nar .byte 0))))] _ := hP
              have hD : va_D A [(m0, .inr (3, [.ref mk, .ref mt, .int kd, .ref wo, .int wn, .ref re, .int pc, .int sta, .int dn, .int th, .ref ro, .ref aa, .ref si, .ref so, .ref la, .int (nI (gd + 1)), .int (nI gl), .int (nI gr), .int (nI gr), .ref ip, .ref oq, .ref cp, .int ni, .int no])), (aa, .inl (cI, 8001, .inl (upd u21.1 (gd + 1) (nI gr)))), (si, .inl (cI, 8001, .inl (upd zf (gd + 1) (nI z)))), (so, .inl (cI, 8001, .inl (upd of (gd + 1) kin))), (ro, .inl (cB, 90000, .inl (upd (va_cpy (fun _ => 0) (u21.2) 0 gr x) (nI (gr + x)).toNatClampNeg (vp_nar .byte 0))))] := hD
              rw [show ((upd (va_cpy (fun _ => 0) (u21.2) 0 gr x) (nI (gr + x)).toNatClampNeg (vp_nar .byte 0)) : Nat → Int32) = upd (va_cpy (fun _ => 0) (u21.2) 0 gr x) (gr + x) 0 from by rw [nI_clamp (by omega), show vp_nar .byte 0 = 0 from by decide]] at hP hD
              have hP : va_P D zC [(m0, .inr (3, [.ref mk, .ref mt, .int kd, .ref wo, .int wn, .ref re, .int pc, .int sta, .int dn, .int th, .ref ro, .ref aa, .ref si, .ref so, .ref la, .int (nI (gd + 1)), .int (nI gl), .int (nI gr), .int (nI gr), .ref ip, .ref oq, .ref cp, .int ni, .int no])), (aa, .inl (cI, 8001, .inl (upd u21.1 (gd + 1) (nI gr)))), (si, .inl (cI, 8001, .inl (upd zf (gd + 1) (nI z)))), (so, .inl (cI, 8001, .inl (upd of (gd + 1) kin))), (ro, .inl (cB, 90000, .inl (upd (va_cpy (fun _ => 0) (u21.2) 0 gr x) (gr + x) 0)))] _ := hP
              have hD : va_D A [(m0, .inr (3, [.ref mk, .ref mt, .int kd, .ref wo, .int wn, .ref re, .int pc, .int sta, .int dn, .int th, .ref ro, .ref aa, .ref si, .ref so, .ref la, .int (nI (gd + 1)), .int (nI gl), .int (nI gr), .int (nI gr), .ref ip, .ref oq, .ref cp, .int ni, .int no])), (aa, .inl (cI, 8001, .inl (upd u21.1 (gd + 1) (nI gr)))), (si, .inl (cI, 8001, .inl (upd zf (gd + 1) (nI z)))), (so, .inl (cI, 8001, .inl (upd of (gd + 1) kin))), (ro, .inl (cB, 90000, .inl (upd (va_cpy (fun _ => 0) (u21.2) 0 gr x) (gr + x) 0)))] := hD
              refine lv_iinc (k := 0) (v := (nI x) + 1) (lv' := [(3, .int ((nI x) + 1)), (0, .ref m0), (1, .int (nI z)), (2, .int kin)]) hx hb d_Mo_object_117 hl rfl rfl (by decide) rfl (fun ls hl => ?_)
              refine lv_goto (tgt := 100) hx hb d_Mo_object_120 (by decide) ?_
              rw [nI_1] at hl
              rw [show ((upd (va_cpy (fun _ => 0) (u21.2) 0 gr x) (gr + x) 0) : Nat → Int32) = va_cpy (fun _ => 0) (u21.2) 0 gr (x + 1) from cz_s (u21.2) gr x] at hP hD
              have hP : va_P D zC [(m0, .inr (3, [.ref mk, .ref mt, .int kd, .ref wo, .int wn, .ref re, .int pc, .int sta, .int dn, .int th, .ref ro, .ref aa, .ref si, .ref so, .ref la, .int (nI (gd + 1)), .int (nI gl), .int (nI gr), .int (nI gr), .ref ip, .ref oq, .ref cp, .int ni, .int no])), (aa, .inl (cI, 8001, .inl (upd u21.1 (gd + 1) (nI gr)))), (si, .inl (cI, 8001, .inl (upd zf (gd + 1) (nI z)))), (so, .inl (cI, 8001, .inl (upd of (gd + 1) kin))), (ro, .inl (cB, 90000, .inl (va_cpy (fun _ => 0) (u21.2) 0 gr (x + 1))))] _ := hP
              have hD : va_D A [(m0, .inr (3, [.ref mk, .ref mt, .int kd, .ref wo, .int wn, .ref re, .int pc, .int sta, .int dn, .int th, .ref ro, .ref aa, .ref si, .ref so, .ref la, .int (nI (gd + 1)), .int (nI gl), .int (nI gr), .int (nI gr), .ref ip, .ref oq, .ref cp, .int ni, .int no])), (aa, .inl (cI, 8001, .inl (upd u21.1 (gd + 1) (nI gr)))), (si, .inl (cI, 8001, .inl (upd zf (gd + 1) (nI z)))), (so, .inl (cI, 8001, .inl (upd of (gd + 1) kin))), (ro, .inl (cB, 90000, .inl (va_cpy (fun _ => 0) (u21.2) 0 gr (x + 1))))] := hD
              exact ih (j - 1) (x + 1) ls H locs 0 0 (by omega) ⟨⟨by omega, rfl, rfl⟩, hl, hP, hD, hS⟩
        · have hnone : mMk M (nI z) gb = none := if_neg (fun q => by have q4 := q.2.2.2; rw [hti] at q4; exact h7 (nI_le (b := 40000) (by show gr + up4 z ≤ 40000; rw [hbt2]; exact q4) (by omega)))
          refine lv_iconst (v := 0) hx hb d_Mo_object_35 (by decide) ?_
          have hP9 := hP.sub (ws' := [(m0, .inr (3, [.ref mk, .ref mt, .int kd, .ref wo, .int wn, .ref re, .int pc, .int sta, .int dn, .int th, .ref ro, .ref aa, .ref si, .ref so, .ref la, .int (nI gd), .int (nI gl), .int (nI gt), .int (nI gr), .ref ip, .ref oq, .ref cp, .int ni, .int no])), (aa, .inl (cI, 8001, .inl (af))), (si, .inl (cI, 8001, .inl (zf))), (so, .inl (cI, 8001, .inl (of))), (ro, .inl (cB, 90000, .inl (rf)))]) [0, 1, 2, 3, 4] rfl
          have hD9 := hD.sub (ws' := [(m0, .inr (3, [.ref mk, .ref mt, .int kd, .ref wo, .int wn, .ref re, .int pc, .int sta, .int dn, .int th, .ref ro, .ref aa, .ref si, .ref so, .ref la, .int (nI gd), .int (nI gl), .int (nI gt), .int (nI gr), .ref ip, .ref oq, .ref cp, .int ni, .int no])), (aa, .inl (cI, 8001, .inl (af))), (si, .inl (cI, 8001, .inl (zf))), (so, .inl (cI, 8001, .inl (of))), (ro, .inl (cB, 90000, .inl (rf)))]) [0, 1, 2, 3, 4] rfl rfl
          exact zreti hx hb hr rfl hlocks hS ((gd, gt, gr), af, zf, of, rf) ⟨by unfold oAn; rw [hnone], by unfold oM oLf; rw [hnone]; exact (hR.2.2.2.1 ▸ hR)⟩ rfl hP9 hD9 d_Mo_object_36
