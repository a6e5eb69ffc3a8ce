/-! decode rows -/
theorem d_Mo_pack_0 : decode b_Mo_pack 0 = .ok (.aload_n 0, 1) := by decide +kernel
theorem d_Mo_pack_1 : decode b_Mo_pack 1 = .ok (.iconst 0, 1) := by decide +kernel
theorem d_Mo_pack_2 : decode b_Mo_pack 2 = .ok (.putfield 85, 3) := by decide +kernel
theorem d_Mo_pack_5 : decode b_Mo_pack 5 = .ok (.iconst 1, 1) := by decide +kernel
theorem d_Mo_pack_6 : decode b_Mo_pack 6 = .ok (.istore_n 1, 1) := by decide +kernel
theorem d_Mo_pack_7 : decode b_Mo_pack 7 = .ok (.iload_n 1, 1) := by decide +kernel
theorem d_Mo_pack_8 : decode b_Mo_pack 8 = .ok (.aload_n 0, 1) := by decide +kernel
theorem d_Mo_pack_9 : decode b_Mo_pack 9 = .ok (.getfield 74, 3) := by decide +kernel
theorem d_Mo_pack_12 : decode b_Mo_pack 12 = .ok (.if_icmp .gt 76, 3) := by decide +kernel
theorem d_Mo_pack_15 : decode b_Mo_pack 15 = .ok (.aload_n 0, 1) := by decide +kernel
theorem d_Mo_pack_16 : decode b_Mo_pack 16 = .ok (.getfield 33, 3) := by decide +kernel
theorem d_Mo_pack_19 : decode b_Mo_pack 19 = .ok (.iload_n 1, 1) := by decide +kernel
theorem d_Mo_pack_20 : decode b_Mo_pack 20 = .ok (.iaload, 1) := by decide +kernel
theorem d_Mo_pack_21 : decode b_Mo_pack 21 = .ok (.ifCond .ne 6, 3) := by decide +kernel
theorem d_Mo_pack_24 : decode b_Mo_pack 24 = .ok (.goto 58, 3) := by decide +kernel
theorem d_Mo_pack_27 : decode b_Mo_pack 27 = .ok (.aload_n 0, 1) := by decide +kernel
theorem d_Mo_pack_28 : decode b_Mo_pack 28 = .ok (.getfield 23, 3) := by decide +kernel
theorem d_Mo_pack_31 : decode b_Mo_pack 31 = .ok (.aload_n 0, 1) := by decide +kernel
theorem d_Mo_pack_32 : decode b_Mo_pack 32 = .ok (.getfield 27, 3) := by decide +kernel
theorem d_Mo_pack_35 : decode b_Mo_pack 35 = .ok (.iload_n 1, 1) := by decide +kernel
theorem d_Mo_pack_36 : decode b_Mo_pack 36 = .ok (.iaload, 1) := by decide +kernel
theorem d_Mo_pack_37 : decode b_Mo_pack 37 = .ok (.aload_n 0, 1) := by decide +kernel
theorem d_Mo_pack_38 : decode b_Mo_pack 38 = .ok (.getfield 23, 3) := by decide +kernel
theorem d_Mo_pack_41 : decode b_Mo_pack 41 = .ok (.aload_n 0, 1) := by decide +kernel
theorem d_Mo_pack_42 : decode b_Mo_pack 42 = .ok (.getfield 85, 3) := by decide +kernel
theorem d_Mo_pack_45 : decode b_Mo_pack 45 = .ok (.aload_n 0, 1) := by decide +kernel
theorem d_Mo_pack_46 : decode b_Mo_pack 46 = .ok (.getfield 30, 3) := by decide +kernel
theorem d_Mo_pack_49 : decode b_Mo_pack 49 = .ok (.iload_n 1, 1) := by decide +kernel
theorem d_Mo_pack_50 : decode b_Mo_pack 50 = .ok (.iaload, 1) := by decide +kernel
theorem d_Mo_pack_51 : decode b_Mo_pack 51 = .ok (.invokestatic 91, 3) := by decide +kernel
theorem d_Mo_pack_54 : decode b_Mo_pack 54 = .ok (.aload_n 0, 1) := by decide +kernel
theorem d_Mo_pack_55 : decode b_Mo_pack 55 = .ok (.getfield 27, 3) := by decide +kernel
theorem d_Mo_pack_58 : decode b_Mo_pack 58 = .ok (.iload_n 1, 1) := by decide +kernel
theorem d_Mo_pack_59 : decode b_Mo_pack 59 = .ok (.aload_n 0, 1) := by decide +kernel
theorem d_Mo_pack_60 : decode b_Mo_pack 60 = .ok (.getfield 85, 3) := by decide +kernel
theorem d_Mo_pack_63 : decode b_Mo_pack 63 = .ok (.iastore, 1) := by decide +kernel
theorem d_Mo_pack_64 : decode b_Mo_pack 64 = .ok (.aload_n 0, 1) := by decide +kernel
theorem d_Mo_pack_65 : decode b_Mo_pack 65 = .ok (.dup, 1) := by decide +kernel
theorem d_Mo_pack_66 : decode b_Mo_pack 66 = .ok (.getfield 85, 3) := by decide +kernel
theorem d_Mo_pack_69 : decode b_Mo_pack 69 = .ok (.aload_n 0, 1) := by decide +kernel
theorem d_Mo_pack_70 : decode b_Mo_pack 70 = .ok (.getfield 30, 3) := by decide +kernel
theorem d_Mo_pack_73 : decode b_Mo_pack 73 = .ok (.iload_n 1, 1) := by decide +kernel
theorem d_Mo_pack_74 : decode b_Mo_pack 74 = .ok (.iaload, 1) := by decide +kernel
theorem d_Mo_pack_75 : decode b_Mo_pack 75 = .ok (.invokestatic 80, 3) := by decide +kernel
theorem d_Mo_pack_78 : decode b_Mo_pack 78 = .ok (.iadd, 1) := by decide +kernel
theorem d_Mo_pack_79 : decode b_Mo_pack 79 = .ok (.putfield 85, 3) := by decide +kernel
theorem d_Mo_pack_82 : decode b_Mo_pack 82 = .ok (.iinc 1 1, 3) := by decide +kernel
theorem d_Mo_pack_85 : decode b_Mo_pack 85 = .ok (.goto (-78), 3) := by decide +kernel
theorem d_Mo_pack_88 : decode b_Mo_pack 88 = .ok (.return_, 1) := by decide +kernel

/-! the reference packs its row -/
theorem up4_m (z : Nat) (h : z < 4001) : sp_Mo_up (nI z) = nI (up4 z) := by
  show (nI z + nI 3) / nI 4 * nI 4 = _
  rw [nI_add, pk_div (by omega) (by omega) (by omega), pk_mul]
  rfl
theorem tInv_step2 {M : MM} {pn : Nat} {st : Nat → Nat} {k z : Nat} {tf pf : Nat → Int32} (hI : MI M) (g2 : ∀ j k y z, j < k → mSz M j = some y → mSz M k = some z → st j + up4 y ≤ st k) (h : tInv M pn st k tf pf) (hk : mSz M k = some z) (hb : st k + up4 z ≤ pn) :
    tInv M pn st (k + 1) (upd tf k (nI (mSum (mSz M) (k - 1)))) (va_cpy pf pf (st k) (mSum (mSz M) (k - 1)) z) := by
  obtain ⟨h1, h2, h3⟩ := h
  have g2' : ∀ j k y z, j < k → mSz M j = some y → mSz M k = some z → 0 < y → 0 < z → st j + up4 y ≤ st k := fun j k y z a b c _ _ => g2 j k y z a b c
  have hk1 := hI.2.2.1 k z hk
  have hle := up4_le z
  refine ⟨fun j y hj hjk => ?_, fun j y hj hjk => ?_, fun i hi => ?_⟩
  · have hj1 := hI.2.2.1 j y hj
    by_cases c : j = k
    · subst c
      cases hk.symm.trans hj
      refine ⟨upd_self _ _ _, fun i hi => ?_⟩
      rw [pk_cpy_in (by omega) (by omega), show mSum (mSz M) (j - 1) + i - mSum (mSz M) (j - 1) = i by omega]
      exact (h2 j z hk (Nat.le_refl _)).2 i hi
    · obtain ⟨q1, q2⟩ := h1 j y hj (by omega)
      refine ⟨by rw [upd_ne c]; exact q1, fun i hi => ?_⟩
      have e1 := mSum_at hj1.1 hj
      have e2 := mSum_mono (sz := mSz M) (a := j) (k - 1) (by omega)
      have e3 := up4_le y
      rw [pk_cpy_out (by omega)]
      exact q2 i hi
  · obtain ⟨q1, q2⟩ := h2 j y hj (by omega)
    refine ⟨by rw [upd_ne (by omega)]; exact q1, fun i hi => ?_⟩
    rw [pk_cpy_out ?_]
    · exact q2 i hi
    · right
      have w2 := g2 k j z y (by omega) hk hj
      rcases Nat.eq_zero_or_pos z with c | c
      · have := mSum_st g2' (k - 1) j y hj (by omega) (by omega)
        omega
      · have w1 := mSum_st g2' (k - 1) k z hk c (by omega)
        omega
  · by_cases c : mSum (mSz M) (k - 1) ≤ i ∧ i < mSum (mSz M) (k - 1) + z
    · rw [pk_cpy_in c.1 c.2]
      exact h3 _ (by omega)
    · rw [pk_cpy_out (by omega)]
      exact h3 i hi
theorem rRep_sz {M : MM} {md lq tp tr : Nat} {af zf of lf rf : Nat → Int32} (h : rRep M md lq tp tr af zf of lf rf) {k : Nat} (h1 : 1 ≤ k) (h2 : k ≤ md) : of k = 0 ↔ mSz M k = none := by
  rw [h.2.2.2.2.2.2.1 k h1 h2]
  cases e : mSz M k with
  | none => exact ⟨fun _ => rfl, fun _ => rfl⟩
  | some z =>
    refine ⟨fun q => ?_, fun q => by cases q⟩
    have hs : ¬ (if mGv M k = true then (2 : Int32) else 1) = 0 := by split <;> decide
    exact absurd q hs
theorem rRep_in {M : MM} {md lq tp tr : Nat} {af zf of lf rf : Nat → Int32} (h : rRep M md lq tp tr af zf of lf rf) {k z : Nat} (hk : mSz M k = some z) : mSum (mSz M) (k - 1) + up4 z ≤ tr := by
  obtain ⟨k1, k2, k3⟩ := h.1.2.2.1 k z hk
  have e1 := mSum_at k1 hk
  have e2 := mSum_mono (sz := mSz M) (a := k) (mMd M) k2
  rw [h.2.2.1, h.1.2.2.2.1]
  omega
theorem rRep_pack {M : MM} {md lq tp tr : Nat} {af zf of lf rf af2 rf2 : Nat → Int32} {st : Nat → Nat} (h : rRep M md lq tp tr af zf of lf rf) (ht : tInv M 90000 st (md + 1) af2 rf2) : rRep M md lq tr tr af2 zf of lf rf2 := by
  have hin := fun k z (hk : mSz M k = some z) => rRep_in h hk
  obtain ⟨hI, h1, h2, h3, h4, h5, h6, h7, h8, st0, g1, g2, g3⟩ := h
  have hb := hI.2.1
  refine ⟨hI, h1, h2, h3, by omega, ht.2.2, h6, h7, h8, fun k => mSum (mSz M) (k - 1), ?_, ?_, ?_⟩
  · intro k z hk
    obtain ⟨k1, k2, k3⟩ := hI.2.2.1 k z hk
    exact ⟨(ht.1 k z hk (by omega)).1, hin k z hk⟩
  · intro j k y z hjk hj hk
    obtain ⟨k1, k2, k3⟩ := hI.2.2.1 j y hj
    have e1 := mSum_at k1 hj
    have e2 := mSum_mono (sz := mSz M) (a := j) (k - 1) (by omega)
    show mSum (mSz M) (j - 1) + up4 y ≤ mSum (mSz M) (k - 1)
    omega
  · intro k z i hk hi
    obtain ⟨k1, k2, k3⟩ := hI.2.2.1 k z hk
    exact (ht.1 k z hk (by omega)).2 i hi

set_option maxHeartbeats 4000000 in
theorem c_Mo_pack (l : Launch) (D : va_G) (cI cB cJ : ClassId) (sz : Nat) (m0 : Nat) (mk : Nat) (mt : Nat) (kd : Int32) (wo : Nat) (wn : Int32) (re : Nat) (pc : Int32) (sta : Int32) (dn : Int32) (th : Int32) (ro : Nat) (aa : Nat) (si : Nat) (so : Nat) (la : Nat) (gd : Nat) (gl : Nat) (gt : Nat) (gr : Nat) (ip : Nat) (oq : Nat) (cp : Nat) (ni : Int32) (no : Int32) (af : Nat → Int32) (zf : Nat → Int32) (of : Nat → Int32) (rf : Nat → Int32) (M : MM) (lf : Nat → Int32) (hR : rRep M gd gl gt gr af zf of lf rf) : zMet l y_Mo_pack (zWs y_Mo_pack b_Mo_pack 2 (none)) { frames := 1, cells := 0, slots := 0, locals := 60 } (zPc D (zT cI cB cJ) sz [(m0, .inr (3, [.ref mk, .ref mt, .int kd, .ref wo, .int wn, .ref re, .int pc, .int sta, .int dn, .int th, .ref ro, .ref aa, .ref si, .ref so, .ref la, .int (nI gd), .int (nI gl), .int (nI gt), .int (nI gr), .ref ip, .ref oq, .ref cp, .int ni, .int no])), (aa, .inl (cI, 8001, .inl (af))), (si, .inl (cI, 8001, .inl (zf))), (so, .inl (cI, 8001, .inl (of))), (ro, .inl (cB, 90000, .inl (rf)))] [.ref m0]) (zQv D (va_A [(m0, .inr (3, [.ref mk, .ref mt, .int kd, .ref wo, .int wn, .ref re, .int pc, .int sta, .int dn, .int th, .ref ro, .ref aa, .ref si, .ref so, .ref la, .int (nI gd), .int (nI gl), .int (nI gt), .int (nI gr), .ref ip, .ref oq, .ref cp, .int ni, .int no])), (aa, .inl (cI, 8001, .inl (af))), (si, .inl (cI, 8001, .inl (zf))), (so, .inl (cI, 8001, .inl (of))), (ro, .inl (cB, 90000, .inl (rf)))] sz) (fun (U : ((Nat → Int32) × (Nat → Int32))) => rRep M gd gl gr gr U.1 zf of lf U.2) (fun _ => (0, 0)) (fun (U : ((Nat → Int32) × (Nat → Int32))) => [(m0, .inr (3, [.ref mk, .ref mt, .int kd, .ref wo, .int wn, .ref re, .int pc, .int sta, .int dn, .int th, .ref ro, .ref aa, .ref si, .ref so, .ref la, .int (nI gd), .int (nI gl), .int (nI gr), .int (nI gr), .ref ip, .ref oq, .ref cp, .int ni, .int no])), (aa, .inl (cI, 8001, .inl (U.1))), (si, .inl (cI, 8001, .inl (zf))), (so, .inl (cI, 8001, .inl (of))), (ro, .inl (cB, 90000, .inl (U.2)))])) (va_A [(m0, .inr (3, [.ref mk, .ref mt, .int kd, .ref wo, .int wn, .ref re, .int pc, .int sta, .int dn, .int th, .ref ro, .ref aa, .ref si, .ref so, .ref la, .int (nI gd), .int (nI gl), .int (nI gt), .int (nI gr), .ref ip, .ref oq, .ref cp, .int ni, .int no])), (aa, .inl (cI, 8001, .inl (af))), (si, .inl (cI, 8001, .inl (zf))), (so, .inl (cI, 8001, .inl (of))), (ro, .inl (cB, 90000, .inl (rf)))] sz) := by
  refine zstart (Qc := fun A => zQv D A (fun (U : ((Nat → Int32) × (Nat → Int32))) => rRep M gd gl gr gr U.1 zf of lf U.2) (fun _ => (0, 0)) (fun (U : ((Nat → Int32) × (Nat → Int32))) => [(m0, .inr (3, [.ref mk, .ref mt, .int kd, .ref wo, .int wn, .ref re, .int pc, .int sta, .int dn, .int th, .ref ro, .ref aa, .ref si, .ref so, .ref la, .int (nI gd), .int (nI gl), .int (nI gr), .int (nI gr), .ref ip, .ref oq, .ref cp, .int ni, .int no])), (aa, .inl (cI, 8001, .inl (U.1))), (si, .inl (cI, 8001, .inl (zf))), (so, .inl (cI, 8001, .inl (of))), (ro, .inl (cB, 90000, .inl (U.2)))])) (by decide) (Nat.le_of_ble_eq_true rfl) ?_
  intro p e s m below meth c ls A hE hr hlocks hin hsz hK hP hD hS hA hAe hl
  have hx := hE.1
  have hb := hE.2.1
  have hown := hE.2.2.2.1
  have hw := hE.2.2.2.2
  have hl : lv_has ls 2 [(0, .ref m0)] := hl
  obtain ⟨st, g1, g2, g3⟩ := hR.2.2.2.2.2.2.2.2.2
  have ht0 : tInv M 90000 st 1 af rf := ⟨fun j z hj h => absurd (hR.1.2.2.1 j z hj).1 (by omega), fun j z hj _ => ⟨(g1 j z hj).1, fun i hi => g3 j z i hj hi⟩, hR.2.2.2.2.2.1⟩
  have hmd := hR.1.1
  have hmd2 := hR.2.1
  have hbt := hR.1.2.1
  have hbt2 := hR.2.2.1
  have htp := hR.2.2.2.2.1
  refine lv_aload_n hx hb d_Mo_pack_0 rfl (lv_at hl 0 rfl) ?_
  refine lv_iconst (v := 0) hx hb d_Mo_pack_1 (by decide) ?_
  refine zput (v := .int 0) hE hK hP hD hS 0 rfl fd_Mo_85 ft_Mo_17 rfl rfl (Nat.le_of_ble_eq_true rfl) d_Mo_pack_2 (fun H locs hP hD hS => ?_)
  have hP : va_P D zC [(m0, .inr (3, [.ref mk, .ref mt, .int kd, .ref wo, .int wn, .ref re, .int pc, .int sta, .int dn, .int th, .ref ro, .ref aa, .ref si, .ref so, .ref la, .int (nI gd), .int (nI gl), .int 0, .int (nI gr), .ref ip, .ref oq, .ref cp, .int ni, .int no])), (aa, .inl (cI, 8001, .inl (af))), (si, .inl (cI, 8001, .inl (zf))), (so, .inl (cI, 8001, .inl (of))), (ro, .inl (cB, 90000, .inl (rf)))] _ := hP
  have hD : va_D A [(m0, .inr (3, [.ref mk, .ref mt, .int kd, .ref wo, .int wn, .ref re, .int pc, .int sta, .int dn, .int th, .ref ro, .ref aa, .ref si, .ref so, .ref la, .int (nI gd), .int (nI gl), .int 0, .int (nI gr), .ref ip, .ref oq, .ref cp, .int ni, .int no])), (aa, .inl (cI, 8001, .inl (af))), (si, .inl (cI, 8001, .inl (zf))), (so, .inl (cI, 8001, .inl (of))), (ro, .inl (cB, 90000, .inl (rf)))] := hD
  refine lv_iconst (v := 1) hx hb d_Mo_pack_5 (by decide) ?_
  refine lv_istore_n (lv' := [(1, .int 1), (0, .ref m0)]) hx hb d_Mo_pack_6 rfl hl (by decide) rfl (fun ls hl => ?_)
  refine zloopH (σ := (Nat × (Nat → Int32) × (Nat → Int32))) (fun j x ls H locs cells slots => (x.1 + j = gd + 1 ∧ 1 ≤ x.1 ∧ tInv M 90000 st x.1 x.2.1 x.2.2 ∧ cells = 0 ∧ slots = 0) ∧ lv_has ls 2 [(1, .int (nI x.1)), (0, .ref m0)] ∧ va_P D zC [(m0, .inr (3, [.ref mk, .ref mt, .int kd, .ref wo, .int wn, .ref re, .int pc, .int sta, .int dn, .int th, .ref ro, .ref aa, .ref si, .ref so, .ref la, .int (nI gd), .int (nI gl), .int (nI (mSum (mSz M) (x.1 - 1))), .int (nI gr), .ref ip, .ref oq, .ref cp, .int ni, .int no])), (aa, .inl (cI, 8001, .inl (x.2.1))), (si, .inl (cI, 8001, .inl (zf))), (so, .inl (cI, 8001, .inl (of))), (ro, .inl (cB, 90000, .inl (x.2.2)))] H ∧ va_D A [(m0, .inr (3, [.ref mk, .ref mt, .int kd, .ref wo, .int wn, .ref re, .int pc, .int sta, .int dn, .int th, .ref ro, .ref aa, .ref si, .ref so, .ref la, .int (nI gd), .int (nI gl), .int (nI (mSum (mSz M) (x.1 - 1))), .int (nI gr), .ref ip, .ref oq, .ref cp, .int ni, .int no])), (aa, .inl (cI, 8001, .inl (x.2.1))), (si, .inl (cI, 8001, .inl (zf))), (so, .inl (cI, 8001, .inl (of))), (ro, .inl (cB, 90000, .inl (x.2.2)))] ∧ va_S A s.heap H locs) (fun j x ls H locs cells slots hI ih => ?_) gd (1, af, rf) ls ⟨⟨by show 1 + gd = gd + 1; omega, Nat.le_refl _, ht0, rfl, rfl⟩, hl, hP, hD, hS⟩
  obtain ⟨k, t2, p2⟩ := x
  obtain ⟨⟨hj, hk1, ht, rfl, rfl⟩, hl, hP, hD, hS⟩ := hI
  dsimp only at hj hk1 ht
  have hl : lv_has ls 2 [(1, .int (nI k)), (0, .ref m0)] := hl
  have hP : va_P D zC [(m0, .inr (3, [.ref mk, .ref mt, .int kd, .ref wo, .int wn, .ref re, .int pc, .int sta, .int dn, .int th, .ref ro, .ref aa, .ref si, .ref so, .ref la, .int (nI gd), .int (nI gl), .int (nI (mSum (mSz M) (k - 1))), .int (nI gr), .ref ip, .ref oq, .ref cp, .int ni, .int no])), (aa, .inl (cI, 8001, .inl (t2))), (si, .inl (cI, 8001, .inl (zf))), (so, .inl (cI, 8001, .inl (of))), (ro, .inl (cB, 90000, .inl (p2)))] _ := hP
  have hD : va_D A [(m0, .inr (3, [.ref mk, .ref mt, .int kd, .ref wo, .int wn, .ref re, .int pc, .int sta, .int dn, .int th, .ref ro, .ref aa, .ref si, .ref so, .ref la, .int (nI gd), .int (nI gl), .int (nI (mSum (mSz M) (k - 1))), .int (nI gr), .ref ip, .ref oq, .ref cp, .int ni, .int no])), (aa, .inl (cI, 8001, .inl (t2))), (si, .inl (cI, 8001, .inl (zf))), (so, .inl (cI, 8001, .inl (of))), (ro, .inl (cB, 90000, .inl (p2)))] := hD
  refine lv_iload_n hx hb d_Mo_pack_7 rfl (lv_at hl 0 rfl) ?_
  refine lv_aload_n hx hb d_Mo_pack_8 rfl (lv_at hl 1 rfl) ?_
  refine zget hE hK hP 0 rfl fd_Mo_74 rfl d_Mo_pack_9 ?_
  refine lv_icmp_gt (tgt := 88) hx hb d_Mo_pack_12 (by decide) (fun h1 => ?_) (fun h1 => ?_)
  · have hkk : k = gd + 1 := by have q : ¬ k ≤ gd := fun q => absurd h1 (nI_nlt q (by omega)); omega
    subst hkk
    have hend : mSum (mSz M) (gd + 1 - 1) = gr := by rw [hbt2, hR.1.2.2.2.1, ← hmd2]; rfl
    rw [show ((nI (mSum (mSz M) ((gd + 1) - 1))) : Int32) = nI gr from by rw [hend]] at hP hD
    have hP : va_P D zC [(m0, .inr (3, [.ref mk, .ref mt, .int kd, .ref wo, .int wn, .ref re, .int pc, .int sta, .int dn, .int th, .ref ro, .ref aa, .ref si, .ref so, .ref la, .int (nI gd), .int (nI gl), .int (nI gr), .int (nI gr), .ref ip, .ref oq, .ref cp, .int ni, .int no])), (aa, .inl (cI, 8001, .inl (t2))), (si, .inl (cI, 8001, .inl (zf))), (so, .inl (cI, 8001, .inl (of))), (ro, .inl (cB, 90000, .inl (p2)))] _ := hP
    have hD : va_D A [(m0, .inr (3, [.ref mk, .ref mt, .int kd, .ref wo, .int wn, .ref re, .int pc, .int sta, .int dn, .int th, .ref ro, .ref aa, .ref si, .ref so, .ref la, .int (nI gd), .int (nI gl), .int (nI gr), .int (nI gr), .ref ip, .ref oq, .ref cp, .int ni, .int no])), (aa, .inl (cI, 8001, .inl (t2))), (si, .inl (cI, 8001, .inl (zf))), (so, .inl (cI, 8001, .inl (of))), (ro, .inl (cB, 90000, .inl (p2)))] := hD
    have hP9 := hP.sub (ws' := [(m0, .inr (3, [.ref mk, .ref mt, .int kd, .ref wo, .int wn, .ref re, .int pc, .int sta, .int dn, .int th, .ref ro, .ref aa, .ref si, .ref so, .ref la, .int (nI gd), .int (nI gl), .int (nI gr), .int (nI gr), .ref ip, .ref oq, .ref cp, .int ni, .int no])), (aa, .inl (cI, 8001, .inl (t2))), (si, .inl (cI, 8001, .inl (zf))), (so, .inl (cI, 8001, .inl (of))), (ro, .inl (cB, 90000, .inl (p2)))]) [0, 1, 2, 3, 4] rfl
    have hD9 := hD.sub (ws' := [(m0, .inr (3, [.ref mk, .ref mt, .int kd, .ref wo, .int wn, .ref re, .int pc, .int sta, .int dn, .int th, .ref ro, .ref aa, .ref si, .ref so, .ref la, .int (nI gd), .int (nI gl), .int (nI gr), .int (nI gr), .ref ip, .ref oq, .ref cp, .int ni, .int no])), (aa, .inl (cI, 8001, .inl (t2))), (si, .inl (cI, 8001, .inl (zf))), (so, .inl (cI, 8001, .inl (of))), (ro, .inl (cB, 90000, .inl (p2)))]) [0, 1, 2, 3, 4] rfl rfl
    exact zretv hx hb hr hlocks hS (t2, p2) (rRep_pack hR ht) rfl hP9 hD9 d_Mo_pack_88
  · have hkm : k ≤ gd := Nat.not_lt.mp (fun q => absurd (nI_lt q (by omega)) h1)
    refine lv_aload_n hx hb d_Mo_pack_15 rfl (lv_at hl 1 rfl) ?_
    refine zget hE hK hP 0 rfl fd_Mo_33 rfl d_Mo_pack_16 ?_
    refine lv_iload_n hx hb d_Mo_pack_19 rfl (lv_at hl 0 rfl) ?_
    refine va_iald hx hb hK hP 3 0 rfl rfl (vp_in_nI (by omega) (by omega)) d_Mo_pack_20 ?_
    refine z_st (st' := [.int (of k)]) (by rw [show ((of (nI k).toNatClampNeg) : Int32) = of k from by rw [nI_clamp (by omega)]]) ?_
    refine lv_if_ne (tgt := 27) hx hb d_Mo_pack_21 (by decide) (fun h2 => ?_) (fun h2 => ?_)
    · obtain ⟨z, hz⟩ : ∃ z, mSz M k = some z := by cases e : mSz M k with | none => exact absurd ((rRep_sz hR hk1 hkm).mpr e) h2 | some z => exact ⟨z, rfl⟩
      have hz4 := (hR.1.2.2.1 k z hz).2.2
      have hin := rRep_in hR hz
      have hsu : st k + up4 z ≤ 90000 := Nat.le_trans (g1 k z hz).2 htp
      have hu := up4_le z
      refine lv_aload_n hx hb d_Mo_pack_27 rfl (lv_at hl 1 rfl) ?_
      refine zget hE hK hP 0 rfl fd_Mo_23 rfl d_Mo_pack_28 ?_
      refine lv_aload_n hx hb d_Mo_pack_31 rfl (lv_at hl 1 rfl) ?_
      refine zget hE hK hP 0 rfl fd_Mo_27 rfl d_Mo_pack_32 ?_
      refine lv_iload_n hx hb d_Mo_pack_35 rfl (lv_at hl 0 rfl) ?_
      refine va_iald hx hb hK hP 1 0 rfl rfl (vp_in_nI (by omega) (by omega)) d_Mo_pack_36 ?_
      refine z_st (st' := [.int (nI (st k)), .ref ro]) (by rw [show ((t2 (nI k).toNatClampNeg) : Int32) = nI (st k) from by rw [nI_clamp (by omega)]; exact (ht.2.1 k z hz (Nat.le_refl _)).1]) ?_
      refine lv_aload_n hx hb d_Mo_pack_37 rfl (lv_at hl 1 rfl) ?_
      refine zget hE hK hP 0 rfl fd_Mo_23 rfl d_Mo_pack_38 ?_
      refine lv_aload_n hx hb d_Mo_pack_41 rfl (lv_at hl 1 rfl) ?_
      refine zget hE hK hP 0 rfl fd_Mo_85 rfl d_Mo_pack_42 ?_
      refine lv_aload_n hx hb d_Mo_pack_45 rfl (lv_at hl 1 rfl) ?_
      refine zget hE hK hP 0 rfl fd_Mo_30 rfl d_Mo_pack_46 ?_
      refine lv_iload_n hx hb d_Mo_pack_49 rfl (lv_at hl 0 rfl) ?_
      refine va_iald hx hb hK hP 2 0 rfl rfl (vp_in_nI (by omega) (by omega)) d_Mo_pack_50 ?_
      refine z_st (st' := [.int (nI z), .int (nI (mSum (mSz M) (k - 1))), .ref ro, .int (nI (st k)), .ref ro]) (by rw [show ((zf (nI k).toNatClampNeg) : Int32) = nI z from by rw [nI_clamp (by omega)]; exact hR.2.2.2.2.2.2.2.1 k z hz]) ?_
      refine va_copyi (R := { frames := 1, cells := 0, slots := 0, locals := 60 }) (ty := .byte) (rest := []) hx hb (hE.2.2.1.trans hl.1.symm) hown (hw _ sl_Mo) (hw _ sy_nat) (hw _ sy_st) (hw _ sy_ini) hK hP hD hS 4 4 1 1 rfl rfl rfl rfl rfl (nI_pos (n := st k) (by omega)) (nI_pos (n := mSum (mSz M) (k - 1)) (by omega)) (nI_pos (n := z) (by omega)) (by rw [nI_clamp (by omega), nI_clamp (by omega)]; omega) (by rw [nI_clamp (by omega), nI_clamp (by omega)]; omega) (fun i hi => by rw [nI_clamp (by omega)] at hi ⊢; exact ht.2.2 _ (by omega)) (by exact Nat.le_of_ble_eq_true rfl) (by exact Nat.le_of_ble_eq_true rfl) d_Mo_pack_51 (fun H locs hP hD hS => ?_)
      have hP : va_P D zC [(m0, .inr (3, [.ref mk, .ref mt, .int kd, .ref wo, .int wn, .ref re, .int pc, .int sta, .int dn, .int th, .ref ro, .ref aa, .ref si, .ref so, .ref la, .int (nI gd), .int (nI gl), .int (nI (mSum (mSz M) (k - 1))), .int (nI gr), .ref ip, .ref oq, .ref cp, .int ni, .int no])), (aa, .inl (cI, 8001, .inl (t2))), (si, .inl (cI, 8001, .inl (zf))), (so, .inl (cI, 8001, .inl (of))), (ro, .inl (cB, 90000, .inl (va_cpy p2 p2 (nI (st k)).toNatClampNeg (nI (mSum (mSz M) (k - 1))).toNatClampNeg (nI z).toNatClampNeg)))] _ := hP
      have hD : va_D A [(m0, .inr (3, [.ref mk, .ref mt, .int kd, .ref wo, .int wn, .ref re, .int pc, .int sta, .int dn, .int th, .ref ro, .ref aa, .ref si, .ref so, .ref la, .int (nI gd), .int (nI gl), .int (nI (mSum (mSz M) (k - 1))), .int (nI gr), .ref ip, .ref oq, .ref cp, .int ni, .int no])), (aa, .inl (cI, 8001, .inl (t2))), (si, .inl (cI, 8001, .inl (zf))), (so, .inl (cI, 8001, .inl (of))), (ro, .inl (cB, 90000, .inl (va_cpy p2 p2 (nI (st k)).toNatClampNeg (nI (mSum (mSz M) (k - 1))).toNatClampNeg (nI z).toNatClampNeg)))] := hD
      rw [show ((va_cpy p2 p2 (nI (st k)).toNatClampNeg (nI (mSum (mSz M) (k - 1))).toNatClampNeg (nI z).toNatClampNeg) : Nat → Int32) = va_cpy p2 p2 (st k) (mSum (mSz M) (k - 1)) z from by rw [nI_clamp (by omega), nI_clamp (by omega), nI_clamp (by omega)]] at hP hD
      have hP : va_P D zC [(m0, .inr (3, [.ref mk, .ref mt, .int kd, .ref wo, .int wn, .ref re, .int pc, .int sta, .int dn, .int th, .ref ro, .ref aa, .ref si, .ref so, .ref la, .int (nI gd), .int (nI gl), .int (nI (mSum (mSz M) (k - 1))), .int (nI gr), .ref ip, .ref oq, .ref cp, .int ni, .int no])), (aa, .inl (cI, 8001, .inl (t2))), (si, .inl (cI, 8001, .inl (zf))), (so, .inl (cI, 8001, .inl (of))), (ro, .inl (cB, 90000, .inl (va_cpy p2 p2 (st k) (mSum (mSz M) (k - 1)) z)))] _ := hP
      have hD : va_D A [(m0, .inr (3, [.ref mk, .ref mt, .int kd, .ref wo, .int wn, .ref re, .int pc, .int sta, .int dn, .int th, .ref ro, .ref aa, .ref si, .ref so, .ref la, .int (nI gd), .int (nI gl), .int (nI (mSum (mSz M) (k - 1))), .int (nI gr), .ref ip, .ref oq, .ref cp, .int ni, .int no])), (aa, .inl (cI, 8001, .inl (t2))), (si, .inl (cI, 8001, .inl (zf))), (so, .inl (cI, 8001, .inl (of))), (ro, .inl (cB, 90000, .inl (va_cpy p2 p2 (st k) (mSum (mSz M) (k - 1)) z)))] := hD
      refine lv_aload_n hx hb d_Mo_pack_54 rfl (lv_at hl 1 rfl) ?_
      refine zget hE hK hP 0 rfl fd_Mo_27 rfl d_Mo_pack_55 ?_
      refine lv_iload_n hx hb d_Mo_pack_58 rfl (lv_at hl 0 rfl) ?_
      refine lv_aload_n hx hb d_Mo_pack_59 rfl (lv_at hl 1 rfl) ?_
      refine zget hE hK hP 0 rfl fd_Mo_85 rfl d_Mo_pack_60 ?_
      refine va_iast hx hb hK hP hD hS 1 0 rfl rfl (vp_in_nI (by omega) (by omega)) d_Mo_pack_63 (fun H locs hP hD hS => ?_)
      have hP : va_P D zC [(m0, .inr (3, [.ref mk, .ref mt, .int kd, .ref wo, .int wn, .ref re, .int pc, .int sta, .int dn, .int th, .ref ro, .ref aa, .ref si, .ref so, .ref la, .int (nI gd), .int (nI gl), .int (nI (mSum (mSz M) (k - 1))), .int (nI gr), .ref ip, .ref oq, .ref cp, .int ni, .int no])), (aa, .inl (cI, 8001, .inl (upd t2 (nI k).toNatClampNeg (nI (mSum (mSz M) (k - 1)))))), (si, .inl (cI, 8001, .inl (zf))), (so, .inl (cI, 8001, .inl (of))), (ro, .inl (cB, 90000, .inl (va_cpy p2 p2 (st k) (mSum (mSz M) (k - 1)) z)))] _ := hP
      have hD : va_D A [(m0, .inr (3, [.ref mk, .ref mt, .int kd, .ref wo, .int wn, .ref re, .int pc, .int sta, .int dn, .int th, .ref ro, .ref aa, .ref si, .ref so, .ref la, .int (nI gd), .int (nI gl), .int (nI (mSum (mSz M) (k - 1))), .int (nI gr), .ref ip, .ref oq, .ref cp, .int ni, .int no])), (aa, .inl (cI, 8001, .inl (upd t2 (nI k).toNatClampNeg (nI (mSum (mSz M) (k - 1)))))), (si, .inl (cI, 8001, .inl (zf))), (so, .inl (cI, 8001, .inl (of))), (ro, .inl (cB, 90000, .inl (va_cpy p2 p2 (st k) (mSum (mSz M) (k - 1)) z)))] := hD
      rw [show ((upd t2 (nI k).toNatClampNeg (nI (mSum (mSz M) (k - 1)))) : Nat → Int32) = upd t2 k (nI (mSum (mSz M) (k - 1))) from by rw [nI_clamp (by omega)]] at hP hD
      have hP : va_P D zC [(m0, .inr (3, [.ref mk, .ref mt, .int kd, .ref wo, .int wn, .ref re, .int pc, .int sta, .int dn, .int th, .ref ro, .ref aa, .ref si, .ref so, .ref la, .int (nI gd), .int (nI gl), .int (nI (mSum (mSz M) (k - 1))), .int (nI gr), .ref ip, .ref oq, .ref cp, .int ni, .int no])), (aa, .inl (cI, 8001, .inl (upd t2 k (nI (mSum (mSz M) (k - 1)))))), (si, .inl (cI, 8001, .inl (zf))), (so, .inl (cI, 8001, .inl (of))), (ro, .inl (cB, 90000, .inl (va_cpy p2 p2 (st k) (mSum (mSz M) (k - 1)) z)))] _ := hP
      have hD : va_D A [(m0, .inr (3, [.ref mk, .ref mt, .int kd, .ref wo, .int wn, .ref re, .int pc, .int sta, .int dn, .int th, .ref ro, .ref aa, .ref si, .ref so, .ref la, .int (nI gd), .int (nI gl), .int (nI (mSum (mSz M) (k - 1))), .int (nI gr), .ref ip, .ref oq, .ref cp, .int ni, .int no])), (aa, .inl (cI, 8001, .inl (upd t2 k (nI (mSum (mSz M) (k - 1)))))), (si, .inl (cI, 8001, .inl (zf))), (so, .inl (cI, 8001, .inl (of))), (ro, .inl (cB, 90000, .inl (va_cpy p2 p2 (st k) (mSum (mSz M) (k - 1)) z)))] := hD
      refine lv_aload_n hx hb d_Mo_pack_64 rfl (lv_at hl 1 rfl) ?_
      refine lv_dup hx hb d_Mo_pack_65 rfl ?_
      refine zget hE hK hP 0 rfl fd_Mo_85 rfl d_Mo_pack_66 ?_
      refine lv_aload_n hx hb d_Mo_pack_69 rfl (lv_at hl 1 rfl) ?_
      refine zget hE hK hP 0 rfl fd_Mo_30 rfl d_Mo_pack_70 ?_
      refine lv_iload_n hx hb d_Mo_pack_73 rfl (lv_at hl 0 rfl) ?_
      refine va_iald hx hb hK hP 2 0 rfl rfl (vp_in_nI (by omega) (by omega)) d_Mo_pack_74 ?_
      refine z_st (st' := [.int (nI z), .int (nI (mSum (mSz M) (k - 1))), .ref m0]) (by rw [show ((zf (nI k).toNatClampNeg) : Int32) = nI z from by rw [nI_clamp (by omega)]; exact hR.2.2.2.2.2.2.2.1 k z hz]) ?_
      refine zgoi (wr := [(m0, .inr (3, [.ref mk, .ref mt, .int kd, .ref wo, .int wn, .ref re, .int pc, .int sta, .int dn, .int th, .ref ro, .ref aa, .ref si, .ref so, .ref la, .int (nI gd), .int (nI gl), .int (nI (mSum (mSz M) (k - 1))), .int (nI gr), .ref ip, .ref oq, .ref cp, .int ni, .int no])), (aa, .inl (cI, 8001, .inl (upd t2 k (nI (mSum (mSz M) (k - 1)))))), (si, .inl (cI, 8001, .inl (zf))), (so, .inl (cI, 8001, .inl (of))), (ro, .inl (cB, 90000, .inl (va_cpy p2 p2 (st k) (mSum (mSz M) (k - 1)) z)))]) (zrunS (n := 1) (As := [.int (nI z)]) (rest := [.int (nI (mSum (mSz M) (k - 1))), .ref m0]) hE (c_Mo_up l D _ _ (nI z)) cb_Mo_up lk_Mo_80 st_Mo_up (zpreS hK hP hD [] rfl rfl rfl) ⟨Nat.le_of_ble_eq_true rfl, Nat.le_of_ble_eq_true rfl, Nat.le_of_ble_eq_true rfl, Nat.le_of_ble_eq_true rfl⟩ rfl hl.1 rfl (Nat.le_of_ble_eq_true rfl) d_Mo_pack_75) hP hD hS hA [] [0, 1, 2, 3, 4] rfl rfl rfl (by decide) (fun r4 u5 H locs hq3 hP hD hS => ?_)
      subst hq3
      have hP : va_P D zC [(m0, .inr (3, [.ref mk, .ref mt, .int kd, .ref wo, .int wn, .ref re, .int pc, .int sta, .int dn, .int th, .ref ro, .ref aa, .ref si, .ref so, .ref la, .int (nI gd), .int (nI gl), .int (nI (mSum (mSz M) (k - 1))), .int (nI gr), .ref ip, .ref oq, .ref cp, .int ni, .int no])), (aa, .inl (cI, 8001, .inl (upd t2 k (nI (mSum (mSz M) (k - 1)))))), (si, .inl (cI, 8001, .inl (zf))), (so, .inl (cI, 8001, .inl (of))), (ro, .inl (cB, 90000, .inl (va_cpy p2 p2 (st k) (mSum (mSz M) (k - 1)) z)))] _ := hP
      have hD : va_D A [(m0, .inr (3, [.ref mk, .ref mt, .int kd, .ref wo, .int wn, .ref re, .int pc, .int sta, .int dn, .int th, .ref ro, .ref aa, .ref si, .ref so, .ref la, .int (nI gd), .int (nI gl), .int (nI (mSum (mSz M) (k - 1))), .int (nI gr), .ref ip, .ref oq, .ref cp, .int ni, .int no])), (aa, .inl (cI, 8001, .inl (upd t2 k (nI (mSum (mSz M) (k - 1)))))), (si, .inl (cI, 8001, .inl (zf))), (so, .inl (cI, 8001, .inl (of))), (ro, .inl (cB, 90000, .inl (va_cpy p2 p2 (st k) (mSum (mSz M) (k - 1)) z)))] := hD
      refine z_st (st' := [.int (nI (up4 z)), .int (nI (mSum (mSz M) (k - 1))), .ref m0]) (by rw [show ((sp_Mo_up (nI z)) : Int32) = nI (up4 z) from up4_m z (by omega)]) ?_
      refine lv_iadd hx hb d_Mo_pack_78 ?_
      refine z_st (st' := [.int (nI (mSum (mSz M) k)), .ref m0]) (by rw [show (((nI (mSum (mSz M) (k - 1))) + (nI (up4 z))) : Int32) = nI (mSum (mSz M) k) from by rw [nI_add, mSum_at hk1 hz]]) ?_
      refine zput (v := .int (nI (mSum (mSz M) k))) hE hK hP hD hS 0 rfl fd_Mo_85 ft_Mo_17 rfl rfl (Nat.le_of_ble_eq_true rfl) d_Mo_pack_79 (fun H locs hP hD hS => ?_)
      have hP : va_P D zC [(m0, .inr (3, [.ref mk, .ref mt, .int kd, .ref wo, .int wn, .ref re, .int pc, .int sta, .int dn, .int th, .ref ro, .ref aa, .ref si, .ref so, .ref la, .int (nI gd), .int (nI gl), .int (nI (mSum (mSz M) k)), .int (nI gr), .ref ip, .ref oq, .ref cp, .int ni, .int no])), (aa, .inl (cI, 8001, .inl (upd t2 k (nI (mSum (mSz M) (k - 1)))))), (si, .inl (cI, 8001, .inl (zf))), (so, .inl (cI, 8001, .inl (of))), (ro, .inl (cB, 90000, .inl (va_cpy p2 p2 (st k) (mSum (mSz M) (k - 1)) z)))] _ := hP
      have hD : va_D A [(m0, .inr (3, [.ref mk, .ref mt, .int kd, .ref wo, .int wn, .ref re, .int pc, .int sta, .int dn, .int th, .ref ro, .ref aa, .ref si, .ref so, .ref la, .int (nI gd), .int (nI gl), .int (nI (mSum (mSz M) k)), .int (nI gr), .ref ip, .ref oq, .ref cp, .int ni, .int no])), (aa, .inl (cI, 8001, .inl (upd t2 k (nI (mSum (mSz M) (k - 1)))))), (si, .inl (cI, 8001, .inl (zf))), (so, .inl (cI, 8001, .inl (of))), (ro, .inl (cB, 90000, .inl (va_cpy p2 p2 (st k) (mSum (mSz M) (k - 1)) z)))] := hD
      refine lv_iinc (k := 0) (v := (nI k) + 1) (lv' := [(1, .int ((nI k) + 1)), (0, .ref m0)]) hx hb d_Mo_pack_82 hl rfl rfl (by decide) rfl (fun ls hl => ?_)
      refine lv_goto (tgt := 7) hx hb d_Mo_pack_85 (by decide) ?_
      rw [nI_1] at hl
      exact ih (j - 1) (k + 1, upd t2 k (nI (mSum (mSz M) (k - 1))), va_cpy p2 p2 (st k) (mSum (mSz M) (k - 1)) z) ls H locs 0 0 (by omega) ⟨⟨by show k + 1 + (j - 1) = gd + 1; omega, by show 1 ≤ k + 1; omega, tInv_step2 hR.1 g2 ht hz hsu, rfl, rfl⟩, hl, hP, hD, hS⟩
    · have hnone : mSz M k = none := (rRep_sz hR hk1 hkm).mp h2
      refine lv_goto (tgt := 82) hx hb d_Mo_pack_24 (by decide) ?_
      refine lv_iinc (k := 0) (v := (nI k) + 1) (lv' := [(1, .int ((nI k) + 1)), (0, .ref m0)]) hx hb d_Mo_pack_82 hl rfl rfl (by decide) rfl (fun ls hl => ?_)
      refine lv_goto (tgt := 7) hx hb d_Mo_pack_85 (by decide) ?_
      rw [nI_1] at hl
      rw [show ((nI (mSum (mSz M) (k - 1))) : Int32) = nI (mSum (mSz M) k) from by rw [mSum_skip hk1 hnone]] at hP hD
      have hP : va_P D zC [(m0, .inr (3, [.ref mk, .ref mt, .int kd, .ref wo, .int wn, .ref re, .int pc, .int sta, .int dn, .int th, .ref ro, .ref aa, .ref si, .ref so, .ref la, .int (nI gd), .int (nI gl), .int (nI (mSum (mSz M) k)), .int (nI gr), .ref ip, .ref oq, .ref cp, .int ni, .int no])), (aa, .inl (cI, 8001, .inl (t2))), (si, .inl (cI, 8001, .inl (zf))), (so, .inl (cI, 8001, .inl (of))), (ro, .inl (cB, 90000, .inl (p2)))] _ := hP
      have hD : va_D A [(m0, .inr (3, [.ref mk, .ref mt, .int kd, .ref wo, .int wn, .ref re, .int pc, .int sta, .int dn, .int th, .ref ro, .ref aa, .ref si, .ref so, .ref la, .int (nI gd), .int (nI gl), .int (nI (mSum (mSz M) k)), .int (nI gr), .ref ip, .ref oq, .ref cp, .int ni, .int no])), (aa, .inl (cI, 8001, .inl (t2))), (si, .inl (cI, 8001, .inl (zf))), (so, .inl (cI, 8001, .inl (of))), (ro, .inl (cB, 90000, .inl (p2)))] := hD
      exact ih (j - 1) (k + 1, t2, p2) ls H locs 0 0 (by omega) ⟨⟨by show k + 1 + (j - 1) = gd + 1; omega, by show 1 ≤ k + 1; omega, tInv_skip ht hnone, rfl, rfl⟩, hl, hP, hD, hS⟩
