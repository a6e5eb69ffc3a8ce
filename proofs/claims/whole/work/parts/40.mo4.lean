/-! decode rows -/
theorem d_Mo_load_0 : decode b_Mo_load 0 = .ok (.iconst 1, 1) := by decide +kernel
theorem d_Mo_load_1 : decode b_Mo_load 1 = .ok (.iload_n 1, 1) := by decide +kernel
theorem d_Mo_load_2 : decode b_Mo_load 2 = .ok (.iconst 3, 1) := by decide +kernel
theorem d_Mo_load_3 : decode b_Mo_load 3 = .ok (.iand, 1) := by decide +kernel
theorem d_Mo_load_4 : decode b_Mo_load 4 = .ok (.ishl, 1) := by decide +kernel
theorem d_Mo_load_5 : decode b_Mo_load 5 = .ok (.istore_n 3, 1) := by decide +kernel
theorem d_Mo_load_6 : decode b_Mo_load 6 = .ok (.aload_n 0, 1) := by decide +kernel
theorem d_Mo_load_7 : decode b_Mo_load 7 = .ok (.aload_n 0, 1) := by decide +kernel
theorem d_Mo_load_8 : decode b_Mo_load 8 = .ok (.getfield 19, 3) := by decide +kernel
theorem d_Mo_load_11 : decode b_Mo_load 11 = .ok (.iload_n 2, 1) := by decide +kernel
theorem d_Mo_load_12 : decode b_Mo_load 12 = .ok (.bipush 15, 2) := by decide +kernel
theorem d_Mo_load_14 : decode b_Mo_load 14 = .ok (.iconst 5, 1) := by decide +kernel
theorem d_Mo_load_15 : decode b_Mo_load 15 = .ok (.invokestatic 65, 3) := by decide +kernel
theorem d_Mo_load_18 : decode b_Mo_load 18 = .ok (.iaload, 1) := by decide +kernel
theorem d_Mo_load_19 : decode b_Mo_load 19 = .ok (.iload_n 2, 1) := by decide +kernel
theorem d_Mo_load_20 : decode b_Mo_load 20 = .ok (.invokestatic 122, 3) := by decide +kernel
theorem d_Mo_load_23 : decode b_Mo_load 23 = .ok (.iadd, 1) := by decide +kernel
theorem d_Mo_load_24 : decode b_Mo_load 24 = .ok (.iload_n 3, 1) := by decide +kernel
theorem d_Mo_load_25 : decode b_Mo_load 25 = .ok (.invokevirtual 153, 3) := by decide +kernel
theorem d_Mo_load_28 : decode b_Mo_load 28 = .ok (.istore 4, 2) := by decide +kernel
theorem d_Mo_load_30 : decode b_Mo_load 30 = .ok (.iload 4, 2) := by decide +kernel
theorem d_Mo_load_32 : decode b_Mo_load 32 = .ok (.ifCond .ge 9, 3) := by decide +kernel
theorem d_Mo_load_35 : decode b_Mo_load 35 = .ok (.aload_n 0, 1) := by decide +kernel
theorem d_Mo_load_36 : decode b_Mo_load 36 = .ok (.iconst 2, 1) := by decide +kernel
theorem d_Mo_load_37 : decode b_Mo_load 37 = .ok (.invokevirtual 100, 3) := by decide +kernel
theorem d_Mo_load_40 : decode b_Mo_load 40 = .ok (.return_, 1) := by decide +kernel
theorem d_Mo_load_41 : decode b_Mo_load 41 = .ok (.aload_n 0, 1) := by decide +kernel
theorem d_Mo_load_42 : decode b_Mo_load 42 = .ok (.iload 4, 2) := by decide +kernel
theorem d_Mo_load_44 : decode b_Mo_load 44 = .ok (.iload_n 3, 1) := by decide +kernel
theorem d_Mo_load_45 : decode b_Mo_load 45 = .ok (.invokevirtual 156, 3) := by decide +kernel
theorem d_Mo_load_48 : decode b_Mo_load 48 = .ok (.istore 5, 2) := by decide +kernel
theorem d_Mo_load_50 : decode b_Mo_load 50 = .ok (.aload_n 0, 1) := by decide +kernel
theorem d_Mo_load_51 : decode b_Mo_load 51 = .ok (.iload_n 2, 1) := by decide +kernel
theorem d_Mo_load_52 : decode b_Mo_load 52 = .ok (.iload_n 1, 1) := by decide +kernel
theorem d_Mo_load_53 : decode b_Mo_load 53 = .ok (.iconst 3, 1) := by decide +kernel
theorem d_Mo_load_54 : decode b_Mo_load 54 = .ok (.if_icmp .ge 15, 3) := by decide +kernel
theorem d_Mo_load_57 : decode b_Mo_load 57 = .ok (.iload 5, 2) := by decide +kernel
theorem d_Mo_load_59 : decode b_Mo_load 59 = .ok (.bipush 8, 2) := by decide +kernel
theorem d_Mo_load_61 : decode b_Mo_load 61 = .ok (.iload_n 3, 1) := by decide +kernel
theorem d_Mo_load_62 : decode b_Mo_load 62 = .ok (.imul, 1) := by decide +kernel
theorem d_Mo_load_63 : decode b_Mo_load 63 = .ok (.invokestatic 69, 3) := by decide +kernel
theorem d_Mo_load_66 : decode b_Mo_load 66 = .ok (.goto 5, 3) := by decide +kernel
theorem d_Mo_load_69 : decode b_Mo_load 69 = .ok (.iload 5, 2) := by decide +kernel
theorem d_Mo_load_71 : decode b_Mo_load 71 = .ok (.invokevirtual 129, 3) := by decide +kernel
theorem d_Mo_load_74 : decode b_Mo_load 74 = .ok (.return_, 1) := by decide +kernel
theorem d_Mo_store_0 : decode b_Mo_store 0 = .ok (.iconst 1, 1) := by decide +kernel
theorem d_Mo_store_1 : decode b_Mo_store 1 = .ok (.iload_n 1, 1) := by decide +kernel
theorem d_Mo_store_2 : decode b_Mo_store 2 = .ok (.ishl, 1) := by decide +kernel
theorem d_Mo_store_3 : decode b_Mo_store 3 = .ok (.istore_n 3, 1) := by decide +kernel
theorem d_Mo_store_4 : decode b_Mo_store 4 = .ok (.aload_n 0, 1) := by decide +kernel
theorem d_Mo_store_5 : decode b_Mo_store 5 = .ok (.getfield 19, 3) := by decide +kernel
theorem d_Mo_store_8 : decode b_Mo_store 8 = .ok (.iload_n 2, 1) := by decide +kernel
theorem d_Mo_store_9 : decode b_Mo_store 9 = .ok (.bipush 20, 2) := by decide +kernel
theorem d_Mo_store_11 : decode b_Mo_store 11 = .ok (.iconst 5, 1) := by decide +kernel
theorem d_Mo_store_12 : decode b_Mo_store 12 = .ok (.invokestatic 65, 3) := by decide +kernel
theorem d_Mo_store_15 : decode b_Mo_store 15 = .ok (.iaload, 1) := by decide +kernel
theorem d_Mo_store_16 : decode b_Mo_store 16 = .ok (.istore 4, 2) := by decide +kernel
theorem d_Mo_store_18 : decode b_Mo_store 18 = .ok (.aload_n 0, 1) := by decide +kernel
theorem d_Mo_store_19 : decode b_Mo_store 19 = .ok (.aload_n 0, 1) := by decide +kernel
theorem d_Mo_store_20 : decode b_Mo_store 20 = .ok (.getfield 19, 3) := by decide +kernel
theorem d_Mo_store_23 : decode b_Mo_store 23 = .ok (.iload_n 2, 1) := by decide +kernel
theorem d_Mo_store_24 : decode b_Mo_store 24 = .ok (.bipush 15, 2) := by decide +kernel
theorem d_Mo_store_26 : decode b_Mo_store 26 = .ok (.iconst 5, 1) := by decide +kernel
theorem d_Mo_store_27 : decode b_Mo_store 27 = .ok (.invokestatic 65, 3) := by decide +kernel
theorem d_Mo_store_30 : decode b_Mo_store 30 = .ok (.iaload, 1) := by decide +kernel
theorem d_Mo_store_31 : decode b_Mo_store 31 = .ok (.iload_n 2, 1) := by decide +kernel
theorem d_Mo_store_32 : decode b_Mo_store 32 = .ok (.invokestatic 159, 3) := by decide +kernel
theorem d_Mo_store_35 : decode b_Mo_store 35 = .ok (.iadd, 1) := by decide +kernel
theorem d_Mo_store_36 : decode b_Mo_store 36 = .ok (.iload_n 3, 1) := by decide +kernel
theorem d_Mo_store_37 : decode b_Mo_store 37 = .ok (.invokevirtual 153, 3) := by decide +kernel
theorem d_Mo_store_40 : decode b_Mo_store 40 = .ok (.istore 5, 2) := by decide +kernel
theorem d_Mo_store_42 : decode b_Mo_store 42 = .ok (.iload 5, 2) := by decide +kernel
theorem d_Mo_store_44 : decode b_Mo_store 44 = .ok (.ifCond .ge 9, 3) := by decide +kernel
theorem d_Mo_store_47 : decode b_Mo_store 47 = .ok (.aload_n 0, 1) := by decide +kernel
theorem d_Mo_store_48 : decode b_Mo_store 48 = .ok (.iconst 2, 1) := by decide +kernel
theorem d_Mo_store_49 : decode b_Mo_store 49 = .ok (.invokevirtual 100, 3) := by decide +kernel
theorem d_Mo_store_52 : decode b_Mo_store 52 = .ok (.return_, 1) := by decide +kernel
theorem d_Mo_store_53 : decode b_Mo_store 53 = .ok (.iconst 0, 1) := by decide +kernel
theorem d_Mo_store_54 : decode b_Mo_store 54 = .ok (.istore 6, 2) := by decide +kernel
theorem d_Mo_store_56 : decode b_Mo_store 56 = .ok (.iload 6, 2) := by decide +kernel
theorem d_Mo_store_58 : decode b_Mo_store 58 = .ok (.iload_n 3, 1) := by decide +kernel
theorem d_Mo_store_59 : decode b_Mo_store 59 = .ok (.if_icmp .ge 28, 3) := by decide +kernel
theorem d_Mo_store_62 : decode b_Mo_store 62 = .ok (.aload_n 0, 1) := by decide +kernel
theorem d_Mo_store_63 : decode b_Mo_store 63 = .ok (.getfield 23, 3) := by decide +kernel
theorem d_Mo_store_66 : decode b_Mo_store 66 = .ok (.iload 5, 2) := by decide +kernel
theorem d_Mo_store_68 : decode b_Mo_store 68 = .ok (.iload 6, 2) := by decide +kernel
theorem d_Mo_store_70 : decode b_Mo_store 70 = .ok (.iadd, 1) := by decide +kernel
theorem d_Mo_store_71 : decode b_Mo_store 71 = .ok (.iload 4, 2) := by decide +kernel
theorem d_Mo_store_73 : decode b_Mo_store 73 = .ok (.bipush 8, 2) := by decide +kernel
theorem d_Mo_store_75 : decode b_Mo_store 75 = .ok (.iload 6, 2) := by decide +kernel
theorem d_Mo_store_77 : decode b_Mo_store 77 = .ok (.imul, 1) := by decide +kernel
theorem d_Mo_store_78 : decode b_Mo_store 78 = .ok (.ishr, 1) := by decide +kernel
theorem d_Mo_store_79 : decode b_Mo_store 79 = .ok (.i2b, 1) := by decide +kernel
theorem d_Mo_store_80 : decode b_Mo_store 80 = .ok (.bastore, 1) := by decide +kernel
theorem d_Mo_store_81 : decode b_Mo_store 81 = .ok (.iinc 6 1, 3) := by decide +kernel
theorem d_Mo_store_84 : decode b_Mo_store 84 = .ok (.goto (-28), 3) := by decide +kernel
theorem d_Mo_store_87 : decode b_Mo_store 87 = .ok (.aload_n 0, 1) := by decide +kernel
theorem d_Mo_store_88 : decode b_Mo_store 88 = .ok (.dup, 1) := by decide +kernel
theorem d_Mo_store_89 : decode b_Mo_store 89 = .ok (.getfield 104, 3) := by decide +kernel
theorem d_Mo_store_92 : decode b_Mo_store 92 = .ok (.iconst 4, 1) := by decide +kernel
theorem d_Mo_store_93 : decode b_Mo_store 93 = .ok (.iadd, 1) := by decide +kernel
theorem d_Mo_store_94 : decode b_Mo_store 94 = .ok (.putfield 104, 3) := by decide +kernel
theorem d_Mo_store_97 : decode b_Mo_store 97 = .ok (.return_, 1) := by decide +kernel

/-! the reference's load and store -/
theorem rRep_put {M : MM} {md lq tp tr : Nat} {af zf of lf rf rf2 : Nat → Int32} (h : rRep M md lq tp tr af zf of lf rf) {o z q : Nat} {f : Nat → Int32} (ho : mSz M o = some z) (hq : af o = nI q) (hq9 : q ≤ 90000) (h1 : ∀ i, i < z → rf2 (q + i) = f i) (h2 : ∀ p, (p < q ∨ q + z ≤ p) → rf2 p = rf p) (h3 : ∀ i, i < 90000 → fits .byte (.int (rf2 i)) = true) :
    rRep (mPut M o f) md lq tp tr af zf of lf rf2 := by
  obtain ⟨hI, e1, e2, e3, e4, e5, e6, e7, e8, st, g1, g2, g3⟩ := h
  have hst : st o = q := by
    obtain ⟨a1, a2⟩ := g1 o z ho
    exact (nI_eq (by omega) (by omega)).mp (a1.symm.trans hq)
  refine ⟨hI, e1, e2, e3, e4, h3, e6, e7, e8, st, g1, g2, fun k y i hk hi => ?_⟩
  have hk : mSz M k = some y := hk
  show rf2 (st k + i) = (if k = o then f else mCt M k) i
  by_cases c : k = o
  · subst c
    cases hk.symm.trans ho
    rw [if_pos rfl, hst]
    exact h1 i hi
  · rw [if_neg c, h2 _ ?_]
    · exact g3 k y i hk hi
    · have u1 := up4_le y
      have u2 := up4_le z
      rcases Nat.lt_or_gt_of_ne c with d | d
      · have := g2 k o y z d hk ho
        left
        omega
      · have := g2 o k z y d ho hk
        right
        omega
theorem rRep_write {M : MM} {md lq tp tr : Nat} {af zf of lf rf : Nat → Int32} (h : rRep M md lq tp tr af zf of lf rf) {a v : Int32} {k z q : Nat} (hk : k ≤ 4000) (ho : mSz M (zN a / 65536) = some z) (hle : zN a % 65536 + k ≤ z) (hq9 : q ≤ 90000) (hq : af (zN a / 65536) = nI q) :
    rRep (mWr M a (nI k) v) md lq tp tr af zf of lf (zwt rf (q + zN a % 65536) k v) := by
  have hst : ∀ i, i < z → rf (q + i) = mCt M (zN a / 65536) i := by
    obtain ⟨hI, e1, e2, e3, e4, e5, e6, e7, e8, st, g1, g2, g3⟩ := h
    have hs : st (zN a / 65536) = q := by
      obtain ⟨a1, a2⟩ := g1 _ z ho
      exact (nI_eq (by omega) (by omega)).mp (a1.symm.trans hq)
    intro i hi
    rw [← hs]
    exact g3 _ z i ho hi
  unfold mWr
  rw [zN_nI (by omega)]
  refine rRep_put h ho hq hq9 (fun i hi => ?_) (fun p hp => ?_) (zwt_fit h.2.2.2.2.2.1)
  · unfold zwt
    by_cases c : zN a % 65536 ≤ i ∧ i < zN a % 65536 + k
    · rw [if_pos (by omega), if_pos c, show q + i - (q + zN a % 65536) = i - zN a % 65536 by omega]
    · rw [if_neg (by omega), if_neg c]
      exact hst i hi
  · unfold zwt
    rw [if_neg (by omega)]
noncomputable def rLd (M : MM) (f w : Int32) (k : Nat) (pc sta : Int32) (rg : Nat → Int32) : Int32 × Int32 × (Nat → Int32) :=
  @ite _ (mPl M (rg (sp_Mo_bits w 15 5).toNatClampNeg + sp_Mo_byUpper w) k) (Classical.propDecidable _) (pc + 4, sta, sp_Mo_put w (if 3 ≤ f then mRd M (rg (sp_Mo_bits w 15 5).toNatClampNeg + sp_Mo_byUpper w) (nI k) else sp_Mo_signed (mRd M (rg (sp_Mo_bits w 15 5).toNatClampNeg + sp_Mo_byUpper w) (nI k)) (8 * nI k)) rg) (pc, 12, rg)
noncomputable def rSt (M : MM) (w : Int32) (k : Nat) (pc sta : Int32) (rg : Nat → Int32) : Int32 × Int32 × MM :=
  @ite _ (mPl M (rg (sp_Mo_bits w 15 5).toNatClampNeg + sp_Mo_byStore w) k) (Classical.propDecidable _) (pc + 4, sta, mWr M (rg (sp_Mo_bits w 15 5).toNatClampNeg + sp_Mo_byStore w) (nI k) (rg (sp_Mo_bits w 20 5).toNatClampNeg)) (pc, 12, M)

set_option maxHeartbeats 4000000 in
theorem c_Mo_load (l : Launch) (D : va_G) (cI cB cJ : ClassId) (sz : Nat) (f : Int32) (w : Int32) (m0 : Nat) (mk : Nat) (mt : Nat) (kd : Int32) (wo : Nat) (wn : Int32) (re : Nat) (pc : Int32) (sta : Int32) (dn : Int32) (th : Int32) (ro : Nat) (aa : Nat) (si : Nat) (so : Nat) (la : Nat) (gd : Nat) (gl : Nat) (gt : Nat) (gr : Nat) (ip : Nat) (oq : Nat) (cp : Nat) (ni : Int32) (no : Int32) (rg : Nat → Int32) (af : Nat → Int32) (zf : Nat → Int32) (of : Nat → Int32) (rf : Nat → Int32) (M : MM) (lf : Nat → Int32) (k0 : Nat) (hR : rRep M gd gl gt gr af zf of lf rf) (hk : (1 : Int32) <<< ((f &&& 3) &&& 31) = nI k0) (hk1 : 1 ≤ k0) (hk4 : k0 ≤ 4) : zMet l y_Mo_load (zWs y_Mo_load b_Mo_load 6 (none)) { frames := 3, cells := 0, slots := 0, locals := 67 } (zPc D (zT cI cB cJ) sz [(m0, .inr (3, [.ref mk, .ref mt, .int kd, .ref wo, .int wn, .ref re, .int pc, .int sta, .int dn, .int th, .ref ro, .ref aa, .ref si, .ref so, .ref la, .int (nI gd), .int (nI gl), .int (nI gt), .int (nI gr), .ref ip, .ref oq, .ref cp, .int ni, .int no])), (re, .inl (cI, 32, .inl (rg))), (aa, .inl (cI, 8001, .inl (af))), (si, .inl (cI, 8001, .inl (zf))), (so, .inl (cI, 8001, .inl (of))), (ro, .inl (cB, 90000, .inl (rf)))] [.ref m0, .int f, .int w]) (zQv D (va_A [(m0, .inr (3, [.ref mk, .ref mt, .int kd, .ref wo, .int wn, .ref re, .int pc, .int sta, .int dn, .int th, .ref ro, .ref aa, .ref si, .ref so, .ref la, .int (nI gd), .int (nI gl), .int (nI gt), .int (nI gr), .ref ip, .ref oq, .ref cp, .int ni, .int no])), (re, .inl (cI, 32, .inl (rg))), (aa, .inl (cI, 8001, .inl (af))), (si, .inl (cI, 8001, .inl (zf))), (so, .inl (cI, 8001, .inl (of))), (ro, .inl (cB, 90000, .inl (rf)))] sz) (fun (_ : Unit) => True) (z0) (fun _ => [(m0, .inr (3, [.ref mk, .ref mt, .int kd, .ref wo, .int wn, .ref re, .int ((rLd M f w k0 pc sta rg).1), .int ((rLd M f w k0 pc sta rg).2.1), .int dn, .int th, .ref ro, .ref aa, .ref si, .ref so, .ref la, .int (nI gd), .int (nI gl), .int (nI gt), .int (nI gr), .ref ip, .ref oq, .ref cp, .int ni, .int no])), (re, .inl (cI, 32, .inl ((rLd M f w k0 pc sta rg).2.2))), (aa, .inl (cI, 8001, .inl (af))), (si, .inl (cI, 8001, .inl (zf))), (so, .inl (cI, 8001, .inl (of))), (ro, .inl (cB, 90000, .inl (rf)))])) (va_A [(m0, .inr (3, [.ref mk, .ref mt, .int kd, .ref wo, .int wn, .ref re, .int pc, .int sta, .int dn, .int th, .ref ro, .ref aa, .ref si, .ref so, .ref la, .int (nI gd), .int (nI gl), .int (nI gt), .int (nI gr), .ref ip, .ref oq, .ref cp, .int ni, .int no])), (re, .inl (cI, 32, .inl (rg))), (aa, .inl (cI, 8001, .inl (af))), (si, .inl (cI, 8001, .inl (zf))), (so, .inl (cI, 8001, .inl (of))), (ro, .inl (cB, 90000, .inl (rf)))] sz) := by
  refine zstart (Qc := fun A => zQv D A (fun (_ : Unit) => True) (z0) (fun _ => [(m0, .inr (3, [.ref mk, .ref mt, .int kd, .ref wo, .int wn, .ref re, .int ((rLd M f w k0 pc sta rg).1), .int ((rLd M f w k0 pc sta rg).2.1), .int dn, .int th, .ref ro, .ref aa, .ref si, .ref so, .ref la, .int (nI gd), .int (nI gl), .int (nI gt), .int (nI gr), .ref ip, .ref oq, .ref cp, .int ni, .int no])), (re, .inl (cI, 32, .inl ((rLd M f w k0 pc sta rg).2.2))), (aa, .inl (cI, 8001, .inl (af))), (si, .inl (cI, 8001, .inl (zf))), (so, .inl (cI, 8001, .inl (of))), (ro, .inl (cB, 90000, .inl (rf)))])) (by decide) (Nat.le_of_ble_eq_true rfl) ?_
  intro p e s m below meth c ls A hE hr hlocks hin hsz hK hP hD hS hA hAe hl
  have hx := hE.1
  have hb := hE.2.1
  have hown := hE.2.2.2.1
  have hw := hE.2.2.2.2
  have hl : lv_has ls 6 [(0, .ref m0), (1, .int f), (2, .int w)] := hl
  refine lv_iconst (v := 1) hx hb d_Mo_load_0 (by decide) ?_
  refine lv_iload_n hx hb d_Mo_load_1 rfl (lv_at hl 1 rfl) ?_
  refine lv_iconst (v := 3) hx hb d_Mo_load_2 (by decide) ?_
  refine lv_iand hx hb d_Mo_load_3 ?_
  refine lv_ishl hx hb d_Mo_load_4 ?_
  refine z_st (st' := [.int (nI k0)]) (by rw [show (((1 : Int32) <<< ((f &&& 3 : Int32) &&& 31)) : Int32) = nI k0 from hk]) ?_
  refine lv_istore_n (lv' := [(3, .int (nI k0)), (0, .ref m0), (1, .int f), (2, .int w)]) hx hb d_Mo_load_5 rfl hl (by decide) rfl (fun ls hl => ?_)
  refine lv_aload_n hx hb d_Mo_load_6 rfl (lv_at hl 1 rfl) ?_
  refine lv_aload_n hx hb d_Mo_load_7 rfl (lv_at hl 1 rfl) ?_
  refine zget hE hK hP 0 rfl fd_Mo_19 rfl d_Mo_load_8 ?_
  refine lv_iload_n hx hb d_Mo_load_11 rfl (lv_at hl 3 rfl) ?_
  refine lv_bipush (v := 15) hx hb d_Mo_load_12 (by decide) ?_
  refine lv_iconst (v := 5) hx hb d_Mo_load_14 (by decide) ?_
  refine zgoi (wr := [(m0, .inr (3, [.ref mk, .ref mt, .int kd, .ref wo, .int wn, .ref re, .int pc, .int sta, .int dn, .int th, .ref ro, .ref aa, .ref si, .ref so, .ref la, .int (nI gd), .int (nI gl), .int (nI gt), .int (nI gr), .ref ip, .ref oq, .ref cp, .int ni, .int no])), (re, .inl (cI, 32, .inl (rg))), (aa, .inl (cI, 8001, .inl (af))), (si, .inl (cI, 8001, .inl (zf))), (so, .inl (cI, 8001, .inl (of))), (ro, .inl (cB, 90000, .inl (rf)))]) (zrunS (n := 3) (As := [.int w, .int 15, .int 5]) (rest := [.ref re, .ref m0]) hE (c_Mo_bits l D _ _ w 15 5) cb_Mo_bits lk_Mo_65 st_Mo_bits (zpreS hK hP hD [] rfl rfl rfl) ⟨Nat.le_of_ble_eq_true rfl, Nat.le_of_ble_eq_true rfl, Nat.le_of_ble_eq_true rfl, Nat.le_of_ble_eq_true rfl⟩ rfl hl.1 rfl (Nat.le_of_ble_eq_true rfl) d_Mo_load_15) hP hD hS hA [] [0, 1, 2, 3, 4, 5] rfl rfl rfl (by decide) (fun r2 u3 H locs hq1 hP hD hS => ?_)
  subst hq1
  have hP : va_P D zC [(m0, .inr (3, [.ref mk, .ref mt, .int kd, .ref wo, .int wn, .ref re, .int pc, .int sta, .int dn, .int th, .ref ro, .ref aa, .ref si, .ref so, .ref la, .int (nI gd), .int (nI gl), .int (nI gt), .int (nI gr), .ref ip, .ref oq, .ref cp, .int ni, .int no])), (re, .inl (cI, 32, .inl (rg))), (aa, .inl (cI, 8001, .inl (af))), (si, .inl (cI, 8001, .inl (zf))), (so, .inl (cI, 8001, .inl (of))), (ro, .inl (cB, 90000, .inl (rf)))] _ := hP
  have hD : va_D A [(m0, .inr (3, [.ref mk, .ref mt, .int kd, .ref wo, .int wn, .ref re, .int pc, .int sta, .int dn, .int th, .ref ro, .ref aa, .ref si, .ref so, .ref la, .int (nI gd), .int (nI gl), .int (nI gt), .int (nI gr), .ref ip, .ref oq, .ref cp, .int ni, .int no])), (re, .inl (cI, 32, .inl (rg))), (aa, .inl (cI, 8001, .inl (af))), (si, .inl (cI, 8001, .inl (zf))), (so, .inl (cI, 8001, .inl (of))), (ro, .inl (cB, 90000, .inl (rf)))] := hD
  refine va_iald hx hb hK hP 1 0 rfl rfl (zb5 _ _) d_Mo_load_18 ?_
  refine lv_iload_n hx hb d_Mo_load_19 rfl (lv_at hl 3 rfl) ?_
  refine zgoi (wr := [(m0, .inr (3, [.ref mk, .ref mt, .int kd, .ref wo, .int wn, .ref re, .int pc, .int sta, .int dn, .int th, .ref ro, .ref aa, .ref si, .ref so, .ref la, .int (nI gd), .int (nI gl), .int (nI gt), .int (nI gr), .ref ip, .ref oq, .ref cp, .int ni, .int no])), (re, .inl (cI, 32, .inl (rg))), (aa, .inl (cI, 8001, .inl (af))), (si, .inl (cI, 8001, .inl (zf))), (so, .inl (cI, 8001, .inl (of))), (ro, .inl (cB, 90000, .inl (rf)))]) (zrunS (n := 1) (As := [.int w]) (rest := [.int (rg (sp_Mo_bits w 15 5).toNatClampNeg), .ref m0]) hE (c_Mo_byUpper l D _ _ w) cb_Mo_byUpper lk_Mo_122 st_Mo_byUpper (zpreS hK hP hD [] rfl rfl rfl) ⟨Nat.le_of_ble_eq_true rfl, Nat.le_of_ble_eq_true rfl, Nat.le_of_ble_eq_true rfl, Nat.le_of_ble_eq_true rfl⟩ rfl hl.1 rfl (Nat.le_of_ble_eq_true rfl) d_Mo_load_20) hP hD hS hA [] [0, 1, 2, 3, 4, 5] rfl rfl rfl (by decide) (fun r5 u6 H locs hq4 hP hD hS => ?_)
  subst hq4
  have hP : va_P D zC [(m0, .inr (3, [.ref mk, .ref mt, .int kd, .ref wo, .int wn, .ref re, .int pc, .int sta, .int dn, .int th, .ref ro, .ref aa, .ref si, .ref so, .ref la, .int (nI gd), .int (nI gl), .int (nI gt), .int (nI gr), .ref ip, .ref oq, .ref cp, .int ni, .int no])), (re, .inl (cI, 32, .inl (rg))), (aa, .inl (cI, 8001, .inl (af))), (si, .inl (cI, 8001, .inl (zf))), (so, .inl (cI, 8001, .inl (of))), (ro, .inl (cB, 90000, .inl (rf)))] _ := hP
  have hD : va_D A [(m0, .inr (3, [.ref mk, .ref mt, .int kd, .ref wo, .int wn, .ref re, .int pc, .int sta, .int dn, .int th, .ref ro, .ref aa, .ref si, .ref so, .ref la, .int (nI gd), .int (nI gl), .int (nI gt), .int (nI gr), .ref ip, .ref oq, .ref cp, .int ni, .int no])), (re, .inl (cI, 32, .inl (rg))), (aa, .inl (cI, 8001, .inl (af))), (si, .inl (cI, 8001, .inl (zf))), (so, .inl (cI, 8001, .inl (of))), (ro, .inl (cB, 90000, .inl (rf)))] := hD
  refine lv_iadd hx hb d_Mo_load_23 ?_
  refine lv_iload_n hx hb d_Mo_load_24 rfl (lv_at hl 0 rfl) ?_
  refine zgoi (wr := [(re, .inl (cI, 32, .inl (rg))), (ro, .inl (cB, 90000, .inl (rf)))]) (zrunV (n := 2) (As := [.int ((rg (sp_Mo_bits w 15 5).toNatClampNeg) + (sp_Mo_byUpper w)), .int (nI k0)]) (rest := []) hE (c_Mo_place l D cI cB cJ _ ((rg (sp_Mo_bits w 15 5).toNatClampNeg) + (sp_Mo_byUpper w)) (nI k0) m0 mk mt kd wo wn re pc sta dn th ro aa si so la (nI gd) (nI gl) (nI gt) (nI gr) ip oq cp ni no af zf of ⟨by rw [nI_toInt (by have := hR.1.1; have := hR.2.1; omega)]; omega, by rw [nI_toInt (by have := hR.1.1; have := hR.2.1; omega)]; have := hR.1.1; have := hR.2.1; omega⟩ (nI_ne0 (by omega) (by omega))) cb_Mo_place lk_Mo_153 in_Mo_place se_Mo_place (zpreV (q0 := 0) hK hP hD rfl rfl rfl [0, 2, 3, 4] rfl rfl rfl) ⟨Nat.le_of_ble_eq_true rfl, Nat.le_of_ble_eq_true rfl, Nat.le_of_ble_eq_true rfl, Nat.le_of_ble_eq_true rfl⟩ rfl hl.1 rfl (Nat.le_of_ble_eq_true rfl) d_Mo_load_25) hP hD hS hA [0, 2, 3, 4] [1, 5] rfl rfl rfl (by decide) (fun r8 u9 H locs hq7 hP hD hS => ?_)
  subst hq7
  have hP : va_P D zC [(re, .inl (cI, 32, .inl (rg))), (ro, .inl (cB, 90000, .inl (rf))), (m0, .inr (3, [.ref mk, .ref mt, .int kd, .ref wo, .int wn, .ref re, .int pc, .int sta, .int dn, .int th, .ref ro, .ref aa, .ref si, .ref so, .ref la, .int (nI gd), .int (nI gl), .int (nI gt), .int (nI gr), .ref ip, .ref oq, .ref cp, .int ni, .int no])), (aa, .inl (cI, 8001, .inl (af))), (si, .inl (cI, 8001, .inl (zf))), (so, .inl (cI, 8001, .inl (of)))] _ := hP
  have hD : va_D A [(re, .inl (cI, 32, .inl (rg))), (ro, .inl (cB, 90000, .inl (rf))), (m0, .inr (3, [.ref mk, .ref mt, .int kd, .ref wo, .int wn, .ref re, .int pc, .int sta, .int dn, .int th, .ref ro, .ref aa, .ref si, .ref so, .ref la, .int (nI gd), .int (nI gl), .int (nI gt), .int (nI gr), .ref ip, .ref oq, .ref cp, .int ni, .int no])), (aa, .inl (cI, 8001, .inl (af))), (si, .inl (cI, 8001, .inl (zf))), (so, .inl (cI, 8001, .inl (of)))] := hD
  rcases Classical.em (mPl M ((rg (sp_Mo_bits w 15 5).toNatClampNeg) + (sp_Mo_byUpper w)) k0) with hp | hp
  · obtain ⟨q, z, e1, e2, e3, e4, e5, e6⟩ := (rRep_place hR ((rg (sp_Mo_bits w 15 5).toNatClampNeg) + (sp_Mo_byUpper w)) (k := k0) hk1 (by omega)).1 hp
    have hu := up4_le z
    refine z_st (st' := [.int (nI (q + zN ((rg (sp_Mo_bits w 15 5).toNatClampNeg) + (sp_Mo_byUpper w)) % 65536))]) (by rw [show (((sp_Mo_place ((rg (sp_Mo_bits w 15 5).toNatClampNeg) + (sp_Mo_byUpper w)) (nI k0) (nI gd) af zf of)) : Int32) = nI (q + zN ((rg (sp_Mo_bits w 15 5).toNatClampNeg) + (sp_Mo_byUpper w)) % 65536) from e1]) ?_
    refine lv_istore (lv' := [(4, .int (nI (q + zN ((rg (sp_Mo_bits w 15 5).toNatClampNeg) + (sp_Mo_byUpper w)) % 65536))), (3, .int (nI k0)), (0, .ref m0), (1, .int f), (2, .int w)]) hx hb d_Mo_load_28 hl (by decide) rfl (fun ls hl => ?_)
    refine lv_iload hx hb d_Mo_load_30 (lv_at hl 0 rfl) ?_
    refine lv_if_ge (tgt := 41) hx hb d_Mo_load_32 (by decide) (fun h10 => ?_) (fun h10 => (show False by exact h10 (nI_pos' (by omega))).elim)
    refine lv_aload_n hx hb d_Mo_load_41 rfl (lv_at hl 2 rfl) ?_
    refine lv_iload hx hb d_Mo_load_42 (lv_at hl 0 rfl) ?_
    refine lv_iload_n hx hb d_Mo_load_44 rfl (lv_at hl 1 rfl) ?_
    refine zgoi (wr := [(re, .inl (cI, 32, .inl (rg))), (aa, .inl (cI, 8001, .inl (af))), (si, .inl (cI, 8001, .inl (zf))), (so, .inl (cI, 8001, .inl (of)))]) (zrunV (n := 2) (As := [.int (nI (q + zN ((rg (sp_Mo_bits w 15 5).toNatClampNeg) + (sp_Mo_byUpper w)) % 65536)), .int (nI k0)]) (rest := []) hE (c_Mo_read l D cI cB cJ _ (nI (q + zN ((rg (sp_Mo_bits w 15 5).toNatClampNeg) + (sp_Mo_byUpper w)) % 65536)) (nI k0) m0 mk mt kd wo wn re pc sta dn th ro aa si so la (nI gd) (nI gl) (nI gt) (nI gr) ip oq cp ni no rf (q + zN ((rg (sp_Mo_bits w 15 5).toNatClampNeg) + (sp_Mo_byUpper w)) % 65536) k0 rfl rfl (by omega)) cb_Mo_read lk_Mo_156 in_Mo_read se_Mo_read (zpreV (q0 := 2) hK hP hD rfl rfl rfl [2, 1] rfl rfl rfl) ⟨Nat.le_of_ble_eq_true rfl, Nat.le_of_ble_eq_true rfl, Nat.le_of_ble_eq_true rfl, Nat.le_of_ble_eq_true rfl⟩ rfl hl.1 rfl (Nat.le_of_ble_eq_true rfl) d_Mo_load_45) hP hD hS hA [2, 1] [0, 3, 4, 5] rfl rfl rfl (by decide) (fun r12 u13 H locs hq11 hP hD hS => ?_)
    subst hq11
    have hP : va_P D zC [(re, .inl (cI, 32, .inl (rg))), (aa, .inl (cI, 8001, .inl (af))), (si, .inl (cI, 8001, .inl (zf))), (so, .inl (cI, 8001, .inl (of))), (m0, .inr (3, [.ref mk, .ref mt, .int kd, .ref wo, .int wn, .ref re, .int pc, .int sta, .int dn, .int th, .ref ro, .ref aa, .ref si, .ref so, .ref la, .int (nI gd), .int (nI gl), .int (nI gt), .int (nI gr), .ref ip, .ref oq, .ref cp, .int ni, .int no])), (ro, .inl (cB, 90000, .inl (rf)))] _ := hP
    have hD : va_D A [(re, .inl (cI, 32, .inl (rg))), (aa, .inl (cI, 8001, .inl (af))), (si, .inl (cI, 8001, .inl (zf))), (so, .inl (cI, 8001, .inl (of))), (m0, .inr (3, [.ref mk, .ref mt, .int kd, .ref wo, .int wn, .ref re, .int pc, .int sta, .int dn, .int th, .ref ro, .ref aa, .ref si, .ref so, .ref la, .int (nI gd), .int (nI gl), .int (nI gt), .int (nI gr), .ref ip, .ref oq, .ref cp, .int ni, .int no])), (ro, .inl (cB, 90000, .inl (rf)))] := hD
    refine z_st (st' := [.int (mRd M ((rg (sp_Mo_bits w 15 5).toNatClampNeg) + (sp_Mo_byUpper w)) (nI k0))]) (by rw [show (((zrd (fun i => rf ((q + zN ((rg (sp_Mo_bits w 15 5).toNatClampNeg) + (sp_Mo_byUpper w)) % 65536) + i)) k0 0)) : Int32) = mRd M ((rg (sp_Mo_bits w 15 5).toNatClampNeg) + (sp_Mo_byUpper w)) (nI k0) from by unfold mRd; rw [zN_nI (by omega)]; exact zrd_congr _ _ e6]) ?_
    refine lv_istore (lv' := [(5, .int (mRd M ((rg (sp_Mo_bits w 15 5).toNatClampNeg) + (sp_Mo_byUpper w)) (nI k0))), (4, .int (nI (q + zN ((rg (sp_Mo_bits w 15 5).toNatClampNeg) + (sp_Mo_byUpper w)) % 65536))), (3, .int (nI k0)), (0, .ref m0), (1, .int f), (2, .int w)]) hx hb d_Mo_load_48 hl (by decide) rfl (fun ls hl => ?_)
    refine lv_aload_n hx hb d_Mo_load_50 rfl (lv_at hl 3 rfl) ?_
    refine lv_iload_n hx hb d_Mo_load_51 rfl (lv_at hl 5 rfl) ?_
    refine lv_iload_n hx hb d_Mo_load_52 rfl (lv_at hl 4 rfl) ?_
    refine lv_iconst (v := 3) hx hb d_Mo_load_53 (by decide) ?_
    refine lv_icmp_ge (tgt := 69) hx hb d_Mo_load_54 (by decide) (fun h14 => ?_) (fun h14 => ?_)
    · refine lv_iload hx hb d_Mo_load_69 (lv_at hl 0 rfl) ?_
      refine zgov (wr := [(aa, .inl (cI, 8001, .inl (af))), (si, .inl (cI, 8001, .inl (zf))), (so, .inl (cI, 8001, .inl (of))), (ro, .inl (cB, 90000, .inl (rf)))]) (zrunV (n := 2) (As := [.int w, .int (mRd M ((rg (sp_Mo_bits w 15 5).toNatClampNeg) + (sp_Mo_byUpper w)) (nI k0))]) (rest := []) hE (c_Mo_goesOn l D cI cB cJ _ w (mRd M ((rg (sp_Mo_bits w 15 5).toNatClampNeg) + (sp_Mo_byUpper w)) (nI k0)) m0 mk mt kd wo wn re pc sta dn th ro aa si so la (nI gd) (nI gl) (nI gt) (nI gr) ip oq cp ni no rg) cb_Mo_goesOn lk_Mo_129 in_Mo_goesOn se_Mo_goesOn (zpreV (q0 := 4) hK hP hD rfl rfl rfl [4, 0] rfl rfl rfl) ⟨Nat.le_of_ble_eq_true rfl, Nat.le_of_ble_eq_true rfl, Nat.le_of_ble_eq_true rfl, Nat.le_of_ble_eq_true rfl⟩ rfl hl.1 rfl (Nat.le_of_ble_eq_true rfl) d_Mo_load_71) hP hD hS hA [4, 0] [1, 2, 3, 5] rfl rfl rfl (by decide) (fun u17 H locs hq15 hP hD hS => ?_)
      clear hq15
      have hP : va_P D zC [(aa, .inl (cI, 8001, .inl (af))), (si, .inl (cI, 8001, .inl (zf))), (so, .inl (cI, 8001, .inl (of))), (ro, .inl (cB, 90000, .inl (rf))), (m0, .inr (3, [.ref mk, .ref mt, .int kd, .ref wo, .int wn, .ref re, .int ((sp_Mo_goesOn w (mRd M ((rg (sp_Mo_bits w 15 5).toNatClampNeg) + (sp_Mo_byUpper w)) (nI k0)) pc rg).1), .int sta, .int dn, .int th, .ref ro, .ref aa, .ref si, .ref so, .ref la, .int (nI gd), .int (nI gl), .int (nI gt), .int (nI gr), .ref ip, .ref oq, .ref cp, .int ni, .int no])), (re, .inl (cI, 32, .inl ((sp_Mo_goesOn w (mRd M ((rg (sp_Mo_bits w 15 5).toNatClampNeg) + (sp_Mo_byUpper w)) (nI k0)) pc rg).2)))] _ := hP
      have hD : va_D A [(aa, .inl (cI, 8001, .inl (af))), (si, .inl (cI, 8001, .inl (zf))), (so, .inl (cI, 8001, .inl (of))), (ro, .inl (cB, 90000, .inl (rf))), (m0, .inr (3, [.ref mk, .ref mt, .int kd, .ref wo, .int wn, .ref re, .int ((sp_Mo_goesOn w (mRd M ((rg (sp_Mo_bits w 15 5).toNatClampNeg) + (sp_Mo_byUpper w)) (nI k0)) pc rg).1), .int sta, .int dn, .int th, .ref ro, .ref aa, .ref si, .ref so, .ref la, .int (nI gd), .int (nI gl), .int (nI gt), .int (nI gr), .ref ip, .ref oq, .ref cp, .int ni, .int no])), (re, .inl (cI, 32, .inl ((sp_Mo_goesOn w (mRd M ((rg (sp_Mo_bits w 15 5).toNatClampNeg) + (sp_Mo_byUpper w)) (nI k0)) pc rg).2)))] := hD
      have hs : rLd M f w k0 pc sta rg = (((sp_Mo_goesOn w (mRd M ((rg (sp_Mo_bits w 15 5).toNatClampNeg) + (sp_Mo_byUpper w)) (nI k0)) pc rg).1), sta, (sp_Mo_goesOn w (mRd M ((rg (sp_Mo_bits w 15 5).toNatClampNeg) + (sp_Mo_byUpper w)) (nI k0)) pc rg).2) := by unfold rLd; rw [if_pos hp, if_pos h14]; rfl
      have hP9 := hP.sub (ws' := [(m0, .inr (3, [.ref mk, .ref mt, .int kd, .ref wo, .int wn, .ref re, .int ((sp_Mo_goesOn w (mRd M ((rg (sp_Mo_bits w 15 5).toNatClampNeg) + (sp_Mo_byUpper w)) (nI k0)) pc rg).1), .int sta, .int dn, .int th, .ref ro, .ref aa, .ref si, .ref so, .ref la, .int (nI gd), .int (nI gl), .int (nI gt), .int (nI gr), .ref ip, .ref oq, .ref cp, .int ni, .int no])), (re, .inl (cI, 32, .inl ((sp_Mo_goesOn w (mRd M ((rg (sp_Mo_bits w 15 5).toNatClampNeg) + (sp_Mo_byUpper w)) (nI k0)) pc rg).2))), (aa, .inl (cI, 8001, .inl (af))), (si, .inl (cI, 8001, .inl (zf))), (so, .inl (cI, 8001, .inl (of))), (ro, .inl (cB, 90000, .inl (rf)))]) [4, 5, 0, 1, 2, 3] rfl
      have hD9 := hD.sub (ws' := [(m0, .inr (3, [.ref mk, .ref mt, .int kd, .ref wo, .int wn, .ref re, .int ((sp_Mo_goesOn w (mRd M ((rg (sp_Mo_bits w 15 5).toNatClampNeg) + (sp_Mo_byUpper w)) (nI k0)) pc rg).1), .int sta, .int dn, .int th, .ref ro, .ref aa, .ref si, .ref so, .ref la, .int (nI gd), .int (nI gl), .int (nI gt), .int (nI gr), .ref ip, .ref oq, .ref cp, .int ni, .int no])), (re, .inl (cI, 32, .inl ((sp_Mo_goesOn w (mRd M ((rg (sp_Mo_bits w 15 5).toNatClampNeg) + (sp_Mo_byUpper w)) (nI k0)) pc rg).2))), (aa, .inl (cI, 8001, .inl (af))), (si, .inl (cI, 8001, .inl (zf))), (so, .inl (cI, 8001, .inl (of))), (ro, .inl (cB, 90000, .inl (rf)))]) [4, 5, 0, 1, 2, 3] rfl rfl
      exact zretv hx hb hr hlocks hS () trivial rfl (by rw [hs]; exact hP9) (by rw [hs]; exact hD9) d_Mo_load_74
    · refine lv_iload hx hb d_Mo_load_57 (lv_at hl 0 rfl) ?_
      refine lv_bipush (v := 8) hx hb d_Mo_load_59 (by decide) ?_
      refine lv_iload_n hx hb d_Mo_load_61 rfl (lv_at hl 2 rfl) ?_
      refine lv_imul hx hb d_Mo_load_62 ?_
      refine zgoi (wr := [(re, .inl (cI, 32, .inl (rg))), (aa, .inl (cI, 8001, .inl (af))), (si, .inl (cI, 8001, .inl (zf))), (so, .inl (cI, 8001, .inl (of))), (m0, .inr (3, [.ref mk, .ref mt, .int kd, .ref wo, .int wn, .ref re, .int pc, .int sta, .int dn, .int th, .ref ro, .ref aa, .ref si, .ref so, .ref la, .int (nI gd), .int (nI gl), .int (nI gt), .int (nI gr), .ref ip, .ref oq, .ref cp, .int ni, .int no])), (ro, .inl (cB, 90000, .inl (rf)))]) (zrunS (n := 2) (As := [.int (mRd M ((rg (sp_Mo_bits w 15 5).toNatClampNeg) + (sp_Mo_byUpper w)) (nI k0)), .int (8 * (nI k0))]) (rest := [.int w, .ref m0]) hE (c_Mo_signed l D _ _ (mRd M ((rg (sp_Mo_bits w 15 5).toNatClampNeg) + (sp_Mo_byUpper w)) (nI k0)) (8 * (nI k0))) cb_Mo_signed lk_Mo_69 st_Mo_signed (zpreS hK hP hD [] rfl rfl rfl) ⟨Nat.le_of_ble_eq_true rfl, Nat.le_of_ble_eq_true rfl, Nat.le_of_ble_eq_true rfl, Nat.le_of_ble_eq_true rfl⟩ rfl hl.1 rfl (Nat.le_of_ble_eq_true rfl) d_Mo_load_63) hP hD hS hA [] [0, 1, 2, 3, 4, 5] rfl rfl rfl (by decide) (fun r19 u20 H locs hq18 hP hD hS => ?_)
      subst hq18
      have hP : va_P D zC [(re, .inl (cI, 32, .inl (rg))), (aa, .inl (cI, 8001, .inl (af))), (si, .inl (cI, 8001, .inl (zf))), (so, .inl (cI, 8001, .inl (of))), (m0, .inr (3, [.ref mk, .ref mt, .int kd, .ref wo, .int wn, .ref re, .int pc, .int sta, .int dn, .int th, .ref ro, .ref aa, .ref si, .ref so, .ref la, .int (nI gd), .int (nI gl), .int (nI gt), .int (nI gr), .ref ip, .ref oq, .ref cp, .int ni, .int no])), (ro, .inl (cB, 90000, .inl (rf)))] _ := hP
      have hD : va_D A [(re, .inl (cI, 32, .inl (rg))), (aa, .inl (cI, 8001, .inl (af))), (si, .inl (cI, 8001, .inl (zf))), (so, .inl (cI, 8001, .inl (of))), (m0, .inr (3, [.ref mk, .ref mt, .int kd, .ref wo, .int wn, .ref re, .int pc, .int sta, .int dn, .int th, .ref ro, .ref aa, .ref si, .ref so, .ref la, .int (nI gd), .int (nI gl), .int (nI gt), .int (nI gr), .ref ip, .ref oq, .ref cp, .int ni, .int no])), (ro, .inl (cB, 90000, .inl (rf)))] := hD
      refine lv_goto (tgt := 71) hx hb d_Mo_load_66 (by decide) ?_
      refine zgov (wr := [(aa, .inl (cI, 8001, .inl (af))), (si, .inl (cI, 8001, .inl (zf))), (so, .inl (cI, 8001, .inl (of))), (ro, .inl (cB, 90000, .inl (rf)))]) (zrunV (n := 2) (As := [.int w, .int (sp_Mo_signed (mRd M ((rg (sp_Mo_bits w 15 5).toNatClampNeg) + (sp_Mo_byUpper w)) (nI k0)) (8 * (nI k0)))]) (rest := []) hE (c_Mo_goesOn l D cI cB cJ _ w (sp_Mo_signed (mRd M ((rg (sp_Mo_bits w 15 5).toNatClampNeg) + (sp_Mo_byUpper w)) (nI k0)) (8 * (nI k0))) m0 mk mt kd wo wn re pc sta dn th ro aa si so la (nI gd) (nI gl) (nI gt) (nI gr) ip oq cp ni no rg) cb_Mo_goesOn lk_Mo_129 in_Mo_goesOn se_Mo_goesOn (zpreV (q0 := 4) hK hP hD rfl rfl rfl [4, 0] rfl rfl rfl) ⟨Nat.le_of_ble_eq_true rfl, Nat.le_of_ble_eq_true rfl, Nat.le_of_ble_eq_true rfl, Nat.le_of_ble_eq_true rfl⟩ rfl hl.1 rfl (Nat.le_of_ble_eq_true rfl) d_Mo_load_71) hP hD hS hA [4, 0] [1, 2, 3, 5] rfl rfl rfl (by decide) (fun u23 H locs hq21 hP hD hS => ?_)
      clear hq21
      have hP : va_P D zC [(aa, .inl (cI, 8001, .inl (af))), (si, .inl (cI, 8001, .inl (zf))), (so, .inl (cI, 8001, .inl (of))), (ro, .inl (cB, 90000, .inl (rf))), (m0, .inr (3, [.ref mk, .ref mt, .int kd, .ref wo, .int wn, .ref re, .int ((sp_Mo_goesOn w (sp_Mo_signed (mRd M ((rg (sp_Mo_bits w 15 5).toNatClampNeg) + (sp_Mo_byUpper w)) (nI k0)) (8 * (nI k0))) pc rg).1), .int sta, .int dn, .int th, .ref ro, .ref aa, .ref si, .ref so, .ref la, .int (nI gd), .int (nI gl), .int (nI gt), .int (nI gr), .ref ip, .ref oq, .ref cp, .int ni, .int no])), (re, .inl (cI, 32, .inl ((sp_Mo_goesOn w (sp_Mo_signed (mRd M ((rg (sp_Mo_bits w 15 5).toNatClampNeg) + (sp_Mo_byUpper w)) (nI k0)) (8 * (nI k0))) pc rg).2)))] _ := hP
      have hD : va_D A [(aa, .inl (cI, 8001, .inl (af))), (si, .inl (cI, 8001, .inl (zf))), (so, .inl (cI, 8001, .inl (of))), (ro, .inl (cB, 90000, .inl (rf))), (m0, .inr (3, [.ref mk, .ref mt, .int kd, .ref wo, .int wn, .ref re, .int ((sp_Mo_goesOn w (sp_Mo_signed (mRd M ((rg (sp_Mo_bits w 15 5).toNatClampNeg) + (sp_Mo_byUpper w)) (nI k0)) (8 * (nI k0))) pc rg).1), .int sta, .int dn, .int th, .ref ro, .ref aa, .ref si, .ref so, .ref la, .int (nI gd), .int (nI gl), .int (nI gt), .int (nI gr), .ref ip, .ref oq, .ref cp, .int ni, .int no])), (re, .inl (cI, 32, .inl ((sp_Mo_goesOn w (sp_Mo_signed (mRd M ((rg (sp_Mo_bits w 15 5).toNatClampNeg) + (sp_Mo_byUpper w)) (nI k0)) (8 * (nI k0))) pc rg).2)))] := hD
      have hs : rLd M f w k0 pc sta rg = (((sp_Mo_goesOn w (sp_Mo_signed (mRd M ((rg (sp_Mo_bits w 15 5).toNatClampNeg) + (sp_Mo_byUpper w)) (nI k0)) (8 * (nI k0))) pc rg).1), sta, (sp_Mo_goesOn w (sp_Mo_signed (mRd M ((rg (sp_Mo_bits w 15 5).toNatClampNeg) + (sp_Mo_byUpper w)) (nI k0)) (8 * (nI k0))) pc rg).2) := by unfold rLd; rw [if_pos hp, if_neg h14]; rfl
      have hP9 := hP.sub (ws' := [(m0, .inr (3, [.ref mk, .ref mt, .int kd, .ref wo, .int wn, .ref re, .int ((sp_Mo_goesOn w (sp_Mo_signed (mRd M ((rg (sp_Mo_bits w 15 5).toNatClampNeg) + (sp_Mo_byUpper w)) (nI k0)) (8 * (nI k0))) pc rg).1), .int sta, .int dn, .int th, .ref ro, .ref aa, .ref si, .ref so, .ref la, .int (nI gd), .int (nI gl), .int (nI gt), .int (nI gr), .ref ip, .ref oq, .ref cp, .int ni, .int no])), (re, .inl (cI, 32, .inl ((sp_Mo_goesOn w (sp_Mo_signed (mRd M ((rg (sp_Mo_bits w 15 5).toNatClampNeg) + (sp_Mo_byUpper w)) (nI k0)) (8 * (nI k0))) pc rg).2))), (aa, .inl (cI, 8001, .inl (af))), (si, .inl (cI, 8001, .inl (zf))), (so, .inl (cI, 8001, .inl (of))), (ro, .inl (cB, 90000, .inl (rf)))]) [4, 5, 0, 1, 2, 3] rfl
      have hD9 := hD.sub (ws' := [(m0, .inr (3, [.ref mk, .ref mt, .int kd, .ref wo, .int wn, .ref re, .int ((sp_Mo_goesOn w (sp_Mo_signed (mRd M ((rg (sp_Mo_bits w 15 5).toNatClampNeg) + (sp_Mo_byUpper w)) (nI k0)) (8 * (nI k0))) pc rg).1), .int sta, .int dn, .int th, .ref ro, .ref aa, .ref si, .ref so, .ref la, .int (nI gd), .int (nI gl), .int (nI gt), .int (nI gr), .ref ip, .ref oq, .ref cp, .int ni, .int no])), (re, .inl (cI, 32, .inl ((sp_Mo_goesOn w (sp_Mo_signed (mRd M ((rg (sp_Mo_bits w 15 5).toNatClampNeg) + (sp_Mo_byUpper w)) (nI k0)) (8 * (nI k0))) pc rg).2))), (aa, .inl (cI, 8001, .inl (af))), (si, .inl (cI, 8001, .inl (zf))), (so, .inl (cI, 8001, .inl (of))), (ro, .inl (cB, 90000, .inl (rf)))]) [4, 5, 0, 1, 2, 3] rfl rfl
      exact zretv hx hb hr hlocks hS () trivial rfl (by rw [hs]; exact hP9) (by rw [hs]; exact hD9) d_Mo_load_74
  · have e1 := (rRep_place hR ((rg (sp_Mo_bits w 15 5).toNatClampNeg) + (sp_Mo_byUpper w)) (k := k0) hk1 (by omega)).2 hp
    refine z_st (st' := [.int ((-1))]) (by rw [show (((sp_Mo_place ((rg (sp_Mo_bits w 15 5).toNatClampNeg) + (sp_Mo_byUpper w)) (nI k0) (nI gd) af zf of)) : Int32) = (-1) from e1]) ?_
    refine lv_istore (lv' := [(4, .int ((-1))), (3, .int (nI k0)), (0, .ref m0), (1, .int f), (2, .int w)]) hx hb d_Mo_load_28 hl (by decide) rfl (fun ls hl => ?_)
    refine lv_iload hx hb d_Mo_load_30 (lv_at hl 0 rfl) ?_
    refine lv_if_ge (tgt := 41) hx hb d_Mo_load_32 (by decide) (fun h24 => (show False by revert h24; decide).elim) (fun h24 => ?_)
    refine lv_aload_n hx hb d_Mo_load_35 rfl (lv_at hl 2 rfl) ?_
    refine lv_iconst (v := 2) hx hb d_Mo_load_36 (by decide) ?_
    refine zgov (wr := [(re, .inl (cI, 32, .inl (rg))), (ro, .inl (cB, 90000, .inl (rf))), (aa, .inl (cI, 8001, .inl (af))), (si, .inl (cI, 8001, .inl (zf))), (so, .inl (cI, 8001, .inl (of)))]) (zrunV (n := 1) (As := [.int 2]) (rest := []) hE (c_Mo_trap l D cI cB cJ _ 2 m0 mk mt kd wo wn re pc sta dn th ro aa si so la (nI gd) (nI gl) (nI gt) (nI gr) ip oq cp ni no) cb_Mo_trap lk_Mo_100 in_Mo_trap se_Mo_trap (zpreV (q0 := 2) hK hP hD rfl rfl rfl [2] rfl rfl rfl) ⟨Nat.le_of_ble_eq_true rfl, Nat.le_of_ble_eq_true rfl, Nat.le_of_ble_eq_true rfl, Nat.le_of_ble_eq_true rfl⟩ rfl hl.1 rfl (Nat.le_of_ble_eq_true rfl) d_Mo_load_37) hP hD hS hA [2] [0, 1, 3, 4, 5] rfl rfl rfl (by decide) (fun u27 H locs hq25 hP hD hS => ?_)
    clear hq25
    have hP : va_P D zC [(re, .inl (cI, 32, .inl (rg))), (ro, .inl (cB, 90000, .inl (rf))), (aa, .inl (cI, 8001, .inl (af))), (si, .inl (cI, 8001, .inl (zf))), (so, .inl (cI, 8001, .inl (of))), (m0, .inr (3, [.ref mk, .ref mt, .int kd, .ref wo, .int wn, .ref re, .int pc, .int ((sp_Mo_trap 2)), .int dn, .int th, .ref ro, .ref aa, .ref si, .ref so, .ref la, .int (nI gd), .int (nI gl), .int (nI gt), .int (nI gr), .ref ip, .ref oq, .ref cp, .int ni, .int no]))] _ := hP
    have hD : va_D A [(re, .inl (cI, 32, .inl (rg))), (ro, .inl (cB, 90000, .inl (rf))), (aa, .inl (cI, 8001, .inl (af))), (si, .inl (cI, 8001, .inl (zf))), (so, .inl (cI, 8001, .inl (of))), (m0, .inr (3, [.ref mk, .ref mt, .int kd, .ref wo, .int wn, .ref re, .int pc, .int ((sp_Mo_trap 2)), .int dn, .int th, .ref ro, .ref aa, .ref si, .ref so, .ref la, .int (nI gd), .int (nI gl), .int (nI gt), .int (nI gr), .ref ip, .ref oq, .ref cp, .int ni, .int no]))] := hD
    have hs : rLd M f w k0 pc sta rg = (pc, ((sp_Mo_trap 2)), rg) := by unfold rLd; rw [if_neg hp]; rfl
    have hP9 := hP.sub (ws' := [(m0, .inr (3, [.ref mk, .ref mt, .int kd, .ref wo, .int wn, .ref re, .int pc, .int ((sp_Mo_trap 2)), .int dn, .int th, .ref ro, .ref aa, .ref si, .ref so, .ref la, .int (nI gd), .int (nI gl), .int (nI gt), .int (nI gr), .ref ip, .ref oq, .ref cp, .int ni, .int no])), (re, .inl (cI, 32, .inl (rg))), (aa, .inl (cI, 8001, .inl (af))), (si, .inl (cI, 8001, .inl (zf))), (so, .inl (cI, 8001, .inl (of))), (ro, .inl (cB, 90000, .inl (rf)))]) [5, 0, 2, 3, 4, 1] rfl
    have hD9 := hD.sub (ws' := [(m0, .inr (3, [.ref mk, .ref mt, .int kd, .ref wo, .int wn, .ref re, .int pc, .int ((sp_Mo_trap 2)), .int dn, .int th, .ref ro, .ref aa, .ref si, .ref so, .ref la, .int (nI gd), .int (nI gl), .int (nI gt), .int (nI gr), .ref ip, .ref oq, .ref cp, .int ni, .int no])), (re, .inl (cI, 32, .inl (rg))), (aa, .inl (cI, 8001, .inl (af))), (si, .inl (cI, 8001, .inl (zf))), (so, .inl (cI, 8001, .inl (of))), (ro, .inl (cB, 90000, .inl (rf)))]) [5, 0, 2, 3, 4, 1] rfl rfl
    exact zretv hx hb hr hlocks hS () trivial rfl (by rw [hs]; exact hP9) (by rw [hs]; exact hD9) d_Mo_load_40

set_option maxHeartbeats 4000000 in
theorem c_Mo_store (l : Launch) (D : va_G) (cI cB cJ : ClassId) (sz : Nat) (f : Int32) (w : Int32) (m0 : Nat) (mk : Nat) (mt : Nat) (kd : Int32) (wo : Nat) (wn : Int32) (re : Nat) (pc : Int32) (sta : Int32) (dn : Int32) (th : Int32) (ro : Nat) (aa : Nat) (si : Nat) (so : Nat) (la : Nat) (gd : Nat) (gl : Nat) (gt : Nat) (gr : Nat) (ip : Nat) (oq : Nat) (cp : Nat) (ni : Int32) (no : Int32) (rg : Nat → Int32) (af : Nat → Int32) (zf : Nat → Int32) (of : Nat → Int32) (rf : Nat → Int32) (M : MM) (lf : Nat → Int32) (k0 : Nat) (hR : rRep M gd gl gt gr af zf of lf rf) (hk : (1 : Int32) <<< (f &&& 31) = nI k0) (hk1 : 1 ≤ k0) (hk4 : k0 ≤ 4) : zMet l y_Mo_store (zWs y_Mo_store b_Mo_store 7 (none)) { frames := 2, cells := 0, slots := 0, locals := 42 } (zPc D (zT cI cB cJ) sz [(m0, .inr (3, [.ref mk, .ref mt, .int kd, .ref wo, .int wn, .ref re, .int pc, .int sta, .int dn, .int th, .ref ro, .ref aa, .ref si, .ref so, .ref la, .int (nI gd), .int (nI gl), .int (nI gt), .int (nI gr), .ref ip, .ref oq, .ref cp, .int ni, .int no])), (re, .inl (cI, 32, .inl (rg))), (aa, .inl (cI, 8001, .inl (af))), (si, .inl (cI, 8001, .inl (zf))), (so, .inl (cI, 8001, .inl (of))), (ro, .inl (cB, 90000, .inl (rf)))] [.ref m0, .int f, .int w]) (zQv D (va_A [(m0, .inr (3, [.ref mk, .ref mt, .int kd, .ref wo, .int wn, .ref re, .int pc, .int sta, .int dn, .int th, .ref ro, .ref aa, .ref si, .ref so, .ref la, .int (nI gd), .int (nI gl), .int (nI gt), .int (nI gr), .ref ip, .ref oq, .ref cp, .int ni, .int no])), (re, .inl (cI, 32, .inl (rg))), (aa, .inl (cI, 8001, .inl (af))), (si, .inl (cI, 8001, .inl (zf))), (so, .inl (cI, 8001, .inl (of))), (ro, .inl (cB, 90000, .inl (rf)))] sz) (fun (U : (Nat → Int32)) => rRep (rSt M w k0 pc sta rg).2.2 gd gl gt gr af zf of lf U) (fun _ => (0, 0)) (fun (U : (Nat → Int32)) => [(m0, .inr (3, [.ref mk, .ref mt, .int kd, .ref wo, .int wn, .ref re, .int ((rSt M w k0 pc sta rg).1), .int ((rSt M w k0 pc sta rg).2.1), .int dn, .int th, .ref ro, .ref aa, .ref si, .ref so, .ref la, .int (nI gd), .int (nI gl), .int (nI gt), .int (nI gr), .ref ip, .ref oq, .ref cp, .int ni, .int no])), (re, .inl (cI, 32, .inl (rg))), (aa, .inl (cI, 8001, .inl (af))), (si, .inl (cI, 8001, .inl (zf))), (so, .inl (cI, 8001, .inl (of))), (ro, .inl (cB, 90000, .inl (U)))])) (va_A [(m0, .inr (3, [.ref mk, .ref mt, .int kd, .ref wo, .int wn, .ref re, .int pc, .int sta, .int dn, .int th, .ref ro, .ref aa, .ref si, .ref so, .ref la, .int (nI gd), .int (nI gl), .int (nI gt), .int (nI gr), .ref ip, .ref oq, .ref cp, .int ni, .int no])), (re, .inl (cI, 32, .inl (rg))), (aa, .inl (cI, 8001, .inl (af))), (si, .inl (cI, 8001, .inl (zf))), (so, .inl (cI, 8001, .inl (of))), (ro, .inl (cB, 90000, .inl (rf)))] sz) := by
  refine zstart (Qc := fun A => zQv D A (fun (U : (Nat → Int32)) => rRep (rSt M w k0 pc sta rg).2.2 gd gl gt gr af zf of lf U) (fun _ => (0, 0)) (fun (U : (Nat → Int32)) => [(m0, .inr (3, [.ref mk, .ref mt, .int kd, .ref wo, .int wn, .ref re, .int ((rSt M w k0 pc sta rg).1), .int ((rSt M w k0 pc sta rg).2.1), .int dn, .int th, .ref ro, .ref aa, .ref si, .ref so, .ref la, .int (nI gd), .int (nI gl), .int (nI gt), .int (nI gr), .ref ip, .ref oq, .ref cp, .int ni, .int no])), (re, .inl (cI, 32, .inl (rg))), (aa, .inl (cI, 8001, .inl (af))), (si, .inl (cI, 8001, .inl (zf))), (so, .inl (cI, 8001, .inl (of))), (ro, .inl (cB, 90000, .inl (U)))])) (by decide) (Nat.le_of_ble_eq_true rfl) ?_
  intro p e s m below meth c ls A hE hr hlocks hin hsz hK hP hD hS hA hAe hl
  have hx := hE.1
  have hb := hE.2.1
  have hown := hE.2.2.2.1
  have hw := hE.2.2.2.2
  have hl : lv_has ls 7 [(0, .ref m0), (1, .int f), (2, .int w)] := hl
  refine lv_iconst (v := 1) hx hb d_Mo_store_0 (by decide) ?_
  refine lv_iload_n hx hb d_Mo_store_1 rfl (lv_at hl 1 rfl) ?_
  refine lv_ishl hx hb d_Mo_store_2 ?_
  refine z_st (st' := [.int (nI k0)]) (by rw [show (((1 : Int32) <<< ((f : Int32) &&& 31)) : Int32) = nI k0 from hk]) ?_
  refine lv_istore_n (lv' := [(3, .int (nI k0)), (0, .ref m0), (1, .int f), (2, .int w)]) hx hb d_Mo_store_3 rfl hl (by decide) rfl (fun ls hl => ?_)
  refine lv_aload_n hx hb d_Mo_store_4 rfl (lv_at hl 1 rfl) ?_
  refine zget hE hK hP 0 rfl fd_Mo_19 rfl d_Mo_store_5 ?_
  refine lv_iload_n hx hb d_Mo_store_8 rfl (lv_at hl 3 rfl) ?_
  refine lv_bipush (v := 20) hx hb d_Mo_store_9 (by decide) ?_
  refine lv_iconst (v := 5) hx hb d_Mo_store_11 (by decide) ?_
  refine zgoi (wr := [(m0, .inr (3, [.ref mk, .ref mt, .int kd, .ref wo, .int wn, .ref re, .int pc, .int sta, .int dn, .int th, .ref ro, .ref aa, .ref si, .ref so, .ref la, .int (nI gd), .int (nI gl), .int (nI gt), .int (nI gr), .ref ip, .ref oq, .ref cp, .int ni, .int no])), (re, .inl (cI, 32, .inl (rg))), (aa, .inl (cI, 8001, .inl (af))), (si, .inl (cI, 8001, .inl (zf))), (so, .inl (cI, 8001, .inl (of))), (ro, .inl (cB, 90000, .inl (rf)))]) (zrunS (n := 3) (As := [.int w, .int 20, .int 5]) (rest := [.ref re]) hE (c_Mo_bits l D _ _ w 20 5) cb_Mo_bits lk_Mo_65 st_Mo_bits (zpreS hK hP hD [] rfl rfl rfl) ⟨Nat.le_of_ble_eq_true rfl, Nat.le_of_ble_eq_true rfl, Nat.le_of_ble_eq_true rfl, Nat.le_of_ble_eq_true rfl⟩ rfl hl.1 rfl (Nat.le_of_ble_eq_true rfl) d_Mo_store_12) hP hD hS hA [] [0, 1, 2, 3, 4, 5] rfl rfl rfl (by decide) (fun r2 u3 H locs hq1 hP hD hS => ?_)
  subst hq1
  have hP : va_P D zC [(m0, .inr (3, [.ref mk, .ref mt, .int kd, .ref wo, .int wn, .ref re, .int pc, .int sta, .int dn, .int th, .ref ro, .ref aa, .ref si, .ref so, .ref la, .int (nI gd), .int (nI gl), .int (nI gt), .int (nI gr), .ref ip, .ref oq, .ref cp, .int ni, .int no])), (re, .inl (cI, 32, .inl (rg))), (aa, .inl (cI, 8001, .inl (af))), (si, .inl (cI, 8001, .inl (zf))), (so, .inl (cI, 8001, .inl (of))), (ro, .inl (cB, 90000, .inl (rf)))] _ := hP
  have hD : va_D A [(m0, .inr (3, [.ref mk, .ref mt, .int kd, .ref wo, .int wn, .ref re, .int pc, .int sta, .int dn, .int th, .ref ro, .ref aa, .ref si, .ref so, .ref la, .int (nI gd), .int (nI gl), .int (nI gt), .int (nI gr), .ref ip, .ref oq, .ref cp, .int ni, .int no])), (re, .inl (cI, 32, .inl (rg))), (aa, .inl (cI, 8001, .inl (af))), (si, .inl (cI, 8001, .inl (zf))), (so, .inl (cI, 8001, .inl (of))), (ro, .inl (cB, 90000, .inl (rf)))] := hD
  refine va_iald hx hb hK hP 1 0 rfl rfl (zb5 _ _) d_Mo_store_15 ?_
  refine lv_istore (lv' := [(4, .int (rg (sp_Mo_bits w 20 5).toNatClampNeg)), (3, .int (nI k0)), (0, .ref m0), (1, .int f), (2, .int w)]) hx hb d_Mo_store_16 hl (by decide) rfl (fun ls hl => ?_)
  refine lv_aload_n hx hb d_Mo_store_18 rfl (lv_at hl 2 rfl) ?_
  refine lv_aload_n hx hb d_Mo_store_19 rfl (lv_at hl 2 rfl) ?_
  refine zget hE hK hP 0 rfl fd_Mo_19 rfl d_Mo_store_20 ?_
  refine lv_iload_n hx hb d_Mo_store_23 rfl (lv_at hl 4 rfl) ?_
  refine lv_bipush (v := 15) hx hb d_Mo_store_24 (by decide) ?_
  refine lv_iconst (v := 5) hx hb d_Mo_store_26 (by decide) ?_
  refine zgoi (wr := [(m0, .inr (3, [.ref mk, .ref mt, .int kd, .ref wo, .int wn, .ref re, .int pc, .int sta, .int dn, .int th, .ref ro, .ref aa, .ref si, .ref so, .ref la, .int (nI gd), .int (nI gl), .int (nI gt), .int (nI gr), .ref ip, .ref oq, .ref cp, .int ni, .int no])), (re, .inl (cI, 32, .inl (rg))), (aa, .inl (cI, 8001, .inl (af))), (si, .inl (cI, 8001, .inl (zf))), (so, .inl (cI, 8001, .inl (of))), (ro, .inl (cB, 90000, .inl (rf)))]) (zrunS (n := 3) (As := [.int w, .int 15, .int 5]) (rest := [.ref re, .ref m0]) hE (c_Mo_bits l D _ _ w 15 5) cb_Mo_bits lk_Mo_65 st_Mo_bits (zpreS hK hP hD [] rfl rfl rfl) ⟨Nat.le_of_ble_eq_true rfl, Nat.le_of_ble_eq_true rfl, Nat.le_of_ble_eq_true rfl, Nat.le_of_ble_eq_true rfl⟩ rfl hl.1 rfl (Nat.le_of_ble_eq_true rfl) d_Mo_store_27) hP hD hS hA [] [0, 1, 2, 3, 4, 5] rfl rfl rfl (by decide) (fun r5 u6 H locs hq4 hP hD hS => ?_)
  subst hq4
  have hP : va_P D zC [(m0, .inr (3, [.ref mk, .ref mt, .int kd, .ref wo, .int wn, .ref re, .int pc, .int sta, .int dn, .int th, .ref ro, .ref aa, .ref si, .ref so, .ref la, .int (nI gd), .int (nI gl), .int (nI gt), .int (nI gr), .ref ip, .ref oq, .ref cp, .int ni, .int no])), (re, .inl (cI, 32, .inl (rg))), (aa, .inl (cI, 8001, .inl (af))), (si, .inl (cI, 8001, .inl (zf))), (so, .inl (cI, 8001, .inl (of))), (ro, .inl (cB, 90000, .inl (rf)))] _ := hP
  have hD : va_D A [(m0, .inr (3, [.ref mk, .ref mt, .int kd, .ref wo, .int wn, .ref re, .int pc, .int sta, .int dn, .int th, .ref ro, .ref aa, .ref si, .ref so, .ref la, .int (nI gd), .int (nI gl), .int (nI gt), .int (nI gr), .ref ip, .ref oq, .ref cp, .int ni, .int no])), (re, .inl (cI, 32, .inl (rg))), (aa, .inl (cI, 8001, .inl (af))), (si, .inl (cI, 8001, .inl (zf))), (so, .inl (cI, 8001, .inl (of))), (ro, .inl (cB, 90000, .inl (rf)))] := hD
  refine va_iald hx hb hK hP 1 0 rfl rfl (zb5 _ _) d_Mo_store_30 ?_
  refine lv_iload_n hx hb d_Mo_store_31 rfl (lv_at hl 4 rfl) ?_
  refine zgoi (wr := [(m0, .inr (3, [.ref mk, .ref mt, .int kd, .ref wo, .int wn, .ref re, .int pc, .int sta, .int dn, .int th, .ref ro, .ref aa, .ref si, .ref so, .ref la, .int (nI gd), .int (nI gl), .int (nI gt), .int (nI gr), .ref ip, .ref oq, .ref cp, .int ni, .int no])), (re, .inl (cI, 32, .inl (rg))), (aa, .inl (cI, 8001, .inl (af))), (si, .inl (cI, 8001, .inl (zf))), (so, .inl (cI, 8001, .inl (of))), (ro, .inl (cB, 90000, .inl (rf)))]) (zrunS (n := 1) (As := [.int w]) (rest := [.int (rg (sp_Mo_bits w 15 5).toNatClampNeg), .ref m0]) hE (c_Mo_byStore l D _ _ w) cb_Mo_byStore lk_Mo_159 st_Mo_byStore (zpreS hK hP hD [] rfl rfl rfl) ⟨Nat.le_of_ble_eq_true rfl, Nat.le_of_ble_eq_true rfl, Nat.le_of_ble_eq_true rfl, Nat.le_of_ble_eq_true rfl⟩ rfl hl.1 rfl (Nat.le_of_ble_eq_true rfl) d_Mo_store_32) hP hD hS hA [] [0, 1, 2, 3, 4, 5] rfl rfl rfl (by decide) (fun r8 u9 H locs hq7 hP hD hS => ?_)
  subst hq7
  have hP : va_P D zC [(m0, .inr (3, [.ref mk, .ref mt, .int kd, .ref wo, .int wn, .ref re, .int pc, .int sta, .int dn, .int th, .ref ro, .ref aa, .ref si, .ref so, .ref la, .int (nI gd), .int (nI gl), .int (nI gt), .int (nI gr), .ref ip, .ref oq, .ref cp, .int ni, .int no])), (re, .inl (cI, 32, .inl (rg))), (aa, .inl (cI, 8001, .inl (af))), (si, .inl (cI, 8001, .inl (zf))), (so, .inl (cI, 8001, .inl (of))), (ro, .inl (cB, 90000, .inl (rf)))] _ := hP
  have hD : va_D A [(m0, .inr (3, [.ref mk, .ref mt, .int kd, .ref wo, .int wn, .ref re, .int pc, .int sta, .int dn, .int th, .ref ro, .ref aa, .ref si, .ref so, .ref la, .int (nI gd), .int (nI gl), .int (nI gt), .int (nI gr), .ref ip, .ref oq, .ref cp, .int ni, .int no])), (re, .inl (cI, 32, .inl (rg))), (aa, .inl (cI, 8001, .inl (af))), (si, .inl (cI, 8001, .inl (zf))), (so, .inl (cI, 8001, .inl (of))), (ro, .inl (cB, 90000, .inl (rf)))] := hD
  refine lv_iadd hx hb d_Mo_store_35 ?_
  refine lv_iload_n hx hb d_Mo_store_36 rfl (lv_at hl 1 rfl) ?_
  refine zgoi (wr := [(re, .inl (cI, 32, .inl (rg))), (ro, .inl (cB, 90000, .inl (rf)))]) (zrunV (n := 2) (As := [.int ((rg (sp_Mo_bits w 15 5).toNatClampNeg) + (sp_Mo_byStore w)), .int (nI k0)]) (rest := []) hE (c_Mo_place l D cI cB cJ _ ((rg (sp_Mo_bits w 15 5).toNatClampNeg) + (sp_Mo_byStore w)) (nI k0) m0 mk mt kd wo wn re pc sta dn th ro aa si so la (nI gd) (nI gl) (nI gt) (nI gr) ip oq cp ni no af zf of ⟨by rw [nI_toInt (by have := hR.1.1; have := hR.2.1; omega)]; omega, by rw [nI_toInt (by have := hR.1.1; have := hR.2.1; omega)]; have := hR.1.1; have := hR.2.1; omega⟩ (nI_ne0 (by omega) (by omega))) cb_Mo_place lk_Mo_153 in_Mo_place se_Mo_place (zpreV (q0 := 0) hK hP hD rfl rfl rfl [0, 2, 3, 4] rfl rfl rfl) ⟨Nat.le_of_ble_eq_true rfl, Nat.le_of_ble_eq_true rfl, Nat.le_of_ble_eq_true rfl, Nat.le_of_ble_eq_true rfl⟩ rfl hl.1 rfl (Nat.le_of_ble_eq_true rfl) d_Mo_store_37) hP hD hS hA [0, 2, 3, 4] [1, 5] rfl rfl rfl (by decide) (fun r11 u12 H locs hq10 hP hD hS => ?_)
  subst hq10
  have hP : va_P D zC [(re, .inl (cI, 32, .inl (rg))), (ro, .inl (cB, 90000, .inl (rf))), (m0, .inr (3, [.ref mk, .ref mt, .int kd, .ref wo, .int wn, .ref re, .int pc, .int sta, .int dn, .int th, .ref ro, .ref aa, .ref si, .ref so, .ref la, .int (nI gd), .int (nI gl), .int (nI gt), .int (nI gr), .ref ip, .ref oq, .ref cp, .int ni, .int no])), (aa, .inl (cI, 8001, .inl (af))), (si, .inl (cI, 8001, .inl (zf))), (so, .inl (cI, 8001, .inl (of)))] _ := hP
  have hD : va_D A [(re, .inl (cI, 32, .inl (rg))), (ro, .inl (cB, 90000, .inl (rf))), (m0, .inr (3, [.ref mk, .ref mt, .int kd, .ref wo, .int wn, .ref re, .int pc, .int sta, .int dn, .int th, .ref ro, .ref aa, .ref si, .ref so, .ref la, .int (nI gd), .int (nI gl), .int (nI gt), .int (nI gr), .ref ip, .ref oq, .ref cp, .int ni, .int no])), (aa, .inl (cI, 8001, .inl (af))), (si, .inl (cI, 8001, .inl (zf))), (so, .inl (cI, 8001, .inl (of)))] := hD
  rcases Classical.em (mPl M ((rg (sp_Mo_bits w 15 5).toNatClampNeg) + (sp_Mo_byStore w)) k0) with hp | hp
  · obtain ⟨q, z, e1, e2, e3, e4, e5, e6⟩ := (rRep_place hR ((rg (sp_Mo_bits w 15 5).toNatClampNeg) + (sp_Mo_byStore w)) (k := k0) hk1 (by omega)).1 hp
    have hu := up4_le z
    refine z_st (st' := [.int (nI (q + zN ((rg (sp_Mo_bits w 15 5).toNatClampNeg) + (sp_Mo_byStore w)) % 65536))]) (by rw [show (((sp_Mo_place ((rg (sp_Mo_bits w 15 5).toNatClampNeg) + (sp_Mo_byStore w)) (nI k0) (nI gd) af zf of)) : Int32) = nI (q + zN ((rg (sp_Mo_bits w 15 5).toNatClampNeg) + (sp_Mo_byStore w)) % 65536) from e1]) ?_
    refine lv_istore (lv' := [(5, .int (nI (q + zN ((rg (sp_Mo_bits w 15 5).toNatClampNeg) + (sp_Mo_byStore w)) % 65536))), (4, .int (rg (sp_Mo_bits w 20 5).toNatClampNeg)), (3, .int (nI k0)), (0, .ref m0), (1, .int f), (2, .int w)]) hx hb d_Mo_store_40 hl (by decide) rfl (fun ls hl => ?_)
    refine lv_iload hx hb d_Mo_store_42 (lv_at hl 0 rfl) ?_
    refine lv_if_ge (tgt := 53) hx hb d_Mo_store_44 (by decide) (fun h13 => ?_) (fun h13 => (show False by exact h13 (nI_pos' (by omega))).elim)
    refine lv_iconst (v := 0) hx hb d_Mo_store_53 (by decide) ?_
    refine lv_istore (lv' := [(6, .int 0), (5, .int (nI (q + zN ((rg (sp_Mo_bits w 15 5).toNatClampNeg) + (sp_Mo_byStore w)) % 65536))), (4, .int (rg (sp_Mo_bits w 20 5).toNatClampNeg)), (3, .int (nI k0)), (0, .ref m0), (1, .int f), (2, .int w)]) hx hb d_Mo_store_54 hl (by decide) rfl (fun ls hl => ?_)
    rw [show ((rf) : Nat → Int32) = zwt rf (q + zN ((rg (sp_Mo_bits w 15 5).toNatClampNeg) + (sp_Mo_byStore w)) % 65536) 0 (rg (sp_Mo_bits w 20 5).toNatClampNeg) from (zwt_0 rf (q + zN ((rg (sp_Mo_bits w 15 5).toNatClampNeg) + (sp_Mo_byStore w)) % 65536) (rg (sp_Mo_bits w 20 5).toNatClampNeg)).symm] at hP hD
    have hP : va_P D zC [(re, .inl (cI, 32, .inl (rg))), (ro, .inl (cB, 90000, .inl (zwt rf (q + zN ((rg (sp_Mo_bits w 15 5).toNatClampNeg) + (sp_Mo_byStore w)) % 65536) 0 (rg (sp_Mo_bits w 20 5).toNatClampNeg)))), (m0, .inr (3, [.ref mk, .ref mt, .int kd, .ref wo, .int wn, .ref re, .int pc, .int sta, .int dn, .int th, .ref ro, .ref aa, .ref si, .ref so, .ref la, .int (nI gd), .int (nI gl), .int (nI gt), .int (nI gr), .ref ip, .ref oq, .ref cp, .int ni, .int no])), (aa, .inl (cI, 8001, .inl (af))), (si, .inl (cI, 8001, .inl (zf))), (so, .inl (cI, 8001, .inl (of)))] _ := hP
    have hD : va_D A [(re, .inl (cI, 32, .inl (rg))), (ro, .inl (cB, 90000, .inl (zwt rf (q + zN ((rg (sp_Mo_bits w 15 5).toNatClampNeg) + (sp_Mo_byStore w)) % 65536) 0 (rg (sp_Mo_bits w 20 5).toNatClampNeg)))), (m0, .inr (3, [.ref mk, .ref mt, .int kd, .ref wo, .int wn, .ref re, .int pc, .int sta, .int dn, .int th, .ref ro, .ref aa, .ref si, .ref so, .ref la, .int (nI gd), .int (nI gl), .int (nI gt), .int (nI gr), .ref ip, .ref oq, .ref cp, .int ni, .int no])), (aa, .inl (cI, 8001, .inl (af))), (si, .inl (cI, 8001, .inl (zf))), (so, .inl (cI, 8001, .inl (of)))] := hD
    have hP := hP.sub (ws' := [(m0, .inr (3, [.ref mk, .ref mt, .int kd, .ref wo, .int wn, .ref re, .int pc, .int sta, .int dn, .int th, .ref ro, .ref aa, .ref si, .ref so, .ref la, .int (nI gd), .int (nI gl), .int (nI gt), .int (nI gr), .ref ip, .ref oq, .ref cp, .int ni, .int no])), (re, .inl (cI, 32, .inl (rg))), (aa, .inl (cI, 8001, .inl (af))), (si, .inl (cI, 8001, .inl (zf))), (so, .inl (cI, 8001, .inl (of))), (ro, .inl (cB, 90000, .inl (zwt rf (q + zN ((rg (sp_Mo_bits w 15 5).toNatClampNeg) + (sp_Mo_byStore w)) % 65536) 0 (rg (sp_Mo_bits w 20 5).toNatClampNeg))))]) [2, 0, 3, 4, 5, 1] rfl
    have hD := hD.sub (ws' := [(m0, .inr (3, [.ref mk, .ref mt, .int kd, .ref wo, .int wn, .ref re, .int pc, .int sta, .int dn, .int th, .ref ro, .ref aa, .ref si, .ref so, .ref la, .int (nI gd), .int (nI gl), .int (nI gt), .int (nI gr), .ref ip, .ref oq, .ref cp, .int ni, .int no])), (re, .inl (cI, 32, .inl (rg))), (aa, .inl (cI, 8001, .inl (af))), (si, .inl (cI, 8001, .inl (zf))), (so, .inl (cI, 8001, .inl (of))), (ro, .inl (cB, 90000, .inl (zwt rf (q + zN ((rg (sp_Mo_bits w 15 5).toNatClampNeg) + (sp_Mo_byStore w)) % 65536) 0 (rg (sp_Mo_bits w 20 5).toNatClampNeg))))]) [2, 0, 3, 4, 5, 1] rfl rfl
    refine zloopH (σ := Nat) (fun j x ls H locs cells slots => (x + j = k0 ∧ cells = 0 ∧ slots = 0) ∧ lv_has ls 7 [(6, .int (nI x)), (5, .int (nI (q + zN ((rg (sp_Mo_bits w 15 5).toNatClampNeg) + (sp_Mo_byStore w)) % 65536))), (4, .int ((rg (sp_Mo_bits w 20 5).toNatClampNeg))), (3, .int (nI k0)), (0, .ref m0), (1, .int f), (2, .int w)] ∧ va_P D zC [(m0, .inr (3, [.ref mk, .ref mt, .int kd, .ref wo, .int wn, .ref re, .int pc, .int sta, .int dn, .int th, .ref ro, .ref aa, .ref si, .ref so, .ref la, .int (nI gd), .int (nI gl), .int (nI gt), .int (nI gr), .ref ip, .ref oq, .ref cp, .int ni, .int no])), (re, .inl (cI, 32, .inl (rg))), (aa, .inl (cI, 8001, .inl (af))), (si, .inl (cI, 8001, .inl (zf))), (so, .inl (cI, 8001, .inl (of))), (ro, .inl (cB, 90000, .inl (zwt rf (q + zN ((rg (sp_Mo_bits w 15 5).toNatClampNeg) + (sp_Mo_byStore w)) % 65536) x (rg (sp_Mo_bits w 20 5).toNatClampNeg))))] H ∧ va_D A [(m0, .inr (3, [.ref mk, .ref mt, .int kd, .ref wo, .int wn, .ref re, .int pc, .int sta, .int dn, .int th, .ref ro, .ref aa, .ref si, .ref so, .ref la, .int (nI gd), .int (nI gl), .int (nI gt), .int (nI gr), .ref ip, .ref oq, .ref cp, .int ni, .int no])), (re, .inl (cI, 32, .inl (rg))), (aa, .inl (cI, 8001, .inl (af))), (si, .inl (cI, 8001, .inl (zf))), (so, .inl (cI, 8001, .inl (of))), (ro, .inl (cB, 90000, .inl (zwt rf (q + zN ((rg (sp_Mo_bits w 15 5).toNatClampNeg) + (sp_Mo_byStore w)) % 65536) x (rg (sp_Mo_bits w 20 5).toNatClampNeg))))] ∧ va_S A s.heap H locs) (fun j x ls H locs cells slots hI ih => ?_) k0 0 ls ⟨⟨by omega, rfl, rfl⟩, hl, hP, hD, hS⟩
    obtain ⟨⟨hj, rfl, rfl⟩, hl, hP, hD, hS⟩ := hI
    refine lv_iload hx hb d_Mo_store_56 (lv_at hl 0 rfl) ?_
    refine lv_iload_n hx hb d_Mo_store_58 rfl (lv_at hl 3 rfl) ?_
    refine lv_icmp_ge (tgt := 87) hx hb d_Mo_store_59 (by decide) (fun h14 => ?_) (fun h14 => ?_)
    · have hx0 : x = k0 := by have := z_le' (by omega) h14; omega
      subst hx0
      refine lv_aload_n hx hb d_Mo_store_87 rfl (lv_at hl 4 rfl) ?_
      refine lv_dup hx hb d_Mo_store_88 rfl ?_
      refine zget hE hK hP 0 rfl fd_Mo_104 rfl d_Mo_store_89 ?_
      refine lv_iconst (v := 4) hx hb d_Mo_store_92 (by decide) ?_
      refine lv_iadd hx hb d_Mo_store_93 ?_
      refine zput (v := .int (pc + 4)) hE hK hP hD hS 0 rfl fd_Mo_104 ft_Mo_6 rfl rfl (Nat.le_of_ble_eq_true rfl) d_Mo_store_94 (fun H locs hP hD hS => ?_)
      have hP : va_P D zC [(m0, .inr (3, [.ref mk, .ref mt, .int kd, .ref wo, .int wn, .ref re, .int (pc + 4), .int sta, .int dn, .int th, .ref ro, .ref aa, .ref si, .ref so, .ref la, .int (nI gd), .int (nI gl), .int (nI gt), .int (nI gr), .ref ip, .ref oq, .ref cp, .int ni, .int no])), (re, .inl (cI, 32, .inl (rg))), (aa, .inl (cI, 8001, .inl (af))), (si, .inl (cI, 8001, .inl (zf))), (so, .inl (cI, 8001, .inl (of))), (ro, .inl (cB, 90000, .inl (zwt rf (q + zN ((rg (sp_Mo_bits w 15 5).toNatClampNeg) + (sp_Mo_byStore w)) % 65536) x (rg (sp_Mo_bits w 20 5).toNatClampNeg))))] _ := hP
      have hD : va_D A [(m0, .inr (3, [.ref mk, .ref mt, .int kd, .ref wo, .int wn, .ref re, .int (pc + 4), .int sta, .int dn, .int th, .ref ro, .ref aa, .ref si, .ref so, .ref la, .int (nI gd), .int (nI gl), .int (nI gt), .int (nI gr), .ref ip, .ref oq, .ref cp, .int ni, .int no])), (re, .inl (cI, 32, .inl (rg))), (aa, .inl (cI, 8001, .inl (af))), (si, .inl (cI, 8001, .inl (zf))), (so, .inl (cI, 8001, .inl (of))), (ro, .inl (cB, 90000, .inl (zwt rf (q + zN ((rg (sp_Mo_bits w 15 5).toNatClampNeg) + (sp_Mo_byStore w)) % 65536) x (rg (sp_Mo_bits w 20 5).toNatClampNeg))))] := hD
      have hs : rSt M w x pc sta rg = ((pc + 4), sta, mWr M ((rg (sp_Mo_bits w 15 5).toNatClampNeg) + (sp_Mo_byStore w)) (nI x) (rg (sp_Mo_bits w 20 5).toNatClampNeg)) := by unfold rSt; rw [if_pos hp]
      have hP9 := hP.sub (ws' := [(m0, .inr (3, [.ref mk, .ref mt, .int kd, .ref wo, .int wn, .ref re, .int (pc + 4), .int sta, .int dn, .int th, .ref ro, .ref aa, .ref si, .ref so, .ref la, .int (nI gd), .int (nI gl), .int (nI gt), .int (nI gr), .ref ip, .ref oq, .ref cp, .int ni, .int no])), (re, .inl (cI, 32, .inl (rg))), (aa, .inl (cI, 8001, .inl (af))), (si, .inl (cI, 8001, .inl (zf))), (so, .inl (cI, 8001, .inl (of))), (ro, .inl (cB, 90000, .inl (zwt rf (q + zN ((rg (sp_Mo_bits w 15 5).toNatClampNeg) + (sp_Mo_byStore w)) % 65536) x (rg (sp_Mo_bits w 20 5).toNatClampNeg))))]) [0, 1, 2, 3, 4, 5] rfl
      have hD9 := hD.sub (ws' := [(m0, .inr (3, [.ref mk, .ref mt, .int kd, .ref wo, .int wn, .ref re, .int (pc + 4), .int sta, .int dn, .int th, .ref ro, .ref aa, .ref si, .ref so, .ref la, .int (nI gd), .int (nI gl), .int (nI gt), .int (nI gr), .ref ip, .ref oq, .ref cp, .int ni, .int no])), (re, .inl (cI, 32, .inl (rg))), (aa, .inl (cI, 8001, .inl (af))), (si, .inl (cI, 8001, .inl (zf))), (so, .inl (cI, 8001, .inl (of))), (ro, .inl (cB, 90000, .inl (zwt rf (q + zN ((rg (sp_Mo_bits w 15 5).toNatClampNeg) + (sp_Mo_byStore w)) % 65536) x (rg (sp_Mo_bits w 20 5).toNatClampNeg))))]) [0, 1, 2, 3, 4, 5] rfl rfl
      exact zretv hx hb hr hlocks hS (zwt rf (q + zN ((rg (sp_Mo_bits w 15 5).toNatClampNeg) + (sp_Mo_byStore w)) % 65536) x (rg (sp_Mo_bits w 20 5).toNatClampNeg)) (by rw [hs]; exact rRep_write hR (by omega) e2 e3 (by omega) e5) rfl (by rw [hs]; exact hP9) (by rw [hs]; exact hD9) d_Mo_store_97
    · have hlt : x < k0 := z_nle' (by omega) h14
      refine lv_aload_n hx hb d_Mo_store_62 rfl (lv_at hl 4 rfl) ?_
      refine zget hE hK hP 0 rfl fd_Mo_23 rfl d_Mo_store_63 ?_
      refine lv_iload hx hb d_Mo_store_66 (lv_at hl 1 rfl) ?_
      refine lv_iload hx hb d_Mo_store_68 (lv_at hl 0 rfl) ?_
      refine lv_iadd hx hb d_Mo_store_70 ?_
      refine z_st (st' := [.int (nI ((q + zN ((rg (sp_Mo_bits w 15 5).toNatClampNeg) + (sp_Mo_byStore w)) % 65536) + x)), .ref ro]) (by rw [show (((nI (q + zN ((rg (sp_Mo_bits w 15 5).toNatClampNeg) + (sp_Mo_byStore w)) % 65536)) + (nI x)) : Int32) = nI ((q + zN ((rg (sp_Mo_bits w 15 5).toNatClampNeg) + (sp_Mo_byStore w)) % 65536) + x) from nI_add (q + zN ((rg (sp_Mo_bits w 15 5).toNatClampNeg) + (sp_Mo_byStore w)) % 65536) x]) ?_
      refine lv_iload hx hb d_Mo_store_71 (lv_at hl 2 rfl) ?_
      refine lv_bipush (v := 8) hx hb d_Mo_store_73 (by decide) ?_
      refine lv_iload hx hb d_Mo_store_75 (lv_at hl 0 rfl) ?_
      refine lv_imul hx hb d_Mo_store_77 ?_
      refine lv_ishr hx hb d_Mo_store_78 ?_
      refine lv_i2b (v := (((rg (sp_Mo_bits w 20 5).toNatClampNeg) : Int32) >>> ((8 * (nI x) : Int32) &&& 31) : Int32).toInt8.toInt32) hx hb d_Mo_store_79 rfl ?_
      refine va_bast hx hb hK hP hD hS 5 1 rfl rfl (vp_in_nI (by omega) (by omega)) d_Mo_store_80 (fun H locs hP hD hS => ?_)
      have hP : va_P D zC [(m0, .inr (3, [.ref mk, .ref mt, .int kd, .ref wo, .int wn, .ref re, .int pc, .int sta, .int dn, .int th, .ref ro, .ref aa, .ref si, .ref so, .ref la, .int (nI gd), .int (nI gl), .int (nI gt), .int (nI gr), .ref ip, .ref oq, .ref cp, .int ni, .int no])), (re, .inl (cI, 32, .inl (rg))), (aa, .inl (cI, 8001, .inl (af))), (si, .inl (cI, 8001, .inl (zf))), (so, .inl (cI, 8001, .inl (of))), (ro, .inl (cB, 90000, .inl (upd (zwt rf (q + zN ((rg (sp_Mo_bits w 15 5).toNatClampNeg) + (sp_Mo_byStore w)) % 65536) x (rg (sp_Mo_bits w 20 5).toNatClampNeg)) (nI ((q + zN ((rg (sp_Mo_bits w 15 5).toNatClampNeg) + (sp_Mo_byStore w)) % 65536) + x)).toNatClampNeg (vp_nar .byte ((((rg (sp_Mo_bits w 20 5).toNatClampNeg) : Int32) >>> ((8 * (nI x) : Int32) &&& 31) : Int32).toInt8.toInt32)))))] _ := hP
      have hD : va_D A [(m0, .inr (3, [.ref mk, .ref mt, .int kd, .ref wo, .int wn, .ref re, .int pc, .int sta, .int dn, .int th, .ref ro, .ref aa, .ref si, .ref so, .ref la, .int (nI gd), .int (nI gl), .int (nI gt), .int (nI gr), .ref ip, .ref oq, .ref cp, .int ni, .int no])), (re, .inl (cI, 32, .inl (rg))), (aa, .inl (cI, 8001, .inl (af))), (si, .inl (cI, 8001, .inl (zf))), (so, .inl (cI, 8001, .inl (of))), (ro, .inl (cB, 90000, .inl (upd (zwt rf (q + zN ((rg (sp_Mo_bits w 15 5).toNatClampNeg) + (sp_Mo_byStore w)) % 65536) x (rg (sp_Mo_bits w 20 5).toNatClampNeg)) (nI ((q + zN ((rg (sp_Mo_bits w 15 5).toNatClampNeg) + (sp_Mo_byStore w)) % 65536) + x)).toNatClampNeg (vp_nar .byte ((((rg (sp_Mo_bits w 20 5).toNatClampNeg) : Int32) >>> ((8 * (nI x) : Int32) &&& 31) : Int32).toInt8.toInt32)))))] := hD
      rw [show ((upd (zwt rf (q + zN ((rg (sp_Mo_bits w 15 5).toNatClampNeg) + (sp_Mo_byStore w)) % 65536) x (rg (sp_Mo_bits w 20 5).toNatClampNeg)) (nI ((q + zN ((rg (sp_Mo_bits w 15 5).toNatClampNeg) + (sp_Mo_byStore w)) % 65536) + x)).toNatClampNeg (vp_nar .byte ((((rg (sp_Mo_bits w 20 5).toNatClampNeg) : Int32) >>> ((8 * (nI x) : Int32) &&& 31) : Int32).toInt8.toInt32))) : Nat → Int32) = upd (zwt rf (q + zN ((rg (sp_Mo_bits w 15 5).toNatClampNeg) + (sp_Mo_byStore w)) % 65536) x (rg (sp_Mo_bits w 20 5).toNatClampNeg)) ((q + zN ((rg (sp_Mo_bits w 15 5).toNatClampNeg) + (sp_Mo_byStore w)) % 65536) + x) (((rg (sp_Mo_bits w 20 5).toNatClampNeg) >>> ((8 * nI x) &&& 31)).toInt8.toInt32) from by rw [nI_clamp (by omega), pk_vb]] at hP hD
      have hP : va_P D zC [(m0, .inr (3, [.ref mk, .ref mt, .int kd, .ref wo, .int wn, .ref re, .int pc, .int sta, .int dn, .int th, .ref ro, .ref aa, .ref si, .ref so, .ref la, .int (nI gd), .int (nI gl), .int (nI gt), .int (nI gr), .ref ip, .ref oq, .ref cp, .int ni, .int no])), (re, .inl (cI, 32, .inl (rg))), (aa, .inl (cI, 8001, .inl (af))), (si, .inl (cI, 8001, .inl (zf))), (so, .inl (cI, 8001, .inl (of))), (ro, .inl (cB, 90000, .inl (upd (zwt rf (q + zN ((rg (sp_Mo_bits w 15 5).toNatClampNeg) + (sp_Mo_byStore w)) % 65536) x (rg (sp_Mo_bits w 20 5).toNatClampNeg)) ((q + zN ((rg (sp_Mo_bits w 15 5).toNatClampNeg) + (sp_Mo_byStore w)) % 65536) + x) (((rg (sp_Mo_bits w 20 5).toNatClampNeg) >>> ((8 * nI x) &&& 31)).toInt8.toInt32))))] _ := hP
      have hD : va_D A [(m0, .inr (3, [.ref mk, .ref mt, .int kd, .ref wo, .int wn, .ref re, .int pc, .int sta, .int dn, .int th, .ref ro, .ref aa, .ref si, .ref so, .ref la, .int (nI gd), .int (nI gl), .int (nI gt), .int (nI gr), .ref ip, .ref oq, .ref cp, .int ni, .int no])), (re, .inl (cI, 32, .inl (rg))), (aa, .inl (cI, 8001, .inl (af))), (si, .inl (cI, 8001, .inl (zf))), (so, .inl (cI, 8001, .inl (of))), (ro, .inl (cB, 90000, .inl (upd (zwt rf (q + zN ((rg (sp_Mo_bits w 15 5).toNatClampNeg) + (sp_Mo_byStore w)) % 65536) x (rg (sp_Mo_bits w 20 5).toNatClampNeg)) ((q + zN ((rg (sp_Mo_bits w 15 5).toNatClampNeg) + (sp_Mo_byStore w)) % 65536) + x) (((rg (sp_Mo_bits w 20 5).toNatClampNeg) >>> ((8 * nI x) &&& 31)).toInt8.toInt32))))] := hD
      refine lv_iinc (k := 0) (v := (nI x) + 1) (lv' := [(6, .int ((nI x) + 1)), (5, .int (nI (q + zN ((rg (sp_Mo_bits w 15 5).toNatClampNeg) + (sp_Mo_byStore w)) % 65536))), (4, .int ((rg (sp_Mo_bits w 20 5).toNatClampNeg))), (3, .int (nI k0)), (0, .ref m0), (1, .int f), (2, .int w)]) hx hb d_Mo_store_81 hl rfl rfl (by decide) rfl (fun ls hl => ?_)
      refine lv_goto (tgt := 56) hx hb d_Mo_store_84 (by decide) ?_
      rw [nI_1] at hl
      rw [show ((upd (zwt rf (q + zN ((rg (sp_Mo_bits w 15 5).toNatClampNeg) + (sp_Mo_byStore w)) % 65536) x (rg (sp_Mo_bits w 20 5).toNatClampNeg)) ((q + zN ((rg (sp_Mo_bits w 15 5).toNatClampNeg) + (sp_Mo_byStore w)) % 65536) + x) (((rg (sp_Mo_bits w 20 5).toNatClampNeg) >>> ((8 * nI x) &&& 31)).toInt8.toInt32)) : Nat → Int32) = zwt rf (q + zN ((rg (sp_Mo_bits w 15 5).toNatClampNeg) + (sp_Mo_byStore w)) % 65536) (x + 1) (rg (sp_Mo_bits w 20 5).toNatClampNeg) from zwt_s rf (q + zN ((rg (sp_Mo_bits w 15 5).toNatClampNeg) + (sp_Mo_byStore w)) % 65536) x (rg (sp_Mo_bits w 20 5).toNatClampNeg)] at hP hD
      have hP : va_P D zC [(m0, .inr (3, [.ref mk, .ref mt, .int kd, .ref wo, .int wn, .ref re, .int pc, .int sta, .int dn, .int th, .ref ro, .ref aa, .ref si, .ref so, .ref la, .int (nI gd), .int (nI gl), .int (nI gt), .int (nI gr), .ref ip, .ref oq, .ref cp, .int ni, .int no])), (re, .inl (cI, 32, .inl (rg))), (aa, .inl (cI, 8001, .inl (af))), (si, .inl (cI, 8001, .inl (zf))), (so, .inl (cI, 8001, .inl (of))), (ro, .inl (cB, 90000, .inl (zwt rf (q + zN ((rg (sp_Mo_bits w 15 5).toNatClampNeg) + (sp_Mo_byStore w)) % 65536) (x + 1) (rg (sp_Mo_bits w 20 5).toNatClampNeg))))] _ := hP
      have hD : va_D A [(m0, .inr (3, [.ref mk, .ref mt, .int kd, .ref wo, .int wn, .ref re, .int pc, .int sta, .int dn, .int th, .ref ro, .ref aa, .ref si, .ref so, .ref la, .int (nI gd), .int (nI gl), .int (nI gt), .int (nI gr), .ref ip, .ref oq, .ref cp, .int ni, .int no])), (re, .inl (cI, 32, .inl (rg))), (aa, .inl (cI, 8001, .inl (af))), (si, .inl (cI, 8001, .inl (zf))), (so, .inl (cI, 8001, .inl (of))), (ro, .inl (cB, 90000, .inl (zwt rf (q + zN ((rg (sp_Mo_bits w 15 5).toNatClampNeg) + (sp_Mo_byStore w)) % 65536) (x + 1) (rg (sp_Mo_bits w 20 5).toNatClampNeg))))] := hD
      exact ih (j - 1) (x + 1) ls H locs 0 0 (by omega) ⟨⟨by omega, rfl, rfl⟩, hl, hP, hD, hS⟩
  · have e1 := (rRep_place hR ((rg (sp_Mo_bits w 15 5).toNatClampNeg) + (sp_Mo_byStore w)) (k := k0) hk1 (by omega)).2 hp
    refine z_st (st' := [.int ((-1))]) (by rw [show (((sp_Mo_place ((rg (sp_Mo_bits w 15 5).toNatClampNeg) + (sp_Mo_byStore w)) (nI k0) (nI gd) af zf of)) : Int32) = (-1) from e1]) ?_
    refine lv_istore (lv' := [(5, .int ((-1))), (4, .int (rg (sp_Mo_bits w 20 5).toNatClampNeg)), (3, .int (nI k0)), (0, .ref m0), (1, .int f), (2, .int w)]) hx hb d_Mo_store_40 hl (by decide) rfl (fun ls hl => ?_)
    refine lv_iload hx hb d_Mo_store_42 (lv_at hl 0 rfl) ?_
    refine lv_if_ge (tgt := 53) hx hb d_Mo_store_44 (by decide) (fun h15 => (show False by revert h15; decide).elim) (fun h15 => ?_)
    refine lv_aload_n hx hb d_Mo_store_47 rfl (lv_at hl 3 rfl) ?_
    refine lv_iconst (v := 2) hx hb d_Mo_store_48 (by decide) ?_
    refine zgov (wr := [(re, .inl (cI, 32, .inl (rg))), (ro, .inl (cB, 90000, .inl (rf))), (aa, .inl (cI, 8001, .inl (af))), (si, .inl (cI, 8001, .inl (zf))), (so, .inl (cI, 8001, .inl (of)))]) (zrunV (n := 1) (As := [.int 2]) (rest := []) hE (c_Mo_trap l D cI cB cJ _ 2 m0 mk mt kd wo wn re pc sta dn th ro aa si so la (nI gd) (nI gl) (nI gt) (nI gr) ip oq cp ni no) cb_Mo_trap lk_Mo_100 in_Mo_trap se_Mo_trap (zpreV (q0 := 2) hK hP hD rfl rfl rfl [2] rfl rfl rfl) ⟨Nat.le_of_ble_eq_true rfl, Nat.le_of_ble_eq_true rfl, Nat.le_of_ble_eq_true rfl, Nat.le_of_ble_eq_true rfl⟩ rfl hl.1 rfl (Nat.le_of_ble_eq_true rfl) d_Mo_store_49) hP hD hS hA [2] [0, 1, 3, 4, 5] rfl rfl rfl (by decide) (fun u18 H locs hq16 hP hD hS => ?_)
    clear hq16
    have hP : va_P D zC [(re, .inl (cI, 32, .inl (rg))), (ro, .inl (cB, 90000, .inl (rf))), (aa, .inl (cI, 8001, .inl (af))), (si, .inl (cI, 8001, .inl (zf))), (so, .inl (cI, 8001, .inl (of))), (m0, .inr (3, [.ref mk, .ref mt, .int kd, .ref wo, .int wn, .ref re, .int pc, .int ((sp_Mo_trap 2)), .int dn, .int th, .ref ro, .ref aa, .ref si, .ref so, .ref la, .int (nI gd), .int (nI gl), .int (nI gt), .int (nI gr), .ref ip, .ref oq, .ref cp, .int ni, .int no]))] _ := hP
    have hD : va_D A [(re, .inl (cI, 32, .inl (rg))), (ro, .inl (cB, 90000, .inl (rf))), (aa, .inl (cI, 8001, .inl (af))), (si, .inl (cI, 8001, .inl (zf))), (so, .inl (cI, 8001, .inl (of))), (m0, .inr (3, [.ref mk, .ref mt, .int kd, .ref wo, .int wn, .ref re, .int pc, .int ((sp_Mo_trap 2)), .int dn, .int th, .ref ro, .ref aa, .ref si, .ref so, .ref la, .int (nI gd), .int (nI gl), .int (nI gt), .int (nI gr), .ref ip, .ref oq, .ref cp, .int ni, .int no]))] := hD
    have hs : rSt M w k0 pc sta rg = (pc, ((sp_Mo_trap 2)), M) := by unfold rSt; rw [if_neg hp]; rfl
    have hP9 := hP.sub (ws' := [(m0, .inr (3, [.ref mk, .ref mt, .int kd, .ref wo, .int wn, .ref re, .int pc, .int ((sp_Mo_trap 2)), .int dn, .int th, .ref ro, .ref aa, .ref si, .ref so, .ref la, .int (nI gd), .int (nI gl), .int (nI gt), .int (nI gr), .ref ip, .ref oq, .ref cp, .int ni, .int no])), (re, .inl (cI, 32, .inl (rg))), (aa, .inl (cI, 8001, .inl (af))), (si, .inl (cI, 8001, .inl (zf))), (so, .inl (cI, 8001, .inl (of))), (ro, .inl (cB, 90000, .inl (rf)))]) [5, 0, 2, 3, 4, 1] rfl
    have hD9 := hD.sub (ws' := [(m0, .inr (3, [.ref mk, .ref mt, .int kd, .ref wo, .int wn, .ref re, .int pc, .int ((sp_Mo_trap 2)), .int dn, .int th, .ref ro, .ref aa, .ref si, .ref so, .ref la, .int (nI gd), .int (nI gl), .int (nI gt), .int (nI gr), .ref ip, .ref oq, .ref cp, .int ni, .int no])), (re, .inl (cI, 32, .inl (rg))), (aa, .inl (cI, 8001, .inl (af))), (si, .inl (cI, 8001, .inl (zf))), (so, .inl (cI, 8001, .inl (of))), (ro, .inl (cB, 90000, .inl (rf)))]) [5, 0, 2, 3, 4, 1] rfl rfl
    exact zretv hx hb hr hlocks hS rf (by rw [hs]; exact hR) rfl (by rw [hs]; exact hP9) (by rw [hs]; exact hD9) d_Mo_store_52
