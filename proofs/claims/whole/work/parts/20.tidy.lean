/-! decode rows -/
theorem d_Me_tidy_0 : decode b_Me_tidy 0 = .ok (.iconst 0, 1) := by decide +kernel
theorem d_Me_tidy_1 : decode b_Me_tidy 1 = .ok (.istore_n 2, 1) := by decide +kernel
theorem d_Me_tidy_2 : decode b_Me_tidy 2 = .ok (.iconst 1, 1) := by decide +kernel
theorem d_Me_tidy_3 : decode b_Me_tidy 3 = .ok (.istore_n 3, 1) := by decide +kernel
theorem d_Me_tidy_4 : decode b_Me_tidy 4 = .ok (.iload_n 3, 1) := by decide +kernel
theorem d_Me_tidy_5 : decode b_Me_tidy 5 = .ok (.aload_n 0, 1) := by decide +kernel
theorem d_Me_tidy_6 : decode b_Me_tidy 6 = .ok (.getfield 26, 3) := by decide +kernel
theorem d_Me_tidy_9 : decode b_Me_tidy 9 = .ok (.if_icmp .gt 62, 3) := by decide +kernel
theorem d_Me_tidy_12 : decode b_Me_tidy 12 = .ok (.aload_n 0, 1) := by decide +kernel
theorem d_Me_tidy_13 : decode b_Me_tidy 13 = .ok (.getfield 9, 3) := by decide +kernel
theorem d_Me_tidy_16 : decode b_Me_tidy 16 = .ok (.iload_n 3, 1) := by decide +kernel
theorem d_Me_tidy_17 : decode b_Me_tidy 17 = .ok (.iaload, 1) := by decide +kernel
theorem d_Me_tidy_18 : decode b_Me_tidy 18 = .ok (.iconst (-1), 1) := by decide +kernel
theorem d_Me_tidy_19 : decode b_Me_tidy 19 = .ok (.if_icmp .eq 46, 3) := by decide +kernel
theorem d_Me_tidy_22 : decode b_Me_tidy 22 = .ok (.aload_n 0, 1) := by decide +kernel
theorem d_Me_tidy_23 : decode b_Me_tidy 23 = .ok (.getfield 9, 3) := by decide +kernel
theorem d_Me_tidy_26 : decode b_Me_tidy 26 = .ok (.iload_n 3, 1) := by decide +kernel
theorem d_Me_tidy_27 : decode b_Me_tidy 27 = .ok (.iaload, 1) := by decide +kernel
theorem d_Me_tidy_28 : decode b_Me_tidy 28 = .ok (.invokestatic 42, 3) := by decide +kernel
theorem d_Me_tidy_31 : decode b_Me_tidy 31 = .ok (.istore 4, 2) := by decide +kernel
theorem d_Me_tidy_33 : decode b_Me_tidy 33 = .ok (.aload_n 0, 1) := by decide +kernel
theorem d_Me_tidy_34 : decode b_Me_tidy 34 = .ok (.getfield 19, 3) := by decide +kernel
theorem d_Me_tidy_37 : decode b_Me_tidy 37 = .ok (.aload_n 0, 1) := by decide +kernel
theorem d_Me_tidy_38 : decode b_Me_tidy 38 = .ok (.getfield 13, 3) := by decide +kernel
theorem d_Me_tidy_41 : decode b_Me_tidy 41 = .ok (.iload_n 3, 1) := by decide +kernel
theorem d_Me_tidy_42 : decode b_Me_tidy 42 = .ok (.iaload, 1) := by decide +kernel
theorem d_Me_tidy_43 : decode b_Me_tidy 43 = .ok (.aload_n 0, 1) := by decide +kernel
theorem d_Me_tidy_44 : decode b_Me_tidy 44 = .ok (.getfield 19, 3) := by decide +kernel
theorem d_Me_tidy_47 : decode b_Me_tidy 47 = .ok (.iload_n 2, 1) := by decide +kernel
theorem d_Me_tidy_48 : decode b_Me_tidy 48 = .ok (.iload 4, 2) := by decide +kernel
theorem d_Me_tidy_50 : decode b_Me_tidy 50 = .ok (.invokestatic 54, 3) := by decide +kernel
theorem d_Me_tidy_53 : decode b_Me_tidy 53 = .ok (.aload_n 0, 1) := by decide +kernel
theorem d_Me_tidy_54 : decode b_Me_tidy 54 = .ok (.getfield 13, 3) := by decide +kernel
theorem d_Me_tidy_57 : decode b_Me_tidy 57 = .ok (.iload_n 3, 1) := by decide +kernel
theorem d_Me_tidy_58 : decode b_Me_tidy 58 = .ok (.iload_n 2, 1) := by decide +kernel
theorem d_Me_tidy_59 : decode b_Me_tidy 59 = .ok (.iastore, 1) := by decide +kernel
theorem d_Me_tidy_60 : decode b_Me_tidy 60 = .ok (.iload_n 2, 1) := by decide +kernel
theorem d_Me_tidy_61 : decode b_Me_tidy 61 = .ok (.iload 4, 2) := by decide +kernel
theorem d_Me_tidy_63 : decode b_Me_tidy 63 = .ok (.iadd, 1) := by decide +kernel
theorem d_Me_tidy_64 : decode b_Me_tidy 64 = .ok (.istore_n 2, 1) := by decide +kernel
theorem d_Me_tidy_65 : decode b_Me_tidy 65 = .ok (.iinc 3 1, 3) := by decide +kernel
theorem d_Me_tidy_68 : decode b_Me_tidy 68 = .ok (.goto (-64), 3) := by decide +kernel
theorem d_Me_tidy_71 : decode b_Me_tidy 71 = .ok (.aload_n 0, 1) := by decide +kernel
theorem d_Me_tidy_72 : decode b_Me_tidy 72 = .ok (.iload_n 2, 1) := by decide +kernel
theorem d_Me_tidy_73 : decode b_Me_tidy 73 = .ok (.putfield 39, 3) := by decide +kernel
theorem d_Me_tidy_76 : decode b_Me_tidy 76 = .ok (.iconst 2, 1) := by decide +kernel
theorem d_Me_tidy_77 : decode b_Me_tidy 77 = .ok (.iload_n 2, 1) := by decide +kernel
theorem d_Me_tidy_78 : decode b_Me_tidy 78 = .ok (.iload_n 1, 1) := by decide +kernel
theorem d_Me_tidy_79 : decode b_Me_tidy 79 = .ok (.iadd, 1) := by decide +kernel
theorem d_Me_tidy_80 : decode b_Me_tidy 80 = .ok (.imul, 1) := by decide +kernel
theorem d_Me_tidy_81 : decode b_Me_tidy 81 = .ok (.istore_n 3, 1) := by decide +kernel
theorem d_Me_tidy_82 : decode b_Me_tidy 82 = .ok (.iload_n 3, 1) := by decide +kernel
theorem d_Me_tidy_83 : decode b_Me_tidy 83 = .ok (.aload_n 0, 1) := by decide +kernel
theorem d_Me_tidy_84 : decode b_Me_tidy 84 = .ok (.getfield 19, 3) := by decide +kernel
theorem d_Me_tidy_87 : decode b_Me_tidy 87 = .ok (.arraylength, 1) := by decide +kernel
theorem d_Me_tidy_88 : decode b_Me_tidy 88 = .ok (.if_icmp .le 22, 3) := by decide +kernel
theorem d_Me_tidy_91 : decode b_Me_tidy 91 = .ok (.aload_n 0, 1) := by decide +kernel
theorem d_Me_tidy_92 : decode b_Me_tidy 92 = .ok (.aload_n 0, 1) := by decide +kernel
theorem d_Me_tidy_93 : decode b_Me_tidy 93 = .ok (.getfield 19, 3) := by decide +kernel
theorem d_Me_tidy_96 : decode b_Me_tidy 96 = .ok (.ldc 66, 2) := by decide +kernel
theorem d_Me_tidy_98 : decode b_Me_tidy 98 = .ok (.iconst 2, 1) := by decide +kernel
theorem d_Me_tidy_99 : decode b_Me_tidy 99 = .ok (.iload_n 3, 1) := by decide +kernel
theorem d_Me_tidy_100 : decode b_Me_tidy 100 = .ok (.imul, 1) := by decide +kernel
theorem d_Me_tidy_101 : decode b_Me_tidy 101 = .ok (.invokestatic 67, 3) := by decide +kernel
theorem d_Me_tidy_104 : decode b_Me_tidy 104 = .ok (.invokestatic 73, 3) := by decide +kernel
theorem d_Me_tidy_107 : decode b_Me_tidy 107 = .ok (.putfield 19, 3) := by decide +kernel
theorem d_Me_tidy_110 : decode b_Me_tidy 110 = .ok (.return_, 1) := by decide +kernel

set_option maxHeartbeats 4000000 in
theorem c_Me_tidy (l : Launch) (D : va_G) (cI cB cJ : ClassId) (sz : Nat) (n0 : Int32) (h0 : Nat) (md : Nat) (bt : Nat) (lo : Nat) (nl : Nat) (sa : Nat) (ta : Nat) (fa : Nat) (pa : Nat) (pe : Nat) (ba : Nat) (rn : Nat) (sf : Nat → Int32) (tf : Nat → Int32) (pn : Nat) (pf : Nat → Int32) (M : MM) (uf : Nat → Int32) (w0 : Nat) (hR : cRep M md bt nl pe rn pn sf tf uf pf) (hro : n0 = nI w0) (hbr : bt + w0 ≤ 40000) : zMet l y_Me_tidy (zWs y_Me_tidy b_Me_tidy 5 (none)) { frames := 2, cells := tkc pn (bt + w0), slots := tks pn (bt + w0), locals := 82 } (zPc D (zT cI cB cJ) sz [(h0, .inr (1, [.int (nI md), .int (nI bt), .int (nI lo), .int (nI nl), .ref sa, .ref ta, .ref fa, .ref pa, .int (nI pe), .ref ba])), (sa, .inl (cI, rn, .inl (sf))), (ta, .inl (cI, rn, .inl (tf))), (pa, .inl (cB, pn, .inl (pf)))] [.ref h0, .int n0]) (zQv D (va_A [(h0, .inr (1, [.int (nI md), .int (nI bt), .int (nI lo), .int (nI nl), .ref sa, .ref ta, .ref fa, .ref pa, .int (nI pe), .ref ba])), (sa, .inl (cI, rn, .inl (sf))), (ta, .inl (cI, rn, .inl (tf))), (pa, .inl (cB, pn, .inl (pf)))] sz) (fun (U : (Nat × (Nat → Int32) × (Nat → Int32))) => cRep M md bt nl bt rn (tdl pn (bt + w0)) sf U.2.1 uf U.2.2) (fun _ => (tkc pn (bt + w0), tks pn (bt + w0))) (fun (U : (Nat × (Nat → Int32) × (Nat → Int32))) => [(h0, .inr (1, [.int (nI md), .int (nI bt), .int (nI lo), .int (nI nl), .ref sa, .ref ta, .ref fa, .ref U.1, .int (nI bt), .ref ba])), (sa, .inl (cI, rn, .inl (sf))), (ta, .inl (cI, rn, .inl (U.2.1))), (U.1, .inl (cB, (tdl pn (bt + w0)), .inl (U.2.2)))])) (va_A [(h0, .inr (1, [.int (nI md), .int (nI bt), .int (nI lo), .int (nI nl), .ref sa, .ref ta, .ref fa, .ref pa, .int (nI pe), .ref ba])), (sa, .inl (cI, rn, .inl (sf))), (ta, .inl (cI, rn, .inl (tf))), (pa, .inl (cB, pn, .inl (pf)))] sz) := by
  refine zstart (Qc := fun A => zQv D A (fun (U : (Nat × (Nat → Int32) × (Nat → Int32))) => cRep M md bt nl bt rn (tdl pn (bt + w0)) sf U.2.1 uf U.2.2) (fun _ => (tkc pn (bt + w0), tks pn (bt + w0))) (fun (U : (Nat × (Nat → Int32) × (Nat → Int32))) => [(h0, .inr (1, [.int (nI md), .int (nI bt), .int (nI lo), .int (nI nl), .ref sa, .ref ta, .ref fa, .ref U.1, .int (nI bt), .ref ba])), (sa, .inl (cI, rn, .inl (sf))), (ta, .inl (cI, rn, .inl (U.2.1))), (U.1, .inl (cB, (tdl pn (bt + w0)), .inl (U.2.2)))])) (by decide) (Nat.le_of_ble_eq_true rfl) ?_
  intro p e s m below meth c ls A hE hr hlocks hin hsz hK hP hD hS hA hAe hl
  have hx := hE.1
  have hb := hE.2.1
  have hown := hE.2.2.2.1
  have hw := hE.2.2.2.2
  have hl : lv_has ls 5 [(0, .ref h0), (1, .int n0)] := hl
  obtain ⟨st, g1, g2, g3⟩ := hR.2.2.2.2.2.2.2.2.2.2.2.2.2
  have ht0 : tInv M pn st 1 tf pf := ⟨fun j z hj h => absurd (hR.1.2.2.1 j z hj).1 (by omega), fun j z hj _ => ⟨(g1 j z hj).1, fun i hi => g3 j z i hj hi⟩, hR.2.2.2.2.2.2.2.2.2.1⟩
  have hmd := hR.1.1
  have hmd2 := hR.2.1
  have hmr := hR.2.2.2.2.1
  have hrn := hR.2.2.2.2.2.1
  have hpn := hR.2.2.2.2.2.2.2.2.1
  have hbp := cRep_bt hR
  have hpe := hR.2.2.2.2.2.2.1
  refine lv_iconst (v := 0) hx hb d_Me_tidy_0 (by decide) ?_
  refine lv_istore_n (lv' := [(2, .int 0), (0, .ref h0), (1, .int n0)]) hx hb d_Me_tidy_1 rfl hl (by decide) rfl (fun ls hl => ?_)
  refine lv_iconst (v := 1) hx hb d_Me_tidy_2 (by decide) ?_
  refine lv_istore_n (lv' := [(3, .int 1), (2, .int 0), (0, .ref h0), (1, .int n0)]) hx hb d_Me_tidy_3 rfl hl (by decide) rfl (fun ls hl => ?_)
  refine zloopH (σ := (Nat × (Nat → Int32) × (Nat → Int32))) (fun j x ls H locs cells slots => (x.1 + j = md + 1 ∧ 1 ≤ x.1 ∧ tInv M pn st x.1 x.2.1 x.2.2 ∧ cells = 0 ∧ slots = 0) ∧ lv_has ls 5 [(3, .int (nI x.1)), (2, .int (nI (mSum (mSz M) (x.1 - 1)))), (0, .ref h0), (1, .int n0)] ∧ va_P D zC [(h0, .inr (1, [.int (nI md), .int (nI bt), .int (nI lo), .int (nI nl), .ref sa, .ref ta, .ref fa, .ref pa, .int (nI pe), .ref ba])), (sa, .inl (cI, rn, .inl (sf))), (ta, .inl (cI, rn, .inl (x.2.1))), (pa, .inl (cB, pn, .inl (x.2.2)))] H ∧ va_D A [(h0, .inr (1, [.int (nI md), .int (nI bt), .int (nI lo), .int (nI nl), .ref sa, .ref ta, .ref fa, .ref pa, .int (nI pe), .ref ba])), (sa, .inl (cI, rn, .inl (sf))), (ta, .inl (cI, rn, .inl (x.2.1))), (pa, .inl (cB, pn, .inl (x.2.2)))] ∧ va_S A s.heap H locs) (fun j x ls H locs cells slots hI ih => ?_) md (1, tf, pf) ls ⟨⟨by show 1 + md = md + 1; omega, Nat.le_refl _, ht0, rfl, rfl⟩, hl, hP, hD, hS⟩
  obtain ⟨k, t2, p2⟩ := x
  obtain ⟨⟨hj, hk1, ht, rfl, rfl⟩, hl, hP, hD, hS⟩ := hI
  dsimp only at hj hk1 ht
  have hl : lv_has ls 5 [(3, .int (nI k)), (2, .int (nI (mSum (mSz M) (k - 1)))), (0, .ref h0), (1, .int n0)] := hl
  have hP : va_P D zC [(h0, .inr (1, [.int (nI md), .int (nI bt), .int (nI lo), .int (nI nl), .ref sa, .ref ta, .ref fa, .ref pa, .int (nI pe), .ref ba])), (sa, .inl (cI, rn, .inl (sf))), (ta, .inl (cI, rn, .inl (t2))), (pa, .inl (cB, pn, .inl (p2)))] _ := hP
  have hD : va_D A [(h0, .inr (1, [.int (nI md), .int (nI bt), .int (nI lo), .int (nI nl), .ref sa, .ref ta, .ref fa, .ref pa, .int (nI pe), .ref ba])), (sa, .inl (cI, rn, .inl (sf))), (ta, .inl (cI, rn, .inl (t2))), (pa, .inl (cB, pn, .inl (p2)))] := hD
  refine lv_iload_n hx hb d_Me_tidy_4 rfl (lv_at hl 0 rfl) ?_
  refine lv_aload_n hx hb d_Me_tidy_5 rfl (lv_at hl 2 rfl) ?_
  refine zget hE hK hP 0 rfl fd_Me_26 rfl d_Me_tidy_6 ?_
  refine lv_icmp_gt (tgt := 71) hx hb d_Me_tidy_9 (by decide) (fun h1 => ?_) (fun h1 => ?_)
  · have hkk : k = md + 1 := by have q : ¬ k ≤ md := fun q => absurd h1 (nI_nlt q (by omega)); omega
    subst hkk
    have hend : mSum (mSz M) (md + 1 - 1) = bt := by rw [hR.2.2.1, hR.1.2.2.2.1, ← hmd2]; rfl
    rw [hend] at hl
    have hl : lv_has ls 5 [(3, .int (nI (md + 1))), (2, .int (nI bt)), (0, .ref h0), (1, .int n0)] := hl
    have hR2 := cRep_tidy hR ht
    refine lv_aload_n hx hb d_Me_tidy_71 rfl (lv_at hl 2 rfl) ?_
    refine lv_iload_n hx hb d_Me_tidy_72 rfl (lv_at hl 1 rfl) ?_
    refine zput (v := .int (nI bt)) hE hK hP hD hS 0 rfl fd_Me_39 ft_Me_8 rfl rfl (Nat.le_of_ble_eq_true rfl) d_Me_tidy_73 (fun H locs hP hD hS => ?_)
    have hP : va_P D zC [(h0, .inr (1, [.int (nI md), .int (nI bt), .int (nI lo), .int (nI nl), .ref sa, .ref ta, .ref fa, .ref pa, .int (nI bt), .ref ba])), (sa, .inl (cI, rn, .inl (sf))), (ta, .inl (cI, rn, .inl (t2))), (pa, .inl (cB, pn, .inl (p2)))] _ := hP
    have hD : va_D A [(h0, .inr (1, [.int (nI md), .int (nI bt), .int (nI lo), .int (nI nl), .ref sa, .ref ta, .ref fa, .ref pa, .int (nI bt), .ref ba])), (sa, .inl (cI, rn, .inl (sf))), (ta, .inl (cI, rn, .inl (t2))), (pa, .inl (cB, pn, .inl (p2)))] := hD
    refine lv_iconst (v := 2) hx hb d_Me_tidy_76 (by decide) ?_
    refine lv_iload_n hx hb d_Me_tidy_77 rfl (lv_at hl 1 rfl) ?_
    refine lv_iload_n hx hb d_Me_tidy_78 rfl (lv_at hl 3 rfl) ?_
    refine lv_iadd hx hb d_Me_tidy_79 ?_
    refine z_st (st' := [.int (nI (bt + w0)), .int 2]) (by rw [show (((nI bt) + n0) : Int32) = nI (bt + w0) from by rw [hro]; exact nI_add _ _]) ?_
    refine lv_imul hx hb d_Me_tidy_80 ?_
    refine z_st (st' := [.int (nI (2 * (bt + w0)))]) (by rw [show ((2 * (nI (bt + w0))) : Int32) = nI (2 * (bt + w0)) from pk_mul 2 _]) ?_
    refine lv_istore_n (lv' := [(3, .int (nI (2 * (bt + w0)))), (2, .int (nI bt)), (0, .ref h0), (1, .int n0)]) hx hb d_Me_tidy_81 rfl hl (by decide) rfl (fun ls hl => ?_)
    refine lv_iload_n hx hb d_Me_tidy_82 rfl (lv_at hl 0 rfl) ?_
    refine lv_aload_n hx hb d_Me_tidy_83 rfl (lv_at hl 2 rfl) ?_
    refine zget hE hK hP 0 rfl fd_Me_19 rfl d_Me_tidy_84 ?_
    refine va_alen (v := nI pn) hx hb hK hP 3 1 rfl rfl rfl d_Me_tidy_87 ?_
    refine lv_icmp_le (tgt := 110) hx hb d_Me_tidy_88 (by decide) (fun h2 => ?_) (fun h2 => ?_)
    · have hle : 2 * (bt + w0) ≤ pn := Nat.not_lt.mp (z_le' (by omega) h2)
      have hP9 := hP.sub (ws' := [(h0, .inr (1, [.int (nI md), .int (nI bt), .int (nI lo), .int (nI nl), .ref sa, .ref ta, .ref fa, .ref pa, .int (nI bt), .ref ba])), (sa, .inl (cI, rn, .inl (sf))), (ta, .inl (cI, rn, .inl (t2))), (pa, .inl (cB, pn, .inl (p2)))]) [0, 1, 2, 3] rfl
      have hD9 := hD.sub (ws' := [(h0, .inr (1, [.int (nI md), .int (nI bt), .int (nI lo), .int (nI nl), .ref sa, .ref ta, .ref fa, .ref pa, .int (nI bt), .ref ba])), (sa, .inl (cI, rn, .inl (sf))), (ta, .inl (cI, rn, .inl (t2))), (pa, .inl (cB, pn, .inl (p2)))]) [0, 1, 2, 3] rfl rfl
      exact zretv hx hb hr hlocks hS (pa, t2, p2) (by unfold tdl; rw [if_pos hle]; exact hR2) (by unfold tkc tks; rw [if_pos hle, if_pos hle]) (by unfold tdl; rw [if_pos hle]; exact hP9) (by unfold tdl; rw [if_pos hle]; exact hD9) d_Me_tidy_110
    · have hgt : ¬ 2 * (bt + w0) ≤ pn := fun q => h2 (nI_le q (by omega))
      refine lv_aload_n hx hb d_Me_tidy_91 rfl (lv_at hl 2 rfl) ?_
      refine lv_aload_n hx hb d_Me_tidy_92 rfl (lv_at hl 2 rfl) ?_
      refine zget hE hK hP 0 rfl fd_Me_19 rfl d_Me_tidy_93 ?_
      refine lv_ldc (v := 80000) hx hb hown (hw _ kc_Me_66) d_Me_tidy_96 ?_
      refine lv_iconst (v := 2) hx hb d_Me_tidy_98 (by decide) ?_
      refine lv_iload_n hx hb d_Me_tidy_99 rfl (lv_at hl 0 rfl) ?_
      refine lv_imul hx hb d_Me_tidy_100 ?_
      refine z_st (st' := [.int (nI (2 * (2 * (bt + w0)))), .int 80000, .ref pa, .ref h0]) (by rw [show ((2 * (nI (2 * (bt + w0)))) : Int32) = nI (2 * (2 * (bt + w0))) from pk_mul 2 _]) ?_
      refine va_mmin (R := { frames := 2, cells := tkc pn (bt + w0), slots := tks pn (bt + w0), locals := 82 }) hx hb (hE.2.2.1.trans hl.1.symm) hown (hw _ ml_Me_67) (hw _ mm_min_st) (hw _ mm_ini) (hw _ mm_min_code) (by exact Nat.le_of_ble_eq_true rfl) (by exact Nat.le_of_ble_eq_true rfl) (Nat.zero_le _) (Nat.zero_le _) d_Me_tidy_101 ?_
      refine z_st (st' := [.int (nI (min 80000 (2 * (2 * (bt + w0))))), .ref pa, .ref h0]) (by rw [show ((if (nI (2 * (2 * (bt + w0)))) < 80000 then (nI (2 * (2 * (bt + w0)))) else 80000) : Int32) = nI (min 80000 (2 * (2 * (bt + w0)))) from z_min (a := 80000) (by omega) (by omega)]) ?_
      refine zgor (wr := [(h0, .inr (1, [.int (nI md), .int (nI bt), .int (nI lo), .int (nI nl), .ref sa, .ref ta, .ref fa, .ref pa, .int (nI bt), .ref ba])), (sa, .inl (cI, rn, .inl (sf))), (ta, .inl (cI, rn, .inl (t2)))]) (zrunS (n := 2) (As := [.ref pa, .int (nI (min 80000 (2 * (2 * (bt + w0)))))]) (rest := [.ref h0]) hE (c_Ar_copyOfB l D cI cB cJ _ pa (nI (min 80000 (2 * (2 * (bt + w0))))) pn p2 (min 80000 (2 * (2 * (bt + w0)))) rfl (by omega) (by omega) ht.2.2) cb_Ar_copyOfB lk_Me_73 st_Ar_copyOfB (zpreS hK hP hD [3] rfl rfl rfl) ⟨Nat.le_of_ble_eq_true rfl, Nat.le_of_ble_eq_true rfl, by show 0 + 1 ≤ tkc pn (bt + w0); unfold tkc; rw [if_neg hgt]; exact Nat.le_refl _, by show 0 + min 80000 (2 * (2 * (bt + w0))) ≤ tks pn (bt + w0); unfold tks tdl; rw [if_neg hgt, if_neg hgt]; omega⟩ rfl hl.1 rfl (Nat.le_of_ble_eq_true rfl) d_Me_tidy_104) hP hD hS hA [3] [0, 1, 2] rfl rfl rfl (by decide) (fun r4 u5 H locs hq3 hP hD hS => ?_)
      subst hq3
      have hP : va_P D zC [(h0, .inr (1, [.int (nI md), .int (nI bt), .int (nI lo), .int (nI nl), .ref sa, .ref ta, .ref fa, .ref pa, .int (nI bt), .ref ba])), (sa, .inl (cI, rn, .inl (sf))), (ta, .inl (cI, rn, .inl (t2))), (pa, .inl (cB, pn, .inl (p2))), (u5, .inl (cB, (min 80000 (2 * (2 * (bt + w0)))), .inl (va_cpy p2 (fun _ => 0) 0 0 pn)))] _ := hP
      have hD : va_D A [(h0, .inr (1, [.int (nI md), .int (nI bt), .int (nI lo), .int (nI nl), .ref sa, .ref ta, .ref fa, .ref pa, .int (nI bt), .ref ba])), (sa, .inl (cI, rn, .inl (sf))), (ta, .inl (cI, rn, .inl (t2))), (pa, .inl (cB, pn, .inl (p2))), (u5, .inl (cB, (min 80000 (2 * (2 * (bt + w0)))), .inl (va_cpy p2 (fun _ => 0) 0 0 pn)))] := hD
      refine zput (v := .ref u5) hE hK hP hD hS 0 rfl fd_Me_19 ft_Me_7 rfl rfl (Nat.le_of_ble_eq_true rfl) d_Me_tidy_107 (fun H locs hP hD hS => ?_)
      have hP : va_P D zC [(h0, .inr (1, [.int (nI md), .int (nI bt), .int (nI lo), .int (nI nl), .ref sa, .ref ta, .ref fa, .ref u5, .int (nI bt), .ref ba])), (sa, .inl (cI, rn, .inl (sf))), (ta, .inl (cI, rn, .inl (t2))), (pa, .inl (cB, pn, .inl (p2))), (u5, .inl (cB, (min 80000 (2 * (2 * (bt + w0)))), .inl (va_cpy p2 (fun _ => 0) 0 0 pn)))] _ := hP
      have hD : va_D A [(h0, .inr (1, [.int (nI md), .int (nI bt), .int (nI lo), .int (nI nl), .ref sa, .ref ta, .ref fa, .ref u5, .int (nI bt), .ref ba])), (sa, .inl (cI, rn, .inl (sf))), (ta, .inl (cI, rn, .inl (t2))), (pa, .inl (cB, pn, .inl (p2))), (u5, .inl (cB, (min 80000 (2 * (2 * (bt + w0)))), .inl (va_cpy p2 (fun _ => 0) 0 0 pn)))] := hD
      have hP9 := hP.sub (ws' := [(h0, .inr (1, [.int (nI md), .int (nI bt), .int (nI lo), .int (nI nl), .ref sa, .ref ta, .ref fa, .ref u5, .int (nI bt), .ref ba])), (sa, .inl (cI, rn, .inl (sf))), (ta, .inl (cI, rn, .inl (t2))), (u5, .inl (cB, (min 80000 (2 * (2 * (bt + w0)))), .inl (va_cpy p2 (fun _ => 0) 0 0 pn)))]) [0, 1, 2, 4] rfl
      have hD9 := hD.sub (ws' := [(h0, .inr (1, [.int (nI md), .int (nI bt), .int (nI lo), .int (nI nl), .ref sa, .ref ta, .ref fa, .ref u5, .int (nI bt), .ref ba])), (sa, .inl (cI, rn, .inl (sf))), (ta, .inl (cI, rn, .inl (t2))), (u5, .inl (cB, (min 80000 (2 * (2 * (bt + w0)))), .inl (va_cpy p2 (fun _ => 0) 0 0 pn)))]) [0, 1, 2, 4] rfl rfl
      exact zretv hx hb hr hlocks hS (u5, t2, va_cpy p2 (fun _ => 0) 0 0 pn) (by unfold tdl; rw [if_neg hgt]; exact cRep_pool hR2 (by omega) (by omega)) (by unfold tkc tks tdl; rw [if_neg hgt, if_neg hgt, if_neg hgt]; show (1, _) = (0 + 1, 0 + _); simp) (by unfold tdl; rw [if_neg hgt]; exact hP9) (by unfold tdl; rw [if_neg hgt]; exact hD9) d_Me_tidy_110
  · have hkm : k ≤ md := Nat.not_lt.mp (fun q => absurd (nI_lt q (by omega)) h1)
    refine lv_aload_n hx hb d_Me_tidy_12 rfl (lv_at hl 2 rfl) ?_
    refine zget hE hK hP 0 rfl fd_Me_9 rfl d_Me_tidy_13 ?_
    refine lv_iload_n hx hb d_Me_tidy_16 rfl (lv_at hl 0 rfl) ?_
    refine va_iald hx hb hK hP 1 0 rfl rfl (vp_in_nI (by omega) (by omega)) d_Me_tidy_17 ?_
    refine z_st (st' := [.int (sf k)]) (by rw [show ((sf (nI k).toNatClampNeg) : Int32) = sf k from by rw [nI_clamp (by omega)]]) ?_
    refine lv_iconst (v := (-1)) hx hb d_Me_tidy_18 (by decide) ?_
    refine lv_icmp_eq (tgt := 65) hx hb d_Me_tidy_19 (by decide) (fun h6 => ?_) (fun h6 => ?_)
    · have hnone : mSz M k = none := (cRep_sz hR hk1 hkm).mp h6
      refine lv_iinc (k := 0) (v := (nI k) + 1) (lv' := [(3, .int ((nI k) + 1)), (2, .int (nI (mSum (mSz M) (k - 1)))), (0, .ref h0), (1, .int n0)]) hx hb d_Me_tidy_65 hl rfl rfl (by decide) rfl (fun ls hl => ?_)
      refine lv_goto (tgt := 4) hx hb d_Me_tidy_68 (by decide) ?_
      rw [nI_1] at hl
      rw [← mSum_skip hk1 hnone] at hl
      have hl := lv_sub (l' := [(3, .int (nI (k + 1))), (2, .int (nI (mSum (mSz M) k))), (0, .ref h0), (1, .int n0)]) hl [0, 1, 2, 3] rfl
      exact ih (j - 1) (k + 1, t2, p2) ls H locs 0 0 (by omega) ⟨⟨by show k + 1 + (j - 1) = md + 1; omega, by show 1 ≤ k + 1; omega, tInv_skip ht hnone, rfl, rfl⟩, hl, hP, hD, hS⟩
    · obtain ⟨z, hz⟩ : ∃ z, mSz M k = some z := by cases e : mSz M k with | none => exact absurd ((cRep_sz hR hk1 hkm).mpr e) h6 | some z => exact ⟨z, rfl⟩
      obtain ⟨a1, a2, a3, a4, -, a9, a10, a11⟩ := cRep_at hR hz
      have hsk := (g1 k z hz).2.1
      have hin := cRep_in hR hz
      have hsz2 := (g1 k z hz).2.2
      have hu0 : z = 0 → up4 z = 0 := fun q => by rw [q]; rfl
      have hsu : st k + up4 z ≤ pn := (Nat.eq_zero_or_pos z).elim (fun c => by rw [hu0 c]; omega) (fun c => by have := hsz2 c; omega)
      refine lv_aload_n hx hb d_Me_tidy_22 rfl (lv_at hl 2 rfl) ?_
      refine zget hE hK hP 0 rfl fd_Me_9 rfl d_Me_tidy_23 ?_
      refine lv_iload_n hx hb d_Me_tidy_26 rfl (lv_at hl 0 rfl) ?_
      refine va_iald hx hb hK hP 1 0 rfl rfl (vp_in_nI (by omega) (by omega)) d_Me_tidy_27 ?_
      refine z_st (st' := [.int (nI z)]) (by rw [show ((sf (nI k).toNatClampNeg) : Int32) = nI z from by rw [nI_clamp (by omega)]; exact a3]) ?_
      refine zgoi (wr := [(h0, .inr (1, [.int (nI md), .int (nI bt), .int (nI lo), .int (nI nl), .ref sa, .ref ta, .ref fa, .ref pa, .int (nI pe), .ref ba])), (sa, .inl (cI, rn, .inl (sf))), (ta, .inl (cI, rn, .inl (t2))), (pa, .inl (cB, pn, .inl (p2)))]) (zrunS (n := 1) (As := [.int (nI z)]) (rest := []) hE (c_Me_roundedUp l D _ _ (nI z)) cb_Me_roundedUp lk_Me_42 st_Me_roundedUp (zpreS hK hP hD [] rfl rfl rfl) ⟨Nat.le_of_ble_eq_true rfl, Nat.le_of_ble_eq_true rfl, Nat.le_of_ble_eq_true rfl, Nat.le_of_ble_eq_true rfl⟩ rfl hl.1 rfl (Nat.le_of_ble_eq_true rfl) d_Me_tidy_28) hP hD hS hA [] [0, 1, 2, 3] rfl rfl rfl (by decide) (fun r8 u9 H locs hq7 hP hD hS => ?_)
      subst hq7
      have hP : va_P D zC [(h0, .inr (1, [.int (nI md), .int (nI bt), .int (nI lo), .int (nI nl), .ref sa, .ref ta, .ref fa, .ref pa, .int (nI pe), .ref ba])), (sa, .inl (cI, rn, .inl (sf))), (ta, .inl (cI, rn, .inl (t2))), (pa, .inl (cB, pn, .inl (p2)))] _ := hP
      have hD : va_D A [(h0, .inr (1, [.int (nI md), .int (nI bt), .int (nI lo), .int (nI nl), .ref sa, .ref ta, .ref fa, .ref pa, .int (nI pe), .ref ba])), (sa, .inl (cI, rn, .inl (sf))), (ta, .inl (cI, rn, .inl (t2))), (pa, .inl (cB, pn, .inl (p2)))] := hD
      refine z_st (st' := [.int (nI (up4 z))]) (by rw [show ((sp_Me_roundedUp (nI z)) : Int32) = nI (up4 z) from up4_c z (by omega)]) ?_
      refine lv_istore (lv' := [(4, .int (nI (up4 z))), (3, .int (nI k)), (2, .int (nI (mSum (mSz M) (k - 1)))), (0, .ref h0), (1, .int n0)]) hx hb d_Me_tidy_31 hl (by decide) rfl (fun ls hl => ?_)
      refine lv_aload_n hx hb d_Me_tidy_33 rfl (lv_at hl 3 rfl) ?_
      refine zget hE hK hP 0 rfl fd_Me_19 rfl d_Me_tidy_34 ?_
      refine lv_aload_n hx hb d_Me_tidy_37 rfl (lv_at hl 3 rfl) ?_
      refine zget hE hK hP 0 rfl fd_Me_13 rfl d_Me_tidy_38 ?_
      refine lv_iload_n hx hb d_Me_tidy_41 rfl (lv_at hl 1 rfl) ?_
      refine va_iald hx hb hK hP 2 0 rfl rfl (vp_in_nI (by omega) (by omega)) d_Me_tidy_42 ?_
      refine z_st (st' := [.int (nI (st k)), .ref pa]) (by rw [show ((t2 (nI k).toNatClampNeg) : Int32) = nI (st k) from by rw [nI_clamp (by omega)]; exact (ht.2.1 k z hz (Nat.le_refl _)).1]) ?_
      refine lv_aload_n hx hb d_Me_tidy_43 rfl (lv_at hl 3 rfl) ?_
      refine zget hE hK hP 0 rfl fd_Me_19 rfl d_Me_tidy_44 ?_
      refine lv_iload_n hx hb d_Me_tidy_47 rfl (lv_at hl 2 rfl) ?_
      refine lv_iload hx hb d_Me_tidy_48 (lv_at hl 0 rfl) ?_
      refine va_copyi (R := { frames := 2, cells := tkc pn (bt + w0), slots := tks pn (bt + w0), locals := 82 }) (ty := .byte) (rest := []) hx hb (hE.2.2.1.trans hl.1.symm) hown (hw _ sl_Me) (hw _ sy_nat) (hw _ sy_st) (hw _ sy_ini) hK hP hD hS 3 3 1 1 rfl rfl rfl rfl rfl (nI_pos (n := st k) (by omega)) (nI_pos (n := mSum (mSz M) (k - 1)) (by omega)) (nI_pos (n := up4 z) (by omega)) (by rw [nI_clamp (by omega), nI_clamp (by omega)]; omega) (by rw [nI_clamp (by omega), nI_clamp (by omega)]; omega) (fun i hi => by rw [nI_clamp (by omega)] at hi ⊢; exact ht.2.2 _ (by omega)) (by exact Nat.le_of_ble_eq_true rfl) (by exact Nat.le_of_ble_eq_true rfl) d_Me_tidy_50 (fun H locs hP hD hS => ?_)
      have hP : va_P D zC [(h0, .inr (1, [.int (nI md), .int (nI bt), .int (nI lo), .int (nI nl), .ref sa, .ref ta, .ref fa, .ref pa, .int (nI pe), .ref ba])), (sa, .inl (cI, rn, .inl (sf))), (ta, .inl (cI, rn, .inl (t2))), (pa, .inl (cB, pn, .inl (va_cpy p2 p2 (nI (st k)).toNatClampNeg (nI (mSum (mSz M) (k - 1))).toNatClampNeg (nI (up4 z)).toNatClampNeg)))] _ := hP
      have hD : va_D A [(h0, .inr (1, [.int (nI md), .int (nI bt), .int (nI lo), .int (nI nl), .ref sa, .ref ta, .ref fa, .ref pa, .int (nI pe), .ref ba])), (sa, .inl (cI, rn, .inl (sf))), (ta, .inl (cI, rn, .inl (t2))), (pa, .inl (cB, pn, .inl (va_cpy p2 p2 (nI (st k)).toNatClampNeg (nI (mSum (mSz M) (k - 1))).toNatClampNeg (nI (up4 z)).toNatClampNeg)))] := hD
      rw [show ((va_cpy p2 p2 (nI (st k)).toNatClampNeg (nI (mSum (mSz M) (k - 1))).toNatClampNeg (nI (up4 z)).toNatClampNeg) : Nat → Int32) = va_cpy p2 p2 (st k) (mSum (mSz M) (k - 1)) (up4 z) from by rw [nI_clamp (by omega), nI_clamp (by omega), nI_clamp (by omega)]] at hP hD
      have hP : va_P D zC [(h0, .inr (1, [.int (nI md), .int (nI bt), .int (nI lo), .int (nI nl), .ref sa, .ref ta, .ref fa, .ref pa, .int (nI pe), .ref ba])), (sa, .inl (cI, rn, .inl (sf))), (ta, .inl (cI, rn, .inl (t2))), (pa, .inl (cB, pn, .inl (va_cpy p2 p2 (st k) (mSum (mSz M) (k - 1)) (up4 z))))] _ := hP
      have hD : va_D A [(h0, .inr (1, [.int (nI md), .int (nI bt), .int (nI lo), .int (nI nl), .ref sa, .ref ta, .ref fa, .ref pa, .int (nI pe), .ref ba])), (sa, .inl (cI, rn, .inl (sf))), (ta, .inl (cI, rn, .inl (t2))), (pa, .inl (cB, pn, .inl (va_cpy p2 p2 (st k) (mSum (mSz M) (k - 1)) (up4 z))))] := hD
      refine lv_aload_n hx hb d_Me_tidy_53 rfl (lv_at hl 3 rfl) ?_
      refine zget hE hK hP 0 rfl fd_Me_13 rfl d_Me_tidy_54 ?_
      refine lv_iload_n hx hb d_Me_tidy_57 rfl (lv_at hl 1 rfl) ?_
      refine lv_iload_n hx hb d_Me_tidy_58 rfl (lv_at hl 2 rfl) ?_
      refine va_iast hx hb hK hP hD hS 2 0 rfl rfl (vp_in_nI (by omega) (by omega)) d_Me_tidy_59 (fun H locs hP hD hS => ?_)
      have hP : va_P D zC [(h0, .inr (1, [.int (nI md), .int (nI bt), .int (nI lo), .int (nI nl), .ref sa, .ref ta, .ref fa, .ref pa, .int (nI pe), .ref ba])), (sa, .inl (cI, rn, .inl (sf))), (ta, .inl (cI, rn, .inl (upd t2 (nI k).toNatClampNeg (nI (mSum (mSz M) (k - 1)))))), (pa, .inl (cB, pn, .inl (va_cpy p2 p2 (st k) (mSum (mSz M) (k - 1)) (up4 z))))] _ := hP
      have hD : va_D A [(h0, .inr (1, [.int (nI md), .int (nI bt), .int (nI lo), .int (nI nl), .ref sa, .ref ta, .ref fa, .ref pa, .int (nI pe), .ref ba])), (sa, .inl (cI, rn, .inl (sf))), (ta, .inl (cI, rn, .inl (upd t2 (nI k).toNatClampNeg (nI (mSum (mSz M) (k - 1)))))), (pa, .inl (cB, pn, .inl (va_cpy p2 p2 (st k) (mSum (mSz M) (k - 1)) (up4 z))))] := hD
      rw [show ((upd t2 (nI k).toNatClampNeg (nI (mSum (mSz M) (k - 1)))) : Nat → Int32) = upd t2 k (nI (mSum (mSz M) (k - 1))) from by rw [nI_clamp (by omega)]] at hP hD
      have hP : va_P D zC [(h0, .inr (1, [.int (nI md), .int (nI bt), .int (nI lo), .int (nI nl), .ref sa, .ref ta, .ref fa, .ref pa, .int (nI pe), .ref ba])), (sa, .inl (cI, rn, .inl (sf))), (ta, .inl (cI, rn, .inl (upd t2 k (nI (mSum (mSz M) (k - 1)))))), (pa, .inl (cB, pn, .inl (va_cpy p2 p2 (st k) (mSum (mSz M) (k - 1)) (up4 z))))] _ := hP
      have hD : va_D A [(h0, .inr (1, [.int (nI md), .int (nI bt), .int (nI lo), .int (nI nl), .ref sa, .ref ta, .ref fa, .ref pa, .int (nI pe), .ref ba])), (sa, .inl (cI, rn, .inl (sf))), (ta, .inl (cI, rn, .inl (upd t2 k (nI (mSum (mSz M) (k - 1)))))), (pa, .inl (cB, pn, .inl (va_cpy p2 p2 (st k) (mSum (mSz M) (k - 1)) (up4 z))))] := hD
      refine lv_iload_n hx hb d_Me_tidy_60 rfl (lv_at hl 2 rfl) ?_
      refine lv_iload hx hb d_Me_tidy_61 (lv_at hl 0 rfl) ?_
      refine lv_iadd hx hb d_Me_tidy_63 ?_
      refine z_st (st' := [.int (nI (mSum (mSz M) k))]) (by rw [show (((nI (mSum (mSz M) (k - 1))) + (nI (up4 z))) : Int32) = nI (mSum (mSz M) k) from by rw [nI_add, mSum_at hk1 hz]]) ?_
      refine lv_istore_n (lv' := [(2, .int (nI (mSum (mSz M) k))), (4, .int (nI (up4 z))), (3, .int (nI k)), (0, .ref h0), (1, .int n0)]) hx hb d_Me_tidy_64 rfl hl (by decide) rfl (fun ls hl => ?_)
      refine lv_iinc (k := 2) (v := (nI k) + 1) (lv' := [(3, .int ((nI k) + 1)), (2, .int (nI (mSum (mSz M) k))), (4, .int (nI (up4 z))), (0, .ref h0), (1, .int n0)]) hx hb d_Me_tidy_65 hl rfl rfl (by decide) rfl (fun ls hl => ?_)
      refine lv_goto (tgt := 4) hx hb d_Me_tidy_68 (by decide) ?_
      rw [nI_1] at hl
      have hl := lv_sub (l' := [(3, .int (nI (k + 1))), (2, .int (nI (mSum (mSz M) k))), (0, .ref h0), (1, .int n0)]) hl [0, 1, 3, 4] rfl
      exact ih (j - 1) (k + 1, upd t2 k (nI (mSum (mSz M) (k - 1))), va_cpy p2 p2 (st k) (mSum (mSz M) (k - 1)) (up4 z)) ls H locs 0 0 (by omega) ⟨⟨by show k + 1 + (j - 1) = md + 1; omega, by show 1 ≤ k + 1; omega, tInv_step hR.1 g2 ht hz (fun c => Nat.le_trans ((g1 k z hz).2.2 c) hpe) hpn (fun _ => (g1 k z hz).2.1), rfl, rfl⟩, hl, hP, hD, hS⟩
