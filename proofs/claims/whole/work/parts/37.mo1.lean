/-! decode rows -/
theorem d_Mo_kind_0 : decode b_Mo_kind 0 = .ok (.aload_n 0, 1) := by decide +kernel
theorem d_Mo_kind_1 : decode b_Mo_kind 1 = .ok (.getfield 7, 3) := by decide +kernel
theorem d_Mo_kind_4 : decode b_Mo_kind 4 = .ok (.aload_n 0, 1) := by decide +kernel
theorem d_Mo_kind_5 : decode b_Mo_kind 5 = .ok (.getfield 58, 3) := by decide +kernel
theorem d_Mo_kind_8 : decode b_Mo_kind 8 = .ok (.iload_n 1, 1) := by decide +kernel
theorem d_Mo_kind_9 : decode b_Mo_kind 9 = .ok (.iastore, 1) := by decide +kernel
theorem d_Mo_kind_10 : decode b_Mo_kind 10 = .ok (.aload_n 0, 1) := by decide +kernel
theorem d_Mo_kind_11 : decode b_Mo_kind 11 = .ok (.getfield 13, 3) := by decide +kernel
theorem d_Mo_kind_14 : decode b_Mo_kind 14 = .ok (.aload_n 0, 1) := by decide +kernel
theorem d_Mo_kind_15 : decode b_Mo_kind 15 = .ok (.getfield 58, 3) := by decide +kernel
theorem d_Mo_kind_18 : decode b_Mo_kind 18 = .ok (.iload_n 2, 1) := by decide +kernel
theorem d_Mo_kind_19 : decode b_Mo_kind 19 = .ok (.iastore, 1) := by decide +kernel
theorem d_Mo_kind_20 : decode b_Mo_kind 20 = .ok (.aload_n 0, 1) := by decide +kernel
theorem d_Mo_kind_21 : decode b_Mo_kind 21 = .ok (.dup, 1) := by decide +kernel
theorem d_Mo_kind_22 : decode b_Mo_kind 22 = .ok (.getfield 58, 3) := by decide +kernel
theorem d_Mo_kind_25 : decode b_Mo_kind 25 = .ok (.iconst 1, 1) := by decide +kernel
theorem d_Mo_kind_26 : decode b_Mo_kind 26 = .ok (.iadd, 1) := by decide +kernel
theorem d_Mo_kind_27 : decode b_Mo_kind 27 = .ok (.putfield 58, 3) := by decide +kernel
theorem d_Mo_kind_30 : decode b_Mo_kind 30 = .ok (.return_, 1) := by decide +kernel
theorem d_Mo_read_0 : decode b_Mo_read 0 = .ok (.iconst 0, 1) := by decide +kernel
theorem d_Mo_read_1 : decode b_Mo_read 1 = .ok (.istore_n 3, 1) := by decide +kernel
theorem d_Mo_read_2 : decode b_Mo_read 2 = .ok (.iload_n 2, 1) := by decide +kernel
theorem d_Mo_read_3 : decode b_Mo_read 3 = .ok (.iconst 1, 1) := by decide +kernel
theorem d_Mo_read_4 : decode b_Mo_read 4 = .ok (.isub, 1) := by decide +kernel
theorem d_Mo_read_5 : decode b_Mo_read 5 = .ok (.istore 4, 2) := by decide +kernel
theorem d_Mo_read_7 : decode b_Mo_read 7 = .ok (.iload 4, 2) := by decide +kernel
theorem d_Mo_read_9 : decode b_Mo_read 9 = .ok (.ifCond .lt 28, 3) := by decide +kernel
theorem d_Mo_read_12 : decode b_Mo_read 12 = .ok (.iload_n 3, 1) := by decide +kernel
theorem d_Mo_read_13 : decode b_Mo_read 13 = .ok (.bipush 8, 2) := by decide +kernel
theorem d_Mo_read_15 : decode b_Mo_read 15 = .ok (.ishl, 1) := by decide +kernel
theorem d_Mo_read_16 : decode b_Mo_read 16 = .ok (.aload_n 0, 1) := by decide +kernel
theorem d_Mo_read_17 : decode b_Mo_read 17 = .ok (.getfield 23, 3) := by decide +kernel
theorem d_Mo_read_20 : decode b_Mo_read 20 = .ok (.iload_n 1, 1) := by decide +kernel
theorem d_Mo_read_21 : decode b_Mo_read 21 = .ok (.iload 4, 2) := by decide +kernel
theorem d_Mo_read_23 : decode b_Mo_read 23 = .ok (.iadd, 1) := by decide +kernel
theorem d_Mo_read_24 : decode b_Mo_read 24 = .ok (.baload, 1) := by decide +kernel
theorem d_Mo_read_25 : decode b_Mo_read 25 = .ok (.sipush 255, 3) := by decide +kernel
theorem d_Mo_read_28 : decode b_Mo_read 28 = .ok (.iand, 1) := by decide +kernel
theorem d_Mo_read_29 : decode b_Mo_read 29 = .ok (.ior, 1) := by decide +kernel
theorem d_Mo_read_30 : decode b_Mo_read 30 = .ok (.istore_n 3, 1) := by decide +kernel
theorem d_Mo_read_31 : decode b_Mo_read 31 = .ok (.iinc 4 (-1), 3) := by decide +kernel
theorem d_Mo_read_34 : decode b_Mo_read 34 = .ok (.goto (-27), 3) := by decide +kernel
theorem d_Mo_read_37 : decode b_Mo_read 37 = .ok (.iload_n 3, 1) := by decide +kernel
theorem d_Mo_read_38 : decode b_Mo_read 38 = .ok (.ireturn, 1) := by decide +kernel
theorem d_Mo_begin_0 : decode b_Mo_begin 0 = .ok (.aload_n 0, 1) := by decide +kernel
theorem d_Mo_begin_1 : decode b_Mo_begin 1 = .ok (.iload_n 1, 1) := by decide +kernel
theorem d_Mo_begin_2 : decode b_Mo_begin 2 = .ok (.ifCond .lt 11, 3) := by decide +kernel
theorem d_Mo_begin_5 : decode b_Mo_begin 5 = .ok (.iload_n 1, 1) := by decide +kernel
theorem d_Mo_begin_6 : decode b_Mo_begin 6 = .ok (.aload_n 0, 1) := by decide +kernel
theorem d_Mo_begin_7 : decode b_Mo_begin 7 = .ok (.getfield 107, 3) := by decide +kernel
theorem d_Mo_begin_10 : decode b_Mo_begin 10 = .ok (.if_icmp .lt 7, 3) := by decide +kernel
theorem d_Mo_begin_13 : decode b_Mo_begin 13 = .ok (.iconst 1, 1) := by decide +kernel
theorem d_Mo_begin_14 : decode b_Mo_begin 14 = .ok (.goto 4, 3) := by decide +kernel
theorem d_Mo_begin_17 : decode b_Mo_begin 17 = .ok (.iconst 0, 1) := by decide +kernel
theorem d_Mo_begin_18 : decode b_Mo_begin 18 = .ok (.putfield 62, 3) := by decide +kernel
theorem d_Mo_begin_21 : decode b_Mo_begin 21 = .ok (.aload_n 0, 1) := by decide +kernel
theorem d_Mo_begin_22 : decode b_Mo_begin 22 = .ok (.getfield 62, 3) := by decide +kernel
theorem d_Mo_begin_25 : decode b_Mo_begin 25 = .ok (.ifCond .le 4, 3) := by decide +kernel
theorem d_Mo_begin_28 : decode b_Mo_begin 28 = .ok (.return_, 1) := by decide +kernel
theorem d_Mo_begin_29 : decode b_Mo_begin 29 = .ok (.iconst 0, 1) := by decide +kernel
theorem d_Mo_begin_30 : decode b_Mo_begin 30 = .ok (.istore_n 2, 1) := by decide +kernel
theorem d_Mo_begin_31 : decode b_Mo_begin 31 = .ok (.iload_n 2, 1) := by decide +kernel
theorem d_Mo_begin_32 : decode b_Mo_begin 32 = .ok (.bipush 32, 2) := by decide +kernel
theorem d_Mo_begin_34 : decode b_Mo_begin 34 = .ok (.if_icmp .ge 16, 3) := by decide +kernel
theorem d_Mo_begin_37 : decode b_Mo_begin 37 = .ok (.aload_n 0, 1) := by decide +kernel
theorem d_Mo_begin_38 : decode b_Mo_begin 38 = .ok (.getfield 19, 3) := by decide +kernel
theorem d_Mo_begin_41 : decode b_Mo_begin 41 = .ok (.iload_n 2, 1) := by decide +kernel
theorem d_Mo_begin_42 : decode b_Mo_begin 42 = .ok (.iconst 0, 1) := by decide +kernel
theorem d_Mo_begin_43 : decode b_Mo_begin 43 = .ok (.iastore, 1) := by decide +kernel
theorem d_Mo_begin_44 : decode b_Mo_begin 44 = .ok (.iinc 2 1, 3) := by decide +kernel
theorem d_Mo_begin_47 : decode b_Mo_begin 47 = .ok (.goto (-16), 3) := by decide +kernel
theorem d_Mo_begin_50 : decode b_Mo_begin 50 = .ok (.aload_n 0, 1) := by decide +kernel
theorem d_Mo_begin_51 : decode b_Mo_begin 51 = .ok (.iconst 4, 1) := by decide +kernel
theorem d_Mo_begin_52 : decode b_Mo_begin 52 = .ok (.iload_n 1, 1) := by decide +kernel
theorem d_Mo_begin_53 : decode b_Mo_begin 53 = .ok (.imul, 1) := by decide +kernel
theorem d_Mo_begin_54 : decode b_Mo_begin 54 = .ok (.putfield 104, 3) := by decide +kernel
theorem d_Mo_begin_57 : decode b_Mo_begin 57 = .ok (.aload_n 0, 1) := by decide +kernel
theorem d_Mo_begin_58 : decode b_Mo_begin 58 = .ok (.iconst 1, 1) := by decide +kernel
theorem d_Mo_begin_59 : decode b_Mo_begin 59 = .ok (.putfield 97, 3) := by decide +kernel
theorem d_Mo_begin_62 : decode b_Mo_begin 62 = .ok (.aload_n 0, 1) := by decide +kernel
theorem d_Mo_begin_63 : decode b_Mo_begin 63 = .ok (.iconst 0, 1) := by decide +kernel
theorem d_Mo_begin_64 : decode b_Mo_begin 64 = .ok (.putfield 177, 3) := by decide +kernel
theorem d_Mo_begin_67 : decode b_Mo_begin 67 = .ok (.aload_n 0, 1) := by decide +kernel
theorem d_Mo_begin_68 : decode b_Mo_begin 68 = .ok (.iconst 0, 1) := by decide +kernel
theorem d_Mo_begin_69 : decode b_Mo_begin 69 = .ok (.putfield 74, 3) := by decide +kernel
theorem d_Mo_begin_72 : decode b_Mo_begin 72 = .ok (.aload_n 0, 1) := by decide +kernel
theorem d_Mo_begin_73 : decode b_Mo_begin 73 = .ok (.iconst 0, 1) := by decide +kernel
theorem d_Mo_begin_74 : decode b_Mo_begin 74 = .ok (.putfield 165, 3) := by decide +kernel
theorem d_Mo_begin_77 : decode b_Mo_begin 77 = .ok (.aload_n 0, 1) := by decide +kernel
theorem d_Mo_begin_78 : decode b_Mo_begin 78 = .ok (.iconst 0, 1) := by decide +kernel
theorem d_Mo_begin_79 : decode b_Mo_begin 79 = .ok (.putfield 85, 3) := by decide +kernel
theorem d_Mo_begin_82 : decode b_Mo_begin 82 = .ok (.aload_n 0, 1) := by decide +kernel
theorem d_Mo_begin_83 : decode b_Mo_begin 83 = .ok (.iconst 0, 1) := by decide +kernel
theorem d_Mo_begin_84 : decode b_Mo_begin 84 = .ok (.putfield 77, 3) := by decide +kernel
theorem d_Mo_begin_87 : decode b_Mo_begin 87 = .ok (.aload_n 0, 1) := by decide +kernel
theorem d_Mo_begin_88 : decode b_Mo_begin 88 = .ok (.iconst 0, 1) := by decide +kernel
theorem d_Mo_begin_89 : decode b_Mo_begin 89 = .ok (.putfield 171, 3) := by decide +kernel
theorem d_Mo_begin_92 : decode b_Mo_begin 92 = .ok (.return_, 1) := by decide +kernel

set_option maxHeartbeats 4000000 in
theorem c_Mo_kind (l : Launch) (D : va_G) (cI cB cJ : ClassId) (sz : Nat) (m1 : Int32) (v1 : Int32) (m0 : Nat) (mk : Nat) (mt : Nat) (kk0 : Nat) (wo : Nat) (wn : Int32) (re : Nat) (pc : Int32) (sta : Int32) (dn : Int32) (th : Int32) (ro : Nat) (aa : Nat) (si : Nat) (so : Nat) (la : Nat) (md : Int32) (lq : Int32) (tp : Int32) (tr : Int32) (ip : Nat) (oq : Nat) (cp : Nat) (ni : Int32) (no : Int32) (mf : Nat → Int32) (tf : Nat → Int32) (hk5 : kk0 < 50) : zMet l y_Mo_kind (zWs y_Mo_kind b_Mo_kind 3 (none)) { frames := 0, cells := 0, slots := 0, locals := 0 } (zPc D (zT cI cB cJ) sz [(m0, .inr (3, [.ref mk, .ref mt, .int (nI kk0), .ref wo, .int wn, .ref re, .int pc, .int sta, .int dn, .int th, .ref ro, .ref aa, .ref si, .ref so, .ref la, .int md, .int lq, .int tp, .int tr, .ref ip, .ref oq, .ref cp, .int ni, .int no])), (mk, .inl (cI, 50, .inl (mf))), (mt, .inl (cI, 50, .inl (tf)))] [.ref m0, .int m1, .int v1]) (zQv D (va_A [(m0, .inr (3, [.ref mk, .ref mt, .int (nI kk0), .ref wo, .int wn, .ref re, .int pc, .int sta, .int dn, .int th, .ref ro, .ref aa, .ref si, .ref so, .ref la, .int md, .int lq, .int tp, .int tr, .ref ip, .ref oq, .ref cp, .int ni, .int no])), (mk, .inl (cI, 50, .inl (mf))), (mt, .inl (cI, 50, .inl (tf)))] sz) (fun (_ : Unit) => True) (z0) (fun _ => [(m0, .inr (3, [.ref mk, .ref mt, .int (nI (kk0 + 1)), .ref wo, .int wn, .ref re, .int pc, .int sta, .int dn, .int th, .ref ro, .ref aa, .ref si, .ref so, .ref la, .int md, .int lq, .int tp, .int tr, .ref ip, .ref oq, .ref cp, .int ni, .int no])), (mk, .inl (cI, 50, .inl (upd mf kk0 m1))), (mt, .inl (cI, 50, .inl (upd tf kk0 v1)))])) (va_A [(m0, .inr (3, [.ref mk, .ref mt, .int (nI kk0), .ref wo, .int wn, .ref re, .int pc, .int sta, .int dn, .int th, .ref ro, .ref aa, .ref si, .ref so, .ref la, .int md, .int lq, .int tp, .int tr, .ref ip, .ref oq, .ref cp, .int ni, .int no])), (mk, .inl (cI, 50, .inl (mf))), (mt, .inl (cI, 50, .inl (tf)))] sz) := by
  refine zstart (Qc := fun A => zQv D A (fun (_ : Unit) => True) (z0) (fun _ => [(m0, .inr (3, [.ref mk, .ref mt, .int (nI (kk0 + 1)), .ref wo, .int wn, .ref re, .int pc, .int sta, .int dn, .int th, .ref ro, .ref aa, .ref si, .ref so, .ref la, .int md, .int lq, .int tp, .int tr, .ref ip, .ref oq, .ref cp, .int ni, .int no])), (mk, .inl (cI, 50, .inl (upd mf kk0 m1))), (mt, .inl (cI, 50, .inl (upd tf kk0 v1)))])) (by decide) (Nat.le_of_ble_eq_true rfl) ?_
  intro p e s m below meth c ls A hE hr hlocks hin hsz hK hP hD hS hA hAe hl
  have hx := hE.1
  have hb := hE.2.1
  have hown := hE.2.2.2.1
  have hw := hE.2.2.2.2
  have hl : lv_has ls 3 [(0, .ref m0), (1, .int m1), (2, .int v1)] := hl
  refine lv_aload_n hx hb d_Mo_kind_0 rfl (lv_at hl 0 rfl) ?_
  refine zget hE hK hP 0 rfl fd_Mo_7 rfl d_Mo_kind_1 ?_
  refine lv_aload_n hx hb d_Mo_kind_4 rfl (lv_at hl 0 rfl) ?_
  refine zget hE hK hP 0 rfl fd_Mo_58 rfl d_Mo_kind_5 ?_
  refine lv_iload_n hx hb d_Mo_kind_8 rfl (lv_at hl 1 rfl) ?_
  refine va_iast hx hb hK hP hD hS 1 0 rfl rfl (vp_in_nI hk5 (by omega)) d_Mo_kind_9 (fun H locs hP hD hS => ?_)
  have hP : va_P D zC [(m0, .inr (3, [.ref mk, .ref mt, .int (nI kk0), .ref wo, .int wn, .ref re, .int pc, .int sta, .int dn, .int th, .ref ro, .ref aa, .ref si, .ref so, .ref la, .int md, .int lq, .int tp, .int tr, .ref ip, .ref oq, .ref cp, .int ni, .int no])), (mk, .inl (cI, 50, .inl (upd mf (nI kk0).toNatClampNeg m1))), (mt, .inl (cI, 50, .inl (tf)))] _ := hP
  have hD : va_D A [(m0, .inr (3, [.ref mk, .ref mt, .int (nI kk0), .ref wo, .int wn, .ref re, .int pc, .int sta, .int dn, .int th, .ref ro, .ref aa, .ref si, .ref so, .ref la, .int md, .int lq, .int tp, .int tr, .ref ip, .ref oq, .ref cp, .int ni, .int no])), (mk, .inl (cI, 50, .inl (upd mf (nI kk0).toNatClampNeg m1))), (mt, .inl (cI, 50, .inl (tf)))] := hD
  rw [show ((upd mf (nI kk0).toNatClampNeg m1) : Nat → Int32) = upd mf kk0 m1 from by rw [nI_clamp (by omega)]] at hP hD
  have hP : va_P D zC [(m0, .inr (3, [.ref mk, .ref mt, .int (nI kk0), .ref wo, .int wn, .ref re, .int pc, .int sta, .int dn, .int th, .ref ro, .ref aa, .ref si, .ref so, .ref la, .int md, .int lq, .int tp, .int tr, .ref ip, .ref oq, .ref cp, .int ni, .int no])), (mk, .inl (cI, 50, .inl (upd mf kk0 m1))), (mt, .inl (cI, 50, .inl (tf)))] _ := hP
  have hD : va_D A [(m0, .inr (3, [.ref mk, .ref mt, .int (nI kk0), .ref wo, .int wn, .ref re, .int pc, .int sta, .int dn, .int th, .ref ro, .ref aa, .ref si, .ref so, .ref la, .int md, .int lq, .int tp, .int tr, .ref ip, .ref oq, .ref cp, .int ni, .int no])), (mk, .inl (cI, 50, .inl (upd mf kk0 m1))), (mt, .inl (cI, 50, .inl (tf)))] := hD
  refine lv_aload_n hx hb d_Mo_kind_10 rfl (lv_at hl 0 rfl) ?_
  refine zget hE hK hP 0 rfl fd_Mo_13 rfl d_Mo_kind_11 ?_
  refine lv_aload_n hx hb d_Mo_kind_14 rfl (lv_at hl 0 rfl) ?_
  refine zget hE hK hP 0 rfl fd_Mo_58 rfl d_Mo_kind_15 ?_
  refine lv_iload_n hx hb d_Mo_kind_18 rfl (lv_at hl 2 rfl) ?_
  refine va_iast hx hb hK hP hD hS 2 0 rfl rfl (vp_in_nI hk5 (by omega)) d_Mo_kind_19 (fun H locs hP hD hS => ?_)
  have hP : va_P D zC [(m0, .inr (3, [.ref mk, .ref mt, .int (nI kk0), .ref wo, .int wn, .ref re, .int pc, .int sta, .int dn, .int th, .ref ro, .ref aa, .ref si, .ref so, .ref la, .int md, .int lq, .int tp, .int tr, .ref ip, .ref oq, .ref cp, .int ni, .int no])), (mk, .inl (cI, 50, .inl (upd mf kk0 m1))), (mt, .inl (cI, 50, .inl (upd tf (nI kk0).toNatClampNeg v1)))] _ := hP
  have hD : va_D A [(m0, .inr (3, [.ref mk, .ref mt, .int (nI kk0), .ref wo, .int wn, .ref re, .int pc, .int sta, .int dn, .int th, .ref ro, .ref aa, .ref si, .ref so, .ref la, .int md, .int lq, .int tp, .int tr, .ref ip, .ref oq, .ref cp, .int ni, .int no])), (mk, .inl (cI, 50, .inl (upd mf kk0 m1))), (mt, .inl (cI, 50, .inl (upd tf (nI kk0).toNatClampNeg v1)))] := hD
  rw [show ((upd tf (nI kk0).toNatClampNeg v1) : Nat → Int32) = upd tf kk0 v1 from by rw [nI_clamp (by omega)]] at hP hD
  have hP : va_P D zC [(m0, .inr (3, [.ref mk, .ref mt, .int (nI kk0), .ref wo, .int wn, .ref re, .int pc, .int sta, .int dn, .int th, .ref ro, .ref aa, .ref si, .ref so, .ref la, .int md, .int lq, .int tp, .int tr, .ref ip, .ref oq, .ref cp, .int ni, .int no])), (mk, .inl (cI, 50, .inl (upd mf kk0 m1))), (mt, .inl (cI, 50, .inl (upd tf kk0 v1)))] _ := hP
  have hD : va_D A [(m0, .inr (3, [.ref mk, .ref mt, .int (nI kk0), .ref wo, .int wn, .ref re, .int pc, .int sta, .int dn, .int th, .ref ro, .ref aa, .ref si, .ref so, .ref la, .int md, .int lq, .int tp, .int tr, .ref ip, .ref oq, .ref cp, .int ni, .int no])), (mk, .inl (cI, 50, .inl (upd mf kk0 m1))), (mt, .inl (cI, 50, .inl (upd tf kk0 v1)))] := hD
  refine lv_aload_n hx hb d_Mo_kind_20 rfl (lv_at hl 0 rfl) ?_
  refine lv_dup hx hb d_Mo_kind_21 rfl ?_
  refine zget hE hK hP 0 rfl fd_Mo_58 rfl d_Mo_kind_22 ?_
  refine lv_iconst (v := 1) hx hb d_Mo_kind_25 (by decide) ?_
  refine lv_iadd hx hb d_Mo_kind_26 ?_
  refine z_st (st' := [.int (nI (kk0 + 1)), .ref m0]) (by rw [show (((nI kk0) + 1) : Int32) = nI (kk0 + 1) from nI_1 kk0]) ?_
  refine zput (v := .int (nI (kk0 + 1))) hE hK hP hD hS 0 rfl fd_Mo_58 ft_Mo_2 rfl rfl (Nat.le_of_ble_eq_true rfl) d_Mo_kind_27 (fun H locs hP hD hS => ?_)
  have hP : va_P D zC [(m0, .inr (3, [.ref mk, .ref mt, .int (nI (kk0 + 1)), .ref wo, .int wn, .ref re, .int pc, .int sta, .int dn, .int th, .ref ro, .ref aa, .ref si, .ref so, .ref la, .int md, .int lq, .int tp, .int tr, .ref ip, .ref oq, .ref cp, .int ni, .int no])), (mk, .inl (cI, 50, .inl (upd mf kk0 m1))), (mt, .inl (cI, 50, .inl (upd tf kk0 v1)))] _ := hP
  have hD : va_D A [(m0, .inr (3, [.ref mk, .ref mt, .int (nI (kk0 + 1)), .ref wo, .int wn, .ref re, .int pc, .int sta, .int dn, .int th, .ref ro, .ref aa, .ref si, .ref so, .ref la, .int md, .int lq, .int tp, .int tr, .ref ip, .ref oq, .ref cp, .int ni, .int no])), (mk, .inl (cI, 50, .inl (upd mf kk0 m1))), (mt, .inl (cI, 50, .inl (upd tf kk0 v1)))] := hD
  have hP9 := hP.sub (ws' := [(m0, .inr (3, [.ref mk, .ref mt, .int (nI (kk0 + 1)), .ref wo, .int wn, .ref re, .int pc, .int sta, .int dn, .int th, .ref ro, .ref aa, .ref si, .ref so, .ref la, .int md, .int lq, .int tp, .int tr, .ref ip, .ref oq, .ref cp, .int ni, .int no])), (mk, .inl (cI, 50, .inl (upd mf kk0 m1))), (mt, .inl (cI, 50, .inl (upd tf kk0 v1)))]) [0, 1, 2] rfl
  have hD9 := hD.sub (ws' := [(m0, .inr (3, [.ref mk, .ref mt, .int (nI (kk0 + 1)), .ref wo, .int wn, .ref re, .int pc, .int sta, .int dn, .int th, .ref ro, .ref aa, .ref si, .ref so, .ref la, .int md, .int lq, .int tp, .int tr, .ref ip, .ref oq, .ref cp, .int ni, .int no])), (mk, .inl (cI, 50, .inl (upd mf kk0 m1))), (mt, .inl (cI, 50, .inl (upd tf kk0 v1)))]) [0, 1, 2] rfl rfl
  exact zretv hx hb hr hlocks hS () trivial rfl hP9 hD9 d_Mo_kind_30

set_option maxHeartbeats 4000000 in
theorem c_Mo_read (l : Launch) (D : va_G) (cI cB cJ : ClassId) (sz : Nat) (p1 : Int32) (n0 : Int32) (m0 : Nat) (mk : Nat) (mt : Nat) (kd : Int32) (wo : Nat) (wn : Int32) (re : Nat) (pc : Int32) (sta : Int32) (dn : Int32) (th : Int32) (ro : Nat) (aa : Nat) (si : Nat) (so : Nat) (la : Nat) (md : Int32) (lq : Int32) (tp : Int32) (tr : Int32) (ip : Nat) (oq : Nat) (cp : Nat) (ni : Int32) (no : Int32) (rf : Nat → Int32) (a0 : Nat) (k0 : Nat) (hpa : p1 = nI a0) (hk : n0 = nI k0) (hak : a0 + k0 ≤ 90000) : zMet l y_Mo_read (zWs y_Mo_read b_Mo_read 5 (some .int)) { frames := 0, cells := 0, slots := 0, locals := 0 } (zPc D (zT cI cB cJ) sz [(m0, .inr (3, [.ref mk, .ref mt, .int kd, .ref wo, .int wn, .ref re, .int pc, .int sta, .int dn, .int th, .ref ro, .ref aa, .ref si, .ref so, .ref la, .int md, .int lq, .int tp, .int tr, .ref ip, .ref oq, .ref cp, .int ni, .int no])), (ro, .inl (cB, 90000, .inl (rf)))] [.ref m0, .int p1, .int n0]) (zQi D (va_A [(m0, .inr (3, [.ref mk, .ref mt, .int kd, .ref wo, .int wn, .ref re, .int pc, .int sta, .int dn, .int th, .ref ro, .ref aa, .ref si, .ref so, .ref la, .int md, .int lq, .int tp, .int tr, .ref ip, .ref oq, .ref cp, .int ni, .int no])), (ro, .inl (cB, 90000, .inl (rf)))] sz) (fun r (_ : Unit) => r = (zrd (fun i => rf (a0 + i)) k0 0)) (z0) (fun _ => [(m0, .inr (3, [.ref mk, .ref mt, .int kd, .ref wo, .int wn, .ref re, .int pc, .int sta, .int dn, .int th, .ref ro, .ref aa, .ref si, .ref so, .ref la, .int md, .int lq, .int tp, .int tr, .ref ip, .ref oq, .ref cp, .int ni, .int no])), (ro, .inl (cB, 90000, .inl (rf)))])) (va_A [(m0, .inr (3, [.ref mk, .ref mt, .int kd, .ref wo, .int wn, .ref re, .int pc, .int sta, .int dn, .int th, .ref ro, .ref aa, .ref si, .ref so, .ref la, .int md, .int lq, .int tp, .int tr, .ref ip, .ref oq, .ref cp, .int ni, .int no])), (ro, .inl (cB, 90000, .inl (rf)))] sz) := by
  refine zstart (Qc := fun A => zQi D A (fun r (_ : Unit) => r = (zrd (fun i => rf (a0 + i)) k0 0)) (z0) (fun _ => [(m0, .inr (3, [.ref mk, .ref mt, .int kd, .ref wo, .int wn, .ref re, .int pc, .int sta, .int dn, .int th, .ref ro, .ref aa, .ref si, .ref so, .ref la, .int md, .int lq, .int tp, .int tr, .ref ip, .ref oq, .ref cp, .int ni, .int no])), (ro, .inl (cB, 90000, .inl (rf)))])) (by decide) (Nat.le_of_ble_eq_true rfl) ?_
  intro p e s m below meth c ls A hE hr hlocks hin hsz hK hP hD hS hA hAe hl
  have hx := hE.1
  have hb := hE.2.1
  have hown := hE.2.2.2.1
  have hw := hE.2.2.2.2
  have hl : lv_has ls 5 [(0, .ref m0), (1, .int p1), (2, .int n0)] := hl
  refine lv_iconst (v := 0) hx hb d_Mo_read_0 (by decide) ?_
  refine lv_istore_n (lv' := [(3, .int 0), (0, .ref m0), (1, .int p1), (2, .int n0)]) hx hb d_Mo_read_1 rfl hl (by decide) rfl (fun ls hl => ?_)
  refine lv_iload_n hx hb d_Mo_read_2 rfl (lv_at hl 3 rfl) ?_
  refine lv_iconst (v := 1) hx hb d_Mo_read_3 (by decide) ?_
  refine lv_isub hx hb d_Mo_read_4 ?_
  refine z_st (st' := [.int (nI k0 + (-1))]) (by rw [show ((n0 - 1) : Int32) = nI k0 + (-1) from by rw [hk]; exact z_m1 _]) ?_
  refine lv_istore (lv' := [(4, .int (nI k0 + (-1))), (3, .int 0), (0, .ref m0), (1, .int p1), (2, .int n0)]) hx hb d_Mo_read_5 hl (by decide) rfl (fun ls hl => ?_)
  refine zloop0 (σ := Int32) (fun j x ls => (j ≤ k0 ∧ zrd (fun i => rf (a0 + i)) j x = zrd (fun i => rf (a0 + i)) k0 0) ∧ lv_has ls 5 [(4, .int (nI j + (-1))), (3, .int x), (0, .ref m0), (1, .int p1), (2, .int n0)]) (fun j x ls hI ih => ?_) k0 0 ls ⟨⟨Nat.le_refl _, rfl⟩, hl⟩
  obtain ⟨⟨hj, hz⟩, hl⟩ := hI
  refine lv_iload hx hb d_Mo_read_7 (lv_at hl 0 rfl) ?_
  refine lv_if_lt (tgt := 37) hx hb d_Mo_read_9 (by decide) (fun h1 => ?_) (fun h1 => ?_)
  · refine lv_iload_n hx hb d_Mo_read_37 rfl (lv_at hl 1 rfl) ?_
    have j0 : j = 0 := z_pm0 (by omega) h1
    subst j0
    have hP9 := hP.sub (ws' := [(m0, .inr (3, [.ref mk, .ref mt, .int kd, .ref wo, .int wn, .ref re, .int pc, .int sta, .int dn, .int th, .ref ro, .ref aa, .ref si, .ref so, .ref la, .int md, .int lq, .int tp, .int tr, .ref ip, .ref oq, .ref cp, .int ni, .int no])), (ro, .inl (cB, 90000, .inl (rf)))]) [0, 1] rfl
    have hD9 := hD.sub (ws' := [(m0, .inr (3, [.ref mk, .ref mt, .int kd, .ref wo, .int wn, .ref re, .int pc, .int sta, .int dn, .int th, .ref ro, .ref aa, .ref si, .ref so, .ref la, .int md, .int lq, .int tp, .int tr, .ref ip, .ref oq, .ref cp, .int ni, .int no])), (ro, .inl (cB, 90000, .inl (rf)))]) [0, 1] rfl rfl
    exact zreti hx hb hr rfl hlocks hS () hz rfl hP9 hD9 d_Mo_read_38
  · obtain ⟨j, rfl⟩ : ∃ q, j = q + 1 := ⟨j - 1, by have := z_pm h1; omega⟩
    rw [pk_m1] at hl
    have hl : lv_has ls 5 [(4, .int (nI j)), (3, .int x), (0, .ref m0), (1, .int p1), (2, .int n0)] := hl
    refine lv_iload_n hx hb d_Mo_read_12 rfl (lv_at hl 1 rfl) ?_
    refine lv_bipush (v := 8) hx hb d_Mo_read_13 (by decide) ?_
    refine lv_ishl hx hb d_Mo_read_15 ?_
    refine lv_aload_n hx hb d_Mo_read_16 rfl (lv_at hl 2 rfl) ?_
    refine zget hE hK hP 0 rfl fd_Mo_23 rfl d_Mo_read_17 ?_
    refine lv_iload_n hx hb d_Mo_read_20 rfl (lv_at hl 3 rfl) ?_
    refine lv_iload hx hb d_Mo_read_21 (lv_at hl 0 rfl) ?_
    refine lv_iadd hx hb d_Mo_read_23 ?_
    refine z_st (st' := [.int (nI (a0 + j)), .ref ro, .int ((x : Int32) <<< ((8 : Int32) &&& 31))]) (by rw [show ((p1 + (nI j)) : Int32) = nI (a0 + j) from by rw [hpa]; exact nI_add a0 j]) ?_
    refine va_bald hx hb hK hP 1 1 rfl rfl (vp_in_nI (by omega) (by omega)) d_Mo_read_24 ?_
    refine z_st (st' := [.int (rf (a0 + j)), .int ((x : Int32) <<< ((8 : Int32) &&& 31))]) (by rw [show ((rf (nI (a0 + j)).toNatClampNeg) : Int32) = rf (a0 + j) from by rw [nI_clamp (by omega)]]) ?_
    refine lv_sipush (v := 255) hx hb d_Mo_read_25 (by decide) ?_
    refine lv_iand hx hb d_Mo_read_28 ?_
    refine lv_ior hx hb d_Mo_read_29 ?_
    refine lv_istore_n (lv' := [(3, .int (((x : Int32) <<< ((8 : Int32) &&& 31)) ||| ((rf (a0 + j)) &&& 255))), (4, .int (nI j)), (0, .ref m0), (1, .int p1), (2, .int n0)]) hx hb d_Mo_read_30 rfl hl (by decide) rfl (fun ls hl => ?_)
    refine lv_iinc (k := 1) (v := (nI j) + (-1)) (lv' := [(4, .int ((nI j) + (-1))), (3, .int (((x : Int32) <<< ((8 : Int32) &&& 31)) ||| ((rf (a0 + j)) &&& 255))), (0, .ref m0), (1, .int p1), (2, .int n0)]) hx hb d_Mo_read_31 hl rfl rfl (by decide) rfl (fun ls hl => ?_)
    refine lv_goto (tgt := 7) hx hb d_Mo_read_34 (by decide) ?_
    exact ih j _ ls (by omega) ⟨⟨by omega, hz⟩, hl⟩

set_option maxHeartbeats 4000000 in
theorem c_Mo_begin (l : Launch) (D : va_G) (cI cB cJ : ClassId) (sz : Nat) (k : Int32) (m0 : Nat) (mk : Nat) (mt : Nat) (kd : Int32) (wo : Nat) (wn : Int32) (re : Nat) (pc : Int32) (sta : Int32) (dn : Int32) (th : Int32) (ro : Nat) (aa : Nat) (si : Nat) (so : Nat) (la : Nat) (md : Int32) (lq : Int32) (tp : Int32) (tr : Int32) (ip : Nat) (oq : Nat) (cp : Nat) (ni : Int32) (no : Int32) (rg : Nat → Int32) (hk : 0 ≤ k.toInt ∧ k.toInt < wn.toInt) : zMet l y_Mo_begin (zWs y_Mo_begin b_Mo_begin 3 (none)) { frames := 0, cells := 0, slots := 0, locals := 0 } (zPc D (zT cI cB cJ) sz [(m0, .inr (3, [.ref mk, .ref mt, .int kd, .ref wo, .int wn, .ref re, .int pc, .int sta, .int dn, .int th, .ref ro, .ref aa, .ref si, .ref so, .ref la, .int md, .int lq, .int tp, .int tr, .ref ip, .ref oq, .ref cp, .int ni, .int no])), (re, .inl (cI, 32, .inl (rg)))] [.ref m0, .int k]) (zQv D (va_A [(m0, .inr (3, [.ref mk, .ref mt, .int kd, .ref wo, .int wn, .ref re, .int pc, .int sta, .int dn, .int th, .ref ro, .ref aa, .ref si, .ref so, .ref la, .int md, .int lq, .int tp, .int tr, .ref ip, .ref oq, .ref cp, .int ni, .int no])), (re, .inl (cI, 32, .inl (rg)))] sz) (fun (_ : Unit) => True) (z0) (fun _ => [(m0, .inr (3, [.ref mk, .ref mt, .int kd, .ref wo, .int wn, .ref re, .int (4 * k), .int 1, .int 0, .int 0, .ref ro, .ref aa, .ref si, .ref so, .ref la, .int 0, .int 0, .int 0, .int 0, .ref ip, .ref oq, .ref cp, .int ni, .int 0])), (re, .inl (cI, 32, .inl (fun _ => 0)))])) (va_A [(m0, .inr (3, [.ref mk, .ref mt, .int kd, .ref wo, .int wn, .ref re, .int pc, .int sta, .int dn, .int th, .ref ro, .ref aa, .ref si, .ref so, .ref la, .int md, .int lq, .int tp, .int tr, .ref ip, .ref oq, .ref cp, .int ni, .int no])), (re, .inl (cI, 32, .inl (rg)))] sz) := by
  refine zstart (Qc := fun A => zQv D A (fun (_ : Unit) => True) (z0) (fun _ => [(m0, .inr (3, [.ref mk, .ref mt, .int kd, .ref wo, .int wn, .ref re, .int (4 * k), .int 1, .int 0, .int 0, .ref ro, .ref aa, .ref si, .ref so, .ref la, .int 0, .int 0, .int 0, .int 0, .ref ip, .ref oq, .ref cp, .int ni, .int 0])), (re, .inl (cI, 32, .inl (fun _ => 0)))])) (by decide) (Nat.le_of_ble_eq_true rfl) ?_
  intro p e s m below meth c ls A hE hr hlocks hin hsz hK hP hD hS hA hAe hl
  have hx := hE.1
  have hb := hE.2.1
  have hown := hE.2.2.2.1
  have hw := hE.2.2.2.2
  have hl : lv_has ls 3 [(0, .ref m0), (1, .int k)] := hl
  refine lv_aload_n hx hb d_Mo_begin_0 rfl (lv_at hl 0 rfl) ?_
  refine lv_iload_n hx hb d_Mo_begin_1 rfl (lv_at hl 1 rfl) ?_
  refine lv_if_lt (tgt := 13) hx hb d_Mo_begin_2 (by decide) (fun h1 => (show False by have q1 := z_lt h1; have k0 : ((0) : Int32).toInt = 0 := (by decide); omega).elim) (fun h1 => ?_)
  refine lv_iload_n hx hb d_Mo_begin_5 rfl (lv_at hl 1 rfl) ?_
  refine lv_aload_n hx hb d_Mo_begin_6 rfl (lv_at hl 0 rfl) ?_
  refine zget hE hK hP 0 rfl fd_Mo_107 rfl d_Mo_begin_7 ?_
  refine lv_icmp_lt (tgt := 17) hx hb d_Mo_begin_10 (by decide) (fun h2 => ?_) (fun h2 => (show False by have q1 := z_nlt h1; have q2 := z_nlt h2; have k0 : ((0) : Int32).toInt = 0 := (by decide); omega).elim)
  refine lv_iconst (v := 0) hx hb d_Mo_begin_17 (by decide) ?_
  refine zput (v := .int 0) hE hK hP hD hS 0 rfl fd_Mo_62 ft_Mo_9 rfl rfl (Nat.le_of_ble_eq_true rfl) d_Mo_begin_18 (fun H locs hP hD hS => ?_)
  have hP : va_P D zC [(m0, .inr (3, [.ref mk, .ref mt, .int kd, .ref wo, .int wn, .ref re, .int pc, .int sta, .int dn, .int 0, .ref ro, .ref aa, .ref si, .ref so, .ref la, .int md, .int lq, .int tp, .int tr, .ref ip, .ref oq, .ref cp, .int ni, .int no])), (re, .inl (cI, 32, .inl (rg)))] _ := hP
  have hD : va_D A [(m0, .inr (3, [.ref mk, .ref mt, .int kd, .ref wo, .int wn, .ref re, .int pc, .int sta, .int dn, .int 0, .ref ro, .ref aa, .ref si, .ref so, .ref la, .int md, .int lq, .int tp, .int tr, .ref ip, .ref oq, .ref cp, .int ni, .int no])), (re, .inl (cI, 32, .inl (rg)))] := hD
  refine lv_aload_n hx hb d_Mo_begin_21 rfl (lv_at hl 0 rfl) ?_
  refine zget hE hK hP 0 rfl fd_Mo_62 rfl d_Mo_begin_22 ?_
  refine lv_if_le (tgt := 29) hx hb d_Mo_begin_25 (by decide) (fun h3 => ?_) (fun h3 => (show False by revert h3; decide).elim)
  refine lv_iconst (v := 0) hx hb d_Mo_begin_29 (by decide) ?_
  refine lv_istore_n (lv' := [(2, .int 0), (0, .ref m0), (1, .int k)]) hx hb d_Mo_begin_30 rfl hl (by decide) rfl (fun ls hl => ?_)
  rw [show ((rg) : Nat → Int32) = zfl rg 0 0 from (zfl_0 rg 0).symm] at hP hD
  have hP : va_P D zC [(m0, .inr (3, [.ref mk, .ref mt, .int kd, .ref wo, .int wn, .ref re, .int pc, .int sta, .int dn, .int 0, .ref ro, .ref aa, .ref si, .ref so, .ref la, .int md, .int lq, .int tp, .int tr, .ref ip, .ref oq, .ref cp, .int ni, .int no])), (re, .inl (cI, 32, .inl (zfl rg 0 0)))] _ := hP
  have hD : va_D A [(m0, .inr (3, [.ref mk, .ref mt, .int kd, .ref wo, .int wn, .ref re, .int pc, .int sta, .int dn, .int 0, .ref ro, .ref aa, .ref si, .ref so, .ref la, .int md, .int lq, .int tp, .int tr, .ref ip, .ref oq, .ref cp, .int ni, .int no])), (re, .inl (cI, 32, .inl (zfl rg 0 0)))] := hD
  refine zloopH (σ := Nat) (fun j x ls H locs cells slots => (x + j = 32 ∧ cells = 0 ∧ slots = 0) ∧ lv_has ls 3 [(2, .int (nI x)), (0, .ref m0), (1, .int k)] ∧ va_P D zC [(m0, .inr (3, [.ref mk, .ref mt, .int kd, .ref wo, .int wn, .ref re, .int pc, .int sta, .int dn, .int 0, .ref ro, .ref aa, .ref si, .ref so, .ref la, .int md, .int lq, .int tp, .int tr, .ref ip, .ref oq, .ref cp, .int ni, .int no])), (re, .inl (cI, 32, .inl (zfl rg 0 x)))] H ∧ va_D A [(m0, .inr (3, [.ref mk, .ref mt, .int kd, .ref wo, .int wn, .ref re, .int pc, .int sta, .int dn, .int 0, .ref ro, .ref aa, .ref si, .ref so, .ref la, .int md, .int lq, .int tp, .int tr, .ref ip, .ref oq, .ref cp, .int ni, .int no])), (re, .inl (cI, 32, .inl (zfl rg 0 x)))] ∧ va_S A s.heap H locs) (fun j x ls H locs cells slots hI ih => ?_) 32 0 ls ⟨⟨by omega, rfl, rfl⟩, hl, hP, hD, hS⟩
  obtain ⟨⟨hj, rfl, rfl⟩, hl, hP, hD, hS⟩ := hI
  refine lv_iload_n hx hb d_Mo_begin_31 rfl (lv_at hl 0 rfl) ?_
  refine lv_bipush (v := 32) hx hb d_Mo_begin_32 (by decide) ?_
  refine lv_icmp_ge (tgt := 50) hx hb d_Mo_begin_34 (by decide) (fun h4 => ?_) (fun h4 => ?_)
  · have hx0 : x = 32 := by have := z_le' (a := 32) (by omega) h4; omega
    subst hx0
    refine lv_aload_n hx hb d_Mo_begin_50 rfl (lv_at hl 1 rfl) ?_
    refine lv_iconst (v := 4) hx hb d_Mo_begin_51 (by decide) ?_
    refine lv_iload_n hx hb d_Mo_begin_52 rfl (lv_at hl 2 rfl) ?_
    refine lv_imul hx hb d_Mo_begin_53 ?_
    refine zput (v := .int (4 * k)) hE hK hP hD hS 0 rfl fd_Mo_104 ft_Mo_6 rfl rfl (Nat.le_of_ble_eq_true rfl) d_Mo_begin_54 (fun H locs hP hD hS => ?_)
    have hP : va_P D zC [(m0, .inr (3, [.ref mk, .ref mt, .int kd, .ref wo, .int wn, .ref re, .int (4 * k), .int sta, .int dn, .int 0, .ref ro, .ref aa, .ref si, .ref so, .ref la, .int md, .int lq, .int tp, .int tr, .ref ip, .ref oq, .ref cp, .int ni, .int no])), (re, .inl (cI, 32, .inl (zfl rg 0 32)))] _ := hP
    have hD : va_D A [(m0, .inr (3, [.ref mk, .ref mt, .int kd, .ref wo, .int wn, .ref re, .int (4 * k), .int sta, .int dn, .int 0, .ref ro, .ref aa, .ref si, .ref so, .ref la, .int md, .int lq, .int tp, .int tr, .ref ip, .ref oq, .ref cp, .int ni, .int no])), (re, .inl (cI, 32, .inl (zfl rg 0 32)))] := hD
    refine lv_aload_n hx hb d_Mo_begin_57 rfl (lv_at hl 1 rfl) ?_
    refine lv_iconst (v := 1) hx hb d_Mo_begin_58 (by decide) ?_
    refine zput (v := .int 1) hE hK hP hD hS 0 rfl fd_Mo_97 ft_Mo_7 rfl rfl (Nat.le_of_ble_eq_true rfl) d_Mo_begin_59 (fun H locs hP hD hS => ?_)
    have hP : va_P D zC [(m0, .inr (3, [.ref mk, .ref mt, .int kd, .ref wo, .int wn, .ref re, .int (4 * k), .int 1, .int dn, .int 0, .ref ro, .ref aa, .ref si, .ref so, .ref la, .int md, .int lq, .int tp, .int tr, .ref ip, .ref oq, .ref cp, .int ni, .int no])), (re, .inl (cI, 32, .inl (zfl rg 0 32)))] _ := hP
    have hD : va_D A [(m0, .inr (3, [.ref mk, .ref mt, .int kd, .ref wo, .int wn, .ref re, .int (4 * k), .int 1, .int dn, .int 0, .ref ro, .ref aa, .ref si, .ref so, .ref la, .int md, .int lq, .int tp, .int tr, .ref ip, .ref oq, .ref cp, .int ni, .int no])), (re, .inl (cI, 32, .inl (zfl rg 0 32)))] := hD
    refine lv_aload_n hx hb d_Mo_begin_62 rfl (lv_at hl 1 rfl) ?_
    refine lv_iconst (v := 0) hx hb d_Mo_begin_63 (by decide) ?_
    refine zput (v := .int 0) hE hK hP hD hS 0 rfl fd_Mo_177 ft_Mo_8 rfl rfl (Nat.le_of_ble_eq_true rfl) d_Mo_begin_64 (fun H locs hP hD hS => ?_)
    have hP : va_P D zC [(m0, .inr (3, [.ref mk, .ref mt, .int kd, .ref wo, .int wn, .ref re, .int (4 * k), .int 1, .int 0, .int 0, .ref ro, .ref aa, .ref si, .ref so, .ref la, .int md, .int lq, .int tp, .int tr, .ref ip, .ref oq, .ref cp, .int ni, .int no])), (re, .inl (cI, 32, .inl (zfl rg 0 32)))] _ := hP
    have hD : va_D A [(m0, .inr (3, [.ref mk, .ref mt, .int kd, .ref wo, .int wn, .ref re, .int (4 * k), .int 1, .int 0, .int 0, .ref ro, .ref aa, .ref si, .ref so, .ref la, .int md, .int lq, .int tp, .int tr, .ref ip, .ref oq, .ref cp, .int ni, .int no])), (re, .inl (cI, 32, .inl (zfl rg 0 32)))] := hD
    refine lv_aload_n hx hb d_Mo_begin_67 rfl (lv_at hl 1 rfl) ?_
    refine lv_iconst (v := 0) hx hb d_Mo_begin_68 (by decide) ?_
    refine zput (v := .int 0) hE hK hP hD hS 0 rfl fd_Mo_74 ft_Mo_15 rfl rfl (Nat.le_of_ble_eq_true rfl) d_Mo_begin_69 (fun H locs hP hD hS => ?_)
    have hP : va_P D zC [(m0, .inr (3, [.ref mk, .ref mt, .int kd, .ref wo, .int wn, .ref re, .int (4 * k), .int 1, .int 0, .int 0, .ref ro, .ref aa, .ref si, .ref so, .ref la, .int 0, .int lq, .int tp, .int tr, .ref ip, .ref oq, .ref cp, .int ni, .int no])), (re, .inl (cI, 32, .inl (zfl rg 0 32)))] _ := hP
    have hD : va_D A [(m0, .inr (3, [.ref mk, .ref mt, .int kd, .ref wo, .int wn, .ref re, .int (4 * k), .int 1, .int 0, .int 0, .ref ro, .ref aa, .ref si, .ref so, .ref la, .int 0, .int lq, .int tp, .int tr, .ref ip, .ref oq, .ref cp, .int ni, .int no])), (re, .inl (cI, 32, .inl (zfl rg 0 32)))] := hD
    refine lv_aload_n hx hb d_Mo_begin_72 rfl (lv_at hl 1 rfl) ?_
    refine lv_iconst (v := 0) hx hb d_Mo_begin_73 (by decide) ?_
    refine zput (v := .int 0) hE hK hP hD hS 0 rfl fd_Mo_165 ft_Mo_16 rfl rfl (Nat.le_of_ble_eq_true rfl) d_Mo_begin_74 (fun H locs hP hD hS => ?_)
    have hP : va_P D zC [(m0, .inr (3, [.ref mk, .ref mt, .int kd, .ref wo, .int wn, .ref re, .int (4 * k), .int 1, .int 0, .int 0, .ref ro, .ref aa, .ref si, .ref so, .ref la, .int 0, .int 0, .int tp, .int tr, .ref ip, .ref oq, .ref cp, .int ni, .int no])), (re, .inl (cI, 32, .inl (zfl rg 0 32)))] _ := hP
    have hD : va_D A [(m0, .inr (3, [.ref mk, .ref mt, .int kd, .ref wo, .int wn, .ref re, .int (4 * k), .int 1, .int 0, .int 0, .ref ro, .ref aa, .ref si, .ref so, .ref la, .int 0, .int 0, .int tp, .int tr, .ref ip, .ref oq, .ref cp, .int ni, .int no])), (re, .inl (cI, 32, .inl (zfl rg 0 32)))] := hD
    refine lv_aload_n hx hb d_Mo_begin_77 rfl (lv_at hl 1 rfl) ?_
    refine lv_iconst (v := 0) hx hb d_Mo_begin_78 (by decide) ?_
    refine zput (v := .int 0) hE hK hP hD hS 0 rfl fd_Mo_85 ft_Mo_17 rfl rfl (Nat.le_of_ble_eq_true rfl) d_Mo_begin_79 (fun H locs hP hD hS => ?_)
    have hP : va_P D zC [(m0, .inr (3, [.ref mk, .ref mt, .int kd, .ref wo, .int wn, .ref re, .int (4 * k), .int 1, .int 0, .int 0, .ref ro, .ref aa, .ref si, .ref so, .ref la, .int 0, .int 0, .int 0, .int tr, .ref ip, .ref oq, .ref cp, .int ni, .int no])), (re, .inl (cI, 32, .inl (zfl rg 0 32)))] _ := hP
    have hD : va_D A [(m0, .inr (3, [.ref mk, .ref mt, .int kd, .ref wo, .int wn, .ref re, .int (4 * k), .int 1, .int 0, .int 0, .ref ro, .ref aa, .ref si, .ref so, .ref la, .int 0, .int 0, .int 0, .int tr, .ref ip, .ref oq, .ref cp, .int ni, .int no])), (re, .inl (cI, 32, .inl (zfl rg 0 32)))] := hD
    refine lv_aload_n hx hb d_Mo_begin_82 rfl (lv_at hl 1 rfl) ?_
    refine lv_iconst (v := 0) hx hb d_Mo_begin_83 (by decide) ?_
    refine zput (v := .int 0) hE hK hP hD hS 0 rfl fd_Mo_77 ft_Mo_18 rfl rfl (Nat.le_of_ble_eq_true rfl) d_Mo_begin_84 (fun H locs hP hD hS => ?_)
    have hP : va_P D zC [(m0, .inr (3, [.ref mk, .ref mt, .int kd, .ref wo, .int wn, .ref re, .int (4 * k), .int 1, .int 0, .int 0, .ref ro, .ref aa, .ref si, .ref so, .ref la, .int 0, .int 0, .int 0, .int 0, .ref ip, .ref oq, .ref cp, .int ni, .int no])), (re, .inl (cI, 32, .inl (zfl rg 0 32)))] _ := hP
    have hD : va_D A [(m0, .inr (3, [.ref mk, .ref mt, .int kd, .ref wo, .int wn, .ref re, .int (4 * k), .int 1, .int 0, .int 0, .ref ro, .ref aa, .ref si, .ref so, .ref la, .int 0, .int 0, .int 0, .int 0, .ref ip, .ref oq, .ref cp, .int ni, .int no])), (re, .inl (cI, 32, .inl (zfl rg 0 32)))] := hD
    refine lv_aload_n hx hb d_Mo_begin_87 rfl (lv_at hl 1 rfl) ?_
    refine lv_iconst (v := 0) hx hb d_Mo_begin_88 (by decide) ?_
    refine zput (v := .int 0) hE hK hP hD hS 0 rfl fd_Mo_171 ft_Mo_23 rfl rfl (Nat.le_of_ble_eq_true rfl) d_Mo_begin_89 (fun H locs hP hD hS => ?_)
    have hP : va_P D zC [(m0, .inr (3, [.ref mk, .ref mt, .int kd, .ref wo, .int wn, .ref re, .int (4 * k), .int 1, .int 0, .int 0, .ref ro, .ref aa, .ref si, .ref so, .ref la, .int 0, .int 0, .int 0, .int 0, .ref ip, .ref oq, .ref cp, .int ni, .int 0])), (re, .inl (cI, 32, .inl (zfl rg 0 32)))] _ := hP
    have hD : va_D A [(m0, .inr (3, [.ref mk, .ref mt, .int kd, .ref wo, .int wn, .ref re, .int (4 * k), .int 1, .int 0, .int 0, .ref ro, .ref aa, .ref si, .ref so, .ref la, .int 0, .int 0, .int 0, .int 0, .ref ip, .ref oq, .ref cp, .int ni, .int 0])), (re, .inl (cI, 32, .inl (zfl rg 0 32)))] := hD
    have hP9 := hP.sub (ws' := [(m0, .inr (3, [.ref mk, .ref mt, .int kd, .ref wo, .int wn, .ref re, .int (4 * k), .int 1, .int 0, .int 0, .ref ro, .ref aa, .ref si, .ref so, .ref la, .int 0, .int 0, .int 0, .int 0, .ref ip, .ref oq, .ref cp, .int ni, .int 0])), (re, .inl (cI, 32, .inl (zfl rg 0 32)))]) [0, 1] rfl
    have hD9 := hD.sub (ws' := [(m0, .inr (3, [.ref mk, .ref mt, .int kd, .ref wo, .int wn, .ref re, .int (4 * k), .int 1, .int 0, .int 0, .ref ro, .ref aa, .ref si, .ref so, .ref la, .int 0, .int 0, .int 0, .int 0, .ref ip, .ref oq, .ref cp, .int ni, .int 0])), (re, .inl (cI, 32, .inl (zfl rg 0 32)))]) [0, 1] rfl rfl
    have hP8 := z_swP (q0 := 1) hP9 rfl (fun _ => 0) (fun j hj => if_pos hj)
    have hD8 := hD9.set (p := 1) (e := .inl (cI, 32, .inl (fun _ => 0))) rfl
    exact zretv hx hb hr hlocks hS () trivial rfl hP8 hD8 d_Mo_begin_92
  · have hlt : x < 32 := z_nle' (a := 32) (by omega) h4
    refine lv_aload_n hx hb d_Mo_begin_37 rfl (lv_at hl 1 rfl) ?_
    refine zget hE hK hP 0 rfl fd_Mo_19 rfl d_Mo_begin_38 ?_
    refine lv_iload_n hx hb d_Mo_begin_41 rfl (lv_at hl 0 rfl) ?_
    refine lv_iconst (v := 0) hx hb d_Mo_begin_42 (by decide) ?_
    refine va_iast hx hb hK hP hD hS 1 0 rfl rfl (vp_in_nI hlt (by omega)) d_Mo_begin_43 (fun H locs hP hD hS => ?_)
    have hP : va_P D zC [(m0, .inr (3, [.ref mk, .ref mt, .int kd, .ref wo, .int wn, .ref re, .int pc, .int sta, .int dn, .int 0, .ref ro, .ref aa, .ref si, .ref so, .ref la, .int md, .int lq, .int tp, .int tr, .ref ip, .ref oq, .ref cp, .int ni, .int no])), (re, .inl (cI, 32, .inl (upd (zfl rg 0 x) (nI x).toNatClampNeg 0)))] _ := hP
    have hD : va_D A [(m0, .inr (3, [.ref mk, .ref mt, .int kd, .ref wo, .int wn, .ref re, .int pc, .int sta, .int dn, .int 0, .ref ro, .ref aa, .ref si, .ref so, .ref la, .int md, .int lq, .int tp, .int tr, .ref ip, .ref oq, .ref cp, .int ni, .int no])), (re, .inl (cI, 32, .inl (upd (zfl rg 0 x) (nI x).toNatClampNeg 0)))] := hD
    rw [show ((upd (zfl rg 0 x) (nI x).toNatClampNeg 0) : Nat → Int32) = zfl rg 0 (x + 1) from by rw [nI_clamp (by omega), zfl_s]] at hP hD
    have hP : va_P D zC [(m0, .inr (3, [.ref mk, .ref mt, .int kd, .ref wo, .int wn, .ref re, .int pc, .int sta, .int dn, .int 0, .ref ro, .ref aa, .ref si, .ref so, .ref la, .int md, .int lq, .int tp, .int tr, .ref ip, .ref oq, .ref cp, .int ni, .int no])), (re, .inl (cI, 32, .inl (zfl rg 0 (x + 1))))] _ := hP
    have hD : va_D A [(m0, .inr (3, [.ref mk, .ref mt, .int kd, .ref wo, .int wn, .ref re, .int pc, .int sta, .int dn, .int 0, .ref ro, .ref aa, .ref si, .ref so, .ref la, .int md, .int lq, .int tp, .int tr, .ref ip, .ref oq, .ref cp, .int ni, .int no])), (re, .inl (cI, 32, .inl (zfl rg 0 (x + 1))))] := hD
    refine lv_iinc (k := 0) (v := (nI x) + 1) (lv' := [(2, .int ((nI x) + 1)), (0, .ref m0), (1, .int k)]) hx hb d_Mo_begin_44 hl rfl rfl (by decide) rfl (fun ls hl => ?_)
    refine lv_goto (tgt := 31) hx hb d_Mo_begin_47 (by decide) ?_
    rw [nI_1] at hl
    exact ih (j - 1) (x + 1) ls H locs 0 0 (by omega) ⟨⟨by omega, rfl, rfl⟩, hl, hP, hD, hS⟩
