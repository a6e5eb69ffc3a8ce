/-! decode rows -/
theorem d_Mo_run_0 : decode b_Mo_run 0 = .ok (.aload_n 0, 1) := by decide +kernel
theorem d_Mo_run_1 : decode b_Mo_run 1 = .ok (.iload_n 1, 1) := by decide +kernel
theorem d_Mo_run_2 : decode b_Mo_run 2 = .ok (.iconst 1, 1) := by decide +kernel
theorem d_Mo_run_3 : decode b_Mo_run 3 = .ok (.if_icmp .lt 10, 3) := by decide +kernel
theorem d_Mo_run_6 : decode b_Mo_run 6 = .ok (.iload_n 1, 1) := by decide +kernel
theorem d_Mo_run_7 : decode b_Mo_run 7 = .ok (.sipush 10000, 3) := by decide +kernel
theorem d_Mo_run_10 : decode b_Mo_run 10 = .ok (.if_icmp .le 7, 3) := by decide +kernel
theorem d_Mo_run_13 : decode b_Mo_run 13 = .ok (.iconst 1, 1) := by decide +kernel
theorem d_Mo_run_14 : decode b_Mo_run 14 = .ok (.goto 16, 3) := by decide +kernel
theorem d_Mo_run_17 : decode b_Mo_run 17 = .ok (.aload_n 0, 1) := by decide +kernel
theorem d_Mo_run_18 : decode b_Mo_run 18 = .ok (.getfield 97, 3) := by decide +kernel
theorem d_Mo_run_21 : decode b_Mo_run 21 = .ok (.iconst 1, 1) := by decide +kernel
theorem d_Mo_run_22 : decode b_Mo_run 22 = .ok (.if_icmp .eq 7, 3) := by decide +kernel
theorem d_Mo_run_25 : decode b_Mo_run 25 = .ok (.iconst 2, 1) := by decide +kernel
theorem d_Mo_run_26 : decode b_Mo_run 26 = .ok (.goto 4, 3) := by decide +kernel
theorem d_Mo_run_29 : decode b_Mo_run 29 = .ok (.iconst 0, 1) := by decide +kernel
theorem d_Mo_run_30 : decode b_Mo_run 30 = .ok (.putfield 62, 3) := by decide +kernel
theorem d_Mo_run_33 : decode b_Mo_run 33 = .ok (.aload_n 0, 1) := by decide +kernel
theorem d_Mo_run_34 : decode b_Mo_run 34 = .ok (.getfield 62, 3) := by decide +kernel
theorem d_Mo_run_37 : decode b_Mo_run 37 = .ok (.ifCond .le 5, 3) := by decide +kernel
theorem d_Mo_run_40 : decode b_Mo_run 40 = .ok (.iconst 0, 1) := by decide +kernel
theorem d_Mo_run_41 : decode b_Mo_run 41 = .ok (.ireturn, 1) := by decide +kernel
theorem d_Mo_run_42 : decode b_Mo_run 42 = .ok (.iconst 0, 1) := by decide +kernel
theorem d_Mo_run_43 : decode b_Mo_run 43 = .ok (.istore_n 2, 1) := by decide +kernel
theorem d_Mo_run_44 : decode b_Mo_run 44 = .ok (.iload_n 2, 1) := by decide +kernel
theorem d_Mo_run_45 : decode b_Mo_run 45 = .ok (.iload_n 1, 1) := by decide +kernel
theorem d_Mo_run_46 : decode b_Mo_run 46 = .ok (.if_icmp .ge 30, 3) := by decide +kernel
theorem d_Mo_run_49 : decode b_Mo_run 49 = .ok (.aload_n 0, 1) := by decide +kernel
theorem d_Mo_run_50 : decode b_Mo_run 50 = .ok (.getfield 97, 3) := by decide +kernel
theorem d_Mo_run_53 : decode b_Mo_run 53 = .ok (.iconst 1, 1) := by decide +kernel
theorem d_Mo_run_54 : decode b_Mo_run 54 = .ok (.if_icmp .ne 22, 3) := by decide +kernel
theorem d_Mo_run_57 : decode b_Mo_run 57 = .ok (.aload_n 0, 1) := by decide +kernel
theorem d_Mo_run_58 : decode b_Mo_run 58 = .ok (.invokevirtual 180, 3) := by decide +kernel
theorem d_Mo_run_61 : decode b_Mo_run 61 = .ok (.aload_n 0, 1) := by decide +kernel
theorem d_Mo_run_62 : decode b_Mo_run 62 = .ok (.getfield 97, 3) := by decide +kernel
theorem d_Mo_run_65 : decode b_Mo_run 65 = .ok (.bipush 10, 2) := by decide +kernel
theorem d_Mo_run_67 : decode b_Mo_run 67 = .ok (.if_icmp .ge (-23), 3) := by decide +kernel
theorem d_Mo_run_70 : decode b_Mo_run 70 = .ok (.iinc 2 1, 3) := by decide +kernel
theorem d_Mo_run_73 : decode b_Mo_run 73 = .ok (.goto (-29), 3) := by decide +kernel
theorem d_Mo_run_76 : decode b_Mo_run 76 = .ok (.aload_n 0, 1) := by decide +kernel
theorem d_Mo_run_77 : decode b_Mo_run 77 = .ok (.dup, 1) := by decide +kernel
theorem d_Mo_run_78 : decode b_Mo_run 78 = .ok (.getfield 177, 3) := by decide +kernel
theorem d_Mo_run_81 : decode b_Mo_run 81 = .ok (.iload_n 2, 1) := by decide +kernel
theorem d_Mo_run_82 : decode b_Mo_run 82 = .ok (.iadd, 1) := by decide +kernel
theorem d_Mo_run_83 : decode b_Mo_run 83 = .ok (.putfield 177, 3) := by decide +kernel
theorem d_Mo_run_86 : decode b_Mo_run 86 = .ok (.iload_n 2, 1) := by decide +kernel
theorem d_Mo_run_87 : decode b_Mo_run 87 = .ok (.ireturn, 1) := by decide +kernel

set_option maxHeartbeats 4000000 in
theorem t_Mo_begin (l : Launch) (D : va_G) (cI cB cJ : ClassId) (sz : Nat) (k : Int32) (m0 : Nat) (mk : Nat) (mt : Nat) (kd : Int32) (wo : Nat) (wn : Int32) (re : Nat) (pc : Int32) (sta : Int32) (dn : Int32) (th : Int32) (ro : Nat) (aa : Nat) (si : Nat) (so : Nat) (la : Nat) (md : Int32) (lq : Int32) (tp : Int32) (tr : Int32) (ip : Nat) (oq : Nat) (cp : Nat) (ni : Int32) (no : Int32) (hk : k < 0 ∨ wn ≤ k) : zMet l y_Mo_begin (zWs y_Mo_begin b_Mo_begin 3 (none)) { frames := 0, cells := 0, slots := 0, locals := 0 } (zPc D (zT cI cB cJ) sz [(m0, .inr (3, [.ref mk, .ref mt, .int kd, .ref wo, .int wn, .ref re, .int pc, .int sta, .int dn, .int th, .ref ro, .ref aa, .ref si, .ref so, .ref la, .int md, .int lq, .int tp, .int tr, .ref ip, .ref oq, .ref cp, .int ni, .int no]))] [.ref m0, .int k]) (zQv D (va_A [(m0, .inr (3, [.ref mk, .ref mt, .int kd, .ref wo, .int wn, .ref re, .int pc, .int sta, .int dn, .int th, .ref ro, .ref aa, .ref si, .ref so, .ref la, .int md, .int lq, .int tp, .int tr, .ref ip, .ref oq, .ref cp, .int ni, .int no]))] sz) (fun (_ : Unit) => True) (z0) (fun _ => [(m0, .inr (3, [.ref mk, .ref mt, .int kd, .ref wo, .int wn, .ref re, .int pc, .int sta, .int dn, .int 1, .ref ro, .ref aa, .ref si, .ref so, .ref la, .int md, .int lq, .int tp, .int tr, .ref ip, .ref oq, .ref cp, .int ni, .int no]))])) (va_A [(m0, .inr (3, [.ref mk, .ref mt, .int kd, .ref wo, .int wn, .ref re, .int pc, .int sta, .int dn, .int th, .ref ro, .ref aa, .ref si, .ref so, .ref la, .int md, .int lq, .int tp, .int tr, .ref ip, .ref oq, .ref cp, .int ni, .int no]))] sz) := by
  refine zstart (Qc := fun A => zQv D A (fun (_ : Unit) => True) (z0) (fun _ => [(m0, .inr (3, [.ref mk, .ref mt, .int kd, .ref wo, .int wn, .ref re, .int pc, .int sta, .int dn, .int 1, .ref ro, .ref aa, .ref si, .ref so, .ref la, .int md, .int lq, .int tp, .int tr, .ref ip, .ref oq, .ref cp, .int ni, .int no]))])) (by decide) (Nat.le_of_ble_eq_true rfl) ?_
  intro p e s m below meth c ls A hE hr hlocks hin hsz hK hP hD hS hA hAe hl
  have hx := hE.1
  have hb := hE.2.1
  have hown := hE.2.2.2.1
  have hw := hE.2.2.2.2
  have hl : lv_has ls 3 [(0, .ref m0), (1, .int k)] := hl
  refine lv_aload_n hx hb d_Mo_begin_0 rfl (lv_at hl 0 rfl) ?_
  refine lv_iload_n hx hb d_Mo_begin_1 rfl (lv_at hl 1 rfl) ?_
  refine lv_if_lt (tgt := 13) hx hb d_Mo_begin_2 (by decide) (fun h1 => ?_) (fun h1 => ?_)
  · refine lv_iconst (v := 1) hx hb d_Mo_begin_13 (by decide) ?_
    refine lv_goto (tgt := 18) hx hb d_Mo_begin_14 (by decide) ?_
    refine zput (v := .int 1) hE hK hP hD hS 0 rfl fd_Mo_62 ft_Mo_9 rfl rfl (Nat.le_of_ble_eq_true rfl) d_Mo_begin_18 (fun H locs hP hD hS => ?_)
    have hP : va_P D zC [(m0, .inr (3, [.ref mk, .ref mt, .int kd, .ref wo, .int wn, .ref re, .int pc, .int sta, .int dn, .int 1, .ref ro, .ref aa, .ref si, .ref so, .ref la, .int md, .int lq, .int tp, .int tr, .ref ip, .ref oq, .ref cp, .int ni, .int no]))] _ := hP
    have hD : va_D A [(m0, .inr (3, [.ref mk, .ref mt, .int kd, .ref wo, .int wn, .ref re, .int pc, .int sta, .int dn, .int 1, .ref ro, .ref aa, .ref si, .ref so, .ref la, .int md, .int lq, .int tp, .int tr, .ref ip, .ref oq, .ref cp, .int ni, .int no]))] := hD
    refine lv_aload_n hx hb d_Mo_begin_21 rfl (lv_at hl 0 rfl) ?_
    refine zget hE hK hP 0 rfl fd_Mo_62 rfl d_Mo_begin_22 ?_
    refine lv_if_le (tgt := 29) hx hb d_Mo_begin_25 (by decide) (fun h2 => (show False by revert h2; decide).elim) (fun h2 => ?_)
    have hP9 := hP.sub (ws' := [(m0, .inr (3, [.ref mk, .ref mt, .int kd, .ref wo, .int wn, .ref re, .int pc, .int sta, .int dn, .int 1, .ref ro, .ref aa, .ref si, .ref so, .ref la, .int md, .int lq, .int tp, .int tr, .ref ip, .ref oq, .ref cp, .int ni, .int no]))]) [0] rfl
    have hD9 := hD.sub (ws' := [(m0, .inr (3, [.ref mk, .ref mt, .int kd, .ref wo, .int wn, .ref re, .int pc, .int sta, .int dn, .int 1, .ref ro, .ref aa, .ref si, .ref so, .ref la, .int md, .int lq, .int tp, .int tr, .ref ip, .ref oq, .ref cp, .int ni, .int no]))]) [0] rfl rfl
    exact zretv hx hb hr hlocks hS () trivial rfl hP9 hD9 d_Mo_begin_28
  · refine lv_iload_n hx hb d_Mo_begin_5 rfl (lv_at hl 1 rfl) ?_
    refine lv_aload_n hx hb d_Mo_begin_6 rfl (lv_at hl 0 rfl) ?_
    refine zget hE hK hP 0 rfl fd_Mo_107 rfl d_Mo_begin_7 ?_
    refine lv_icmp_lt (tgt := 17) hx hb d_Mo_begin_10 (by decide) (fun h3 => (show False by exact hk.elim (fun q => absurd q ‹¬ k < 0›) (fun q => absurd h3 (Int32.not_lt.mpr q))).elim) (fun h3 => ?_)
    refine lv_iconst (v := 1) hx hb d_Mo_begin_13 (by decide) ?_
    refine lv_goto (tgt := 18) hx hb d_Mo_begin_14 (by decide) ?_
    refine zput (v := .int 1) hE hK hP hD hS 0 rfl fd_Mo_62 ft_Mo_9 rfl rfl (Nat.le_of_ble_eq_true rfl) d_Mo_begin_18 (fun H locs hP hD hS => ?_)
    have hP : va_P D zC [(m0, .inr (3, [.ref mk, .ref mt, .int kd, .ref wo, .int wn, .ref re, .int pc, .int sta, .int dn, .int 1, .ref ro, .ref aa, .ref si, .ref so, .ref la, .int md, .int lq, .int tp, .int tr, .ref ip, .ref oq, .ref cp, .int ni, .int no]))] _ := hP
    have hD : va_D A [(m0, .inr (3, [.ref mk, .ref mt, .int kd, .ref wo, .int wn, .ref re, .int pc, .int sta, .int dn, .int 1, .ref ro, .ref aa, .ref si, .ref so, .ref la, .int md, .int lq, .int tp, .int tr, .ref ip, .ref oq, .ref cp, .int ni, .int no]))] := hD
    refine lv_aload_n hx hb d_Mo_begin_21 rfl (lv_at hl 0 rfl) ?_
    refine zget hE hK hP 0 rfl fd_Mo_62 rfl d_Mo_begin_22 ?_
    refine lv_if_le (tgt := 29) hx hb d_Mo_begin_25 (by decide) (fun h4 => (show False by revert h4; decide).elim) (fun h4 => ?_)
    have hP9 := hP.sub (ws' := [(m0, .inr (3, [.ref mk, .ref mt, .int kd, .ref wo, .int wn, .ref re, .int pc, .int sta, .int dn, .int 1, .ref ro, .ref aa, .ref si, .ref so, .ref la, .int md, .int lq, .int tp, .int tr, .ref ip, .ref oq, .ref cp, .int ni, .int no]))]) [0] rfl
    have hD9 := hD.sub (ws' := [(m0, .inr (3, [.ref mk, .ref mt, .int kd, .ref wo, .int wn, .ref re, .int pc, .int sta, .int dn, .int 1, .ref ro, .ref aa, .ref si, .ref so, .ref la, .int md, .int lq, .int tp, .int tr, .ref ip, .ref oq, .ref cp, .int ni, .int no]))]) [0] rfl rfl
    exact zretv hx hb hr hlocks hS () trivial rfl hP9 hD9 d_Mo_begin_28

set_option maxHeartbeats 4000000 in
theorem t_Mo_input1 (l : Launch) (D : va_G) (cI cB cJ : ClassId) (sz : Nat) (w : Int64) (n0 : Int32) (m0 : Nat) (mk : Nat) (mt : Nat) (kd : Int32) (wo : Nat) (wn : Int32) (re : Nat) (pc : Int32) (sta : Int32) (dn : Int32) (th : Int32) (ro : Nat) (aa : Nat) (si : Nat) (so : Nat) (la : Nat) (md : Int32) (lq : Int32) (tp : Int32) (tr : Int32) (ip : Nat) (oq : Nat) (cp : Nat) (ni : Int32) (no : Int32) (hk : n0 < 0 ∨ 8 < n0) : zMet l y_Mo_input (zWs y_Mo_input b_Mo_input 5 (some .int)) { frames := 0, cells := 0, slots := 0, locals := 0 } (zPc D (zT cI cB cJ) sz [(m0, .inr (3, [.ref mk, .ref mt, .int kd, .ref wo, .int wn, .ref re, .int pc, .int sta, .int dn, .int th, .ref ro, .ref aa, .ref si, .ref so, .ref la, .int md, .int lq, .int tp, .int tr, .ref ip, .ref oq, .ref cp, .int ni, .int no]))] [.ref m0, .long w, .int n0]) (zQi D (va_A [(m0, .inr (3, [.ref mk, .ref mt, .int kd, .ref wo, .int wn, .ref re, .int pc, .int sta, .int dn, .int th, .ref ro, .ref aa, .ref si, .ref so, .ref la, .int md, .int lq, .int tp, .int tr, .ref ip, .ref oq, .ref cp, .int ni, .int no]))] sz) (fun r (_ : Unit) => r = 0) (z0) (fun _ => [(m0, .inr (3, [.ref mk, .ref mt, .int kd, .ref wo, .int wn, .ref re, .int pc, .int sta, .int dn, .int 1, .ref ro, .ref aa, .ref si, .ref so, .ref la, .int md, .int lq, .int tp, .int tr, .ref ip, .ref oq, .ref cp, .int ni, .int no]))])) (va_A [(m0, .inr (3, [.ref mk, .ref mt, .int kd, .ref wo, .int wn, .ref re, .int pc, .int sta, .int dn, .int th, .ref ro, .ref aa, .ref si, .ref so, .ref la, .int md, .int lq, .int tp, .int tr, .ref ip, .ref oq, .ref cp, .int ni, .int no]))] sz) := by
  refine zstart (Qc := fun A => zQi D A (fun r (_ : Unit) => r = 0) (z0) (fun _ => [(m0, .inr (3, [.ref mk, .ref mt, .int kd, .ref wo, .int wn, .ref re, .int pc, .int sta, .int dn, .int 1, .ref ro, .ref aa, .ref si, .ref so, .ref la, .int md, .int lq, .int tp, .int tr, .ref ip, .ref oq, .ref cp, .int ni, .int no]))])) (by decide) (Nat.le_of_ble_eq_true rfl) ?_
  intro p e s m below meth c ls A hE hr hlocks hin hsz hK hP hD hS hA hAe hl
  have hx := hE.1
  have hb := hE.2.1
  have hown := hE.2.2.2.1
  have hw := hE.2.2.2.2
  have hl : lv_has ls 5 [(0, .ref m0), (1, .long w), (3, .int n0)] := hl
  refine lv_aload_n hx hb d_Mo_input_0 rfl (lv_at hl 0 rfl) ?_
  refine lv_iload_n hx hb d_Mo_input_1 rfl (lv_at hl 2 rfl) ?_
  refine lv_if_lt (tgt := 11) hx hb d_Mo_input_2 (by decide) (fun h1 => ?_) (fun h1 => ?_)
  · refine lv_iconst (v := 1) hx hb d_Mo_input_11 (by decide) ?_
    refine lv_goto (tgt := 32) hx hb d_Mo_input_12 (by decide) ?_
    refine zput (v := .int 1) hE hK hP hD hS 0 rfl fd_Mo_62 ft_Mo_9 rfl rfl (Nat.le_of_ble_eq_true rfl) d_Mo_input_32 (fun H locs hP hD hS => ?_)
    have hP : va_P D zC [(m0, .inr (3, [.ref mk, .ref mt, .int kd, .ref wo, .int wn, .ref re, .int pc, .int sta, .int dn, .int 1, .ref ro, .ref aa, .ref si, .ref so, .ref la, .int md, .int lq, .int tp, .int tr, .ref ip, .ref oq, .ref cp, .int ni, .int no]))] _ := hP
    have hD : va_D A [(m0, .inr (3, [.ref mk, .ref mt, .int kd, .ref wo, .int wn, .ref re, .int pc, .int sta, .int dn, .int 1, .ref ro, .ref aa, .ref si, .ref so, .ref la, .int md, .int lq, .int tp, .int tr, .ref ip, .ref oq, .ref cp, .int ni, .int no]))] := hD
    refine lv_aload_n hx hb d_Mo_input_35 rfl (lv_at hl 0 rfl) ?_
    refine zget hE hK hP 0 rfl fd_Mo_62 rfl d_Mo_input_36 ?_
    refine lv_if_le (tgt := 44) hx hb d_Mo_input_39 (by decide) (fun h2 => (show False by revert h2; decide).elim) (fun h2 => ?_)
    refine lv_iconst (v := 0) hx hb d_Mo_input_42 (by decide) ?_
    have hP9 := hP.sub (ws' := [(m0, .inr (3, [.ref mk, .ref mt, .int kd, .ref wo, .int wn, .ref re, .int pc, .int sta, .int dn, .int 1, .ref ro, .ref aa, .ref si, .ref so, .ref la, .int md, .int lq, .int tp, .int tr, .ref ip, .ref oq, .ref cp, .int ni, .int no]))]) [0] rfl
    have hD9 := hD.sub (ws' := [(m0, .inr (3, [.ref mk, .ref mt, .int kd, .ref wo, .int wn, .ref re, .int pc, .int sta, .int dn, .int 1, .ref ro, .ref aa, .ref si, .ref so, .ref la, .int md, .int lq, .int tp, .int tr, .ref ip, .ref oq, .ref cp, .int ni, .int no]))]) [0] rfl rfl
    exact zreti hx hb hr rfl hlocks hS () rfl rfl hP9 hD9 d_Mo_input_43
  · refine lv_iload_n hx hb d_Mo_input_5 rfl (lv_at hl 2 rfl) ?_
    refine lv_bipush (v := 8) hx hb d_Mo_input_6 (by decide) ?_
    refine lv_icmp_le (tgt := 15) hx hb d_Mo_input_8 (by decide) (fun h3 => (show False by exact hk.elim (fun q => absurd q ‹¬ n0 < 0›) (fun q => absurd q (Int32.not_lt.mpr h3))).elim) (fun h3 => ?_)
    refine lv_iconst (v := 1) hx hb d_Mo_input_11 (by decide) ?_
    refine lv_goto (tgt := 32) hx hb d_Mo_input_12 (by decide) ?_
    refine zput (v := .int 1) hE hK hP hD hS 0 rfl fd_Mo_62 ft_Mo_9 rfl rfl (Nat.le_of_ble_eq_true rfl) d_Mo_input_32 (fun H locs hP hD hS => ?_)
    have hP : va_P D zC [(m0, .inr (3, [.ref mk, .ref mt, .int kd, .ref wo, .int wn, .ref re, .int pc, .int sta, .int dn, .int 1, .ref ro, .ref aa, .ref si, .ref so, .ref la, .int md, .int lq, .int tp, .int tr, .ref ip, .ref oq, .ref cp, .int ni, .int no]))] _ := hP
    have hD : va_D A [(m0, .inr (3, [.ref mk, .ref mt, .int kd, .ref wo, .int wn, .ref re, .int pc, .int sta, .int dn, .int 1, .ref ro, .ref aa, .ref si, .ref so, .ref la, .int md, .int lq, .int tp, .int tr, .ref ip, .ref oq, .ref cp, .int ni, .int no]))] := hD
    refine lv_aload_n hx hb d_Mo_input_35 rfl (lv_at hl 0 rfl) ?_
    refine zget hE hK hP 0 rfl fd_Mo_62 rfl d_Mo_input_36 ?_
    refine lv_if_le (tgt := 44) hx hb d_Mo_input_39 (by decide) (fun h4 => (show False by revert h4; decide).elim) (fun h4 => ?_)
    refine lv_iconst (v := 0) hx hb d_Mo_input_42 (by decide) ?_
    have hP9 := hP.sub (ws' := [(m0, .inr (3, [.ref mk, .ref mt, .int kd, .ref wo, .int wn, .ref re, .int pc, .int sta, .int dn, .int 1, .ref ro, .ref aa, .ref si, .ref so, .ref la, .int md, .int lq, .int tp, .int tr, .ref ip, .ref oq, .ref cp, .int ni, .int no]))]) [0] rfl
    have hD9 := hD.sub (ws' := [(m0, .inr (3, [.ref mk, .ref mt, .int kd, .ref wo, .int wn, .ref re, .int pc, .int sta, .int dn, .int 1, .ref ro, .ref aa, .ref si, .ref so, .ref la, .int md, .int lq, .int tp, .int tr, .ref ip, .ref oq, .ref cp, .int ni, .int no]))]) [0] rfl rfl
    exact zreti hx hb hr rfl hlocks hS () rfl rfl hP9 hD9 d_Mo_input_43

set_option maxHeartbeats 4000000 in
theorem t_Mo_input2 (l : Launch) (D : va_G) (cI cB cJ : ClassId) (sz : Nat) (w : Int64) (n0 : Int32) (m0 : Nat) (mk : Nat) (mt : Nat) (kd : Int32) (wo : Nat) (wn : Int32) (re : Nat) (pc : Int32) (sta : Int32) (dn : Int32) (th : Int32) (ro : Nat) (aa : Nat) (si : Nat) (so : Nat) (la : Nat) (md : Int32) (lq : Int32) (tp : Int32) (tr : Int32) (ip : Nat) (oq : Nat) (cp : Nat) (ni : Int32) (no : Int32) (hk1 : ¬ n0 < 0) (hk2 : n0 ≤ 8) (hk3 : ¬ ni + n0 ≤ 1000) : zMet l y_Mo_input (zWs y_Mo_input b_Mo_input 5 (some .int)) { frames := 0, cells := 0, slots := 0, locals := 0 } (zPc D (zT cI cB cJ) sz [(m0, .inr (3, [.ref mk, .ref mt, .int kd, .ref wo, .int wn, .ref re, .int pc, .int sta, .int dn, .int th, .ref ro, .ref aa, .ref si, .ref so, .ref la, .int md, .int lq, .int tp, .int tr, .ref ip, .ref oq, .ref cp, .int ni, .int no]))] [.ref m0, .long w, .int n0]) (zQi D (va_A [(m0, .inr (3, [.ref mk, .ref mt, .int kd, .ref wo, .int wn, .ref re, .int pc, .int sta, .int dn, .int th, .ref ro, .ref aa, .ref si, .ref so, .ref la, .int md, .int lq, .int tp, .int tr, .ref ip, .ref oq, .ref cp, .int ni, .int no]))] sz) (fun r (_ : Unit) => r = 0) (z0) (fun _ => [(m0, .inr (3, [.ref mk, .ref mt, .int kd, .ref wo, .int wn, .ref re, .int pc, .int sta, .int dn, .int 2, .ref ro, .ref aa, .ref si, .ref so, .ref la, .int md, .int lq, .int tp, .int tr, .ref ip, .ref oq, .ref cp, .int ni, .int no]))])) (va_A [(m0, .inr (3, [.ref mk, .ref mt, .int kd, .ref wo, .int wn, .ref re, .int pc, .int sta, .int dn, .int th, .ref ro, .ref aa, .ref si, .ref so, .ref la, .int md, .int lq, .int tp, .int tr, .ref ip, .ref oq, .ref cp, .int ni, .int no]))] sz) := by
  refine zstart (Qc := fun A => zQi D A (fun r (_ : Unit) => r = 0) (z0) (fun _ => [(m0, .inr (3, [.ref mk, .ref mt, .int kd, .ref wo, .int wn, .ref re, .int pc, .int sta, .int dn, .int 2, .ref ro, .ref aa, .ref si, .ref so, .ref la, .int md, .int lq, .int tp, .int tr, .ref ip, .ref oq, .ref cp, .int ni, .int no]))])) (by decide) (Nat.le_of_ble_eq_true rfl) ?_
  intro p e s m below meth c ls A hE hr hlocks hin hsz hK hP hD hS hA hAe hl
  have hx := hE.1
  have hb := hE.2.1
  have hown := hE.2.2.2.1
  have hw := hE.2.2.2.2
  have hl : lv_has ls 5 [(0, .ref m0), (1, .long w), (3, .int n0)] := hl
  refine lv_aload_n hx hb d_Mo_input_0 rfl (lv_at hl 0 rfl) ?_
  refine lv_iload_n hx hb d_Mo_input_1 rfl (lv_at hl 2 rfl) ?_
  refine lv_if_lt (tgt := 11) hx hb d_Mo_input_2 (by decide) (fun h1 => (show False by exact hk1 h1).elim) (fun h1 => ?_)
  refine lv_iload_n hx hb d_Mo_input_5 rfl (lv_at hl 2 rfl) ?_
  refine lv_bipush (v := 8) hx hb d_Mo_input_6 (by decide) ?_
  refine lv_icmp_le (tgt := 15) hx hb d_Mo_input_8 (by decide) (fun h2 => ?_) (fun h2 => (show False by exact h2 hk2).elim)
  refine lv_aload_n hx hb d_Mo_input_15 rfl (lv_at hl 0 rfl) ?_
  refine zget hE hK hP 0 rfl fd_Mo_174 rfl d_Mo_input_16 ?_
  refine lv_iload_n hx hb d_Mo_input_19 rfl (lv_at hl 2 rfl) ?_
  refine lv_iadd hx hb d_Mo_input_20 ?_
  refine lv_sipush (v := 1000) hx hb d_Mo_input_21 (by decide) ?_
  refine lv_icmp_le (tgt := 31) hx hb d_Mo_input_24 (by decide) (fun h3 => (show False by exact hk3 h3).elim) (fun h3 => ?_)
  refine lv_iconst (v := 2) hx hb d_Mo_input_27 (by decide) ?_
  refine lv_goto (tgt := 32) hx hb d_Mo_input_28 (by decide) ?_
  refine zput (v := .int 2) hE hK hP hD hS 0 rfl fd_Mo_62 ft_Mo_9 rfl rfl (Nat.le_of_ble_eq_true rfl) d_Mo_input_32 (fun H locs hP hD hS => ?_)
  have hP : va_P D zC [(m0, .inr (3, [.ref mk, .ref mt, .int kd, .ref wo, .int wn, .ref re, .int pc, .int sta, .int dn, .int 2, .ref ro, .ref aa, .ref si, .ref so, .ref la, .int md, .int lq, .int tp, .int tr, .ref ip, .ref oq, .ref cp, .int ni, .int no]))] _ := hP
  have hD : va_D A [(m0, .inr (3, [.ref mk, .ref mt, .int kd, .ref wo, .int wn, .ref re, .int pc, .int sta, .int dn, .int 2, .ref ro, .ref aa, .ref si, .ref so, .ref la, .int md, .int lq, .int tp, .int tr, .ref ip, .ref oq, .ref cp, .int ni, .int no]))] := hD
  refine lv_aload_n hx hb d_Mo_input_35 rfl (lv_at hl 0 rfl) ?_
  refine zget hE hK hP 0 rfl fd_Mo_62 rfl d_Mo_input_36 ?_
  refine lv_if_le (tgt := 44) hx hb d_Mo_input_39 (by decide) (fun h4 => (show False by revert h4; decide).elim) (fun h4 => ?_)
  refine lv_iconst (v := 0) hx hb d_Mo_input_42 (by decide) ?_
  have hP9 := hP.sub (ws' := [(m0, .inr (3, [.ref mk, .ref mt, .int kd, .ref wo, .int wn, .ref re, .int pc, .int sta, .int dn, .int 2, .ref ro, .ref aa, .ref si, .ref so, .ref la, .int md, .int lq, .int tp, .int tr, .ref ip, .ref oq, .ref cp, .int ni, .int no]))]) [0] rfl
  have hD9 := hD.sub (ws' := [(m0, .inr (3, [.ref mk, .ref mt, .int kd, .ref wo, .int wn, .ref re, .int pc, .int sta, .int dn, .int 2, .ref ro, .ref aa, .ref si, .ref so, .ref la, .int md, .int lq, .int tp, .int tr, .ref ip, .ref oq, .ref cp, .int ni, .int no]))]) [0] rfl rfl
  exact zreti hx hb hr rfl hlocks hS () rfl rfl hP9 hD9 d_Mo_input_43

set_option maxHeartbeats 4000000 in
theorem t_Mo_run1 (l : Launch) (D : va_G) (cI cB cJ : ClassId) (sz : Nat) (n0 : Int32) (m0 : Nat) (mk : Nat) (mt : Nat) (kd : Int32) (wo : Nat) (wn : Int32) (re : Nat) (pc : Int32) (sta : Int32) (dn : Int32) (th : Int32) (ro : Nat) (aa : Nat) (si : Nat) (so : Nat) (la : Nat) (md : Int32) (lq : Int32) (tp : Int32) (tr : Int32) (ip : Nat) (oq : Nat) (cp : Nat) (ni : Int32) (no : Int32) (hk : n0 < 1 ∨ 10000 < n0) : zMet l y_Mo_run (zWs y_Mo_run b_Mo_run 3 (some .int)) { frames := 5, cells := 0, slots := 0, locals := 151 } (zPc D (zT cI cB cJ) sz [(m0, .inr (3, [.ref mk, .ref mt, .int kd, .ref wo, .int wn, .ref re, .int pc, .int sta, .int dn, .int th, .ref ro, .ref aa, .ref si, .ref so, .ref la, .int md, .int lq, .int tp, .int tr, .ref ip, .ref oq, .ref cp, .int ni, .int no]))] [.ref m0, .int n0]) (zQi D (va_A [(m0, .inr (3, [.ref mk, .ref mt, .int kd, .ref wo, .int wn, .ref re, .int pc, .int sta, .int dn, .int th, .ref ro, .ref aa, .ref si, .ref so, .ref la, .int md, .int lq, .int tp, .int tr, .ref ip, .ref oq, .ref cp, .int ni, .int no]))] sz) (fun r (_ : Unit) => r = 0) (z0) (fun _ => [(m0, .inr (3, [.ref mk, .ref mt, .int kd, .ref wo, .int wn, .ref re, .int pc, .int sta, .int dn, .int 1, .ref ro, .ref aa, .ref si, .ref so, .ref la, .int md, .int lq, .int tp, .int tr, .ref ip, .ref oq, .ref cp, .int ni, .int no]))])) (va_A [(m0, .inr (3, [.ref mk, .ref mt, .int kd, .ref wo, .int wn, .ref re, .int pc, .int sta, .int dn, .int th, .ref ro, .ref aa, .ref si, .ref so, .ref la, .int md, .int lq, .int tp, .int tr, .ref ip, .ref oq, .ref cp, .int ni, .int no]))] sz) := by
  refine zstart (Qc := fun A => zQi D A (fun r (_ : Unit) => r = 0) (z0) (fun _ => [(m0, .inr (3, [.ref mk, .ref mt, .int kd, .ref wo, .int wn, .ref re, .int pc, .int sta, .int dn, .int 1, .ref ro, .ref aa, .ref si, .ref so, .ref la, .int md, .int lq, .int tp, .int tr, .ref ip, .ref oq, .ref cp, .int ni, .int no]))])) (by decide) (Nat.le_of_ble_eq_true rfl) ?_
  intro p e s m below meth c ls A hE hr hlocks hin hsz hK hP hD hS hA hAe hl
  have hx := hE.1
  have hb := hE.2.1
  have hown := hE.2.2.2.1
  have hw := hE.2.2.2.2
  have hl : lv_has ls 3 [(0, .ref m0), (1, .int n0)] := hl
  refine lv_aload_n hx hb d_Mo_run_0 rfl (lv_at hl 0 rfl) ?_
  refine lv_iload_n hx hb d_Mo_run_1 rfl (lv_at hl 1 rfl) ?_
  refine lv_iconst (v := 1) hx hb d_Mo_run_2 (by decide) ?_
  refine lv_icmp_lt (tgt := 13) hx hb d_Mo_run_3 (by decide) (fun h1 => ?_) (fun h1 => ?_)
  · refine lv_iconst (v := 1) hx hb d_Mo_run_13 (by decide) ?_
    refine lv_goto (tgt := 30) hx hb d_Mo_run_14 (by decide) ?_
    refine zput (v := .int 1) hE hK hP hD hS 0 rfl fd_Mo_62 ft_Mo_9 rfl rfl (Nat.le_of_ble_eq_true rfl) d_Mo_run_30 (fun H locs hP hD hS => ?_)
    have hP : va_P D zC [(m0, .inr (3, [.ref mk, .ref mt, .int kd, .ref wo, .int wn, .ref re, .int pc, .int sta, .int dn, .int 1, .ref ro, .ref aa, .ref si, .ref so, .ref la, .int md, .int lq, .int tp, .int tr, .ref ip, .ref oq, .ref cp, .int ni, .int no]))] _ := hP
    have hD : va_D A [(m0, .inr (3, [.ref mk, .ref mt, .int kd, .ref wo, .int wn, .ref re, .int pc, .int sta, .int dn, .int 1, .ref ro, .ref aa, .ref si, .ref so, .ref la, .int md, .int lq, .int tp, .int tr, .ref ip, .ref oq, .ref cp, .int ni, .int no]))] := hD
    refine lv_aload_n hx hb d_Mo_run_33 rfl (lv_at hl 0 rfl) ?_
    refine zget hE hK hP 0 rfl fd_Mo_62 rfl d_Mo_run_34 ?_
    refine lv_if_le (tgt := 42) hx hb d_Mo_run_37 (by decide) (fun h2 => (show False by revert h2; decide).elim) (fun h2 => ?_)
    refine lv_iconst (v := 0) hx hb d_Mo_run_40 (by decide) ?_
    have hP9 := hP.sub (ws' := [(m0, .inr (3, [.ref mk, .ref mt, .int kd, .ref wo, .int wn, .ref re, .int pc, .int sta, .int dn, .int 1, .ref ro, .ref aa, .ref si, .ref so, .ref la, .int md, .int lq, .int tp, .int tr, .ref ip, .ref oq, .ref cp, .int ni, .int no]))]) [0] rfl
    have hD9 := hD.sub (ws' := [(m0, .inr (3, [.ref mk, .ref mt, .int kd, .ref wo, .int wn, .ref re, .int pc, .int sta, .int dn, .int 1, .ref ro, .ref aa, .ref si, .ref so, .ref la, .int md, .int lq, .int tp, .int tr, .ref ip, .ref oq, .ref cp, .int ni, .int no]))]) [0] rfl rfl
    exact zreti hx hb hr rfl hlocks hS () rfl rfl hP9 hD9 d_Mo_run_41
  · refine lv_iload_n hx hb d_Mo_run_6 rfl (lv_at hl 1 rfl) ?_
    refine lv_sipush (v := 10000) hx hb d_Mo_run_7 (by decide) ?_
    refine lv_icmp_le (tgt := 17) hx hb d_Mo_run_10 (by decide) (fun h3 => (show False by exact hk.elim (fun q => absurd q ‹¬ n0 < 1›) (fun q => absurd q (Int32.not_lt.mpr h3))).elim) (fun h3 => ?_)
    refine lv_iconst (v := 1) hx hb d_Mo_run_13 (by decide) ?_
    refine lv_goto (tgt := 30) hx hb d_Mo_run_14 (by decide) ?_
    refine zput (v := .int 1) hE hK hP hD hS 0 rfl fd_Mo_62 ft_Mo_9 rfl rfl (Nat.le_of_ble_eq_true rfl) d_Mo_run_30 (fun H locs hP hD hS => ?_)
    have hP : va_P D zC [(m0, .inr (3, [.ref mk, .ref mt, .int kd, .ref wo, .int wn, .ref re, .int pc, .int sta, .int dn, .int 1, .ref ro, .ref aa, .ref si, .ref so, .ref la, .int md, .int lq, .int tp, .int tr, .ref ip, .ref oq, .ref cp, .int ni, .int no]))] _ := hP
    have hD : va_D A [(m0, .inr (3, [.ref mk, .ref mt, .int kd, .ref wo, .int wn, .ref re, .int pc, .int sta, .int dn, .int 1, .ref ro, .ref aa, .ref si, .ref so, .ref la, .int md, .int lq, .int tp, .int tr, .ref ip, .ref oq, .ref cp, .int ni, .int no]))] := hD
    refine lv_aload_n hx hb d_Mo_run_33 rfl (lv_at hl 0 rfl) ?_
    refine zget hE hK hP 0 rfl fd_Mo_62 rfl d_Mo_run_34 ?_
    refine lv_if_le (tgt := 42) hx hb d_Mo_run_37 (by decide) (fun h4 => (show False by revert h4; decide).elim) (fun h4 => ?_)
    refine lv_iconst (v := 0) hx hb d_Mo_run_40 (by decide) ?_
    have hP9 := hP.sub (ws' := [(m0, .inr (3, [.ref mk, .ref mt, .int kd, .ref wo, .int wn, .ref re, .int pc, .int sta, .int dn, .int 1, .ref ro, .ref aa, .ref si, .ref so, .ref la, .int md, .int lq, .int tp, .int tr, .ref ip, .ref oq, .ref cp, .int ni, .int no]))]) [0] rfl
    have hD9 := hD.sub (ws' := [(m0, .inr (3, [.ref mk, .ref mt, .int kd, .ref wo, .int wn, .ref re, .int pc, .int sta, .int dn, .int 1, .ref ro, .ref aa, .ref si, .ref so, .ref la, .int md, .int lq, .int tp, .int tr, .ref ip, .ref oq, .ref cp, .int ni, .int no]))]) [0] rfl rfl
    exact zreti hx hb hr rfl hlocks hS () rfl rfl hP9 hD9 d_Mo_run_41

set_option maxHeartbeats 4000000 in
theorem t_Mo_run2 (l : Launch) (D : va_G) (cI cB cJ : ClassId) (sz : Nat) (n0 : Int32) (m0 : Nat) (mk : Nat) (mt : Nat) (kd : Int32) (wo : Nat) (wn : Int32) (re : Nat) (pc : Int32) (sta : Int32) (dn : Int32) (th : Int32) (ro : Nat) (aa : Nat) (si : Nat) (so : Nat) (la : Nat) (md : Int32) (lq : Int32) (tp : Int32) (tr : Int32) (ip : Nat) (oq : Nat) (cp : Nat) (ni : Int32) (no : Int32) (hk1 : ¬ n0 < 1) (hk2 : n0 ≤ 10000) (hk3 : ¬ sta = 1) : zMet l y_Mo_run (zWs y_Mo_run b_Mo_run 3 (some .int)) { frames := 5, cells := 0, slots := 0, locals := 151 } (zPc D (zT cI cB cJ) sz [(m0, .inr (3, [.ref mk, .ref mt, .int kd, .ref wo, .int wn, .ref re, .int pc, .int sta, .int dn, .int th, .ref ro, .ref aa, .ref si, .ref so, .ref la, .int md, .int lq, .int tp, .int tr, .ref ip, .ref oq, .ref cp, .int ni, .int no]))] [.ref m0, .int n0]) (zQi D (va_A [(m0, .inr (3, [.ref mk, .ref mt, .int kd, .ref wo, .int wn, .ref re, .int pc, .int sta, .int dn, .int th, .ref ro, .ref aa, .ref si, .ref so, .ref la, .int md, .int lq, .int tp, .int tr, .ref ip, .ref oq, .ref cp, .int ni, .int no]))] sz) (fun r (_ : Unit) => r = 0) (z0) (fun _ => [(m0, .inr (3, [.ref mk, .ref mt, .int kd, .ref wo, .int wn, .ref re, .int pc, .int sta, .int dn, .int 2, .ref ro, .ref aa, .ref si, .ref so, .ref la, .int md, .int lq, .int tp, .int tr, .ref ip, .ref oq, .ref cp, .int ni, .int no]))])) (va_A [(m0, .inr (3, [.ref mk, .ref mt, .int kd, .ref wo, .int wn, .ref re, .int pc, .int sta, .int dn, .int th, .ref ro, .ref aa, .ref si, .ref so, .ref la, .int md, .int lq, .int tp, .int tr, .ref ip, .ref oq, .ref cp, .int ni, .int no]))] sz) := by
  refine zstart (Qc := fun A => zQi D A (fun r (_ : Unit) => r = 0) (z0) (fun _ => [(m0, .inr (3, [.ref mk, .ref mt, .int kd, .ref wo, .int wn, .ref re, .int pc, .int sta, .int dn, .int 2, .ref ro, .ref aa, .ref si, .ref so, .ref la, .int md, .int lq, .int tp, .int tr, .ref ip, .ref oq, .ref cp, .int ni, .int no]))])) (by decide) (Nat.le_of_ble_eq_true rfl) ?_
  intro p e s m below meth c ls A hE hr hlocks hin hsz hK hP hD hS hA hAe hl
  have hx := hE.1
  have hb := hE.2.1
  have hown := hE.2.2.2.1
  have hw := hE.2.2.2.2
  have hl : lv_has ls 3 [(0, .ref m0), (1, .int n0)] := hl
  refine lv_aload_n hx hb d_Mo_run_0 rfl (lv_at hl 0 rfl) ?_
  refine lv_iload_n hx hb d_Mo_run_1 rfl (lv_at hl 1 rfl) ?_
  refine lv_iconst (v := 1) hx hb d_Mo_run_2 (by decide) ?_
  refine lv_icmp_lt (tgt := 13) hx hb d_Mo_run_3 (by decide) (fun h1 => (show False by exact hk1 h1).elim) (fun h1 => ?_)
  refine lv_iload_n hx hb d_Mo_run_6 rfl (lv_at hl 1 rfl) ?_
  refine lv_sipush (v := 10000) hx hb d_Mo_run_7 (by decide) ?_
  refine lv_icmp_le (tgt := 17) hx hb d_Mo_run_10 (by decide) (fun h2 => ?_) (fun h2 => (show False by exact h2 hk2).elim)
  refine lv_aload_n hx hb d_Mo_run_17 rfl (lv_at hl 0 rfl) ?_
  refine zget hE hK hP 0 rfl fd_Mo_97 rfl d_Mo_run_18 ?_
  refine lv_iconst (v := 1) hx hb d_Mo_run_21 (by decide) ?_
  refine lv_icmp_eq (tgt := 29) hx hb d_Mo_run_22 (by decide) (fun h3 => (show False by exact hk3 h3).elim) (fun h3 => ?_)
  refine lv_iconst (v := 2) hx hb d_Mo_run_25 (by decide) ?_
  refine lv_goto (tgt := 30) hx hb d_Mo_run_26 (by decide) ?_
  refine zput (v := .int 2) hE hK hP hD hS 0 rfl fd_Mo_62 ft_Mo_9 rfl rfl (Nat.le_of_ble_eq_true rfl) d_Mo_run_30 (fun H locs hP hD hS => ?_)
  have hP : va_P D zC [(m0, .inr (3, [.ref mk, .ref mt, .int kd, .ref wo, .int wn, .ref re, .int pc, .int sta, .int dn, .int 2, .ref ro, .ref aa, .ref si, .ref so, .ref la, .int md, .int lq, .int tp, .int tr, .ref ip, .ref oq, .ref cp, .int ni, .int no]))] _ := hP
  have hD : va_D A [(m0, .inr (3, [.ref mk, .ref mt, .int kd, .ref wo, .int wn, .ref re, .int pc, .int sta, .int dn, .int 2, .ref ro, .ref aa, .ref si, .ref so, .ref la, .int md, .int lq, .int tp, .int tr, .ref ip, .ref oq, .ref cp, .int ni, .int no]))] := hD
  refine lv_aload_n hx hb d_Mo_run_33 rfl (lv_at hl 0 rfl) ?_
  refine zget hE hK hP 0 rfl fd_Mo_62 rfl d_Mo_run_34 ?_
  refine lv_if_le (tgt := 42) hx hb d_Mo_run_37 (by decide) (fun h4 => (show False by revert h4; decide).elim) (fun h4 => ?_)
  refine lv_iconst (v := 0) hx hb d_Mo_run_40 (by decide) ?_
  have hP9 := hP.sub (ws' := [(m0, .inr (3, [.ref mk, .ref mt, .int kd, .ref wo, .int wn, .ref re, .int pc, .int sta, .int dn, .int 2, .ref ro, .ref aa, .ref si, .ref so, .ref la, .int md, .int lq, .int tp, .int tr, .ref ip, .ref oq, .ref cp, .int ni, .int no]))]) [0] rfl
  have hD9 := hD.sub (ws' := [(m0, .inr (3, [.ref mk, .ref mt, .int kd, .ref wo, .int wn, .ref re, .int pc, .int sta, .int dn, .int 2, .ref ro, .ref aa, .ref si, .ref so, .ref la, .int md, .int lq, .int tp, .int tr, .ref ip, .ref oq, .ref cp, .int ni, .int no]))]) [0] rfl rfl
  exact zreti hx hb hr rfl hlocks hS () rfl rfl hP9 hD9 d_Mo_run_41
