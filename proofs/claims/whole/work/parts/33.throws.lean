theorem xi_ISE : Cond.instantiable "java/lang/IllegalStateException" 6 ∈ zW := zt_1 161 rfl rfl
theorem xn_ISE : Cond.initialized "java/lang/IllegalStateException" ∈ zW := zt_1 8 rfl rfl
theorem xi_IOB : Cond.instantiable "java/lang/IndexOutOfBoundsException" 6 ∈ zW := zt_2 12 rfl rfl
theorem xn_IOB : Cond.initialized "java/lang/IndexOutOfBoundsException" ∈ zW := zt_1 12 rfl rfl
theorem xi_IAE : Cond.instantiable "java/lang/IllegalArgumentException" 6 ∈ zW := zt_2 53 rfl rfl
theorem xn_IAE : Cond.initialized "java/lang/IllegalArgumentException" ∈ zW := zt_1 13 rfl rfl
set_option maxHeartbeats 4000000 in
theorem t_Rv_word (l : Launch) (htr : l.stackTraces = false) (D : va_G) (cI cB cJ : ClassId) (sz : Nat) (w : Int32) (x : Nat) (wa : Nat) (wc : Int32) (ra : Nat) (ma : Nat) (ua : Nat) (oa : Nat) (ph : Int32) (dn : Int32) (nx : Int32) (fo : Int32) (ht : 4000 ≤ wc.toInt) : xMet l y_Rv_word (zWs y_Rv_word b_Rv_word 2 (some .int)) { frames := 6, cells := 1, slots := 6, locals := 110 } (xPc D (zT cI cB cJ) sz [(x, .inr (0, [.ref wa, .int wc, .ref ra, .ref ma, .ref ua, .ref oa, .int ph, .int dn, .int nx, .int fo]))] [.ref x, .int w]) "java/lang/IllegalStateException" := by
  refine xstart (by decide) (Nat.le_of_ble_eq_true rfl) ?_
  intro p e s m below meth c ls hE hlocks hno hK hP hst hl
  have hx := hE.1
  have hb := hE.2.1
  have hown := hE.2.2.2.1
  have hw := hE.2.2.2.2
  have hl : lv_has ls 2 [(0, .ref x), (1, .int w)] := hl
  refine lv_aload_n hx hb d_Rv_word_0 rfl (lv_at hl 0 rfl) ?_
  refine zget hE hK hP 0 rfl fd_Rv_39 rfl d_Rv_word_1 ?_
  refine lv_sipush (v := 4000) hx hb d_Rv_word_4 (by decide) ?_
  refine lv_icmp_lt (tgt := 18) hx hb d_Rv_word_7 (by decide) (fun h1 => (show False by have q1 := z_lt h1; have k4000 : ((4000) : Int32).toInt = 4000 := (by decide); omega).elim) (fun h1 => ?_)
  exact xthrow hE htr hlocks hno cl_Rv_42 xi_ISE xn_ISE (by decide) (by decide) (xa_44.all hw hst) hl.1 d_Rv_word_10 d_Rv_word_13 d_Rv_word_14 d_Rv_word_17 (Nat.le_of_ble_eq_true rfl) ⟨Nat.le_of_ble_eq_true rfl, Nat.le_of_ble_eq_true rfl, Nat.le_of_ble_eq_true rfl, Nat.le_of_ble_eq_true rfl⟩

set_option maxHeartbeats 4000000 in
theorem t_Rv_change (l : Launch) (htr : l.stackTraces = false) (D : va_G) (cI cB cJ : ClassId) (sz : Nat) (k : Int32) (w : Int32) (x : Nat) (wa : Nat) (wc : Int32) (ra : Nat) (ma : Nat) (ua : Nat) (oa : Nat) (ph : Int32) (dn : Int32) (nx : Int32) (fo : Int32) (ht : k.toInt < 0 ∨ wc.toInt ≤ k.toInt) : xMet l y_Rv_change (zWs y_Rv_change b_Rv_change 4 (some .int)) { frames := 6, cells := 1, slots := 6, locals := 110 } (xPc D (zT cI cB cJ) sz [(x, .inr (0, [.ref wa, .int wc, .ref ra, .ref ma, .ref ua, .ref oa, .int ph, .int dn, .int nx, .int fo]))] [.ref x, .int k, .int w]) "java/lang/IndexOutOfBoundsException" := by
  refine xstart (by decide) (Nat.le_of_ble_eq_true rfl) ?_
  intro p e s m below meth c ls hE hlocks hno hK hP hst hl
  have hx := hE.1
  have hb := hE.2.1
  have hown := hE.2.2.2.1
  have hw := hE.2.2.2.2
  have hl : lv_has ls 4 [(0, .ref x), (1, .int k), (2, .int w)] := hl
  refine lv_iload_n hx hb d_Rv_change_0 rfl (lv_at hl 1 rfl) ?_
  refine lv_if_lt (tgt := 12) hx hb d_Rv_change_1 (by decide) (fun h1 => ?_) (fun h1 => ?_)
  · exact xthrow hE htr hlocks hno cl_Rv_49 xi_IOB xn_IOB (by decide) (by decide) (xa_51.all hw hst) hl.1 d_Rv_change_12 d_Rv_change_15 d_Rv_change_16 d_Rv_change_19 (Nat.le_of_ble_eq_true rfl) ⟨Nat.le_of_ble_eq_true rfl, Nat.le_of_ble_eq_true rfl, Nat.le_of_ble_eq_true rfl, Nat.le_of_ble_eq_true rfl⟩
  · refine lv_iload_n hx hb d_Rv_change_4 rfl (lv_at hl 1 rfl) ?_
    refine lv_aload_n hx hb d_Rv_change_5 rfl (lv_at hl 0 rfl) ?_
    refine zget hE hK hP 0 rfl fd_Rv_39 rfl d_Rv_change_6 ?_
    refine lv_icmp_lt (tgt := 20) hx hb d_Rv_change_9 (by decide) (fun h2 => (show False by have q1 := z_nlt h1; have q2 := z_lt h2; have k0 : ((0) : Int32).toInt = 0 := (by decide); omega).elim) (fun h2 => ?_)
    exact xthrow hE htr hlocks hno cl_Rv_49 xi_IOB xn_IOB (by decide) (by decide) (xa_51.all hw hst) hl.1 d_Rv_change_12 d_Rv_change_15 d_Rv_change_16 d_Rv_change_19 (Nat.le_of_ble_eq_true rfl) ⟨Nat.le_of_ble_eq_true rfl, Nat.le_of_ble_eq_true rfl, Nat.le_of_ble_eq_true rfl, Nat.le_of_ble_eq_true rfl⟩

set_option maxHeartbeats 4000000 in
theorem t_Rv_begin (l : Launch) (htr : l.stackTraces = false) (D : va_G) (cI cB cJ : ClassId) (sz : Nat) (k : Int32) (x : Nat) (wa : Nat) (wc : Int32) (ra : Nat) (ma : Nat) (ua : Nat) (oa : Nat) (ph : Int32) (dn : Int32) (nx : Int32) (fo : Int32) (ht : k.toInt < 0 ∨ wc.toInt ≤ k.toInt) : xMet l y_Rv_begin (zWs y_Rv_begin b_Rv_begin 2 (none)) { frames := 6, cells := 1, slots := 6, locals := 110 } (xPc D (zT cI cB cJ) sz [(x, .inr (0, [.ref wa, .int wc, .ref ra, .ref ma, .ref ua, .ref oa, .int ph, .int dn, .int nx, .int fo]))] [.ref x, .int k]) "java/lang/IndexOutOfBoundsException" := by
  refine xstart (by decide) (Nat.le_of_ble_eq_true rfl) ?_
  intro p e s m below meth c ls hE hlocks hno hK hP hst hl
  have hx := hE.1
  have hb := hE.2.1
  have hown := hE.2.2.2.1
  have hw := hE.2.2.2.2
  have hl : lv_has ls 2 [(0, .ref x), (1, .int k)] := hl
  refine lv_iload_n hx hb d_Rv_begin_0 rfl (lv_at hl 1 rfl) ?_
  refine lv_if_lt (tgt := 12) hx hb d_Rv_begin_1 (by decide) (fun h1 => ?_) (fun h1 => ?_)
  · exact xthrow hE htr hlocks hno cl_Rv_49 xi_IOB xn_IOB (by decide) (by decide) (xa_51.all hw hst) hl.1 d_Rv_begin_12 d_Rv_begin_15 d_Rv_begin_16 d_Rv_begin_19 (Nat.le_of_ble_eq_true rfl) ⟨Nat.le_of_ble_eq_true rfl, Nat.le_of_ble_eq_true rfl, Nat.le_of_ble_eq_true rfl, Nat.le_of_ble_eq_true rfl⟩
  · refine lv_iload_n hx hb d_Rv_begin_4 rfl (lv_at hl 1 rfl) ?_
    refine lv_aload_n hx hb d_Rv_begin_5 rfl (lv_at hl 0 rfl) ?_
    refine zget hE hK hP 0 rfl fd_Rv_39 rfl d_Rv_begin_6 ?_
    refine lv_icmp_lt (tgt := 20) hx hb d_Rv_begin_9 (by decide) (fun h2 => (show False by have q1 := z_nlt h1; have q2 := z_lt h2; have k0 : ((0) : Int32).toInt = 0 := (by decide); omega).elim) (fun h2 => ?_)
    exact xthrow hE htr hlocks hno cl_Rv_49 xi_IOB xn_IOB (by decide) (by decide) (xa_51.all hw hst) hl.1 d_Rv_begin_12 d_Rv_begin_15 d_Rv_begin_16 d_Rv_begin_19 (Nat.le_of_ble_eq_true rfl) ⟨Nat.le_of_ble_eq_true rfl, Nat.le_of_ble_eq_true rfl, Nat.le_of_ble_eq_true rfl, Nat.le_of_ble_eq_true rfl⟩

set_option maxHeartbeats 4000000 in
theorem t_Rv_register (l : Launch) (htr : l.stackTraces = false) (D : va_G) (cI cB cJ : ClassId) (sz : Nat) (k : Int32) (x : Nat) (wa : Nat) (wc : Int32) (ra : Nat) (ma : Nat) (ua : Nat) (oa : Nat) (ph : Int32) (dn : Int32) (nx : Int32) (fo : Int32) (ht : k.toInt < 0 ∨ 32 < k.toInt) : xMet l y_Rv_register (zWs y_Rv_register b_Rv_register 2 (some .int)) { frames := 6, cells := 1, slots := 6, locals := 110 } (xPc D (zT cI cB cJ) sz [(x, .inr (0, [.ref wa, .int wc, .ref ra, .ref ma, .ref ua, .ref oa, .int ph, .int dn, .int nx, .int fo]))] [.ref x, .int k]) "java/lang/IndexOutOfBoundsException" := by
  refine xstart (by decide) (Nat.le_of_ble_eq_true rfl) ?_
  intro p e s m below meth c ls hE hlocks hno hK hP hst hl
  have hx := hE.1
  have hb := hE.2.1
  have hown := hE.2.2.2.1
  have hw := hE.2.2.2.2
  have hl : lv_has ls 2 [(0, .ref x), (1, .int k)] := hl
  refine lv_iload_n hx hb d_Rv_register_0 rfl (lv_at hl 1 rfl) ?_
  refine lv_if_lt (tgt := 10) hx hb d_Rv_register_1 (by decide) (fun h1 => ?_) (fun h1 => ?_)
  · exact xthrow hE htr hlocks hno cl_Rv_49 xi_IOB xn_IOB (by decide) (by decide) (xa_51.all hw hst) hl.1 d_Rv_register_10 d_Rv_register_13 d_Rv_register_14 d_Rv_register_17 (Nat.le_of_ble_eq_true rfl) ⟨Nat.le_of_ble_eq_true rfl, Nat.le_of_ble_eq_true rfl, Nat.le_of_ble_eq_true rfl, Nat.le_of_ble_eq_true rfl⟩
  · refine lv_iload_n hx hb d_Rv_register_4 rfl (lv_at hl 1 rfl) ?_
    refine lv_bipush (v := 32) hx hb d_Rv_register_5 (by decide) ?_
    refine lv_icmp_le (tgt := 18) hx hb d_Rv_register_7 (by decide) (fun h2 => (show False by have q1 := z_nlt h1; have q2 := z_le h2; have k0 : ((0) : Int32).toInt = 0 := (by decide); have k32 : ((32) : Int32).toInt = 32 := (by decide); omega).elim) (fun h2 => ?_)
    exact xthrow hE htr hlocks hno cl_Rv_49 xi_IOB xn_IOB (by decide) (by decide) (xa_51.all hw hst) hl.1 d_Rv_register_10 d_Rv_register_13 d_Rv_register_14 d_Rv_register_17 (Nat.le_of_ble_eq_true rfl) ⟨Nat.le_of_ble_eq_true rfl, Nat.le_of_ble_eq_true rfl, Nat.le_of_ble_eq_true rfl, Nat.le_of_ble_eq_true rfl⟩

set_option maxHeartbeats 4000000 in
theorem t_Rv_set (l : Launch) (htr : l.stackTraces = false) (D : va_G) (cI cB cJ : ClassId) (sz : Nat) (k : Int32) (v : Int32) (x : Nat) (wa : Nat) (wc : Int32) (ra : Nat) (ma : Nat) (ua : Nat) (oa : Nat) (ph : Int32) (dn : Int32) (nx : Int32) (fo : Int32) (ht : k.toInt < 1 ∨ 31 < k.toInt) : xMet l y_Rv_set (zWs y_Rv_set b_Rv_set 4 (some .int)) { frames := 6, cells := 1, slots := 6, locals := 110 } (xPc D (zT cI cB cJ) sz [(x, .inr (0, [.ref wa, .int wc, .ref ra, .ref ma, .ref ua, .ref oa, .int ph, .int dn, .int nx, .int fo]))] [.ref x, .int k, .int v]) "java/lang/IndexOutOfBoundsException" := by
  refine xstart (by decide) (Nat.le_of_ble_eq_true rfl) ?_
  intro p e s m below meth c ls hE hlocks hno hK hP hst hl
  have hx := hE.1
  have hb := hE.2.1
  have hown := hE.2.2.2.1
  have hw := hE.2.2.2.2
  have hl : lv_has ls 4 [(0, .ref x), (1, .int k), (2, .int v)] := hl
  refine lv_iload_n hx hb d_Rv_set_0 rfl (lv_at hl 1 rfl) ?_
  refine lv_iconst (v := 1) hx hb d_Rv_set_1 (by decide) ?_
  refine lv_icmp_lt (tgt := 11) hx hb d_Rv_set_2 (by decide) (fun h1 => ?_) (fun h1 => ?_)
  · exact xthrow hE htr hlocks hno cl_Rv_49 xi_IOB xn_IOB (by decide) (by decide) (xa_51.all hw hst) hl.1 d_Rv_set_11 d_Rv_set_14 d_Rv_set_15 d_Rv_set_18 (Nat.le_of_ble_eq_true rfl) ⟨Nat.le_of_ble_eq_true rfl, Nat.le_of_ble_eq_true rfl, Nat.le_of_ble_eq_true rfl, Nat.le_of_ble_eq_true rfl⟩
  · refine lv_iload_n hx hb d_Rv_set_5 rfl (lv_at hl 1 rfl) ?_
    refine lv_bipush (v := 31) hx hb d_Rv_set_6 (by decide) ?_
    refine lv_icmp_le (tgt := 19) hx hb d_Rv_set_8 (by decide) (fun h2 => (show False by have q1 := z_nlt h1; have q2 := z_le h2; have k1 : ((1) : Int32).toInt = 1 := (by decide); have k31 : ((31) : Int32).toInt = 31 := (by decide); omega).elim) (fun h2 => ?_)
    exact xthrow hE htr hlocks hno cl_Rv_49 xi_IOB xn_IOB (by decide) (by decide) (xa_51.all hw hst) hl.1 d_Rv_set_11 d_Rv_set_14 d_Rv_set_15 d_Rv_set_18 (Nat.le_of_ble_eq_true rfl) ⟨Nat.le_of_ble_eq_true rfl, Nat.le_of_ble_eq_true rfl, Nat.le_of_ble_eq_true rfl, Nat.le_of_ble_eq_true rfl⟩

set_option maxHeartbeats 4000000 in
theorem t_Rv_run1 (l : Launch) (htr : l.stackTraces = false) (D : va_G) (cI cB cJ : ClassId) (sz : Nat) (n0 : Int32) (x : Nat) (wa : Nat) (wc : Int32) (ra : Nat) (ma : Nat) (ua : Nat) (oa : Nat) (ph : Int32) (dn : Int32) (nx : Int32) (fo : Int32) (ht : n0.toInt < 1 ∨ 10000 < n0.toInt) : xMet l y_Rv_run (zWs y_Rv_run b_Rv_run 4 (some .int)) { frames := 6, cells := 1, slots := 6, locals := 110 } (xPc D (zT cI cB cJ) sz [(x, .inr (0, [.ref wa, .int wc, .ref ra, .ref ma, .ref ua, .ref oa, .int ph, .int dn, .int nx, .int fo]))] [.ref x, .int n0]) "java/lang/IllegalArgumentException" := by
  refine xstart (by decide) (Nat.le_of_ble_eq_true rfl) ?_
  intro p e s m below meth c ls hE hlocks hno hK hP hst hl
  have hx := hE.1
  have hb := hE.2.1
  have hown := hE.2.2.2.1
  have hw := hE.2.2.2.2
  have hl : lv_has ls 4 [(0, .ref x), (1, .int n0)] := hl
  refine lv_iload_n hx hb d_Rv_run_0 rfl (lv_at hl 1 rfl) ?_
  refine lv_iconst (v := 1) hx hb d_Rv_run_1 (by decide) ?_
  refine lv_icmp_lt (tgt := 12) hx hb d_Rv_run_2 (by decide) (fun h1 => ?_) (fun h1 => ?_)
  · exact xthrow hE htr hlocks hno cl_Rv_68 xi_IAE xn_IAE (by decide) (by decide) (xa_70.all hw hst) hl.1 d_Rv_run_12 d_Rv_run_15 d_Rv_run_16 d_Rv_run_19 (Nat.le_of_ble_eq_true rfl) ⟨Nat.le_of_ble_eq_true rfl, Nat.le_of_ble_eq_true rfl, Nat.le_of_ble_eq_true rfl, Nat.le_of_ble_eq_true rfl⟩
  · refine lv_iload_n hx hb d_Rv_run_5 rfl (lv_at hl 1 rfl) ?_
    refine lv_sipush (v := 10000) hx hb d_Rv_run_6 (by decide) ?_
    refine lv_icmp_le (tgt := 20) hx hb d_Rv_run_9 (by decide) (fun h2 => (show False by have q1 := z_nlt h1; have q2 := z_le h2; have k1 : ((1) : Int32).toInt = 1 := (by decide); have k10000 : ((10000) : Int32).toInt = 10000 := (by decide); omega).elim) (fun h2 => ?_)
    exact xthrow hE htr hlocks hno cl_Rv_68 xi_IAE xn_IAE (by decide) (by decide) (xa_70.all hw hst) hl.1 d_Rv_run_12 d_Rv_run_15 d_Rv_run_16 d_Rv_run_19 (Nat.le_of_ble_eq_true rfl) ⟨Nat.le_of_ble_eq_true rfl, Nat.le_of_ble_eq_true rfl, Nat.le_of_ble_eq_true rfl, Nat.le_of_ble_eq_true rfl⟩

set_option maxHeartbeats 4000000 in
theorem t_Rv_run2 (l : Launch) (htr : l.stackTraces = false) (D : va_G) (cI cB cJ : ClassId) (sz : Nat) (n0 : Int32) (x : Nat) (wa : Nat) (wc : Int32) (ra : Nat) (ma : Nat) (ua : Nat) (oa : Nat) (ph : Int32) (dn : Int32) (nx : Int32) (fo : Int32) (hn : 1 ≤ n0.toInt ∧ n0.toInt ≤ 10000) (ht : ph.toInt ≠ 1) : xMet l y_Rv_run (zWs y_Rv_run b_Rv_run 4 (some .int)) { frames := 6, cells := 1, slots := 6, locals := 110 } (xPc D (zT cI cB cJ) sz [(x, .inr (0, [.ref wa, .int wc, .ref ra, .ref ma, .ref ua, .ref oa, .int ph, .int dn, .int nx, .int fo]))] [.ref x, .int n0]) "java/lang/IllegalStateException" := by
  refine xstart (by decide) (Nat.le_of_ble_eq_true rfl) ?_
  intro p e s m below meth c ls hE hlocks hno hK hP hst hl
  have hx := hE.1
  have hb := hE.2.1
  have hown := hE.2.2.2.1
  have hw := hE.2.2.2.2
  have hl : lv_has ls 4 [(0, .ref x), (1, .int n0)] := hl
  refine lv_iload_n hx hb d_Rv_run_0 rfl (lv_at hl 1 rfl) ?_
  refine lv_iconst (v := 1) hx hb d_Rv_run_1 (by decide) ?_
  refine lv_icmp_lt (tgt := 12) hx hb d_Rv_run_2 (by decide) (fun h1 => (show False by have q1 := z_lt h1; have k1 : ((1) : Int32).toInt = 1 := (by decide); omega).elim) (fun h1 => ?_)
  refine lv_iload_n hx hb d_Rv_run_5 rfl (lv_at hl 1 rfl) ?_
  refine lv_sipush (v := 10000) hx hb d_Rv_run_6 (by decide) ?_
  refine lv_icmp_le (tgt := 20) hx hb d_Rv_run_9 (by decide) (fun h2 => ?_) (fun h2 => (show False by have q1 := z_nlt h1; have q2 := z_nle h2; have k1 : ((1) : Int32).toInt = 1 := (by decide); have k10000 : ((10000) : Int32).toInt = 10000 := (by decide); omega).elim)
  refine lv_aload_n hx hb d_Rv_run_20 rfl (lv_at hl 0 rfl) ?_
  refine zget hE hK hP 0 rfl fd_Rv_35 rfl d_Rv_run_21 ?_
  refine lv_iconst (v := 1) hx hb d_Rv_run_24 (by decide) ?_
  refine lv_icmp_eq (tgt := 36) hx hb d_Rv_run_25 (by decide) (fun h3 => (show False by have q1 := z_nlt h1; have q2 := z_le h2; have q3 := z_eq h3; have k1 : ((1) : Int32).toInt = 1 := (by decide); have k10000 : ((10000) : Int32).toInt = 10000 := (by decide); omega).elim) (fun h3 => ?_)
  exact xthrow hE htr hlocks hno cl_Rv_42 xi_ISE xn_ISE (by decide) (by decide) (xa_44.all hw hst) hl.1 d_Rv_run_28 d_Rv_run_31 d_Rv_run_32 d_Rv_run_35 (Nat.le_of_ble_eq_true rfl) ⟨Nat.le_of_ble_eq_true rfl, Nat.le_of_ble_eq_true rfl, Nat.le_of_ble_eq_true rfl, Nat.le_of_ble_eq_true rfl⟩

set_option maxHeartbeats 4000000 in
theorem t_Rv_input1 (l : Launch) (htr : l.stackTraces = false) (D : va_G) (cI cB cJ : ClassId) (sz : Nat) (w : Int64) (n0 : Int32) (x : Nat) (wa : Nat) (wc : Int32) (ra : Nat) (ma : Nat) (ua : Nat) (oa : Nat) (ph : Int32) (dn : Int32) (nx : Int32) (fo : Int32) (ht : n0.toInt < 0 ∨ 8 < n0.toInt) : xMet l y_Rv_input (zWs y_Rv_input b_Rv_input 5 (some .int)) { frames := 6, cells := 1, slots := 6, locals := 110 } (xPc D (zT cI cB cJ) sz [(x, .inr (0, [.ref wa, .int wc, .ref ra, .ref ma, .ref ua, .ref oa, .int ph, .int dn, .int nx, .int fo]))] [.ref x, .long w, .int n0]) "java/lang/IllegalArgumentException" := by
  refine xstart (by decide) (Nat.le_of_ble_eq_true rfl) ?_
  intro p e s m below meth c ls hE hlocks hno hK hP hst hl
  have hx := hE.1
  have hb := hE.2.1
  have hown := hE.2.2.2.1
  have hw := hE.2.2.2.2
  have hl : lv_has ls 5 [(0, .ref x), (1, .long w), (3, .int n0)] := hl
  refine lv_iload_n hx hb d_Rv_input_0 rfl (lv_at hl 2 rfl) ?_
  refine lv_if_lt (tgt := 10) hx hb d_Rv_input_1 (by decide) (fun h1 => ?_) (fun h1 => ?_)
  · exact xthrow hE htr hlocks hno cl_Rv_68 xi_IAE xn_IAE (by decide) (by decide) (xa_70.all hw hst) hl.1 d_Rv_input_10 d_Rv_input_13 d_Rv_input_14 d_Rv_input_17 (Nat.le_of_ble_eq_true rfl) ⟨Nat.le_of_ble_eq_true rfl, Nat.le_of_ble_eq_true rfl, Nat.le_of_ble_eq_true rfl, Nat.le_of_ble_eq_true rfl⟩
  · refine lv_iload_n hx hb d_Rv_input_4 rfl (lv_at hl 2 rfl) ?_
    refine lv_bipush (v := 8) hx hb d_Rv_input_5 (by decide) ?_
    refine lv_icmp_le (tgt := 18) hx hb d_Rv_input_7 (by decide) (fun h2 => (show False by have q1 := z_nlt h1; have q2 := z_le h2; have k0 : ((0) : Int32).toInt = 0 := (by decide); have k8 : ((8) : Int32).toInt = 8 := (by decide); omega).elim) (fun h2 => ?_)
    exact xthrow hE htr hlocks hno cl_Rv_68 xi_IAE xn_IAE (by decide) (by decide) (xa_70.all hw hst) hl.1 d_Rv_input_10 d_Rv_input_13 d_Rv_input_14 d_Rv_input_17 (Nat.le_of_ble_eq_true rfl) ⟨Nat.le_of_ble_eq_true rfl, Nat.le_of_ble_eq_true rfl, Nat.le_of_ble_eq_true rfl, Nat.le_of_ble_eq_true rfl⟩

set_option maxHeartbeats 4000000 in
theorem t_Rv_input2 (l : Launch) (htr : l.stackTraces = false) (D : va_G) (cI cB cJ : ClassId) (sz : Nat) (w : Int64) (n0 : Int32) (x : Nat) (wa : Nat) (wc : Int32) (ra : Nat) (ma : Nat) (ua : Nat) (oa : Nat) (ph : Int32) (dn : Int32) (nx : Int32) (fo : Int32) (ur : Nat) (ui : Nat) (uh : Nat) (huh : uh ≤ 1000) (hn : 0 ≤ n0.toInt ∧ n0.toInt ≤ 8) (ht : 1000 < (uh : Int) + n0.toInt) : xMet l y_Rv_input (zWs y_Rv_input b_Rv_input 5 (some .int)) { frames := 6, cells := 1, slots := 6, locals := 110 } (xPc D (zT cI cB cJ) sz [(x, .inr (0, [.ref wa, .int wc, .ref ra, .ref ma, .ref ua, .ref oa, .int ph, .int dn, .int nx, .int fo])), (ua, .inr (2, [.ref ur, .int (nI ui), .int (nI uh)]))] [.ref x, .long w, .int n0]) "java/lang/IllegalStateException" := by
  refine xstart (by decide) (Nat.le_of_ble_eq_true rfl) ?_
  intro p e s m below meth c ls hE hlocks hno hK hP hst hl
  have hx := hE.1
  have hb := hE.2.1
  have hown := hE.2.2.2.1
  have hw := hE.2.2.2.2
  have hl : lv_has ls 5 [(0, .ref x), (1, .long w), (3, .int n0)] := hl
  refine lv_iload_n hx hb d_Rv_input_0 rfl (lv_at hl 2 rfl) ?_
  refine lv_if_lt (tgt := 10) hx hb d_Rv_input_1 (by decide) (fun h1 => (show False by have q1 := z_lt h1; have k0 : ((0) : Int32).toInt = 0 := (by decide); omega).elim) (fun h1 => ?_)
  refine lv_iload_n hx hb d_Rv_input_4 rfl (lv_at hl 2 rfl) ?_
  refine lv_bipush (v := 8) hx hb d_Rv_input_5 (by decide) ?_
  refine lv_icmp_le (tgt := 18) hx hb d_Rv_input_7 (by decide) (fun h2 => ?_) (fun h2 => (show False by have q1 := z_nlt h1; have q2 := z_nle h2; have k0 : ((0) : Int32).toInt = 0 := (by decide); have k8 : ((8) : Int32).toInt = 8 := (by decide); omega).elim)
  refine lv_aload_n hx hb d_Rv_input_18 rfl (lv_at hl 0 rfl) ?_
  refine zget hE hK hP 0 rfl fd_Rv_28 rfl d_Rv_input_19 ?_
  refine zget hE hK hP 1 rfl fd_Rv_82 rfl d_Rv_input_22 ?_
  refine lv_iload_n hx hb d_Rv_input_25 rfl (lv_at hl 2 rfl) ?_
  refine lv_iadd hx hb d_Rv_input_26 ?_
  refine lv_sipush (v := 1000) hx hb d_Rv_input_27 (by decide) ?_
  refine lv_icmp_le (tgt := 41) hx hb d_Rv_input_30 (by decide) (fun h3 => (show False by have q := z_le h3; rw [z_add (by rw [nI_toInt (by omega)]; omega), nI_toInt (by omega)] at q; have k1 : (1000 : Int32).toInt = 1000 := (by decide); omega).elim) (fun h3 => ?_)
  exact xthrow hE htr hlocks hno cl_Rv_42 xi_ISE xn_ISE (by decide) (by decide) (xa_44.all hw hst) hl.1 d_Rv_input_33 d_Rv_input_36 d_Rv_input_37 d_Rv_input_40 (Nat.le_of_ble_eq_true rfl) ⟨Nat.le_of_ble_eq_true rfl, Nat.le_of_ble_eq_true rfl, Nat.le_of_ble_eq_true rfl, Nat.le_of_ble_eq_true rfl⟩

set_option maxHeartbeats 4000000 in
theorem t_Rv_count (l : Launch) (htr : l.stackTraces = false) (D : va_G) (cI cB cJ : ClassId) (sz : Nat) (k : Int32) (x : Nat) (wa : Nat) (wc : Int32) (ra : Nat) (ma : Nat) (ua : Nat) (oa : Nat) (ph : Int32) (dn : Int32) (nx : Int32) (fo : Int32) (ht : k.toInt < 0 ∨ 6 < k.toInt) : xMet l y_Rv_count (zWs y_Rv_count b_Rv_count 2 (some .int)) { frames := 6, cells := 1, slots := 6, locals := 110 } (xPc D (zT cI cB cJ) sz [(x, .inr (0, [.ref wa, .int wc, .ref ra, .ref ma, .ref ua, .ref oa, .int ph, .int dn, .int nx, .int fo]))] [.ref x, .int k]) "java/lang/IllegalArgumentException" := by
  refine xstart (by decide) (Nat.le_of_ble_eq_true rfl) ?_
  intro p e s m below meth c ls hE hlocks hno hK hP hst hl
  have hx := hE.1
  have hb := hE.2.1
  have hown := hE.2.2.2.1
  have hw := hE.2.2.2.2
  have hl : lv_has ls 2 [(0, .ref x), (1, .int k)] := hl
  refine lv_iload_n hx hb d_Rv_count_0 rfl (lv_at hl 1 rfl) ?_
  have h1 : ¬ k = 0 := fun q => (show False by have q1 := z_eq q; have k0 : ((0) : Int32).toInt = 0 := (by decide); omega).elim
  have h2 : ¬ k = 1 := fun q => (show False by have q1 := z_neq h1; have q2 := z_eq q; have k0 : ((0) : Int32).toInt = 0 := (by decide); have k1 : ((1) : Int32).toInt = 1 := (by decide); omega).elim
  have h3 : ¬ k = 2 := fun q => (show False by have q1 := z_neq h1; have q2 := z_neq h2; have q3 := z_eq q; have k0 : ((0) : Int32).toInt = 0 := (by decide); have k1 : ((1) : Int32).toInt = 1 := (by decide); have k2 : ((2) : Int32).toInt = 2 := (by decide); omega).elim
  have h4 : ¬ k = 3 := fun q => (show False by have q1 := z_neq h1; have q2 := z_neq h2; have q3 := z_neq h3; have q4 := z_eq q; have k0 : ((0) : Int32).toInt = 0 := (by decide); have k1 : ((1) : Int32).toInt = 1 := (by decide); have k2 : ((2) : Int32).toInt = 2 := (by decide); have k3 : ((3) : Int32).toInt = 3 := (by decide); omega).elim
  have h5 : ¬ k = 4 := fun q => (show False by have q1 := z_neq h1; have q2 := z_neq h2; have q3 := z_neq h3; have q4 := z_neq h4; have q5 := z_eq q; have k0 : ((0) : Int32).toInt = 0 := (by decide); have k1 : ((1) : Int32).toInt = 1 := (by decide); have k2 : ((2) : Int32).toInt = 2 := (by decide); have k3 : ((3) : Int32).toInt = 3 := (by decide); have k4 : ((4) : Int32).toInt = 4 := (by decide); omega).elim
  have h6 : ¬ k = 5 := fun q => (show False by have q1 := z_neq h1; have q2 := z_neq h2; have q3 := z_neq h3; have q4 := z_neq h4; have q5 := z_neq h5; have q6 := z_eq q; have k0 : ((0) : Int32).toInt = 0 := (by decide); have k1 : ((1) : Int32).toInt = 1 := (by decide); have k2 : ((2) : Int32).toInt = 2 := (by decide); have k3 : ((3) : Int32).toInt = 3 := (by decide); have k4 : ((4) : Int32).toInt = 4 := (by decide); have k5 : ((5) : Int32).toInt = 5 := (by decide); omega).elim
  have h7 : ¬ k = 6 := fun q => (show False by have q1 := z_neq h1; have q2 := z_neq h2; have q3 := z_neq h3; have q4 := z_neq h4; have q5 := z_neq h5; have q6 := z_neq h6; have q7 := z_eq q; have k0 : ((0) : Int32).toInt = 0 := (by decide); have k1 : ((1) : Int32).toInt = 1 := (by decide); have k2 : ((2) : Int32).toInt = 2 := (by decide); have k3 : ((3) : Int32).toInt = 3 := (by decide); have k4 : ((4) : Int32).toInt = 4 := (by decide); have k5 : ((5) : Int32).toInt = 5 := (by decide); have k6 : ((6) : Int32).toInt = 6 := (by decide); omega).elim
  refine lv_tableOut (tgt := 94) hx hb d_Rv_count_1 (by have q0 := z_ne h1 (n := 0) (by decide); have q1 := z_ne h2 (n := 1) (by decide); have q2 := z_ne h3 (n := 2) (by decide); have q3 := z_ne h4 (n := 3) (by decide); have q4 := z_ne h5 (n := 4) (by decide); have q5 := z_ne h6 (n := 5) (by decide); have q6 := z_ne h7 (n := 6) (by decide); omega) (by decide) ?_
  exact xthrow hE htr hlocks hno cl_Rv_68 xi_IAE xn_IAE (by decide) (by decide) (xa_70.all hw hst) hl.1 d_Rv_count_94 d_Rv_count_97 d_Rv_count_98 d_Rv_count_101 (Nat.le_of_ble_eq_true rfl) ⟨Nat.le_of_ble_eq_true rfl, Nat.le_of_ble_eq_true rfl, Nat.le_of_ble_eq_true rfl, Nat.le_of_ble_eq_true rfl⟩
