/-! decode rows -/
theorem d_Rv_change_0 : decode b_Rv_change 0 = .ok (.iload_n 1, 1) := by decide +kernel
theorem d_Rv_change_1 : decode b_Rv_change 1 = .ok (.ifCond .lt 11, 3) := by decide +kernel
theorem d_Rv_change_4 : decode b_Rv_change 4 = .ok (.iload_n 1, 1) := by decide +kernel
theorem d_Rv_change_5 : decode b_Rv_change 5 = .ok (.aload_n 0, 1) := by decide +kernel
theorem d_Rv_change_6 : decode b_Rv_change 6 = .ok (.getfield 39, 3) := by decide +kernel
theorem d_Rv_change_9 : decode b_Rv_change 9 = .ok (.if_icmp .lt 11, 3) := by decide +kernel
theorem d_Rv_change_12 : decode b_Rv_change 12 = .ok (.new 49, 3) := by decide +kernel
theorem d_Rv_change_15 : decode b_Rv_change 15 = .ok (.dup, 1) := by decide +kernel
theorem d_Rv_change_16 : decode b_Rv_change 16 = .ok (.invokespecial 51, 3) := by decide +kernel
theorem d_Rv_change_19 : decode b_Rv_change 19 = .ok (.athrow, 1) := by decide +kernel
theorem d_Rv_change_20 : decode b_Rv_change 20 = .ok (.aload_n 0, 1) := by decide +kernel
theorem d_Rv_change_21 : decode b_Rv_change 21 = .ok (.getfield 7, 3) := by decide +kernel
theorem d_Rv_change_24 : decode b_Rv_change 24 = .ok (.iload_n 1, 1) := by decide +kernel
theorem d_Rv_change_25 : decode b_Rv_change 25 = .ok (.iaload, 1) := by decide +kernel
theorem d_Rv_change_26 : decode b_Rv_change 26 = .ok (.istore_n 3, 1) := by decide +kernel
theorem d_Rv_change_27 : decode b_Rv_change 27 = .ok (.aload_n 0, 1) := by decide +kernel
theorem d_Rv_change_28 : decode b_Rv_change 28 = .ok (.getfield 7, 3) := by decide +kernel
theorem d_Rv_change_31 : decode b_Rv_change 31 = .ok (.iload_n 1, 1) := by decide +kernel
theorem d_Rv_change_32 : decode b_Rv_change 32 = .ok (.iload_n 2, 1) := by decide +kernel
theorem d_Rv_change_33 : decode b_Rv_change 33 = .ok (.iastore, 1) := by decide +kernel
theorem d_Rv_change_34 : decode b_Rv_change 34 = .ok (.iload_n 3, 1) := by decide +kernel
theorem d_Rv_change_35 : decode b_Rv_change 35 = .ok (.ireturn, 1) := by decide +kernel
theorem d_Rv_state_0 : decode b_Rv_state 0 = .ok (.aload_n 0, 1) := by decide +kernel
theorem d_Rv_state_1 : decode b_Rv_state 1 = .ok (.getfield 35, 3) := by decide +kernel
theorem d_Rv_state_4 : decode b_Rv_state 4 = .ok (.ireturn, 1) := by decide +kernel
theorem d_Rv_register_0 : decode b_Rv_register 0 = .ok (.iload_n 1, 1) := by decide +kernel
theorem d_Rv_register_1 : decode b_Rv_register 1 = .ok (.ifCond .lt 9, 3) := by decide +kernel
theorem d_Rv_register_4 : decode b_Rv_register 4 = .ok (.iload_n 1, 1) := by decide +kernel
theorem d_Rv_register_5 : decode b_Rv_register 5 = .ok (.bipush 32, 2) := by decide +kernel
theorem d_Rv_register_7 : decode b_Rv_register 7 = .ok (.if_icmp .le 11, 3) := by decide +kernel
theorem d_Rv_register_10 : decode b_Rv_register 10 = .ok (.new 49, 3) := by decide +kernel
theorem d_Rv_register_13 : decode b_Rv_register 13 = .ok (.dup, 1) := by decide +kernel
theorem d_Rv_register_14 : decode b_Rv_register 14 = .ok (.invokespecial 51, 3) := by decide +kernel
theorem d_Rv_register_17 : decode b_Rv_register 17 = .ok (.athrow, 1) := by decide +kernel
theorem d_Rv_register_18 : decode b_Rv_register 18 = .ok (.iload_n 1, 1) := by decide +kernel
theorem d_Rv_register_19 : decode b_Rv_register 19 = .ok (.bipush 32, 2) := by decide +kernel
theorem d_Rv_register_21 : decode b_Rv_register 21 = .ok (.if_icmp .ne 10, 3) := by decide +kernel
theorem d_Rv_register_24 : decode b_Rv_register 24 = .ok (.aload_n 0, 1) := by decide +kernel
theorem d_Rv_register_25 : decode b_Rv_register 25 = .ok (.getfield 65, 3) := by decide +kernel
theorem d_Rv_register_28 : decode b_Rv_register 28 = .ok (.goto 9, 3) := by decide +kernel
theorem d_Rv_register_31 : decode b_Rv_register 31 = .ok (.aload_n 0, 1) := by decide +kernel
theorem d_Rv_register_32 : decode b_Rv_register 32 = .ok (.getfield 13, 3) := by decide +kernel
theorem d_Rv_register_35 : decode b_Rv_register 35 = .ok (.iload_n 1, 1) := by decide +kernel
theorem d_Rv_register_36 : decode b_Rv_register 36 = .ok (.iaload, 1) := by decide +kernel
theorem d_Rv_register_37 : decode b_Rv_register 37 = .ok (.ireturn, 1) := by decide +kernel
theorem d_Rv_set_0 : decode b_Rv_set 0 = .ok (.iload_n 1, 1) := by decide +kernel
theorem d_Rv_set_1 : decode b_Rv_set 1 = .ok (.iconst 1, 1) := by decide +kernel
theorem d_Rv_set_2 : decode b_Rv_set 2 = .ok (.if_icmp .lt 9, 3) := by decide +kernel
theorem d_Rv_set_5 : decode b_Rv_set 5 = .ok (.iload_n 1, 1) := by decide +kernel
theorem d_Rv_set_6 : decode b_Rv_set 6 = .ok (.bipush 31, 2) := by decide +kernel
theorem d_Rv_set_8 : decode b_Rv_set 8 = .ok (.if_icmp .le 11, 3) := by decide +kernel
theorem d_Rv_set_11 : decode b_Rv_set 11 = .ok (.new 49, 3) := by decide +kernel
theorem d_Rv_set_14 : decode b_Rv_set 14 = .ok (.dup, 1) := by decide +kernel
theorem d_Rv_set_15 : decode b_Rv_set 15 = .ok (.invokespecial 51, 3) := by decide +kernel
theorem d_Rv_set_18 : decode b_Rv_set 18 = .ok (.athrow, 1) := by decide +kernel
theorem d_Rv_set_19 : decode b_Rv_set 19 = .ok (.aload_n 0, 1) := by decide +kernel
theorem d_Rv_set_20 : decode b_Rv_set 20 = .ok (.getfield 13, 3) := by decide +kernel
theorem d_Rv_set_23 : decode b_Rv_set 23 = .ok (.iload_n 1, 1) := by decide +kernel
theorem d_Rv_set_24 : decode b_Rv_set 24 = .ok (.iaload, 1) := by decide +kernel
theorem d_Rv_set_25 : decode b_Rv_set 25 = .ok (.istore_n 3, 1) := by decide +kernel
theorem d_Rv_set_26 : decode b_Rv_set 26 = .ok (.aload_n 0, 1) := by decide +kernel
theorem d_Rv_set_27 : decode b_Rv_set 27 = .ok (.getfield 13, 3) := by decide +kernel
theorem d_Rv_set_30 : decode b_Rv_set 30 = .ok (.iload_n 1, 1) := by decide +kernel
theorem d_Rv_set_31 : decode b_Rv_set 31 = .ok (.iload_n 2, 1) := by decide +kernel
theorem d_Rv_set_32 : decode b_Rv_set 32 = .ok (.iastore, 1) := by decide +kernel
theorem d_Rv_set_33 : decode b_Rv_set 33 = .ok (.iload_n 3, 1) := by decide +kernel
theorem d_Rv_set_34 : decode b_Rv_set 34 = .ok (.ireturn, 1) := by decide +kernel
def sp_Rv_change (k : Int32) (w : Int32) (wf : Nat → Int32) : Int32 × (Nat → Int32) := (wf k.toNatClampNeg, upd wf k.toNatClampNeg w)
set_option maxHeartbeats 4000000 in
theorem c_Rv_change (l : Launch) (D : va_G) (cI cB cJ : ClassId) (sz : Nat) (k : Int32) (w : Int32) (x : Nat) (wa : Nat) (wc : Int32) (ra : Nat) (ma : Nat) (ua : Nat) (oa : Nat) (ph : Int32) (dn : Int32) (nx : Int32) (fo : Int32) (wl : Nat) (wf : Nat → Int32) (hk : 0 ≤ k.toInt ∧ k.toInt < wc.toInt) (hwl : wc.toInt ≤ wl) : zMet l y_Rv_change (zWs y_Rv_change b_Rv_change 4 (some .int)) { frames := 6, cells := 0, slots := 0, locals := 110 } (zPc D (zT cI cB cJ) sz [(x, .inr (0, [.ref wa, .int wc, .ref ra, .ref ma, .ref ua, .ref oa, .int ph, .int dn, .int nx, .int fo])), (wa, .inl (cI, wl, .inl (wf)))] [.ref x, .int k, .int w]) (zQi D (va_A [(x, .inr (0, [.ref wa, .int wc, .ref ra, .ref ma, .ref ua, .ref oa, .int ph, .int dn, .int nx, .int fo])), (wa, .inl (cI, wl, .inl (wf)))] sz) (fun r (_ : Unit) => r = (sp_Rv_change k w wf).1) (z0) (fun _ => [(x, .inr (0, [.ref wa, .int wc, .ref ra, .ref ma, .ref ua, .ref oa, .int ph, .int dn, .int nx, .int fo])), (wa, .inl (cI, wl, .inl ((sp_Rv_change k w wf).2)))])) (va_A [(x, .inr (0, [.ref wa, .int wc, .ref ra, .ref ma, .ref ua, .ref oa, .int ph, .int dn, .int nx, .int fo])), (wa, .inl (cI, wl, .inl (wf)))] sz) := by
  refine zstart (Qc := fun A => zQi D A (fun r (_ : Unit) => r = (sp_Rv_change k w wf).1) (z0) (fun _ => [(x, .inr (0, [.ref wa, .int wc, .ref ra, .ref ma, .ref ua, .ref oa, .int ph, .int dn, .int nx, .int fo])), (wa, .inl (cI, wl, .inl ((sp_Rv_change k w wf).2)))])) (by decide) (Nat.le_of_ble_eq_true rfl) ?_
  intro p e s m below meth c ls A hE hr hlocks hin hsz hK hP hD hS hA hAe hl
  have hx := hE.1
  have hb := hE.2.1
  have hown := hE.2.2.2.1
  have hw := hE.2.2.2.2
  have hl : lv_has ls 4 [(0, .ref x), (1, .int k), (2, .int w)] := hl
  refine lv_iload_n hx hb d_Rv_change_0 rfl (lv_at hl 1 rfl) ?_
  refine lv_if_lt (tgt := 12) hx hb d_Rv_change_1 (by decide) (fun h1 => (show False by have q1 := z_lt h1; have k0 : ((0) : Int32).toInt = 0 := (by decide); omega).elim) (fun h1 => ?_)
  refine lv_iload_n hx hb d_Rv_change_4 rfl (lv_at hl 1 rfl) ?_
  refine lv_aload_n hx hb d_Rv_change_5 rfl (lv_at hl 0 rfl) ?_
  refine zget hE hK hP 0 rfl fd_Rv_39 rfl d_Rv_change_6 ?_
  refine lv_icmp_lt (tgt := 20) hx hb d_Rv_change_9 (by decide) (fun h2 => ?_) (fun h2 => (show False by have q1 := z_nlt h1; have q2 := z_nlt h2; have k0 : ((0) : Int32).toInt = 0 := (by decide); omega).elim)
  refine lv_aload_n hx hb d_Rv_change_20 rfl (lv_at hl 0 rfl) ?_
  refine zget hE hK hP 0 rfl fd_Rv_7 rfl d_Rv_change_21 ?_
  refine lv_iload_n hx hb d_Rv_change_24 rfl (lv_at hl 1 rfl) ?_
  refine va_iald hx hb hK hP 1 0 rfl rfl (z_in (by have q1 := z_nlt h1; have q2 := z_lt h2; have k0 : ((0) : Int32).toInt = 0 := (by decide); omega)) d_Rv_change_25 ?_
  refine lv_istore_n (lv' := [(3, .int (wf k.toNatClampNeg)), (0, .ref x), (1, .int k), (2, .int w)]) hx hb d_Rv_change_26 rfl hl (by decide) rfl (fun ls hl => ?_)
  refine lv_aload_n hx hb d_Rv_change_27 rfl (lv_at hl 1 rfl) ?_
  refine zget hE hK hP 0 rfl fd_Rv_7 rfl d_Rv_change_28 ?_
  refine lv_iload_n hx hb d_Rv_change_31 rfl (lv_at hl 2 rfl) ?_
  refine lv_iload_n hx hb d_Rv_change_32 rfl (lv_at hl 3 rfl) ?_
  refine va_iast hx hb hK hP hD hS 1 0 rfl rfl (z_in (by have q1 := z_nlt h1; have q2 := z_lt h2; have k0 : ((0) : Int32).toInt = 0 := (by decide); omega)) d_Rv_change_33 (fun H locs hP hD hS => ?_)
  have hP : va_P D zC [(x, .inr (0, [.ref wa, .int wc, .ref ra, .ref ma, .ref ua, .ref oa, .int ph, .int dn, .int nx, .int fo])), (wa, .inl (cI, wl, .inl (upd wf k.toNatClampNeg w)))] H := hP
  have hD : va_D A [(x, .inr (0, [.ref wa, .int wc, .ref ra, .ref ma, .ref ua, .ref oa, .int ph, .int dn, .int nx, .int fo])), (wa, .inl (cI, wl, .inl (upd wf k.toNatClampNeg w)))] := hD
  refine lv_iload_n hx hb d_Rv_change_34 rfl (lv_at hl 0 rfl) ?_
  have hs : (sp_Rv_change k w wf) = (wf k.toNatClampNeg, upd wf k.toNatClampNeg w) := rfl
  have hP9 := hP.sub (ws' := [(x, .inr (0, [.ref wa, .int wc, .ref ra, .ref ma, .ref ua, .ref oa, .int ph, .int dn, .int nx, .int fo])), (wa, .inl (cI, wl, .inl (upd wf k.toNatClampNeg w)))]) [0, 1] rfl
  have hD9 := hD.sub (ws' := [(x, .inr (0, [.ref wa, .int wc, .ref ra, .ref ma, .ref ua, .ref oa, .int ph, .int dn, .int nx, .int fo])), (wa, .inl (cI, wl, .inl (upd wf k.toNatClampNeg w)))]) [0, 1] rfl rfl
  exact zreti hx hb hr rfl hlocks hS () (by rw [hs]) rfl (by rw [hs]; exact hP9) (by rw [hs]; exact hD9) d_Rv_change_35

def sp_Rv_state (ph : Int32) : Int32 := ph
set_option maxHeartbeats 4000000 in
theorem c_Rv_state (l : Launch) (D : va_G) (cI cB cJ : ClassId) (sz : Nat) (x : Nat) (wa : Nat) (wc : Int32) (ra : Nat) (ma : Nat) (ua : Nat) (oa : Nat) (ph : Int32) (dn : Int32) (nx : Int32) (fo : Int32) : zMet l y_Rv_state (zWs y_Rv_state b_Rv_state 1 (some .int)) { frames := 0, cells := 0, slots := 0, locals := 0 } (zPc D (zT cI cB cJ) sz [(x, .inr (0, [.ref wa, .int wc, .ref ra, .ref ma, .ref ua, .ref oa, .int ph, .int dn, .int nx, .int fo]))] [.ref x]) (zQi D (va_A [(x, .inr (0, [.ref wa, .int wc, .ref ra, .ref ma, .ref ua, .ref oa, .int ph, .int dn, .int nx, .int fo]))] sz) (fun r (_ : Unit) => r = (sp_Rv_state ph)) (z0) (fun _ => [(x, .inr (0, [.ref wa, .int wc, .ref ra, .ref ma, .ref ua, .ref oa, .int ph, .int dn, .int nx, .int fo]))])) (va_A [(x, .inr (0, [.ref wa, .int wc, .ref ra, .ref ma, .ref ua, .ref oa, .int ph, .int dn, .int nx, .int fo]))] sz) := by
  refine zstart (Qc := fun A => zQi D A (fun r (_ : Unit) => r = (sp_Rv_state ph)) (z0) (fun _ => [(x, .inr (0, [.ref wa, .int wc, .ref ra, .ref ma, .ref ua, .ref oa, .int ph, .int dn, .int nx, .int fo]))])) (by decide) (Nat.le_of_ble_eq_true rfl) ?_
  intro p e s m below meth c ls A hE hr hlocks hin hsz hK hP hD hS hA hAe hl
  have hx := hE.1
  have hb := hE.2.1
  have hown := hE.2.2.2.1
  have hw := hE.2.2.2.2
  have hl : lv_has ls 1 [(0, .ref x)] := hl
  refine lv_aload_n hx hb d_Rv_state_0 rfl (lv_at hl 0 rfl) ?_
  refine zget hE hK hP 0 rfl fd_Rv_35 rfl d_Rv_state_1 ?_
  have hs : (sp_Rv_state ph) = ph := rfl
  have hP9 := hP.sub (ws' := [(x, .inr (0, [.ref wa, .int wc, .ref ra, .ref ma, .ref ua, .ref oa, .int ph, .int dn, .int nx, .int fo]))]) [0] rfl
  have hD9 := hD.sub (ws' := [(x, .inr (0, [.ref wa, .int wc, .ref ra, .ref ma, .ref ua, .ref oa, .int ph, .int dn, .int nx, .int fo]))]) [0] rfl rfl
  exact zreti hx hb hr rfl hlocks hS () (by rw [hs]) rfl (by exact hP9) (by exact hD9) d_Rv_state_4

def sp_Rv_register (k : Int32) (nx : Int32) (rg : Nat → Int32) : Int32 := if k = 32 then nx else rg k.toNatClampNeg
set_option maxHeartbeats 4000000 in
theorem c_Rv_register (l : Launch) (D : va_G) (cI cB cJ : ClassId) (sz : Nat) (k : Int32) (x : Nat) (wa : Nat) (wc : Int32) (ra : Nat) (ma : Nat) (ua : Nat) (oa : Nat) (ph : Int32) (dn : Int32) (nx : Int32) (fo : Int32) (rg : Nat → Int32) (hk : 0 ≤ k.toInt ∧ k.toInt ≤ 32) : zMet l y_Rv_register (zWs y_Rv_register b_Rv_register 2 (some .int)) { frames := 6, cells := 0, slots := 0, locals := 110 } (zPc D (zT cI cB cJ) sz [(x, .inr (0, [.ref wa, .int wc, .ref ra, .ref ma, .ref ua, .ref oa, .int ph, .int dn, .int nx, .int fo])), (ra, .inl (cI, 32, .inl (rg)))] [.ref x, .int k]) (zQi D (va_A [(x, .inr (0, [.ref wa, .int wc, .ref ra, .ref ma, .ref ua, .ref oa, .int ph, .int dn, .int nx, .int fo])), (ra, .inl (cI, 32, .inl (rg)))] sz) (fun r (_ : Unit) => r = (sp_Rv_register k nx rg)) (z0) (fun _ => [(x, .inr (0, [.ref wa, .int wc, .ref ra, .ref ma, .ref ua, .ref oa, .int ph, .int dn, .int nx, .int fo])), (ra, .inl (cI, 32, .inl (rg)))])) (va_A [(x, .inr (0, [.ref wa, .int wc, .ref ra, .ref ma, .ref ua, .ref oa, .int ph, .int dn, .int nx, .int fo])), (ra, .inl (cI, 32, .inl (rg)))] sz) := by
  refine zstart (Qc := fun A => zQi D A (fun r (_ : Unit) => r = (sp_Rv_register k nx rg)) (z0) (fun _ => [(x, .inr (0, [.ref wa, .int wc, .ref ra, .ref ma, .ref ua, .ref oa, .int ph, .int dn, .int nx, .int fo])), (ra, .inl (cI, 32, .inl (rg)))])) (by decide) (Nat.le_of_ble_eq_true rfl) ?_
  intro p e s m below meth c ls A hE hr hlocks hin hsz hK hP hD hS hA hAe hl
  have hx := hE.1
  have hb := hE.2.1
  have hown := hE.2.2.2.1
  have hw := hE.2.2.2.2
  have hl : lv_has ls 2 [(0, .ref x), (1, .int k)] := hl
  refine lv_iload_n hx hb d_Rv_register_0 rfl (lv_at hl 1 rfl) ?_
  refine lv_if_lt (tgt := 10) hx hb d_Rv_register_1 (by decide) (fun h1 => (show False by have q1 := z_lt h1; have k0 : ((0) : Int32).toInt = 0 := (by decide); omega).elim) (fun h1 => ?_)
  refine lv_iload_n hx hb d_Rv_register_4 rfl (lv_at hl 1 rfl) ?_
  refine lv_bipush (v := 32) hx hb d_Rv_register_5 (by decide) ?_
  refine lv_icmp_le (tgt := 18) hx hb d_Rv_register_7 (by decide) (fun h2 => ?_) (fun h2 => (show False by have q1 := z_nlt h1; have q2 := z_nle h2; have k0 : ((0) : Int32).toInt = 0 := (by decide); have k32 : ((32) : Int32).toInt = 32 := (by decide); omega).elim)
  refine lv_iload_n hx hb d_Rv_register_18 rfl (lv_at hl 1 rfl) ?_
  refine lv_bipush (v := 32) hx hb d_Rv_register_19 (by decide) ?_
  refine lv_icmp_ne (tgt := 31) hx hb d_Rv_register_21 (by decide) (fun h3 => ?_) (fun h3 => ?_)
  · refine lv_aload_n hx hb d_Rv_register_31 rfl (lv_at hl 0 rfl) ?_
    refine zget hE hK hP 0 rfl fd_Rv_13 rfl d_Rv_register_32 ?_
    refine lv_iload_n hx hb d_Rv_register_35 rfl (lv_at hl 1 rfl) ?_
    refine va_iald hx hb hK hP 1 0 rfl rfl (z_in (by have q1 := z_nlt h1; have q2 := z_le h2; have q3 := z_neq h3; have k0 : ((0) : Int32).toInt = 0 := (by decide); have k32 : ((32) : Int32).toInt = 32 := (by decide); omega)) d_Rv_register_36 ?_
    have hs : (sp_Rv_register k nx rg) = rg k.toNatClampNeg := by rw [sp_Rv_register, if_neg h3]
    have hP9 := hP.sub (ws' := [(x, .inr (0, [.ref wa, .int wc, .ref ra, .ref ma, .ref ua, .ref oa, .int ph, .int dn, .int nx, .int fo])), (ra, .inl (cI, 32, .inl (rg)))]) [0, 1] rfl
    have hD9 := hD.sub (ws' := [(x, .inr (0, [.ref wa, .int wc, .ref ra, .ref ma, .ref ua, .ref oa, .int ph, .int dn, .int nx, .int fo])), (ra, .inl (cI, 32, .inl (rg)))]) [0, 1] rfl rfl
    exact zreti hx hb hr rfl hlocks hS () (by rw [hs]) rfl (by exact hP9) (by exact hD9) d_Rv_register_37
  · refine lv_aload_n hx hb d_Rv_register_24 rfl (lv_at hl 0 rfl) ?_
    refine zget hE hK hP 0 rfl fd_Rv_65 rfl d_Rv_register_25 ?_
    refine lv_goto (tgt := 37) hx hb d_Rv_register_28 (by decide) ?_
    have hs : (sp_Rv_register k nx rg) = nx := by rw [sp_Rv_register, if_pos h3]
    have hP9 := hP.sub (ws' := [(x, .inr (0, [.ref wa, .int wc, .ref ra, .ref ma, .ref ua, .ref oa, .int ph, .int dn, .int nx, .int fo])), (ra, .inl (cI, 32, .inl (rg)))]) [0, 1] rfl
    have hD9 := hD.sub (ws' := [(x, .inr (0, [.ref wa, .int wc, .ref ra, .ref ma, .ref ua, .ref oa, .int ph, .int dn, .int nx, .int fo])), (ra, .inl (cI, 32, .inl (rg)))]) [0, 1] rfl rfl
    exact zreti hx hb hr rfl hlocks hS () (by rw [hs]) rfl (by exact hP9) (by exact hD9) d_Rv_register_37

def sp_Rv_set (k : Int32) (v : Int32) (rg : Nat → Int32) : Int32 × (Nat → Int32) := (rg k.toNatClampNeg, upd rg k.toNatClampNeg v)
set_option maxHeartbeats 4000000 in
theorem c_Rv_set (l : Launch) (D : va_G) (cI cB cJ : ClassId) (sz : Nat) (k : Int32) (v : Int32) (x : Nat) (wa : Nat) (wc : Int32) (ra : Nat) (ma : Nat) (ua : Nat) (oa : Nat) (ph : Int32) (dn : Int32) (nx : Int32) (fo : Int32) (rg : Nat → Int32) (hk : 1 ≤ k.toInt ∧ k.toInt ≤ 31) : zMet l y_Rv_set (zWs y_Rv_set b_Rv_set 4 (some .int)) { frames := 6, cells := 0, slots := 0, locals := 110 } (zPc D (zT cI cB cJ) sz [(x, .inr (0, [.ref wa, .int wc, .ref ra, .ref ma, .ref ua, .ref oa, .int ph, .int dn, .int nx, .int fo])), (ra, .inl (cI, 32, .inl (rg)))] [.ref x, .int k, .int v]) (zQi D (va_A [(x, .inr (0, [.ref wa, .int wc, .ref ra, .ref ma, .ref ua, .ref oa, .int ph, .int dn, .int nx, .int fo])), (ra, .inl (cI, 32, .inl (rg)))] sz) (fun r (_ : Unit) => r = (sp_Rv_set k v rg).1) (z0) (fun _ => [(x, .inr (0, [.ref wa, .int wc, .ref ra, .ref ma, .ref ua, .ref oa, .int ph, .int dn, .int nx, .int fo])), (ra, .inl (cI, 32, .inl ((sp_Rv_set k v rg).2)))])) (va_A [(x, .inr (0, [.ref wa, .int wc, .ref ra, .ref ma, .ref ua, .ref oa, .int ph, .int dn, .int nx, .int fo])), (ra, .inl (cI, 32, .inl (rg)))] sz) := by
  refine zstart (Qc := fun A => zQi D A (fun r (_ : Unit) => r = (sp_Rv_set k v rg).1) (z0) (fun _ => [(x, .inr (0, [.ref wa, .int wc, .ref ra, .ref ma, .ref ua, .ref oa, .int ph, .int dn, .int nx, .int fo])), (ra, .inl (cI, 32, .inl ((sp_Rv_set k v rg).2)))])) (by decide) (Nat.le_of_ble_eq_true rfl) ?_
  intro p e s m below meth c ls A hE hr hlocks hin hsz hK hP hD hS hA hAe hl
  have hx := hE.1
  have hb := hE.2.1
  have hown := hE.2.2.2.1
  have hw := hE.2.2.2.2
  have hl : lv_has ls 4 [(0, .ref x), (1, .int k), (2, .int v)] := hl
  refine lv_iload_n hx hb d_Rv_set_0 rfl (lv_at hl 1 rfl) ?_
  refine lv_iconst (v := 1) hx hb d_Rv_set_1 (by decide) ?_
  refine lv_icmp_lt (tgt := 11) hx hb d_Rv_set_2 (by decide) (fun h1 => (show False by have q1 := z_lt h1; have k1 : ((1) : Int32).toInt = 1 := (by decide); omega).elim) (fun h1 => ?_)
  refine lv_iload_n hx hb d_Rv_set_5 rfl (lv_at hl 1 rfl) ?_
  refine lv_bipush (v := 31) hx hb d_Rv_set_6 (by decide) ?_
  refine lv_icmp_le (tgt := 19) hx hb d_Rv_set_8 (by decide) (fun h2 => ?_) (fun h2 => (show False by have q1 := z_nlt h1; have q2 := z_nle h2; have k1 : ((1) : Int32).toInt = 1 := (by decide); have k31 : ((31) : Int32).toInt = 31 := (by decide); omega).elim)
  refine lv_aload_n hx hb d_Rv_set_19 rfl (lv_at hl 0 rfl) ?_
  refine zget hE hK hP 0 rfl fd_Rv_13 rfl d_Rv_set_20 ?_
  refine lv_iload_n hx hb d_Rv_set_23 rfl (lv_at hl 1 rfl) ?_
  refine va_iald hx hb hK hP 1 0 rfl rfl (z_in (by have q1 := z_nlt h1; have q2 := z_le h2; have k1 : ((1) : Int32).toInt = 1 := (by decide); have k31 : ((31) : Int32).toInt = 31 := (by decide); omega)) d_Rv_set_24 ?_
  refine lv_istore_n (lv' := [(3, .int (rg k.toNatClampNeg)), (0, .ref x), (1, .int k), (2, .int v)]) hx hb d_Rv_set_25 rfl hl (by decide) rfl (fun ls hl => ?_)
  refine lv_aload_n hx hb d_Rv_set_26 rfl (lv_at hl 1 rfl) ?_
  refine zget hE hK hP 0 rfl fd_Rv_13 rfl d_Rv_set_27 ?_
  refine lv_iload_n hx hb d_Rv_set_30 rfl (lv_at hl 2 rfl) ?_
  refine lv_iload_n hx hb d_Rv_set_31 rfl (lv_at hl 3 rfl) ?_
  refine va_iast hx hb hK hP hD hS 1 0 rfl rfl (z_in (by have q1 := z_nlt h1; have q2 := z_le h2; have k1 : ((1) : Int32).toInt = 1 := (by decide); have k31 : ((31) : Int32).toInt = 31 := (by decide); omega)) d_Rv_set_32 (fun H locs hP hD hS => ?_)
  have hP : va_P D zC [(x, .inr (0, [.ref wa, .int wc, .ref ra, .ref ma, .ref ua, .ref oa, .int ph, .int dn, .int nx, .int fo])), (ra, .inl (cI, 32, .inl (upd rg k.toNatClampNeg v)))] H := hP
  have hD : va_D A [(x, .inr (0, [.ref wa, .int wc, .ref ra, .ref ma, .ref ua, .ref oa, .int ph, .int dn, .int nx, .int fo])), (ra, .inl (cI, 32, .inl (upd rg k.toNatClampNeg v)))] := hD
  refine lv_iload_n hx hb d_Rv_set_33 rfl (lv_at hl 0 rfl) ?_
  have hs : (sp_Rv_set k v rg) = (rg k.toNatClampNeg, upd rg k.toNatClampNeg v) := rfl
  have hP9 := hP.sub (ws' := [(x, .inr (0, [.ref wa, .int wc, .ref ra, .ref ma, .ref ua, .ref oa, .int ph, .int dn, .int nx, .int fo])), (ra, .inl (cI, 32, .inl (upd rg k.toNatClampNeg v)))]) [0, 1] rfl
  have hD9 := hD.sub (ws' := [(x, .inr (0, [.ref wa, .int wc, .ref ra, .ref ma, .ref ua, .ref oa, .int ph, .int dn, .int nx, .int fo])), (ra, .inl (cI, 32, .inl (upd rg k.toNatClampNeg v)))]) [0, 1] rfl rfl
  exact zreti hx hb hr rfl hlocks hS () (by rw [hs]) rfl (by rw [hs]; exact hP9) (by rw [hs]; exact hD9) d_Rv_set_34
