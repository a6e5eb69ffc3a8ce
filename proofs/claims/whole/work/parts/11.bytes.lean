/-! decode rows -/
theorem d_By_wrapped_0 : decode b_By_wrapped 0 = .ok (.iload_n 1, 1) := by decide +kernel
theorem d_By_wrapped_1 : decode b_By_wrapped 1 = .ok (.aload_n 0, 1) := by decide +kernel
theorem d_By_wrapped_2 : decode b_By_wrapped 2 = .ok (.getfield 7, 3) := by decide +kernel
theorem d_By_wrapped_5 : decode b_By_wrapped 5 = .ok (.arraylength, 1) := by decide +kernel
theorem d_By_wrapped_6 : decode b_By_wrapped 6 = .ok (.if_icmp .lt 13, 3) := by decide +kernel
theorem d_By_wrapped_9 : decode b_By_wrapped 9 = .ok (.iload_n 1, 1) := by decide +kernel
theorem d_By_wrapped_10 : decode b_By_wrapped 10 = .ok (.aload_n 0, 1) := by decide +kernel
theorem d_By_wrapped_11 : decode b_By_wrapped 11 = .ok (.getfield 7, 3) := by decide +kernel
theorem d_By_wrapped_14 : decode b_By_wrapped 14 = .ok (.arraylength, 1) := by decide +kernel
theorem d_By_wrapped_15 : decode b_By_wrapped 15 = .ok (.isub, 1) := by decide +kernel
theorem d_By_wrapped_16 : decode b_By_wrapped 16 = .ok (.goto 4, 3) := by decide +kernel
theorem d_By_wrapped_19 : decode b_By_wrapped 19 = .ok (.iload_n 1, 1) := by decide +kernel
theorem d_By_wrapped_20 : decode b_By_wrapped 20 = .ok (.ireturn, 1) := by decide +kernel
theorem d_By_add_0 : decode b_By_add 0 = .ok (.aload_n 0, 1) := by decide +kernel
theorem d_By_add_1 : decode b_By_add 1 = .ok (.getfield 17, 3) := by decide +kernel
theorem d_By_add_4 : decode b_By_add 4 = .ok (.aload_n 0, 1) := by decide +kernel
theorem d_By_add_5 : decode b_By_add 5 = .ok (.getfield 7, 3) := by decide +kernel
theorem d_By_add_8 : decode b_By_add 8 = .ok (.arraylength, 1) := by decide +kernel
theorem d_By_add_9 : decode b_By_add 9 = .ok (.if_icmp .ge 33, 3) := by decide +kernel
theorem d_By_add_12 : decode b_By_add 12 = .ok (.aload_n 0, 1) := by decide +kernel
theorem d_By_add_13 : decode b_By_add 13 = .ok (.getfield 7, 3) := by decide +kernel
theorem d_By_add_16 : decode b_By_add 16 = .ok (.aload_n 0, 1) := by decide +kernel
theorem d_By_add_17 : decode b_By_add 17 = .ok (.aload_n 0, 1) := by decide +kernel
theorem d_By_add_18 : decode b_By_add 18 = .ok (.getfield 13, 3) := by decide +kernel
theorem d_By_add_21 : decode b_By_add 21 = .ok (.aload_n 0, 1) := by decide +kernel
theorem d_By_add_22 : decode b_By_add 22 = .ok (.getfield 17, 3) := by decide +kernel
theorem d_By_add_25 : decode b_By_add 25 = .ok (.iadd, 1) := by decide +kernel
theorem d_By_add_26 : decode b_By_add 26 = .ok (.invokevirtual 20, 3) := by decide +kernel
theorem d_By_add_29 : decode b_By_add 29 = .ok (.iload_n 1, 1) := by decide +kernel
theorem d_By_add_30 : decode b_By_add 30 = .ok (.i2b, 1) := by decide +kernel
theorem d_By_add_31 : decode b_By_add 31 = .ok (.bastore, 1) := by decide +kernel
theorem d_By_add_32 : decode b_By_add 32 = .ok (.aload_n 0, 1) := by decide +kernel
theorem d_By_add_33 : decode b_By_add 33 = .ok (.dup, 1) := by decide +kernel
theorem d_By_add_34 : decode b_By_add 34 = .ok (.getfield 17, 3) := by decide +kernel
theorem d_By_add_37 : decode b_By_add 37 = .ok (.iconst 1, 1) := by decide +kernel
theorem d_By_add_38 : decode b_By_add 38 = .ok (.iadd, 1) := by decide +kernel
theorem d_By_add_39 : decode b_By_add 39 = .ok (.putfield 17, 3) := by decide +kernel
theorem d_By_add_42 : decode b_By_add 42 = .ok (.return_, 1) := by decide +kernel
theorem d_By_removeFirst_0 : decode b_By_removeFirst 0 = .ok (.aload_n 0, 1) := by decide +kernel
theorem d_By_removeFirst_1 : decode b_By_removeFirst 1 = .ok (.getfield 17, 3) := by decide +kernel
theorem d_By_removeFirst_4 : decode b_By_removeFirst 4 = .ok (.ifCond .ne 5, 3) := by decide +kernel
theorem d_By_removeFirst_7 : decode b_By_removeFirst 7 = .ok (.iconst (-1), 1) := by decide +kernel
theorem d_By_removeFirst_8 : decode b_By_removeFirst 8 = .ok (.ireturn, 1) := by decide +kernel
theorem d_By_removeFirst_9 : decode b_By_removeFirst 9 = .ok (.aload_n 0, 1) := by decide +kernel
theorem d_By_removeFirst_10 : decode b_By_removeFirst 10 = .ok (.getfield 7, 3) := by decide +kernel
theorem d_By_removeFirst_13 : decode b_By_removeFirst 13 = .ok (.aload_n 0, 1) := by decide +kernel
theorem d_By_removeFirst_14 : decode b_By_removeFirst 14 = .ok (.getfield 13, 3) := by decide +kernel
theorem d_By_removeFirst_17 : decode b_By_removeFirst 17 = .ok (.baload, 1) := by decide +kernel
theorem d_By_removeFirst_18 : decode b_By_removeFirst 18 = .ok (.sipush 255, 3) := by decide +kernel
theorem d_By_removeFirst_21 : decode b_By_removeFirst 21 = .ok (.iand, 1) := by decide +kernel
theorem d_By_removeFirst_22 : decode b_By_removeFirst 22 = .ok (.istore_n 1, 1) := by decide +kernel
theorem d_By_removeFirst_23 : decode b_By_removeFirst 23 = .ok (.aload_n 0, 1) := by decide +kernel
theorem d_By_removeFirst_24 : decode b_By_removeFirst 24 = .ok (.aload_n 0, 1) := by decide +kernel
theorem d_By_removeFirst_25 : decode b_By_removeFirst 25 = .ok (.aload_n 0, 1) := by decide +kernel
theorem d_By_removeFirst_26 : decode b_By_removeFirst 26 = .ok (.getfield 13, 3) := by decide +kernel
theorem d_By_removeFirst_29 : decode b_By_removeFirst 29 = .ok (.iconst 1, 1) := by decide +kernel
theorem d_By_removeFirst_30 : decode b_By_removeFirst 30 = .ok (.iadd, 1) := by decide +kernel
theorem d_By_removeFirst_31 : decode b_By_removeFirst 31 = .ok (.invokevirtual 20, 3) := by decide +kernel
theorem d_By_removeFirst_34 : decode b_By_removeFirst 34 = .ok (.putfield 13, 3) := by decide +kernel
theorem d_By_removeFirst_37 : decode b_By_removeFirst 37 = .ok (.aload_n 0, 1) := by decide +kernel
theorem d_By_removeFirst_38 : decode b_By_removeFirst 38 = .ok (.dup, 1) := by decide +kernel
theorem d_By_removeFirst_39 : decode b_By_removeFirst 39 = .ok (.getfield 17, 3) := by decide +kernel
theorem d_By_removeFirst_42 : decode b_By_removeFirst 42 = .ok (.iconst 1, 1) := by decide +kernel
theorem d_By_removeFirst_43 : decode b_By_removeFirst 43 = .ok (.isub, 1) := by decide +kernel
theorem d_By_removeFirst_44 : decode b_By_removeFirst 44 = .ok (.putfield 17, 3) := by decide +kernel
theorem d_By_removeFirst_47 : decode b_By_removeFirst 47 = .ok (.iload_n 1, 1) := by decide +kernel
theorem d_By_removeFirst_48 : decode b_By_removeFirst 48 = .ok (.ireturn, 1) := by decide +kernel
theorem d_By_forgetAll_0 : decode b_By_forgetAll 0 = .ok (.aload_n 0, 1) := by decide +kernel
theorem d_By_forgetAll_1 : decode b_By_forgetAll 1 = .ok (.iconst 0, 1) := by decide +kernel
theorem d_By_forgetAll_2 : decode b_By_forgetAll 2 = .ok (.putfield 13, 3) := by decide +kernel
theorem d_By_forgetAll_5 : decode b_By_forgetAll 5 = .ok (.aload_n 0, 1) := by decide +kernel
theorem d_By_forgetAll_6 : decode b_By_forgetAll 6 = .ok (.iconst 0, 1) := by decide +kernel
theorem d_By_forgetAll_7 : decode b_By_forgetAll 7 = .ok (.putfield 17, 3) := by decide +kernel
theorem d_By_forgetAll_10 : decode b_By_forgetAll 10 = .ok (.return_, 1) := by decide +kernel
theorem d_By_init_0 : decode b_By_init 0 = .ok (.aload_n 0, 1) := by decide +kernel
theorem d_By_init_1 : decode b_By_init 1 = .ok (.invokespecial 1, 3) := by decide +kernel
theorem d_By_init_4 : decode b_By_init 4 = .ok (.aload_n 0, 1) := by decide +kernel
theorem d_By_init_5 : decode b_By_init 5 = .ok (.iload_n 1, 1) := by decide +kernel
theorem d_By_init_6 : decode b_By_init 6 = .ok (.newarray .byte, 2) := by decide +kernel
theorem d_By_init_8 : decode b_By_init 8 = .ok (.putfield 7, 3) := by decide +kernel
theorem d_By_init_11 : decode b_By_init 11 = .ok (.return_, 1) := by decide +kernel

def sp_By_wrapped (at0 : Int32) (cap : Nat) : Int32 := if at0 < (nI cap) then at0 else at0 - (nI cap)
set_option maxHeartbeats 4000000 in
theorem c_By_wrapped (l : Launch) (D : va_G) (cI cB cJ : ClassId) (sz : Nat) (at0 : Int32) (b0 : Nat) (rb : Nat) (fi : Nat) (he : Nat) (cap : Nat) (bf : Nat → Int32) : zMet l y_By_wrapped (zWs y_By_wrapped b_By_wrapped 2 (some .int)) { frames := 0, cells := 0, slots := 0, locals := 0 } (zPc D (zT cI cB cJ) sz [(b0, .inr (2, [.ref rb, .int (nI fi), .int (nI he)])), (rb, .inl (cB, cap, .inl (bf)))] [.ref b0, .int at0]) (zQi D (va_A [(b0, .inr (2, [.ref rb, .int (nI fi), .int (nI he)])), (rb, .inl (cB, cap, .inl (bf)))] sz) (fun r (_ : Unit) => r = (sp_By_wrapped at0 cap)) (z0) (fun _ => [(b0, .inr (2, [.ref rb, .int (nI fi), .int (nI he)])), (rb, .inl (cB, cap, .inl (bf)))])) (va_A [(b0, .inr (2, [.ref rb, .int (nI fi), .int (nI he)])), (rb, .inl (cB, cap, .inl (bf)))] sz) := by
  refine zstart (Qc := fun A => zQi D A (fun r (_ : Unit) => r = (sp_By_wrapped at0 cap)) (z0) (fun _ => [(b0, .inr (2, [.ref rb, .int (nI fi), .int (nI he)])), (rb, .inl (cB, cap, .inl (bf)))])) (by decide) (Nat.le_of_ble_eq_true rfl) ?_
  intro p e s m below meth c ls A hE hr hlocks hin hsz hK hP hD hS hA hAe hl
  have hx := hE.1
  have hb := hE.2.1
  have hown := hE.2.2.2.1
  have hw := hE.2.2.2.2
  have hl : lv_has ls 2 [(0, .ref b0), (1, .int at0)] := hl
  refine lv_iload_n hx hb d_By_wrapped_0 rfl (lv_at hl 1 rfl) ?_
  refine lv_aload_n hx hb d_By_wrapped_1 rfl (lv_at hl 0 rfl) ?_
  refine zget hE hK hP 0 rfl fd_By_7 rfl d_By_wrapped_2 ?_
  refine va_alen (v := nI cap) hx hb hK hP 1 1 rfl rfl rfl d_By_wrapped_5 ?_
  refine lv_icmp_lt (tgt := 19) hx hb d_By_wrapped_6 (by decide) (fun h1 => ?_) (fun h1 => ?_)
  · refine lv_iload_n hx hb d_By_wrapped_19 rfl (lv_at hl 1 rfl) ?_
    have hs : (sp_By_wrapped at0 cap) = at0 := by rw [sp_By_wrapped, if_pos h1]
    have hP9 := hP.sub (ws' := [(b0, .inr (2, [.ref rb, .int (nI fi), .int (nI he)])), (rb, .inl (cB, cap, .inl (bf)))]) [0, 1] rfl
    have hD9 := hD.sub (ws' := [(b0, .inr (2, [.ref rb, .int (nI fi), .int (nI he)])), (rb, .inl (cB, cap, .inl (bf)))]) [0, 1] rfl rfl
    exact zreti hx hb hr rfl hlocks hS () (by rw [hs]) rfl (by exact hP9) (by exact hD9) d_By_wrapped_20
  · refine lv_iload_n hx hb d_By_wrapped_9 rfl (lv_at hl 1 rfl) ?_
    refine lv_aload_n hx hb d_By_wrapped_10 rfl (lv_at hl 0 rfl) ?_
    refine zget hE hK hP 0 rfl fd_By_7 rfl d_By_wrapped_11 ?_
    refine va_alen (v := nI cap) hx hb hK hP 1 1 rfl rfl rfl d_By_wrapped_14 ?_
    refine lv_isub hx hb d_By_wrapped_15 ?_
    refine lv_goto (tgt := 20) hx hb d_By_wrapped_16 (by decide) ?_
    have hs : (sp_By_wrapped at0 cap) = at0 - (nI cap) := by rw [sp_By_wrapped, if_neg h1]
    have hP9 := hP.sub (ws' := [(b0, .inr (2, [.ref rb, .int (nI fi), .int (nI he)])), (rb, .inl (cB, cap, .inl (bf)))]) [0, 1] rfl
    have hD9 := hD.sub (ws' := [(b0, .inr (2, [.ref rb, .int (nI fi), .int (nI he)])), (rb, .inl (cB, cap, .inl (bf)))]) [0, 1] rfl rfl
    exact zreti hx hb hr rfl hlocks hS () (by rw [hs]) rfl (by exact hP9) (by exact hD9) d_By_wrapped_20

theorem zwr {a cap : Nat} (hc : cap ≤ 4096) (ha : a < 2 * cap) : sp_By_wrapped (nI a) cap = nI (a % cap) := by
  unfold sp_By_wrapped
  by_cases h : a < cap
  · rw [if_pos (nI_lt h (by omega)), Nat.mod_eq_of_lt h]
  · rw [if_neg (nI_nlt (by omega) (by omega)), pk_sub (by omega), Nat.mod_eq_sub_mod (by omega), Nat.mod_eq_of_lt (by omega)]

set_option maxHeartbeats 4000000 in
theorem c_By_add (l : Launch) (D : va_G) (cI cB cJ : ClassId) (sz : Nat) (b : Int32) (b0 : Nat) (rb : Nat) (fi : Nat) (he : Nat) (cap : Nat) (bf : Nat → Int32) (hc : cap ≤ 4096) (hfi : fi < cap) (hhe : he ≤ cap) : zMet l y_By_add (zWs y_By_add b_By_add 2 (none)) { frames := 1, cells := 0, slots := 0, locals := 21 } (zPc D (zT cI cB cJ) sz [(b0, .inr (2, [.ref rb, .int (nI fi), .int (nI he)])), (rb, .inl (cB, cap, .inl (bf)))] [.ref b0, .int b]) (zQv D (va_A [(b0, .inr (2, [.ref rb, .int (nI fi), .int (nI he)])), (rb, .inl (cB, cap, .inl (bf)))] sz) (fun (_ : Unit) => True) (z0) (fun _ => [(b0, .inr (2, [.ref rb, .int (nI fi), .int (nI (if he < cap then he + 1 else he))])), (rb, .inl (cB, cap, .inl (if he < cap then upd bf ((fi + he) % cap) ((b : Int32).toInt8.toInt32) else bf)))])) (va_A [(b0, .inr (2, [.ref rb, .int (nI fi), .int (nI he)])), (rb, .inl (cB, cap, .inl (bf)))] sz) := by
  refine zstart (Qc := fun A => zQv D A (fun (_ : Unit) => True) (z0) (fun _ => [(b0, .inr (2, [.ref rb, .int (nI fi), .int (nI (if he < cap then he + 1 else he))])), (rb, .inl (cB, cap, .inl (if he < cap then upd bf ((fi + he) % cap) ((b : Int32).toInt8.toInt32) else bf)))])) (by decide) (Nat.le_of_ble_eq_true rfl) ?_
  intro p e s m below meth c ls A hE hr hlocks hin hsz hK hP hD hS hA hAe hl
  have hx := hE.1
  have hb := hE.2.1
  have hown := hE.2.2.2.1
  have hw := hE.2.2.2.2
  have hl : lv_has ls 2 [(0, .ref b0), (1, .int b)] := hl
  refine lv_aload_n hx hb d_By_add_0 rfl (lv_at hl 0 rfl) ?_
  refine zget hE hK hP 0 rfl fd_By_17 rfl d_By_add_1 ?_
  refine lv_aload_n hx hb d_By_add_4 rfl (lv_at hl 0 rfl) ?_
  refine zget hE hK hP 0 rfl fd_By_7 rfl d_By_add_5 ?_
  refine va_alen (v := nI cap) hx hb hK hP 1 1 rfl rfl rfl d_By_add_8 ?_
  refine lv_icmp_ge (tgt := 42) hx hb d_By_add_9 (by decide) (fun h1 => ?_) (fun h1 => ?_)
  · have hge : ¬ he < cap := z_le' (by omega) h1
    have hP9 := hP.sub (ws' := [(b0, .inr (2, [.ref rb, .int (nI fi), .int (nI he)])), (rb, .inl (cB, cap, .inl (bf)))]) [0, 1] rfl
    have hD9 := hD.sub (ws' := [(b0, .inr (2, [.ref rb, .int (nI fi), .int (nI he)])), (rb, .inl (cB, cap, .inl (bf)))]) [0, 1] rfl rfl
    exact zretv hx hb hr hlocks hS () trivial rfl (by simp only [if_neg hge]; exact hP9) (by simp only [if_neg hge]; exact hD9) d_By_add_42
  · have hlt : he < cap := z_nle' (by omega) h1
    refine lv_aload_n hx hb d_By_add_12 rfl (lv_at hl 0 rfl) ?_
    refine zget hE hK hP 0 rfl fd_By_7 rfl d_By_add_13 ?_
    refine lv_aload_n hx hb d_By_add_16 rfl (lv_at hl 0 rfl) ?_
    refine lv_aload_n hx hb d_By_add_17 rfl (lv_at hl 0 rfl) ?_
    refine zget hE hK hP 0 rfl fd_By_13 rfl d_By_add_18 ?_
    refine lv_aload_n hx hb d_By_add_21 rfl (lv_at hl 0 rfl) ?_
    refine zget hE hK hP 0 rfl fd_By_17 rfl d_By_add_22 ?_
    refine lv_iadd hx hb d_By_add_25 ?_
    refine z_st (st' := [.int (nI (fi + he)), .ref b0, .ref rb]) (by rw [show (((nI fi) + (nI he)) : Int32) = nI (fi + he) from nI_add fi he]) ?_
    refine zgoi (wr := []) (zrunV (n := 1) (As := [.int (nI (fi + he))]) (rest := [.ref rb]) hE (c_By_wrapped l D cI cB cJ _ (nI (fi + he)) b0 rb fi he cap bf) cb_By_wrapped lk_By_20 in_By_wrapped se_By_wrapped (zpreV (q0 := 0) hK hP hD rfl rfl rfl [0, 1] rfl rfl rfl) ⟨Nat.le_of_ble_eq_true rfl, Nat.le_of_ble_eq_true rfl, Nat.le_of_ble_eq_true rfl, Nat.le_of_ble_eq_true rfl⟩ rfl hl.1 rfl (Nat.le_of_ble_eq_true rfl) d_By_add_26) hP hD hS hA [0, 1] [] rfl rfl rfl (by decide) (fun r u H locs hq2 hP hD hS => ?_)
    subst hq2
    have hP : va_P D zC [(b0, .inr (2, [.ref rb, .int (nI fi), .int (nI he)])), (rb, .inl (cB, cap, .inl (bf)))] H := hP
    have hD : va_D A [(b0, .inr (2, [.ref rb, .int (nI fi), .int (nI he)])), (rb, .inl (cB, cap, .inl (bf)))] := hD
    refine z_st (st' := [.int (nI ((fi + he) % cap)), .ref rb]) (by rw [show (((sp_By_wrapped (nI (fi + he)) cap)) : Int32) = nI ((fi + he) % cap) from zwr hc (by omega)]) ?_
    refine lv_iload_n hx hb d_By_add_29 rfl (lv_at hl 1 rfl) ?_
    refine lv_i2b (v := (b : Int32).toInt8.toInt32) hx hb d_By_add_30 rfl ?_
    refine va_bast hx hb hK hP hD hS 1 1 rfl rfl (vp_in_nI (Nat.mod_lt _ (by omega)) (by omega)) d_By_add_31 (fun H locs hP hD hS => ?_)
    have hP : va_P D zC [(b0, .inr (2, [.ref rb, .int (nI fi), .int (nI he)])), (rb, .inl (cB, cap, .inl (upd bf (nI ((fi + he) % cap)).toNatClampNeg (vp_nar .byte ((b : Int32).toInt8.toInt32)))))] H := hP
    have hD : va_D A [(b0, .inr (2, [.ref rb, .int (nI fi), .int (nI he)])), (rb, .inl (cB, cap, .inl (upd bf (nI ((fi + he) % cap)).toNatClampNeg (vp_nar .byte ((b : Int32).toInt8.toInt32)))))] := hD
    rw [show ((upd bf (nI ((fi + he) % cap)).toNatClampNeg (vp_nar .byte ((b : Int32).toInt8.toInt32))) : Nat → Int32) = upd bf ((fi + he) % cap) ((b : Int32).toInt8.toInt32) from by rw [nI_clamp (Nat.lt_of_lt_of_le (Nat.mod_lt _ (by omega)) (by omega)), pk_vb]] at hP hD
    have hP : va_P D zC [(b0, .inr (2, [.ref rb, .int (nI fi), .int (nI he)])), (rb, .inl (cB, cap, .inl (upd bf ((fi + he) % cap) ((b : Int32).toInt8.toInt32))))] H := hP
    have hD : va_D A [(b0, .inr (2, [.ref rb, .int (nI fi), .int (nI he)])), (rb, .inl (cB, cap, .inl (upd bf ((fi + he) % cap) ((b : Int32).toInt8.toInt32))))] := hD
    refine lv_aload_n hx hb d_By_add_32 rfl (lv_at hl 0 rfl) ?_
    refine lv_dup hx hb d_By_add_33 rfl ?_
    refine zget hE hK hP 0 rfl fd_By_17 rfl d_By_add_34 ?_
    refine lv_iconst (v := 1) hx hb d_By_add_37 (by decide) ?_
    refine lv_iadd hx hb d_By_add_38 ?_
    refine z_st (st' := [.int (nI (he + 1)), .ref b0]) (by rw [show (((nI he) + 1) : Int32) = nI (he + 1) from nI_1 he]) ?_
    refine zput (v := .int (nI (he + 1))) hE hK hP hD hS 0 rfl fd_By_17 ft_By_2 rfl rfl (Nat.le_of_ble_eq_true rfl) d_By_add_39 (fun H locs hP hD hS => ?_)
    have hP : va_P D zC [(b0, .inr (2, [.ref rb, .int (nI fi), .int (nI (he + 1))])), (rb, .inl (cB, cap, .inl (upd bf ((fi + he) % cap) ((b : Int32).toInt8.toInt32))))] H := hP
    have hD : va_D A [(b0, .inr (2, [.ref rb, .int (nI fi), .int (nI (he + 1))])), (rb, .inl (cB, cap, .inl (upd bf ((fi + he) % cap) ((b : Int32).toInt8.toInt32))))] := hD
    have hP9 := hP.sub (ws' := [(b0, .inr (2, [.ref rb, .int (nI fi), .int (nI (he + 1))])), (rb, .inl (cB, cap, .inl (upd bf ((fi + he) % cap) ((b : Int32).toInt8.toInt32))))]) [0, 1] rfl
    have hD9 := hD.sub (ws' := [(b0, .inr (2, [.ref rb, .int (nI fi), .int (nI (he + 1))])), (rb, .inl (cB, cap, .inl (upd bf ((fi + he) % cap) ((b : Int32).toInt8.toInt32))))]) [0, 1] rfl rfl
    exact zretv hx hb hr hlocks hS () trivial rfl (by simp only [if_pos hlt]; exact hP9) (by simp only [if_pos hlt]; exact hD9) d_By_add_42

set_option maxHeartbeats 4000000 in
theorem c_By_removeFirst (l : Launch) (D : va_G) (cI cB cJ : ClassId) (sz : Nat) (b0 : Nat) (rb : Nat) (fi : Nat) (he : Nat) (cap : Nat) (bf : Nat → Int32) (hc : cap ≤ 4096) (hfi : fi < cap) (hhe : he ≤ cap) : zMet l y_By_removeFirst (zWs y_By_removeFirst b_By_removeFirst 2 (some .int)) { frames := 1, cells := 0, slots := 0, locals := 21 } (zPc D (zT cI cB cJ) sz [(b0, .inr (2, [.ref rb, .int (nI fi), .int (nI he)])), (rb, .inl (cB, cap, .inl (bf)))] [.ref b0]) (zQi D (va_A [(b0, .inr (2, [.ref rb, .int (nI fi), .int (nI he)])), (rb, .inl (cB, cap, .inl (bf)))] sz) (fun r (_ : Unit) => r = (if he = 0 then -1 else bf fi &&& 255)) (z0) (fun _ => [(b0, .inr (2, [.ref rb, .int (nI (if he = 0 then fi else (fi + 1) % cap)), .int (nI (he - 1))])), (rb, .inl (cB, cap, .inl (bf)))])) (va_A [(b0, .inr (2, [.ref rb, .int (nI fi), .int (nI he)])), (rb, .inl (cB, cap, .inl (bf)))] sz) := by
  refine zstart (Qc := fun A => zQi D A (fun r (_ : Unit) => r = (if he = 0 then -1 else bf fi &&& 255)) (z0) (fun _ => [(b0, .inr (2, [.ref rb, .int (nI (if he = 0 then fi else (fi + 1) % cap)), .int (nI (he - 1))])), (rb, .inl (cB, cap, .inl (bf)))])) (by decide) (Nat.le_of_ble_eq_true rfl) ?_
  intro p e s m below meth c ls A hE hr hlocks hin hsz hK hP hD hS hA hAe hl
  have hx := hE.1
  have hb := hE.2.1
  have hown := hE.2.2.2.1
  have hw := hE.2.2.2.2
  have hl : lv_has ls 2 [(0, .ref b0)] := hl
  refine lv_aload_n hx hb d_By_removeFirst_0 rfl (lv_at hl 0 rfl) ?_
  refine zget hE hK hP 0 rfl fd_By_17 rfl d_By_removeFirst_1 ?_
  refine lv_if_ne (tgt := 9) hx hb d_By_removeFirst_4 (by decide) (fun h1 => ?_) (fun h1 => ?_)
  · have hn0 : ¬ he = 0 := z_n0 h1
    refine lv_aload_n hx hb d_By_removeFirst_9 rfl (lv_at hl 0 rfl) ?_
    refine zget hE hK hP 0 rfl fd_By_7 rfl d_By_removeFirst_10 ?_
    refine lv_aload_n hx hb d_By_removeFirst_13 rfl (lv_at hl 0 rfl) ?_
    refine zget hE hK hP 0 rfl fd_By_13 rfl d_By_removeFirst_14 ?_
    refine va_bald hx hb hK hP 1 1 rfl rfl (vp_in_nI hfi (by omega)) d_By_removeFirst_17 ?_
    refine z_st (st' := [.int (bf fi)]) (by rw [show ((bf (nI fi).toNatClampNeg) : Int32) = bf fi from by rw [nI_clamp (by omega)]]) ?_
    refine lv_sipush (v := 255) hx hb d_By_removeFirst_18 (by decide) ?_
    refine lv_iand hx hb d_By_removeFirst_21 ?_
    refine lv_istore_n (lv' := [(1, .int ((bf fi) &&& 255)), (0, .ref b0)]) hx hb d_By_removeFirst_22 rfl hl (by decide) rfl (fun ls hl => ?_)
    refine lv_aload_n hx hb d_By_removeFirst_23 rfl (lv_at hl 1 rfl) ?_
    refine lv_aload_n hx hb d_By_removeFirst_24 rfl (lv_at hl 1 rfl) ?_
    refine lv_aload_n hx hb d_By_removeFirst_25 rfl (lv_at hl 1 rfl) ?_
    refine zget hE hK hP 0 rfl fd_By_13 rfl d_By_removeFirst_26 ?_
    refine lv_iconst (v := 1) hx hb d_By_removeFirst_29 (by decide) ?_
    refine lv_iadd hx hb d_By_removeFirst_30 ?_
    refine z_st (st' := [.int (nI (fi + 1)), .ref b0, .ref b0]) (by rw [show (((nI fi) + 1) : Int32) = nI (fi + 1) from nI_1 fi]) ?_
    refine zgoi (wr := []) (zrunV (n := 1) (As := [.int (nI (fi + 1))]) (rest := [.ref b0]) hE (c_By_wrapped l D cI cB cJ _ (nI (fi + 1)) b0 rb fi he cap bf) cb_By_wrapped lk_By_20 in_By_wrapped se_By_wrapped (zpreV (q0 := 0) hK hP hD rfl rfl rfl [0, 1] rfl rfl rfl) ⟨Nat.le_of_ble_eq_true rfl, Nat.le_of_ble_eq_true rfl, Nat.le_of_ble_eq_true rfl, Nat.le_of_ble_eq_true rfl⟩ rfl hl.1 rfl (Nat.le_of_ble_eq_true rfl) d_By_removeFirst_31) hP hD hS hA [0, 1] [] rfl rfl rfl (by decide) (fun r u H locs hq2 hP hD hS => ?_)
    subst hq2
    have hP : va_P D zC [(b0, .inr (2, [.ref rb, .int (nI fi), .int (nI he)])), (rb, .inl (cB, cap, .inl (bf)))] H := hP
    have hD : va_D A [(b0, .inr (2, [.ref rb, .int (nI fi), .int (nI he)])), (rb, .inl (cB, cap, .inl (bf)))] := hD
    refine z_st (st' := [.int (nI ((fi + 1) % cap)), .ref b0]) (by rw [show (((sp_By_wrapped (nI (fi + 1)) cap)) : Int32) = nI ((fi + 1) % cap) from zwr hc (by omega)]) ?_
    refine zput (v := .int (nI ((fi + 1) % cap))) hE hK hP hD hS 0 rfl fd_By_13 ft_By_1 rfl rfl (Nat.le_of_ble_eq_true rfl) d_By_removeFirst_34 (fun H locs hP hD hS => ?_)
    have hP : va_P D zC [(b0, .inr (2, [.ref rb, .int (nI ((fi + 1) % cap)), .int (nI he)])), (rb, .inl (cB, cap, .inl (bf)))] H := hP
    have hD : va_D A [(b0, .inr (2, [.ref rb, .int (nI ((fi + 1) % cap)), .int (nI he)])), (rb, .inl (cB, cap, .inl (bf)))] := hD
    refine lv_aload_n hx hb d_By_removeFirst_37 rfl (lv_at hl 1 rfl) ?_
    refine lv_dup hx hb d_By_removeFirst_38 rfl ?_
    refine zget hE hK hP 0 rfl fd_By_17 rfl d_By_removeFirst_39 ?_
    refine lv_iconst (v := 1) hx hb d_By_removeFirst_42 (by decide) ?_
    refine lv_isub hx hb d_By_removeFirst_43 ?_
    refine z_st (st' := [.int (nI (he - 1)), .ref b0]) (by rw [show (((nI he) - 1) : Int32) = nI (he - 1) from pk_sub (b := 1) (by omega)]) ?_
    refine zput (v := .int (nI (he - 1))) hE hK hP hD hS 0 rfl fd_By_17 ft_By_2 rfl rfl (Nat.le_of_ble_eq_true rfl) d_By_removeFirst_44 (fun H locs hP hD hS => ?_)
    have hP : va_P D zC [(b0, .inr (2, [.ref rb, .int (nI ((fi + 1) % cap)), .int (nI (he - 1))])), (rb, .inl (cB, cap, .inl (bf)))] H := hP
    have hD : va_D A [(b0, .inr (2, [.ref rb, .int (nI ((fi + 1) % cap)), .int (nI (he - 1))])), (rb, .inl (cB, cap, .inl (bf)))] := hD
    refine lv_iload_n hx hb d_By_removeFirst_47 rfl (lv_at hl 0 rfl) ?_
    have hP9 := hP.sub (ws' := [(b0, .inr (2, [.ref rb, .int (nI ((fi + 1) % cap)), .int (nI (he - 1))])), (rb, .inl (cB, cap, .inl (bf)))]) [0, 1] rfl
    have hD9 := hD.sub (ws' := [(b0, .inr (2, [.ref rb, .int (nI ((fi + 1) % cap)), .int (nI (he - 1))])), (rb, .inl (cB, cap, .inl (bf)))]) [0, 1] rfl rfl
    exact zreti hx hb hr rfl hlocks hS () (by rw [if_neg hn0]) rfl (by rw [if_neg hn0]; exact hP9) (by rw [if_neg hn0]; exact hD9) d_By_removeFirst_48
  · have h0 : he = 0 := z_e0 (by omega) h1
    refine lv_iconst (v := (-1)) hx hb d_By_removeFirst_7 (by decide) ?_
    have hP9 := hP.sub (ws' := [(b0, .inr (2, [.ref rb, .int (nI fi), .int (nI he)])), (rb, .inl (cB, cap, .inl (bf)))]) [0, 1] rfl
    have hD9 := hD.sub (ws' := [(b0, .inr (2, [.ref rb, .int (nI fi), .int (nI he)])), (rb, .inl (cB, cap, .inl (bf)))]) [0, 1] rfl rfl
    exact zreti hx hb hr rfl hlocks hS () (by rw [if_pos h0]) rfl (by rw [if_pos h0]; subst h0; exact hP9) (by rw [if_pos h0]; subst h0; exact hD9) d_By_removeFirst_8

set_option maxHeartbeats 4000000 in
theorem c_By_forgetAll (l : Launch) (D : va_G) (cI cB cJ : ClassId) (sz : Nat) (b0 : Nat) (rb : Nat) (fi : Nat) (he : Nat) : zMet l y_By_forgetAll (zWs y_By_forgetAll b_By_forgetAll 1 (none)) { frames := 0, cells := 0, slots := 0, locals := 0 } (zPc D (zT cI cB cJ) sz [(b0, .inr (2, [.ref rb, .int (nI fi), .int (nI he)]))] [.ref b0]) (zQv D (va_A [(b0, .inr (2, [.ref rb, .int (nI fi), .int (nI he)]))] sz) (fun (_ : Unit) => True) (z0) (fun _ => [(b0, .inr (2, [.ref rb, .int (nI 0), .int (nI 0)]))])) (va_A [(b0, .inr (2, [.ref rb, .int (nI fi), .int (nI he)]))] sz) := by
  refine zstart (Qc := fun A => zQv D A (fun (_ : Unit) => True) (z0) (fun _ => [(b0, .inr (2, [.ref rb, .int (nI 0), .int (nI 0)]))])) (by decide) (Nat.le_of_ble_eq_true rfl) ?_
  intro p e s m below meth c ls A hE hr hlocks hin hsz hK hP hD hS hA hAe hl
  have hx := hE.1
  have hb := hE.2.1
  have hown := hE.2.2.2.1
  have hw := hE.2.2.2.2
  have hl : lv_has ls 1 [(0, .ref b0)] := hl
  refine lv_aload_n hx hb d_By_forgetAll_0 rfl (lv_at hl 0 rfl) ?_
  refine lv_iconst (v := 0) hx hb d_By_forgetAll_1 (by decide) ?_
  refine zput (v := .int 0) hE hK hP hD hS 0 rfl fd_By_13 ft_By_1 rfl rfl (Nat.le_of_ble_eq_true rfl) d_By_forgetAll_2 (fun H locs hP hD hS => ?_)
  have hP : va_P D zC [(b0, .inr (2, [.ref rb, .int 0, .int (nI he)]))] H := hP
  have hD : va_D A [(b0, .inr (2, [.ref rb, .int 0, .int (nI he)]))] := hD
  refine lv_aload_n hx hb d_By_forgetAll_5 rfl (lv_at hl 0 rfl) ?_
  refine lv_iconst (v := 0) hx hb d_By_forgetAll_6 (by decide) ?_
  refine zput (v := .int 0) hE hK hP hD hS 0 rfl fd_By_17 ft_By_2 rfl rfl (Nat.le_of_ble_eq_true rfl) d_By_forgetAll_7 (fun H locs hP hD hS => ?_)
  have hP : va_P D zC [(b0, .inr (2, [.ref rb, .int 0, .int 0]))] H := hP
  have hD : va_D A [(b0, .inr (2, [.ref rb, .int 0, .int 0]))] := hD
  have hP9 := hP.sub (ws' := [(b0, .inr (2, [.ref rb, .int 0, .int 0]))]) [0] rfl
  have hD9 := hD.sub (ws' := [(b0, .inr (2, [.ref rb, .int 0, .int 0]))]) [0] rfl rfl
  exact zretv hx hb hr hlocks hS () trivial rfl hP9 hD9 d_By_forgetAll_10

set_option maxHeartbeats 4000000 in
theorem c_By_init (l : Launch) (D : va_G) (cI cB cJ : ClassId) (sz : Nat) (n : Int32) (b0 : Nat) (cap : Nat) (hcap : n = nI cap) (hc : cap ≤ 4096) : zMet l y_By_init (zWs y_By_init b_By_init 2 (none)) { frames := 1, cells := 1, slots := cap, locals := 20 } (zPc D (zT cI cB cJ) sz [(b0, .inr (2, [.null, .int 0, .int 0]))] [.ref b0, .int n]) (zQv D (va_A [(b0, .inr (2, [.null, .int 0, .int 0]))] sz) (fun (_ : Nat) => True) (fun _ => (1, cap)) (fun q => [(b0, .inr (2, [.ref q, .int (nI 0), .int (nI 0)])), (q, .inl (cB, cap, .inl (fun _ => 0)))])) (va_A [(b0, .inr (2, [.null, .int 0, .int 0]))] sz) := by
  refine zstart (Qc := fun A => zQv D A (fun (_ : Nat) => True) (fun _ => (1, cap)) (fun q => [(b0, .inr (2, [.ref q, .int (nI 0), .int (nI 0)])), (q, .inl (cB, cap, .inl (fun _ => 0)))])) (by decide) (Nat.le_of_ble_eq_true rfl) ?_
  intro p e s m below meth c ls A hE hr hlocks hin hsz hK hP hD hS hA hAe hl
  have hx := hE.1
  have hb := hE.2.1
  have hown := hE.2.2.2.1
  have hw := hE.2.2.2.2
  have hl : lv_has ls 2 [(0, .ref b0), (1, .int n)] := hl
  refine lv_aload_n hx hb d_By_init_0 rfl (lv_at hl 0 rfl) ?_
  refine W.objInit hx hb hown (hw _ ol_By) (hw _ oi_in) (hw _ oi_code) rfl (by rw [hE.2.2.1]; exact hl.1) rfl d_By_init_1 (Nat.le_of_ble_eq_true rfl) (Nat.le_of_ble_eq_true rfl) ?_
  refine W.eq (g2 := F0 m 4 ls []) rfl ?_
  refine lv_aload_n hx hb d_By_init_4 rfl (lv_at hl 0 rfl) ?_
  refine lv_iload_n hx hb d_By_init_5 rfl (lv_at hl 1 rfl) ?_
  refine va_newa (a0 := (cap, .inl (fun _ => 0))) (N' := cap) hx hb (hw _ aw_byte) rfl hK hP hD hS hA (fun _ => rfl) (by rw [hcap]; exact nI_pos (by omega)) (by rw [hcap]; exact nI_clamp (by omega)) (by show cap * 1 ≤ 536870912; omega) (Nat.le_of_ble_eq_true rfl) (by show 0 + cap ≤ cap; omega) d_By_init_6 (fun q1 cA0 H hK0 hP hD hS => ?_)
  obtain rfl : cB = cA0 := zK_byte hK0
  have hP : va_P D zC [(b0, .inr (2, [.null, .int 0, .int 0])), (q1, .inl (cB, cap, .inl (fun _ => 0)))] H := hP
  have hD : va_D A [(b0, .inr (2, [.null, .int 0, .int 0])), (q1, .inl (cB, cap, .inl (fun _ => 0)))] := hD
  refine zputF (v := .ref q1) hE hin hK hP hD hS 0 rfl rfl fd_By_7 ft_By_0 rfl rfl (Nat.le_of_ble_eq_true rfl) d_By_init_8 fl_By_7 (fun H locs hP hD hS => ?_)
  have hP : va_P D zC [(b0, .inr (2, [.ref q1, .int 0, .int 0])), (q1, .inl (cB, cap, .inl (fun _ => 0)))] H := hP
  have hD : va_D A [(b0, .inr (2, [.ref q1, .int 0, .int 0])), (q1, .inl (cB, cap, .inl (fun _ => 0)))] := hD
  have hP9 := hP.sub (ws' := [(b0, .inr (2, [.ref q1, .int 0, .int 0])), (q1, .inl (cB, cap, .inl (fun _ => 0)))]) [0, 1] rfl
  have hD9 := hD.sub (ws' := [(b0, .inr (2, [.ref q1, .int 0, .int 0])), (q1, .inl (cB, cap, .inl (fun _ => 0)))]) [0, 1] rfl rfl
  exact zretv hx hb hr hlocks hS q1 trivial (by show (1, cap) = (0 + 1, 0 + cap); simp) hP9 hD9 d_By_init_11
