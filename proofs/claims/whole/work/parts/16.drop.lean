/-! decode rows -/
theorem d_Me_drop_0 : decode b_Me_drop 0 = .ok (.aload_n 0, 1) := by decide +kernel
theorem d_Me_drop_1 : decode b_Me_drop 1 = .ok (.getfield 9, 3) := by decide +kernel
theorem d_Me_drop_4 : decode b_Me_drop 4 = .ok (.iload_n 1, 1) := by decide +kernel
theorem d_Me_drop_5 : decode b_Me_drop 5 = .ok (.iaload, 1) := by decide +kernel
theorem d_Me_drop_6 : decode b_Me_drop 6 = .ok (.invokestatic 42, 3) := by decide +kernel
theorem d_Me_drop_9 : decode b_Me_drop 9 = .ok (.istore_n 2, 1) := by decide +kernel
theorem d_Me_drop_10 : decode b_Me_drop 10 = .ok (.aload_n 0, 1) := by decide +kernel
theorem d_Me_drop_11 : decode b_Me_drop 11 = .ok (.getfield 13, 3) := by decide +kernel
theorem d_Me_drop_14 : decode b_Me_drop 14 = .ok (.iload_n 1, 1) := by decide +kernel
theorem d_Me_drop_15 : decode b_Me_drop 15 = .ok (.iaload, 1) := by decide +kernel
theorem d_Me_drop_16 : decode b_Me_drop 16 = .ok (.iload_n 2, 1) := by decide +kernel
theorem d_Me_drop_17 : decode b_Me_drop 17 = .ok (.iadd, 1) := by decide +kernel
theorem d_Me_drop_18 : decode b_Me_drop 18 = .ok (.aload_n 0, 1) := by decide +kernel
theorem d_Me_drop_19 : decode b_Me_drop 19 = .ok (.getfield 39, 3) := by decide +kernel
theorem d_Me_drop_22 : decode b_Me_drop 22 = .ok (.if_icmp .ne 13, 3) := by decide +kernel
theorem d_Me_drop_25 : decode b_Me_drop 25 = .ok (.aload_n 0, 1) := by decide +kernel
theorem d_Me_drop_26 : decode b_Me_drop 26 = .ok (.aload_n 0, 1) := by decide +kernel
theorem d_Me_drop_27 : decode b_Me_drop 27 = .ok (.getfield 13, 3) := by decide +kernel
theorem d_Me_drop_30 : decode b_Me_drop 30 = .ok (.iload_n 1, 1) := by decide +kernel
theorem d_Me_drop_31 : decode b_Me_drop 31 = .ok (.iaload, 1) := by decide +kernel
theorem d_Me_drop_32 : decode b_Me_drop 32 = .ok (.putfield 39, 3) := by decide +kernel
theorem d_Me_drop_35 : decode b_Me_drop 35 = .ok (.aload_n 0, 1) := by decide +kernel
theorem d_Me_drop_36 : decode b_Me_drop 36 = .ok (.getfield 9, 3) := by decide +kernel
theorem d_Me_drop_39 : decode b_Me_drop 39 = .ok (.iload_n 1, 1) := by decide +kernel
theorem d_Me_drop_40 : decode b_Me_drop 40 = .ok (.iconst (-1), 1) := by decide +kernel
theorem d_Me_drop_41 : decode b_Me_drop 41 = .ok (.iastore, 1) := by decide +kernel
theorem d_Me_drop_42 : decode b_Me_drop 42 = .ok (.aload_n 0, 1) := by decide +kernel
theorem d_Me_drop_43 : decode b_Me_drop 43 = .ok (.dup, 1) := by decide +kernel
theorem d_Me_drop_44 : decode b_Me_drop 44 = .ok (.getfield 30, 3) := by decide +kernel
theorem d_Me_drop_47 : decode b_Me_drop 47 = .ok (.iload_n 2, 1) := by decide +kernel
theorem d_Me_drop_48 : decode b_Me_drop 48 = .ok (.isub, 1) := by decide +kernel
theorem d_Me_drop_49 : decode b_Me_drop 49 = .ok (.putfield 30, 3) := by decide +kernel
theorem d_Me_drop_52 : decode b_Me_drop 52 = .ok (.return_, 1) := by decide +kernel

set_option maxHeartbeats 4000000 in
theorem c_Me_drop (l : Launch) (D : va_G) (cI cB cJ : ClassId) (sz : Nat) (n0 : Int32) (h0 : Nat) (md : Nat) (bt : Nat) (lo : Nat) (nl : Nat) (sa : Nat) (ta : Nat) (fa : Nat) (pa : Nat) (pe : Nat) (ba : Nat) (rn : Nat) (sf : Nat → Int32) (tf : Nat → Int32) (k0 : Nat) (zz : Nat) (qq : Nat) (hk : n0 = nI k0) (hkr : k0 < rn) (hrm : rn ≤ 8001) (hsf : sf k0 = nI zz) (hz : zz ≤ 4000) (htf : tf k0 = nI qq) (hq : qq ≤ 80000) (hpe : pe ≤ 80000) (hbz : up4 zz ≤ bt) (hb4 : bt ≤ 40000) : zMet l y_Me_drop (zWs y_Me_drop b_Me_drop 3 (none)) { frames := 1, cells := 0, slots := 0, locals := 20 } (zPc D (zT cI cB cJ) sz [(h0, .inr (1, [.int (nI md), .int (nI bt), .int (nI lo), .int (nI nl), .ref sa, .ref ta, .ref fa, .ref pa, .int (nI pe), .ref ba])), (sa, .inl (cI, rn, .inl (sf))), (ta, .inl (cI, rn, .inl (tf)))] [.ref h0, .int n0]) (zQv D (va_A [(h0, .inr (1, [.int (nI md), .int (nI bt), .int (nI lo), .int (nI nl), .ref sa, .ref ta, .ref fa, .ref pa, .int (nI pe), .ref ba])), (sa, .inl (cI, rn, .inl (sf))), (ta, .inl (cI, rn, .inl (tf)))] sz) (fun (_ : Unit) => True) (z0) (fun _ => [(h0, .inr (1, [.int (nI md), .int (nI (bt - up4 zz)), .int (nI lo), .int (nI nl), .ref sa, .ref ta, .ref fa, .ref pa, .int (nI (if qq + up4 zz = pe then qq else pe)), .ref ba])), (sa, .inl (cI, rn, .inl (upd sf k0 (-1)))), (ta, .inl (cI, rn, .inl (tf)))])) (va_A [(h0, .inr (1, [.int (nI md), .int (nI bt), .int (nI lo), .int (nI nl), .ref sa, .ref ta, .ref fa, .ref pa, .int (nI pe), .ref ba])), (sa, .inl (cI, rn, .inl (sf))), (ta, .inl (cI, rn, .inl (tf)))] sz) := by
  refine zstart (Qc := fun A => zQv D A (fun (_ : Unit) => True) (z0) (fun _ => [(h0, .inr (1, [.int (nI md), .int (nI (bt - up4 zz)), .int (nI lo), .int (nI nl), .ref sa, .ref ta, .ref fa, .ref pa, .int (nI (if qq + up4 zz = pe then qq else pe)), .ref ba])), (sa, .inl (cI, rn, .inl (upd sf k0 (-1)))), (ta, .inl (cI, rn, .inl (tf)))])) (by decide) (Nat.le_of_ble_eq_true rfl) ?_
  intro p e s m below meth c ls A hE hr hlocks hin hsz hK hP hD hS hA hAe hl
  have hx := hE.1
  have hb := hE.2.1
  have hown := hE.2.2.2.1
  have hw := hE.2.2.2.2
  have hl : lv_has ls 3 [(0, .ref h0), (1, .int n0)] := hl
  refine lv_aload_n hx hb d_Me_drop_0 rfl (lv_at hl 0 rfl) ?_
  refine zget hE hK hP 0 rfl fd_Me_9 rfl d_Me_drop_1 ?_
  refine lv_iload_n hx hb d_Me_drop_4 rfl (lv_at hl 1 rfl) ?_
  refine va_iald hx hb hK hP 1 0 rfl rfl (by rw [hk]; exact vp_in_nI hkr (by omega)) d_Me_drop_5 ?_
  refine z_st (st' := [.int (nI zz)]) (by rw [show ((sf n0.toNatClampNeg) : Int32) = nI zz from by rw [hk, nI_clamp (by omega)]; exact hsf]) ?_
  refine zgoi (wr := [(h0, .inr (1, [.int (nI md), .int (nI bt), .int (nI lo), .int (nI nl), .ref sa, .ref ta, .ref fa, .ref pa, .int (nI pe), .ref ba])), (sa, .inl (cI, rn, .inl (sf))), (ta, .inl (cI, rn, .inl (tf)))]) (zrunS (n := 1) (As := [.int (nI zz)]) (rest := []) hE (c_Me_roundedUp l D _ _ (nI zz)) cb_Me_roundedUp lk_Me_42 st_Me_roundedUp (zpreS hK hP hD [] rfl rfl rfl) ⟨Nat.le_of_ble_eq_true rfl, Nat.le_of_ble_eq_true rfl, Nat.le_of_ble_eq_true rfl, Nat.le_of_ble_eq_true rfl⟩ rfl hl.1 rfl (Nat.le_of_ble_eq_true rfl) d_Me_drop_6) hP hD hS hA [] [0, 1, 2] rfl rfl rfl (by decide) (fun r2 u3 H locs hq1 hP hD hS => ?_)
  subst hq1
  have hP : va_P D zC [(h0, .inr (1, [.int (nI md), .int (nI bt), .int (nI lo), .int (nI nl), .ref sa, .ref ta, .ref fa, .ref pa, .int (nI pe), .ref ba])), (sa, .inl (cI, rn, .inl (sf))), (ta, .inl (cI, rn, .inl (tf)))] _ := hP
  have hD : va_D A [(h0, .inr (1, [.int (nI md), .int (nI bt), .int (nI lo), .int (nI nl), .ref sa, .ref ta, .ref fa, .ref pa, .int (nI pe), .ref ba])), (sa, .inl (cI, rn, .inl (sf))), (ta, .inl (cI, rn, .inl (tf)))] := hD
  refine z_st (st' := [.int (nI (up4 zz))]) (by rw [show ((sp_Me_roundedUp (nI zz)) : Int32) = nI (up4 zz) from up4_c zz (by omega)]) ?_
  refine lv_istore_n (lv' := [(2, .int (nI (up4 zz))), (0, .ref h0), (1, .int n0)]) hx hb d_Me_drop_9 rfl hl (by decide) rfl (fun ls hl => ?_)
  refine lv_aload_n hx hb d_Me_drop_10 rfl (lv_at hl 1 rfl) ?_
  refine zget hE hK hP 0 rfl fd_Me_13 rfl d_Me_drop_11 ?_
  refine lv_iload_n hx hb d_Me_drop_14 rfl (lv_at hl 2 rfl) ?_
  refine va_iald hx hb hK hP 2 0 rfl rfl (by rw [hk]; exact vp_in_nI hkr (by omega)) d_Me_drop_15 ?_
  refine z_st (st' := [.int (nI qq)]) (by rw [show ((tf n0.toNatClampNeg) : Int32) = nI qq from by rw [hk, nI_clamp (by omega)]; exact htf]) ?_
  refine lv_iload_n hx hb d_Me_drop_16 rfl (lv_at hl 0 rfl) ?_
  refine lv_iadd hx hb d_Me_drop_17 ?_
  refine z_st (st' := [.int (nI (qq + up4 zz))]) (by rw [show (((nI qq) + (nI (up4 zz))) : Int32) = nI (qq + up4 zz) from nI_add _ _]) ?_
  refine lv_aload_n hx hb d_Me_drop_18 rfl (lv_at hl 1 rfl) ?_
  refine zget hE hK hP 0 rfl fd_Me_39 rfl d_Me_drop_19 ?_
  refine lv_icmp_ne (tgt := 35) hx hb d_Me_drop_22 (by decide) (fun h4 => ?_) (fun h4 => ?_)
  · have hne : ¬ qq + up4 zz = pe := fun q => h4 (by rw [q])
    refine lv_aload_n hx hb d_Me_drop_35 rfl (lv_at hl 1 rfl) ?_
    refine zget hE hK hP 0 rfl fd_Me_9 rfl d_Me_drop_36 ?_
    refine lv_iload_n hx hb d_Me_drop_39 rfl (lv_at hl 2 rfl) ?_
    refine lv_iconst (v := (-1)) hx hb d_Me_drop_40 (by decide) ?_
    refine va_iast hx hb hK hP hD hS 1 0 rfl rfl (by rw [hk]; exact vp_in_nI hkr (by omega)) d_Me_drop_41 (fun H locs hP hD hS => ?_)
    have hP : va_P D zC [(h0, .inr (1, [.int (nI md), .int (nI bt), .int (nI lo), .int (nI nl), .ref sa, .ref ta, .ref fa, .ref pa, .int (nI pe), .ref ba])), (sa, .inl (cI, rn, .inl (upd sf n0.toNatClampNeg (-1)))), (ta, .inl (cI, rn, .inl (tf)))] _ := hP
    have hD : va_D A [(h0, .inr (1, [.int (nI md), .int (nI bt), .int (nI lo), .int (nI nl), .ref sa, .ref ta, .ref fa, .ref pa, .int (nI pe), .ref ba])), (sa, .inl (cI, rn, .inl (upd sf n0.toNatClampNeg (-1)))), (ta, .inl (cI, rn, .inl (tf)))] := hD
    rw [show ((upd sf n0.toNatClampNeg (-1)) : Nat → Int32) = upd sf k0 (-1) from by rw [hk, nI_clamp (by omega)]] at hP hD
    have hP : va_P D zC [(h0, .inr (1, [.int (nI md), .int (nI bt), .int (nI lo), .int (nI nl), .ref sa, .ref ta, .ref fa, .ref pa, .int (nI pe), .ref ba])), (sa, .inl (cI, rn, .inl (upd sf k0 (-1)))), (ta, .inl (cI, rn, .inl (tf)))] _ := hP
    have hD : va_D A [(h0, .inr (1, [.int (nI md), .int (nI bt), .int (nI lo), .int (nI nl), .ref sa, .ref ta, .ref fa, .ref pa, .int (nI pe), .ref ba])), (sa, .inl (cI, rn, .inl (upd sf k0 (-1)))), (ta, .inl (cI, rn, .inl (tf)))] := hD
    refine lv_aload_n hx hb d_Me_drop_42 rfl (lv_at hl 1 rfl) ?_
    refine lv_dup hx hb d_Me_drop_43 rfl ?_
    refine zget hE hK hP 0 rfl fd_Me_30 rfl d_Me_drop_44 ?_
    refine lv_iload_n hx hb d_Me_drop_47 rfl (lv_at hl 0 rfl) ?_
    refine lv_isub hx hb d_Me_drop_48 ?_
    refine z_st (st' := [.int (nI (bt - up4 zz)), .ref h0]) (by rw [show (((nI bt) - (nI (up4 zz))) : Int32) = nI (bt - up4 zz) from pk_sub hbz]) ?_
    refine zput (v := .int (nI (bt - up4 zz))) hE hK hP hD hS 0 rfl fd_Me_30 ft_Me_1 rfl rfl (Nat.le_of_ble_eq_true rfl) d_Me_drop_49 (fun H locs hP hD hS => ?_)
    have hP : va_P D zC [(h0, .inr (1, [.int (nI md), .int (nI (bt - up4 zz)), .int (nI lo), .int (nI nl), .ref sa, .ref ta, .ref fa, .ref pa, .int (nI pe), .ref ba])), (sa, .inl (cI, rn, .inl (upd sf k0 (-1)))), (ta, .inl (cI, rn, .inl (tf)))] _ := hP
    have hD : va_D A [(h0, .inr (1, [.int (nI md), .int (nI (bt - up4 zz)), .int (nI lo), .int (nI nl), .ref sa, .ref ta, .ref fa, .ref pa, .int (nI pe), .ref ba])), (sa, .inl (cI, rn, .inl (upd sf k0 (-1)))), (ta, .inl (cI, rn, .inl (tf)))] := hD
    have hP9 := hP.sub (ws' := [(h0, .inr (1, [.int (nI md), .int (nI (bt - up4 zz)), .int (nI lo), .int (nI nl), .ref sa, .ref ta, .ref fa, .ref pa, .int (nI pe), .ref ba])), (sa, .inl (cI, rn, .inl (upd sf k0 (-1)))), (ta, .inl (cI, rn, .inl (tf)))]) [0, 1, 2] rfl
    have hD9 := hD.sub (ws' := [(h0, .inr (1, [.int (nI md), .int (nI (bt - up4 zz)), .int (nI lo), .int (nI nl), .ref sa, .ref ta, .ref fa, .ref pa, .int (nI pe), .ref ba])), (sa, .inl (cI, rn, .inl (upd sf k0 (-1)))), (ta, .inl (cI, rn, .inl (tf)))]) [0, 1, 2] rfl rfl
    exact zretv hx hb hr hlocks hS () trivial rfl (by rw [if_neg hne]; exact hP9) (by rw [if_neg hne]; exact hD9) d_Me_drop_52
  · have he : qq + up4 zz = pe := (nI_eq (by have := up4_le zz; omega) (by omega)).mp h4
    refine lv_aload_n hx hb d_Me_drop_25 rfl (lv_at hl 1 rfl) ?_
    refine lv_aload_n hx hb d_Me_drop_26 rfl (lv_at hl 1 rfl) ?_
    refine zget hE hK hP 0 rfl fd_Me_13 rfl d_Me_drop_27 ?_
    refine lv_iload_n hx hb d_Me_drop_30 rfl (lv_at hl 2 rfl) ?_
    refine va_iald hx hb hK hP 2 0 rfl rfl (by rw [hk]; exact vp_in_nI hkr (by omega)) d_Me_drop_31 ?_
    refine z_st (st' := [.int (nI qq), .ref h0]) (by rw [show ((tf n0.toNatClampNeg) : Int32) = nI qq from by rw [hk, nI_clamp (by omega)]; exact htf]) ?_
    refine zput (v := .int (nI qq)) hE hK hP hD hS 0 rfl fd_Me_39 ft_Me_8 rfl rfl (Nat.le_of_ble_eq_true rfl) d_Me_drop_32 (fun H locs hP hD hS => ?_)
    have hP : va_P D zC [(h0, .inr (1, [.int (nI md), .int (nI bt), .int (nI lo), .int (nI nl), .ref sa, .ref ta, .ref fa, .ref pa, .int (nI qq), .ref ba])), (sa, .inl (cI, rn, .inl (sf))), (ta, .inl (cI, rn, .inl (tf)))] _ := hP
    have hD : va_D A [(h0, .inr (1, [.int (nI md), .int (nI bt), .int (nI lo), .int (nI nl), .ref sa, .ref ta, .ref fa, .ref pa, .int (nI qq), .ref ba])), (sa, .inl (cI, rn, .inl (sf))), (ta, .inl (cI, rn, .inl (tf)))] := hD
    refine lv_aload_n hx hb d_Me_drop_35 rfl (lv_at hl 1 rfl) ?_
    refine zget hE hK hP 0 rfl fd_Me_9 rfl d_Me_drop_36 ?_
    refine lv_iload_n hx hb d_Me_drop_39 rfl (lv_at hl 2 rfl) ?_
    refine lv_iconst (v := (-1)) hx hb d_Me_drop_40 (by decide) ?_
    refine va_iast hx hb hK hP hD hS 1 0 rfl rfl (by rw [hk]; exact vp_in_nI hkr (by omega)) d_Me_drop_41 (fun H locs hP hD hS => ?_)
    have hP : va_P D zC [(h0, .inr (1, [.int (nI md), .int (nI bt), .int (nI lo), .int (nI nl), .ref sa, .ref ta, .ref fa, .ref pa, .int (nI qq), .ref ba])), (sa, .inl (cI, rn, .inl (upd sf n0.toNatClampNeg (-1)))), (ta, .inl (cI, rn, .inl (tf)))] _ := hP
    have hD : va_D A [(h0, .inr (1, [.int (nI md), .int (nI bt), .int (nI lo), .int (nI nl), .ref sa, .ref ta, .ref fa, .ref pa, .int (nI qq), .ref ba])), (sa, .inl (cI, rn, .inl (upd sf n0.toNatClampNeg (-1)))), (ta, .inl (cI, rn, .inl (tf)))] := hD
    rw [show ((upd sf n0.toNatClampNeg (-1)) : Nat → Int32) = upd sf k0 (-1) from by rw [hk, nI_clamp (by omega)]] at hP hD
    have hP : va_P D zC [(h0, .inr (1, [.int (nI md), .int (nI bt), .int (nI lo), .int (nI nl), .ref sa, .ref ta, .ref fa, .ref pa, .int (nI qq), .ref ba])), (sa, .inl (cI, rn, .inl (upd sf k0 (-1)))), (ta, .inl (cI, rn, .inl (tf)))] _ := hP
    have hD : va_D A [(h0, .inr (1, [.int (nI md), .int (nI bt), .int (nI lo), .int (nI nl), .ref sa, .ref ta, .ref fa, .ref pa, .int (nI qq), .ref ba])), (sa, .inl (cI, rn, .inl (upd sf k0 (-1)))), (ta, .inl (cI, rn, .inl (tf)))] := hD
    refine lv_aload_n hx hb d_Me_drop_42 rfl (lv_at hl 1 rfl) ?_
    refine lv_dup hx hb d_Me_drop_43 rfl ?_
    refine zget hE hK hP 0 rfl fd_Me_30 rfl d_Me_drop_44 ?_
    refine lv_iload_n hx hb d_Me_drop_47 rfl (lv_at hl 0 rfl) ?_
    refine lv_isub hx hb d_Me_drop_48 ?_
    refine z_st (st' := [.int (nI (bt - up4 zz)), .ref h0]) (by rw [show (((nI bt) - (nI (up4 zz))) : Int32) = nI (bt - up4 zz) from pk_sub hbz]) ?_
    refine zput (v := .int (nI (bt - up4 zz))) hE hK hP hD hS 0 rfl fd_Me_30 ft_Me_1 rfl rfl (Nat.le_of_ble_eq_true rfl) d_Me_drop_49 (fun H locs hP hD hS => ?_)
    have hP : va_P D zC [(h0, .inr (1, [.int (nI md), .int (nI (bt - up4 zz)), .int (nI lo), .int (nI nl), .ref sa, .ref ta, .ref fa, .ref pa, .int (nI qq), .ref ba])), (sa, .inl (cI, rn, .inl (upd sf k0 (-1)))), (ta, .inl (cI, rn, .inl (tf)))] _ := hP
    have hD : va_D A [(h0, .inr (1, [.int (nI md), .int (nI (bt - up4 zz)), .int (nI lo), .int (nI nl), .ref sa, .ref ta, .ref fa, .ref pa, .int (nI qq), .ref ba])), (sa, .inl (cI, rn, .inl (upd sf k0 (-1)))), (ta, .inl (cI, rn, .inl (tf)))] := hD
    have hP9 := hP.sub (ws' := [(h0, .inr (1, [.int (nI md), .int (nI (bt - up4 zz)), .int (nI lo), .int (nI nl), .ref sa, .ref ta, .ref fa, .ref pa, .int (nI qq), .ref ba])), (sa, .inl (cI, rn, .inl (upd sf k0 (-1)))), (ta, .inl (cI, rn, .inl (tf)))]) [0, 1, 2] rfl
    have hD9 := hD.sub (ws' := [(h0, .inr (1, [.int (nI md), .int (nI (bt - up4 zz)), .int (nI lo), .int (nI nl), .ref sa, .ref ta, .ref fa, .ref pa, .int (nI qq), .ref ba])), (sa, .inl (cI, rn, .inl (upd sf k0 (-1)))), (ta, .inl (cI, rn, .inl (tf)))]) [0, 1, 2] rfl rfl
    exact zretv hx hb hr hlocks hS () trivial rfl (by rw [if_pos he]; exact hP9) (by rw [if_pos he]; exact hD9) d_Me_drop_52
