/-! decode rows -/
theorem d_Me_addNumber_0 : decode b_Me_addNumber 0 = .ok (.aload_n 0, 1) := by decide +kernel
theorem d_Me_addNumber_1 : decode b_Me_addNumber 1 = .ok (.dup, 1) := by decide +kernel
theorem d_Me_addNumber_2 : decode b_Me_addNumber 2 = .ok (.getfield 26, 3) := by decide +kernel
theorem d_Me_addNumber_5 : decode b_Me_addNumber 5 = .ok (.iconst 1, 1) := by decide +kernel
theorem d_Me_addNumber_6 : decode b_Me_addNumber 6 = .ok (.iadd, 1) := by decide +kernel
theorem d_Me_addNumber_7 : decode b_Me_addNumber 7 = .ok (.putfield 26, 3) := by decide +kernel
theorem d_Me_addNumber_10 : decode b_Me_addNumber 10 = .ok (.aload_n 0, 1) := by decide +kernel
theorem d_Me_addNumber_11 : decode b_Me_addNumber 11 = .ok (.aload_n 0, 1) := by decide +kernel
theorem d_Me_addNumber_12 : decode b_Me_addNumber 12 = .ok (.getfield 9, 3) := by decide +kernel
theorem d_Me_addNumber_15 : decode b_Me_addNumber 15 = .ok (.aload_n 0, 1) := by decide +kernel
theorem d_Me_addNumber_16 : decode b_Me_addNumber 16 = .ok (.getfield 26, 3) := by decide +kernel
theorem d_Me_addNumber_19 : decode b_Me_addNumber 19 = .ok (.iconst 1, 1) := by decide +kernel
theorem d_Me_addNumber_20 : decode b_Me_addNumber 20 = .ok (.iadd, 1) := by decide +kernel
theorem d_Me_addNumber_21 : decode b_Me_addNumber 21 = .ok (.sipush 8001, 3) := by decide +kernel
theorem d_Me_addNumber_24 : decode b_Me_addNumber 24 = .ok (.invokestatic 60, 3) := by decide +kernel
theorem d_Me_addNumber_27 : decode b_Me_addNumber 27 = .ok (.putfield 9, 3) := by decide +kernel
theorem d_Me_addNumber_30 : decode b_Me_addNumber 30 = .ok (.aload_n 0, 1) := by decide +kernel
theorem d_Me_addNumber_31 : decode b_Me_addNumber 31 = .ok (.aload_n 0, 1) := by decide +kernel
theorem d_Me_addNumber_32 : decode b_Me_addNumber 32 = .ok (.getfield 13, 3) := by decide +kernel
theorem d_Me_addNumber_35 : decode b_Me_addNumber 35 = .ok (.aload_n 0, 1) := by decide +kernel
theorem d_Me_addNumber_36 : decode b_Me_addNumber 36 = .ok (.getfield 26, 3) := by decide +kernel
theorem d_Me_addNumber_39 : decode b_Me_addNumber 39 = .ok (.iconst 1, 1) := by decide +kernel
theorem d_Me_addNumber_40 : decode b_Me_addNumber 40 = .ok (.iadd, 1) := by decide +kernel
theorem d_Me_addNumber_41 : decode b_Me_addNumber 41 = .ok (.sipush 8001, 3) := by decide +kernel
theorem d_Me_addNumber_44 : decode b_Me_addNumber 44 = .ok (.invokestatic 60, 3) := by decide +kernel
theorem d_Me_addNumber_47 : decode b_Me_addNumber 47 = .ok (.putfield 13, 3) := by decide +kernel
theorem d_Me_addNumber_50 : decode b_Me_addNumber 50 = .ok (.aload_n 0, 1) := by decide +kernel
theorem d_Me_addNumber_51 : decode b_Me_addNumber 51 = .ok (.aload_n 0, 1) := by decide +kernel
theorem d_Me_addNumber_52 : decode b_Me_addNumber 52 = .ok (.getfield 16, 3) := by decide +kernel
theorem d_Me_addNumber_55 : decode b_Me_addNumber 55 = .ok (.aload_n 0, 1) := by decide +kernel
theorem d_Me_addNumber_56 : decode b_Me_addNumber 56 = .ok (.getfield 26, 3) := by decide +kernel
theorem d_Me_addNumber_59 : decode b_Me_addNumber 59 = .ok (.iconst 1, 1) := by decide +kernel
theorem d_Me_addNumber_60 : decode b_Me_addNumber 60 = .ok (.iadd, 1) := by decide +kernel
theorem d_Me_addNumber_61 : decode b_Me_addNumber 61 = .ok (.sipush 8001, 3) := by decide +kernel
theorem d_Me_addNumber_64 : decode b_Me_addNumber 64 = .ok (.invokestatic 60, 3) := by decide +kernel
theorem d_Me_addNumber_67 : decode b_Me_addNumber 67 = .ok (.putfield 16, 3) := by decide +kernel
theorem d_Me_addNumber_70 : decode b_Me_addNumber 70 = .ok (.return_, 1) := by decide +kernel
theorem d_Me_dropGiven_0 : decode b_Me_dropGiven 0 = .ok (.iload_n 1, 1) := by decide +kernel
theorem d_Me_dropGiven_1 : decode b_Me_dropGiven 1 = .ok (.bipush 16, 2) := by decide +kernel
theorem d_Me_dropGiven_3 : decode b_Me_dropGiven 3 = .ok (.iushr, 1) := by decide +kernel
theorem d_Me_dropGiven_4 : decode b_Me_dropGiven 4 = .ok (.istore_n 2, 1) := by decide +kernel
theorem d_Me_dropGiven_5 : decode b_Me_dropGiven 5 = .ok (.iload_n 1, 1) := by decide +kernel
theorem d_Me_dropGiven_6 : decode b_Me_dropGiven 6 = .ok (.ldc 82, 2) := by decide +kernel
theorem d_Me_dropGiven_8 : decode b_Me_dropGiven 8 = .ok (.iand, 1) := by decide +kernel
theorem d_Me_dropGiven_9 : decode b_Me_dropGiven 9 = .ok (.ifCond .ne 21, 3) := by decide +kernel
theorem d_Me_dropGiven_12 : decode b_Me_dropGiven 12 = .ok (.aload_n 0, 1) := by decide +kernel
theorem d_Me_dropGiven_13 : decode b_Me_dropGiven 13 = .ok (.iload_n 2, 1) := by decide +kernel
theorem d_Me_dropGiven_14 : decode b_Me_dropGiven 14 = .ok (.invokevirtual 83, 3) := by decide +kernel
theorem d_Me_dropGiven_17 : decode b_Me_dropGiven 17 = .ok (.ifCond .eq 13, 3) := by decide +kernel
theorem d_Me_dropGiven_20 : decode b_Me_dropGiven 20 = .ok (.aload_n 0, 1) := by decide +kernel
theorem d_Me_dropGiven_21 : decode b_Me_dropGiven 21 = .ok (.getfield 16, 3) := by decide +kernel
theorem d_Me_dropGiven_24 : decode b_Me_dropGiven 24 = .ok (.iload_n 2, 1) := by decide +kernel
theorem d_Me_dropGiven_25 : decode b_Me_dropGiven 25 = .ok (.iaload, 1) := by decide +kernel
theorem d_Me_dropGiven_26 : decode b_Me_dropGiven 26 = .ok (.iconst (-1), 1) := by decide +kernel
theorem d_Me_dropGiven_27 : decode b_Me_dropGiven 27 = .ok (.if_icmp .eq 5, 3) := by decide +kernel
theorem d_Me_dropGiven_30 : decode b_Me_dropGiven 30 = .ok (.iconst 0, 1) := by decide +kernel
theorem d_Me_dropGiven_31 : decode b_Me_dropGiven 31 = .ok (.ireturn, 1) := by decide +kernel
theorem d_Me_dropGiven_32 : decode b_Me_dropGiven 32 = .ok (.aload_n 0, 1) := by decide +kernel
theorem d_Me_dropGiven_33 : decode b_Me_dropGiven 33 = .ok (.iload_n 2, 1) := by decide +kernel
theorem d_Me_dropGiven_34 : decode b_Me_dropGiven 34 = .ok (.invokevirtual 79, 3) := by decide +kernel
theorem d_Me_dropGiven_37 : decode b_Me_dropGiven 37 = .ok (.iconst 1, 1) := by decide +kernel
theorem d_Me_dropGiven_38 : decode b_Me_dropGiven 38 = .ok (.ireturn, 1) := by decide +kernel
theorem d_Me_dropLast_0 : decode b_Me_dropLast 0 = .ok (.iload_n 1, 1) := by decide +kernel
theorem d_Me_dropLast_1 : decode b_Me_dropLast 1 = .ok (.ifCond .lt 11, 3) := by decide +kernel
theorem d_Me_dropLast_4 : decode b_Me_dropLast 4 = .ok (.iload_n 1, 1) := by decide +kernel
theorem d_Me_dropLast_5 : decode b_Me_dropLast 5 = .ok (.aload_n 0, 1) := by decide +kernel
theorem d_Me_dropLast_6 : decode b_Me_dropLast 6 = .ok (.getfield 33, 3) := by decide +kernel
theorem d_Me_dropLast_9 : decode b_Me_dropLast 9 = .ok (.if_icmp .le 5, 3) := by decide +kernel
theorem d_Me_dropLast_12 : decode b_Me_dropLast 12 = .ok (.iconst 0, 1) := by decide +kernel
theorem d_Me_dropLast_13 : decode b_Me_dropLast 13 = .ok (.ireturn, 1) := by decide +kernel
theorem d_Me_dropLast_14 : decode b_Me_dropLast 14 = .ok (.iconst 0, 1) := by decide +kernel
theorem d_Me_dropLast_15 : decode b_Me_dropLast 15 = .ok (.istore_n 2, 1) := by decide +kernel
theorem d_Me_dropLast_16 : decode b_Me_dropLast 16 = .ok (.iload_n 2, 1) := by decide +kernel
theorem d_Me_dropLast_17 : decode b_Me_dropLast 17 = .ok (.iload_n 1, 1) := by decide +kernel
theorem d_Me_dropLast_18 : decode b_Me_dropLast 18 = .ok (.if_icmp .ge 30, 3) := by decide +kernel
theorem d_Me_dropLast_21 : decode b_Me_dropLast 21 = .ok (.aload_n 0, 1) := by decide +kernel
theorem d_Me_dropLast_22 : decode b_Me_dropLast 22 = .ok (.aload_n 0, 1) := by decide +kernel
theorem d_Me_dropLast_23 : decode b_Me_dropLast 23 = .ok (.getfield 36, 3) := by decide +kernel
theorem d_Me_dropLast_26 : decode b_Me_dropLast 26 = .ok (.invokevirtual 79, 3) := by decide +kernel
theorem d_Me_dropLast_29 : decode b_Me_dropLast 29 = .ok (.aload_n 0, 1) := by decide +kernel
theorem d_Me_dropLast_30 : decode b_Me_dropLast 30 = .ok (.aload_n 0, 1) := by decide +kernel
theorem d_Me_dropLast_31 : decode b_Me_dropLast 31 = .ok (.getfield 16, 3) := by decide +kernel
theorem d_Me_dropLast_34 : decode b_Me_dropLast 34 = .ok (.aload_n 0, 1) := by decide +kernel
theorem d_Me_dropLast_35 : decode b_Me_dropLast 35 = .ok (.getfield 36, 3) := by decide +kernel
theorem d_Me_dropLast_38 : decode b_Me_dropLast 38 = .ok (.iaload, 1) := by decide +kernel
theorem d_Me_dropLast_39 : decode b_Me_dropLast 39 = .ok (.putfield 36, 3) := by decide +kernel
theorem d_Me_dropLast_42 : decode b_Me_dropLast 42 = .ok (.iinc 2 1, 3) := by decide +kernel
theorem d_Me_dropLast_45 : decode b_Me_dropLast 45 = .ok (.goto (-29), 3) := by decide +kernel
theorem d_Me_dropLast_48 : decode b_Me_dropLast 48 = .ok (.aload_n 0, 1) := by decide +kernel
theorem d_Me_dropLast_49 : decode b_Me_dropLast 49 = .ok (.dup, 1) := by decide +kernel
theorem d_Me_dropLast_50 : decode b_Me_dropLast 50 = .ok (.getfield 33, 3) := by decide +kernel
theorem d_Me_dropLast_53 : decode b_Me_dropLast 53 = .ok (.iload_n 1, 1) := by decide +kernel
theorem d_Me_dropLast_54 : decode b_Me_dropLast 54 = .ok (.isub, 1) := by decide +kernel
theorem d_Me_dropLast_55 : decode b_Me_dropLast 55 = .ok (.putfield 33, 3) := by decide +kernel
theorem d_Me_dropLast_58 : decode b_Me_dropLast 58 = .ok (.iconst 1, 1) := by decide +kernel
theorem d_Me_dropLast_59 : decode b_Me_dropLast 59 = .ok (.ireturn, 1) := by decide +kernel

set_option maxHeartbeats 4000000 in
theorem c_Me_addNumber (l : Launch) (D : va_G) (cI cB cJ : ClassId) (sz : Nat) (h0 : Nat) (md : Nat) (bt : Nat) (lo : Nat) (nl : Nat) (sa : Nat) (ta : Nat) (fa : Nat) (pa : Nat) (pe : Nat) (ba : Nat) (rn : Nat) (sf : Nat → Int32) (tf : Nat → Int32) (uf : Nat → Int32) (hmd : md < 8000) (hmr : md < rn) (hrm : rn ≤ 8001) : zMet l y_Me_addNumber (zWs y_Me_addNumber b_Me_addNumber 1 (none)) { frames := 3, cells := 3 * wkc rn (md + 2), slots := 3 * wks rn (md + 2) 8001, locals := 104 } (zPc D (zT cI cB cJ) sz [(h0, .inr (1, [.int (nI md), .int (nI bt), .int (nI lo), .int (nI nl), .ref sa, .ref ta, .ref fa, .ref pa, .int (nI pe), .ref ba])), (sa, .inl (cI, rn, .inl (sf))), (ta, .inl (cI, rn, .inl (tf))), (fa, .inl (cI, rn, .inl (uf)))] [.ref h0]) (zQv D (va_A [(h0, .inr (1, [.int (nI md), .int (nI bt), .int (nI lo), .int (nI nl), .ref sa, .ref ta, .ref fa, .ref pa, .int (nI pe), .ref ba])), (sa, .inl (cI, rn, .inl (sf))), (ta, .inl (cI, rn, .inl (tf))), (fa, .inl (cI, rn, .inl (uf)))] sz) (fun (_ : (Nat × Nat × Nat)) => True) (fun _ => (3 * wkc rn (md + 2), 3 * wks rn (md + 2) 8001)) (fun (U : (Nat × Nat × Nat)) => [(h0, .inr (1, [.int (nI (md + 1)), .int (nI bt), .int (nI lo), .int (nI nl), .ref U.1, .ref U.2.1, .ref U.2.2, .ref pa, .int (nI pe), .ref ba])), (U.1, .inl (cI, (wdl rn (md + 2) 8001), .inl (wdf sf rn (md + 2)))), (U.2.1, .inl (cI, (wdl rn (md + 2) 8001), .inl (wdf tf rn (md + 2)))), (U.2.2, .inl (cI, (wdl rn (md + 2) 8001), .inl (wdf uf rn (md + 2))))])) (va_A [(h0, .inr (1, [.int (nI md), .int (nI bt), .int (nI lo), .int (nI nl), .ref sa, .ref ta, .ref fa, .ref pa, .int (nI pe), .ref ba])), (sa, .inl (cI, rn, .inl (sf))), (ta, .inl (cI, rn, .inl (tf))), (fa, .inl (cI, rn, .inl (uf)))] sz) := by
  refine zstart (Qc := fun A => zQv D A (fun (_ : (Nat × Nat × Nat)) => True) (fun _ => (3 * wkc rn (md + 2), 3 * wks rn (md + 2) 8001)) (fun (U : (Nat × Nat × Nat)) => [(h0, .inr (1, [.int (nI (md + 1)), .int (nI bt), .int (nI lo), .int (nI nl), .ref U.1, .ref U.2.1, .ref U.2.2, .ref pa, .int (nI pe), .ref ba])), (U.1, .inl (cI, (wdl rn (md + 2) 8001), .inl (wdf sf rn (md + 2)))), (U.2.1, .inl (cI, (wdl rn (md + 2) 8001), .inl (wdf tf rn (md + 2)))), (U.2.2, .inl (cI, (wdl rn (md + 2) 8001), .inl (wdf uf rn (md + 2))))])) (by decide) (Nat.le_of_ble_eq_true rfl) ?_
  intro p e s m below meth c ls A hE hr hlocks hin hsz hK hP hD hS hA hAe hl
  have hx := hE.1
  have hb := hE.2.1
  have hown := hE.2.2.2.1
  have hw := hE.2.2.2.2
  have hl : lv_has ls 1 [(0, .ref h0)] := hl
  refine lv_aload_n hx hb d_Me_addNumber_0 rfl (lv_at hl 0 rfl) ?_
  refine lv_dup hx hb d_Me_addNumber_1 rfl ?_
  refine zget hE hK hP 0 rfl fd_Me_26 rfl d_Me_addNumber_2 ?_
  refine lv_iconst (v := 1) hx hb d_Me_addNumber_5 (by decide) ?_
  refine lv_iadd hx hb d_Me_addNumber_6 ?_
  refine z_st (st' := [.int (nI (md + 1)), .ref h0]) (by rw [show (((nI md) + 1) : Int32) = nI (md + 1) from nI_1 md]) ?_
  refine zput (v := .int (nI (md + 1))) hE hK hP hD hS 0 rfl fd_Me_26 ft_Me_0 rfl rfl (Nat.le_of_ble_eq_true rfl) d_Me_addNumber_7 (fun H locs hP hD hS => ?_)
  have hP : va_P D zC [(h0, .inr (1, [.int (nI (md + 1)), .int (nI bt), .int (nI lo), .int (nI nl), .ref sa, .ref ta, .ref fa, .ref pa, .int (nI pe), .ref ba])), (sa, .inl (cI, rn, .inl (sf))), (ta, .inl (cI, rn, .inl (tf))), (fa, .inl (cI, rn, .inl (uf)))] _ := hP
  have hD : va_D A [(h0, .inr (1, [.int (nI (md + 1)), .int (nI bt), .int (nI lo), .int (nI nl), .ref sa, .ref ta, .ref fa, .ref pa, .int (nI pe), .ref ba])), (sa, .inl (cI, rn, .inl (sf))), (ta, .inl (cI, rn, .inl (tf))), (fa, .inl (cI, rn, .inl (uf)))] := hD
  refine lv_aload_n hx hb d_Me_addNumber_10 rfl (lv_at hl 0 rfl) ?_
  refine lv_aload_n hx hb d_Me_addNumber_11 rfl (lv_at hl 0 rfl) ?_
  refine zget hE hK hP 0 rfl fd_Me_9 rfl d_Me_addNumber_12 ?_
  refine lv_aload_n hx hb d_Me_addNumber_15 rfl (lv_at hl 0 rfl) ?_
  refine zget hE hK hP 0 rfl fd_Me_26 rfl d_Me_addNumber_16 ?_
  refine lv_iconst (v := 1) hx hb d_Me_addNumber_19 (by decide) ?_
  refine lv_iadd hx hb d_Me_addNumber_20 ?_
  refine z_st (st' := [.int (nI (md + 2)), .ref sa, .ref h0]) (by rw [show (((nI (md + 1)) + 1) : Int32) = nI (md + 2) from nI_1 (md + 1)]) ?_
  refine lv_sipush (v := 8001) hx hb d_Me_addNumber_21 (by decide) ?_
  refine zgor (wr := [(h0, .inr (1, [.int (nI (md + 1)), .int (nI bt), .int (nI lo), .int (nI nl), .ref sa, .ref ta, .ref fa, .ref pa, .int (nI pe), .ref ba])), (ta, .inl (cI, rn, .inl (tf))), (fa, .inl (cI, rn, .inl (uf)))]) (zrunS (n := 3) (As := [.ref sa, .int (nI (md + 2)), .int 8001]) (rest := [.ref h0]) hE (c_Rv_widened l D cI cB cJ _ sa (nI (md + 2)) 8001 rn sf (md + 2) 8001 rfl rfl (by omega) (by omega) (by omega)) cb_Rv_widened lk_Me_60 st_Rv_widened (zpreS hK hP hD [1] rfl rfl rfl) ⟨Nat.le_of_ble_eq_true rfl, Nat.le_of_ble_eq_true rfl, by show 0 + wkc rn (md + 2) ≤ 3 * wkc rn (md + 2); omega, by show 0 + wks rn (md + 2) 8001 ≤ 3 * wks rn (md + 2) 8001; omega⟩ rfl hl.1 rfl (Nat.le_of_ble_eq_true rfl) d_Me_addNumber_24) hP hD hS hA [1] [0, 2, 3] rfl rfl rfl (by decide) (fun r2 u3 H locs hq1 hP hD hS => ?_)
  subst hq1
  have hP : va_P D zC [(h0, .inr (1, [.int (nI (md + 1)), .int (nI bt), .int (nI lo), .int (nI nl), .ref sa, .ref ta, .ref fa, .ref pa, .int (nI pe), .ref ba])), (ta, .inl (cI, rn, .inl (tf))), (fa, .inl (cI, rn, .inl (uf))), (u3, .inl (cI, (wdl rn (md + 2) 8001), .inl (wdf sf rn (md + 2))))] _ := hP
  have hD : va_D A [(h0, .inr (1, [.int (nI (md + 1)), .int (nI bt), .int (nI lo), .int (nI nl), .ref sa, .ref ta, .ref fa, .ref pa, .int (nI pe), .ref ba])), (ta, .inl (cI, rn, .inl (tf))), (fa, .inl (cI, rn, .inl (uf))), (u3, .inl (cI, (wdl rn (md + 2) 8001), .inl (wdf sf rn (md + 2))))] := hD
  refine zput (v := .ref u3) hE hK hP hD hS 0 rfl fd_Me_9 ft_Me_4 rfl rfl (Nat.le_of_ble_eq_true rfl) d_Me_addNumber_27 (fun H locs hP hD hS => ?_)
  have hP : va_P D zC [(h0, .inr (1, [.int (nI (md + 1)), .int (nI bt), .int (nI lo), .int (nI nl), .ref u3, .ref ta, .ref fa, .ref pa, .int (nI pe), .ref ba])), (ta, .inl (cI, rn, .inl (tf))), (fa, .inl (cI, rn, .inl (uf))), (u3, .inl (cI, (wdl rn (md + 2) 8001), .inl (wdf sf rn (md + 2))))] _ := hP
  have hD : va_D A [(h0, .inr (1, [.int (nI (md + 1)), .int (nI bt), .int (nI lo), .int (nI nl), .ref u3, .ref ta, .ref fa, .ref pa, .int (nI pe), .ref ba])), (ta, .inl (cI, rn, .inl (tf))), (fa, .inl (cI, rn, .inl (uf))), (u3, .inl (cI, (wdl rn (md + 2) 8001), .inl (wdf sf rn (md + 2))))] := hD
  refine lv_aload_n hx hb d_Me_addNumber_30 rfl (lv_at hl 0 rfl) ?_
  refine lv_aload_n hx hb d_Me_addNumber_31 rfl (lv_at hl 0 rfl) ?_
  refine zget hE hK hP 0 rfl fd_Me_13 rfl d_Me_addNumber_32 ?_
  refine lv_aload_n hx hb d_Me_addNumber_35 rfl (lv_at hl 0 rfl) ?_
  refine zget hE hK hP 0 rfl fd_Me_26 rfl d_Me_addNumber_36 ?_
  refine lv_iconst (v := 1) hx hb d_Me_addNumber_39 (by decide) ?_
  refine lv_iadd hx hb d_Me_addNumber_40 ?_
  refine z_st (st' := [.int (nI (md + 2)), .ref ta, .ref h0]) (by rw [show (((nI (md + 1)) + 1) : Int32) = nI (md + 2) from nI_1 (md + 1)]) ?_
  refine lv_sipush (v := 8001) hx hb d_Me_addNumber_41 (by decide) ?_
  refine zgor (wr := [(h0, .inr (1, [.int (nI (md + 1)), .int (nI bt), .int (nI lo), .int (nI nl), .ref u3, .ref ta, .ref fa, .ref pa, .int (nI pe), .ref ba])), (fa, .inl (cI, rn, .inl (uf))), (u3, .inl (cI, (wdl rn (md + 2) 8001), .inl (wdf sf rn (md + 2))))]) (zrunS (n := 3) (As := [.ref ta, .int (nI (md + 2)), .int 8001]) (rest := [.ref h0]) hE (c_Rv_widened l D cI cB cJ _ ta (nI (md + 2)) 8001 rn tf (md + 2) 8001 rfl rfl (by omega) (by omega) (by omega)) cb_Rv_widened lk_Me_60 st_Rv_widened (zpreS hK hP hD [1] rfl rfl rfl) ⟨Nat.le_of_ble_eq_true rfl, Nat.le_of_ble_eq_true rfl, by show 0 + wkc rn (md + 2) + wkc rn (md + 2) ≤ 3 * wkc rn (md + 2); omega, by show 0 + wks rn (md + 2) 8001 + wks rn (md + 2) 8001 ≤ 3 * wks rn (md + 2) 8001; omega⟩ rfl hl.1 rfl (Nat.le_of_ble_eq_true rfl) d_Me_addNumber_44) hP hD hS hA [1] [0, 2, 3] rfl rfl rfl (by decide) (fun r5 u6 H locs hq4 hP hD hS => ?_)
  subst hq4
  have hP : va_P D zC [(h0, .inr (1, [.int (nI (md + 1)), .int (nI bt), .int (nI lo), .int (nI nl), .ref u3, .ref ta, .ref fa, .ref pa, .int (nI pe), .ref ba])), (fa, .inl (cI, rn, .inl (uf))), (u3, .inl (cI, (wdl rn (md + 2) 8001), .inl (wdf sf rn (md + 2)))), (u6, .inl (cI, (wdl rn (md + 2) 8001), .inl (wdf tf rn (md + 2))))] _ := hP
  have hD : va_D A [(h0, .inr (1, [.int (nI (md + 1)), .int (nI bt), .int (nI lo), .int (nI nl), .ref u3, .ref ta, .ref fa, .ref pa, .int (nI pe), .ref ba])), (fa, .inl (cI, rn, .inl (uf))), (u3, .inl (cI, (wdl rn (md + 2) 8001), .inl (wdf sf rn (md + 2)))), (u6, .inl (cI, (wdl rn (md + 2) 8001), .inl (wdf tf rn (md + 2))))] := hD
  refine zput (v := .ref u6) hE hK hP hD hS 0 rfl fd_Me_13 ft_Me_5 rfl rfl (Nat.le_of_ble_eq_true rfl) d_Me_addNumber_47 (fun H locs hP hD hS => ?_)
  have hP : va_P D zC [(h0, .inr (1, [.int (nI (md + 1)), .int (nI bt), .int (nI lo), .int (nI nl), .ref u3, .ref u6, .ref fa, .ref pa, .int (nI pe), .ref ba])), (fa, .inl (cI, rn, .inl (uf))), (u3, .inl (cI, (wdl rn (md + 2) 8001), .inl (wdf sf rn (md + 2)))), (u6, .inl (cI, (wdl rn (md + 2) 8001), .inl (wdf tf rn (md + 2))))] _ := hP
  have hD : va_D A [(h0, .inr (1, [.int (nI (md + 1)), .int (nI bt), .int (nI lo), .int (nI nl), .ref u3, .ref u6, .ref fa, .ref pa, .int (nI pe), .ref ba])), (fa, .inl (cI, rn, .inl (uf))), (u3, .inl (cI, (wdl rn (md + 2) 8001), .inl (wdf sf rn (md + 2)))), (u6, .inl (cI, (wdl rn (md + 2) 8001), .inl (wdf tf rn (md + 2))))] := hD
  refine lv_aload_n hx hb d_Me_addNumber_50 rfl (lv_at hl 0 rfl) ?_
  refine lv_aload_n hx hb d_Me_addNumber_51 rfl (lv_at hl 0 rfl) ?_
  refine zget hE hK hP 0 rfl fd_Me_16 rfl d_Me_addNumber_52 ?_
  refine lv_aload_n hx hb d_Me_addNumber_55 rfl (lv_at hl 0 rfl) ?_
  refine zget hE hK hP 0 rfl fd_Me_26 rfl d_Me_addNumber_56 ?_
  refine lv_iconst (v := 1) hx hb d_Me_addNumber_59 (by decide) ?_
  refine lv_iadd hx hb d_Me_addNumber_60 ?_
  refine z_st (st' := [.int (nI (md + 2)), .ref fa, .ref h0]) (by rw [show (((nI (md + 1)) + 1) : Int32) = nI (md + 2) from nI_1 (md + 1)]) ?_
  refine lv_sipush (v := 8001) hx hb d_Me_addNumber_61 (by decide) ?_
  refine zgor (wr := [(h0, .inr (1, [.int (nI (md + 1)), .int (nI bt), .int (nI lo), .int (nI nl), .ref u3, .ref u6, .ref fa, .ref pa, .int (nI pe), .ref ba])), (u3, .inl (cI, (wdl rn (md + 2) 8001), .inl (wdf sf rn (md + 2)))), (u6, .inl (cI, (wdl rn (md + 2) 8001), .inl (wdf tf rn (md + 2))))]) (zrunS (n := 3) (As := [.ref fa, .int (nI (md + 2)), .int 8001]) (rest := [.ref h0]) hE (c_Rv_widened l D cI cB cJ _ fa (nI (md + 2)) 8001 rn uf (md + 2) 8001 rfl rfl (by omega) (by omega) (by omega)) cb_Rv_widened lk_Me_60 st_Rv_widened (zpreS hK hP hD [1] rfl rfl rfl) ⟨Nat.le_of_ble_eq_true rfl, Nat.le_of_ble_eq_true rfl, by show 0 + wkc rn (md + 2) + wkc rn (md + 2) + wkc rn (md + 2) ≤ 3 * wkc rn (md + 2); omega, by show 0 + wks rn (md + 2) 8001 + wks rn (md + 2) 8001 + wks rn (md + 2) 8001 ≤ 3 * wks rn (md + 2) 8001; omega⟩ rfl hl.1 rfl (Nat.le_of_ble_eq_true rfl) d_Me_addNumber_64) hP hD hS hA [1] [0, 2, 3] rfl rfl rfl (by decide) (fun r8 u9 H locs hq7 hP hD hS => ?_)
  subst hq7
  have hP : va_P D zC [(h0, .inr (1, [.int (nI (md + 1)), .int (nI bt), .int (nI lo), .int (nI nl), .ref u3, .ref u6, .ref fa, .ref pa, .int (nI pe), .ref ba])), (u3, .inl (cI, (wdl rn (md + 2) 8001), .inl (wdf sf rn (md + 2)))), (u6, .inl (cI, (wdl rn (md + 2) 8001), .inl (wdf tf rn (md + 2)))), (u9, .inl (cI, (wdl rn (md + 2) 8001), .inl (wdf uf rn (md + 2))))] _ := hP
  have hD : va_D A [(h0, .inr (1, [.int (nI (md + 1)), .int (nI bt), .int (nI lo), .int (nI nl), .ref u3, .ref u6, .ref fa, .ref pa, .int (nI pe), .ref ba])), (u3, .inl (cI, (wdl rn (md + 2) 8001), .inl (wdf sf rn (md + 2)))), (u6, .inl (cI, (wdl rn (md + 2) 8001), .inl (wdf tf rn (md + 2)))), (u9, .inl (cI, (wdl rn (md + 2) 8001), .inl (wdf uf rn (md + 2))))] := hD
  refine zput (v := .ref u9) hE hK hP hD hS 0 rfl fd_Me_16 ft_Me_6 rfl rfl (Nat.le_of_ble_eq_true rfl) d_Me_addNumber_67 (fun H locs hP hD hS => ?_)
  have hP : va_P D zC [(h0, .inr (1, [.int (nI (md + 1)), .int (nI bt), .int (nI lo), .int (nI nl), .ref u3, .ref u6, .ref u9, .ref pa, .int (nI pe), .ref ba])), (u3, .inl (cI, (wdl rn (md + 2) 8001), .inl (wdf sf rn (md + 2)))), (u6, .inl (cI, (wdl rn (md + 2) 8001), .inl (wdf tf rn (md + 2)))), (u9, .inl (cI, (wdl rn (md + 2) 8001), .inl (wdf uf rn (md + 2))))] _ := hP
  have hD : va_D A [(h0, .inr (1, [.int (nI (md + 1)), .int (nI bt), .int (nI lo), .int (nI nl), .ref u3, .ref u6, .ref u9, .ref pa, .int (nI pe), .ref ba])), (u3, .inl (cI, (wdl rn (md + 2) 8001), .inl (wdf sf rn (md + 2)))), (u6, .inl (cI, (wdl rn (md + 2) 8001), .inl (wdf tf rn (md + 2)))), (u9, .inl (cI, (wdl rn (md + 2) 8001), .inl (wdf uf rn (md + 2))))] := hD
  have hP9 := hP.sub (ws' := [(h0, .inr (1, [.int (nI (md + 1)), .int (nI bt), .int (nI lo), .int (nI nl), .ref u3, .ref u6, .ref u9, .ref pa, .int (nI pe), .ref ba])), (u3, .inl (cI, (wdl rn (md + 2) 8001), .inl (wdf sf rn (md + 2)))), (u6, .inl (cI, (wdl rn (md + 2) 8001), .inl (wdf tf rn (md + 2)))), (u9, .inl (cI, (wdl rn (md + 2) 8001), .inl (wdf uf rn (md + 2))))]) [0, 1, 2, 3] rfl
  have hD9 := hD.sub (ws' := [(h0, .inr (1, [.int (nI (md + 1)), .int (nI bt), .int (nI lo), .int (nI nl), .ref u3, .ref u6, .ref u9, .ref pa, .int (nI pe), .ref ba])), (u3, .inl (cI, (wdl rn (md + 2) 8001), .inl (wdf sf rn (md + 2)))), (u6, .inl (cI, (wdl rn (md + 2) 8001), .inl (wdf tf rn (md + 2)))), (u9, .inl (cI, (wdl rn (md + 2) 8001), .inl (wdf uf rn (md + 2))))]) [0, 1, 2, 3] rfl rfl
  exact zretv hx hb hr hlocks hS (u3, u6, u9) trivial (Prod.ext (by show 3 * wkc rn (md + 2) = 0 + wkc rn (md + 2) + wkc rn (md + 2) + wkc rn (md + 2); omega) (by show 3 * wks rn (md + 2) 8001 = 0 + wks rn (md + 2) 8001 + wks rn (md + 2) 8001 + wks rn (md + 2) 8001; omega)) hP9 hD9 d_Me_addNumber_70
