/-! decode rows -/
theorem d_Me_isThere_0 : decode b_Me_isThere 0 = .ok (.iload_n 1, 1) := by decide +kernel
theorem d_Me_isThere_1 : decode b_Me_isThere 1 = .ok (.iconst 1, 1) := by decide +kernel
theorem d_Me_isThere_2 : decode b_Me_isThere 2 = .ok (.if_icmp .lt 25, 3) := by decide +kernel
theorem d_Me_isThere_5 : decode b_Me_isThere 5 = .ok (.iload_n 1, 1) := by decide +kernel
theorem d_Me_isThere_6 : decode b_Me_isThere 6 = .ok (.aload_n 0, 1) := by decide +kernel
theorem d_Me_isThere_7 : decode b_Me_isThere 7 = .ok (.getfield 26, 3) := by decide +kernel
theorem d_Me_isThere_10 : decode b_Me_isThere 10 = .ok (.if_icmp .gt 17, 3) := by decide +kernel
theorem d_Me_isThere_13 : decode b_Me_isThere 13 = .ok (.aload_n 0, 1) := by decide +kernel
theorem d_Me_isThere_14 : decode b_Me_isThere 14 = .ok (.getfield 9, 3) := by decide +kernel
theorem d_Me_isThere_17 : decode b_Me_isThere 17 = .ok (.iload_n 1, 1) := by decide +kernel
theorem d_Me_isThere_18 : decode b_Me_isThere 18 = .ok (.iaload, 1) := by decide +kernel
theorem d_Me_isThere_19 : decode b_Me_isThere 19 = .ok (.iconst (-1), 1) := by decide +kernel
theorem d_Me_isThere_20 : decode b_Me_isThere 20 = .ok (.if_icmp .eq 7, 3) := by decide +kernel
theorem d_Me_isThere_23 : decode b_Me_isThere 23 = .ok (.iconst 1, 1) := by decide +kernel
theorem d_Me_isThere_24 : decode b_Me_isThere 24 = .ok (.goto 4, 3) := by decide +kernel
theorem d_Me_isThere_27 : decode b_Me_isThere 27 = .ok (.iconst 0, 1) := by decide +kernel
theorem d_Me_isThere_28 : decode b_Me_isThere 28 = .ok (.ireturn, 1) := by decide +kernel
theorem d_Me_holds_0 : decode b_Me_holds 0 = .ok (.iload_n 1, 1) := by decide +kernel
theorem d_Me_holds_1 : decode b_Me_holds 1 = .ok (.bipush 16, 2) := by decide +kernel
theorem d_Me_holds_3 : decode b_Me_holds 3 = .ok (.iushr, 1) := by decide +kernel
theorem d_Me_holds_4 : decode b_Me_holds 4 = .ok (.istore_n 3, 1) := by decide +kernel
theorem d_Me_holds_5 : decode b_Me_holds 5 = .ok (.aload_n 0, 1) := by decide +kernel
theorem d_Me_holds_6 : decode b_Me_holds 6 = .ok (.iload_n 3, 1) := by decide +kernel
theorem d_Me_holds_7 : decode b_Me_holds 7 = .ok (.invokevirtual 83, 3) := by decide +kernel
theorem d_Me_holds_10 : decode b_Me_holds 10 = .ok (.ifCond .eq 22, 3) := by decide +kernel
theorem d_Me_holds_13 : decode b_Me_holds 13 = .ok (.iload_n 1, 1) := by decide +kernel
theorem d_Me_holds_14 : decode b_Me_holds 14 = .ok (.ldc 82, 2) := by decide +kernel
theorem d_Me_holds_16 : decode b_Me_holds 16 = .ok (.iand, 1) := by decide +kernel
theorem d_Me_holds_17 : decode b_Me_holds 17 = .ok (.iload_n 2, 1) := by decide +kernel
theorem d_Me_holds_18 : decode b_Me_holds 18 = .ok (.iadd, 1) := by decide +kernel
theorem d_Me_holds_19 : decode b_Me_holds 19 = .ok (.aload_n 0, 1) := by decide +kernel
theorem d_Me_holds_20 : decode b_Me_holds 20 = .ok (.getfield 9, 3) := by decide +kernel
theorem d_Me_holds_23 : decode b_Me_holds 23 = .ok (.iload_n 3, 1) := by decide +kernel
theorem d_Me_holds_24 : decode b_Me_holds 24 = .ok (.iaload, 1) := by decide +kernel
theorem d_Me_holds_25 : decode b_Me_holds 25 = .ok (.if_icmp .gt 7, 3) := by decide +kernel
theorem d_Me_holds_28 : decode b_Me_holds 28 = .ok (.iconst 1, 1) := by decide +kernel
theorem d_Me_holds_29 : decode b_Me_holds 29 = .ok (.goto 4, 3) := by decide +kernel
theorem d_Me_holds_32 : decode b_Me_holds 32 = .ok (.iconst 0, 1) := by decide +kernel
theorem d_Me_holds_33 : decode b_Me_holds 33 = .ok (.ireturn, 1) := by decide +kernel
theorem d_Me_holdsAligned_0 : decode b_Me_holdsAligned 0 = .ok (.iload_n 1, 1) := by decide +kernel
theorem d_Me_holdsAligned_1 : decode b_Me_holdsAligned 1 = .ok (.iload_n 2, 1) := by decide +kernel
theorem d_Me_holdsAligned_2 : decode b_Me_holdsAligned 2 = .ok (.iconst 1, 1) := by decide +kernel
theorem d_Me_holdsAligned_3 : decode b_Me_holdsAligned 3 = .ok (.isub, 1) := by decide +kernel
theorem d_Me_holdsAligned_4 : decode b_Me_holdsAligned 4 = .ok (.iand, 1) := by decide +kernel
theorem d_Me_holdsAligned_5 : decode b_Me_holdsAligned 5 = .ok (.ifCond .ne 16, 3) := by decide +kernel
theorem d_Me_holdsAligned_8 : decode b_Me_holdsAligned 8 = .ok (.aload_n 0, 1) := by decide +kernel
theorem d_Me_holdsAligned_9 : decode b_Me_holdsAligned 9 = .ok (.iload_n 1, 1) := by decide +kernel
theorem d_Me_holdsAligned_10 : decode b_Me_holdsAligned 10 = .ok (.iload_n 2, 1) := by decide +kernel
theorem d_Me_holdsAligned_11 : decode b_Me_holdsAligned 11 = .ok (.invokevirtual 87, 3) := by decide +kernel
theorem d_Me_holdsAligned_14 : decode b_Me_holdsAligned 14 = .ok (.ifCond .eq 7, 3) := by decide +kernel
theorem d_Me_holdsAligned_17 : decode b_Me_holdsAligned 17 = .ok (.iconst 1, 1) := by decide +kernel
theorem d_Me_holdsAligned_18 : decode b_Me_holdsAligned 18 = .ok (.goto 4, 3) := by decide +kernel
theorem d_Me_holdsAligned_21 : decode b_Me_holdsAligned 21 = .ok (.iconst 0, 1) := by decide +kernel
theorem d_Me_holdsAligned_22 : decode b_Me_holdsAligned 22 = .ok (.ireturn, 1) := by decide +kernel
theorem d_Me_spot_0 : decode b_Me_spot 0 = .ok (.aload_n 0, 1) := by decide +kernel
theorem d_Me_spot_1 : decode b_Me_spot 1 = .ok (.getfield 13, 3) := by decide +kernel
theorem d_Me_spot_4 : decode b_Me_spot 4 = .ok (.iload_n 1, 1) := by decide +kernel
theorem d_Me_spot_5 : decode b_Me_spot 5 = .ok (.bipush 16, 2) := by decide +kernel
theorem d_Me_spot_7 : decode b_Me_spot 7 = .ok (.iushr, 1) := by decide +kernel
theorem d_Me_spot_8 : decode b_Me_spot 8 = .ok (.iaload, 1) := by decide +kernel
theorem d_Me_spot_9 : decode b_Me_spot 9 = .ok (.iload_n 1, 1) := by decide +kernel
theorem d_Me_spot_10 : decode b_Me_spot 10 = .ok (.ldc 82, 2) := by decide +kernel
theorem d_Me_spot_12 : decode b_Me_spot 12 = .ok (.iand, 1) := by decide +kernel
theorem d_Me_spot_13 : decode b_Me_spot 13 = .ok (.iadd, 1) := by decide +kernel
theorem d_Me_spot_14 : decode b_Me_spot 14 = .ok (.ireturn, 1) := by decide +kernel
theorem d_Me_read_0 : decode b_Me_read 0 = .ok (.aload_n 0, 1) := by decide +kernel
theorem d_Me_read_1 : decode b_Me_read 1 = .ok (.iload_n 1, 1) := by decide +kernel
theorem d_Me_read_2 : decode b_Me_read 2 = .ok (.invokevirtual 91, 3) := by decide +kernel
theorem d_Me_read_5 : decode b_Me_read 5 = .ok (.istore_n 3, 1) := by decide +kernel
theorem d_Me_read_6 : decode b_Me_read 6 = .ok (.iconst 0, 1) := by decide +kernel
theorem d_Me_read_7 : decode b_Me_read 7 = .ok (.istore 4, 2) := by decide +kernel
theorem d_Me_read_9 : decode b_Me_read 9 = .ok (.iload_n 2, 1) := by decide +kernel
theorem d_Me_read_10 : decode b_Me_read 10 = .ok (.iconst 1, 1) := by decide +kernel
theorem d_Me_read_11 : decode b_Me_read 11 = .ok (.isub, 1) := by decide +kernel
theorem d_Me_read_12 : decode b_Me_read 12 = .ok (.istore 5, 2) := by decide +kernel
theorem d_Me_read_14 : decode b_Me_read 14 = .ok (.iload 5, 2) := by decide +kernel
theorem d_Me_read_16 : decode b_Me_read 16 = .ok (.ifCond .lt 30, 3) := by decide +kernel
theorem d_Me_read_19 : decode b_Me_read 19 = .ok (.iload 4, 2) := by decide +kernel
theorem d_Me_read_21 : decode b_Me_read 21 = .ok (.bipush 8, 2) := by decide +kernel
theorem d_Me_read_23 : decode b_Me_read 23 = .ok (.ishl, 1) := by decide +kernel
theorem d_Me_read_24 : decode b_Me_read 24 = .ok (.aload_n 0, 1) := by decide +kernel
theorem d_Me_read_25 : decode b_Me_read 25 = .ok (.getfield 19, 3) := by decide +kernel
theorem d_Me_read_28 : decode b_Me_read 28 = .ok (.iload_n 3, 1) := by decide +kernel
theorem d_Me_read_29 : decode b_Me_read 29 = .ok (.iload 5, 2) := by decide +kernel
theorem d_Me_read_31 : decode b_Me_read 31 = .ok (.iadd, 1) := by decide +kernel
theorem d_Me_read_32 : decode b_Me_read 32 = .ok (.baload, 1) := by decide +kernel
theorem d_Me_read_33 : decode b_Me_read 33 = .ok (.sipush 255, 3) := by decide +kernel
theorem d_Me_read_36 : decode b_Me_read 36 = .ok (.iand, 1) := by decide +kernel
theorem d_Me_read_37 : decode b_Me_read 37 = .ok (.ior, 1) := by decide +kernel
theorem d_Me_read_38 : decode b_Me_read 38 = .ok (.istore 4, 2) := by decide +kernel
theorem d_Me_read_40 : decode b_Me_read 40 = .ok (.iinc 5 (-1), 3) := by decide +kernel
theorem d_Me_read_43 : decode b_Me_read 43 = .ok (.goto (-29), 3) := by decide +kernel
theorem d_Me_read_46 : decode b_Me_read 46 = .ok (.iload 4, 2) := by decide +kernel
theorem d_Me_read_48 : decode b_Me_read 48 = .ok (.ireturn, 1) := by decide +kernel
theorem d_Me_write_0 : decode b_Me_write 0 = .ok (.aload_n 0, 1) := by decide +kernel
theorem d_Me_write_1 : decode b_Me_write 1 = .ok (.iload_n 1, 1) := by decide +kernel
theorem d_Me_write_2 : decode b_Me_write 2 = .ok (.invokevirtual 91, 3) := by decide +kernel
theorem d_Me_write_5 : decode b_Me_write 5 = .ok (.istore 4, 2) := by decide +kernel
theorem d_Me_write_7 : decode b_Me_write 7 = .ok (.iconst 0, 1) := by decide +kernel
theorem d_Me_write_8 : decode b_Me_write 8 = .ok (.istore 5, 2) := by decide +kernel
theorem d_Me_write_10 : decode b_Me_write 10 = .ok (.iload 5, 2) := by decide +kernel
theorem d_Me_write_12 : decode b_Me_write 12 = .ok (.iload_n 2, 1) := by decide +kernel
theorem d_Me_write_13 : decode b_Me_write 13 = .ok (.if_icmp .ge 27, 3) := by decide +kernel
theorem d_Me_write_16 : decode b_Me_write 16 = .ok (.aload_n 0, 1) := by decide +kernel
theorem d_Me_write_17 : decode b_Me_write 17 = .ok (.getfield 19, 3) := by decide +kernel
theorem d_Me_write_20 : decode b_Me_write 20 = .ok (.iload 4, 2) := by decide +kernel
theorem d_Me_write_22 : decode b_Me_write 22 = .ok (.iload 5, 2) := by decide +kernel
theorem d_Me_write_24 : decode b_Me_write 24 = .ok (.iadd, 1) := by decide +kernel
theorem d_Me_write_25 : decode b_Me_write 25 = .ok (.iload_n 3, 1) := by decide +kernel
theorem d_Me_write_26 : decode b_Me_write 26 = .ok (.bipush 8, 2) := by decide +kernel
theorem d_Me_write_28 : decode b_Me_write 28 = .ok (.iload 5, 2) := by decide +kernel
theorem d_Me_write_30 : decode b_Me_write 30 = .ok (.imul, 1) := by decide +kernel
theorem d_Me_write_31 : decode b_Me_write 31 = .ok (.ishr, 1) := by decide +kernel
theorem d_Me_write_32 : decode b_Me_write 32 = .ok (.i2b, 1) := by decide +kernel
theorem d_Me_write_33 : decode b_Me_write 33 = .ok (.bastore, 1) := by decide +kernel
theorem d_Me_write_34 : decode b_Me_write 34 = .ok (.iinc 5 1, 3) := by decide +kernel
theorem d_Me_write_37 : decode b_Me_write 37 = .ok (.goto (-27), 3) := by decide +kernel
theorem d_Me_write_40 : decode b_Me_write 40 = .ok (.return_, 1) := by decide +kernel
theorem d_Me_copy_0 : decode b_Me_copy 0 = .ok (.aload_n 0, 1) := by decide +kernel
theorem d_Me_copy_1 : decode b_Me_copy 1 = .ok (.getfield 19, 3) := by decide +kernel
theorem d_Me_copy_4 : decode b_Me_copy 4 = .ok (.aload_n 0, 1) := by decide +kernel
theorem d_Me_copy_5 : decode b_Me_copy 5 = .ok (.iload_n 2, 1) := by decide +kernel
theorem d_Me_copy_6 : decode b_Me_copy 6 = .ok (.invokevirtual 91, 3) := by decide +kernel
theorem d_Me_copy_9 : decode b_Me_copy 9 = .ok (.aload_n 0, 1) := by decide +kernel
theorem d_Me_copy_10 : decode b_Me_copy 10 = .ok (.getfield 19, 3) := by decide +kernel
theorem d_Me_copy_13 : decode b_Me_copy 13 = .ok (.aload_n 0, 1) := by decide +kernel
theorem d_Me_copy_14 : decode b_Me_copy 14 = .ok (.iload_n 1, 1) := by decide +kernel
theorem d_Me_copy_15 : decode b_Me_copy 15 = .ok (.invokevirtual 91, 3) := by decide +kernel
theorem d_Me_copy_18 : decode b_Me_copy 18 = .ok (.iload_n 3, 1) := by decide +kernel
theorem d_Me_copy_19 : decode b_Me_copy 19 = .ok (.invokestatic 54, 3) := by decide +kernel
theorem d_Me_copy_22 : decode b_Me_copy 22 = .ok (.return_, 1) := by decide +kernel
theorem d_Me_forgetAll_0 : decode b_Me_forgetAll 0 = .ok (.aload_n 0, 1) := by decide +kernel
theorem d_Me_forgetAll_1 : decode b_Me_forgetAll 1 = .ok (.iconst 0, 1) := by decide +kernel
theorem d_Me_forgetAll_2 : decode b_Me_forgetAll 2 = .ok (.putfield 26, 3) := by decide +kernel
theorem d_Me_forgetAll_5 : decode b_Me_forgetAll 5 = .ok (.aload_n 0, 1) := by decide +kernel
theorem d_Me_forgetAll_6 : decode b_Me_forgetAll 6 = .ok (.iconst 0, 1) := by decide +kernel
theorem d_Me_forgetAll_7 : decode b_Me_forgetAll 7 = .ok (.putfield 30, 3) := by decide +kernel
theorem d_Me_forgetAll_10 : decode b_Me_forgetAll 10 = .ok (.aload_n 0, 1) := by decide +kernel
theorem d_Me_forgetAll_11 : decode b_Me_forgetAll 11 = .ok (.iconst 0, 1) := by decide +kernel
theorem d_Me_forgetAll_12 : decode b_Me_forgetAll 12 = .ok (.putfield 33, 3) := by decide +kernel
theorem d_Me_forgetAll_15 : decode b_Me_forgetAll 15 = .ok (.aload_n 0, 1) := by decide +kernel
theorem d_Me_forgetAll_16 : decode b_Me_forgetAll 16 = .ok (.iconst 0, 1) := by decide +kernel
theorem d_Me_forgetAll_17 : decode b_Me_forgetAll 17 = .ok (.putfield 36, 3) := by decide +kernel
theorem d_Me_forgetAll_20 : decode b_Me_forgetAll 20 = .ok (.aload_n 0, 1) := by decide +kernel
theorem d_Me_forgetAll_21 : decode b_Me_forgetAll 21 = .ok (.iconst 0, 1) := by decide +kernel
theorem d_Me_forgetAll_22 : decode b_Me_forgetAll 22 = .ok (.putfield 39, 3) := by decide +kernel
theorem d_Me_forgetAll_25 : decode b_Me_forgetAll 25 = .ok (.return_, 1) := by decide +kernel

def sp_Me_isThere (n0 : Int32) (md : Nat) (sf : Nat → Int32) : Int32 := if n0 < 1 then 0 else if (nI md) < n0 then 0 else if (sf n0.toNatClampNeg) = (-1) then 0 else 1
set_option maxHeartbeats 4000000 in
theorem c_Me_isThere (l : Launch) (D : va_G) (cI cB cJ : ClassId) (sz : Nat) (n0 : Int32) (h0 : Nat) (md : Nat) (bt : Nat) (lo : Nat) (nl : Nat) (sa : Nat) (ta : Nat) (fa : Nat) (pa : Nat) (pe : Nat) (ba : Nat) (rn : Nat) (sf : Nat → Int32) (hrn : md < rn) (hrm : rn ≤ 8001) : zMet l y_Me_isThere (zWs y_Me_isThere b_Me_isThere 2 (some .boolean)) { frames := 0, cells := 0, slots := 0, locals := 0 } (zPc D (zT cI cB cJ) sz [(h0, .inr (1, [.int (nI md), .int (nI bt), .int (nI lo), .int (nI nl), .ref sa, .ref ta, .ref fa, .ref pa, .int (nI pe), .ref ba])), (sa, .inl (cI, rn, .inl (sf)))] [.ref h0, .int n0]) (zQi D (va_A [(h0, .inr (1, [.int (nI md), .int (nI bt), .int (nI lo), .int (nI nl), .ref sa, .ref ta, .ref fa, .ref pa, .int (nI pe), .ref ba])), (sa, .inl (cI, rn, .inl (sf)))] sz) (fun r (_ : Unit) => r = (sp_Me_isThere n0 md sf)) (z0) (fun _ => [(h0, .inr (1, [.int (nI md), .int (nI bt), .int (nI lo), .int (nI nl), .ref sa, .ref ta, .ref fa, .ref pa, .int (nI pe), .ref ba])), (sa, .inl (cI, rn, .inl (sf)))])) (va_A [(h0, .inr (1, [.int (nI md), .int (nI bt), .int (nI lo), .int (nI nl), .ref sa, .ref ta, .ref fa, .ref pa, .int (nI pe), .ref ba])), (sa, .inl (cI, rn, .inl (sf)))] sz) := by
  refine zstart (Qc := fun A => zQi D A (fun r (_ : Unit) => r = (sp_Me_isThere n0 md sf)) (z0) (fun _ => [(h0, .inr (1, [.int (nI md), .int (nI bt), .int (nI lo), .int (nI nl), .ref sa, .ref ta, .ref fa, .ref pa, .int (nI pe), .ref ba])), (sa, .inl (cI, rn, .inl (sf)))])) (by decide) (Nat.le_of_ble_eq_true rfl) ?_
  intro p e s m below meth c ls A hE hr hlocks hin hsz hK hP hD hS hA hAe hl
  have hx := hE.1
  have hb := hE.2.1
  have hown := hE.2.2.2.1
  have hw := hE.2.2.2.2
  have hl : lv_has ls 2 [(0, .ref h0), (1, .int n0)] := hl
  refine lv_iload_n hx hb d_Me_isThere_0 rfl (lv_at hl 1 rfl) ?_
  refine lv_iconst (v := 1) hx hb d_Me_isThere_1 (by decide) ?_
  refine lv_icmp_lt (tgt := 27) hx hb d_Me_isThere_2 (by decide) (fun h1 => ?_) (fun h1 => ?_)
  · refine lv_iconst (v := 0) hx hb d_Me_isThere_27 (by decide) ?_
    have hs : (sp_Me_isThere n0 md sf) = 0 := by rw [sp_Me_isThere, if_pos h1]
    have hP9 := hP.sub (ws' := [(h0, .inr (1, [.int (nI md), .int (nI bt), .int (nI lo), .int (nI nl), .ref sa, .ref ta, .ref fa, .ref pa, .int (nI pe), .ref ba])), (sa, .inl (cI, rn, .inl (sf)))]) [0, 1] rfl
    have hD9 := hD.sub (ws' := [(h0, .inr (1, [.int (nI md), .int (nI bt), .int (nI lo), .int (nI nl), .ref sa, .ref ta, .ref fa, .ref pa, .int (nI pe), .ref ba])), (sa, .inl (cI, rn, .inl (sf)))]) [0, 1] rfl rfl
    exact zreti hx hb hr rfl hlocks hS () (by rw [hs]) rfl (by exact hP9) (by exact hD9) d_Me_isThere_28
  · refine lv_iload_n hx hb d_Me_isThere_5 rfl (lv_at hl 1 rfl) ?_
    refine lv_aload_n hx hb d_Me_isThere_6 rfl (lv_at hl 0 rfl) ?_
    refine zget hE hK hP 0 rfl fd_Me_26 rfl d_Me_isThere_7 ?_
    refine lv_icmp_gt (tgt := 27) hx hb d_Me_isThere_10 (by decide) (fun h2 => ?_) (fun h2 => ?_)
    · refine lv_iconst (v := 0) hx hb d_Me_isThere_27 (by decide) ?_
      have hs : (sp_Me_isThere n0 md sf) = 0 := by rw [sp_Me_isThere, if_neg h1, if_pos h2]
      have hP9 := hP.sub (ws' := [(h0, .inr (1, [.int (nI md), .int (nI bt), .int (nI lo), .int (nI nl), .ref sa, .ref ta, .ref fa, .ref pa, .int (nI pe), .ref ba])), (sa, .inl (cI, rn, .inl (sf)))]) [0, 1] rfl
      have hD9 := hD.sub (ws' := [(h0, .inr (1, [.int (nI md), .int (nI bt), .int (nI lo), .int (nI nl), .ref sa, .ref ta, .ref fa, .ref pa, .int (nI pe), .ref ba])), (sa, .inl (cI, rn, .inl (sf)))]) [0, 1] rfl rfl
      exact zreti hx hb hr rfl hlocks hS () (by rw [hs]) rfl (by exact hP9) (by exact hD9) d_Me_isThere_28
    · refine lv_aload_n hx hb d_Me_isThere_13 rfl (lv_at hl 0 rfl) ?_
      refine zget hE hK hP 0 rfl fd_Me_9 rfl d_Me_isThere_14 ?_
      refine lv_iload_n hx hb d_Me_isThere_17 rfl (lv_at hl 1 rfl) ?_
      refine va_iald hx hb hK hP 1 0 rfl rfl (z_in (by have q1 := z_nlt h1; have q2 := z_nlt h2; have k1 : ((1) : Int32).toInt = 1 := (by decide); have ni0 : (nI md).toInt = ((md : Nat) : Int) := nI_toInt (by omega); omega)) d_Me_isThere_18 ?_
      refine lv_iconst (v := (-1)) hx hb d_Me_isThere_19 (by decide) ?_
      refine lv_icmp_eq (tgt := 27) hx hb d_Me_isThere_20 (by decide) (fun h3 => ?_) (fun h3 => ?_)
      · refine lv_iconst (v := 0) hx hb d_Me_isThere_27 (by decide) ?_
        have hs : (sp_Me_isThere n0 md sf) = 0 := by rw [sp_Me_isThere, if_neg h1, if_neg h2, if_pos h3]
        have hP9 := hP.sub (ws' := [(h0, .inr (1, [.int (nI md), .int (nI bt), .int (nI lo), .int (nI nl), .ref sa, .ref ta, .ref fa, .ref pa, .int (nI pe), .ref ba])), (sa, .inl (cI, rn, .inl (sf)))]) [0, 1] rfl
        have hD9 := hD.sub (ws' := [(h0, .inr (1, [.int (nI md), .int (nI bt), .int (nI lo), .int (nI nl), .ref sa, .ref ta, .ref fa, .ref pa, .int (nI pe), .ref ba])), (sa, .inl (cI, rn, .inl (sf)))]) [0, 1] rfl rfl
        exact zreti hx hb hr rfl hlocks hS () (by rw [hs]) rfl (by exact hP9) (by exact hD9) d_Me_isThere_28
      · refine lv_iconst (v := 1) hx hb d_Me_isThere_23 (by decide) ?_
        refine lv_goto (tgt := 28) hx hb d_Me_isThere_24 (by decide) ?_
        have hs : (sp_Me_isThere n0 md sf) = 1 := by rw [sp_Me_isThere, if_neg h1, if_neg h2, if_neg h3]
        have hP9 := hP.sub (ws' := [(h0, .inr (1, [.int (nI md), .int (nI bt), .int (nI lo), .int (nI nl), .ref sa, .ref ta, .ref fa, .ref pa, .int (nI pe), .ref ba])), (sa, .inl (cI, rn, .inl (sf)))]) [0, 1] rfl
        have hD9 := hD.sub (ws' := [(h0, .inr (1, [.int (nI md), .int (nI bt), .int (nI lo), .int (nI nl), .ref sa, .ref ta, .ref fa, .ref pa, .int (nI pe), .ref ba])), (sa, .inl (cI, rn, .inl (sf)))]) [0, 1] rfl rfl
        exact zreti hx hb hr rfl hlocks hS () (by rw [hs]) rfl (by exact hP9) (by exact hD9) d_Me_isThere_28

theorem zthere {n : Int32} {md rn : Nat} {sf : Nat → Int32} (h : ¬ sp_Me_isThere n md sf = 0) (hrn : md < rn) (hrm : rn ≤ 8001) : 0 ≤ n.toInt ∧ n.toInt < rn := by
  unfold sp_Me_isThere at h
  by_cases h1 : n < 1
  · rw [if_pos h1] at h
    exact absurd rfl h
  · rw [if_neg h1] at h
    by_cases h2 : nI md < n
    · rw [if_pos h2] at h
      exact absurd rfl h
    · have q1 := z_nlt h1
      have q2 := z_nlt h2
      rw [nI_toInt (by omega)] at q2
      have k1 : (1 : Int32).toInt = 1 := by decide
      omega

def sp_Me_holds (ad : Int32) (n0 : Int32) (md : Nat) (sf : Nat → Int32) : Int32 := if (sp_Me_isThere (zushr ad 16) md sf) = 0 then 0 else if (sf (zushr ad 16).toNatClampNeg) < ((ad &&& 65535) + n0) then 0 else 1
set_option maxHeartbeats 4000000 in
theorem c_Me_holds (l : Launch) (D : va_G) (cI cB cJ : ClassId) (sz : Nat) (ad : Int32) (n0 : Int32) (h0 : Nat) (md : Nat) (bt : Nat) (lo : Nat) (nl : Nat) (sa : Nat) (ta : Nat) (fa : Nat) (pa : Nat) (pe : Nat) (ba : Nat) (rn : Nat) (sf : Nat → Int32) (hrn : md < rn) (hrm : rn ≤ 8001) : zMet l y_Me_holds (zWs y_Me_holds b_Me_holds 4 (some .boolean)) { frames := 1, cells := 0, slots := 0, locals := 21 } (zPc D (zT cI cB cJ) sz [(h0, .inr (1, [.int (nI md), .int (nI bt), .int (nI lo), .int (nI nl), .ref sa, .ref ta, .ref fa, .ref pa, .int (nI pe), .ref ba])), (sa, .inl (cI, rn, .inl (sf)))] [.ref h0, .int ad, .int n0]) (zQi D (va_A [(h0, .inr (1, [.int (nI md), .int (nI bt), .int (nI lo), .int (nI nl), .ref sa, .ref ta, .ref fa, .ref pa, .int (nI pe), .ref ba])), (sa, .inl (cI, rn, .inl (sf)))] sz) (fun r (_ : Unit) => r = (sp_Me_holds ad n0 md sf)) (z0) (fun _ => [(h0, .inr (1, [.int (nI md), .int (nI bt), .int (nI lo), .int (nI nl), .ref sa, .ref ta, .ref fa, .ref pa, .int (nI pe), .ref ba])), (sa, .inl (cI, rn, .inl (sf)))])) (va_A [(h0, .inr (1, [.int (nI md), .int (nI bt), .int (nI lo), .int (nI nl), .ref sa, .ref ta, .ref fa, .ref pa, .int (nI pe), .ref ba])), (sa, .inl (cI, rn, .inl (sf)))] sz) := by
  refine zstart (Qc := fun A => zQi D A (fun r (_ : Unit) => r = (sp_Me_holds ad n0 md sf)) (z0) (fun _ => [(h0, .inr (1, [.int (nI md), .int (nI bt), .int (nI lo), .int (nI nl), .ref sa, .ref ta, .ref fa, .ref pa, .int (nI pe), .ref ba])), (sa, .inl (cI, rn, .inl (sf)))])) (by decide) (Nat.le_of_ble_eq_true rfl) ?_
  intro p e s m below meth c ls A hE hr hlocks hin hsz hK hP hD hS hA hAe hl
  have hx := hE.1
  have hb := hE.2.1
  have hown := hE.2.2.2.1
  have hw := hE.2.2.2.2
  have hl : lv_has ls 4 [(0, .ref h0), (1, .int ad), (2, .int n0)] := hl
  refine lv_iload_n hx hb d_Me_holds_0 rfl (lv_at hl 1 rfl) ?_
  refine lv_bipush (v := 16) hx hb d_Me_holds_1 (by decide) ?_
  refine lv_iushr (v := zushr ad 16) hx hb d_Me_holds_3 rfl ?_
  refine lv_istore_n (lv' := [(3, .int (zushr ad 16)), (0, .ref h0), (1, .int ad), (2, .int n0)]) hx hb d_Me_holds_4 rfl hl (by decide) rfl (fun ls hl => ?_)
  refine lv_aload_n hx hb d_Me_holds_5 rfl (lv_at hl 1 rfl) ?_
  refine lv_iload_n hx hb d_Me_holds_6 rfl (lv_at hl 0 rfl) ?_
  refine zgoi (wr := []) (zrunV (n := 1) (As := [.int (zushr ad 16)]) (rest := []) hE (c_Me_isThere l D cI cB cJ _ (zushr ad 16) h0 md bt lo nl sa ta fa pa pe ba rn sf hrn hrm) cb_Me_isThere lk_Me_83 in_Me_isThere se_Me_isThere (zpreV (q0 := 0) hK hP hD rfl rfl rfl [0, 1] rfl rfl rfl) ⟨Nat.le_of_ble_eq_true rfl, Nat.le_of_ble_eq_true rfl, Nat.le_of_ble_eq_true rfl, Nat.le_of_ble_eq_true rfl⟩ rfl hl.1 rfl (Nat.le_of_ble_eq_true rfl) d_Me_holds_7) hP hD hS hA [0, 1] [] rfl rfl rfl (by decide) (fun r u H locs hq1 hP hD hS => ?_)
  subst hq1
  have hP : va_P D zC [(h0, .inr (1, [.int (nI md), .int (nI bt), .int (nI lo), .int (nI nl), .ref sa, .ref ta, .ref fa, .ref pa, .int (nI pe), .ref ba])), (sa, .inl (cI, rn, .inl (sf)))] H := hP
  have hD : va_D A [(h0, .inr (1, [.int (nI md), .int (nI bt), .int (nI lo), .int (nI nl), .ref sa, .ref ta, .ref fa, .ref pa, .int (nI pe), .ref ba])), (sa, .inl (cI, rn, .inl (sf)))] := hD
  refine lv_if_eq (tgt := 32) hx hb d_Me_holds_10 (by decide) (fun h2 => ?_) (fun h2 => ?_)
  · refine lv_iconst (v := 0) hx hb d_Me_holds_32 (by decide) ?_
    have hs : (sp_Me_holds ad n0 md sf) = 0 := by rw [sp_Me_holds, if_pos h2]
    have hP9 := hP.sub (ws' := [(h0, .inr (1, [.int (nI md), .int (nI bt), .int (nI lo), .int (nI nl), .ref sa, .ref ta, .ref fa, .ref pa, .int (nI pe), .ref ba])), (sa, .inl (cI, rn, .inl (sf)))]) [0, 1] rfl
    have hD9 := hD.sub (ws' := [(h0, .inr (1, [.int (nI md), .int (nI bt), .int (nI lo), .int (nI nl), .ref sa, .ref ta, .ref fa, .ref pa, .int (nI pe), .ref ba])), (sa, .inl (cI, rn, .inl (sf)))]) [0, 1] rfl rfl
    exact zreti hx hb hr rfl hlocks hS () (by rw [hs]) rfl (by exact hP9) (by exact hD9) d_Me_holds_33
  · refine lv_iload_n hx hb d_Me_holds_13 rfl (lv_at hl 2 rfl) ?_
    refine lv_ldc (v := 65535) hx hb hown (hw _ kc_Me_82) d_Me_holds_14 ?_
    refine lv_iand hx hb d_Me_holds_16 ?_
    refine lv_iload_n hx hb d_Me_holds_17 rfl (lv_at hl 3 rfl) ?_
    refine lv_iadd hx hb d_Me_holds_18 ?_
    refine lv_aload_n hx hb d_Me_holds_19 rfl (lv_at hl 1 rfl) ?_
    refine zget hE hK hP 0 rfl fd_Me_9 rfl d_Me_holds_20 ?_
    refine lv_iload_n hx hb d_Me_holds_23 rfl (lv_at hl 0 rfl) ?_
    refine va_iald hx hb hK hP 1 0 rfl rfl (z_in (zthere h2 hrn hrm)) d_Me_holds_24 ?_
    refine lv_icmp_gt (tgt := 32) hx hb d_Me_holds_25 (by decide) (fun h3 => ?_) (fun h3 => ?_)
    · refine lv_iconst (v := 0) hx hb d_Me_holds_32 (by decide) ?_
      have hs : (sp_Me_holds ad n0 md sf) = 0 := by rw [sp_Me_holds, if_neg h2, if_pos h3]
      have hP9 := hP.sub (ws' := [(h0, .inr (1, [.int (nI md), .int (nI bt), .int (nI lo), .int (nI nl), .ref sa, .ref ta, .ref fa, .ref pa, .int (nI pe), .ref ba])), (sa, .inl (cI, rn, .inl (sf)))]) [0, 1] rfl
      have hD9 := hD.sub (ws' := [(h0, .inr (1, [.int (nI md), .int (nI bt), .int (nI lo), .int (nI nl), .ref sa, .ref ta, .ref fa, .ref pa, .int (nI pe), .ref ba])), (sa, .inl (cI, rn, .inl (sf)))]) [0, 1] rfl rfl
      exact zreti hx hb hr rfl hlocks hS () (by rw [hs]) rfl (by exact hP9) (by exact hD9) d_Me_holds_33
    · refine lv_iconst (v := 1) hx hb d_Me_holds_28 (by decide) ?_
      refine lv_goto (tgt := 33) hx hb d_Me_holds_29 (by decide) ?_
      have hs : (sp_Me_holds ad n0 md sf) = 1 := by rw [sp_Me_holds, if_neg h2, if_neg h3]
      have hP9 := hP.sub (ws' := [(h0, .inr (1, [.int (nI md), .int (nI bt), .int (nI lo), .int (nI nl), .ref sa, .ref ta, .ref fa, .ref pa, .int (nI pe), .ref ba])), (sa, .inl (cI, rn, .inl (sf)))]) [0, 1] rfl
      have hD9 := hD.sub (ws' := [(h0, .inr (1, [.int (nI md), .int (nI bt), .int (nI lo), .int (nI nl), .ref sa, .ref ta, .ref fa, .ref pa, .int (nI pe), .ref ba])), (sa, .inl (cI, rn, .inl (sf)))]) [0, 1] rfl rfl
      exact zreti hx hb hr rfl hlocks hS () (by rw [hs]) rfl (by exact hP9) (by exact hD9) d_Me_holds_33

def sp_Me_holdsAligned (ad : Int32) (n0 : Int32) (md : Nat) (sf : Nat → Int32) : Int32 := if (ad &&& (n0 - 1)) = 0 then
  if (sp_Me_holds ad n0 md sf) = 0 then 0 else 1
else 0
set_option maxHeartbeats 4000000 in
theorem c_Me_holdsAligned (l : Launch) (D : va_G) (cI cB cJ : ClassId) (sz : Nat) (ad : Int32) (n0 : Int32) (h0 : Nat) (md : Nat) (bt : Nat) (lo : Nat) (nl : Nat) (sa : Nat) (ta : Nat) (fa : Nat) (pa : Nat) (pe : Nat) (ba : Nat) (rn : Nat) (sf : Nat → Int32) (hrn : md < rn) (hrm : rn ≤ 8001) : zMet l y_Me_holdsAligned (zWs y_Me_holdsAligned b_Me_holdsAligned 3 (some .boolean)) { frames := 2, cells := 0, slots := 0, locals := 44 } (zPc D (zT cI cB cJ) sz [(h0, .inr (1, [.int (nI md), .int (nI bt), .int (nI lo), .int (nI nl), .ref sa, .ref ta, .ref fa, .ref pa, .int (nI pe), .ref ba])), (sa, .inl (cI, rn, .inl (sf)))] [.ref h0, .int ad, .int n0]) (zQi D (va_A [(h0, .inr (1, [.int (nI md), .int (nI bt), .int (nI lo), .int (nI nl), .ref sa, .ref ta, .ref fa, .ref pa, .int (nI pe), .ref ba])), (sa, .inl (cI, rn, .inl (sf)))] sz) (fun r (_ : Unit) => r = (sp_Me_holdsAligned ad n0 md sf)) (z0) (fun _ => [(h0, .inr (1, [.int (nI md), .int (nI bt), .int (nI lo), .int (nI nl), .ref sa, .ref ta, .ref fa, .ref pa, .int (nI pe), .ref ba])), (sa, .inl (cI, rn, .inl (sf)))])) (va_A [(h0, .inr (1, [.int (nI md), .int (nI bt), .int (nI lo), .int (nI nl), .ref sa, .ref ta, .ref fa, .ref pa, .int (nI pe), .ref ba])), (sa, .inl (cI, rn, .inl (sf)))] sz) := by
  refine zstart (Qc := fun A => zQi D A (fun r (_ : Unit) => r = (sp_Me_holdsAligned ad n0 md sf)) (z0) (fun _ => [(h0, .inr (1, [.int (nI md), .int (nI bt), .int (nI lo), .int (nI nl), .ref sa, .ref ta, .ref fa, .ref pa, .int (nI pe), .ref ba])), (sa, .inl (cI, rn, .inl (sf)))])) (by decide) (Nat.le_of_ble_eq_true rfl) ?_
  intro p e s m below meth c ls A hE hr hlocks hin hsz hK hP hD hS hA hAe hl
  have hx := hE.1
  have hb := hE.2.1
  have hown := hE.2.2.2.1
  have hw := hE.2.2.2.2
  have hl : lv_has ls 3 [(0, .ref h0), (1, .int ad), (2, .int n0)] := hl
  refine lv_iload_n hx hb d_Me_holdsAligned_0 rfl (lv_at hl 1 rfl) ?_
  refine lv_iload_n hx hb d_Me_holdsAligned_1 rfl (lv_at hl 2 rfl) ?_
  refine lv_iconst (v := 1) hx hb d_Me_holdsAligned_2 (by decide) ?_
  refine lv_isub hx hb d_Me_holdsAligned_3 ?_
  refine lv_iand hx hb d_Me_holdsAligned_4 ?_
  refine lv_if_ne (tgt := 21) hx hb d_Me_holdsAligned_5 (by decide) (fun h1 => ?_) (fun h1 => ?_)
  · refine lv_iconst (v := 0) hx hb d_Me_holdsAligned_21 (by decide) ?_
    have hs : (sp_Me_holdsAligned ad n0 md sf) = 0 := by rw [sp_Me_holdsAligned, if_neg h1]
    have hP9 := hP.sub (ws' := [(h0, .inr (1, [.int (nI md), .int (nI bt), .int (nI lo), .int (nI nl), .ref sa, .ref ta, .ref fa, .ref pa, .int (nI pe), .ref ba])), (sa, .inl (cI, rn, .inl (sf)))]) [0, 1] rfl
    have hD9 := hD.sub (ws' := [(h0, .inr (1, [.int (nI md), .int (nI bt), .int (nI lo), .int (nI nl), .ref sa, .ref ta, .ref fa, .ref pa, .int (nI pe), .ref ba])), (sa, .inl (cI, rn, .inl (sf)))]) [0, 1] rfl rfl
    exact zreti hx hb hr rfl hlocks hS () (by rw [hs]) rfl (by exact hP9) (by exact hD9) d_Me_holdsAligned_22
  · refine lv_aload_n hx hb d_Me_holdsAligned_8 rfl (lv_at hl 0 rfl) ?_
    refine lv_iload_n hx hb d_Me_holdsAligned_9 rfl (lv_at hl 1 rfl) ?_
    refine lv_iload_n hx hb d_Me_holdsAligned_10 rfl (lv_at hl 2 rfl) ?_
    refine zgoi (wr := []) (zrunV (n := 2) (As := [.int ad, .int n0]) (rest := []) hE (c_Me_holds l D cI cB cJ _ ad n0 h0 md bt lo nl sa ta fa pa pe ba rn sf hrn hrm) cb_Me_holds lk_Me_87 in_Me_holds se_Me_holds (zpreV (q0 := 0) hK hP hD rfl rfl rfl [0, 1] rfl rfl rfl) ⟨Nat.le_of_ble_eq_true rfl, Nat.le_of_ble_eq_true rfl, Nat.le_of_ble_eq_true rfl, Nat.le_of_ble_eq_true rfl⟩ rfl hl.1 rfl (Nat.le_of_ble_eq_true rfl) d_Me_holdsAligned_11) hP hD hS hA [0, 1] [] rfl rfl rfl (by decide) (fun r u H locs hq2 hP hD hS => ?_)
    subst hq2
    have hP : va_P D zC [(h0, .inr (1, [.int (nI md), .int (nI bt), .int (nI lo), .int (nI nl), .ref sa, .ref ta, .ref fa, .ref pa, .int (nI pe), .ref ba])), (sa, .inl (cI, rn, .inl (sf)))] H := hP
    have hD : va_D A [(h0, .inr (1, [.int (nI md), .int (nI bt), .int (nI lo), .int (nI nl), .ref sa, .ref ta, .ref fa, .ref pa, .int (nI pe), .ref ba])), (sa, .inl (cI, rn, .inl (sf)))] := hD
    refine lv_if_eq (tgt := 21) hx hb d_Me_holdsAligned_14 (by decide) (fun h3 => ?_) (fun h3 => ?_)
    · refine lv_iconst (v := 0) hx hb d_Me_holdsAligned_21 (by decide) ?_
      have hs : (sp_Me_holdsAligned ad n0 md sf) = 0 := by rw [sp_Me_holdsAligned, if_pos h1, if_pos h3]
      have hP9 := hP.sub (ws' := [(h0, .inr (1, [.int (nI md), .int (nI bt), .int (nI lo), .int (nI nl), .ref sa, .ref ta, .ref fa, .ref pa, .int (nI pe), .ref ba])), (sa, .inl (cI, rn, .inl (sf)))]) [0, 1] rfl
      have hD9 := hD.sub (ws' := [(h0, .inr (1, [.int (nI md), .int (nI bt), .int (nI lo), .int (nI nl), .ref sa, .ref ta, .ref fa, .ref pa, .int (nI pe), .ref ba])), (sa, .inl (cI, rn, .inl (sf)))]) [0, 1] rfl rfl
      exact zreti hx hb hr rfl hlocks hS () (by rw [hs]) rfl (by exact hP9) (by exact hD9) d_Me_holdsAligned_22
    · refine lv_iconst (v := 1) hx hb d_Me_holdsAligned_17 (by decide) ?_
      refine lv_goto (tgt := 22) hx hb d_Me_holdsAligned_18 (by decide) ?_
      have hs : (sp_Me_holdsAligned ad n0 md sf) = 1 := by rw [sp_Me_holdsAligned, if_pos h1, if_neg h3]
      have hP9 := hP.sub (ws' := [(h0, .inr (1, [.int (nI md), .int (nI bt), .int (nI lo), .int (nI nl), .ref sa, .ref ta, .ref fa, .ref pa, .int (nI pe), .ref ba])), (sa, .inl (cI, rn, .inl (sf)))]) [0, 1] rfl
      have hD9 := hD.sub (ws' := [(h0, .inr (1, [.int (nI md), .int (nI bt), .int (nI lo), .int (nI nl), .ref sa, .ref ta, .ref fa, .ref pa, .int (nI pe), .ref ba])), (sa, .inl (cI, rn, .inl (sf)))]) [0, 1] rfl rfl
      exact zreti hx hb hr rfl hlocks hS () (by rw [hs]) rfl (by exact hP9) (by exact hD9) d_Me_holdsAligned_22

def sp_Me_spot (ad : Int32) (tf : Nat → Int32) : Int32 := (tf (zushr ad 16).toNatClampNeg) + (ad &&& 65535)
set_option maxHeartbeats 4000000 in
theorem c_Me_spot (l : Launch) (D : va_G) (cI cB cJ : ClassId) (sz : Nat) (ad : Int32) (h0 : Nat) (md : Nat) (bt : Nat) (lo : Nat) (nl : Nat) (sa : Nat) (ta : Nat) (fa : Nat) (pa : Nat) (pe : Nat) (ba : Nat) (rn : Nat) (tf : Nat → Int32) (had : zN ad / 65536 < rn) (hrm : rn ≤ 8001) : zMet l y_Me_spot (zWs y_Me_spot b_Me_spot 2 (some .int)) { frames := 0, cells := 0, slots := 0, locals := 0 } (zPc D (zT cI cB cJ) sz [(h0, .inr (1, [.int (nI md), .int (nI bt), .int (nI lo), .int (nI nl), .ref sa, .ref ta, .ref fa, .ref pa, .int (nI pe), .ref ba])), (ta, .inl (cI, rn, .inl (tf)))] [.ref h0, .int ad]) (zQi D (va_A [(h0, .inr (1, [.int (nI md), .int (nI bt), .int (nI lo), .int (nI nl), .ref sa, .ref ta, .ref fa, .ref pa, .int (nI pe), .ref ba])), (ta, .inl (cI, rn, .inl (tf)))] sz) (fun r (_ : Unit) => r = (sp_Me_spot ad tf)) (z0) (fun _ => [(h0, .inr (1, [.int (nI md), .int (nI bt), .int (nI lo), .int (nI nl), .ref sa, .ref ta, .ref fa, .ref pa, .int (nI pe), .ref ba])), (ta, .inl (cI, rn, .inl (tf)))])) (va_A [(h0, .inr (1, [.int (nI md), .int (nI bt), .int (nI lo), .int (nI nl), .ref sa, .ref ta, .ref fa, .ref pa, .int (nI pe), .ref ba])), (ta, .inl (cI, rn, .inl (tf)))] sz) := by
  refine zstart (Qc := fun A => zQi D A (fun r (_ : Unit) => r = (sp_Me_spot ad tf)) (z0) (fun _ => [(h0, .inr (1, [.int (nI md), .int (nI bt), .int (nI lo), .int (nI nl), .ref sa, .ref ta, .ref fa, .ref pa, .int (nI pe), .ref ba])), (ta, .inl (cI, rn, .inl (tf)))])) (by decide) (Nat.le_of_ble_eq_true rfl) ?_
  intro p e s m below meth c ls A hE hr hlocks hin hsz hK hP hD hS hA hAe hl
  have hx := hE.1
  have hb := hE.2.1
  have hown := hE.2.2.2.1
  have hw := hE.2.2.2.2
  have hl : lv_has ls 2 [(0, .ref h0), (1, .int ad)] := hl
  refine lv_aload_n hx hb d_Me_spot_0 rfl (lv_at hl 0 rfl) ?_
  refine zget hE hK hP 0 rfl fd_Me_13 rfl d_Me_spot_1 ?_
  refine lv_iload_n hx hb d_Me_spot_4 rfl (lv_at hl 1 rfl) ?_
  refine lv_bipush (v := 16) hx hb d_Me_spot_5 (by decide) ?_
  refine lv_iushr (v := zushr ad 16) hx hb d_Me_spot_7 rfl ?_
  refine va_iald hx hb hK hP 1 0 rfl rfl (by rw [z_u16]; exact vp_in_nI had (by omega)) d_Me_spot_8 ?_
  refine lv_iload_n hx hb d_Me_spot_9 rfl (lv_at hl 1 rfl) ?_
  refine lv_ldc (v := 65535) hx hb hown (hw _ kc_Me_82) d_Me_spot_10 ?_
  refine lv_iand hx hb d_Me_spot_12 ?_
  refine lv_iadd hx hb d_Me_spot_13 ?_
  have hs : (sp_Me_spot ad tf) = (tf (zushr ad 16).toNatClampNeg) + (ad &&& 65535) := rfl
  have hP9 := hP.sub (ws' := [(h0, .inr (1, [.int (nI md), .int (nI bt), .int (nI lo), .int (nI nl), .ref sa, .ref ta, .ref fa, .ref pa, .int (nI pe), .ref ba])), (ta, .inl (cI, rn, .inl (tf)))]) [0, 1] rfl
  have hD9 := hD.sub (ws' := [(h0, .inr (1, [.int (nI md), .int (nI bt), .int (nI lo), .int (nI nl), .ref sa, .ref ta, .ref fa, .ref pa, .int (nI pe), .ref ba])), (ta, .inl (cI, rn, .inl (tf)))]) [0, 1] rfl rfl
  exact zreti hx hb hr rfl hlocks hS () (by rw [hs]) rfl (by exact hP9) (by exact hD9) d_Me_spot_14

set_option maxHeartbeats 4000000 in
theorem c_Me_read (l : Launch) (D : va_G) (cI cB cJ : ClassId) (sz : Nat) (ad : Int32) (n0 : Int32) (h0 : Nat) (md : Nat) (bt : Nat) (lo : Nat) (nl : Nat) (sa : Nat) (ta : Nat) (fa : Nat) (pa : Nat) (pe : Nat) (ba : Nat) (rn : Nat) (tf : Nat → Int32) (pn : Nat) (pf : Nat → Int32) (a0 : Nat) (k0 : Nat) (had : zN ad / 65536 < rn) (hrm : rn ≤ 8001) (hat : sp_Me_spot ad tf = nI a0) (hk : n0 = nI k0) (hak : a0 + k0 ≤ pn) (hpn : pn ≤ 80000) : zMet l y_Me_read (zWs y_Me_read b_Me_read 6 (some .int)) { frames := 1, cells := 0, slots := 0, locals := 21 } (zPc D (zT cI cB cJ) sz [(h0, .inr (1, [.int (nI md), .int (nI bt), .int (nI lo), .int (nI nl), .ref sa, .ref ta, .ref fa, .ref pa, .int (nI pe), .ref ba])), (ta, .inl (cI, rn, .inl (tf))), (pa, .inl (cB, pn, .inl (pf)))] [.ref h0, .int ad, .int n0]) (zQi D (va_A [(h0, .inr (1, [.int (nI md), .int (nI bt), .int (nI lo), .int (nI nl), .ref sa, .ref ta, .ref fa, .ref pa, .int (nI pe), .ref ba])), (ta, .inl (cI, rn, .inl (tf))), (pa, .inl (cB, pn, .inl (pf)))] sz) (fun r (_ : Unit) => r = (zrd (fun i => pf (a0 + i)) k0 0)) (z0) (fun _ => [(h0, .inr (1, [.int (nI md), .int (nI bt), .int (nI lo), .int (nI nl), .ref sa, .ref ta, .ref fa, .ref pa, .int (nI pe), .ref ba])), (ta, .inl (cI, rn, .inl (tf))), (pa, .inl (cB, pn, .inl (pf)))])) (va_A [(h0, .inr (1, [.int (nI md), .int (nI bt), .int (nI lo), .int (nI nl), .ref sa, .ref ta, .ref fa, .ref pa, .int (nI pe), .ref ba])), (ta, .inl (cI, rn, .inl (tf))), (pa, .inl (cB, pn, .inl (pf)))] sz) := by
  refine zstart (Qc := fun A => zQi D A (fun r (_ : Unit) => r = (zrd (fun i => pf (a0 + i)) k0 0)) (z0) (fun _ => [(h0, .inr (1, [.int (nI md), .int (nI bt), .int (nI lo), .int (nI nl), .ref sa, .ref ta, .ref fa, .ref pa, .int (nI pe), .ref ba])), (ta, .inl (cI, rn, .inl (tf))), (pa, .inl (cB, pn, .inl (pf)))])) (by decide) (Nat.le_of_ble_eq_true rfl) ?_
  intro p e s m below meth c ls A hE hr hlocks hin hsz hK hP hD hS hA hAe hl
  have hx := hE.1
  have hb := hE.2.1
  have hown := hE.2.2.2.1
  have hw := hE.2.2.2.2
  have hl : lv_has ls 6 [(0, .ref h0), (1, .int ad), (2, .int n0)] := hl
  refine lv_aload_n hx hb d_Me_read_0 rfl (lv_at hl 0 rfl) ?_
  refine lv_iload_n hx hb d_Me_read_1 rfl (lv_at hl 1 rfl) ?_
  refine zgoi (wr := [(pa, .inl (cB, pn, .inl (pf)))]) (zrunV (n := 1) (As := [.int ad]) (rest := []) hE (c_Me_spot l D cI cB cJ _ ad h0 md bt lo nl sa ta fa pa pe ba rn tf had hrm) cb_Me_spot lk_Me_91 in_Me_spot se_Me_spot (zpreV (q0 := 0) hK hP hD rfl rfl rfl [0, 1] rfl rfl rfl) ⟨Nat.le_of_ble_eq_true rfl, Nat.le_of_ble_eq_true rfl, Nat.le_of_ble_eq_true rfl, Nat.le_of_ble_eq_true rfl⟩ rfl hl.1 rfl (Nat.le_of_ble_eq_true rfl) d_Me_read_2) hP hD hS hA [0, 1] [2] rfl rfl rfl (by decide) (fun r u H locs hq1 hP hD hS => ?_)
  subst hq1
  have hP : va_P D zC [(pa, .inl (cB, pn, .inl (pf))), (h0, .inr (1, [.int (nI md), .int (nI bt), .int (nI lo), .int (nI nl), .ref sa, .ref ta, .ref fa, .ref pa, .int (nI pe), .ref ba])), (ta, .inl (cI, rn, .inl (tf)))] H := hP
  have hD : va_D A [(pa, .inl (cB, pn, .inl (pf))), (h0, .inr (1, [.int (nI md), .int (nI bt), .int (nI lo), .int (nI nl), .ref sa, .ref ta, .ref fa, .ref pa, .int (nI pe), .ref ba])), (ta, .inl (cI, rn, .inl (tf)))] := hD
  refine z_st (st' := [.int (nI a0)]) (by rw [show (((sp_Me_spot ad tf)) : Int32) = nI a0 from hat]) ?_
  refine lv_istore_n (lv' := [(3, .int (nI a0)), (0, .ref h0), (1, .int ad), (2, .int n0)]) hx hb d_Me_read_5 rfl hl (by decide) rfl (fun ls hl => ?_)
  refine lv_iconst (v := 0) hx hb d_Me_read_6 (by decide) ?_
  refine lv_istore (lv' := [(4, .int 0), (3, .int (nI a0)), (0, .ref h0), (1, .int ad), (2, .int n0)]) hx hb d_Me_read_7 hl (by decide) rfl (fun ls hl => ?_)
  refine lv_iload_n hx hb d_Me_read_9 rfl (lv_at hl 4 rfl) ?_
  refine lv_iconst (v := 1) hx hb d_Me_read_10 (by decide) ?_
  refine lv_isub hx hb d_Me_read_11 ?_
  refine z_st (st' := [.int (nI k0 + (-1))]) (by rw [show ((n0 - 1) : Int32) = nI k0 + (-1) from by rw [hk]; exact z_m1 _]) ?_
  refine lv_istore (lv' := [(5, .int (nI k0 + (-1))), (4, .int 0), (3, .int (nI a0)), (0, .ref h0), (1, .int ad), (2, .int n0)]) hx hb d_Me_read_12 hl (by decide) rfl (fun ls hl => ?_)
  refine zloop0 (σ := Int32) (fun j x ls => (j ≤ k0 ∧ zrd (fun i => pf (a0 + i)) j x = zrd (fun i => pf (a0 + i)) k0 0) ∧ lv_has ls 6 [(5, .int (nI j + (-1))), (4, .int x), (3, .int (nI a0)), (0, .ref h0), (1, .int ad), (2, .int n0)]) (fun j x ls hI ih => ?_) k0 0 ls ⟨⟨Nat.le_refl _, rfl⟩, hl⟩
  obtain ⟨⟨hj, hz⟩, hl⟩ := hI
  refine lv_iload hx hb d_Me_read_14 (lv_at hl 0 rfl) ?_
  refine lv_if_lt (tgt := 46) hx hb d_Me_read_16 (by decide) (fun h2 => ?_) (fun h2 => ?_)
  · refine lv_iload hx hb d_Me_read_46 (lv_at hl 1 rfl) ?_
    have j0 : j = 0 := z_pm0 (by omega) h2
    subst j0
    have hP9 := hP.sub (ws' := [(h0, .inr (1, [.int (nI md), .int (nI bt), .int (nI lo), .int (nI nl), .ref sa, .ref ta, .ref fa, .ref pa, .int (nI pe), .ref ba])), (ta, .inl (cI, rn, .inl (tf))), (pa, .inl (cB, pn, .inl (pf)))]) [1, 2, 0] rfl
    have hD9 := hD.sub (ws' := [(h0, .inr (1, [.int (nI md), .int (nI bt), .int (nI lo), .int (nI nl), .ref sa, .ref ta, .ref fa, .ref pa, .int (nI pe), .ref ba])), (ta, .inl (cI, rn, .inl (tf))), (pa, .inl (cB, pn, .inl (pf)))]) [1, 2, 0] rfl rfl
    exact zreti hx hb hr rfl hlocks hS () hz rfl hP9 hD9 d_Me_read_48
  · obtain ⟨j, rfl⟩ : ∃ q, j = q + 1 := ⟨j - 1, by have := z_pm h2; omega⟩
    rw [pk_m1] at hl
    have hl : lv_has ls 6 [(5, .int (nI j)), (4, .int x), (3, .int (nI a0)), (0, .ref h0), (1, .int ad), (2, .int n0)] := hl
    refine lv_iload hx hb d_Me_read_19 (lv_at hl 1 rfl) ?_
    refine lv_bipush (v := 8) hx hb d_Me_read_21 (by decide) ?_
    refine lv_ishl hx hb d_Me_read_23 ?_
    refine lv_aload_n hx hb d_Me_read_24 rfl (lv_at hl 3 rfl) ?_
    refine zget hE hK hP 1 rfl fd_Me_19 rfl d_Me_read_25 ?_
    refine lv_iload_n hx hb d_Me_read_28 rfl (lv_at hl 2 rfl) ?_
    refine lv_iload hx hb d_Me_read_29 (lv_at hl 0 rfl) ?_
    refine lv_iadd hx hb d_Me_read_31 ?_
    refine z_st (st' := [.int (nI (a0 + j)), .ref pa, .int ((x : Int32) <<< ((8 : Int32) &&& 31))]) (by rw [show (((nI a0) + (nI j)) : Int32) = nI (a0 + j) from nI_add a0 j]) ?_
    refine va_bald hx hb hK hP 0 1 rfl rfl (vp_in_nI (by omega) (by omega)) d_Me_read_32 ?_
    refine z_st (st' := [.int (pf (a0 + j)), .int ((x : Int32) <<< ((8 : Int32) &&& 31))]) (by rw [show ((pf (nI (a0 + j)).toNatClampNeg) : Int32) = pf (a0 + j) from by rw [nI_clamp (by omega)]]) ?_
    refine lv_sipush (v := 255) hx hb d_Me_read_33 (by decide) ?_
    refine lv_iand hx hb d_Me_read_36 ?_
    refine lv_ior hx hb d_Me_read_37 ?_
    refine lv_istore (lv' := [(4, .int (((x : Int32) <<< ((8 : Int32) &&& 31)) ||| ((pf (a0 + j)) &&& 255))), (5, .int (nI j)), (3, .int (nI a0)), (0, .ref h0), (1, .int ad), (2, .int n0)]) hx hb d_Me_read_38 hl (by decide) rfl (fun ls hl => ?_)
    refine lv_iinc (k := 1) (v := (nI j) + (-1)) (lv' := [(5, .int ((nI j) + (-1))), (4, .int (((x : Int32) <<< ((8 : Int32) &&& 31)) ||| ((pf (a0 + j)) &&& 255))), (3, .int (nI a0)), (0, .ref h0), (1, .int ad), (2, .int n0)]) hx hb d_Me_read_40 hl rfl rfl (by decide) rfl (fun ls hl => ?_)
    refine lv_goto (tgt := 14) hx hb d_Me_read_43 (by decide) ?_
    exact ih j _ ls (by omega) ⟨⟨by omega, hz⟩, hl⟩

set_option maxHeartbeats 4000000 in
theorem c_Me_write (l : Launch) (D : va_G) (cI cB cJ : ClassId) (sz : Nat) (ad : Int32) (n0 : Int32) (v : Int32) (h0 : Nat) (md : Nat) (bt : Nat) (lo : Nat) (nl : Nat) (sa : Nat) (ta : Nat) (fa : Nat) (pa : Nat) (pe : Nat) (ba : Nat) (rn : Nat) (tf : Nat → Int32) (pn : Nat) (pf : Nat → Int32) (a0 : Nat) (k0 : Nat) (had : zN ad / 65536 < rn) (hrm : rn ≤ 8001) (hat : sp_Me_spot ad tf = nI a0) (hk : n0 = nI k0) (hak : a0 + k0 ≤ pn) (hpn : pn ≤ 80000) : zMet l y_Me_write (zWs y_Me_write b_Me_write 6 (none)) { frames := 1, cells := 0, slots := 0, locals := 21 } (zPc D (zT cI cB cJ) sz [(h0, .inr (1, [.int (nI md), .int (nI bt), .int (nI lo), .int (nI nl), .ref sa, .ref ta, .ref fa, .ref pa, .int (nI pe), .ref ba])), (ta, .inl (cI, rn, .inl (tf))), (pa, .inl (cB, pn, .inl (pf)))] [.ref h0, .int ad, .int n0, .int v]) (zQv D (va_A [(h0, .inr (1, [.int (nI md), .int (nI bt), .int (nI lo), .int (nI nl), .ref sa, .ref ta, .ref fa, .ref pa, .int (nI pe), .ref ba])), (ta, .inl (cI, rn, .inl (tf))), (pa, .inl (cB, pn, .inl (pf)))] sz) (fun (_ : Unit) => True) (z0) (fun _ => [(h0, .inr (1, [.int (nI md), .int (nI bt), .int (nI lo), .int (nI nl), .ref sa, .ref ta, .ref fa, .ref pa, .int (nI pe), .ref ba])), (ta, .inl (cI, rn, .inl (tf))), (pa, .inl (cB, pn, .inl (zwt pf a0 k0 v)))])) (va_A [(h0, .inr (1, [.int (nI md), .int (nI bt), .int (nI lo), .int (nI nl), .ref sa, .ref ta, .ref fa, .ref pa, .int (nI pe), .ref ba])), (ta, .inl (cI, rn, .inl (tf))), (pa, .inl (cB, pn, .inl (pf)))] sz) := by
  refine zstart (Qc := fun A => zQv D A (fun (_ : Unit) => True) (z0) (fun _ => [(h0, .inr (1, [.int (nI md), .int (nI bt), .int (nI lo), .int (nI nl), .ref sa, .ref ta, .ref fa, .ref pa, .int (nI pe), .ref ba])), (ta, .inl (cI, rn, .inl (tf))), (pa, .inl (cB, pn, .inl (zwt pf a0 k0 v)))])) (by decide) (Nat.le_of_ble_eq_true rfl) ?_
  intro p e s m below meth c ls A hE hr hlocks hin hsz hK hP hD hS hA hAe hl
  have hx := hE.1
  have hb := hE.2.1
  have hown := hE.2.2.2.1
  have hw := hE.2.2.2.2
  have hl : lv_has ls 6 [(0, .ref h0), (1, .int ad), (2, .int n0), (3, .int v)] := hl
  refine lv_aload_n hx hb d_Me_write_0 rfl (lv_at hl 0 rfl) ?_
  refine lv_iload_n hx hb d_Me_write_1 rfl (lv_at hl 1 rfl) ?_
  refine zgoi (wr := [(pa, .inl (cB, pn, .inl (pf)))]) (zrunV (n := 1) (As := [.int ad]) (rest := []) hE (c_Me_spot l D cI cB cJ _ ad h0 md bt lo nl sa ta fa pa pe ba rn tf had hrm) cb_Me_spot lk_Me_91 in_Me_spot se_Me_spot (zpreV (q0 := 0) hK hP hD rfl rfl rfl [0, 1] rfl rfl rfl) ⟨Nat.le_of_ble_eq_true rfl, Nat.le_of_ble_eq_true rfl, Nat.le_of_ble_eq_true rfl, Nat.le_of_ble_eq_true rfl⟩ rfl hl.1 rfl (Nat.le_of_ble_eq_true rfl) d_Me_write_2) hP hD hS hA [0, 1] [2] rfl rfl rfl (by decide) (fun r u H locs hq1 hP hD hS => ?_)
  subst hq1
  have hP : va_P D zC [(pa, .inl (cB, pn, .inl (pf))), (h0, .inr (1, [.int (nI md), .int (nI bt), .int (nI lo), .int (nI nl), .ref sa, .ref ta, .ref fa, .ref pa, .int (nI pe), .ref ba])), (ta, .inl (cI, rn, .inl (tf)))] H := hP
  have hD : va_D A [(pa, .inl (cB, pn, .inl (pf))), (h0, .inr (1, [.int (nI md), .int (nI bt), .int (nI lo), .int (nI nl), .ref sa, .ref ta, .ref fa, .ref pa, .int (nI pe), .ref ba])), (ta, .inl (cI, rn, .inl (tf)))] := hD
  refine z_st (st' := [.int (nI a0)]) (by rw [show (((sp_Me_spot ad tf)) : Int32) = nI a0 from hat]) ?_
  refine lv_istore (lv' := [(4, .int (nI a0)), (0, .ref h0), (1, .int ad), (2, .int n0), (3, .int v)]) hx hb d_Me_write_5 hl (by decide) rfl (fun ls hl => ?_)
  refine lv_iconst (v := 0) hx hb d_Me_write_7 (by decide) ?_
  refine lv_istore (lv' := [(5, .int 0), (4, .int (nI a0)), (0, .ref h0), (1, .int ad), (2, .int n0), (3, .int v)]) hx hb d_Me_write_8 hl (by decide) rfl (fun ls hl => ?_)
  rw [show ((pf) : Nat → Int32) = zwt pf a0 0 v from (zwt_0 pf a0 v).symm] at hP hD
  have hP : va_P D zC [(pa, .inl (cB, pn, .inl (zwt pf a0 0 v))), (h0, .inr (1, [.int (nI md), .int (nI bt), .int (nI lo), .int (nI nl), .ref sa, .ref ta, .ref fa, .ref pa, .int (nI pe), .ref ba])), (ta, .inl (cI, rn, .inl (tf)))] H := hP
  have hD : va_D A [(pa, .inl (cB, pn, .inl (zwt pf a0 0 v))), (h0, .inr (1, [.int (nI md), .int (nI bt), .int (nI lo), .int (nI nl), .ref sa, .ref ta, .ref fa, .ref pa, .int (nI pe), .ref ba])), (ta, .inl (cI, rn, .inl (tf)))] := hD
  have hP := hP.sub (ws' := [(h0, .inr (1, [.int (nI md), .int (nI bt), .int (nI lo), .int (nI nl), .ref sa, .ref ta, .ref fa, .ref pa, .int (nI pe), .ref ba])), (ta, .inl (cI, rn, .inl (tf))), (pa, .inl (cB, pn, .inl (zwt pf a0 0 v)))]) [1, 2, 0] rfl
  have hD := hD.sub (ws' := [(h0, .inr (1, [.int (nI md), .int (nI bt), .int (nI lo), .int (nI nl), .ref sa, .ref ta, .ref fa, .ref pa, .int (nI pe), .ref ba])), (ta, .inl (cI, rn, .inl (tf))), (pa, .inl (cB, pn, .inl (zwt pf a0 0 v)))]) [1, 2, 0] rfl rfl
  refine zloopH (σ := Nat) (fun j x ls H locs cells slots => (x + j = k0 ∧ cells = 0 ∧ slots = 0) ∧ lv_has ls 6 [(5, .int (nI x)), (4, .int (nI a0)), (0, .ref h0), (1, .int ad), (2, .int n0), (3, .int v)] ∧ va_P D zC [(h0, .inr (1, [.int (nI md), .int (nI bt), .int (nI lo), .int (nI nl), .ref sa, .ref ta, .ref fa, .ref pa, .int (nI pe), .ref ba])), (ta, .inl (cI, rn, .inl (tf))), (pa, .inl (cB, pn, .inl (zwt pf a0 x v)))] H ∧ va_D A [(h0, .inr (1, [.int (nI md), .int (nI bt), .int (nI lo), .int (nI nl), .ref sa, .ref ta, .ref fa, .ref pa, .int (nI pe), .ref ba])), (ta, .inl (cI, rn, .inl (tf))), (pa, .inl (cB, pn, .inl (zwt pf a0 x v)))] ∧ va_S A s.heap H locs) (fun j x ls H locs cells slots hI ih => ?_) k0 0 ls ⟨⟨by omega, rfl, rfl⟩, hl, hP, hD, hS⟩
  obtain ⟨⟨hj, rfl, rfl⟩, hl, hP, hD, hS⟩ := hI
  refine lv_iload hx hb d_Me_write_10 (lv_at hl 0 rfl) ?_
  refine lv_iload_n hx hb d_Me_write_12 rfl (lv_at hl 4 rfl) ?_
  refine lv_icmp_ge (tgt := 40) hx hb d_Me_write_13 (by decide) (fun h2 => ?_) (fun h2 => ?_)
  · have hx0 : x = k0 := by have := z_le' (by omega) (show nI k0 ≤ nI x by rw [← hk]; exact h2); omega
    subst hx0
    have hP9 := hP.sub (ws' := [(h0, .inr (1, [.int (nI md), .int (nI bt), .int (nI lo), .int (nI nl), .ref sa, .ref ta, .ref fa, .ref pa, .int (nI pe), .ref ba])), (ta, .inl (cI, rn, .inl (tf))), (pa, .inl (cB, pn, .inl (zwt pf a0 x v)))]) [0, 1, 2] rfl
    have hD9 := hD.sub (ws' := [(h0, .inr (1, [.int (nI md), .int (nI bt), .int (nI lo), .int (nI nl), .ref sa, .ref ta, .ref fa, .ref pa, .int (nI pe), .ref ba])), (ta, .inl (cI, rn, .inl (tf))), (pa, .inl (cB, pn, .inl (zwt pf a0 x v)))]) [0, 1, 2] rfl rfl
    exact zretv hx hb hr hlocks hS () trivial rfl hP9 hD9 d_Me_write_40
  · have hlt : x < k0 := z_nle' (by omega) (by rw [← hk]; exact h2)
    refine lv_aload_n hx hb d_Me_write_16 rfl (lv_at hl 2 rfl) ?_
    refine zget hE hK hP 0 rfl fd_Me_19 rfl d_Me_write_17 ?_
    refine lv_iload hx hb d_Me_write_20 (lv_at hl 1 rfl) ?_
    refine lv_iload hx hb d_Me_write_22 (lv_at hl 0 rfl) ?_
    refine lv_iadd hx hb d_Me_write_24 ?_
    refine z_st (st' := [.int (nI (a0 + x)), .ref pa]) (by rw [show (((nI a0) + (nI x)) : Int32) = nI (a0 + x) from nI_add a0 x]) ?_
    refine lv_iload_n hx hb d_Me_write_25 rfl (lv_at hl 5 rfl) ?_
    refine lv_bipush (v := 8) hx hb d_Me_write_26 (by decide) ?_
    refine lv_iload hx hb d_Me_write_28 (lv_at hl 0 rfl) ?_
    refine lv_imul hx hb d_Me_write_30 ?_
    refine lv_ishr hx hb d_Me_write_31 ?_
    refine lv_i2b (v := ((v : Int32) >>> ((8 * (nI x) : Int32) &&& 31) : Int32).toInt8.toInt32) hx hb d_Me_write_32 rfl ?_
    refine va_bast hx hb hK hP hD hS 2 1 rfl rfl (vp_in_nI (by omega) (by omega)) d_Me_write_33 (fun H locs hP hD hS => ?_)
    have hP : va_P D zC [(h0, .inr (1, [.int (nI md), .int (nI bt), .int (nI lo), .int (nI nl), .ref sa, .ref ta, .ref fa, .ref pa, .int (nI pe), .ref ba])), (ta, .inl (cI, rn, .inl (tf))), (pa, .inl (cB, pn, .inl (upd (zwt pf a0 x v) (nI (a0 + x)).toNatClampNeg (vp_nar .byte (((v : Int32) >>> ((8 * (nI x) : Int32) &&& 31) : Int32).toInt8.toInt32)))))] H := hP
    have hD : va_D A [(h0, .inr (1, [.int (nI md), .int (nI bt), .int (nI lo), .int (nI nl), .ref sa, .ref ta, .ref fa, .ref pa, .int (nI pe), .ref ba])), (ta, .inl (cI, rn, .inl (tf))), (pa, .inl (cB, pn, .inl (upd (zwt pf a0 x v) (nI (a0 + x)).toNatClampNeg (vp_nar .byte (((v : Int32) >>> ((8 * (nI x) : Int32) &&& 31) : Int32).toInt8.toInt32)))))] := hD
    rw [show ((upd (zwt pf a0 x v) (nI (a0 + x)).toNatClampNeg (vp_nar .byte (((v : Int32) >>> ((8 * (nI x) : Int32) &&& 31) : Int32).toInt8.toInt32))) : Nat → Int32) = upd (zwt pf a0 x v) (a0 + x) ((v >>> ((8 * nI x) &&& 31)).toInt8.toInt32) from by rw [nI_clamp (by omega), pk_vb]] at hP hD
    have hP : va_P D zC [(h0, .inr (1, [.int (nI md), .int (nI bt), .int (nI lo), .int (nI nl), .ref sa, .ref ta, .ref fa, .ref pa, .int (nI pe), .ref ba])), (ta, .inl (cI, rn, .inl (tf))), (pa, .inl (cB, pn, .inl (upd (zwt pf a0 x v) (a0 + x) ((v >>> ((8 * nI x) &&& 31)).toInt8.toInt32))))] H := hP
    have hD : va_D A [(h0, .inr (1, [.int (nI md), .int (nI bt), .int (nI lo), .int (nI nl), .ref sa, .ref ta, .ref fa, .ref pa, .int (nI pe), .ref ba])), (ta, .inl (cI, rn, .inl (tf))), (pa, .inl (cB, pn, .inl (upd (zwt pf a0 x v) (a0 + x) ((v >>> ((8 * nI x) &&& 31)).toInt8.toInt32))))] := hD
    refine lv_iinc (k := 0) (v := (nI x) + 1) (lv' := [(5, .int ((nI x) + 1)), (4, .int (nI a0)), (0, .ref h0), (1, .int ad), (2, .int n0), (3, .int v)]) hx hb d_Me_write_34 hl rfl rfl (by decide) rfl (fun ls hl => ?_)
    refine lv_goto (tgt := 10) hx hb d_Me_write_37 (by decide) ?_
    rw [nI_1] at hl
    rw [show ((upd (zwt pf a0 x v) (a0 + x) ((v >>> ((8 * nI x) &&& 31)).toInt8.toInt32)) : Nat → Int32) = zwt pf a0 (x + 1) v from zwt_s pf a0 x v] at hP hD
    have hP : va_P D zC [(h0, .inr (1, [.int (nI md), .int (nI bt), .int (nI lo), .int (nI nl), .ref sa, .ref ta, .ref fa, .ref pa, .int (nI pe), .ref ba])), (ta, .inl (cI, rn, .inl (tf))), (pa, .inl (cB, pn, .inl (zwt pf a0 (x + 1) v)))] H := hP
    have hD : va_D A [(h0, .inr (1, [.int (nI md), .int (nI bt), .int (nI lo), .int (nI nl), .ref sa, .ref ta, .ref fa, .ref pa, .int (nI pe), .ref ba])), (ta, .inl (cI, rn, .inl (tf))), (pa, .inl (cB, pn, .inl (zwt pf a0 (x + 1) v)))] := hD
    exact ih (j - 1) (x + 1) ls H locs 0 0 (by omega) ⟨⟨by omega, rfl, rfl⟩, hl, hP, hD, hS⟩

set_option maxHeartbeats 4000000 in
theorem c_Me_copy (l : Launch) (D : va_G) (cI cB cJ : ClassId) (sz : Nat) (ad : Int32) (bd : Int32) (n0 : Int32) (h0 : Nat) (md : Nat) (bt : Nat) (lo : Nat) (nl : Nat) (sa : Nat) (ta : Nat) (fa : Nat) (pa : Nat) (pe : Nat) (ba : Nat) (rn : Nat) (tf : Nat → Int32) (pn : Nat) (pf : Nat → Int32) (a0 : Nat) (b0 : Nat) (k0 : Nat) (had : zN ad / 65536 < rn) (hbd : zN bd / 65536 < rn) (hrm : rn ≤ 8001) (hat : sp_Me_spot ad tf = nI a0) (hbt : sp_Me_spot bd tf = nI b0) (hk : n0 = nI k0) (hak : a0 + k0 ≤ pn) (hbk : b0 + k0 ≤ pn) (hpn : pn ≤ 80000) (hft : ∀ i, i < pn → fits .byte (.int (pf i)) = true) : zMet l y_Me_copy (zWs y_Me_copy b_Me_copy 4 (none)) { frames := 1, cells := 0, slots := 0, locals := 60 } (zPc D (zT cI cB cJ) sz [(h0, .inr (1, [.int (nI md), .int (nI bt), .int (nI lo), .int (nI nl), .ref sa, .ref ta, .ref fa, .ref pa, .int (nI pe), .ref ba])), (ta, .inl (cI, rn, .inl (tf))), (pa, .inl (cB, pn, .inl (pf)))] [.ref h0, .int ad, .int bd, .int n0]) (zQv D (va_A [(h0, .inr (1, [.int (nI md), .int (nI bt), .int (nI lo), .int (nI nl), .ref sa, .ref ta, .ref fa, .ref pa, .int (nI pe), .ref ba])), (ta, .inl (cI, rn, .inl (tf))), (pa, .inl (cB, pn, .inl (pf)))] sz) (fun (_ : Unit) => True) (z0) (fun _ => [(h0, .inr (1, [.int (nI md), .int (nI bt), .int (nI lo), .int (nI nl), .ref sa, .ref ta, .ref fa, .ref pa, .int (nI pe), .ref ba])), (ta, .inl (cI, rn, .inl (tf))), (pa, .inl (cB, pn, .inl (va_cpy pf pf b0 a0 k0)))])) (va_A [(h0, .inr (1, [.int (nI md), .int (nI bt), .int (nI lo), .int (nI nl), .ref sa, .ref ta, .ref fa, .ref pa, .int (nI pe), .ref ba])), (ta, .inl (cI, rn, .inl (tf))), (pa, .inl (cB, pn, .inl (pf)))] sz) := by
  refine zstart (Qc := fun A => zQv D A (fun (_ : Unit) => True) (z0) (fun _ => [(h0, .inr (1, [.int (nI md), .int (nI bt), .int (nI lo), .int (nI nl), .ref sa, .ref ta, .ref fa, .ref pa, .int (nI pe), .ref ba])), (ta, .inl (cI, rn, .inl (tf))), (pa, .inl (cB, pn, .inl (va_cpy pf pf b0 a0 k0)))])) (by decide) (Nat.le_of_ble_eq_true rfl) ?_
  intro p e s m below meth c ls A hE hr hlocks hin hsz hK hP hD hS hA hAe hl
  have hx := hE.1
  have hb := hE.2.1
  have hown := hE.2.2.2.1
  have hw := hE.2.2.2.2
  have hl : lv_has ls 4 [(0, .ref h0), (1, .int ad), (2, .int bd), (3, .int n0)] := hl
  refine lv_aload_n hx hb d_Me_copy_0 rfl (lv_at hl 0 rfl) ?_
  refine zget hE hK hP 0 rfl fd_Me_19 rfl d_Me_copy_1 ?_
  refine lv_aload_n hx hb d_Me_copy_4 rfl (lv_at hl 0 rfl) ?_
  refine lv_iload_n hx hb d_Me_copy_5 rfl (lv_at hl 2 rfl) ?_
  refine zgoi (wr := [(pa, .inl (cB, pn, .inl (pf)))]) (zrunV (n := 1) (As := [.int bd]) (rest := [.ref pa]) hE (c_Me_spot l D cI cB cJ _ bd h0 md bt lo nl sa ta fa pa pe ba rn tf hbd hrm) cb_Me_spot lk_Me_91 in_Me_spot se_Me_spot (zpreV (q0 := 0) hK hP hD rfl rfl rfl [0, 1] rfl rfl rfl) ⟨Nat.le_of_ble_eq_true rfl, Nat.le_of_ble_eq_true rfl, Nat.le_of_ble_eq_true rfl, Nat.le_of_ble_eq_true rfl⟩ rfl hl.1 rfl (Nat.le_of_ble_eq_true rfl) d_Me_copy_6) hP hD hS hA [0, 1] [2] rfl rfl rfl (by decide) (fun r u H locs hq1 hP hD hS => ?_)
  subst hq1
  have hP : va_P D zC [(pa, .inl (cB, pn, .inl (pf))), (h0, .inr (1, [.int (nI md), .int (nI bt), .int (nI lo), .int (nI nl), .ref sa, .ref ta, .ref fa, .ref pa, .int (nI pe), .ref ba])), (ta, .inl (cI, rn, .inl (tf)))] H := hP
  have hD : va_D A [(pa, .inl (cB, pn, .inl (pf))), (h0, .inr (1, [.int (nI md), .int (nI bt), .int (nI lo), .int (nI nl), .ref sa, .ref ta, .ref fa, .ref pa, .int (nI pe), .ref ba])), (ta, .inl (cI, rn, .inl (tf)))] := hD
  refine z_st (st' := [.int (nI b0), .ref pa]) (by rw [show (((sp_Me_spot bd tf)) : Int32) = nI b0 from hbt]) ?_
  refine lv_aload_n hx hb d_Me_copy_9 rfl (lv_at hl 0 rfl) ?_
  refine zget hE hK hP 1 rfl fd_Me_19 rfl d_Me_copy_10 ?_
  refine lv_aload_n hx hb d_Me_copy_13 rfl (lv_at hl 0 rfl) ?_
  refine lv_iload_n hx hb d_Me_copy_14 rfl (lv_at hl 1 rfl) ?_
  refine zgoi (wr := [(pa, .inl (cB, pn, .inl (pf)))]) (zrunV (n := 1) (As := [.int ad]) (rest := [.ref pa, .int (nI b0), .ref pa]) hE (c_Me_spot l D cI cB cJ _ ad h0 md bt lo nl sa ta fa pa pe ba rn tf had hrm) cb_Me_spot lk_Me_91 in_Me_spot se_Me_spot (zpreV (q0 := 1) hK hP hD rfl rfl rfl [1, 2] rfl rfl rfl) ⟨Nat.le_of_ble_eq_true rfl, Nat.le_of_ble_eq_true rfl, Nat.le_of_ble_eq_true rfl, Nat.le_of_ble_eq_true rfl⟩ rfl hl.1 rfl (Nat.le_of_ble_eq_true rfl) d_Me_copy_15) hP hD hS hA [1, 2] [0] rfl rfl rfl (by decide) (fun r u H locs hq2 hP hD hS => ?_)
  subst hq2
  have hP : va_P D zC [(pa, .inl (cB, pn, .inl (pf))), (h0, .inr (1, [.int (nI md), .int (nI bt), .int (nI lo), .int (nI nl), .ref sa, .ref ta, .ref fa, .ref pa, .int (nI pe), .ref ba])), (ta, .inl (cI, rn, .inl (tf)))] H := hP
  have hD : va_D A [(pa, .inl (cB, pn, .inl (pf))), (h0, .inr (1, [.int (nI md), .int (nI bt), .int (nI lo), .int (nI nl), .ref sa, .ref ta, .ref fa, .ref pa, .int (nI pe), .ref ba])), (ta, .inl (cI, rn, .inl (tf)))] := hD
  refine z_st (st' := [.int (nI a0), .ref pa, .int (nI b0), .ref pa]) (by rw [show (((sp_Me_spot ad tf)) : Int32) = nI a0 from hat]) ?_
  refine lv_iload_n hx hb d_Me_copy_18 rfl (lv_at hl 3 rfl) ?_
  refine z_st (st' := [.int (nI k0), .int (nI a0), .ref pa, .int (nI b0), .ref pa]) (by rw [show ((n0) : Int32) = nI k0 from hk]) ?_
  refine va_copyi (R := { frames := 1, cells := 0, slots := 0, locals := 60 }) (ty := .byte) (rest := []) hx hb (hE.2.2.1.trans hl.1.symm) hown (hw _ sl_Me) (hw _ sy_nat) (hw _ sy_st) (hw _ sy_ini) hK hP hD hS 0 0 1 1 rfl rfl rfl rfl rfl (nI_pos (n := b0) (by omega)) (nI_pos (n := a0) (by omega)) (nI_pos (n := k0) (by omega)) (by rw [nI_clamp (by omega), nI_clamp (by omega)]; omega) (by rw [nI_clamp (by omega), nI_clamp (by omega)]; omega) (fun i hi => by rw [nI_clamp (by omega)] at hi ⊢; exact hft _ (by omega)) (by exact Nat.le_of_ble_eq_true rfl) (by exact Nat.le_of_ble_eq_true rfl) d_Me_copy_19 (fun H locs hP hD hS => ?_)
  have hP : va_P D zC [(pa, .inl (cB, pn, .inl (va_cpy pf pf (nI b0).toNatClampNeg (nI a0).toNatClampNeg (nI k0).toNatClampNeg))), (h0, .inr (1, [.int (nI md), .int (nI bt), .int (nI lo), .int (nI nl), .ref sa, .ref ta, .ref fa, .ref pa, .int (nI pe), .ref ba])), (ta, .inl (cI, rn, .inl (tf)))] H := hP
  have hD : va_D A [(pa, .inl (cB, pn, .inl (va_cpy pf pf (nI b0).toNatClampNeg (nI a0).toNatClampNeg (nI k0).toNatClampNeg))), (h0, .inr (1, [.int (nI md), .int (nI bt), .int (nI lo), .int (nI nl), .ref sa, .ref ta, .ref fa, .ref pa, .int (nI pe), .ref ba])), (ta, .inl (cI, rn, .inl (tf)))] := hD
  rw [show ((va_cpy pf pf (nI b0).toNatClampNeg (nI a0).toNatClampNeg (nI k0).toNatClampNeg) : Nat → Int32) = va_cpy pf pf b0 a0 k0 from by rw [nI_clamp (by omega), nI_clamp (by omega), nI_clamp (by omega)]] at hP hD
  have hP : va_P D zC [(pa, .inl (cB, pn, .inl (va_cpy pf pf b0 a0 k0))), (h0, .inr (1, [.int (nI md), .int (nI bt), .int (nI lo), .int (nI nl), .ref sa, .ref ta, .ref fa, .ref pa, .int (nI pe), .ref ba])), (ta, .inl (cI, rn, .inl (tf)))] H := hP
  have hD : va_D A [(pa, .inl (cB, pn, .inl (va_cpy pf pf b0 a0 k0))), (h0, .inr (1, [.int (nI md), .int (nI bt), .int (nI lo), .int (nI nl), .ref sa, .ref ta, .ref fa, .ref pa, .int (nI pe), .ref ba])), (ta, .inl (cI, rn, .inl (tf)))] := hD
  have hP9 := hP.sub (ws' := [(h0, .inr (1, [.int (nI md), .int (nI bt), .int (nI lo), .int (nI nl), .ref sa, .ref ta, .ref fa, .ref pa, .int (nI pe), .ref ba])), (ta, .inl (cI, rn, .inl (tf))), (pa, .inl (cB, pn, .inl (va_cpy pf pf b0 a0 k0)))]) [1, 2, 0] rfl
  have hD9 := hD.sub (ws' := [(h0, .inr (1, [.int (nI md), .int (nI bt), .int (nI lo), .int (nI nl), .ref sa, .ref ta, .ref fa, .ref pa, .int (nI pe), .ref ba])), (ta, .inl (cI, rn, .inl (tf))), (pa, .inl (cB, pn, .inl (va_cpy pf pf b0 a0 k0)))]) [1, 2, 0] rfl rfl
  exact zretv hx hb hr hlocks hS () trivial rfl hP9 hD9 d_Me_copy_22

set_option maxHeartbeats 4000000 in
theorem c_Me_forgetAll (l : Launch) (D : va_G) (cI cB cJ : ClassId) (sz : Nat) (h0 : Nat) (md : Nat) (bt : Nat) (lo : Nat) (nl : Nat) (sa : Nat) (ta : Nat) (fa : Nat) (pa : Nat) (pe : Nat) (ba : Nat) : zMet l y_Me_forgetAll (zWs y_Me_forgetAll b_Me_forgetAll 1 (none)) { frames := 0, cells := 0, slots := 0, locals := 0 } (zPc D (zT cI cB cJ) sz [(h0, .inr (1, [.int (nI md), .int (nI bt), .int (nI lo), .int (nI nl), .ref sa, .ref ta, .ref fa, .ref pa, .int (nI pe), .ref ba]))] [.ref h0]) (zQv D (va_A [(h0, .inr (1, [.int (nI md), .int (nI bt), .int (nI lo), .int (nI nl), .ref sa, .ref ta, .ref fa, .ref pa, .int (nI pe), .ref ba]))] sz) (fun (_ : Unit) => True) (z0) (fun _ => [(h0, .inr (1, [.int (nI 0), .int (nI 0), .int (nI 0), .int (nI 0), .ref sa, .ref ta, .ref fa, .ref pa, .int (nI 0), .ref ba]))])) (va_A [(h0, .inr (1, [.int (nI md), .int (nI bt), .int (nI lo), .int (nI nl), .ref sa, .ref ta, .ref fa, .ref pa, .int (nI pe), .ref ba]))] sz) := by
  refine zstart (Qc := fun A => zQv D A (fun (_ : Unit) => True) (z0) (fun _ => [(h0, .inr (1, [.int (nI 0), .int (nI 0), .int (nI 0), .int (nI 0), .ref sa, .ref ta, .ref fa, .ref pa, .int (nI 0), .ref ba]))])) (by decide) (Nat.le_of_ble_eq_true rfl) ?_
  intro p e s m below meth c ls A hE hr hlocks hin hsz hK hP hD hS hA hAe hl
  have hx := hE.1
  have hb := hE.2.1
  have hown := hE.2.2.2.1
  have hw := hE.2.2.2.2
  have hl : lv_has ls 1 [(0, .ref h0)] := hl
  refine lv_aload_n hx hb d_Me_forgetAll_0 rfl (lv_at hl 0 rfl) ?_
  refine lv_iconst (v := 0) hx hb d_Me_forgetAll_1 (by decide) ?_
  refine zput (v := .int 0) hE hK hP hD hS 0 rfl fd_Me_26 ft_Me_0 rfl rfl (Nat.le_of_ble_eq_true rfl) d_Me_forgetAll_2 (fun H locs hP hD hS => ?_)
  have hP : va_P D zC [(h0, .inr (1, [.int 0, .int (nI bt), .int (nI lo), .int (nI nl), .ref sa, .ref ta, .ref fa, .ref pa, .int (nI pe), .ref ba]))] H := hP
  have hD : va_D A [(h0, .inr (1, [.int 0, .int (nI bt), .int (nI lo), .int (nI nl), .ref sa, .ref ta, .ref fa, .ref pa, .int (nI pe), .ref ba]))] := hD
  refine lv_aload_n hx hb d_Me_forgetAll_5 rfl (lv_at hl 0 rfl) ?_
  refine lv_iconst (v := 0) hx hb d_Me_forgetAll_6 (by decide) ?_
  refine zput (v := .int 0) hE hK hP hD hS 0 rfl fd_Me_30 ft_Me_1 rfl rfl (Nat.le_of_ble_eq_true rfl) d_Me_forgetAll_7 (fun H locs hP hD hS => ?_)
  have hP : va_P D zC [(h0, .inr (1, [.int 0, .int 0, .int (nI lo), .int (nI nl), .ref sa, .ref ta, .ref fa, .ref pa, .int (nI pe), .ref ba]))] H := hP
  have hD : va_D A [(h0, .inr (1, [.int 0, .int 0, .int (nI lo), .int (nI nl), .ref sa, .ref ta, .ref fa, .ref pa, .int (nI pe), .ref ba]))] := hD
  refine lv_aload_n hx hb d_Me_forgetAll_10 rfl (lv_at hl 0 rfl) ?_
  refine lv_iconst (v := 0) hx hb d_Me_forgetAll_11 (by decide) ?_
  refine zput (v := .int 0) hE hK hP hD hS 0 rfl fd_Me_33 ft_Me_2 rfl rfl (Nat.le_of_ble_eq_true rfl) d_Me_forgetAll_12 (fun H locs hP hD hS => ?_)
  have hP : va_P D zC [(h0, .inr (1, [.int 0, .int 0, .int 0, .int (nI nl), .ref sa, .ref ta, .ref fa, .ref pa, .int (nI pe), .ref ba]))] H := hP
  have hD : va_D A [(h0, .inr (1, [.int 0, .int 0, .int 0, .int (nI nl), .ref sa, .ref ta, .ref fa, .ref pa, .int (nI pe), .ref ba]))] := hD
  refine lv_aload_n hx hb d_Me_forgetAll_15 rfl (lv_at hl 0 rfl) ?_
  refine lv_iconst (v := 0) hx hb d_Me_forgetAll_16 (by decide) ?_
  refine zput (v := .int 0) hE hK hP hD hS 0 rfl fd_Me_36 ft_Me_3 rfl rfl (Nat.le_of_ble_eq_true rfl) d_Me_forgetAll_17 (fun H locs hP hD hS => ?_)
  have hP : va_P D zC [(h0, .inr (1, [.int 0, .int 0, .int 0, .int 0, .ref sa, .ref ta, .ref fa, .ref pa, .int (nI pe), .ref ba]))] H := hP
  have hD : va_D A [(h0, .inr (1, [.int 0, .int 0, .int 0, .int 0, .ref sa, .ref ta, .ref fa, .ref pa, .int (nI pe), .ref ba]))] := hD
  refine lv_aload_n hx hb d_Me_forgetAll_20 rfl (lv_at hl 0 rfl) ?_
  refine lv_iconst (v := 0) hx hb d_Me_forgetAll_21 (by decide) ?_
  refine zput (v := .int 0) hE hK hP hD hS 0 rfl fd_Me_39 ft_Me_8 rfl rfl (Nat.le_of_ble_eq_true rfl) d_Me_forgetAll_22 (fun H locs hP hD hS => ?_)
  have hP : va_P D zC [(h0, .inr (1, [.int 0, .int 0, .int 0, .int 0, .ref sa, .ref ta, .ref fa, .ref pa, .int 0, .ref ba]))] H := hP
  have hD : va_D A [(h0, .inr (1, [.int 0, .int 0, .int 0, .int 0, .ref sa, .ref ta, .ref fa, .ref pa, .int 0, .ref ba]))] := hD
  have hP9 := hP.sub (ws' := [(h0, .inr (1, [.int 0, .int 0, .int 0, .int 0, .ref sa, .ref ta, .ref fa, .ref pa, .int 0, .ref ba]))]) [0] rfl
  have hD9 := hD.sub (ws' := [(h0, .inr (1, [.int 0, .int 0, .int 0, .int 0, .ref sa, .ref ta, .ref fa, .ref pa, .int 0, .ref ba]))]) [0] rfl rfl
  exact zretv hx hb hr hlocks hS () trivial rfl hP9 hD9 d_Me_forgetAll_25
