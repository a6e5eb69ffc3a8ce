/-! decode rows -/
theorem d_Rv_load_0 : decode b_Rv_load 0 = .ok (.iload_n 1, 1) := by decide +kernel
theorem d_Rv_load_1 : decode b_Rv_load 1 = .ok (.invokestatic 147, 3) := by decide +kernel
theorem d_Rv_load_4 : decode b_Rv_load 4 = .ok (.istore_n 2, 1) := by decide +kernel
theorem d_Rv_load_5 : decode b_Rv_load 5 = .ok (.iload_n 2, 1) := by decide +kernel
theorem d_Rv_load_6 : decode b_Rv_load 6 = .ok (.iconst 3, 1) := by decide +kernel
theorem d_Rv_load_7 : decode b_Rv_load 7 = .ok (.if_icmp .eq 8, 3) := by decide +kernel
theorem d_Rv_load_10 : decode b_Rv_load 10 = .ok (.iload_n 2, 1) := by decide +kernel
theorem d_Rv_load_11 : decode b_Rv_load 11 = .ok (.iconst 5, 1) := by decide +kernel
theorem d_Rv_load_12 : decode b_Rv_load 12 = .ok (.if_icmp .le 5, 3) := by decide +kernel
theorem d_Rv_load_15 : decode b_Rv_load 15 = .ok (.iconst 1, 1) := by decide +kernel
theorem d_Rv_load_16 : decode b_Rv_load 16 = .ok (.ireturn, 1) := by decide +kernel
theorem d_Rv_load_17 : decode b_Rv_load 17 = .ok (.aload_n 0, 1) := by decide +kernel
theorem d_Rv_load_18 : decode b_Rv_load 18 = .ok (.iload_n 1, 1) := by decide +kernel
theorem d_Rv_load_19 : decode b_Rv_load 19 = .ok (.invokevirtual 158, 3) := by decide +kernel
theorem d_Rv_load_22 : decode b_Rv_load 22 = .ok (.iload_n 1, 1) := by decide +kernel
theorem d_Rv_load_23 : decode b_Rv_load 23 = .ok (.bipush 20, 2) := by decide +kernel
theorem d_Rv_load_25 : decode b_Rv_load 25 = .ok (.ishr, 1) := by decide +kernel
theorem d_Rv_load_26 : decode b_Rv_load 26 = .ok (.iadd, 1) := by decide +kernel
theorem d_Rv_load_27 : decode b_Rv_load 27 = .ok (.istore_n 3, 1) := by decide +kernel
theorem d_Rv_load_28 : decode b_Rv_load 28 = .ok (.iconst 1, 1) := by decide +kernel
theorem d_Rv_load_29 : decode b_Rv_load 29 = .ok (.iload_n 2, 1) := by decide +kernel
theorem d_Rv_load_30 : decode b_Rv_load 30 = .ok (.iconst 3, 1) := by decide +kernel
theorem d_Rv_load_31 : decode b_Rv_load 31 = .ok (.iand, 1) := by decide +kernel
theorem d_Rv_load_32 : decode b_Rv_load 32 = .ok (.ishl, 1) := by decide +kernel
theorem d_Rv_load_33 : decode b_Rv_load 33 = .ok (.istore 4, 2) := by decide +kernel
theorem d_Rv_load_35 : decode b_Rv_load 35 = .ok (.aload_n 0, 1) := by decide +kernel
theorem d_Rv_load_36 : decode b_Rv_load 36 = .ok (.getfield 19, 3) := by decide +kernel
theorem d_Rv_load_39 : decode b_Rv_load 39 = .ok (.iload_n 3, 1) := by decide +kernel
theorem d_Rv_load_40 : decode b_Rv_load 40 = .ok (.iload 4, 2) := by decide +kernel
theorem d_Rv_load_42 : decode b_Rv_load 42 = .ok (.invokevirtual 170, 3) := by decide +kernel
theorem d_Rv_load_45 : decode b_Rv_load 45 = .ok (.ifCond .ne 5, 3) := by decide +kernel
theorem d_Rv_load_48 : decode b_Rv_load 48 = .ok (.iconst 2, 1) := by decide +kernel
theorem d_Rv_load_49 : decode b_Rv_load 49 = .ok (.ireturn, 1) := by decide +kernel
theorem d_Rv_load_50 : decode b_Rv_load 50 = .ok (.aload_n 0, 1) := by decide +kernel
theorem d_Rv_load_51 : decode b_Rv_load 51 = .ok (.getfield 19, 3) := by decide +kernel
theorem d_Rv_load_54 : decode b_Rv_load 54 = .ok (.iload_n 3, 1) := by decide +kernel
theorem d_Rv_load_55 : decode b_Rv_load 55 = .ok (.iload 4, 2) := by decide +kernel
theorem d_Rv_load_57 : decode b_Rv_load 57 = .ok (.invokevirtual 78, 3) := by decide +kernel
theorem d_Rv_load_60 : decode b_Rv_load 60 = .ok (.istore 5, 2) := by decide +kernel
theorem d_Rv_load_62 : decode b_Rv_load 62 = .ok (.iload_n 2, 1) := by decide +kernel
theorem d_Rv_load_63 : decode b_Rv_load 63 = .ok (.lookupswitch 43 #[(0, 25), (1, 34)], 25) := by decide +kernel
theorem d_Rv_load_88 : decode b_Rv_load 88 = .ok (.aload_n 0, 1) := by decide +kernel
theorem d_Rv_load_89 : decode b_Rv_load 89 = .ok (.iload_n 1, 1) := by decide +kernel
theorem d_Rv_load_90 : decode b_Rv_load 90 = .ok (.iload 5, 2) := by decide +kernel
theorem d_Rv_load_92 : decode b_Rv_load 92 = .ok (.i2b, 1) := by decide +kernel
theorem d_Rv_load_93 : decode b_Rv_load 93 = .ok (.invokevirtual 120, 3) := by decide +kernel
theorem d_Rv_load_96 : decode b_Rv_load 96 = .ok (.ireturn, 1) := by decide +kernel
theorem d_Rv_load_97 : decode b_Rv_load 97 = .ok (.aload_n 0, 1) := by decide +kernel
theorem d_Rv_load_98 : decode b_Rv_load 98 = .ok (.iload_n 1, 1) := by decide +kernel
theorem d_Rv_load_99 : decode b_Rv_load 99 = .ok (.iload 5, 2) := by decide +kernel
theorem d_Rv_load_101 : decode b_Rv_load 101 = .ok (.i2s, 1) := by decide +kernel
theorem d_Rv_load_102 : decode b_Rv_load 102 = .ok (.invokevirtual 120, 3) := by decide +kernel
theorem d_Rv_load_105 : decode b_Rv_load 105 = .ok (.ireturn, 1) := by decide +kernel
theorem d_Rv_load_106 : decode b_Rv_load 106 = .ok (.aload_n 0, 1) := by decide +kernel
theorem d_Rv_load_107 : decode b_Rv_load 107 = .ok (.iload_n 1, 1) := by decide +kernel
theorem d_Rv_load_108 : decode b_Rv_load 108 = .ok (.iload 5, 2) := by decide +kernel
theorem d_Rv_load_110 : decode b_Rv_load 110 = .ok (.invokevirtual 120, 3) := by decide +kernel
theorem d_Rv_load_113 : decode b_Rv_load 113 = .ok (.ireturn, 1) := by decide +kernel
theorem d_Rv_store_0 : decode b_Rv_store 0 = .ok (.iload_n 1, 1) := by decide +kernel
theorem d_Rv_store_1 : decode b_Rv_store 1 = .ok (.invokestatic 147, 3) := by decide +kernel
theorem d_Rv_store_4 : decode b_Rv_store 4 = .ok (.istore_n 2, 1) := by decide +kernel
theorem d_Rv_store_5 : decode b_Rv_store 5 = .ok (.iload_n 2, 1) := by decide +kernel
theorem d_Rv_store_6 : decode b_Rv_store 6 = .ok (.iconst 2, 1) := by decide +kernel
theorem d_Rv_store_7 : decode b_Rv_store 7 = .ok (.if_icmp .le 5, 3) := by decide +kernel
theorem d_Rv_store_10 : decode b_Rv_store 10 = .ok (.iconst 1, 1) := by decide +kernel
theorem d_Rv_store_11 : decode b_Rv_store 11 = .ok (.ireturn, 1) := by decide +kernel
theorem d_Rv_store_12 : decode b_Rv_store 12 = .ok (.aload_n 0, 1) := by decide +kernel
theorem d_Rv_store_13 : decode b_Rv_store 13 = .ok (.iload_n 1, 1) := by decide +kernel
theorem d_Rv_store_14 : decode b_Rv_store 14 = .ok (.invokevirtual 158, 3) := by decide +kernel
theorem d_Rv_store_17 : decode b_Rv_store 17 = .ok (.iload_n 1, 1) := by decide +kernel
theorem d_Rv_store_18 : decode b_Rv_store 18 = .ok (.invokestatic 173, 3) := by decide +kernel
theorem d_Rv_store_21 : decode b_Rv_store 21 = .ok (.iadd, 1) := by decide +kernel
theorem d_Rv_store_22 : decode b_Rv_store 22 = .ok (.istore_n 3, 1) := by decide +kernel
theorem d_Rv_store_23 : decode b_Rv_store 23 = .ok (.iconst 1, 1) := by decide +kernel
theorem d_Rv_store_24 : decode b_Rv_store 24 = .ok (.iload_n 2, 1) := by decide +kernel
theorem d_Rv_store_25 : decode b_Rv_store 25 = .ok (.ishl, 1) := by decide +kernel
theorem d_Rv_store_26 : decode b_Rv_store 26 = .ok (.istore 4, 2) := by decide +kernel
theorem d_Rv_store_28 : decode b_Rv_store 28 = .ok (.aload_n 0, 1) := by decide +kernel
theorem d_Rv_store_29 : decode b_Rv_store 29 = .ok (.getfield 19, 3) := by decide +kernel
theorem d_Rv_store_32 : decode b_Rv_store 32 = .ok (.iload_n 3, 1) := by decide +kernel
theorem d_Rv_store_33 : decode b_Rv_store 33 = .ok (.iload 4, 2) := by decide +kernel
theorem d_Rv_store_35 : decode b_Rv_store 35 = .ok (.invokevirtual 170, 3) := by decide +kernel
theorem d_Rv_store_38 : decode b_Rv_store 38 = .ok (.ifCond .ne 5, 3) := by decide +kernel
theorem d_Rv_store_41 : decode b_Rv_store 41 = .ok (.iconst 2, 1) := by decide +kernel
theorem d_Rv_store_42 : decode b_Rv_store 42 = .ok (.ireturn, 1) := by decide +kernel
theorem d_Rv_store_43 : decode b_Rv_store 43 = .ok (.aload_n 0, 1) := by decide +kernel
theorem d_Rv_store_44 : decode b_Rv_store 44 = .ok (.getfield 19, 3) := by decide +kernel
theorem d_Rv_store_47 : decode b_Rv_store 47 = .ok (.iload_n 3, 1) := by decide +kernel
theorem d_Rv_store_48 : decode b_Rv_store 48 = .ok (.iload 4, 2) := by decide +kernel
theorem d_Rv_store_50 : decode b_Rv_store 50 = .ok (.aload_n 0, 1) := by decide +kernel
theorem d_Rv_store_51 : decode b_Rv_store 51 = .ok (.iload_n 1, 1) := by decide +kernel
theorem d_Rv_store_52 : decode b_Rv_store 52 = .ok (.invokevirtual 161, 3) := by decide +kernel
theorem d_Rv_store_55 : decode b_Rv_store 55 = .ok (.invokevirtual 176, 3) := by decide +kernel
theorem d_Rv_store_58 : decode b_Rv_store 58 = .ok (.iconst 0, 1) := by decide +kernel
theorem d_Rv_store_59 : decode b_Rv_store 59 = .ok (.ireturn, 1) := by decide +kernel
theorem d_Rv_peek_0 : decode b_Rv_peek 0 = .ok (.aload_n 0, 1) := by decide +kernel
theorem d_Rv_peek_1 : decode b_Rv_peek 1 = .ok (.getfield 19, 3) := by decide +kernel
theorem d_Rv_peek_4 : decode b_Rv_peek 4 = .ok (.iload_n 1, 1) := by decide +kernel
theorem d_Rv_peek_5 : decode b_Rv_peek 5 = .ok (.iconst 1, 1) := by decide +kernel
theorem d_Rv_peek_6 : decode b_Rv_peek 6 = .ok (.invokevirtual 74, 3) := by decide +kernel
theorem d_Rv_peek_9 : decode b_Rv_peek 9 = .ok (.ifCond .eq 15, 3) := by decide +kernel
theorem d_Rv_peek_12 : decode b_Rv_peek 12 = .ok (.aload_n 0, 1) := by decide +kernel
theorem d_Rv_peek_13 : decode b_Rv_peek 13 = .ok (.getfield 19, 3) := by decide +kernel
theorem d_Rv_peek_16 : decode b_Rv_peek 16 = .ok (.iload_n 1, 1) := by decide +kernel
theorem d_Rv_peek_17 : decode b_Rv_peek 17 = .ok (.iconst 1, 1) := by decide +kernel
theorem d_Rv_peek_18 : decode b_Rv_peek 18 = .ok (.invokevirtual 78, 3) := by decide +kernel
theorem d_Rv_peek_21 : decode b_Rv_peek 21 = .ok (.goto 4, 3) := by decide +kernel
theorem d_Rv_peek_24 : decode b_Rv_peek 24 = .ok (.iconst (-1), 1) := by decide +kernel
theorem d_Rv_peek_25 : decode b_Rv_peek 25 = .ok (.ireturn, 1) := by decide +kernel
theorem d_Rv_copyBytes_0 : decode b_Rv_copyBytes 0 = .ok (.iload_n 3, 1) := by decide +kernel
theorem d_Rv_copyBytes_1 : decode b_Rv_copyBytes 1 = .ok (.ifCond .lt 10, 3) := by decide +kernel
theorem d_Rv_copyBytes_4 : decode b_Rv_copyBytes 4 = .ok (.iload_n 3, 1) := by decide +kernel
theorem d_Rv_copyBytes_5 : decode b_Rv_copyBytes 5 = .ok (.sipush 4000, 3) := by decide +kernel
theorem d_Rv_copyBytes_8 : decode b_Rv_copyBytes 8 = .ok (.if_icmp .le 5, 3) := by decide +kernel
theorem d_Rv_copyBytes_11 : decode b_Rv_copyBytes 11 = .ok (.iconst 4, 1) := by decide +kernel
theorem d_Rv_copyBytes_12 : decode b_Rv_copyBytes 12 = .ok (.ireturn, 1) := by decide +kernel
theorem d_Rv_copyBytes_13 : decode b_Rv_copyBytes 13 = .ok (.iload_n 3, 1) := by decide +kernel
theorem d_Rv_copyBytes_14 : decode b_Rv_copyBytes 14 = .ok (.ifCond .ne 5, 3) := by decide +kernel
theorem d_Rv_copyBytes_17 : decode b_Rv_copyBytes 17 = .ok (.iconst 0, 1) := by decide +kernel
theorem d_Rv_copyBytes_18 : decode b_Rv_copyBytes 18 = .ok (.ireturn, 1) := by decide +kernel
theorem d_Rv_copyBytes_19 : decode b_Rv_copyBytes 19 = .ok (.aload_n 0, 1) := by decide +kernel
theorem d_Rv_copyBytes_20 : decode b_Rv_copyBytes 20 = .ok (.getfield 19, 3) := by decide +kernel
theorem d_Rv_copyBytes_23 : decode b_Rv_copyBytes 23 = .ok (.iload_n 2, 1) := by decide +kernel
theorem d_Rv_copyBytes_24 : decode b_Rv_copyBytes 24 = .ok (.iload_n 3, 1) := by decide +kernel
theorem d_Rv_copyBytes_25 : decode b_Rv_copyBytes 25 = .ok (.invokevirtual 74, 3) := by decide +kernel
theorem d_Rv_copyBytes_28 : decode b_Rv_copyBytes 28 = .ok (.ifCond .eq 15, 3) := by decide +kernel
theorem d_Rv_copyBytes_31 : decode b_Rv_copyBytes 31 = .ok (.aload_n 0, 1) := by decide +kernel
theorem d_Rv_copyBytes_32 : decode b_Rv_copyBytes 32 = .ok (.getfield 19, 3) := by decide +kernel
theorem d_Rv_copyBytes_35 : decode b_Rv_copyBytes 35 = .ok (.iload_n 1, 1) := by decide +kernel
theorem d_Rv_copyBytes_36 : decode b_Rv_copyBytes 36 = .ok (.iload_n 3, 1) := by decide +kernel
theorem d_Rv_copyBytes_37 : decode b_Rv_copyBytes 37 = .ok (.invokevirtual 74, 3) := by decide +kernel
theorem d_Rv_copyBytes_40 : decode b_Rv_copyBytes 40 = .ok (.ifCond .ne 5, 3) := by decide +kernel
theorem d_Rv_copyBytes_43 : decode b_Rv_copyBytes 43 = .ok (.iconst 2, 1) := by decide +kernel
theorem d_Rv_copyBytes_44 : decode b_Rv_copyBytes 44 = .ok (.ireturn, 1) := by decide +kernel
theorem d_Rv_copyBytes_45 : decode b_Rv_copyBytes 45 = .ok (.aload_n 0, 1) := by decide +kernel
theorem d_Rv_copyBytes_46 : decode b_Rv_copyBytes 46 = .ok (.getfield 19, 3) := by decide +kernel
theorem d_Rv_copyBytes_49 : decode b_Rv_copyBytes 49 = .ok (.iload_n 1, 1) := by decide +kernel
theorem d_Rv_copyBytes_50 : decode b_Rv_copyBytes 50 = .ok (.iload_n 2, 1) := by decide +kernel
theorem d_Rv_copyBytes_51 : decode b_Rv_copyBytes 51 = .ok (.iload_n 3, 1) := by decide +kernel
theorem d_Rv_copyBytes_52 : decode b_Rv_copyBytes 52 = .ok (.invokevirtual 220, 3) := by decide +kernel
theorem d_Rv_copyBytes_55 : decode b_Rv_copyBytes 55 = .ok (.iconst 0, 1) := by decide +kernel
theorem d_Rv_copyBytes_56 : decode b_Rv_copyBytes 56 = .ok (.ireturn, 1) := by decide +kernel

def sp_Rv_load (w : Int32) (rg : Nat → Int32) (M : MM) : Int32 × (Nat → Int32) := if (sp_Rv_middle w) = 3 then (1, rg) else if (sp_Rv_middle w) ≤ 5 then
  if (mHsA M ((sp_Rv_firstOperand w rg) + ((w : Int32) >>> ((20 : Int32) &&& 31))) ((1 : Int32) <<< (((sp_Rv_middle w) &&& 3 : Int32) &&& 31))) = 0 then (2, rg) else if (sp_Rv_middle w) = 0 then ((sp_Rv_keep w ((mRd M ((sp_Rv_firstOperand w rg) + ((w : Int32) >>> ((20 : Int32) &&& 31))) ((1 : Int32) <<< (((sp_Rv_middle w) &&& 3 : Int32) &&& 31)) : Int32).toInt8.toInt32) rg).1, (sp_Rv_keep w ((mRd M ((sp_Rv_firstOperand w rg) + ((w : Int32) >>> ((20 : Int32) &&& 31))) ((1 : Int32) <<< (((sp_Rv_middle w) &&& 3 : Int32) &&& 31)) : Int32).toInt8.toInt32) rg).2) else if (sp_Rv_middle w) = 1 then ((sp_Rv_keep w ((mRd M ((sp_Rv_firstOperand w rg) + ((w : Int32) >>> ((20 : Int32) &&& 31))) ((1 : Int32) <<< (((sp_Rv_middle w) &&& 3 : Int32) &&& 31)) : Int32).toInt16.toInt32) rg).1, (sp_Rv_keep w ((mRd M ((sp_Rv_firstOperand w rg) + ((w : Int32) >>> ((20 : Int32) &&& 31))) ((1 : Int32) <<< (((sp_Rv_middle w) &&& 3 : Int32) &&& 31)) : Int32).toInt16.toInt32) rg).2) else ((sp_Rv_keep w (mRd M ((sp_Rv_firstOperand w rg) + ((w : Int32) >>> ((20 : Int32) &&& 31))) ((1 : Int32) <<< (((sp_Rv_middle w) &&& 3 : Int32) &&& 31))) rg).1, (sp_Rv_keep w (mRd M ((sp_Rv_firstOperand w rg) + ((w : Int32) >>> ((20 : Int32) &&& 31))) ((1 : Int32) <<< (((sp_Rv_middle w) &&& 3 : Int32) &&& 31))) rg).2)
else (1, rg)
set_option maxHeartbeats 4000000 in
theorem c_Rv_load (l : Launch) (D : va_G) (cI cB cJ : ClassId) (sz : Nat) (w : Int32) (x : Nat) (wa : Nat) (wc : Int32) (ra : Nat) (ma : Nat) (ua : Nat) (oa : Nat) (ph : Int32) (dn : Int32) (nx : Int32) (fo : Int32) (rg : Nat → Int32) (md : Nat) (bt : Nat) (lo : Nat) (nl : Nat) (sa : Nat) (ta : Nat) (fa : Nat) (pa : Nat) (pe : Nat) (ba : Nat) (rn : Nat) (sf : Nat → Int32) (tf : Nat → Int32) (pn : Nat) (pf : Nat → Int32) (M : MM) (uf : Nat → Int32) (hR : cRep M md bt nl pe rn pn sf tf uf pf) : zMet l y_Rv_load (zWs y_Rv_load b_Rv_load 6 (some .int)) { frames := 3, cells := 0, slots := 0, locals := 66 } (zPc D (zT cI cB cJ) sz [(x, .inr (0, [.ref wa, .int wc, .ref ra, .ref ma, .ref ua, .ref oa, .int ph, .int dn, .int nx, .int fo])), (ra, .inl (cI, 32, .inl (rg))), (ma, .inr (1, [.int (nI md), .int (nI bt), .int (nI lo), .int (nI nl), .ref sa, .ref ta, .ref fa, .ref pa, .int (nI pe), .ref ba])), (sa, .inl (cI, rn, .inl (sf))), (ta, .inl (cI, rn, .inl (tf))), (pa, .inl (cB, pn, .inl (pf)))] [.ref x, .int w]) (zQi D (va_A [(x, .inr (0, [.ref wa, .int wc, .ref ra, .ref ma, .ref ua, .ref oa, .int ph, .int dn, .int nx, .int fo])), (ra, .inl (cI, 32, .inl (rg))), (ma, .inr (1, [.int (nI md), .int (nI bt), .int (nI lo), .int (nI nl), .ref sa, .ref ta, .ref fa, .ref pa, .int (nI pe), .ref ba])), (sa, .inl (cI, rn, .inl (sf))), (ta, .inl (cI, rn, .inl (tf))), (pa, .inl (cB, pn, .inl (pf)))] sz) (fun r (_ : Unit) => r = (sp_Rv_load w rg M).1) (z0) (fun _ => [(x, .inr (0, [.ref wa, .int wc, .ref ra, .ref ma, .ref ua, .ref oa, .int ph, .int dn, .int nx, .int fo])), (ra, .inl (cI, 32, .inl ((sp_Rv_load w rg M).2))), (ma, .inr (1, [.int (nI md), .int (nI bt), .int (nI lo), .int (nI nl), .ref sa, .ref ta, .ref fa, .ref pa, .int (nI pe), .ref ba])), (sa, .inl (cI, rn, .inl (sf))), (ta, .inl (cI, rn, .inl (tf))), (pa, .inl (cB, pn, .inl (pf)))])) (va_A [(x, .inr (0, [.ref wa, .int wc, .ref ra, .ref ma, .ref ua, .ref oa, .int ph, .int dn, .int nx, .int fo])), (ra, .inl (cI, 32, .inl (rg))), (ma, .inr (1, [.int (nI md), .int (nI bt), .int (nI lo), .int (nI nl), .ref sa, .ref ta, .ref fa, .ref pa, .int (nI pe), .ref ba])), (sa, .inl (cI, rn, .inl (sf))), (ta, .inl (cI, rn, .inl (tf))), (pa, .inl (cB, pn, .inl (pf)))] sz) := by
  refine zstart (Qc := fun A => zQi D A (fun r (_ : Unit) => r = (sp_Rv_load w rg M).1) (z0) (fun _ => [(x, .inr (0, [.ref wa, .int wc, .ref ra, .ref ma, .ref ua, .ref oa, .int ph, .int dn, .int nx, .int fo])), (ra, .inl (cI, 32, .inl ((sp_Rv_load w rg M).2))), (ma, .inr (1, [.int (nI md), .int (nI bt), .int (nI lo), .int (nI nl), .ref sa, .ref ta, .ref fa, .ref pa, .int (nI pe), .ref ba])), (sa, .inl (cI, rn, .inl (sf))), (ta, .inl (cI, rn, .inl (tf))), (pa, .inl (cB, pn, .inl (pf)))])) (by decide) (Nat.le_of_ble_eq_true rfl) ?_
  intro p e s m below meth c ls A hE hr hlocks hin hsz hK hP hD hS hA hAe hl
  have hx := hE.1
  have hb := hE.2.1
  have hown := hE.2.2.2.1
  have hw := hE.2.2.2.2
  have hl : lv_has ls 6 [(0, .ref x), (1, .int w)] := hl
  refine lv_iload_n hx hb d_Rv_load_0 rfl (lv_at hl 1 rfl) ?_
  refine zgoi (wr := [(x, .inr (0, [.ref wa, .int wc, .ref ra, .ref ma, .ref ua, .ref oa, .int ph, .int dn, .int nx, .int fo])), (ra, .inl (cI, 32, .inl (rg))), (ma, .inr (1, [.int (nI md), .int (nI bt), .int (nI lo), .int (nI nl), .ref sa, .ref ta, .ref fa, .ref pa, .int (nI pe), .ref ba])), (sa, .inl (cI, rn, .inl (sf))), (ta, .inl (cI, rn, .inl (tf))), (pa, .inl (cB, pn, .inl (pf)))]) (zrunS (n := 1) (As := [.int w]) (rest := []) hE (c_Rv_middle l D _ _ w) cb_Rv_middle lk_Rv_147 st_Rv_middle (zpreS hK hP hD [] rfl rfl rfl) ⟨Nat.le_of_ble_eq_true rfl, Nat.le_of_ble_eq_true rfl, Nat.le_of_ble_eq_true rfl, Nat.le_of_ble_eq_true rfl⟩ rfl hl.1 rfl (Nat.le_of_ble_eq_true rfl) d_Rv_load_1) hP hD hS hA [] [0, 1, 2, 3, 4, 5] rfl rfl rfl (by decide) (fun r2 u3 H locs hq1 hP hD hS => ?_)
  subst hq1
  have hP : va_P D zC [(x, .inr (0, [.ref wa, .int wc, .ref ra, .ref ma, .ref ua, .ref oa, .int ph, .int dn, .int nx, .int fo])), (ra, .inl (cI, 32, .inl (rg))), (ma, .inr (1, [.int (nI md), .int (nI bt), .int (nI lo), .int (nI nl), .ref sa, .ref ta, .ref fa, .ref pa, .int (nI pe), .ref ba])), (sa, .inl (cI, rn, .inl (sf))), (ta, .inl (cI, rn, .inl (tf))), (pa, .inl (cB, pn, .inl (pf)))] _ := hP
  have hD : va_D A [(x, .inr (0, [.ref wa, .int wc, .ref ra, .ref ma, .ref ua, .ref oa, .int ph, .int dn, .int nx, .int fo])), (ra, .inl (cI, 32, .inl (rg))), (ma, .inr (1, [.int (nI md), .int (nI bt), .int (nI lo), .int (nI nl), .ref sa, .ref ta, .ref fa, .ref pa, .int (nI pe), .ref ba])), (sa, .inl (cI, rn, .inl (sf))), (ta, .inl (cI, rn, .inl (tf))), (pa, .inl (cB, pn, .inl (pf)))] := hD
  refine lv_istore_n (lv' := [(2, .int (sp_Rv_middle w)), (0, .ref x), (1, .int w)]) hx hb d_Rv_load_4 rfl hl (by decide) rfl (fun ls hl => ?_)
  refine lv_iload_n hx hb d_Rv_load_5 rfl (lv_at hl 0 rfl) ?_
  refine lv_iconst (v := 3) hx hb d_Rv_load_6 (by decide) ?_
  refine lv_icmp_eq (tgt := 15) hx hb d_Rv_load_7 (by decide) (fun h4 => ?_) (fun h4 => ?_)
  · refine lv_iconst (v := 1) hx hb d_Rv_load_15 (by decide) ?_
    have hs : (sp_Rv_load w rg M) = (1, rg) := by rw [sp_Rv_load, if_pos h4]
    have hP9 := hP.sub (ws' := [(x, .inr (0, [.ref wa, .int wc, .ref ra, .ref ma, .ref ua, .ref oa, .int ph, .int dn, .int nx, .int fo])), (ra, .inl (cI, 32, .inl (rg))), (ma, .inr (1, [.int (nI md), .int (nI bt), .int (nI lo), .int (nI nl), .ref sa, .ref ta, .ref fa, .ref pa, .int (nI pe), .ref ba])), (sa, .inl (cI, rn, .inl (sf))), (ta, .inl (cI, rn, .inl (tf))), (pa, .inl (cB, pn, .inl (pf)))]) [0, 1, 2, 3, 4, 5] rfl
    have hD9 := hD.sub (ws' := [(x, .inr (0, [.ref wa, .int wc, .ref ra, .ref ma, .ref ua, .ref oa, .int ph, .int dn, .int nx, .int fo])), (ra, .inl (cI, 32, .inl (rg))), (ma, .inr (1, [.int (nI md), .int (nI bt), .int (nI lo), .int (nI nl), .ref sa, .ref ta, .ref fa, .ref pa, .int (nI pe), .ref ba])), (sa, .inl (cI, rn, .inl (sf))), (ta, .inl (cI, rn, .inl (tf))), (pa, .inl (cB, pn, .inl (pf)))]) [0, 1, 2, 3, 4, 5] rfl rfl
    exact zreti hx hb hr rfl hlocks hS () (by rw [hs]) rfl (by rw [hs]; exact hP9) (by rw [hs]; exact hD9) d_Rv_load_16
  · refine lv_iload_n hx hb d_Rv_load_10 rfl (lv_at hl 0 rfl) ?_
    refine lv_iconst (v := 5) hx hb d_Rv_load_11 (by decide) ?_
    refine lv_icmp_le (tgt := 17) hx hb d_Rv_load_12 (by decide) (fun h5 => ?_) (fun h5 => ?_)
    · refine lv_aload_n hx hb d_Rv_load_17 rfl (lv_at hl 1 rfl) ?_
      refine lv_iload_n hx hb d_Rv_load_18 rfl (lv_at hl 2 rfl) ?_
      refine zgoi (wr := [(ma, .inr (1, [.int (nI md), .int (nI bt), .int (nI lo), .int (nI nl), .ref sa, .ref ta, .ref fa, .ref pa, .int (nI pe), .ref ba])), (sa, .inl (cI, rn, .inl (sf))), (ta, .inl (cI, rn, .inl (tf))), (pa, .inl (cB, pn, .inl (pf)))]) (zrunV (n := 1) (As := [.int w]) (rest := []) hE (c_Rv_firstOperand l D cI cB cJ _ w x wa wc ra ma ua oa ph dn nx fo rg) cb_Rv_firstOperand lk_Rv_158 in_Rv_firstOperand se_Rv_firstOperand (zpreV (q0 := 0) hK hP hD rfl rfl rfl [0, 1] rfl rfl rfl) ⟨Nat.le_of_ble_eq_true rfl, Nat.le_of_ble_eq_true rfl, Nat.le_of_ble_eq_true rfl, Nat.le_of_ble_eq_true rfl⟩ rfl hl.1 rfl (Nat.le_of_ble_eq_true rfl) d_Rv_load_19) hP hD hS hA [0, 1] [2, 3, 4, 5] rfl rfl rfl (by decide) (fun r7 u8 H locs hq6 hP hD hS => ?_)
      subst hq6
      have hP : va_P D zC [(ma, .inr (1, [.int (nI md), .int (nI bt), .int (nI lo), .int (nI nl), .ref sa, .ref ta, .ref fa, .ref pa, .int (nI pe), .ref ba])), (sa, .inl (cI, rn, .inl (sf))), (ta, .inl (cI, rn, .inl (tf))), (pa, .inl (cB, pn, .inl (pf))), (x, .inr (0, [.ref wa, .int wc, .ref ra, .ref ma, .ref ua, .ref oa, .int ph, .int dn, .int nx, .int fo])), (ra, .inl (cI, 32, .inl (rg)))] _ := hP
      have hD : va_D A [(ma, .inr (1, [.int (nI md), .int (nI bt), .int (nI lo), .int (nI nl), .ref sa, .ref ta, .ref fa, .ref pa, .int (nI pe), .ref ba])), (sa, .inl (cI, rn, .inl (sf))), (ta, .inl (cI, rn, .inl (tf))), (pa, .inl (cB, pn, .inl (pf))), (x, .inr (0, [.ref wa, .int wc, .ref ra, .ref ma, .ref ua, .ref oa, .int ph, .int dn, .int nx, .int fo])), (ra, .inl (cI, 32, .inl (rg)))] := hD
      refine lv_iload_n hx hb d_Rv_load_22 rfl (lv_at hl 2 rfl) ?_
      refine lv_bipush (v := 20) hx hb d_Rv_load_23 (by decide) ?_
      refine lv_ishr hx hb d_Rv_load_25 ?_
      refine lv_iadd hx hb d_Rv_load_26 ?_
      refine lv_istore_n (lv' := [(3, .int ((sp_Rv_firstOperand w rg) + ((w : Int32) >>> ((20 : Int32) &&& 31)))), (2, .int (sp_Rv_middle w)), (0, .ref x), (1, .int w)]) hx hb d_Rv_load_27 rfl hl (by decide) rfl (fun ls hl => ?_)
      refine lv_iconst (v := 1) hx hb d_Rv_load_28 (by decide) ?_
      refine lv_iload_n hx hb d_Rv_load_29 rfl (lv_at hl 1 rfl) ?_
      refine lv_iconst (v := 3) hx hb d_Rv_load_30 (by decide) ?_
      refine lv_iand hx hb d_Rv_load_31 ?_
      refine lv_ishl hx hb d_Rv_load_32 ?_
      refine lv_istore (lv' := [(4, .int ((1 : Int32) <<< (((sp_Rv_middle w) &&& 3 : Int32) &&& 31))), (3, .int ((sp_Rv_firstOperand w rg) + ((w : Int32) >>> ((20 : Int32) &&& 31)))), (2, .int (sp_Rv_middle w)), (0, .ref x), (1, .int w)]) hx hb d_Rv_load_33 hl (by decide) rfl (fun ls hl => ?_)
      refine lv_aload_n hx hb d_Rv_load_35 rfl (lv_at hl 3 rfl) ?_
      refine zget hE hK hP 4 rfl fd_Rv_19 rfl d_Rv_load_36 ?_
      refine lv_iload_n hx hb d_Rv_load_39 rfl (lv_at hl 1 rfl) ?_
      refine lv_iload hx hb d_Rv_load_40 (lv_at hl 0 rfl) ?_
      refine zgoi (wr := [(ta, .inl (cI, rn, .inl (tf))), (pa, .inl (cB, pn, .inl (pf))), (x, .inr (0, [.ref wa, .int wc, .ref ra, .ref ma, .ref ua, .ref oa, .int ph, .int dn, .int nx, .int fo])), (ra, .inl (cI, 32, .inl (rg)))]) (zrunV (n := 2) (As := [.int ((sp_Rv_firstOperand w rg) + ((w : Int32) >>> ((20 : Int32) &&& 31))), .int ((1 : Int32) <<< (((sp_Rv_middle w) &&& 3 : Int32) &&& 31))]) (rest := []) hE (c_Me_holdsAligned l D cI cB cJ _ ((sp_Rv_firstOperand w rg) + ((w : Int32) >>> ((20 : Int32) &&& 31))) ((1 : Int32) <<< (((sp_Rv_middle w) &&& 3 : Int32) &&& 31)) ma md bt lo nl sa ta fa pa pe ba rn sf hR.2.2.2.2.1 hR.2.2.2.2.2.1) cb_Me_holdsAligned lk_Rv_170 in_Me_holdsAligned se_Me_holdsAligned (zpreV (q0 := 0) hK hP hD rfl rfl rfl [0, 1] rfl rfl rfl) ⟨Nat.le_of_ble_eq_true rfl, Nat.le_of_ble_eq_true rfl, Nat.le_of_ble_eq_true rfl, Nat.le_of_ble_eq_true rfl⟩ rfl hl.1 rfl (Nat.le_of_ble_eq_true rfl) d_Rv_load_42) hP hD hS hA [0, 1] [2, 3, 4, 5] rfl rfl rfl (by decide) (fun r10 u11 H locs hq9 hP hD hS => ?_)
      subst hq9
      have hP : va_P D zC [(ta, .inl (cI, rn, .inl (tf))), (pa, .inl (cB, pn, .inl (pf))), (x, .inr (0, [.ref wa, .int wc, .ref ra, .ref ma, .ref ua, .ref oa, .int ph, .int dn, .int nx, .int fo])), (ra, .inl (cI, 32, .inl (rg))), (ma, .inr (1, [.int (nI md), .int (nI bt), .int (nI lo), .int (nI nl), .ref sa, .ref ta, .ref fa, .ref pa, .int (nI pe), .ref ba])), (sa, .inl (cI, rn, .inl (sf)))] _ := hP
      have hD : va_D A [(ta, .inl (cI, rn, .inl (tf))), (pa, .inl (cB, pn, .inl (pf))), (x, .inr (0, [.ref wa, .int wc, .ref ra, .ref ma, .ref ua, .ref oa, .int ph, .int dn, .int nx, .int fo])), (ra, .inl (cI, 32, .inl (rg))), (ma, .inr (1, [.int (nI md), .int (nI bt), .int (nI lo), .int (nI nl), .ref sa, .ref ta, .ref fa, .ref pa, .int (nI pe), .ref ba])), (sa, .inl (cI, rn, .inl (sf)))] := hD
      refine z_st (st' := [.int (mHsA M ((sp_Rv_firstOperand w rg) + ((w : Int32) >>> ((20 : Int32) &&& 31))) ((1 : Int32) <<< (((sp_Rv_middle w) &&& 3 : Int32) &&& 31)))]) (by rw [show (((sp_Me_holdsAligned ((sp_Rv_firstOperand w rg) + ((w : Int32) >>> ((20 : Int32) &&& 31))) ((1 : Int32) <<< (((sp_Rv_middle w) &&& 3 : Int32) &&& 31)) md sf)) : Int32) = mHsA M ((sp_Rv_firstOperand w rg) + ((w : Int32) >>> ((20 : Int32) &&& 31))) ((1 : Int32) <<< (((sp_Rv_middle w) &&& 3 : Int32) &&& 31)) from cRep_holdsA hR _ _]) ?_
      refine lv_if_ne (tgt := 50) hx hb d_Rv_load_45 (by decide) (fun h12 => ?_) (fun h12 => ?_)
      · obtain ⟨a0, zq, b1, b2, b3, b4, b5, b6, b7, ⟨qq, b8, b10⟩, b9⟩ := cRep_spot hR (mHsA_hs h12) (zsz _).1 (zsz _).2
        refine lv_aload_n hx hb d_Rv_load_50 rfl (lv_at hl 3 rfl) ?_
        refine zget hE hK hP 2 rfl fd_Rv_19 rfl d_Rv_load_51 ?_
        refine lv_iload_n hx hb d_Rv_load_54 rfl (lv_at hl 1 rfl) ?_
        refine lv_iload hx hb d_Rv_load_55 (lv_at hl 0 rfl) ?_
        refine zgoi (wr := [(x, .inr (0, [.ref wa, .int wc, .ref ra, .ref ma, .ref ua, .ref oa, .int ph, .int dn, .int nx, .int fo])), (ra, .inl (cI, 32, .inl (rg))), (sa, .inl (cI, rn, .inl (sf)))]) (zrunV (n := 2) (As := [.int ((sp_Rv_firstOperand w rg) + ((w : Int32) >>> ((20 : Int32) &&& 31))), .int ((1 : Int32) <<< (((sp_Rv_middle w) &&& 3 : Int32) &&& 31))]) (rest := []) hE (c_Me_read l D cI cB cJ _ ((sp_Rv_firstOperand w rg) + ((w : Int32) >>> ((20 : Int32) &&& 31))) ((1 : Int32) <<< (((sp_Rv_middle w) &&& 3 : Int32) &&& 31)) ma md bt lo nl sa ta fa pa pe ba rn tf pn pf a0 (zN ((1 : Int32) <<< (((sp_Rv_middle w) &&& 3 : Int32) &&& 31))) b1 b2 b3 (z_of _) b4 b5) cb_Me_read lk_Rv_78 in_Me_read se_Me_read (zpreV (q0 := 4) hK hP hD rfl rfl rfl [4, 0, 1] rfl rfl rfl) ⟨Nat.le_of_ble_eq_true rfl, Nat.le_of_ble_eq_true rfl, Nat.le_of_ble_eq_true rfl, Nat.le_of_ble_eq_true rfl⟩ rfl hl.1 rfl (Nat.le_of_ble_eq_true rfl) d_Rv_load_57) hP hD hS hA [4, 0, 1] [2, 3, 5] rfl rfl rfl (by decide) (fun r14 u15 H locs hq13 hP hD hS => ?_)
        subst hq13
        have hP : va_P D zC [(x, .inr (0, [.ref wa, .int wc, .ref ra, .ref ma, .ref ua, .ref oa, .int ph, .int dn, .int nx, .int fo])), (ra, .inl (cI, 32, .inl (rg))), (sa, .inl (cI, rn, .inl (sf))), (ma, .inr (1, [.int (nI md), .int (nI bt), .int (nI lo), .int (nI nl), .ref sa, .ref ta, .ref fa, .ref pa, .int (nI pe), .ref ba])), (ta, .inl (cI, rn, .inl (tf))), (pa, .inl (cB, pn, .inl (pf)))] _ := hP
        have hD : va_D A [(x, .inr (0, [.ref wa, .int wc, .ref ra, .ref ma, .ref ua, .ref oa, .int ph, .int dn, .int nx, .int fo])), (ra, .inl (cI, 32, .inl (rg))), (sa, .inl (cI, rn, .inl (sf))), (ma, .inr (1, [.int (nI md), .int (nI bt), .int (nI lo), .int (nI nl), .ref sa, .ref ta, .ref fa, .ref pa, .int (nI pe), .ref ba])), (ta, .inl (cI, rn, .inl (tf))), (pa, .inl (cB, pn, .inl (pf)))] := hD
        refine z_st (st' := [.int (mRd M ((sp_Rv_firstOperand w rg) + ((w : Int32) >>> ((20 : Int32) &&& 31))) ((1 : Int32) <<< (((sp_Rv_middle w) &&& 3 : Int32) &&& 31)))]) (by rw [show (((zrd (fun i => pf (a0 + i)) (zN ((1 : Int32) <<< (((sp_Rv_middle w) &&& 3 : Int32) &&& 31))) 0)) : Int32) = mRd M ((sp_Rv_firstOperand w rg) + ((w : Int32) >>> ((20 : Int32) &&& 31))) ((1 : Int32) <<< (((sp_Rv_middle w) &&& 3 : Int32) &&& 31)) from by unfold mRd; exact zrd_congr _ _ b9]) ?_
        refine lv_istore (lv' := [(5, .int (mRd M ((sp_Rv_firstOperand w rg) + ((w : Int32) >>> ((20 : Int32) &&& 31))) ((1 : Int32) <<< (((sp_Rv_middle w) &&& 3 : Int32) &&& 31)))), (4, .int ((1 : Int32) <<< (((sp_Rv_middle w) &&& 3 : Int32) &&& 31))), (3, .int ((sp_Rv_firstOperand w rg) + ((w : Int32) >>> ((20 : Int32) &&& 31)))), (2, .int (sp_Rv_middle w)), (0, .ref x), (1, .int w)]) hx hb d_Rv_load_60 hl (by decide) rfl (fun ls hl => ?_)
        refine lv_iload_n hx hb d_Rv_load_62 rfl (lv_at hl 3 rfl) ?_
        rcases Decidable.em ((sp_Rv_middle w) = 0) with h16 | h16
        · refine lv_lookup (tgt := 88) (off := 25) hx hb d_Rv_load_63 (by decide) (by rw [h16]; first | done | rfl) (by decide) ?_
          refine lv_aload_n hx hb d_Rv_load_88 rfl (lv_at hl 4 rfl) ?_
          refine lv_iload_n hx hb d_Rv_load_89 rfl (lv_at hl 5 rfl) ?_
          refine lv_iload hx hb d_Rv_load_90 (lv_at hl 0 rfl) ?_
          refine lv_i2b (v := (mRd M ((sp_Rv_firstOperand w rg) + ((w : Int32) >>> ((20 : Int32) &&& 31))) ((1 : Int32) <<< (((sp_Rv_middle w) &&& 3 : Int32) &&& 31)) : Int32).toInt8.toInt32) hx hb d_Rv_load_92 rfl ?_
          refine zgoi (wr := [(sa, .inl (cI, rn, .inl (sf))), (ma, .inr (1, [.int (nI md), .int (nI bt), .int (nI lo), .int (nI nl), .ref sa, .ref ta, .ref fa, .ref pa, .int (nI pe), .ref ba])), (ta, .inl (cI, rn, .inl (tf))), (pa, .inl (cB, pn, .inl (pf)))]) (zrunV (n := 2) (As := [.int w, .int ((mRd M ((sp_Rv_firstOperand w rg) + ((w : Int32) >>> ((20 : Int32) &&& 31))) ((1 : Int32) <<< (((sp_Rv_middle w) &&& 3 : Int32) &&& 31)) : Int32).toInt8.toInt32)]) (rest := []) hE (c_Rv_keep l D cI cB cJ _ w ((mRd M ((sp_Rv_firstOperand w rg) + ((w : Int32) >>> ((20 : Int32) &&& 31))) ((1 : Int32) <<< (((sp_Rv_middle w) &&& 3 : Int32) &&& 31)) : Int32).toInt8.toInt32) x wa wc ra ma ua oa ph dn nx fo rg) cb_Rv_keep lk_Rv_120 in_Rv_keep se_Rv_keep (zpreV (q0 := 0) hK hP hD rfl rfl rfl [0, 1] rfl rfl rfl) ⟨Nat.le_of_ble_eq_true rfl, Nat.le_of_ble_eq_true rfl, Nat.le_of_ble_eq_true rfl, Nat.le_of_ble_eq_true rfl⟩ rfl hl.1 rfl (Nat.le_of_ble_eq_true rfl) d_Rv_load_93) hP hD hS hA [0, 1] [2, 3, 4, 5] rfl rfl rfl (by decide) (fun r18 u19 H locs hq17 hP hD hS => ?_)
          subst hq17
          have hP : va_P D zC [(sa, .inl (cI, rn, .inl (sf))), (ma, .inr (1, [.int (nI md), .int (nI bt), .int (nI lo), .int (nI nl), .ref sa, .ref ta, .ref fa, .ref pa, .int (nI pe), .ref ba])), (ta, .inl (cI, rn, .inl (tf))), (pa, .inl (cB, pn, .inl (pf))), (x, .inr (0, [.ref wa, .int wc, .ref ra, .ref ma, .ref ua, .ref oa, .int ph, .int dn, .int nx, .int fo])), (ra, .inl (cI, 32, .inl ((sp_Rv_keep w ((mRd M ((sp_Rv_firstOperand w rg) + ((w : Int32) >>> ((20 : Int32) &&& 31))) ((1 : Int32) <<< (((sp_Rv_middle w) &&& 3 : Int32) &&& 31)) : Int32).toInt8.toInt32) rg).2)))] _ := hP
          have hD : va_D A [(sa, .inl (cI, rn, .inl (sf))), (ma, .inr (1, [.int (nI md), .int (nI bt), .int (nI lo), .int (nI nl), .ref sa, .ref ta, .ref fa, .ref pa, .int (nI pe), .ref ba])), (ta, .inl (cI, rn, .inl (tf))), (pa, .inl (cB, pn, .inl (pf))), (x, .inr (0, [.ref wa, .int wc, .ref ra, .ref ma, .ref ua, .ref oa, .int ph, .int dn, .int nx, .int fo])), (ra, .inl (cI, 32, .inl ((sp_Rv_keep w ((mRd M ((sp_Rv_firstOperand w rg) + ((w : Int32) >>> ((20 : Int32) &&& 31))) ((1 : Int32) <<< (((sp_Rv_middle w) &&& 3 : Int32) &&& 31)) : Int32).toInt8.toInt32) rg).2)))] := hD
          have hs : (sp_Rv_load w rg M) = ((sp_Rv_keep w ((mRd M ((sp_Rv_firstOperand w rg) + ((w : Int32) >>> ((20 : Int32) &&& 31))) ((1 : Int32) <<< (((sp_Rv_middle w) &&& 3 : Int32) &&& 31)) : Int32).toInt8.toInt32) rg).1, (sp_Rv_keep w ((mRd M ((sp_Rv_firstOperand w rg) + ((w : Int32) >>> ((20 : Int32) &&& 31))) ((1 : Int32) <<< (((sp_Rv_middle w) &&& 3 : Int32) &&& 31)) : Int32).toInt8.toInt32) rg).2) := by rw [sp_Rv_load, if_neg h4, if_pos h5, if_neg h12, if_pos h16]
          have hP9 := hP.sub (ws' := [(x, .inr (0, [.ref wa, .int wc, .ref ra, .ref ma, .ref ua, .ref oa, .int ph, .int dn, .int nx, .int fo])), (ra, .inl (cI, 32, .inl ((sp_Rv_keep w ((mRd M ((sp_Rv_firstOperand w rg) + ((w : Int32) >>> ((20 : Int32) &&& 31))) ((1 : Int32) <<< (((sp_Rv_middle w) &&& 3 : Int32) &&& 31)) : Int32).toInt8.toInt32) rg).2))), (ma, .inr (1, [.int (nI md), .int (nI bt), .int (nI lo), .int (nI nl), .ref sa, .ref ta, .ref fa, .ref pa, .int (nI pe), .ref ba])), (sa, .inl (cI, rn, .inl (sf))), (ta, .inl (cI, rn, .inl (tf))), (pa, .inl (cB, pn, .inl (pf)))]) [4, 5, 1, 0, 2, 3] rfl
          have hD9 := hD.sub (ws' := [(x, .inr (0, [.ref wa, .int wc, .ref ra, .ref ma, .ref ua, .ref oa, .int ph, .int dn, .int nx, .int fo])), (ra, .inl (cI, 32, .inl ((sp_Rv_keep w ((mRd M ((sp_Rv_firstOperand w rg) + ((w : Int32) >>> ((20 : Int32) &&& 31))) ((1 : Int32) <<< (((sp_Rv_middle w) &&& 3 : Int32) &&& 31)) : Int32).toInt8.toInt32) rg).2))), (ma, .inr (1, [.int (nI md), .int (nI bt), .int (nI lo), .int (nI nl), .ref sa, .ref ta, .ref fa, .ref pa, .int (nI pe), .ref ba])), (sa, .inl (cI, rn, .inl (sf))), (ta, .inl (cI, rn, .inl (tf))), (pa, .inl (cB, pn, .inl (pf)))]) [4, 5, 1, 0, 2, 3] rfl rfl
          exact zreti hx hb hr rfl hlocks hS () (by rw [hs]) rfl (by rw [hs]; exact hP9) (by rw [hs]; exact hD9) d_Rv_load_96
        · rcases Decidable.em ((sp_Rv_middle w) = 1) with h20 | h20
          · refine lv_lookup (tgt := 97) (off := 34) hx hb d_Rv_load_63 (by decide) (by rw [h20]; first | done | rfl) (by decide) ?_
            refine lv_aload_n hx hb d_Rv_load_97 rfl (lv_at hl 4 rfl) ?_
            refine lv_iload_n hx hb d_Rv_load_98 rfl (lv_at hl 5 rfl) ?_
            refine lv_iload hx hb d_Rv_load_99 (lv_at hl 0 rfl) ?_
            refine lv_i2s (v := (mRd M ((sp_Rv_firstOperand w rg) + ((w : Int32) >>> ((20 : Int32) &&& 31))) ((1 : Int32) <<< (((sp_Rv_middle w) &&& 3 : Int32) &&& 31)) : Int32).toInt16.toInt32) hx hb d_Rv_load_101 rfl ?_
            refine zgoi (wr := [(sa, .inl (cI, rn, .inl (sf))), (ma, .inr (1, [.int (nI md), .int (nI bt), .int (nI lo), .int (nI nl), .ref sa, .ref ta, .ref fa, .ref pa, .int (nI pe), .ref ba])), (ta, .inl (cI, rn, .inl (tf))), (pa, .inl (cB, pn, .inl (pf)))]) (zrunV (n := 2) (As := [.int w, .int ((mRd M ((sp_Rv_firstOperand w rg) + ((w : Int32) >>> ((20 : Int32) &&& 31))) ((1 : Int32) <<< (((sp_Rv_middle w) &&& 3 : Int32) &&& 31)) : Int32).toInt16.toInt32)]) (rest := []) hE (c_Rv_keep l D cI cB cJ _ w ((mRd M ((sp_Rv_firstOperand w rg) + ((w : Int32) >>> ((20 : Int32) &&& 31))) ((1 : Int32) <<< (((sp_Rv_middle w) &&& 3 : Int32) &&& 31)) : Int32).toInt16.toInt32) x wa wc ra ma ua oa ph dn nx fo rg) cb_Rv_keep lk_Rv_120 in_Rv_keep se_Rv_keep (zpreV (q0 := 0) hK hP hD rfl rfl rfl [0, 1] rfl rfl rfl) ⟨Nat.le_of_ble_eq_true rfl, Nat.le_of_ble_eq_true rfl, Nat.le_of_ble_eq_true rfl, Nat.le_of_ble_eq_true rfl⟩ rfl hl.1 rfl (Nat.le_of_ble_eq_true rfl) d_Rv_load_102) hP hD hS hA [0, 1] [2, 3, 4, 5] rfl rfl rfl (by decide) (fun r22 u23 H locs hq21 hP hD hS => ?_)
            subst hq21
            have hP : va_P D zC [(sa, .inl (cI, rn, .inl (sf))), (ma, .inr (1, [.int (nI md), .int (nI bt), .int (nI lo), .int (nI nl), .ref sa, .ref ta, .ref fa, .ref pa, .int (nI pe), .ref ba])), (ta, .inl (cI, rn, .inl (tf))), (pa, .inl (cB, pn, .inl (pf))), (x, .inr (0, [.ref wa, .int wc, .ref ra, .ref ma, .ref ua, .ref oa, .int ph, .int dn, .int nx, .int fo])), (ra, .inl (cI, 32, .inl ((sp_Rv_keep w ((mRd M ((sp_Rv_firstOperand w rg) + ((w : Int32) >>> ((20 : Int32) &&& 31))) ((1 : Int32) <<< (((sp_Rv_middle w) &&& 3 : Int32) &&& 31)) : Int32).toInt16.toInt32) rg).2)))] _ := hP
            have hD : va_D A [(sa, .inl (cI, rn, .inl (sf))), (ma, .inr (1, [.int (nI md), .int (nI bt), .int (nI lo), .int (nI nl), .ref sa, .ref ta, .ref fa, .ref pa, .int (nI pe), .ref ba])), (ta, .inl (cI, rn, .inl (tf))), (pa, .inl (cB, pn, .inl (pf))), (x, .inr (0, [.ref wa, .int wc, .ref ra, .ref ma, .ref ua, .ref oa, .int ph, .int dn, .int nx, .int fo])), (ra, .inl (cI, 32, .inl ((sp_Rv_keep w ((mRd M ((sp_Rv_firstOperand w rg) + ((w : Int32) >>> ((20 : Int32) &&& 31))) ((1 : Int32) <<< (((sp_Rv_middle w) &&& 3 : Int32) &&& 31)) : Int32).toInt16.toInt32) rg).2)))] := hD
            have hs : (sp_Rv_load w rg M) = ((sp_Rv_keep w ((mRd M ((sp_Rv_firstOperand w rg) + ((w : Int32) >>> ((20 : Int32) &&& 31))) ((1 : Int32) <<< (((sp_Rv_middle w) &&& 3 : Int32) &&& 31)) : Int32).toInt16.toInt32) rg).1, (sp_Rv_keep w ((mRd M ((sp_Rv_firstOperand w rg) + ((w : Int32) >>> ((20 : Int32) &&& 31))) ((1 : Int32) <<< (((sp_Rv_middle w) &&& 3 : Int32) &&& 31)) : Int32).toInt16.toInt32) rg).2) := by rw [sp_Rv_load, if_neg h4, if_pos h5, if_neg h12, if_neg h16, if_pos h20]
            have hP9 := hP.sub (ws' := [(x, .inr (0, [.ref wa, .int wc, .ref ra, .ref ma, .ref ua, .ref oa, .int ph, .int dn, .int nx, .int fo])), (ra, .inl (cI, 32, .inl ((sp_Rv_keep w ((mRd M ((sp_Rv_firstOperand w rg) + ((w : Int32) >>> ((20 : Int32) &&& 31))) ((1 : Int32) <<< (((sp_Rv_middle w) &&& 3 : Int32) &&& 31)) : Int32).toInt16.toInt32) rg).2))), (ma, .inr (1, [.int (nI md), .int (nI bt), .int (nI lo), .int (nI nl), .ref sa, .ref ta, .ref fa, .ref pa, .int (nI pe), .ref ba])), (sa, .inl (cI, rn, .inl (sf))), (ta, .inl (cI, rn, .inl (tf))), (pa, .inl (cB, pn, .inl (pf)))]) [4, 5, 1, 0, 2, 3] rfl
            have hD9 := hD.sub (ws' := [(x, .inr (0, [.ref wa, .int wc, .ref ra, .ref ma, .ref ua, .ref oa, .int ph, .int dn, .int nx, .int fo])), (ra, .inl (cI, 32, .inl ((sp_Rv_keep w ((mRd M ((sp_Rv_firstOperand w rg) + ((w : Int32) >>> ((20 : Int32) &&& 31))) ((1 : Int32) <<< (((sp_Rv_middle w) &&& 3 : Int32) &&& 31)) : Int32).toInt16.toInt32) rg).2))), (ma, .inr (1, [.int (nI md), .int (nI bt), .int (nI lo), .int (nI nl), .ref sa, .ref ta, .ref fa, .ref pa, .int (nI pe), .ref ba])), (sa, .inl (cI, rn, .inl (sf))), (ta, .inl (cI, rn, .inl (tf))), (pa, .inl (cB, pn, .inl (pf)))]) [4, 5, 1, 0, 2, 3] rfl rfl
            exact zreti hx hb hr rfl hlocks hS () (by rw [hs]) rfl (by rw [hs]; exact hP9) (by rw [hs]; exact hD9) d_Rv_load_105
          · refine lv_lookup (tgt := 106) (off := 43) hx hb d_Rv_load_63 (by decide) (by rw [lv_osw h16 (show ((0 : Int32)).toInt = 0 from by decide), lv_osw h20 (show ((1 : Int32)).toInt = 1 from by decide)]; first | done | rfl) (by decide) ?_
            refine lv_aload_n hx hb d_Rv_load_106 rfl (lv_at hl 4 rfl) ?_
            refine lv_iload_n hx hb d_Rv_load_107 rfl (lv_at hl 5 rfl) ?_
            refine lv_iload hx hb d_Rv_load_108 (lv_at hl 0 rfl) ?_
            refine zgoi (wr := [(sa, .inl (cI, rn, .inl (sf))), (ma, .inr (1, [.int (nI md), .int (nI bt), .int (nI lo), .int (nI nl), .ref sa, .ref ta, .ref fa, .ref pa, .int (nI pe), .ref ba])), (ta, .inl (cI, rn, .inl (tf))), (pa, .inl (cB, pn, .inl (pf)))]) (zrunV (n := 2) (As := [.int w, .int (mRd M ((sp_Rv_firstOperand w rg) + ((w : Int32) >>> ((20 : Int32) &&& 31))) ((1 : Int32) <<< (((sp_Rv_middle w) &&& 3 : Int32) &&& 31)))]) (rest := []) hE (c_Rv_keep l D cI cB cJ _ w (mRd M ((sp_Rv_firstOperand w rg) + ((w : Int32) >>> ((20 : Int32) &&& 31))) ((1 : Int32) <<< (((sp_Rv_middle w) &&& 3 : Int32) &&& 31))) x wa wc ra ma ua oa ph dn nx fo rg) cb_Rv_keep lk_Rv_120 in_Rv_keep se_Rv_keep (zpreV (q0 := 0) hK hP hD rfl rfl rfl [0, 1] rfl rfl rfl) ⟨Nat.le_of_ble_eq_true rfl, Nat.le_of_ble_eq_true rfl, Nat.le_of_ble_eq_true rfl, Nat.le_of_ble_eq_true rfl⟩ rfl hl.1 rfl (Nat.le_of_ble_eq_true rfl) d_Rv_load_110) hP hD hS hA [0, 1] [2, 3, 4, 5] rfl rfl rfl (by decide) (fun r25 u26 H locs hq24 hP hD hS => ?_)
            subst hq24
            have hP : va_P D zC [(sa, .inl (cI, rn, .inl (sf))), (ma, .inr (1, [.int (nI md), .int (nI bt), .int (nI lo), .int (nI nl), .ref sa, .ref ta, .ref fa, .ref pa, .int (nI pe), .ref ba])), (ta, .inl (cI, rn, .inl (tf))), (pa, .inl (cB, pn, .inl (pf))), (x, .inr (0, [.ref wa, .int wc, .ref ra, .ref ma, .ref ua, .ref oa, .int ph, .int dn, .int nx, .int fo])), (ra, .inl (cI, 32, .inl ((sp_Rv_keep w (mRd M ((sp_Rv_firstOperand w rg) + ((w : Int32) >>> ((20 : Int32) &&& 31))) ((1 : Int32) <<< (((sp_Rv_middle w) &&& 3 : Int32) &&& 31))) rg).2)))] _ := hP
            have hD : va_D A [(sa, .inl (cI, rn, .inl (sf))), (ma, .inr (1, [.int (nI md), .int (nI bt), .int (nI lo), .int (nI nl), .ref sa, .ref ta, .ref fa, .ref pa, .int (nI pe), .ref ba])), (ta, .inl (cI, rn, .inl (tf))), (pa, .inl (cB, pn, .inl (pf))), (x, .inr (0, [.ref wa, .int wc, .ref ra, .ref ma, .ref ua, .ref oa, .int ph, .int dn, .int nx, .int fo])), (ra, .inl (cI, 32, .inl ((sp_Rv_keep w (mRd M ((sp_Rv_firstOperand w rg) + ((w : Int32) >>> ((20 : Int32) &&& 31))) ((1 : Int32) <<< (((sp_Rv_middle w) &&& 3 : Int32) &&& 31))) rg).2)))] := hD
            have hs : (sp_Rv_load w rg M) = ((sp_Rv_keep w (mRd M ((sp_Rv_firstOperand w rg) + ((w : Int32) >>> ((20 : Int32) &&& 31))) ((1 : Int32) <<< (((sp_Rv_middle w) &&& 3 : Int32) &&& 31))) rg).1, (sp_Rv_keep w (mRd M ((sp_Rv_firstOperand w rg) + ((w : Int32) >>> ((20 : Int32) &&& 31))) ((1 : Int32) <<< (((sp_Rv_middle w) &&& 3 : Int32) &&& 31))) rg).2) := by rw [sp_Rv_load, if_neg h4, if_pos h5, if_neg h12, if_neg h16, if_neg h20]
            have hP9 := hP.sub (ws' := [(x, .inr (0, [.ref wa, .int wc, .ref ra, .ref ma, .ref ua, .ref oa, .int ph, .int dn, .int nx, .int fo])), (ra, .inl (cI, 32, .inl ((sp_Rv_keep w (mRd M ((sp_Rv_firstOperand w rg) + ((w : Int32) >>> ((20 : Int32) &&& 31))) ((1 : Int32) <<< (((sp_Rv_middle w) &&& 3 : Int32) &&& 31))) rg).2))), (ma, .inr (1, [.int (nI md), .int (nI bt), .int (nI lo), .int (nI nl), .ref sa, .ref ta, .ref fa, .ref pa, .int (nI pe), .ref ba])), (sa, .inl (cI, rn, .inl (sf))), (ta, .inl (cI, rn, .inl (tf))), (pa, .inl (cB, pn, .inl (pf)))]) [4, 5, 1, 0, 2, 3] rfl
            have hD9 := hD.sub (ws' := [(x, .inr (0, [.ref wa, .int wc, .ref ra, .ref ma, .ref ua, .ref oa, .int ph, .int dn, .int nx, .int fo])), (ra, .inl (cI, 32, .inl ((sp_Rv_keep w (mRd M ((sp_Rv_firstOperand w rg) + ((w : Int32) >>> ((20 : Int32) &&& 31))) ((1 : Int32) <<< (((sp_Rv_middle w) &&& 3 : Int32) &&& 31))) rg).2))), (ma, .inr (1, [.int (nI md), .int (nI bt), .int (nI lo), .int (nI nl), .ref sa, .ref ta, .ref fa, .ref pa, .int (nI pe), .ref ba])), (sa, .inl (cI, rn, .inl (sf))), (ta, .inl (cI, rn, .inl (tf))), (pa, .inl (cB, pn, .inl (pf)))]) [4, 5, 1, 0, 2, 3] rfl rfl
            exact zreti hx hb hr rfl hlocks hS () (by rw [hs]) rfl (by rw [hs]; exact hP9) (by rw [hs]; exact hD9) d_Rv_load_113
      · refine lv_iconst (v := 2) hx hb d_Rv_load_48 (by decide) ?_
        have hs : (sp_Rv_load w rg M) = (2, rg) := by rw [sp_Rv_load, if_neg h4, if_pos h5, if_pos h12]
        have hP9 := hP.sub (ws' := [(x, .inr (0, [.ref wa, .int wc, .ref ra, .ref ma, .ref ua, .ref oa, .int ph, .int dn, .int nx, .int fo])), (ra, .inl (cI, 32, .inl (rg))), (ma, .inr (1, [.int (nI md), .int (nI bt), .int (nI lo), .int (nI nl), .ref sa, .ref ta, .ref fa, .ref pa, .int (nI pe), .ref ba])), (sa, .inl (cI, rn, .inl (sf))), (ta, .inl (cI, rn, .inl (tf))), (pa, .inl (cB, pn, .inl (pf)))]) [2, 3, 4, 5, 0, 1] rfl
        have hD9 := hD.sub (ws' := [(x, .inr (0, [.ref wa, .int wc, .ref ra, .ref ma, .ref ua, .ref oa, .int ph, .int dn, .int nx, .int fo])), (ra, .inl (cI, 32, .inl (rg))), (ma, .inr (1, [.int (nI md), .int (nI bt), .int (nI lo), .int (nI nl), .ref sa, .ref ta, .ref fa, .ref pa, .int (nI pe), .ref ba])), (sa, .inl (cI, rn, .inl (sf))), (ta, .inl (cI, rn, .inl (tf))), (pa, .inl (cB, pn, .inl (pf)))]) [2, 3, 4, 5, 0, 1] rfl rfl
        exact zreti hx hb hr rfl hlocks hS () (by rw [hs]) rfl (by rw [hs]; exact hP9) (by rw [hs]; exact hD9) d_Rv_load_49
    · refine lv_iconst (v := 1) hx hb d_Rv_load_15 (by decide) ?_
      have hs : (sp_Rv_load w rg M) = (1, rg) := by rw [sp_Rv_load, if_neg h4, if_neg h5]
      have hP9 := hP.sub (ws' := [(x, .inr (0, [.ref wa, .int wc, .ref ra, .ref ma, .ref ua, .ref oa, .int ph, .int dn, .int nx, .int fo])), (ra, .inl (cI, 32, .inl (rg))), (ma, .inr (1, [.int (nI md), .int (nI bt), .int (nI lo), .int (nI nl), .ref sa, .ref ta, .ref fa, .ref pa, .int (nI pe), .ref ba])), (sa, .inl (cI, rn, .inl (sf))), (ta, .inl (cI, rn, .inl (tf))), (pa, .inl (cB, pn, .inl (pf)))]) [0, 1, 2, 3, 4, 5] rfl
      have hD9 := hD.sub (ws' := [(x, .inr (0, [.ref wa, .int wc, .ref ra, .ref ma, .ref ua, .ref oa, .int ph, .int dn, .int nx, .int fo])), (ra, .inl (cI, 32, .inl (rg))), (ma, .inr (1, [.int (nI md), .int (nI bt), .int (nI lo), .int (nI nl), .ref sa, .ref ta, .ref fa, .ref pa, .int (nI pe), .ref ba])), (sa, .inl (cI, rn, .inl (sf))), (ta, .inl (cI, rn, .inl (tf))), (pa, .inl (cB, pn, .inl (pf)))]) [0, 1, 2, 3, 4, 5] rfl rfl
      exact zreti hx hb hr rfl hlocks hS () (by rw [hs]) rfl (by rw [hs]; exact hP9) (by rw [hs]; exact hD9) d_Rv_load_16

def sp_Rv_peek (ad : Int32) (M : MM) : Int32 := if (mHs M ad 1) = 0 then (-1) else mRd M ad 1
set_option maxHeartbeats 4000000 in
theorem c_Rv_peek (l : Launch) (D : va_G) (cI cB cJ : ClassId) (sz : Nat) (ad : Int32) (x : Nat) (wa : Nat) (wc : Int32) (ra : Nat) (ma : Nat) (ua : Nat) (oa : Nat) (ph : Int32) (dn : Int32) (nx : Int32) (fo : Int32) (md : Nat) (bt : Nat) (lo : Nat) (nl : Nat) (sa : Nat) (ta : Nat) (fa : Nat) (pa : Nat) (pe : Nat) (ba : Nat) (rn : Nat) (sf : Nat → Int32) (tf : Nat → Int32) (pn : Nat) (pf : Nat → Int32) (M : MM) (uf : Nat → Int32) (hR : cRep M md bt nl pe rn pn sf tf uf pf) : zMet l y_Rv_peek (zWs y_Rv_peek b_Rv_peek 2 (some .int)) { frames := 2, cells := 0, slots := 0, locals := 46 } (zPc D (zT cI cB cJ) sz [(x, .inr (0, [.ref wa, .int wc, .ref ra, .ref ma, .ref ua, .ref oa, .int ph, .int dn, .int nx, .int fo])), (ma, .inr (1, [.int (nI md), .int (nI bt), .int (nI lo), .int (nI nl), .ref sa, .ref ta, .ref fa, .ref pa, .int (nI pe), .ref ba])), (sa, .inl (cI, rn, .inl (sf))), (ta, .inl (cI, rn, .inl (tf))), (pa, .inl (cB, pn, .inl (pf)))] [.ref x, .int ad]) (zQi D (va_A [(x, .inr (0, [.ref wa, .int wc, .ref ra, .ref ma, .ref ua, .ref oa, .int ph, .int dn, .int nx, .int fo])), (ma, .inr (1, [.int (nI md), .int (nI bt), .int (nI lo), .int (nI nl), .ref sa, .ref ta, .ref fa, .ref pa, .int (nI pe), .ref ba])), (sa, .inl (cI, rn, .inl (sf))), (ta, .inl (cI, rn, .inl (tf))), (pa, .inl (cB, pn, .inl (pf)))] sz) (fun r (_ : Unit) => r = (sp_Rv_peek ad M)) (z0) (fun _ => [(x, .inr (0, [.ref wa, .int wc, .ref ra, .ref ma, .ref ua, .ref oa, .int ph, .int dn, .int nx, .int fo])), (ma, .inr (1, [.int (nI md), .int (nI bt), .int (nI lo), .int (nI nl), .ref sa, .ref ta, .ref fa, .ref pa, .int (nI pe), .ref ba])), (sa, .inl (cI, rn, .inl (sf))), (ta, .inl (cI, rn, .inl (tf))), (pa, .inl (cB, pn, .inl (pf)))])) (va_A [(x, .inr (0, [.ref wa, .int wc, .ref ra, .ref ma, .ref ua, .ref oa, .int ph, .int dn, .int nx, .int fo])), (ma, .inr (1, [.int (nI md), .int (nI bt), .int (nI lo), .int (nI nl), .ref sa, .ref ta, .ref fa, .ref pa, .int (nI pe), .ref ba])), (sa, .inl (cI, rn, .inl (sf))), (ta, .inl (cI, rn, .inl (tf))), (pa, .inl (cB, pn, .inl (pf)))] sz) := by
  refine zstart (Qc := fun A => zQi D A (fun r (_ : Unit) => r = (sp_Rv_peek ad M)) (z0) (fun _ => [(x, .inr (0, [.ref wa, .int wc, .ref ra, .ref ma, .ref ua, .ref oa, .int ph, .int dn, .int nx, .int fo])), (ma, .inr (1, [.int (nI md), .int (nI bt), .int (nI lo), .int (nI nl), .ref sa, .ref ta, .ref fa, .ref pa, .int (nI pe), .ref ba])), (sa, .inl (cI, rn, .inl (sf))), (ta, .inl (cI, rn, .inl (tf))), (pa, .inl (cB, pn, .inl (pf)))])) (by decide) (Nat.le_of_ble_eq_true rfl) ?_
  intro p e s m below meth c ls A hE hr hlocks hin hsz hK hP hD hS hA hAe hl
  have hx := hE.1
  have hb := hE.2.1
  have hown := hE.2.2.2.1
  have hw := hE.2.2.2.2
  have hl : lv_has ls 2 [(0, .ref x), (1, .int ad)] := hl
  refine lv_aload_n hx hb d_Rv_peek_0 rfl (lv_at hl 0 rfl) ?_
  refine zget hE hK hP 0 rfl fd_Rv_19 rfl d_Rv_peek_1 ?_
  refine lv_iload_n hx hb d_Rv_peek_4 rfl (lv_at hl 1 rfl) ?_
  refine lv_iconst (v := 1) hx hb d_Rv_peek_5 (by decide) ?_
  refine zgoi (wr := [(x, .inr (0, [.ref wa, .int wc, .ref ra, .ref ma, .ref ua, .ref oa, .int ph, .int dn, .int nx, .int fo])), (ta, .inl (cI, rn, .inl (tf))), (pa, .inl (cB, pn, .inl (pf)))]) (zrunV (n := 2) (As := [.int ad, .int 1]) (rest := []) hE (c_Me_holds l D cI cB cJ _ ad 1 ma md bt lo nl sa ta fa pa pe ba rn sf hR.2.2.2.2.1 hR.2.2.2.2.2.1) cb_Me_holds lk_Rv_74 in_Me_holds se_Me_holds (zpreV (q0 := 1) hK hP hD rfl rfl rfl [1, 2] rfl rfl rfl) ⟨Nat.le_of_ble_eq_true rfl, Nat.le_of_ble_eq_true rfl, Nat.le_of_ble_eq_true rfl, Nat.le_of_ble_eq_true rfl⟩ rfl hl.1 rfl (Nat.le_of_ble_eq_true rfl) d_Rv_peek_6) hP hD hS hA [1, 2] [0, 3, 4] rfl rfl rfl (by decide) (fun r2 u3 H locs hq1 hP hD hS => ?_)
  subst hq1
  have hP : va_P D zC [(x, .inr (0, [.ref wa, .int wc, .ref ra, .ref ma, .ref ua, .ref oa, .int ph, .int dn, .int nx, .int fo])), (ta, .inl (cI, rn, .inl (tf))), (pa, .inl (cB, pn, .inl (pf))), (ma, .inr (1, [.int (nI md), .int (nI bt), .int (nI lo), .int (nI nl), .ref sa, .ref ta, .ref fa, .ref pa, .int (nI pe), .ref ba])), (sa, .inl (cI, rn, .inl (sf)))] _ := hP
  have hD : va_D A [(x, .inr (0, [.ref wa, .int wc, .ref ra, .ref ma, .ref ua, .ref oa, .int ph, .int dn, .int nx, .int fo])), (ta, .inl (cI, rn, .inl (tf))), (pa, .inl (cB, pn, .inl (pf))), (ma, .inr (1, [.int (nI md), .int (nI bt), .int (nI lo), .int (nI nl), .ref sa, .ref ta, .ref fa, .ref pa, .int (nI pe), .ref ba])), (sa, .inl (cI, rn, .inl (sf)))] := hD
  refine z_st (st' := [.int (mHs M ad 1)]) (by rw [show (((sp_Me_holds ad 1 md sf)) : Int32) = mHs M ad 1 from cRep_holds hR _ _]) ?_
  refine lv_if_eq (tgt := 24) hx hb d_Rv_peek_9 (by decide) (fun h4 => ?_) (fun h4 => ?_)
  · refine lv_iconst (v := (-1)) hx hb d_Rv_peek_24 (by decide) ?_
    have hs : (sp_Rv_peek ad M) = (-1) := by rw [sp_Rv_peek, if_pos h4]
    have hP9 := hP.sub (ws' := [(x, .inr (0, [.ref wa, .int wc, .ref ra, .ref ma, .ref ua, .ref oa, .int ph, .int dn, .int nx, .int fo])), (ma, .inr (1, [.int (nI md), .int (nI bt), .int (nI lo), .int (nI nl), .ref sa, .ref ta, .ref fa, .ref pa, .int (nI pe), .ref ba])), (sa, .inl (cI, rn, .inl (sf))), (ta, .inl (cI, rn, .inl (tf))), (pa, .inl (cB, pn, .inl (pf)))]) [0, 3, 4, 1, 2] rfl
    have hD9 := hD.sub (ws' := [(x, .inr (0, [.ref wa, .int wc, .ref ra, .ref ma, .ref ua, .ref oa, .int ph, .int dn, .int nx, .int fo])), (ma, .inr (1, [.int (nI md), .int (nI bt), .int (nI lo), .int (nI nl), .ref sa, .ref ta, .ref fa, .ref pa, .int (nI pe), .ref ba])), (sa, .inl (cI, rn, .inl (sf))), (ta, .inl (cI, rn, .inl (tf))), (pa, .inl (cB, pn, .inl (pf)))]) [0, 3, 4, 1, 2] rfl rfl
    exact zreti hx hb hr rfl hlocks hS () (by rw [hs]) rfl (by exact hP9) (by exact hD9) d_Rv_peek_25
  · obtain ⟨a0, zq, b1, b2, b3, b4, b5, b6, b7, ⟨qq, b8, b10⟩, b9⟩ := cRep_spot hR (h4) (by decide) (by decide)
    refine lv_aload_n hx hb d_Rv_peek_12 rfl (lv_at hl 0 rfl) ?_
    refine zget hE hK hP 0 rfl fd_Rv_19 rfl d_Rv_peek_13 ?_
    refine lv_iload_n hx hb d_Rv_peek_16 rfl (lv_at hl 1 rfl) ?_
    refine lv_iconst (v := 1) hx hb d_Rv_peek_17 (by decide) ?_
    refine zgoi (wr := [(x, .inr (0, [.ref wa, .int wc, .ref ra, .ref ma, .ref ua, .ref oa, .int ph, .int dn, .int nx, .int fo])), (sa, .inl (cI, rn, .inl (sf)))]) (zrunV (n := 2) (As := [.int ad, .int 1]) (rest := []) hE (c_Me_read l D cI cB cJ _ ad 1 ma md bt lo nl sa ta fa pa pe ba rn tf pn pf a0 (zN 1) b1 b2 b3 (z_of _) b4 b5) cb_Me_read lk_Rv_78 in_Me_read se_Me_read (zpreV (q0 := 3) hK hP hD rfl rfl rfl [3, 1, 2] rfl rfl rfl) ⟨Nat.le_of_ble_eq_true rfl, Nat.le_of_ble_eq_true rfl, Nat.le_of_ble_eq_true rfl, Nat.le_of_ble_eq_true rfl⟩ rfl hl.1 rfl (Nat.le_of_ble_eq_true rfl) d_Rv_peek_18) hP hD hS hA [3, 1, 2] [0, 4] rfl rfl rfl (by decide) (fun r6 u7 H locs hq5 hP hD hS => ?_)
    subst hq5
    have hP : va_P D zC [(x, .inr (0, [.ref wa, .int wc, .ref ra, .ref ma, .ref ua, .ref oa, .int ph, .int dn, .int nx, .int fo])), (sa, .inl (cI, rn, .inl (sf))), (ma, .inr (1, [.int (nI md), .int (nI bt), .int (nI lo), .int (nI nl), .ref sa, .ref ta, .ref fa, .ref pa, .int (nI pe), .ref ba])), (ta, .inl (cI, rn, .inl (tf))), (pa, .inl (cB, pn, .inl (pf)))] _ := hP
    have hD : va_D A [(x, .inr (0, [.ref wa, .int wc, .ref ra, .ref ma, .ref ua, .ref oa, .int ph, .int dn, .int nx, .int fo])), (sa, .inl (cI, rn, .inl (sf))), (ma, .inr (1, [.int (nI md), .int (nI bt), .int (nI lo), .int (nI nl), .ref sa, .ref ta, .ref fa, .ref pa, .int (nI pe), .ref ba])), (ta, .inl (cI, rn, .inl (tf))), (pa, .inl (cB, pn, .inl (pf)))] := hD
    refine z_st (st' := [.int (mRd M ad 1)]) (by rw [show (((zrd (fun i => pf (a0 + i)) (zN 1) 0)) : Int32) = mRd M ad 1 from by unfold mRd; exact zrd_congr _ _ b9]) ?_
    refine lv_goto (tgt := 25) hx hb d_Rv_peek_21 (by decide) ?_
    have hs : (sp_Rv_peek ad M) = mRd M ad 1 := by rw [sp_Rv_peek, if_neg h4]
    have hP9 := hP.sub (ws' := [(x, .inr (0, [.ref wa, .int wc, .ref ra, .ref ma, .ref ua, .ref oa, .int ph, .int dn, .int nx, .int fo])), (ma, .inr (1, [.int (nI md), .int (nI bt), .int (nI lo), .int (nI nl), .ref sa, .ref ta, .ref fa, .ref pa, .int (nI pe), .ref ba])), (sa, .inl (cI, rn, .inl (sf))), (ta, .inl (cI, rn, .inl (tf))), (pa, .inl (cB, pn, .inl (pf)))]) [0, 2, 1, 3, 4] rfl
    have hD9 := hD.sub (ws' := [(x, .inr (0, [.ref wa, .int wc, .ref ra, .ref ma, .ref ua, .ref oa, .int ph, .int dn, .int nx, .int fo])), (ma, .inr (1, [.int (nI md), .int (nI bt), .int (nI lo), .int (nI nl), .ref sa, .ref ta, .ref fa, .ref pa, .int (nI pe), .ref ba])), (sa, .inl (cI, rn, .inl (sf))), (ta, .inl (cI, rn, .inl (tf))), (pa, .inl (cB, pn, .inl (pf)))]) [0, 2, 1, 3, 4] rfl rfl
    exact zreti hx hb hr rfl hlocks hS () (by rw [hs]) rfl (by exact hP9) (by exact hD9) d_Rv_peek_25
