/-! begin, input, take, in own words -/
theorem MI_empty : MI mEmpty := ⟨Nat.zero_le _, Nat.zero_le _, (fun k z h => by cases h), rfl, Nat.le_refl _, List.nodup_nil, (fun k h => by cases h), (fun k z h => by cases h)⟩
theorem cRep_empty {M : MM} {md bt nl pe rn pn : Nat} {sf tf uf pf : Nat → Int32} (h : cRep M md bt nl pe rn pn sf tf uf pf) : cRep mEmpty 0 0 0 0 rn pn sf tf uf pf := by
  obtain ⟨hI, e1, e2, e3, e4, e5, e6, e7, e8, e9, -⟩ := h
  exact ⟨MI_empty, rfl, rfl, rfl, by omega, e5, Nat.zero_le _, e7, e8, e9, (fun k h1 h2 => by omega), (fun k z h => by cases h), (fun i h => by cases h), fun _ => 0, (fun k z h => by cases h), (fun j k y z _ h => by cases h), (fun k z i h => by cases h)⟩
def xTk : Nat → Int64 → List Int32 → Int64 × List Int32
  | 0, t, L => (t, L)
  | j + 1, t, L => xTk j ((zlshl t 8) ||| ((bRem L).1 : Int32).toInt64) (bRem L).2
def xIn (w : Int64) : Nat → List Int32 → List Int32
  | 0, L => L
  | j + 1, L => xIn w j (bAdd 1000 L ((zlushr w (8 * (nI j)) : Int64).toInt32))
theorem wdf_z {f : Nat → Int32} {n d : Nat} (h : ∀ j, n ≤ j → f j = 0) : wdf f n d = f := by
  funext j
  by_cases c : j < n
  · exact wdf_at c
  · unfold wdf
    by_cases e : d ≤ n
    · rw [if_pos e]
    · rw [if_neg e, pk_cpy_out (by omega), h j (by omega)]
/-! decode rows -/
theorem d_Rv_begin_0 : decode b_Rv_begin 0 = .ok (.iload_n 1, 1) := by decide +kernel
theorem d_Rv_begin_1 : decode b_Rv_begin 1 = .ok (.ifCond .lt 11, 3) := by decide +kernel
theorem d_Rv_begin_4 : decode b_Rv_begin 4 = .ok (.iload_n 1, 1) := by decide +kernel
theorem d_Rv_begin_5 : decode b_Rv_begin 5 = .ok (.aload_n 0, 1) := by decide +kernel
theorem d_Rv_begin_6 : decode b_Rv_begin 6 = .ok (.getfield 39, 3) := by decide +kernel
theorem d_Rv_begin_9 : decode b_Rv_begin 9 = .ok (.if_icmp .lt 11, 3) := by decide +kernel
theorem d_Rv_begin_12 : decode b_Rv_begin 12 = .ok (.new 49, 3) := by decide +kernel
theorem d_Rv_begin_15 : decode b_Rv_begin 15 = .ok (.dup, 1) := by decide +kernel
theorem d_Rv_begin_16 : decode b_Rv_begin 16 = .ok (.invokespecial 51, 3) := by decide +kernel
theorem d_Rv_begin_19 : decode b_Rv_begin 19 = .ok (.athrow, 1) := by decide +kernel
theorem d_Rv_begin_20 : decode b_Rv_begin 20 = .ok (.aload_n 0, 1) := by decide +kernel
theorem d_Rv_begin_21 : decode b_Rv_begin 21 = .ok (.getfield 13, 3) := by decide +kernel
theorem d_Rv_begin_24 : decode b_Rv_begin 24 = .ok (.iconst 0, 1) := by decide +kernel
theorem d_Rv_begin_25 : decode b_Rv_begin 25 = .ok (.invokestatic 52, 3) := by decide +kernel
theorem d_Rv_begin_28 : decode b_Rv_begin 28 = .ok (.aload_n 0, 1) := by decide +kernel
theorem d_Rv_begin_29 : decode b_Rv_begin 29 = .ok (.getfield 19, 3) := by decide +kernel
theorem d_Rv_begin_32 : decode b_Rv_begin 32 = .ok (.invokevirtual 58, 3) := by decide +kernel
theorem d_Rv_begin_35 : decode b_Rv_begin 35 = .ok (.aload_n 0, 1) := by decide +kernel
theorem d_Rv_begin_36 : decode b_Rv_begin 36 = .ok (.getfield 32, 3) := by decide +kernel
theorem d_Rv_begin_39 : decode b_Rv_begin 39 = .ok (.invokevirtual 61, 3) := by decide +kernel
theorem d_Rv_begin_42 : decode b_Rv_begin 42 = .ok (.aload_n 0, 1) := by decide +kernel
theorem d_Rv_begin_43 : decode b_Rv_begin 43 = .ok (.iconst 1, 1) := by decide +kernel
theorem d_Rv_begin_44 : decode b_Rv_begin 44 = .ok (.putfield 35, 3) := by decide +kernel
theorem d_Rv_begin_47 : decode b_Rv_begin 47 = .ok (.aload_n 0, 1) := by decide +kernel
theorem d_Rv_begin_48 : decode b_Rv_begin 48 = .ok (.iconst 0, 1) := by decide +kernel
theorem d_Rv_begin_49 : decode b_Rv_begin 49 = .ok (.putfield 62, 3) := by decide +kernel
theorem d_Rv_begin_52 : decode b_Rv_begin 52 = .ok (.aload_n 0, 1) := by decide +kernel
theorem d_Rv_begin_53 : decode b_Rv_begin 53 = .ok (.iconst 4, 1) := by decide +kernel
theorem d_Rv_begin_54 : decode b_Rv_begin 54 = .ok (.iload_n 1, 1) := by decide +kernel
theorem d_Rv_begin_55 : decode b_Rv_begin 55 = .ok (.imul, 1) := by decide +kernel
theorem d_Rv_begin_56 : decode b_Rv_begin 56 = .ok (.putfield 65, 3) := by decide +kernel
theorem d_Rv_begin_59 : decode b_Rv_begin 59 = .ok (.return_, 1) := by decide +kernel
theorem d_Rv_input_0 : decode b_Rv_input 0 = .ok (.iload_n 3, 1) := by decide +kernel
theorem d_Rv_input_1 : decode b_Rv_input 1 = .ok (.ifCond .lt 9, 3) := by decide +kernel
theorem d_Rv_input_4 : decode b_Rv_input 4 = .ok (.iload_n 3, 1) := by decide +kernel
theorem d_Rv_input_5 : decode b_Rv_input 5 = .ok (.bipush 8, 2) := by decide +kernel
theorem d_Rv_input_7 : decode b_Rv_input 7 = .ok (.if_icmp .le 11, 3) := by decide +kernel
theorem d_Rv_input_10 : decode b_Rv_input 10 = .ok (.new 68, 3) := by decide +kernel
theorem d_Rv_input_13 : decode b_Rv_input 13 = .ok (.dup, 1) := by decide +kernel
theorem d_Rv_input_14 : decode b_Rv_input 14 = .ok (.invokespecial 70, 3) := by decide +kernel
theorem d_Rv_input_17 : decode b_Rv_input 17 = .ok (.athrow, 1) := by decide +kernel
theorem d_Rv_input_18 : decode b_Rv_input 18 = .ok (.aload_n 0, 1) := by decide +kernel
theorem d_Rv_input_19 : decode b_Rv_input 19 = .ok (.getfield 28, 3) := by decide +kernel
theorem d_Rv_input_22 : decode b_Rv_input 22 = .ok (.getfield 82, 3) := by decide +kernel
theorem d_Rv_input_25 : decode b_Rv_input 25 = .ok (.iload_n 3, 1) := by decide +kernel
theorem d_Rv_input_26 : decode b_Rv_input 26 = .ok (.iadd, 1) := by decide +kernel
theorem d_Rv_input_27 : decode b_Rv_input 27 = .ok (.sipush 1000, 3) := by decide +kernel
theorem d_Rv_input_30 : decode b_Rv_input 30 = .ok (.if_icmp .le 11, 3) := by decide +kernel
theorem d_Rv_input_33 : decode b_Rv_input 33 = .ok (.new 42, 3) := by decide +kernel
theorem d_Rv_input_36 : decode b_Rv_input 36 = .ok (.dup, 1) := by decide +kernel
theorem d_Rv_input_37 : decode b_Rv_input 37 = .ok (.invokespecial 44, 3) := by decide +kernel
theorem d_Rv_input_40 : decode b_Rv_input 40 = .ok (.athrow, 1) := by decide +kernel
theorem d_Rv_input_41 : decode b_Rv_input 41 = .ok (.iload_n 3, 1) := by decide +kernel
theorem d_Rv_input_42 : decode b_Rv_input 42 = .ok (.iconst 1, 1) := by decide +kernel
theorem d_Rv_input_43 : decode b_Rv_input 43 = .ok (.isub, 1) := by decide +kernel
theorem d_Rv_input_44 : decode b_Rv_input 44 = .ok (.istore 4, 2) := by decide +kernel
theorem d_Rv_input_46 : decode b_Rv_input 46 = .ok (.iload 4, 2) := by decide +kernel
theorem d_Rv_input_48 : decode b_Rv_input 48 = .ok (.ifCond .lt 24, 3) := by decide +kernel
theorem d_Rv_input_51 : decode b_Rv_input 51 = .ok (.aload_n 0, 1) := by decide +kernel
theorem d_Rv_input_52 : decode b_Rv_input 52 = .ok (.getfield 28, 3) := by decide +kernel
theorem d_Rv_input_55 : decode b_Rv_input 55 = .ok (.lload_n 1, 1) := by decide +kernel
theorem d_Rv_input_56 : decode b_Rv_input 56 = .ok (.bipush 8, 2) := by decide +kernel
theorem d_Rv_input_58 : decode b_Rv_input 58 = .ok (.iload 4, 2) := by decide +kernel
theorem d_Rv_input_60 : decode b_Rv_input 60 = .ok (.imul, 1) := by decide +kernel
theorem d_Rv_input_61 : decode b_Rv_input 61 = .ok (.lushr, 1) := by decide +kernel
theorem d_Rv_input_62 : decode b_Rv_input 62 = .ok (.l2i, 1) := by decide +kernel
theorem d_Rv_input_63 : decode b_Rv_input 63 = .ok (.invokevirtual 85, 3) := by decide +kernel
theorem d_Rv_input_66 : decode b_Rv_input 66 = .ok (.iinc 4 (-1), 3) := by decide +kernel
theorem d_Rv_input_69 : decode b_Rv_input 69 = .ok (.goto (-23), 3) := by decide +kernel
theorem d_Rv_input_72 : decode b_Rv_input 72 = .ok (.aload_n 0, 1) := by decide +kernel
theorem d_Rv_input_73 : decode b_Rv_input 73 = .ok (.getfield 28, 3) := by decide +kernel
theorem d_Rv_input_76 : decode b_Rv_input 76 = .ok (.getfield 82, 3) := by decide +kernel
theorem d_Rv_input_79 : decode b_Rv_input 79 = .ok (.ireturn, 1) := by decide +kernel
theorem d_Rv_take_0 : decode b_Rv_take 0 = .ok (.bipush 8, 2) := by decide +kernel
theorem d_Rv_take_2 : decode b_Rv_take 2 = .ok (.aload_n 0, 1) := by decide +kernel
theorem d_Rv_take_3 : decode b_Rv_take 3 = .ok (.getfield 32, 3) := by decide +kernel
theorem d_Rv_take_6 : decode b_Rv_take 6 = .ok (.getfield 82, 3) := by decide +kernel
theorem d_Rv_take_9 : decode b_Rv_take 9 = .ok (.invokestatic 88, 3) := by decide +kernel
theorem d_Rv_take_12 : decode b_Rv_take 12 = .ok (.istore_n 1, 1) := by decide +kernel
theorem d_Rv_take_13 : decode b_Rv_take 13 = .ok (.lconst 0, 1) := by decide +kernel
theorem d_Rv_take_14 : decode b_Rv_take 14 = .ok (.lstore_n 2, 1) := by decide +kernel
theorem d_Rv_take_15 : decode b_Rv_take 15 = .ok (.iconst 0, 1) := by decide +kernel
theorem d_Rv_take_16 : decode b_Rv_take 16 = .ok (.istore 4, 2) := by decide +kernel
theorem d_Rv_take_18 : decode b_Rv_take 18 = .ok (.iload 4, 2) := by decide +kernel
theorem d_Rv_take_20 : decode b_Rv_take 20 = .ok (.iload_n 1, 1) := by decide +kernel
theorem d_Rv_take_21 : decode b_Rv_take 21 = .ok (.if_icmp .ge 23, 3) := by decide +kernel
theorem d_Rv_take_24 : decode b_Rv_take 24 = .ok (.lload_n 2, 1) := by decide +kernel
theorem d_Rv_take_25 : decode b_Rv_take 25 = .ok (.bipush 8, 2) := by decide +kernel
theorem d_Rv_take_27 : decode b_Rv_take 27 = .ok (.lshl, 1) := by decide +kernel
theorem d_Rv_take_28 : decode b_Rv_take 28 = .ok (.aload_n 0, 1) := by decide +kernel
theorem d_Rv_take_29 : decode b_Rv_take 29 = .ok (.getfield 32, 3) := by decide +kernel
theorem d_Rv_take_32 : decode b_Rv_take 32 = .ok (.invokevirtual 93, 3) := by decide +kernel
theorem d_Rv_take_35 : decode b_Rv_take 35 = .ok (.i2l, 1) := by decide +kernel
theorem d_Rv_take_36 : decode b_Rv_take 36 = .ok (.lor, 1) := by decide +kernel
theorem d_Rv_take_37 : decode b_Rv_take 37 = .ok (.lstore_n 2, 1) := by decide +kernel
theorem d_Rv_take_38 : decode b_Rv_take 38 = .ok (.iinc 4 1, 3) := by decide +kernel
theorem d_Rv_take_41 : decode b_Rv_take 41 = .ok (.goto (-23), 3) := by decide +kernel
theorem d_Rv_take_44 : decode b_Rv_take 44 = .ok (.lload_n 2, 1) := by decide +kernel
theorem d_Rv_take_45 : decode b_Rv_take 45 = .ok (.lreturn, 1) := by decide +kernel
theorem d_Rv_word_0 : decode b_Rv_word 0 = .ok (.aload_n 0, 1) := by decide +kernel
theorem d_Rv_word_1 : decode b_Rv_word 1 = .ok (.getfield 39, 3) := by decide +kernel
theorem d_Rv_word_4 : decode b_Rv_word 4 = .ok (.sipush 4000, 3) := by decide +kernel
theorem d_Rv_word_7 : decode b_Rv_word 7 = .ok (.if_icmp .lt 11, 3) := by decide +kernel
theorem d_Rv_word_10 : decode b_Rv_word 10 = .ok (.new 42, 3) := by decide +kernel
theorem d_Rv_word_13 : decode b_Rv_word 13 = .ok (.dup, 1) := by decide +kernel
theorem d_Rv_word_14 : decode b_Rv_word 14 = .ok (.invokespecial 44, 3) := by decide +kernel
theorem d_Rv_word_17 : decode b_Rv_word 17 = .ok (.athrow, 1) := by decide +kernel
theorem d_Rv_word_18 : decode b_Rv_word 18 = .ok (.aload_n 0, 1) := by decide +kernel
theorem d_Rv_word_19 : decode b_Rv_word 19 = .ok (.aload_n 0, 1) := by decide +kernel
theorem d_Rv_word_20 : decode b_Rv_word 20 = .ok (.getfield 7, 3) := by decide +kernel
theorem d_Rv_word_23 : decode b_Rv_word 23 = .ok (.aload_n 0, 1) := by decide +kernel
theorem d_Rv_word_24 : decode b_Rv_word 24 = .ok (.getfield 39, 3) := by decide +kernel
theorem d_Rv_word_27 : decode b_Rv_word 27 = .ok (.iconst 1, 1) := by decide +kernel
theorem d_Rv_word_28 : decode b_Rv_word 28 = .ok (.iadd, 1) := by decide +kernel
theorem d_Rv_word_29 : decode b_Rv_word 29 = .ok (.sipush 4000, 3) := by decide +kernel
theorem d_Rv_word_32 : decode b_Rv_word 32 = .ok (.invokestatic 45, 3) := by decide +kernel
theorem d_Rv_word_35 : decode b_Rv_word 35 = .ok (.putfield 7, 3) := by decide +kernel
theorem d_Rv_word_38 : decode b_Rv_word 38 = .ok (.aload_n 0, 1) := by decide +kernel
theorem d_Rv_word_39 : decode b_Rv_word 39 = .ok (.getfield 7, 3) := by decide +kernel
theorem d_Rv_word_42 : decode b_Rv_word 42 = .ok (.aload_n 0, 1) := by decide +kernel
theorem d_Rv_word_43 : decode b_Rv_word 43 = .ok (.getfield 39, 3) := by decide +kernel
theorem d_Rv_word_46 : decode b_Rv_word 46 = .ok (.iload_n 1, 1) := by decide +kernel
theorem d_Rv_word_47 : decode b_Rv_word 47 = .ok (.iastore, 1) := by decide +kernel
theorem d_Rv_word_48 : decode b_Rv_word 48 = .ok (.aload_n 0, 1) := by decide +kernel
theorem d_Rv_word_49 : decode b_Rv_word 49 = .ok (.dup, 1) := by decide +kernel
theorem d_Rv_word_50 : decode b_Rv_word 50 = .ok (.getfield 39, 3) := by decide +kernel
theorem d_Rv_word_53 : decode b_Rv_word 53 = .ok (.iconst 1, 1) := by decide +kernel
theorem d_Rv_word_54 : decode b_Rv_word 54 = .ok (.iadd, 1) := by decide +kernel
theorem d_Rv_word_55 : decode b_Rv_word 55 = .ok (.putfield 39, 3) := by decide +kernel
theorem d_Rv_word_58 : decode b_Rv_word 58 = .ok (.aload_n 0, 1) := by decide +kernel
theorem d_Rv_word_59 : decode b_Rv_word 59 = .ok (.getfield 39, 3) := by decide +kernel
theorem d_Rv_word_62 : decode b_Rv_word 62 = .ok (.ireturn, 1) := by decide +kernel

set_option maxHeartbeats 4000000 in
theorem c_Rv_begin (l : Launch) (D : va_G) (cI cB cJ : ClassId) (sz : Nat) (k : Int32) (x : Nat) (wa : Nat) (wc : Int32) (ra : Nat) (ma : Nat) (ua : Nat) (oa : Nat) (ph : Int32) (dn : Int32) (nx : Int32) (fo : Int32) (rg : Nat → Int32) (md : Nat) (bt : Nat) (lo : Nat) (nl : Nat) (sa : Nat) (ta : Nat) (fa : Nat) (pa : Nat) (pe : Nat) (ba : Nat) (orr : Nat) (oi : Nat) (oh : Nat) (hk : 0 ≤ k.toInt ∧ k.toInt < wc.toInt) : zMet l y_Rv_begin (zWs y_Rv_begin b_Rv_begin 2 (none)) { frames := 6, cells := 0, slots := 0, locals := 110 } (zPc D (zT cI cB cJ) sz [(x, .inr (0, [.ref wa, .int wc, .ref ra, .ref ma, .ref ua, .ref oa, .int ph, .int dn, .int nx, .int fo])), (ra, .inl (cI, 32, .inl (rg))), (ma, .inr (1, [.int (nI md), .int (nI bt), .int (nI lo), .int (nI nl), .ref sa, .ref ta, .ref fa, .ref pa, .int (nI pe), .ref ba])), (oa, .inr (2, [.ref orr, .int (nI oi), .int (nI oh)]))] [.ref x, .int k]) (zQv D (va_A [(x, .inr (0, [.ref wa, .int wc, .ref ra, .ref ma, .ref ua, .ref oa, .int ph, .int dn, .int nx, .int fo])), (ra, .inl (cI, 32, .inl (rg))), (ma, .inr (1, [.int (nI md), .int (nI bt), .int (nI lo), .int (nI nl), .ref sa, .ref ta, .ref fa, .ref pa, .int (nI pe), .ref ba])), (oa, .inr (2, [.ref orr, .int (nI oi), .int (nI oh)]))] sz) (fun (_ : Unit) => True) (z0) (fun _ => [(x, .inr (0, [.ref wa, .int wc, .ref ra, .ref ma, .ref ua, .ref oa, .int 1, .int 0, .int (4 * k), .int fo])), (ra, .inl (cI, 32, .inl (fun _ => 0))), (ma, .inr (1, [.int (nI 0), .int (nI 0), .int (nI 0), .int (nI 0), .ref sa, .ref ta, .ref fa, .ref pa, .int (nI 0), .ref ba])), (oa, .inr (2, [.ref orr, .int (nI 0), .int (nI 0)]))])) (va_A [(x, .inr (0, [.ref wa, .int wc, .ref ra, .ref ma, .ref ua, .ref oa, .int ph, .int dn, .int nx, .int fo])), (ra, .inl (cI, 32, .inl (rg))), (ma, .inr (1, [.int (nI md), .int (nI bt), .int (nI lo), .int (nI nl), .ref sa, .ref ta, .ref fa, .ref pa, .int (nI pe), .ref ba])), (oa, .inr (2, [.ref orr, .int (nI oi), .int (nI oh)]))] sz) := by
  refine zstart (Qc := fun A => zQv D A (fun (_ : Unit) => True) (z0) (fun _ => [(x, .inr (0, [.ref wa, .int wc, .ref ra, .ref ma, .ref ua, .ref oa, .int 1, .int 0, .int (4 * k), .int fo])), (ra, .inl (cI, 32, .inl (fun _ => 0))), (ma, .inr (1, [.int (nI 0), .int (nI 0), .int (nI 0), .int (nI 0), .ref sa, .ref ta, .ref fa, .ref pa, .int (nI 0), .ref ba])), (oa, .inr (2, [.ref orr, .int (nI 0), .int (nI 0)]))])) (by decide) (Nat.le_of_ble_eq_true rfl) ?_
  intro p e s m below meth c ls A hE hr hlocks hin hsz hK hP hD hS hA hAe hl
  have hx := hE.1
  have hb := hE.2.1
  have hown := hE.2.2.2.1
  have hw := hE.2.2.2.2
  have hl : lv_has ls 2 [(0, .ref x), (1, .int k)] := hl
  refine lv_iload_n hx hb d_Rv_begin_0 rfl (lv_at hl 1 rfl) ?_
  refine lv_if_lt (tgt := 12) hx hb d_Rv_begin_1 (by decide) (fun h1 => (show False by have q1 := z_lt h1; have k0 : ((0) : Int32).toInt = 0 := (by decide); omega).elim) (fun h1 => ?_)
  refine lv_iload_n hx hb d_Rv_begin_4 rfl (lv_at hl 1 rfl) ?_
  refine lv_aload_n hx hb d_Rv_begin_5 rfl (lv_at hl 0 rfl) ?_
  refine zget hE hK hP 0 rfl fd_Rv_39 rfl d_Rv_begin_6 ?_
  refine lv_icmp_lt (tgt := 20) hx hb d_Rv_begin_9 (by decide) (fun h2 => ?_) (fun h2 => (show False by have q1 := z_nlt h1; have q2 := z_nlt h2; have k0 : ((0) : Int32).toInt = 0 := (by decide); omega).elim)
  refine lv_aload_n hx hb d_Rv_begin_20 rfl (lv_at hl 0 rfl) ?_
  refine zget hE hK hP 0 rfl fd_Rv_13 rfl d_Rv_begin_21 ?_
  refine lv_iconst (v := 0) hx hb d_Rv_begin_24 (by decide) ?_
  refine zgov (wr := [(x, .inr (0, [.ref wa, .int wc, .ref ra, .ref ma, .ref ua, .ref oa, .int ph, .int dn, .int nx, .int fo])), (ma, .inr (1, [.int (nI md), .int (nI bt), .int (nI lo), .int (nI nl), .ref sa, .ref ta, .ref fa, .ref pa, .int (nI pe), .ref ba])), (oa, .inr (2, [.ref orr, .int (nI oi), .int (nI oh)]))]) (zrunS (n := 2) (As := [.ref ra, .int 0]) (rest := []) hE (c_Ar_fill l D cI cB cJ _ ra 0 32 rg (by decide)) cb_Ar_fill lk_Rv_52 st_Ar_fill (zpreS hK hP hD [1] rfl rfl rfl) ⟨Nat.le_of_ble_eq_true rfl, Nat.le_of_ble_eq_true rfl, Nat.le_of_ble_eq_true rfl, Nat.le_of_ble_eq_true rfl⟩ rfl hl.1 rfl (Nat.le_of_ble_eq_true rfl) d_Rv_begin_25) hP hD hS hA [1] [0, 2, 3] rfl rfl rfl (by decide) (fun u5 H locs hq3 hP hD hS => ?_)
  clear hq3
  have hP : va_P D zC [(x, .inr (0, [.ref wa, .int wc, .ref ra, .ref ma, .ref ua, .ref oa, .int ph, .int dn, .int nx, .int fo])), (ma, .inr (1, [.int (nI md), .int (nI bt), .int (nI lo), .int (nI nl), .ref sa, .ref ta, .ref fa, .ref pa, .int (nI pe), .ref ba])), (oa, .inr (2, [.ref orr, .int (nI oi), .int (nI oh)])), (ra, .inl (cI, 32, .inl (fun _ => 0)))] _ := hP
  have hD : va_D A [(x, .inr (0, [.ref wa, .int wc, .ref ra, .ref ma, .ref ua, .ref oa, .int ph, .int dn, .int nx, .int fo])), (ma, .inr (1, [.int (nI md), .int (nI bt), .int (nI lo), .int (nI nl), .ref sa, .ref ta, .ref fa, .ref pa, .int (nI pe), .ref ba])), (oa, .inr (2, [.ref orr, .int (nI oi), .int (nI oh)])), (ra, .inl (cI, 32, .inl (fun _ => 0)))] := hD
  refine lv_aload_n hx hb d_Rv_begin_28 rfl (lv_at hl 0 rfl) ?_
  refine zget hE hK hP 0 rfl fd_Rv_19 rfl d_Rv_begin_29 ?_
  refine zgov (wr := [(x, .inr (0, [.ref wa, .int wc, .ref ra, .ref ma, .ref ua, .ref oa, .int ph, .int dn, .int nx, .int fo])), (oa, .inr (2, [.ref orr, .int (nI oi), .int (nI oh)])), (ra, .inl (cI, 32, .inl (fun _ => 0)))]) (zrunV (n := 0) (As := []) (rest := []) hE (c_Me_forgetAll l D cI cB cJ _ ma md bt lo nl sa ta fa pa pe ba) cb_Me_forgetAll lk_Rv_58 in_Me_forgetAll se_Me_forgetAll (zpreV (q0 := 1) hK hP hD rfl rfl rfl [1] rfl rfl rfl) ⟨Nat.le_of_ble_eq_true rfl, Nat.le_of_ble_eq_true rfl, Nat.le_of_ble_eq_true rfl, Nat.le_of_ble_eq_true rfl⟩ rfl hl.1 rfl (Nat.le_of_ble_eq_true rfl) d_Rv_begin_32) hP hD hS hA [1] [0, 2, 3] rfl rfl rfl (by decide) (fun u8 H locs hq6 hP hD hS => ?_)
  clear hq6
  have hP : va_P D zC [(x, .inr (0, [.ref wa, .int wc, .ref ra, .ref ma, .ref ua, .ref oa, .int ph, .int dn, .int nx, .int fo])), (oa, .inr (2, [.ref orr, .int (nI oi), .int (nI oh)])), (ra, .inl (cI, 32, .inl (fun _ => 0))), (ma, .inr (1, [.int (nI 0), .int (nI 0), .int (nI 0), .int (nI 0), .ref sa, .ref ta, .ref fa, .ref pa, .int (nI 0), .ref ba]))] _ := hP
  have hD : va_D A [(x, .inr (0, [.ref wa, .int wc, .ref ra, .ref ma, .ref ua, .ref oa, .int ph, .int dn, .int nx, .int fo])), (oa, .inr (2, [.ref orr, .int (nI oi), .int (nI oh)])), (ra, .inl (cI, 32, .inl (fun _ => 0))), (ma, .inr (1, [.int (nI 0), .int (nI 0), .int (nI 0), .int (nI 0), .ref sa, .ref ta, .ref fa, .ref pa, .int (nI 0), .ref ba]))] := hD
  refine lv_aload_n hx hb d_Rv_begin_35 rfl (lv_at hl 0 rfl) ?_
  refine zget hE hK hP 0 rfl fd_Rv_32 rfl d_Rv_begin_36 ?_
  refine zgov (wr := [(x, .inr (0, [.ref wa, .int wc, .ref ra, .ref ma, .ref ua, .ref oa, .int ph, .int dn, .int nx, .int fo])), (ra, .inl (cI, 32, .inl (fun _ => 0))), (ma, .inr (1, [.int (nI 0), .int (nI 0), .int (nI 0), .int (nI 0), .ref sa, .ref ta, .ref fa, .ref pa, .int (nI 0), .ref ba]))]) (zrunV (n := 0) (As := []) (rest := []) hE (c_By_forgetAll l D cI cB cJ _ oa orr oi oh) cb_By_forgetAll lk_Rv_61 in_By_forgetAll se_By_forgetAll (zpreV (q0 := 1) hK hP hD rfl rfl rfl [1] rfl rfl rfl) ⟨Nat.le_of_ble_eq_true rfl, Nat.le_of_ble_eq_true rfl, Nat.le_of_ble_eq_true rfl, Nat.le_of_ble_eq_true rfl⟩ rfl hl.1 rfl (Nat.le_of_ble_eq_true rfl) d_Rv_begin_39) hP hD hS hA [1] [0, 2, 3] rfl rfl rfl (by decide) (fun u11 H locs hq9 hP hD hS => ?_)
  clear hq9
  have hP : va_P D zC [(x, .inr (0, [.ref wa, .int wc, .ref ra, .ref ma, .ref ua, .ref oa, .int ph, .int dn, .int nx, .int fo])), (ra, .inl (cI, 32, .inl (fun _ => 0))), (ma, .inr (1, [.int (nI 0), .int (nI 0), .int (nI 0), .int (nI 0), .ref sa, .ref ta, .ref fa, .ref pa, .int (nI 0), .ref ba])), (oa, .inr (2, [.ref orr, .int (nI 0), .int (nI 0)]))] _ := hP
  have hD : va_D A [(x, .inr (0, [.ref wa, .int wc, .ref ra, .ref ma, .ref ua, .ref oa, .int ph, .int dn, .int nx, .int fo])), (ra, .inl (cI, 32, .inl (fun _ => 0))), (ma, .inr (1, [.int (nI 0), .int (nI 0), .int (nI 0), .int (nI 0), .ref sa, .ref ta, .ref fa, .ref pa, .int (nI 0), .ref ba])), (oa, .inr (2, [.ref orr, .int (nI 0), .int (nI 0)]))] := hD
  refine lv_aload_n hx hb d_Rv_begin_42 rfl (lv_at hl 0 rfl) ?_
  refine lv_iconst (v := 1) hx hb d_Rv_begin_43 (by decide) ?_
  refine zput (v := .int 1) hE hK hP hD hS 0 rfl fd_Rv_35 ft_Rv_6 rfl rfl (Nat.le_of_ble_eq_true rfl) d_Rv_begin_44 (fun H locs hP hD hS => ?_)
  have hP : va_P D zC [(x, .inr (0, [.ref wa, .int wc, .ref ra, .ref ma, .ref ua, .ref oa, .int 1, .int dn, .int nx, .int fo])), (ra, .inl (cI, 32, .inl (fun _ => 0))), (ma, .inr (1, [.int (nI 0), .int (nI 0), .int (nI 0), .int (nI 0), .ref sa, .ref ta, .ref fa, .ref pa, .int (nI 0), .ref ba])), (oa, .inr (2, [.ref orr, .int (nI 0), .int (nI 0)]))] _ := hP
  have hD : va_D A [(x, .inr (0, [.ref wa, .int wc, .ref ra, .ref ma, .ref ua, .ref oa, .int 1, .int dn, .int nx, .int fo])), (ra, .inl (cI, 32, .inl (fun _ => 0))), (ma, .inr (1, [.int (nI 0), .int (nI 0), .int (nI 0), .int (nI 0), .ref sa, .ref ta, .ref fa, .ref pa, .int (nI 0), .ref ba])), (oa, .inr (2, [.ref orr, .int (nI 0), .int (nI 0)]))] := hD
  refine lv_aload_n hx hb d_Rv_begin_47 rfl (lv_at hl 0 rfl) ?_
  refine lv_iconst (v := 0) hx hb d_Rv_begin_48 (by decide) ?_
  refine zput (v := .int 0) hE hK hP hD hS 0 rfl fd_Rv_62 ft_Rv_7 rfl rfl (Nat.le_of_ble_eq_true rfl) d_Rv_begin_49 (fun H locs hP hD hS => ?_)
  have hP : va_P D zC [(x, .inr (0, [.ref wa, .int wc, .ref ra, .ref ma, .ref ua, .ref oa, .int 1, .int 0, .int nx, .int fo])), (ra, .inl (cI, 32, .inl (fun _ => 0))), (ma, .inr (1, [.int (nI 0), .int (nI 0), .int (nI 0), .int (nI 0), .ref sa, .ref ta, .ref fa, .ref pa, .int (nI 0), .ref ba])), (oa, .inr (2, [.ref orr, .int (nI 0), .int (nI 0)]))] _ := hP
  have hD : va_D A [(x, .inr (0, [.ref wa, .int wc, .ref ra, .ref ma, .ref ua, .ref oa, .int 1, .int 0, .int nx, .int fo])), (ra, .inl (cI, 32, .inl (fun _ => 0))), (ma, .inr (1, [.int (nI 0), .int (nI 0), .int (nI 0), .int (nI 0), .ref sa, .ref ta, .ref fa, .ref pa, .int (nI 0), .ref ba])), (oa, .inr (2, [.ref orr, .int (nI 0), .int (nI 0)]))] := hD
  refine lv_aload_n hx hb d_Rv_begin_52 rfl (lv_at hl 0 rfl) ?_
  refine lv_iconst (v := 4) hx hb d_Rv_begin_53 (by decide) ?_
  refine lv_iload_n hx hb d_Rv_begin_54 rfl (lv_at hl 1 rfl) ?_
  refine lv_imul hx hb d_Rv_begin_55 ?_
  refine zput (v := .int (4 * k)) hE hK hP hD hS 0 rfl fd_Rv_65 ft_Rv_8 rfl rfl (Nat.le_of_ble_eq_true rfl) d_Rv_begin_56 (fun H locs hP hD hS => ?_)
  have hP : va_P D zC [(x, .inr (0, [.ref wa, .int wc, .ref ra, .ref ma, .ref ua, .ref oa, .int 1, .int 0, .int (4 * k), .int fo])), (ra, .inl (cI, 32, .inl (fun _ => 0))), (ma, .inr (1, [.int (nI 0), .int (nI 0), .int (nI 0), .int (nI 0), .ref sa, .ref ta, .ref fa, .ref pa, .int (nI 0), .ref ba])), (oa, .inr (2, [.ref orr, .int (nI 0), .int (nI 0)]))] _ := hP
  have hD : va_D A [(x, .inr (0, [.ref wa, .int wc, .ref ra, .ref ma, .ref ua, .ref oa, .int 1, .int 0, .int (4 * k), .int fo])), (ra, .inl (cI, 32, .inl (fun _ => 0))), (ma, .inr (1, [.int (nI 0), .int (nI 0), .int (nI 0), .int (nI 0), .ref sa, .ref ta, .ref fa, .ref pa, .int (nI 0), .ref ba])), (oa, .inr (2, [.ref orr, .int (nI 0), .int (nI 0)]))] := hD
  have hP9 := hP.sub (ws' := [(x, .inr (0, [.ref wa, .int wc, .ref ra, .ref ma, .ref ua, .ref oa, .int 1, .int 0, .int (4 * k), .int fo])), (ra, .inl (cI, 32, .inl (fun _ => 0))), (ma, .inr (1, [.int (nI 0), .int (nI 0), .int (nI 0), .int (nI 0), .ref sa, .ref ta, .ref fa, .ref pa, .int (nI 0), .ref ba])), (oa, .inr (2, [.ref orr, .int (nI 0), .int (nI 0)]))]) [0, 1, 2, 3] rfl
  have hD9 := hD.sub (ws' := [(x, .inr (0, [.ref wa, .int wc, .ref ra, .ref ma, .ref ua, .ref oa, .int 1, .int 0, .int (4 * k), .int fo])), (ra, .inl (cI, 32, .inl (fun _ => 0))), (ma, .inr (1, [.int (nI 0), .int (nI 0), .int (nI 0), .int (nI 0), .ref sa, .ref ta, .ref fa, .ref pa, .int (nI 0), .ref ba])), (oa, .inr (2, [.ref orr, .int (nI 0), .int (nI 0)]))]) [0, 1, 2, 3] rfl rfl
  exact zretv hx hb hr hlocks hS () trivial rfl hP9 hD9 d_Rv_begin_59

set_option maxHeartbeats 4000000 in
theorem c_Rv_word (l : Launch) (D : va_G) (cI cB cJ : ClassId) (sz : Nat) (w : Int32) (x : Nat) (wa : Nat) (wn1 : Nat) (ra : Nat) (ma : Nat) (ua : Nat) (oa : Nat) (ph : Int32) (dn : Int32) (nx : Int32) (fo : Int32) (wl : Nat) (wf : Nat → Int32) (hwn : wn1 < 4000) (hwl : wn1 ≤ wl) (hwl4 : wl ≤ 4000) (hwz : ∀ j, wn1 ≤ j → wf j = 0) : zMet l y_Rv_word (zWs y_Rv_word b_Rv_word 2 (some .int)) { frames := 6, cells := wkc wl (wn1 + 1), slots := wks wl (wn1 + 1) 4000, locals := 110 } (zPc D (zT cI cB cJ) sz [(x, .inr (0, [.ref wa, .int (nI wn1), .ref ra, .ref ma, .ref ua, .ref oa, .int ph, .int dn, .int nx, .int fo])), (wa, .inl (cI, wl, .inl (wf)))] [.ref x, .int w]) (zQi D (va_A [(x, .inr (0, [.ref wa, .int (nI wn1), .ref ra, .ref ma, .ref ua, .ref oa, .int ph, .int dn, .int nx, .int fo])), (wa, .inl (cI, wl, .inl (wf)))] sz) (fun r (_ : Nat) => r = nI (wn1 + 1)) (fun _ => (wkc wl (wn1 + 1), wks wl (wn1 + 1) 4000)) (fun (U : Nat) => [(x, .inr (0, [.ref U, .int (nI (wn1 + 1)), .ref ra, .ref ma, .ref ua, .ref oa, .int ph, .int dn, .int nx, .int fo])), (U, .inl (cI, (wdl wl (wn1 + 1) 4000), .inl (upd wf wn1 w)))])) (va_A [(x, .inr (0, [.ref wa, .int (nI wn1), .ref ra, .ref ma, .ref ua, .ref oa, .int ph, .int dn, .int nx, .int fo])), (wa, .inl (cI, wl, .inl (wf)))] sz) := by
  refine zstart (Qc := fun A => zQi D A (fun r (_ : Nat) => r = nI (wn1 + 1)) (fun _ => (wkc wl (wn1 + 1), wks wl (wn1 + 1) 4000)) (fun (U : Nat) => [(x, .inr (0, [.ref U, .int (nI (wn1 + 1)), .ref ra, .ref ma, .ref ua, .ref oa, .int ph, .int dn, .int nx, .int fo])), (U, .inl (cI, (wdl wl (wn1 + 1) 4000), .inl (upd wf wn1 w)))])) (by decide) (Nat.le_of_ble_eq_true rfl) ?_
  intro p e s m below meth c ls A hE hr hlocks hin hsz hK hP hD hS hA hAe hl
  have hx := hE.1
  have hb := hE.2.1
  have hown := hE.2.2.2.1
  have hw := hE.2.2.2.2
  have hl : lv_has ls 2 [(0, .ref x), (1, .int w)] := hl
  refine lv_aload_n hx hb d_Rv_word_0 rfl (lv_at hl 0 rfl) ?_
  refine zget hE hK hP 0 rfl fd_Rv_39 rfl d_Rv_word_1 ?_
  refine lv_sipush (v := 4000) hx hb d_Rv_word_4 (by decide) ?_
  refine lv_icmp_lt (tgt := 18) hx hb d_Rv_word_7 (by decide) (fun h1 => ?_) (fun h1 => (show False by exact h1 (nI_lt (b := 4000) hwn (by omega))).elim)
  refine lv_aload_n hx hb d_Rv_word_18 rfl (lv_at hl 0 rfl) ?_
  refine lv_aload_n hx hb d_Rv_word_19 rfl (lv_at hl 0 rfl) ?_
  refine zget hE hK hP 0 rfl fd_Rv_7 rfl d_Rv_word_20 ?_
  refine lv_aload_n hx hb d_Rv_word_23 rfl (lv_at hl 0 rfl) ?_
  refine zget hE hK hP 0 rfl fd_Rv_39 rfl d_Rv_word_24 ?_
  refine lv_iconst (v := 1) hx hb d_Rv_word_27 (by decide) ?_
  refine lv_iadd hx hb d_Rv_word_28 ?_
  refine z_st (st' := [.int (nI (wn1 + 1)), .ref wa, .ref x]) (by rw [show (((nI wn1) + 1) : Int32) = nI (wn1 + 1) from nI_1 wn1]) ?_
  refine lv_sipush (v := 4000) hx hb d_Rv_word_29 (by decide) ?_
  refine zgor (wr := [(x, .inr (0, [.ref wa, .int (nI wn1), .ref ra, .ref ma, .ref ua, .ref oa, .int ph, .int dn, .int nx, .int fo]))]) (zrunS (n := 3) (As := [.ref wa, .int (nI (wn1 + 1)), .int 4000]) (rest := [.ref x]) hE (c_Rv_widened l D cI cB cJ _ wa (nI (wn1 + 1)) 4000 wl wf (wn1 + 1) 4000 rfl rfl (by omega) (by omega) (by omega)) cb_Rv_widened lk_Rv_45 st_Rv_widened (zpreS hK hP hD [1] rfl rfl rfl) ⟨Nat.le_of_ble_eq_true rfl, Nat.le_of_ble_eq_true rfl, Nat.le_of_eq (Nat.zero_add _), Nat.le_of_eq (Nat.zero_add _)⟩ rfl hl.1 rfl (Nat.le_of_ble_eq_true rfl) d_Rv_word_32) hP hD hS hA [1] [0] rfl rfl rfl (by decide) (fun r3 u4 H locs hq2 hP hD hS => ?_)
  subst hq2
  have hP : va_P D zC [(x, .inr (0, [.ref wa, .int (nI wn1), .ref ra, .ref ma, .ref ua, .ref oa, .int ph, .int dn, .int nx, .int fo])), (u4, .inl (cI, (wdl wl (wn1 + 1) 4000), .inl (wdf wf wl (wn1 + 1))))] _ := hP
  have hD : va_D A [(x, .inr (0, [.ref wa, .int (nI wn1), .ref ra, .ref ma, .ref ua, .ref oa, .int ph, .int dn, .int nx, .int fo])), (u4, .inl (cI, (wdl wl (wn1 + 1) 4000), .inl (wdf wf wl (wn1 + 1))))] := hD
  refine zput (v := .ref u4) hE hK hP hD hS 0 rfl fd_Rv_7 ft_Rv_0 rfl rfl (Nat.le_of_ble_eq_true rfl) d_Rv_word_35 (fun H locs hP hD hS => ?_)
  have hP : va_P D zC [(x, .inr (0, [.ref u4, .int (nI wn1), .ref ra, .ref ma, .ref ua, .ref oa, .int ph, .int dn, .int nx, .int fo])), (u4, .inl (cI, (wdl wl (wn1 + 1) 4000), .inl (wdf wf wl (wn1 + 1))))] _ := hP
  have hD : va_D A [(x, .inr (0, [.ref u4, .int (nI wn1), .ref ra, .ref ma, .ref ua, .ref oa, .int ph, .int dn, .int nx, .int fo])), (u4, .inl (cI, (wdl wl (wn1 + 1) 4000), .inl (wdf wf wl (wn1 + 1))))] := hD
  refine lv_aload_n hx hb d_Rv_word_38 rfl (lv_at hl 0 rfl) ?_
  refine zget hE hK hP 0 rfl fd_Rv_7 rfl d_Rv_word_39 ?_
  refine lv_aload_n hx hb d_Rv_word_42 rfl (lv_at hl 0 rfl) ?_
  refine zget hE hK hP 0 rfl fd_Rv_39 rfl d_Rv_word_43 ?_
  refine lv_iload_n hx hb d_Rv_word_46 rfl (lv_at hl 1 rfl) ?_
  refine va_iast hx hb hK hP hD hS 1 0 rfl rfl (vp_in_nI (Nat.lt_of_lt_of_le (Nat.lt_succ_self _) (wdl_gt (by omega))) (Nat.lt_of_le_of_lt (wdl_le hwl4) (by decide))) d_Rv_word_47 (fun H locs hP hD hS => ?_)
  have hP : va_P D zC [(x, .inr (0, [.ref u4, .int (nI wn1), .ref ra, .ref ma, .ref ua, .ref oa, .int ph, .int dn, .int nx, .int fo])), (u4, .inl (cI, (wdl wl (wn1 + 1) 4000), .inl (upd (wdf wf wl (wn1 + 1)) (nI wn1).toNatClampNeg w)))] _ := hP
  have hD : va_D A [(x, .inr (0, [.ref u4, .int (nI wn1), .ref ra, .ref ma, .ref ua, .ref oa, .int ph, .int dn, .int nx, .int fo])), (u4, .inl (cI, (wdl wl (wn1 + 1) 4000), .inl (upd (wdf wf wl (wn1 + 1)) (nI wn1).toNatClampNeg w)))] := hD
  rw [show ((upd (wdf wf wl (wn1 + 1)) (nI wn1).toNatClampNeg w) : Nat → Int32) = upd wf wn1 w from by rw [nI_clamp (by omega), wdf_z (fun j hj => hwz j (by omega))]] at hP hD
  have hP : va_P D zC [(x, .inr (0, [.ref u4, .int (nI wn1), .ref ra, .ref ma, .ref ua, .ref oa, .int ph, .int dn, .int nx, .int fo])), (u4, .inl (cI, (wdl wl (wn1 + 1) 4000), .inl (upd wf wn1 w)))] _ := hP
  have hD : va_D A [(x, .inr (0, [.ref u4, .int (nI wn1), .ref ra, .ref ma, .ref ua, .ref oa, .int ph, .int dn, .int nx, .int fo])), (u4, .inl (cI, (wdl wl (wn1 + 1) 4000), .inl (upd wf wn1 w)))] := hD
  refine lv_aload_n hx hb d_Rv_word_48 rfl (lv_at hl 0 rfl) ?_
  refine lv_dup hx hb d_Rv_word_49 rfl ?_
  refine zget hE hK hP 0 rfl fd_Rv_39 rfl d_Rv_word_50 ?_
  refine lv_iconst (v := 1) hx hb d_Rv_word_53 (by decide) ?_
  refine lv_iadd hx hb d_Rv_word_54 ?_
  refine z_st (st' := [.int (nI (wn1 + 1)), .ref x]) (by rw [show (((nI wn1) + 1) : Int32) = nI (wn1 + 1) from nI_1 wn1]) ?_
  refine zput (v := .int (nI (wn1 + 1))) hE hK hP hD hS 0 rfl fd_Rv_39 ft_Rv_1 rfl rfl (Nat.le_of_ble_eq_true rfl) d_Rv_word_55 (fun H locs hP hD hS => ?_)
  have hP : va_P D zC [(x, .inr (0, [.ref u4, .int (nI (wn1 + 1)), .ref ra, .ref ma, .ref ua, .ref oa, .int ph, .int dn, .int nx, .int fo])), (u4, .inl (cI, (wdl wl (wn1 + 1) 4000), .inl (upd wf wn1 w)))] _ := hP
  have hD : va_D A [(x, .inr (0, [.ref u4, .int (nI (wn1 + 1)), .ref ra, .ref ma, .ref ua, .ref oa, .int ph, .int dn, .int nx, .int fo])), (u4, .inl (cI, (wdl wl (wn1 + 1) 4000), .inl (upd wf wn1 w)))] := hD
  refine lv_aload_n hx hb d_Rv_word_58 rfl (lv_at hl 0 rfl) ?_
  refine zget hE hK hP 0 rfl fd_Rv_39 rfl d_Rv_word_59 ?_
  have hP9 := hP.sub (ws' := [(x, .inr (0, [.ref u4, .int (nI (wn1 + 1)), .ref ra, .ref ma, .ref ua, .ref oa, .int ph, .int dn, .int nx, .int fo])), (u4, .inl (cI, (wdl wl (wn1 + 1) 4000), .inl (upd wf wn1 w)))]) [0, 1] rfl
  have hD9 := hD.sub (ws' := [(x, .inr (0, [.ref u4, .int (nI (wn1 + 1)), .ref ra, .ref ma, .ref ua, .ref oa, .int ph, .int dn, .int nx, .int fo])), (u4, .inl (cI, (wdl wl (wn1 + 1) 4000), .inl (upd wf wn1 w)))]) [0, 1] rfl rfl
  exact zreti hx hb hr rfl hlocks hS u4 rfl (Prod.ext (Nat.zero_add _).symm (Nat.zero_add _).symm) hP9 hD9 d_Rv_word_62

set_option maxHeartbeats 4000000 in
theorem c_Rv_take (l : Launch) (D : va_G) (cI cB cJ : ClassId) (sz : Nat) (x : Nat) (wa : Nat) (wc : Int32) (ra : Nat) (ma : Nat) (ua : Nat) (oa : Nat) (ph : Int32) (dn : Int32) (nx : Int32) (fo : Int32) (orr : Nat) (oi : Nat) (oh : Nat) (oqf : Nat → Int32) (O : List Int32) (hO : bR 4096 O oi oh oqf) : zMet l y_Rv_take (zWs y_Rv_take b_Rv_take 5 (some .long)) { frames := 2, cells := 0, slots := 0, locals := 60 } (zPc D (zT cI cB cJ) sz [(x, .inr (0, [.ref wa, .int wc, .ref ra, .ref ma, .ref ua, .ref oa, .int ph, .int dn, .int nx, .int fo])), (oa, .inr (2, [.ref orr, .int (nI oi), .int (nI oh)])), (orr, .inl (cB, 4096, .inl (oqf)))] [.ref x]) (zQl D (va_A [(x, .inr (0, [.ref wa, .int wc, .ref ra, .ref ma, .ref ua, .ref oa, .int ph, .int dn, .int nx, .int fo])), (oa, .inr (2, [.ref orr, .int (nI oi), .int (nI oh)])), (orr, .inl (cB, 4096, .inl (oqf)))] sz) (fun r (U : Nat × Nat) => r = (xTk (min 8 O.length) 0 O).1 ∧ bR 4096 (xTk (min 8 O.length) 0 O).2 U.1 U.2 oqf) (fun _ => (0, 0)) (fun (U : (Nat × Nat)) => [(x, .inr (0, [.ref wa, .int wc, .ref ra, .ref ma, .ref ua, .ref oa, .int ph, .int dn, .int nx, .int fo])), (oa, .inr (2, [.ref orr, .int (nI U.1), .int (nI U.2)])), (orr, .inl (cB, 4096, .inl (oqf)))])) (va_A [(x, .inr (0, [.ref wa, .int wc, .ref ra, .ref ma, .ref ua, .ref oa, .int ph, .int dn, .int nx, .int fo])), (oa, .inr (2, [.ref orr, .int (nI oi), .int (nI oh)])), (orr, .inl (cB, 4096, .inl (oqf)))] sz) := by
  refine zstart (Qc := fun A => zQl D A (fun r (U : Nat × Nat) => r = (xTk (min 8 O.length) 0 O).1 ∧ bR 4096 (xTk (min 8 O.length) 0 O).2 U.1 U.2 oqf) (fun _ => (0, 0)) (fun (U : (Nat × Nat)) => [(x, .inr (0, [.ref wa, .int wc, .ref ra, .ref ma, .ref ua, .ref oa, .int ph, .int dn, .int nx, .int fo])), (oa, .inr (2, [.ref orr, .int (nI U.1), .int (nI U.2)])), (orr, .inl (cB, 4096, .inl (oqf)))])) (by decide) (Nat.le_of_ble_eq_true rfl) ?_
  intro p e s m below meth c ls A hE hr hlocks hin hsz hK hP hD hS hA hAe hl
  have hx := hE.1
  have hb := hE.2.1
  have hown := hE.2.2.2.1
  have hw := hE.2.2.2.2
  have hl : lv_has ls 5 [(0, .ref x)] := hl
  have hoh := hO.2.2.1
  refine lv_bipush (v := 8) hx hb d_Rv_take_0 (by decide) ?_
  refine lv_aload_n hx hb d_Rv_take_2 rfl (lv_at hl 0 rfl) ?_
  refine zget hE hK hP 0 rfl fd_Rv_32 rfl d_Rv_take_3 ?_
  refine zget hE hK hP 1 rfl fd_Rv_82 rfl d_Rv_take_6 ?_
  refine va_mmin (R := { frames := 2, cells := 0, slots := 0, locals := 60 }) hx hb (hE.2.2.1.trans hl.1.symm) hown (hw _ ml_Rv_88) (hw _ mm_min_st) (hw _ mm_ini) (hw _ mm_min_code) (by exact Nat.le_of_ble_eq_true rfl) (by exact Nat.le_of_ble_eq_true rfl) (by exact Nat.le_of_ble_eq_true rfl) (by exact Nat.le_of_ble_eq_true rfl) d_Rv_take_9 ?_
  refine z_st (st' := [.int (nI (min 8 oh))]) (by rw [show ((if (nI oh) < 8 then (nI oh) else 8) : Int32) = nI (min 8 oh) from z_min (a := 8) (by omega) (by omega)]) ?_
  refine lv_istore_n (lv' := [(1, .int (nI (min 8 oh))), (0, .ref x)]) hx hb d_Rv_take_12 rfl hl (by decide) rfl (fun ls hl => ?_)
  refine lv_lconst (v := 0) hx hb d_Rv_take_13 rfl ?_
  refine lv_lstore_n (lv' := [(2, .long 0), (1, .int (nI (min 8 oh))), (0, .ref x)]) hx hb d_Rv_take_14 rfl hl (by decide) rfl (fun ls hl => ?_)
  refine lv_iconst (v := 0) hx hb d_Rv_take_15 (by decide) ?_
  refine lv_istore (lv' := [(4, .int 0), (2, .long 0), (1, .int (nI (min 8 oh))), (0, .ref x)]) hx hb d_Rv_take_16 hl (by decide) rfl (fun ls hl => ?_)
  refine zloopH (σ := (Int64 × List Int32 × Nat × Nat)) (fun j y ls H locs cells slots => (j ≤ (min 8 oh) ∧ xTk j y.1 y.2.1 = xTk (min 8 oh) 0 O ∧ bR 4096 y.2.1 y.2.2.1 y.2.2.2 oqf ∧ cells = 0 ∧ slots = 0) ∧ lv_has ls 5 [(4, .int (nI ((min 8 oh) - j))), (2, .long y.1), (1, .int (nI (min 8 oh))), (0, .ref x)] ∧ va_P D zC [(x, .inr (0, [.ref wa, .int wc, .ref ra, .ref ma, .ref ua, .ref oa, .int ph, .int dn, .int nx, .int fo])), (oa, .inr (2, [.ref orr, .int (nI y.2.2.1), .int (nI y.2.2.2)])), (orr, .inl (cB, 4096, .inl (oqf)))] H ∧ va_D A [(x, .inr (0, [.ref wa, .int wc, .ref ra, .ref ma, .ref ua, .ref oa, .int ph, .int dn, .int nx, .int fo])), (oa, .inr (2, [.ref orr, .int (nI y.2.2.1), .int (nI y.2.2.2)])), (orr, .inl (cB, 4096, .inl (oqf)))] ∧ va_S A s.heap H locs) (fun j y ls H locs cells slots hIv ih => ?_) (min 8 oh) (0, O, oi, oh) ls ⟨⟨Nat.le_refl _, rfl, hO, rfl, rfl⟩, by rw [Nat.sub_self]; exact hl, hP, hD, hS⟩
  obtain ⟨⟨hj, hz, hb1, rfl, rfl⟩, hl, hP, hD, hS⟩ := hIv
  refine lv_iload hx hb d_Rv_take_18 (lv_at hl 0 rfl) ?_
  refine lv_iload_n hx hb d_Rv_take_20 rfl (lv_at hl 2 rfl) ?_
  refine lv_icmp_ge (tgt := 44) hx hb d_Rv_take_21 (by decide) (fun h1 => ?_) (fun h1 => ?_)
  · refine lv_lload_n hx hb d_Rv_take_44 rfl (lv_at hl 1 rfl) ?_
    have hj1 : j = 0 := by have q := z_le' (by omega) h1; omega
    subst hj1
    have hz1 : xTk (min 8 oh) 0 O = (y.1, y.2.1) := hz.symm
    have hP9 := hP.sub (ws' := [(x, .inr (0, [.ref wa, .int wc, .ref ra, .ref ma, .ref ua, .ref oa, .int ph, .int dn, .int nx, .int fo])), (oa, .inr (2, [.ref orr, .int (nI y.2.2.1), .int (nI y.2.2.2)])), (orr, .inl (cB, 4096, .inl (oqf)))]) [0, 1, 2] rfl
    have hD9 := hD.sub (ws' := [(x, .inr (0, [.ref wa, .int wc, .ref ra, .ref ma, .ref ua, .ref oa, .int ph, .int dn, .int nx, .int fo])), (oa, .inr (2, [.ref orr, .int (nI y.2.2.1), .int (nI y.2.2.2)])), (orr, .inl (cB, 4096, .inl (oqf)))]) [0, 1, 2] rfl rfl
    exact zretl hx hb hr hlocks hS (y.2.2.1, y.2.2.2) ⟨by rw [← hO.2.1, hz1], by rw [← hO.2.1, hz1]; exact hb1⟩ rfl hP9 hD9 d_Rv_take_45
  · have hj0 : 0 < j := Nat.pos_of_ne_zero (fun q => h1 (by rw [q]; exact nI_le (Nat.le_refl _) (by omega)))
    obtain ⟨j, rfl⟩ : ∃ q, j = q + 1 := ⟨j - 1, by omega⟩
    have hl : lv_has ls 5 [(4, .int (nI ((min 8 oh) - (j + 1)))), (2, .long y.1), (1, .int (nI (min 8 oh))), (0, .ref x)] := hl
    refine lv_lload_n hx hb d_Rv_take_24 rfl (lv_at hl 1 rfl) ?_
    refine lv_bipush (v := 8) hx hb d_Rv_take_25 (by decide) ?_
    refine lv_lshl (v := zlshl y.1 8) hx hb d_Rv_take_27 rfl ?_
    refine lv_aload_n hx hb d_Rv_take_28 rfl (lv_at hl 3 rfl) ?_
    refine zget hE hK hP 0 rfl fd_Rv_32 rfl d_Rv_take_29 ?_
    refine zgoi (wr := [(x, .inr (0, [.ref wa, .int wc, .ref ra, .ref ma, .ref ua, .ref oa, .int ph, .int dn, .int nx, .int fo]))]) (zrunV (n := 0) (As := []) (rest := [.long (zlshl y.1 8)]) hE (c_By_removeFirst l D cI cB cJ _ oa orr y.2.2.1 y.2.2.2 4096 oqf (by decide) hb1.1 hb1.2.2.1) cb_By_removeFirst lk_Rv_93 in_By_removeFirst se_By_removeFirst (zpreV (q0 := 1) hK hP hD rfl rfl rfl [1, 2] rfl rfl rfl) ⟨Nat.le_of_ble_eq_true rfl, Nat.le_of_ble_eq_true rfl, Nat.le_of_ble_eq_true rfl, Nat.le_of_ble_eq_true rfl⟩ rfl hl.1 rfl (Nat.le_of_ble_eq_true rfl) d_Rv_take_32) hP hD hS hA [1, 2] [0] rfl rfl rfl (by decide) (fun r3 u4 H locs hq2 hP hD hS => ?_)
    subst hq2
    have hP : va_P D zC [(x, .inr (0, [.ref wa, .int wc, .ref ra, .ref ma, .ref ua, .ref oa, .int ph, .int dn, .int nx, .int fo])), (oa, .inr (2, [.ref orr, .int (nI (if y.2.2.2 = 0 then y.2.2.1 else (y.2.2.1 + 1) % 4096)), .int (nI (y.2.2.2 - 1))])), (orr, .inl (cB, 4096, .inl (oqf)))] _ := hP
    have hD : va_D A [(x, .inr (0, [.ref wa, .int wc, .ref ra, .ref ma, .ref ua, .ref oa, .int ph, .int dn, .int nx, .int fo])), (oa, .inr (2, [.ref orr, .int (nI (if y.2.2.2 = 0 then y.2.2.1 else (y.2.2.1 + 1) % 4096)), .int (nI (y.2.2.2 - 1))])), (orr, .inl (cB, 4096, .inl (oqf)))] := hD
    refine z_st (st' := [.int ((bRem y.2.1).1), .long (zlshl y.1 8)]) (by rw [show (((if y.2.2.2 = 0 then -1 else oqf y.2.2.1 &&& 255)) : Int32) = (bRem y.2.1).1 from (bR_rem hb1).1]) ?_
    refine lv_i2l (v := ((bRem y.2.1).1 : Int32).toInt64) hx hb d_Rv_take_35 rfl ?_
    refine lv_lor hx hb d_Rv_take_36 ?_
    refine lv_lstore_n (lv' := [(2, .long ((zlshl y.1 8) ||| (((bRem y.2.1).1 : Int32).toInt64))), (4, .int (nI ((min 8 oh) - (j + 1)))), (1, .int (nI (min 8 oh))), (0, .ref x)]) hx hb d_Rv_take_37 rfl hl (by decide) rfl (fun ls hl => ?_)
    refine lv_iinc (k := 1) (v := (nI ((min 8 oh) - (j + 1))) + 1) (lv' := [(4, .int ((nI ((min 8 oh) - (j + 1))) + 1)), (2, .long ((zlshl y.1 8) ||| (((bRem y.2.1).1 : Int32).toInt64))), (1, .int (nI (min 8 oh))), (0, .ref x)]) hx hb d_Rv_take_38 hl rfl rfl (by decide) rfl (fun ls hl => ?_)
    refine lv_goto (tgt := 18) hx hb d_Rv_take_41 (by decide) ?_
    rw [nI_1, show (min 8 oh) - (j + 1) + 1 = (min 8 oh) - j by omega] at hl
    have hl := lv_sub (l' := [(4, .int (nI ((min 8 oh) - j))), (2, .long ((zlshl y.1 8) ||| ((bRem y.2.1).1 : Int32).toInt64)), (1, .int (nI (min 8 oh))), (0, .ref x)]) hl [0, 1, 2, 3] rfl
    exact ih j ((zlshl y.1 8) ||| ((bRem y.2.1).1 : Int32).toInt64, (bRem y.2.1).2, (if y.2.2.2 = 0 then y.2.2.1 else (y.2.2.1 + 1) % 4096), y.2.2.2 - 1) ls H locs 0 0 (by omega) ⟨⟨by omega, hz, (bR_rem hb1).2, rfl, rfl⟩, hl, hP, hD, hS⟩

set_option maxHeartbeats 4000000 in
theorem c_Rv_input (l : Launch) (D : va_G) (cI cB cJ : ClassId) (sz : Nat) (w : Int64) (n0 : Int32) (x : Nat) (wa : Nat) (wc : Int32) (ra : Nat) (ma : Nat) (ua : Nat) (oa : Nat) (ph : Int32) (dn : Int32) (nx : Int32) (fo : Int32) (ur : Nat) (ui : Nat) (uh : Nat) (uq : Nat → Int32) (I : List Int32) (hI : bR 1000 I ui uh uq) (hn : 0 ≤ n0.toInt ∧ n0.toInt ≤ 8) (hn2 : (uh : Int) + n0.toInt ≤ 1000) : zMet l y_Rv_input (zWs y_Rv_input b_Rv_input 5 (some .int)) { frames := 6, cells := 0, slots := 0, locals := 110 } (zPc D (zT cI cB cJ) sz [(x, .inr (0, [.ref wa, .int wc, .ref ra, .ref ma, .ref ua, .ref oa, .int ph, .int dn, .int nx, .int fo])), (ua, .inr (2, [.ref ur, .int (nI ui), .int (nI uh)])), (ur, .inl (cB, 1000, .inl (uq)))] [.ref x, .long w, .int n0]) (zQi D (va_A [(x, .inr (0, [.ref wa, .int wc, .ref ra, .ref ma, .ref ua, .ref oa, .int ph, .int dn, .int nx, .int fo])), (ua, .inr (2, [.ref ur, .int (nI ui), .int (nI uh)])), (ur, .inl (cB, 1000, .inl (uq)))] sz) (fun r (U : Nat × Nat × (Nat → Int32)) => r = nI (xIn w (zN n0) I).length ∧ bR 1000 (xIn w (zN n0) I) U.1 U.2.1 U.2.2) (fun _ => (0, 0)) (fun (U : (Nat × Nat × (Nat → Int32))) => [(x, .inr (0, [.ref wa, .int wc, .ref ra, .ref ma, .ref ua, .ref oa, .int ph, .int dn, .int nx, .int fo])), (ua, .inr (2, [.ref ur, .int (nI U.1), .int (nI U.2.1)])), (ur, .inl (cB, 1000, .inl (U.2.2)))])) (va_A [(x, .inr (0, [.ref wa, .int wc, .ref ra, .ref ma, .ref ua, .ref oa, .int ph, .int dn, .int nx, .int fo])), (ua, .inr (2, [.ref ur, .int (nI ui), .int (nI uh)])), (ur, .inl (cB, 1000, .inl (uq)))] sz) := by
  refine zstart (Qc := fun A => zQi D A (fun r (U : Nat × Nat × (Nat → Int32)) => r = nI (xIn w (zN n0) I).length ∧ bR 1000 (xIn w (zN n0) I) U.1 U.2.1 U.2.2) (fun _ => (0, 0)) (fun (U : (Nat × Nat × (Nat → Int32))) => [(x, .inr (0, [.ref wa, .int wc, .ref ra, .ref ma, .ref ua, .ref oa, .int ph, .int dn, .int nx, .int fo])), (ua, .inr (2, [.ref ur, .int (nI U.1), .int (nI U.2.1)])), (ur, .inl (cB, 1000, .inl (U.2.2)))])) (by decide) (Nat.le_of_ble_eq_true rfl) ?_
  intro p e s m below meth c ls A hE hr hlocks hin hsz hK hP hD hS hA hAe hl
  have hx := hE.1
  have hb := hE.2.1
  have hown := hE.2.2.2.1
  have hw := hE.2.2.2.2
  have hl : lv_has ls 5 [(0, .ref x), (1, .long w), (3, .int n0)] := hl
  have huh := hI.2.2.1
  refine lv_iload_n hx hb d_Rv_input_0 rfl (lv_at hl 2 rfl) ?_
  refine lv_if_lt (tgt := 10) hx hb d_Rv_input_1 (by decide) (fun h1 => (show False by have q1 := z_lt h1; have k0 : ((0) : Int32).toInt = 0 := (by decide); omega).elim) (fun h1 => ?_)
  refine lv_iload_n hx hb d_Rv_input_4 rfl (lv_at hl 2 rfl) ?_
  refine lv_bipush (v := 8) hx hb d_Rv_input_5 (by decide) ?_
  refine lv_icmp_le (tgt := 18) hx hb d_Rv_input_7 (by decide) (fun h2 => ?_) (fun h2 => (show False by have q1 := z_nlt h1; have q2 := z_nle h2; have k0 : ((0) : Int32).toInt = 0 := (by decide); have k8 : ((8) : Int32).toInt = 8 := (by decide); omega).elim)
  obtain ⟨kn, hkn, rfl⟩ := nI_of2 (x := n0) (M := 8) (n := 8) (by decide) h1 h2
  rw [nI_toInt (by omega)] at hn2
  refine lv_aload_n hx hb d_Rv_input_18 rfl (lv_at hl 0 rfl) ?_
  refine zget hE hK hP 0 rfl fd_Rv_28 rfl d_Rv_input_19 ?_
  refine zget hE hK hP 1 rfl fd_Rv_82 rfl d_Rv_input_22 ?_
  refine lv_iload_n hx hb d_Rv_input_25 rfl (lv_at hl 2 rfl) ?_
  refine lv_iadd hx hb d_Rv_input_26 ?_
  refine z_st (st' := [.int (nI (uh + kn))]) (by rw [show (((nI uh) + (nI kn)) : Int32) = nI (uh + kn) from nI_add _ _]) ?_
  refine lv_sipush (v := 1000) hx hb d_Rv_input_27 (by decide) ?_
  refine lv_icmp_le (tgt := 41) hx hb d_Rv_input_30 (by decide) (fun h3 => ?_) (fun h3 => (show False by exact h3 (nI_le (b := 1000) (by omega) (by omega))).elim)
  refine lv_iload_n hx hb d_Rv_input_41 rfl (lv_at hl 2 rfl) ?_
  refine lv_iconst (v := 1) hx hb d_Rv_input_42 (by decide) ?_
  refine lv_isub hx hb d_Rv_input_43 ?_
  refine z_st (st' := [.int (nI kn + (-1))]) (by rw [show (((nI kn) - 1) : Int32) = nI kn + (-1) from z_m1 _]) ?_
  refine lv_istore (lv' := [(4, .int (nI kn + (-1))), (0, .ref x), (1, .long w), (3, .int (nI kn))]) hx hb d_Rv_input_44 hl (by decide) rfl (fun ls hl => ?_)
  refine zloopH (σ := (List Int32 × Nat × Nat × (Nat → Int32))) (fun j y ls H locs cells slots => (j ≤ kn ∧ xIn w j y.1 = xIn w kn I ∧ bR 1000 y.1 y.2.1 y.2.2.1 y.2.2.2 ∧ cells = 0 ∧ slots = 0) ∧ lv_has ls 5 [(4, .int (nI j + (-1))), (0, .ref x), (1, .long w), (3, .int (nI kn))] ∧ va_P D zC [(x, .inr (0, [.ref wa, .int wc, .ref ra, .ref ma, .ref ua, .ref oa, .int ph, .int dn, .int nx, .int fo])), (ua, .inr (2, [.ref ur, .int (nI y.2.1), .int (nI y.2.2.1)])), (ur, .inl (cB, 1000, .inl (y.2.2.2)))] H ∧ va_D A [(x, .inr (0, [.ref wa, .int wc, .ref ra, .ref ma, .ref ua, .ref oa, .int ph, .int dn, .int nx, .int fo])), (ua, .inr (2, [.ref ur, .int (nI y.2.1), .int (nI y.2.2.1)])), (ur, .inl (cB, 1000, .inl (y.2.2.2)))] ∧ va_S A s.heap H locs) (fun j y ls H locs cells slots hIv ih => ?_) kn (I, ui, uh, uq) ls ⟨⟨Nat.le_refl _, rfl, hI, rfl, rfl⟩, hl, hP, hD, hS⟩
  obtain ⟨⟨hj, hz, hb1, rfl, rfl⟩, hl, hP, hD, hS⟩ := hIv
  refine lv_iload hx hb d_Rv_input_46 (lv_at hl 0 rfl) ?_
  refine lv_if_lt (tgt := 72) hx hb d_Rv_input_48 (by decide) (fun h4 => ?_) (fun h4 => ?_)
  · refine lv_aload_n hx hb d_Rv_input_72 rfl (lv_at hl 1 rfl) ?_
    refine zget hE hK hP 0 rfl fd_Rv_28 rfl d_Rv_input_73 ?_
    refine zget hE hK hP 1 rfl fd_Rv_82 rfl d_Rv_input_76 ?_
    have hj1 : j = 0 := z_pm0 (by omega) h4
    subst hj1
    have hz1 : xIn w (zN (nI kn)) I = y.1 := by rw [zN_nI (by omega)]; exact hz.symm
    have hP9 := hP.sub (ws' := [(x, .inr (0, [.ref wa, .int wc, .ref ra, .ref ma, .ref ua, .ref oa, .int ph, .int dn, .int nx, .int fo])), (ua, .inr (2, [.ref ur, .int (nI y.2.1), .int (nI y.2.2.1)])), (ur, .inl (cB, 1000, .inl (y.2.2.2)))]) [0, 1, 2] rfl
    have hD9 := hD.sub (ws' := [(x, .inr (0, [.ref wa, .int wc, .ref ra, .ref ma, .ref ua, .ref oa, .int ph, .int dn, .int nx, .int fo])), (ua, .inr (2, [.ref ur, .int (nI y.2.1), .int (nI y.2.2.1)])), (ur, .inl (cB, 1000, .inl (y.2.2.2)))]) [0, 1, 2] rfl rfl
    exact zreti hx hb hr rfl hlocks hS (y.2.1, y.2.2.1, y.2.2.2) ⟨by rw [hz1, hb1.2.1], by rw [hz1]; exact hb1⟩ rfl hP9 hD9 d_Rv_input_79
  · obtain ⟨j, rfl⟩ : ∃ q, j = q + 1 := ⟨j - 1, by have := z_pm h4; omega⟩
    rw [pk_m1] at hl
    have hl : lv_has ls 5 [(4, .int (nI j)), (0, .ref x), (1, .long w), (3, .int (nI kn))] := hl
    refine lv_aload_n hx hb d_Rv_input_51 rfl (lv_at hl 1 rfl) ?_
    refine zget hE hK hP 0 rfl fd_Rv_28 rfl d_Rv_input_52 ?_
    refine lv_lload_n hx hb d_Rv_input_55 rfl (lv_at hl 2 rfl) ?_
    refine lv_bipush (v := 8) hx hb d_Rv_input_56 (by decide) ?_
    refine lv_iload hx hb d_Rv_input_58 (lv_at hl 0 rfl) ?_
    refine lv_imul hx hb d_Rv_input_60 ?_
    refine lv_lushr (v := zlushr w (8 * (nI j))) hx hb d_Rv_input_61 rfl ?_
    refine lv_l2i (v := (zlushr w (8 * (nI j)) : Int64).toInt32) hx hb d_Rv_input_62 rfl ?_
    refine zgov (wr := [(x, .inr (0, [.ref wa, .int wc, .ref ra, .ref ma, .ref ua, .ref oa, .int ph, .int dn, .int nx, .int fo]))]) (zrunV (n := 1) (As := [.int ((zlushr w (8 * (nI j)) : Int64).toInt32)]) (rest := []) hE (c_By_add l D cI cB cJ _ ((zlushr w (8 * (nI j)) : Int64).toInt32) ua ur y.2.1 y.2.2.1 1000 y.2.2.2 (by decide) hb1.1 hb1.2.2.1) cb_By_add lk_Rv_85 in_By_add se_By_add (zpreV (q0 := 1) hK hP hD rfl rfl rfl [1, 2] rfl rfl rfl) ⟨Nat.le_of_ble_eq_true rfl, Nat.le_of_ble_eq_true rfl, Nat.le_of_ble_eq_true rfl, Nat.le_of_ble_eq_true rfl⟩ rfl hl.1 rfl (Nat.le_of_ble_eq_true rfl) d_Rv_input_63) hP hD hS hA [1, 2] [0] rfl rfl rfl (by decide) (fun u7 H locs hq5 hP hD hS => ?_)
    clear hq5
    have hP : va_P D zC [(x, .inr (0, [.ref wa, .int wc, .ref ra, .ref ma, .ref ua, .ref oa, .int ph, .int dn, .int nx, .int fo])), (ua, .inr (2, [.ref ur, .int (nI y.2.1), .int (nI (if y.2.2.1 < 1000 then y.2.2.1 + 1 else y.2.2.1))])), (ur, .inl (cB, 1000, .inl (if y.2.2.1 < 1000 then upd y.2.2.2 ((y.2.1 + y.2.2.1) % 1000) ((((zlushr w (8 * (nI j)) : Int64).toInt32) : Int32).toInt8.toInt32) else y.2.2.2)))] _ := hP
    have hD : va_D A [(x, .inr (0, [.ref wa, .int wc, .ref ra, .ref ma, .ref ua, .ref oa, .int ph, .int dn, .int nx, .int fo])), (ua, .inr (2, [.ref ur, .int (nI y.2.1), .int (nI (if y.2.2.1 < 1000 then y.2.2.1 + 1 else y.2.2.1))])), (ur, .inl (cB, 1000, .inl (if y.2.2.1 < 1000 then upd y.2.2.2 ((y.2.1 + y.2.2.1) % 1000) ((((zlushr w (8 * (nI j)) : Int64).toInt32) : Int32).toInt8.toInt32) else y.2.2.2)))] := hD
    refine lv_iinc (k := 0) (v := (nI j) + (-1)) (lv' := [(4, .int ((nI j) + (-1))), (0, .ref x), (1, .long w), (3, .int (nI kn))]) hx hb d_Rv_input_66 hl rfl rfl (by decide) rfl (fun ls hl => ?_)
    refine lv_goto (tgt := 46) hx hb d_Rv_input_69 (by decide) ?_
    exact ih j (bAdd 1000 y.1 ((zlushr w (8 * (nI j)) : Int64).toInt32), y.2.1, (if y.2.2.1 < 1000 then y.2.2.1 + 1 else y.2.2.1), (if y.2.2.1 < 1000 then upd y.2.2.2 ((y.2.1 + y.2.2.1) % 1000) (((zlushr w (8 * (nI j)) : Int64).toInt32 : Int32).toInt8.toInt32) else y.2.2.2)) ls H locs 0 0 (by omega) ⟨⟨by omega, hz, bR_add hb1 _, rfl, rfl⟩, hl, hP, hD, hS⟩
