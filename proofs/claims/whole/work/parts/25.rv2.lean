/-! storing and copying, in own words -/
def xAd (w : Int32) (rg : Nat → Int32) : Int32 := sp_Rv_firstOperand w rg + sp_Rv_storeOffset w
def xStore (w : Int32) (rg : Nat → Int32) (M : MM) : Int32 × MM := if sp_Rv_middle w ≤ 2 then (if mHsA M (xAd w rg) ((1 : Int32) <<< (sp_Rv_middle w &&& 31)) = 0 then (2, M) else (0, mWr M (xAd w rg) ((1 : Int32) <<< (sp_Rv_middle w &&& 31)) (sp_Rv_secondOperand w rg))) else (1, M)
def xCopy (to fr n : Int32) (M : MM) : Int32 × MM := if n < 0 then (4, M) else if n ≤ 4000 then (if n = 0 then (0, M) else if mHs M fr n = 0 then (2, M) else if mHs M to n = 0 then (2, M) else (0, mCp M to fr n)) else (4, M)
theorem zN_nI {j : Nat} (h : j < 2 ^ 32) : zN (nI j) = j := pk_tn h
theorem zN_in {n : Int32} (h1 : ¬ n < 0) (h2 : n ≤ 4000) (h3 : ¬ n = 0) : 1 ≤ zN n ∧ zN n ≤ 4000 := by
  obtain ⟨j, hj, rfl⟩ := nI_of2 (M := 4000) (n := 4000) (by decide) h1 h2
  rw [zN_nI (by omega)]
  have := z_n0 h3
  omega
theorem cRep_copy {M : MM} {md bt nl pe rn pn : Nat} {sf tf uf pf : Nat → Int32} (h : cRep M md bt nl pe rn pn sf tf uf pf) {a b n : Int32} {a0 b0 z q : Nat} (h1 : 1 ≤ zN n) (ho : mSz M (zN a / 65536) = some z) (hle : zN a % 65536 + zN n ≤ z) (ha : a0 = q + zN a % 65536) (ha8 : a0 + zN n ≤ pn) (hb8 : b0 + zN n ≤ pn) (hq : tf (zN a / 65536) = nI q) (hb : ∀ i, i < zN n → pf (b0 + i) = mCt M (zN b / 65536) (zN b % 65536 + i)) : cRep (mCp M a b n) md bt nl pe rn pn sf tf uf (va_cpy pf pf b0 a0 (zN n)) := by
  obtain ⟨b1, b2, b3, b4, ⟨q', c1, c2, c3, c4⟩, b5, b6, b7⟩ := cRep_at h ho
  have hp := h.2.2.2.2.2.2.2.2.1
  have hqq : q' = q := (nI_eq (by omega) (by omega)).mp (c1.symm.trans hq)
  subst hqq
  refine cRep_put h ho (by omega) hq c2 (fun i hi => ?_) (fun p hp => ?_) (fun i hi => ?_)
  · by_cases c : zN a % 65536 ≤ i ∧ i < zN a % 65536 + zN n
    · rw [pk_cpy_in (by omega) (by omega), pk_cpy_in c.1 c.2, show q' + i - a0 = i - zN a % 65536 by omega]
      exact hb _ (by omega)
    · rw [pk_cpy_out (by omega), pk_cpy_out (by omega)]
      exact c4 i hi
  · rw [pk_cpy_out (by omega)]
  · by_cases c : a0 ≤ i ∧ i < a0 + zN n
    · rw [pk_cpy_in c.1 c.2]
      exact h.2.2.2.2.2.2.2.2.2.1 _ (by omega)
    · rw [pk_cpy_out (by omega)]
      exact h.2.2.2.2.2.2.2.2.2.1 i hi
/-! decode rows -/
theorem d_Rv_store_0 : decode b_Rv_store 0 = .ok (.iload_n 1, 1) := by decide +kernel
theorem d_Rv_store_1 : decode b_Rv_store 1 = .ok (.invokestatic 147, 3) := by decide +kernel
theorem d_Rv_store_4 : decode b_Rv_store 4 = .ok (.istore_n 2, 1) := by decide +kernel
theorem d_Rv_store_5 : decode b_Rv_store 5 = .ok (.iload_n 2, 1) := by decide +kernel
theorem d_Rv_store_6 : decode b_Rv_store 6 = .ok (.iconst 2, 1) := by decide +kernel
theorem d_Rv_store_7 : decode b_Rv_store 7 = .ok (.if_icmp .le 5, 3) := by decide +kernel
theorem d_Rv_store_10 : decode b_Rv_store 10 = .ok (.iconst 1, 1) := by decide +kernel
theorem d_Rv_store_11 : decode b_Rv_store 11 = .ok (.ireturn, 1) := by decide +kernel
theorem d_Rv_store_12 : decode b_Rv_store 12 = .ok (.aload_n 0, 1) := by decide +kernel
theorem d_Rv_store_13 : decode b_Rv_store 13 = .ok (.iload_n 1, 1) := by decide +kernel
theorem d_Rv_store_14 : decode b_Rv_store 14 = .ok (.invokevirtual 158, 3) := by decide +kernel
theorem d_Rv_store_17 : decode b_Rv_store 17 = .ok (.iload_n 1, 1) := by decide +kernel
theorem d_Rv_store_18 : decode b_Rv_store 18 = .ok (.invokestatic 173, 3) := by decide +kernel
theorem d_Rv_store_21 : decode b_Rv_store 21 = .ok (.iadd, 1) := by decide +kernel
theorem d_Rv_store_22 : decode b_Rv_store 22 = .ok (.istore_n 3, 1) := by decide +kernel
theorem d_Rv_store_23 : decode b_Rv_store 23 = .ok (.iconst 1, 1) := by decide +kernel
theorem d_Rv_store_24 : decode b_Rv_store 24 = .ok (.iload_n 2, 1) := by decide +kernel
theorem d_Rv_store_25 : decode b_Rv_store 25 = .ok (.ishl, 1) := by decide +kernel
theorem d_Rv_store_26 : decode b_Rv_store 26 = .ok (.istore 4, 2) := by decide +kernel
theorem d_Rv_store_28 : decode b_Rv_store 28 = .ok (.aload_n 0, 1) := by decide +kernel
theorem d_Rv_store_29 : decode b_Rv_store 29 = .ok (.getfield 19, 3) := by decide +kernel
theorem d_Rv_store_32 : decode b_Rv_store 32 = .ok (.iload_n 3, 1) := by decide +kernel
theorem d_Rv_store_33 : decode b_Rv_store 33 = .ok (.iload 4, 2) := by decide +kernel
theorem d_Rv_store_35 : decode b_Rv_store 35 = .ok (.invokevirtual 170, 3) := by decide +kernel
theorem d_Rv_store_38 : decode b_Rv_store 38 = .ok (.ifCond .ne 5, 3) := by decide +kernel
theorem d_Rv_store_41 : decode b_Rv_store 41 = .ok (.iconst 2, 1) := by decide +kernel
theorem d_Rv_store_42 : decode b_Rv_store 42 = .ok (.ireturn, 1) := by decide +kernel
theorem d_Rv_store_43 : decode b_Rv_store 43 = .ok (.aload_n 0, 1) := by decide +kernel
theorem d_Rv_store_44 : decode b_Rv_store 44 = .ok (.getfield 19, 3) := by decide +kernel
theorem d_Rv_store_47 : decode b_Rv_store 47 = .ok (.iload_n 3, 1) := by decide +kernel
theorem d_Rv_store_48 : decode b_Rv_store 48 = .ok (.iload 4, 2) := by decide +kernel
theorem d_Rv_store_50 : decode b_Rv_store 50 = .ok (.aload_n 0, 1) := by decide +kernel
theorem d_Rv_store_51 : decode b_Rv_store 51 = .ok (.iload_n 1, 1) := by decide +kernel
theorem d_Rv_store_52 : decode b_Rv_store 52 = .ok (.invokevirtual 161, 3) := by decide +kernel
theorem d_Rv_store_55 : decode b_Rv_store 55 = .ok (.invokevirtual 176, 3) := by decide +kernel
theorem d_Rv_store_58 : decode b_Rv_store 58 = .ok (.iconst 0, 1) := by decide +kernel
theorem d_Rv_store_59 : decode b_Rv_store 59 = .ok (.ireturn, 1) := by decide +kernel
theorem d_Rv_copyBytes_0 : decode b_Rv_copyBytes 0 = .ok (.iload_n 3, 1) := by decide +kernel
theorem d_Rv_copyBytes_1 : decode b_Rv_copyBytes 1 = .ok (.ifCond .lt 10, 3) := by decide +kernel
theorem d_Rv_copyBytes_4 : decode b_Rv_copyBytes 4 = .ok (.iload_n 3, 1) := by decide +kernel
theorem d_Rv_copyBytes_5 : decode b_Rv_copyBytes 5 = .ok (.sipush 4000, 3) := by decide +kernel
theorem d_Rv_copyBytes_8 : decode b_Rv_copyBytes 8 = .ok (.if_icmp .le 5, 3) := by decide +kernel
theorem d_Rv_copyBytes_11 : decode b_Rv_copyBytes 11 = .ok (.iconst 4, 1) := by decide +kernel
theorem d_Rv_copyBytes_12 : decode b_Rv_copyBytes 12 = .ok (.ireturn, 1) := by decide +kernel
theorem d_Rv_copyBytes_13 : decode b_Rv_copyBytes 13 = .ok (.iload_n 3, 1) := by decide +kernel
theorem d_Rv_copyBytes_14 : decode b_Rv_copyBytes 14 = .ok (.ifCond .ne 5, 3) := by decide +kernel
theorem d_Rv_copyBytes_17 : decode b_Rv_copyBytes 17 = .ok (.iconst 0, 1) := by decide +kernel
theorem d_Rv_copyBytes_18 : decode b_Rv_copyBytes 18 = .ok (.ireturn, 1) := by decide +kernel
theorem d_Rv_copyBytes_19 : decode b_Rv_copyBytes 19 = .ok (.aload_n 0, 1) := by decide +kernel
theorem d_Rv_copyBytes_20 : decode b_Rv_copyBytes 20 = .ok (.getfield 19, 3) := by decide +kernel
theorem d_Rv_copyBytes_23 : decode b_Rv_copyBytes 23 = .ok (.iload_n 2, 1) := by decide +kernel
theorem d_Rv_copyBytes_24 : decode b_Rv_copyBytes 24 = .ok (.iload_n 3, 1) := by decide +kernel
theorem d_Rv_copyBytes_25 : decode b_Rv_copyBytes 25 = .ok (.invokevirtual 74, 3) := by decide +kernel
theorem d_Rv_copyBytes_28 : decode b_Rv_copyBytes 28 = .ok (.ifCond .eq 15, 3) := by decide +kernel
theorem d_Rv_copyBytes_31 : decode b_Rv_copyBytes 31 = .ok (.aload_n 0, 1) := by decide +kernel
theorem d_Rv_copyBytes_32 : decode b_Rv_copyBytes 32 = .ok (.getfield 19, 3) := by decide +kernel
theorem d_Rv_copyBytes_35 : decode b_Rv_copyBytes 35 = .ok (.iload_n 1, 1) := by decide +kernel
theorem d_Rv_copyBytes_36 : decode b_Rv_copyBytes 36 = .ok (.iload_n 3, 1) := by decide +kernel
theorem d_Rv_copyBytes_37 : decode b_Rv_copyBytes 37 = .ok (.invokevirtual 74, 3) := by decide +kernel
theorem d_Rv_copyBytes_40 : decode b_Rv_copyBytes 40 = .ok (.ifCond .ne 5, 3) := by decide +kernel
theorem d_Rv_copyBytes_43 : decode b_Rv_copyBytes 43 = .ok (.iconst 2, 1) := by decide +kernel
theorem d_Rv_copyBytes_44 : decode b_Rv_copyBytes 44 = .ok (.ireturn, 1) := by decide +kernel
theorem d_Rv_copyBytes_45 : decode b_Rv_copyBytes 45 = .ok (.aload_n 0, 1) := by decide +kernel
theorem d_Rv_copyBytes_46 : decode b_Rv_copyBytes 46 = .ok (.getfield 19, 3) := by decide +kernel
theorem d_Rv_copyBytes_49 : decode b_Rv_copyBytes 49 = .ok (.iload_n 1, 1) := by decide +kernel
theorem d_Rv_copyBytes_50 : decode b_Rv_copyBytes 50 = .ok (.iload_n 2, 1) := by decide +kernel
theorem d_Rv_copyBytes_51 : decode b_Rv_copyBytes 51 = .ok (.iload_n 3, 1) := by decide +kernel
theorem d_Rv_copyBytes_52 : decode b_Rv_copyBytes 52 = .ok (.invokevirtual 220, 3) := by decide +kernel
theorem d_Rv_copyBytes_55 : decode b_Rv_copyBytes 55 = .ok (.iconst 0, 1) := by decide +kernel
theorem d_Rv_copyBytes_56 : decode b_Rv_copyBytes 56 = .ok (.ireturn, 1) := by decide +kernel

set_option maxHeartbeats 4000000 in
theorem c_Rv_store (l : Launch) (D : va_G) (cI cB cJ : ClassId) (sz : Nat) (w : Int32) (x : Nat) (wa : Nat) (wc : Int32) (ra : Nat) (ma : Nat) (ua : Nat) (oa : Nat) (ph : Int32) (dn : Int32) (nx : Int32) (fo : Int32) (rg : Nat → Int32) (md : Nat) (bt : Nat) (lo : Nat) (nl : Nat) (sa : Nat) (ta : Nat) (fa : Nat) (pa : Nat) (pe : Nat) (ba : Nat) (rn : Nat) (sf : Nat → Int32) (tf : Nat → Int32) (pn : Nat) (pf : Nat → Int32) (M : MM) (uf : Nat → Int32) (hR : cRep M md bt nl pe rn pn sf tf uf pf) : zMet l y_Rv_store (zWs y_Rv_store b_Rv_store 5 (some .int)) { frames := 3, cells := 0, slots := 0, locals := 66 } (zPc D (zT cI cB cJ) sz [(x, .inr (0, [.ref wa, .int wc, .ref ra, .ref ma, .ref ua, .ref oa, .int ph, .int dn, .int nx, .int fo])), (ra, .inl (cI, 32, .inl (rg))), (ma, .inr (1, [.int (nI md), .int (nI bt), .int (nI lo), .int (nI nl), .ref sa, .ref ta, .ref fa, .ref pa, .int (nI pe), .ref ba])), (sa, .inl (cI, rn, .inl (sf))), (ta, .inl (cI, rn, .inl (tf))), (pa, .inl (cB, pn, .inl (pf)))] [.ref x, .int w]) (zQi D (va_A [(x, .inr (0, [.ref wa, .int wc, .ref ra, .ref ma, .ref ua, .ref oa, .int ph, .int dn, .int nx, .int fo])), (ra, .inl (cI, 32, .inl (rg))), (ma, .inr (1, [.int (nI md), .int (nI bt), .int (nI lo), .int (nI nl), .ref sa, .ref ta, .ref fa, .ref pa, .int (nI pe), .ref ba])), (sa, .inl (cI, rn, .inl (sf))), (ta, .inl (cI, rn, .inl (tf))), (pa, .inl (cB, pn, .inl (pf)))] sz) (fun r (U : (Nat → Int32)) => r = (xStore w rg M).1 ∧ cRep (xStore w rg M).2 md bt nl pe rn pn sf tf uf U) (fun _ => (0, 0)) (fun (U : (Nat → Int32)) => [(x, .inr (0, [.ref wa, .int wc, .ref ra, .ref ma, .ref ua, .ref oa, .int ph, .int dn, .int nx, .int fo])), (ra, .inl (cI, 32, .inl (rg))), (ma, .inr (1, [.int (nI md), .int (nI bt), .int (nI lo), .int (nI nl), .ref sa, .ref ta, .ref fa, .ref pa, .int (nI pe), .ref ba])), (sa, .inl (cI, rn, .inl (sf))), (ta, .inl (cI, rn, .inl (tf))), (pa, .inl (cB, pn, .inl (U)))])) (va_A [(x, .inr (0, [.ref wa, .int wc, .ref ra, .ref ma, .ref ua, .ref oa, .int ph, .int dn, .int nx, .int fo])), (ra, .inl (cI, 32, .inl (rg))), (ma, .inr (1, [.int (nI md), .int (nI bt), .int (nI lo), .int (nI nl), .ref sa, .ref ta, .ref fa, .ref pa, .int (nI pe), .ref ba])), (sa, .inl (cI, rn, .inl (sf))), (ta, .inl (cI, rn, .inl (tf))), (pa, .inl (cB, pn, .inl (pf)))] sz) := by
  refine zstart (Qc := fun A => zQi D A (fun r (U : (Nat → Int32)) => r = (xStore w rg M).1 ∧ cRep (xStore w rg M).2 md bt nl pe rn pn sf tf uf U) (fun _ => (0, 0)) (fun (U : (Nat → Int32)) => [(x, .inr (0, [.ref wa, .int wc, .ref ra, .ref ma, .ref ua, .ref oa, .int ph, .int dn, .int nx, .int fo])), (ra, .inl (cI, 32, .inl (rg))), (ma, .inr (1, [.int (nI md), .int (nI bt), .int (nI lo), .int (nI nl), .ref sa, .ref ta, .ref fa, .ref pa, .int (nI pe), .ref ba])), (sa, .inl (cI, rn, .inl (sf))), (ta, .inl (cI, rn, .inl (tf))), (pa, .inl (cB, pn, .inl (U)))])) (by decide) (Nat.le_of_ble_eq_true rfl) ?_
  intro p e s m below meth c ls A hE hr hlocks hin hsz hK hP hD hS hA hAe hl
  have hx := hE.1
  have hb := hE.2.1
  have hown := hE.2.2.2.1
  have hw := hE.2.2.2.2
  have hl : lv_has ls 5 [(0, .ref x), (1, .int w)] := hl
  refine lv_iload_n hx hb d_Rv_store_0 rfl (lv_at hl 1 rfl) ?_
  refine zgoi (wr := [(x, .inr (0, [.ref wa, .int wc, .ref ra, .ref ma, .ref ua, .ref oa, .int ph, .int dn, .int nx, .int fo])), (ra, .inl (cI, 32, .inl (rg))), (ma, .inr (1, [.int (nI md), .int (nI bt), .int (nI lo), .int (nI nl), .ref sa, .ref ta, .ref fa, .ref pa, .int (nI pe), .ref ba])), (sa, .inl (cI, rn, .inl (sf))), (ta, .inl (cI, rn, .inl (tf))), (pa, .inl (cB, pn, .inl (pf)))]) (zrunS (n := 1) (As := [.int w]) (rest := []) hE (c_Rv_middle l D _ _ w) cb_Rv_middle lk_Rv_147 st_Rv_middle (zpreS hK hP hD [] rfl rfl rfl) ⟨Nat.le_of_ble_eq_true rfl, Nat.le_of_ble_eq_true rfl, Nat.le_of_ble_eq_true rfl, Nat.le_of_ble_eq_true rfl⟩ rfl hl.1 rfl (Nat.le_of_ble_eq_true rfl) d_Rv_store_1) hP hD hS hA [] [0, 1, 2, 3, 4, 5] rfl rfl rfl (by decide) (fun r2 u3 H locs hq1 hP hD hS => ?_)
  subst hq1
  have hP : va_P D zC [(x, .inr (0, [.ref wa, .int wc, .ref ra, .ref ma, .ref ua, .ref oa, .int ph, .int dn, .int nx, .int fo])), (ra, .inl (cI, 32, .inl (rg))), (ma, .inr (1, [.int (nI md), .int (nI bt), .int (nI lo), .int (nI nl), .ref sa, .ref ta, .ref fa, .ref pa, .int (nI pe), .ref ba])), (sa, .inl (cI, rn, .inl (sf))), (ta, .inl (cI, rn, .inl (tf))), (pa, .inl (cB, pn, .inl (pf)))] _ := hP
  have hD : va_D A [(x, .inr (0, [.ref wa, .int wc, .ref ra, .ref ma, .ref ua, .ref oa, .int ph, .int dn, .int nx, .int fo])), (ra, .inl (cI, 32, .inl (rg))), (ma, .inr (1, [.int (nI md), .int (nI bt), .int (nI lo), .int (nI nl), .ref sa, .ref ta, .ref fa, .ref pa, .int (nI pe), .ref ba])), (sa, .inl (cI, rn, .inl (sf))), (ta, .inl (cI, rn, .inl (tf))), (pa, .inl (cB, pn, .inl (pf)))] := hD
  refine lv_istore_n (lv' := [(2, .int (sp_Rv_middle w)), (0, .ref x), (1, .int w)]) hx hb d_Rv_store_4 rfl hl (by decide) rfl (fun ls hl => ?_)
  refine lv_iload_n hx hb d_Rv_store_5 rfl (lv_at hl 0 rfl) ?_
  refine lv_iconst (v := 2) hx hb d_Rv_store_6 (by decide) ?_
  refine lv_icmp_le (tgt := 12) hx hb d_Rv_store_7 (by decide) (fun h4 => ?_) (fun h4 => ?_)
  · refine lv_aload_n hx hb d_Rv_store_12 rfl (lv_at hl 1 rfl) ?_
    refine lv_iload_n hx hb d_Rv_store_13 rfl (lv_at hl 2 rfl) ?_
    refine zgoi (wr := [(ma, .inr (1, [.int (nI md), .int (nI bt), .int (nI lo), .int (nI nl), .ref sa, .ref ta, .ref fa, .ref pa, .int (nI pe), .ref ba])), (sa, .inl (cI, rn, .inl (sf))), (ta, .inl (cI, rn, .inl (tf))), (pa, .inl (cB, pn, .inl (pf)))]) (zrunV (n := 1) (As := [.int w]) (rest := []) hE (c_Rv_firstOperand l D cI cB cJ _ w x wa wc ra ma ua oa ph dn nx fo rg) cb_Rv_firstOperand lk_Rv_158 in_Rv_firstOperand se_Rv_firstOperand (zpreV (q0 := 0) hK hP hD rfl rfl rfl [0, 1] rfl rfl rfl) ⟨Nat.le_of_ble_eq_true rfl, Nat.le_of_ble_eq_true rfl, Nat.le_of_ble_eq_true rfl, Nat.le_of_ble_eq_true rfl⟩ rfl hl.1 rfl (Nat.le_of_ble_eq_true rfl) d_Rv_store_14) hP hD hS hA [0, 1] [2, 3, 4, 5] rfl rfl rfl (by decide) (fun r6 u7 H locs hq5 hP hD hS => ?_)
    subst hq5
    have hP : va_P D zC [(ma, .inr (1, [.int (nI md), .int (nI bt), .int (nI lo), .int (nI nl), .ref sa, .ref ta, .ref fa, .ref pa, .int (nI pe), .ref ba])), (sa, .inl (cI, rn, .inl (sf))), (ta, .inl (cI, rn, .inl (tf))), (pa, .inl (cB, pn, .inl (pf))), (x, .inr (0, [.ref wa, .int wc, .ref ra, .ref ma, .ref ua, .ref oa, .int ph, .int dn, .int nx, .int fo])), (ra, .inl (cI, 32, .inl (rg)))] _ := hP
    have hD : va_D A [(ma, .inr (1, [.int (nI md), .int (nI bt), .int (nI lo), .int (nI nl), .ref sa, .ref ta, .ref fa, .ref pa, .int (nI pe), .ref ba])), (sa, .inl (cI, rn, .inl (sf))), (ta, .inl (cI, rn, .inl (tf))), (pa, .inl (cB, pn, .inl (pf))), (x, .inr (0, [.ref wa, .int wc, .ref ra, .ref ma, .ref ua, .ref oa, .int ph, .int dn, .int nx, .int fo])), (ra, .inl (cI, 32, .inl (rg)))] := hD
    refine lv_iload_n hx hb d_Rv_store_17 rfl (lv_at hl 2 rfl) ?_
    refine zgoi (wr := [(ma, .inr (1, [.int (nI md), .int (nI bt), .int (nI lo), .int (nI nl), .ref sa, .ref ta, .ref fa, .ref pa, .int (nI pe), .ref ba])), (sa, .inl (cI, rn, .inl (sf))), (ta, .inl (cI, rn, .inl (tf))), (pa, .inl (cB, pn, .inl (pf))), (x, .inr (0, [.ref wa, .int wc, .ref ra, .ref ma, .ref ua, .ref oa, .int ph, .int dn, .int nx, .int fo])), (ra, .inl (cI, 32, .inl (rg)))]) (zrunS (n := 1) (As := [.int w]) (rest := [.int ((sp_Rv_firstOperand w rg))]) hE (c_Rv_storeOffset l D _ _ w) cb_Rv_storeOffset lk_Rv_173 st_Rv_storeOffset (zpreS hK hP hD [] rfl rfl rfl) ⟨Nat.le_of_ble_eq_true rfl, Nat.le_of_ble_eq_true rfl, Nat.le_of_ble_eq_true rfl, Nat.le_of_ble_eq_true rfl⟩ rfl hl.1 rfl (Nat.le_of_ble_eq_true rfl) d_Rv_store_18) hP hD hS hA [] [0, 1, 2, 3, 4, 5] rfl rfl rfl (by decide) (fun r9 u10 H locs hq8 hP hD hS => ?_)
    subst hq8
    have hP : va_P D zC [(ma, .inr (1, [.int (nI md), .int (nI bt), .int (nI lo), .int (nI nl), .ref sa, .ref ta, .ref fa, .ref pa, .int (nI pe), .ref ba])), (sa, .inl (cI, rn, .inl (sf))), (ta, .inl (cI, rn, .inl (tf))), (pa, .inl (cB, pn, .inl (pf))), (x, .inr (0, [.ref wa, .int wc, .ref ra, .ref ma, .ref ua, .ref oa, .int ph, .int dn, .int nx, .int fo])), (ra, .inl (cI, 32, .inl (rg)))] _ := hP
    have hD : va_D A [(ma, .inr (1, [.int (nI md), .int (nI bt), .int (nI lo), .int (nI nl), .ref sa, .ref ta, .ref fa, .ref pa, .int (nI pe), .ref ba])), (sa, .inl (cI, rn, .inl (sf))), (ta, .inl (cI, rn, .inl (tf))), (pa, .inl (cB, pn, .inl (pf))), (x, .inr (0, [.ref wa, .int wc, .ref ra, .ref ma, .ref ua, .ref oa, .int ph, .int dn, .int nx, .int fo])), (ra, .inl (cI, 32, .inl (rg)))] := hD
    refine lv_iadd hx hb d_Rv_store_21 ?_
    refine lv_istore_n (lv' := [(3, .int ((sp_Rv_firstOperand w rg) + (sp_Rv_storeOffset w))), (2, .int (sp_Rv_middle w)), (0, .ref x), (1, .int w)]) hx hb d_Rv_store_22 rfl hl (by decide) rfl (fun ls hl => ?_)
    refine lv_iconst (v := 1) hx hb d_Rv_store_23 (by decide) ?_
    refine lv_iload_n hx hb d_Rv_store_24 rfl (lv_at hl 1 rfl) ?_
    refine lv_ishl hx hb d_Rv_store_25 ?_
    refine lv_istore (lv' := [(4, .int ((1 : Int32) <<< ((sp_Rv_middle w : Int32) &&& 31))), (3, .int ((sp_Rv_firstOperand w rg) + (sp_Rv_storeOffset w))), (2, .int (sp_Rv_middle w)), (0, .ref x), (1, .int w)]) hx hb d_Rv_store_26 hl (by decide) rfl (fun ls hl => ?_)
    refine lv_aload_n hx hb d_Rv_store_28 rfl (lv_at hl 3 rfl) ?_
    refine zget hE hK hP 4 rfl fd_Rv_19 rfl d_Rv_store_29 ?_
    refine lv_iload_n hx hb d_Rv_store_32 rfl (lv_at hl 1 rfl) ?_
    refine lv_iload hx hb d_Rv_store_33 (lv_at hl 0 rfl) ?_
    refine zgoi (wr := [(ta, .inl (cI, rn, .inl (tf))), (pa, .inl (cB, pn, .inl (pf))), (x, .inr (0, [.ref wa, .int wc, .ref ra, .ref ma, .ref ua, .ref oa, .int ph, .int dn, .int nx, .int fo])), (ra, .inl (cI, 32, .inl (rg)))]) (zrunV (n := 2) (As := [.int ((sp_Rv_firstOperand w rg) + (sp_Rv_storeOffset w)), .int ((1 : Int32) <<< ((sp_Rv_middle w : Int32) &&& 31))]) (rest := []) hE (c_Me_holdsAligned l D cI cB cJ _ ((sp_Rv_firstOperand w rg) + (sp_Rv_storeOffset w)) ((1 : Int32) <<< ((sp_Rv_middle w : Int32) &&& 31)) ma md bt lo nl sa ta fa pa pe ba rn sf hR.2.2.2.2.1 hR.2.2.2.2.2.1) cb_Me_holdsAligned lk_Rv_170 in_Me_holdsAligned se_Me_holdsAligned (zpreV (q0 := 0) hK hP hD rfl rfl rfl [0, 1] rfl rfl rfl) ⟨Nat.le_of_ble_eq_true rfl, Nat.le_of_ble_eq_true rfl, Nat.le_of_ble_eq_true rfl, Nat.le_of_ble_eq_true rfl⟩ rfl hl.1 rfl (Nat.le_of_ble_eq_true rfl) d_Rv_store_35) hP hD hS hA [0, 1] [2, 3, 4, 5] rfl rfl rfl (by decide) (fun r12 u13 H locs hq11 hP hD hS => ?_)
    subst hq11
    have hP : va_P D zC [(ta, .inl (cI, rn, .inl (tf))), (pa, .inl (cB, pn, .inl (pf))), (x, .inr (0, [.ref wa, .int wc, .ref ra, .ref ma, .ref ua, .ref oa, .int ph, .int dn, .int nx, .int fo])), (ra, .inl (cI, 32, .inl (rg))), (ma, .inr (1, [.int (nI md), .int (nI bt), .int (nI lo), .int (nI nl), .ref sa, .ref ta, .ref fa, .ref pa, .int (nI pe), .ref ba])), (sa, .inl (cI, rn, .inl (sf)))] _ := hP
    have hD : va_D A [(ta, .inl (cI, rn, .inl (tf))), (pa, .inl (cB, pn, .inl (pf))), (x, .inr (0, [.ref wa, .int wc, .ref ra, .ref ma, .ref ua, .ref oa, .int ph, .int dn, .int nx, .int fo])), (ra, .inl (cI, 32, .inl (rg))), (ma, .inr (1, [.int (nI md), .int (nI bt), .int (nI lo), .int (nI nl), .ref sa, .ref ta, .ref fa, .ref pa, .int (nI pe), .ref ba])), (sa, .inl (cI, rn, .inl (sf)))] := hD
    refine z_st (st' := [.int (mHsA M (xAd w rg) ((1 : Int32) <<< (sp_Rv_middle w &&& 31)))]) (by rw [show (((sp_Me_holdsAligned ((sp_Rv_firstOperand w rg) + (sp_Rv_storeOffset w)) ((1 : Int32) <<< ((sp_Rv_middle w : Int32) &&& 31)) md sf)) : Int32) = mHsA M (xAd w rg) ((1 : Int32) <<< (sp_Rv_middle w &&& 31)) from cRep_holdsA hR _ _]) ?_
    refine lv_if_ne (tgt := 43) hx hb d_Rv_store_38 (by decide) (fun h14 => ?_) (fun h14 => ?_)
    · obtain ⟨a0, zq, b1, b2, b3, b4, b5, b6, b7, ⟨qq, b8, b10⟩, b9⟩ := cRep_spot hR (mHsA_hs h14) (zsz2 w h4).1 (zsz2 w h4).2
      refine lv_aload_n hx hb d_Rv_store_43 rfl (lv_at hl 3 rfl) ?_
      refine zget hE hK hP 2 rfl fd_Rv_19 rfl d_Rv_store_44 ?_
      refine lv_iload_n hx hb d_Rv_store_47 rfl (lv_at hl 1 rfl) ?_
      refine lv_iload hx hb d_Rv_store_48 (lv_at hl 0 rfl) ?_
      refine lv_aload_n hx hb d_Rv_store_50 rfl (lv_at hl 3 rfl) ?_
      refine lv_iload_n hx hb d_Rv_store_51 rfl (lv_at hl 4 rfl) ?_
      refine zgoi (wr := [(ta, .inl (cI, rn, .inl (tf))), (pa, .inl (cB, pn, .inl (pf))), (ma, .inr (1, [.int (nI md), .int (nI bt), .int (nI lo), .int (nI nl), .ref sa, .ref ta, .ref fa, .ref pa, .int (nI pe), .ref ba])), (sa, .inl (cI, rn, .inl (sf)))]) (zrunV (n := 1) (As := [.int w]) (rest := [.int ((1 : Int32) <<< ((sp_Rv_middle w : Int32) &&& 31)), .int ((sp_Rv_firstOperand w rg) + (sp_Rv_storeOffset w)), .ref ma]) hE (c_Rv_secondOperand l D cI cB cJ _ w x wa wc ra ma ua oa ph dn nx fo rg) cb_Rv_secondOperand lk_Rv_161 in_Rv_secondOperand se_Rv_secondOperand (zpreV (q0 := 2) hK hP hD rfl rfl rfl [2, 3] rfl rfl rfl) ⟨Nat.le_of_ble_eq_true rfl, Nat.le_of_ble_eq_true rfl, Nat.le_of_ble_eq_true rfl, Nat.le_of_ble_eq_true rfl⟩ rfl hl.1 rfl (Nat.le_of_ble_eq_true rfl) d_Rv_store_52) hP hD hS hA [2, 3] [0, 1, 4, 5] rfl rfl rfl (by decide) (fun r16 u17 H locs hq15 hP hD hS => ?_)
      subst hq15
      have hP : va_P D zC [(ta, .inl (cI, rn, .inl (tf))), (pa, .inl (cB, pn, .inl (pf))), (ma, .inr (1, [.int (nI md), .int (nI bt), .int (nI lo), .int (nI nl), .ref sa, .ref ta, .ref fa, .ref pa, .int (nI pe), .ref ba])), (sa, .inl (cI, rn, .inl (sf))), (x, .inr (0, [.ref wa, .int wc, .ref ra, .ref ma, .ref ua, .ref oa, .int ph, .int dn, .int nx, .int fo])), (ra, .inl (cI, 32, .inl (rg)))] _ := hP
      have hD : va_D A [(ta, .inl (cI, rn, .inl (tf))), (pa, .inl (cB, pn, .inl (pf))), (ma, .inr (1, [.int (nI md), .int (nI bt), .int (nI lo), .int (nI nl), .ref sa, .ref ta, .ref fa, .ref pa, .int (nI pe), .ref ba])), (sa, .inl (cI, rn, .inl (sf))), (x, .inr (0, [.ref wa, .int wc, .ref ra, .ref ma, .ref ua, .ref oa, .int ph, .int dn, .int nx, .int fo])), (ra, .inl (cI, 32, .inl (rg)))] := hD
      refine zgov (wr := [(sa, .inl (cI, rn, .inl (sf))), (x, .inr (0, [.ref wa, .int wc, .ref ra, .ref ma, .ref ua, .ref oa, .int ph, .int dn, .int nx, .int fo])), (ra, .inl (cI, 32, .inl (rg)))]) (zrunV (n := 3) (As := [.int ((sp_Rv_firstOperand w rg) + (sp_Rv_storeOffset w)), .int ((1 : Int32) <<< ((sp_Rv_middle w : Int32) &&& 31)), .int ((sp_Rv_secondOperand w rg))]) (rest := []) hE (c_Me_write l D cI cB cJ _ ((sp_Rv_firstOperand w rg) + (sp_Rv_storeOffset w)) ((1 : Int32) <<< ((sp_Rv_middle w : Int32) &&& 31)) (sp_Rv_secondOperand w rg) ma md bt lo nl sa ta fa pa pe ba rn tf pn pf a0 (zN ((1 : Int32) <<< (sp_Rv_middle w &&& 31))) b1 b2 b3 (z_of _) b4 b5) cb_Me_write lk_Rv_176 in_Me_write se_Me_write (zpreV (q0 := 2) hK hP hD rfl rfl rfl [2, 0, 1] rfl rfl rfl) ⟨Nat.le_of_ble_eq_true rfl, Nat.le_of_ble_eq_true rfl, Nat.le_of_ble_eq_true rfl, Nat.le_of_ble_eq_true rfl⟩ rfl hl.1 rfl (Nat.le_of_ble_eq_true rfl) d_Rv_store_55) hP hD hS hA [2, 0, 1] [3, 4, 5] rfl rfl rfl (by decide) (fun u20 H locs hq18 hP hD hS => ?_)
      clear hq18
      have hP : va_P D zC [(sa, .inl (cI, rn, .inl (sf))), (x, .inr (0, [.ref wa, .int wc, .ref ra, .ref ma, .ref ua, .ref oa, .int ph, .int dn, .int nx, .int fo])), (ra, .inl (cI, 32, .inl (rg))), (ma, .inr (1, [.int (nI md), .int (nI bt), .int (nI lo), .int (nI nl), .ref sa, .ref ta, .ref fa, .ref pa, .int (nI pe), .ref ba])), (ta, .inl (cI, rn, .inl (tf))), (pa, .inl (cB, pn, .inl (zwt pf a0 (zN ((1 : Int32) <<< (sp_Rv_middle w &&& 31))) (sp_Rv_secondOperand w rg))))] _ := hP
      have hD : va_D A [(sa, .inl (cI, rn, .inl (sf))), (x, .inr (0, [.ref wa, .int wc, .ref ra, .ref ma, .ref ua, .ref oa, .int ph, .int dn, .int nx, .int fo])), (ra, .inl (cI, 32, .inl (rg))), (ma, .inr (1, [.int (nI md), .int (nI bt), .int (nI lo), .int (nI nl), .ref sa, .ref ta, .ref fa, .ref pa, .int (nI pe), .ref ba])), (ta, .inl (cI, rn, .inl (tf))), (pa, .inl (cB, pn, .inl (zwt pf a0 (zN ((1 : Int32) <<< (sp_Rv_middle w &&& 31))) (sp_Rv_secondOperand w rg))))] := hD
      refine lv_iconst (v := 0) hx hb d_Rv_store_58 (by decide) ?_
      have hs : xStore w rg M = (0, mWr M (xAd w rg) ((1 : Int32) <<< (sp_Rv_middle w &&& 31)) (sp_Rv_secondOperand w rg)) := by unfold xStore; rw [if_pos h4, if_neg h14]
      have hP9 := hP.sub (ws' := [(x, .inr (0, [.ref wa, .int wc, .ref ra, .ref ma, .ref ua, .ref oa, .int ph, .int dn, .int nx, .int fo])), (ra, .inl (cI, 32, .inl (rg))), (ma, .inr (1, [.int (nI md), .int (nI bt), .int (nI lo), .int (nI nl), .ref sa, .ref ta, .ref fa, .ref pa, .int (nI pe), .ref ba])), (sa, .inl (cI, rn, .inl (sf))), (ta, .inl (cI, rn, .inl (tf))), (pa, .inl (cB, pn, .inl (zwt pf a0 (zN ((1 : Int32) <<< (sp_Rv_middle w &&& 31))) (sp_Rv_secondOperand w rg))))]) [1, 2, 3, 0, 4, 5] rfl
      have hD9 := hD.sub (ws' := [(x, .inr (0, [.ref wa, .int wc, .ref ra, .ref ma, .ref ua, .ref oa, .int ph, .int dn, .int nx, .int fo])), (ra, .inl (cI, 32, .inl (rg))), (ma, .inr (1, [.int (nI md), .int (nI bt), .int (nI lo), .int (nI nl), .ref sa, .ref ta, .ref fa, .ref pa, .int (nI pe), .ref ba])), (sa, .inl (cI, rn, .inl (sf))), (ta, .inl (cI, rn, .inl (tf))), (pa, .inl (cB, pn, .inl (zwt pf a0 (zN ((1 : Int32) <<< (sp_Rv_middle w &&& 31))) (sp_Rv_secondOperand w rg))))]) [1, 2, 3, 0, 4, 5] rfl rfl
      exact zreti hx hb hr rfl hlocks hS (zwt pf a0 (zN ((1 : Int32) <<< (sp_Rv_middle w &&& 31))) (sp_Rv_secondOperand w rg)) ⟨by rw [hs], by rw [hs]; exact cRep_write hR (zsz2 w h4).1 b6 b7 b8 (by omega) b10⟩ rfl hP9 hD9 d_Rv_store_59
    · refine lv_iconst (v := 2) hx hb d_Rv_store_41 (by decide) ?_
      have hs : xStore w rg M = (2, M) := by unfold xStore; rw [if_pos h4, if_pos h14]
      have hP9 := hP.sub (ws' := [(x, .inr (0, [.ref wa, .int wc, .ref ra, .ref ma, .ref ua, .ref oa, .int ph, .int dn, .int nx, .int fo])), (ra, .inl (cI, 32, .inl (rg))), (ma, .inr (1, [.int (nI md), .int (nI bt), .int (nI lo), .int (nI nl), .ref sa, .ref ta, .ref fa, .ref pa, .int (nI pe), .ref ba])), (sa, .inl (cI, rn, .inl (sf))), (ta, .inl (cI, rn, .inl (tf))), (pa, .inl (cB, pn, .inl (pf)))]) [2, 3, 4, 5, 0, 1] rfl
      have hD9 := hD.sub (ws' := [(x, .inr (0, [.ref wa, .int wc, .ref ra, .ref ma, .ref ua, .ref oa, .int ph, .int dn, .int nx, .int fo])), (ra, .inl (cI, 32, .inl (rg))), (ma, .inr (1, [.int (nI md), .int (nI bt), .int (nI lo), .int (nI nl), .ref sa, .ref ta, .ref fa, .ref pa, .int (nI pe), .ref ba])), (sa, .inl (cI, rn, .inl (sf))), (ta, .inl (cI, rn, .inl (tf))), (pa, .inl (cB, pn, .inl (pf)))]) [2, 3, 4, 5, 0, 1] rfl rfl
      exact zreti hx hb hr rfl hlocks hS pf ⟨by rw [hs], by rw [hs]; exact hR⟩ rfl hP9 hD9 d_Rv_store_42
  · refine lv_iconst (v := 1) hx hb d_Rv_store_10 (by decide) ?_
    have hs : xStore w rg M = (1, M) := by unfold xStore; rw [if_neg h4]
    have hP9 := hP.sub (ws' := [(x, .inr (0, [.ref wa, .int wc, .ref ra, .ref ma, .ref ua, .ref oa, .int ph, .int dn, .int nx, .int fo])), (ra, .inl (cI, 32, .inl (rg))), (ma, .inr (1, [.int (nI md), .int (nI bt), .int (nI lo), .int (nI nl), .ref sa, .ref ta, .ref fa, .ref pa, .int (nI pe), .ref ba])), (sa, .inl (cI, rn, .inl (sf))), (ta, .inl (cI, rn, .inl (tf))), (pa, .inl (cB, pn, .inl (pf)))]) [0, 1, 2, 3, 4, 5] rfl
    have hD9 := hD.sub (ws' := [(x, .inr (0, [.ref wa, .int wc, .ref ra, .ref ma, .ref ua, .ref oa, .int ph, .int dn, .int nx, .int fo])), (ra, .inl (cI, 32, .inl (rg))), (ma, .inr (1, [.int (nI md), .int (nI bt), .int (nI lo), .int (nI nl), .ref sa, .ref ta, .ref fa, .ref pa, .int (nI pe), .ref ba])), (sa, .inl (cI, rn, .inl (sf))), (ta, .inl (cI, rn, .inl (tf))), (pa, .inl (cB, pn, .inl (pf)))]) [0, 1, 2, 3, 4, 5] rfl rfl
    exact zreti hx hb hr rfl hlocks hS pf ⟨by rw [hs], by rw [hs]; exact hR⟩ rfl hP9 hD9 d_Rv_store_11

set_option maxHeartbeats 4000000 in
theorem c_Rv_copyBytes (l : Launch) (D : va_G) (cI cB cJ : ClassId) (sz : Nat) (to : Int32) (fr : Int32) (n0 : Int32) (x : Nat) (wa : Nat) (wc : Int32) (ra : Nat) (ma : Nat) (ua : Nat) (oa : Nat) (ph : Int32) (dn : Int32) (nx : Int32) (fo : Int32) (md : Nat) (bt : Nat) (lo : Nat) (nl : Nat) (sa : Nat) (ta : Nat) (fa : Nat) (pa : Nat) (pe : Nat) (ba : Nat) (rn : Nat) (sf : Nat → Int32) (tf : Nat → Int32) (pn : Nat) (pf : Nat → Int32) (M : MM) (uf : Nat → Int32) (hR : cRep M md bt nl pe rn pn sf tf uf pf) : zMet l y_Rv_copyBytes (zWs y_Rv_copyBytes b_Rv_copyBytes 4 (some .int)) { frames := 2, cells := 0, slots := 0, locals := 83 } (zPc D (zT cI cB cJ) sz [(x, .inr (0, [.ref wa, .int wc, .ref ra, .ref ma, .ref ua, .ref oa, .int ph, .int dn, .int nx, .int fo])), (ma, .inr (1, [.int (nI md), .int (nI bt), .int (nI lo), .int (nI nl), .ref sa, .ref ta, .ref fa, .ref pa, .int (nI pe), .ref ba])), (sa, .inl (cI, rn, .inl (sf))), (ta, .inl (cI, rn, .inl (tf))), (pa, .inl (cB, pn, .inl (pf)))] [.ref x, .int to, .int fr, .int n0]) (zQi D (va_A [(x, .inr (0, [.ref wa, .int wc, .ref ra, .ref ma, .ref ua, .ref oa, .int ph, .int dn, .int nx, .int fo])), (ma, .inr (1, [.int (nI md), .int (nI bt), .int (nI lo), .int (nI nl), .ref sa, .ref ta, .ref fa, .ref pa, .int (nI pe), .ref ba])), (sa, .inl (cI, rn, .inl (sf))), (ta, .inl (cI, rn, .inl (tf))), (pa, .inl (cB, pn, .inl (pf)))] sz) (fun r (U : (Nat → Int32)) => r = (xCopy to fr n0 M).1 ∧ cRep (xCopy to fr n0 M).2 md bt nl pe rn pn sf tf uf U) (fun _ => (0, 0)) (fun (U : (Nat → Int32)) => [(x, .inr (0, [.ref wa, .int wc, .ref ra, .ref ma, .ref ua, .ref oa, .int ph, .int dn, .int nx, .int fo])), (ma, .inr (1, [.int (nI md), .int (nI bt), .int (nI lo), .int (nI nl), .ref sa, .ref ta, .ref fa, .ref pa, .int (nI pe), .ref ba])), (sa, .inl (cI, rn, .inl (sf))), (ta, .inl (cI, rn, .inl (tf))), (pa, .inl (cB, pn, .inl (U)))])) (va_A [(x, .inr (0, [.ref wa, .int wc, .ref ra, .ref ma, .ref ua, .ref oa, .int ph, .int dn, .int nx, .int fo])), (ma, .inr (1, [.int (nI md), .int (nI bt), .int (nI lo), .int (nI nl), .ref sa, .ref ta, .ref fa, .ref pa, .int (nI pe), .ref ba])), (sa, .inl (cI, rn, .inl (sf))), (ta, .inl (cI, rn, .inl (tf))), (pa, .inl (cB, pn, .inl (pf)))] sz) := by
  refine zstart (Qc := fun A => zQi D A (fun r (U : (Nat → Int32)) => r = (xCopy to fr n0 M).1 ∧ cRep (xCopy to fr n0 M).2 md bt nl pe rn pn sf tf uf U) (fun _ => (0, 0)) (fun (U : (Nat → Int32)) => [(x, .inr (0, [.ref wa, .int wc, .ref ra, .ref ma, .ref ua, .ref oa, .int ph, .int dn, .int nx, .int fo])), (ma, .inr (1, [.int (nI md), .int (nI bt), .int (nI lo), .int (nI nl), .ref sa, .ref ta, .ref fa, .ref pa, .int (nI pe), .ref ba])), (sa, .inl (cI, rn, .inl (sf))), (ta, .inl (cI, rn, .inl (tf))), (pa, .inl (cB, pn, .inl (U)))])) (by decide) (Nat.le_of_ble_eq_true rfl) ?_
  intro p e s m below meth c ls A hE hr hlocks hin hsz hK hP hD hS hA hAe hl
  have hx := hE.1
  have hb := hE.2.1
  have hown := hE.2.2.2.1
  have hw := hE.2.2.2.2
  have hl : lv_has ls 4 [(0, .ref x), (1, .int to), (2, .int fr), (3, .int n0)] := hl
  refine lv_iload_n hx hb d_Rv_copyBytes_0 rfl (lv_at hl 3 rfl) ?_
  refine lv_if_lt (tgt := 11) hx hb d_Rv_copyBytes_1 (by decide) (fun h1 => ?_) (fun h1 => ?_)
  · refine lv_iconst (v := 4) hx hb d_Rv_copyBytes_11 (by decide) ?_
    have hs : xCopy to fr n0 M = (4, M) := by unfold xCopy; rw [if_pos h1]
    have hP9 := hP.sub (ws' := [(x, .inr (0, [.ref wa, .int wc, .ref ra, .ref ma, .ref ua, .ref oa, .int ph, .int dn, .int nx, .int fo])), (ma, .inr (1, [.int (nI md), .int (nI bt), .int (nI lo), .int (nI nl), .ref sa, .ref ta, .ref fa, .ref pa, .int (nI pe), .ref ba])), (sa, .inl (cI, rn, .inl (sf))), (ta, .inl (cI, rn, .inl (tf))), (pa, .inl (cB, pn, .inl (pf)))]) [0, 1, 2, 3, 4] rfl
    have hD9 := hD.sub (ws' := [(x, .inr (0, [.ref wa, .int wc, .ref ra, .ref ma, .ref ua, .ref oa, .int ph, .int dn, .int nx, .int fo])), (ma, .inr (1, [.int (nI md), .int (nI bt), .int (nI lo), .int (nI nl), .ref sa, .ref ta, .ref fa, .ref pa, .int (nI pe), .ref ba])), (sa, .inl (cI, rn, .inl (sf))), (ta, .inl (cI, rn, .inl (tf))), (pa, .inl (cB, pn, .inl (pf)))]) [0, 1, 2, 3, 4] rfl rfl
    exact zreti hx hb hr rfl hlocks hS pf ⟨by rw [hs], by rw [hs]; exact hR⟩ rfl hP9 hD9 d_Rv_copyBytes_12
  · refine lv_iload_n hx hb d_Rv_copyBytes_4 rfl (lv_at hl 3 rfl) ?_
    refine lv_sipush (v := 4000) hx hb d_Rv_copyBytes_5 (by decide) ?_
    refine lv_icmp_le (tgt := 13) hx hb d_Rv_copyBytes_8 (by decide) (fun h2 => ?_) (fun h2 => ?_)
    · refine lv_iload_n hx hb d_Rv_copyBytes_13 rfl (lv_at hl 3 rfl) ?_
      refine lv_if_ne (tgt := 19) hx hb d_Rv_copyBytes_14 (by decide) (fun h3 => ?_) (fun h3 => ?_)
      · refine lv_aload_n hx hb d_Rv_copyBytes_19 rfl (lv_at hl 0 rfl) ?_
        refine zget hE hK hP 0 rfl fd_Rv_19 rfl d_Rv_copyBytes_20 ?_
        refine lv_iload_n hx hb d_Rv_copyBytes_23 rfl (lv_at hl 2 rfl) ?_
        refine lv_iload_n hx hb d_Rv_copyBytes_24 rfl (lv_at hl 3 rfl) ?_
        refine zgoi (wr := [(x, .inr (0, [.ref wa, .int wc, .ref ra, .ref ma, .ref ua, .ref oa, .int ph, .int dn, .int nx, .int fo])), (ta, .inl (cI, rn, .inl (tf))), (pa, .inl (cB, pn, .inl (pf)))]) (zrunV (n := 2) (As := [.int fr, .int n0]) (rest := []) hE (c_Me_holds l D cI cB cJ _ fr n0 ma md bt lo nl sa ta fa pa pe ba rn sf hR.2.2.2.2.1 hR.2.2.2.2.2.1) cb_Me_holds lk_Rv_74 in_Me_holds se_Me_holds (zpreV (q0 := 1) hK hP hD rfl rfl rfl [1, 2] rfl rfl rfl) ⟨Nat.le_of_ble_eq_true rfl, Nat.le_of_ble_eq_true rfl, Nat.le_of_ble_eq_true rfl, Nat.le_of_ble_eq_true rfl⟩ rfl hl.1 rfl (Nat.le_of_ble_eq_true rfl) d_Rv_copyBytes_25) hP hD hS hA [1, 2] [0, 3, 4] rfl rfl rfl (by decide) (fun r5 u6 H locs hq4 hP hD hS => ?_)
        subst hq4
        have hP : va_P D zC [(x, .inr (0, [.ref wa, .int wc, .ref ra, .ref ma, .ref ua, .ref oa, .int ph, .int dn, .int nx, .int fo])), (ta, .inl (cI, rn, .inl (tf))), (pa, .inl (cB, pn, .inl (pf))), (ma, .inr (1, [.int (nI md), .int (nI bt), .int (nI lo), .int (nI nl), .ref sa, .ref ta, .ref fa, .ref pa, .int (nI pe), .ref ba])), (sa, .inl (cI, rn, .inl (sf)))] _ := hP
        have hD : va_D A [(x, .inr (0, [.ref wa, .int wc, .ref ra, .ref ma, .ref ua, .ref oa, .int ph, .int dn, .int nx, .int fo])), (ta, .inl (cI, rn, .inl (tf))), (pa, .inl (cB, pn, .inl (pf))), (ma, .inr (1, [.int (nI md), .int (nI bt), .int (nI lo), .int (nI nl), .ref sa, .ref ta, .ref fa, .ref pa, .int (nI pe), .ref ba])), (sa, .inl (cI, rn, .inl (sf)))] := hD
        refine z_st (st' := [.int (mHs M fr n0)]) (by rw [show (((sp_Me_holds fr n0 md sf)) : Int32) = mHs M fr n0 from cRep_holds hR _ _]) ?_
        refine lv_if_eq (tgt := 43) hx hb d_Rv_copyBytes_28 (by decide) (fun h7 => ?_) (fun h7 => ?_)
        · refine lv_iconst (v := 2) hx hb d_Rv_copyBytes_43 (by decide) ?_
          have hs : xCopy to fr n0 M = (2, M) := by unfold xCopy; rw [if_neg h1, if_pos h2, if_neg h3, if_pos h7]
          have hP9 := hP.sub (ws' := [(x, .inr (0, [.ref wa, .int wc, .ref ra, .ref ma, .ref ua, .ref oa, .int ph, .int dn, .int nx, .int fo])), (ma, .inr (1, [.int (nI md), .int (nI bt), .int (nI lo), .int (nI nl), .ref sa, .ref ta, .ref fa, .ref pa, .int (nI pe), .ref ba])), (sa, .inl (cI, rn, .inl (sf))), (ta, .inl (cI, rn, .inl (tf))), (pa, .inl (cB, pn, .inl (pf)))]) [0, 3, 4, 1, 2] rfl
          have hD9 := hD.sub (ws' := [(x, .inr (0, [.ref wa, .int wc, .ref ra, .ref ma, .ref ua, .ref oa, .int ph, .int dn, .int nx, .int fo])), (ma, .inr (1, [.int (nI md), .int (nI bt), .int (nI lo), .int (nI nl), .ref sa, .ref ta, .ref fa, .ref pa, .int (nI pe), .ref ba])), (sa, .inl (cI, rn, .inl (sf))), (ta, .inl (cI, rn, .inl (tf))), (pa, .inl (cB, pn, .inl (pf)))]) [0, 3, 4, 1, 2] rfl rfl
          exact zreti hx hb hr rfl hlocks hS pf ⟨by rw [hs], by rw [hs]; exact hR⟩ rfl hP9 hD9 d_Rv_copyBytes_44
        · refine lv_aload_n hx hb d_Rv_copyBytes_31 rfl (lv_at hl 0 rfl) ?_
          refine zget hE hK hP 0 rfl fd_Rv_19 rfl d_Rv_copyBytes_32 ?_
          refine lv_iload_n hx hb d_Rv_copyBytes_35 rfl (lv_at hl 1 rfl) ?_
          refine lv_iload_n hx hb d_Rv_copyBytes_36 rfl (lv_at hl 3 rfl) ?_
          refine zgoi (wr := [(x, .inr (0, [.ref wa, .int wc, .ref ra, .ref ma, .ref ua, .ref oa, .int ph, .int dn, .int nx, .int fo])), (ta, .inl (cI, rn, .inl (tf))), (pa, .inl (cB, pn, .inl (pf)))]) (zrunV (n := 2) (As := [.int to, .int n0]) (rest := []) hE (c_Me_holds l D cI cB cJ _ to n0 ma md bt lo nl sa ta fa pa pe ba rn sf hR.2.2.2.2.1 hR.2.2.2.2.2.1) cb_Me_holds lk_Rv_74 in_Me_holds se_Me_holds (zpreV (q0 := 3) hK hP hD rfl rfl rfl [3, 4] rfl rfl rfl) ⟨Nat.le_of_ble_eq_true rfl, Nat.le_of_ble_eq_true rfl, Nat.le_of_ble_eq_true rfl, Nat.le_of_ble_eq_true rfl⟩ rfl hl.1 rfl (Nat.le_of_ble_eq_true rfl) d_Rv_copyBytes_37) hP hD hS hA [3, 4] [0, 1, 2] rfl rfl rfl (by decide) (fun r9 u10 H locs hq8 hP hD hS => ?_)
          subst hq8
          have hP : va_P D zC [(x, .inr (0, [.ref wa, .int wc, .ref ra, .ref ma, .ref ua, .ref oa, .int ph, .int dn, .int nx, .int fo])), (ta, .inl (cI, rn, .inl (tf))), (pa, .inl (cB, pn, .inl (pf))), (ma, .inr (1, [.int (nI md), .int (nI bt), .int (nI lo), .int (nI nl), .ref sa, .ref ta, .ref fa, .ref pa, .int (nI pe), .ref ba])), (sa, .inl (cI, rn, .inl (sf)))] _ := hP
          have hD : va_D A [(x, .inr (0, [.ref wa, .int wc, .ref ra, .ref ma, .ref ua, .ref oa, .int ph, .int dn, .int nx, .int fo])), (ta, .inl (cI, rn, .inl (tf))), (pa, .inl (cB, pn, .inl (pf))), (ma, .inr (1, [.int (nI md), .int (nI bt), .int (nI lo), .int (nI nl), .ref sa, .ref ta, .ref fa, .ref pa, .int (nI pe), .ref ba])), (sa, .inl (cI, rn, .inl (sf)))] := hD
          refine z_st (st' := [.int (mHs M to n0)]) (by rw [show (((sp_Me_holds to n0 md sf)) : Int32) = mHs M to n0 from cRep_holds hR _ _]) ?_
          refine lv_if_ne (tgt := 45) hx hb d_Rv_copyBytes_40 (by decide) (fun h11 => ?_) (fun h11 => ?_)
          · have hbn := zN_in h1 h2 h3
            obtain ⟨a0, za, a1, a2, a3, a4, a5, a6, a7, ⟨qa, a8, a10⟩, a9⟩ := cRep_spot hR h11 hbn.1 hbn.2
            obtain ⟨b0, zb, b1, b2, b3, b4, b5, b6, b7, ⟨qb, b8, b10⟩, b9⟩ := cRep_spot hR h7 hbn.1 hbn.2
            refine lv_aload_n hx hb d_Rv_copyBytes_45 rfl (lv_at hl 0 rfl) ?_
            refine zget hE hK hP 0 rfl fd_Rv_19 rfl d_Rv_copyBytes_46 ?_
            refine lv_iload_n hx hb d_Rv_copyBytes_49 rfl (lv_at hl 1 rfl) ?_
            refine lv_iload_n hx hb d_Rv_copyBytes_50 rfl (lv_at hl 2 rfl) ?_
            refine lv_iload_n hx hb d_Rv_copyBytes_51 rfl (lv_at hl 3 rfl) ?_
            refine zgov (wr := [(x, .inr (0, [.ref wa, .int wc, .ref ra, .ref ma, .ref ua, .ref oa, .int ph, .int dn, .int nx, .int fo])), (sa, .inl (cI, rn, .inl (sf)))]) (zrunV (n := 3) (As := [.int to, .int fr, .int n0]) (rest := []) hE (c_Me_copy l D cI cB cJ _ to fr n0 ma md bt lo nl sa ta fa pa pe ba rn tf pn pf a0 b0 (zN n0) a1 b1 a2 a3 b3 (z_of _) a4 b4 a5 hR.2.2.2.2.2.2.2.2.2.1) cb_Me_copy lk_Rv_220 in_Me_copy se_Me_copy (zpreV (q0 := 3) hK hP hD rfl rfl rfl [3, 1, 2] rfl rfl rfl) ⟨Nat.le_of_ble_eq_true rfl, Nat.le_of_ble_eq_true rfl, Nat.le_of_ble_eq_true rfl, Nat.le_of_ble_eq_true rfl⟩ rfl hl.1 rfl (Nat.le_of_ble_eq_true rfl) d_Rv_copyBytes_52) hP hD hS hA [3, 1, 2] [0, 4] rfl rfl rfl (by decide) (fun u14 H locs hq12 hP hD hS => ?_)
            clear hq12
            have hP : va_P D zC [(x, .inr (0, [.ref wa, .int wc, .ref ra, .ref ma, .ref ua, .ref oa, .int ph, .int dn, .int nx, .int fo])), (sa, .inl (cI, rn, .inl (sf))), (ma, .inr (1, [.int (nI md), .int (nI bt), .int (nI lo), .int (nI nl), .ref sa, .ref ta, .ref fa, .ref pa, .int (nI pe), .ref ba])), (ta, .inl (cI, rn, .inl (tf))), (pa, .inl (cB, pn, .inl (va_cpy pf pf b0 a0 (zN n0))))] _ := hP
            have hD : va_D A [(x, .inr (0, [.ref wa, .int wc, .ref ra, .ref ma, .ref ua, .ref oa, .int ph, .int dn, .int nx, .int fo])), (sa, .inl (cI, rn, .inl (sf))), (ma, .inr (1, [.int (nI md), .int (nI bt), .int (nI lo), .int (nI nl), .ref sa, .ref ta, .ref fa, .ref pa, .int (nI pe), .ref ba])), (ta, .inl (cI, rn, .inl (tf))), (pa, .inl (cB, pn, .inl (va_cpy pf pf b0 a0 (zN n0))))] := hD
            refine lv_iconst (v := 0) hx hb d_Rv_copyBytes_55 (by decide) ?_
            have hs : xCopy to fr n0 M = (0, mCp M to fr n0) := by unfold xCopy; rw [if_neg h1, if_pos h2, if_neg h3, if_neg h7, if_neg h11]
            have hP9 := hP.sub (ws' := [(x, .inr (0, [.ref wa, .int wc, .ref ra, .ref ma, .ref ua, .ref oa, .int ph, .int dn, .int nx, .int fo])), (ma, .inr (1, [.int (nI md), .int (nI bt), .int (nI lo), .int (nI nl), .ref sa, .ref ta, .ref fa, .ref pa, .int (nI pe), .ref ba])), (sa, .inl (cI, rn, .inl (sf))), (ta, .inl (cI, rn, .inl (tf))), (pa, .inl (cB, pn, .inl (va_cpy pf pf b0 a0 (zN n0))))]) [0, 2, 1, 3, 4] rfl
            have hD9 := hD.sub (ws' := [(x, .inr (0, [.ref wa, .int wc, .ref ra, .ref ma, .ref ua, .ref oa, .int ph, .int dn, .int nx, .int fo])), (ma, .inr (1, [.int (nI md), .int (nI bt), .int (nI lo), .int (nI nl), .ref sa, .ref ta, .ref fa, .ref pa, .int (nI pe), .ref ba])), (sa, .inl (cI, rn, .inl (sf))), (ta, .inl (cI, rn, .inl (tf))), (pa, .inl (cB, pn, .inl (va_cpy pf pf b0 a0 (zN n0))))]) [0, 2, 1, 3, 4] rfl rfl
            exact zreti hx hb hr rfl hlocks hS (va_cpy pf pf b0 a0 (zN n0)) ⟨by rw [hs], by rw [hs]; exact cRep_copy hR hbn.1 a6 a7 a8 a4 b4 a10 b9⟩ rfl hP9 hD9 d_Rv_copyBytes_56
          · refine lv_iconst (v := 2) hx hb d_Rv_copyBytes_43 (by decide) ?_
            have hs : xCopy to fr n0 M = (2, M) := by unfold xCopy; rw [if_neg h1, if_pos h2, if_neg h3, if_neg h7, if_pos h11]
            have hP9 := hP.sub (ws' := [(x, .inr (0, [.ref wa, .int wc, .ref ra, .ref ma, .ref ua, .ref oa, .int ph, .int dn, .int nx, .int fo])), (ma, .inr (1, [.int (nI md), .int (nI bt), .int (nI lo), .int (nI nl), .ref sa, .ref ta, .ref fa, .ref pa, .int (nI pe), .ref ba])), (sa, .inl (cI, rn, .inl (sf))), (ta, .inl (cI, rn, .inl (tf))), (pa, .inl (cB, pn, .inl (pf)))]) [0, 3, 4, 1, 2] rfl
            have hD9 := hD.sub (ws' := [(x, .inr (0, [.ref wa, .int wc, .ref ra, .ref ma, .ref ua, .ref oa, .int ph, .int dn, .int nx, .int fo])), (ma, .inr (1, [.int (nI md), .int (nI bt), .int (nI lo), .int (nI nl), .ref sa, .ref ta, .ref fa, .ref pa, .int (nI pe), .ref ba])), (sa, .inl (cI, rn, .inl (sf))), (ta, .inl (cI, rn, .inl (tf))), (pa, .inl (cB, pn, .inl (pf)))]) [0, 3, 4, 1, 2] rfl rfl
            exact zreti hx hb hr rfl hlocks hS pf ⟨by rw [hs], by rw [hs]; exact hR⟩ rfl hP9 hD9 d_Rv_copyBytes_44
      · refine lv_iconst (v := 0) hx hb d_Rv_copyBytes_17 (by decide) ?_
        have hs : xCopy to fr n0 M = (0, M) := by unfold xCopy; rw [if_neg h1, if_pos h2, if_pos h3]
        have hP9 := hP.sub (ws' := [(x, .inr (0, [.ref wa, .int wc, .ref ra, .ref ma, .ref ua, .ref oa, .int ph, .int dn, .int nx, .int fo])), (ma, .inr (1, [.int (nI md), .int (nI bt), .int (nI lo), .int (nI nl), .ref sa, .ref ta, .ref fa, .ref pa, .int (nI pe), .ref ba])), (sa, .inl (cI, rn, .inl (sf))), (ta, .inl (cI, rn, .inl (tf))), (pa, .inl (cB, pn, .inl (pf)))]) [0, 1, 2, 3, 4] rfl
        have hD9 := hD.sub (ws' := [(x, .inr (0, [.ref wa, .int wc, .ref ra, .ref ma, .ref ua, .ref oa, .int ph, .int dn, .int nx, .int fo])), (ma, .inr (1, [.int (nI md), .int (nI bt), .int (nI lo), .int (nI nl), .ref sa, .ref ta, .ref fa, .ref pa, .int (nI pe), .ref ba])), (sa, .inl (cI, rn, .inl (sf))), (ta, .inl (cI, rn, .inl (tf))), (pa, .inl (cB, pn, .inl (pf)))]) [0, 1, 2, 3, 4] rfl rfl
        exact zreti hx hb hr rfl hlocks hS pf ⟨by rw [hs], by rw [hs]; exact hR⟩ rfl hP9 hD9 d_Rv_copyBytes_18
    · refine lv_iconst (v := 4) hx hb d_Rv_copyBytes_11 (by decide) ?_
      have hs : xCopy to fr n0 M = (4, M) := by unfold xCopy; rw [if_neg h1, if_neg h2]
      have hP9 := hP.sub (ws' := [(x, .inr (0, [.ref wa, .int wc, .ref ra, .ref ma, .ref ua, .ref oa, .int ph, .int dn, .int nx, .int fo])), (ma, .inr (1, [.int (nI md), .int (nI bt), .int (nI lo), .int (nI nl), .ref sa, .ref ta, .ref fa, .ref pa, .int (nI pe), .ref ba])), (sa, .inl (cI, rn, .inl (sf))), (ta, .inl (cI, rn, .inl (tf))), (pa, .inl (cB, pn, .inl (pf)))]) [0, 1, 2, 3, 4] rfl
      have hD9 := hD.sub (ws' := [(x, .inr (0, [.ref wa, .int wc, .ref ra, .ref ma, .ref ua, .ref oa, .int ph, .int dn, .int nx, .int fo])), (ma, .inr (1, [.int (nI md), .int (nI bt), .int (nI lo), .int (nI nl), .ref sa, .ref ta, .ref fa, .ref pa, .int (nI pe), .ref ba])), (sa, .inl (cI, rn, .inl (sf))), (ta, .inl (cI, rn, .inl (tf))), (pa, .inl (cB, pn, .inl (pf)))]) [0, 1, 2, 3, 4] rfl rfl
      exact zreti hx hb hr rfl hlocks hS pf ⟨by rw [hs], by rw [hs]; exact hR⟩ rfl hP9 hD9 d_Rv_copyBytes_12
