/-! decode rows -/
theorem d_Mo_peek_0 : decode b_Mo_peek 0 = .ok (.aload_n 0, 1) := by decide +kernel
theorem d_Mo_peek_1 : decode b_Mo_peek 1 = .ok (.iconst 0, 1) := by decide +kernel
theorem d_Mo_peek_2 : decode b_Mo_peek 2 = .ok (.putfield 62, 3) := by decide +kernel
theorem d_Mo_peek_5 : decode b_Mo_peek 5 = .ok (.aload_n 0, 1) := by decide +kernel
theorem d_Mo_peek_6 : decode b_Mo_peek 6 = .ok (.iload_n 1, 1) := by decide +kernel
theorem d_Mo_peek_7 : decode b_Mo_peek 7 = .ok (.iconst 1, 1) := by decide +kernel
theorem d_Mo_peek_8 : decode b_Mo_peek 8 = .ok (.invokevirtual 153, 3) := by decide +kernel
theorem d_Mo_peek_11 : decode b_Mo_peek 11 = .ok (.istore_n 2, 1) := by decide +kernel
theorem d_Mo_peek_12 : decode b_Mo_peek 12 = .ok (.iload_n 2, 1) := by decide +kernel
theorem d_Mo_peek_13 : decode b_Mo_peek 13 = .ok (.ifCond .ge 7, 3) := by decide +kernel
theorem d_Mo_peek_16 : decode b_Mo_peek 16 = .ok (.iconst (-1), 1) := by decide +kernel
theorem d_Mo_peek_17 : decode b_Mo_peek 17 = .ok (.goto 13, 3) := by decide +kernel
theorem d_Mo_peek_20 : decode b_Mo_peek 20 = .ok (.aload_n 0, 1) := by decide +kernel
theorem d_Mo_peek_21 : decode b_Mo_peek 21 = .ok (.getfield 23, 3) := by decide +kernel
theorem d_Mo_peek_24 : decode b_Mo_peek 24 = .ok (.iload_n 2, 1) := by decide +kernel
theorem d_Mo_peek_25 : decode b_Mo_peek 25 = .ok (.baload, 1) := by decide +kernel
theorem d_Mo_peek_26 : decode b_Mo_peek 26 = .ok (.sipush 255, 3) := by decide +kernel
theorem d_Mo_peek_29 : decode b_Mo_peek 29 = .ok (.iand, 1) := by decide +kernel
theorem d_Mo_peek_30 : decode b_Mo_peek 30 = .ok (.ireturn, 1) := by decide +kernel

set_option maxHeartbeats 4000000 in
theorem c_Mo_peek (l : Launch) (D : va_G) (cI cB cJ : ClassId) (sz : Nat) (ad : Int32) (m0 : Nat) (mk : Nat) (mt : Nat) (kd : Int32) (wo : Nat) (wn : Int32) (re : Nat) (pc : Int32) (sta : Int32) (dn : Int32) (th : Int32) (ro : Nat) (aa : Nat) (si : Nat) (so : Nat) (la : Nat) (gd : Nat) (gl : Nat) (gt : Nat) (gr : Nat) (ip : Nat) (oq : Nat) (cp : Nat) (ni : Int32) (no : Int32) (af : Nat → Int32) (zf : Nat → Int32) (of : Nat → Int32) (rf : Nat → Int32) (M : MM) (lf : Nat → Int32) (hR : rRep M gd gl gt gr af zf of lf rf) : zMet l y_Mo_peek (zWs y_Mo_peek b_Mo_peek 3 (some .int)) { frames := 1, cells := 0, slots := 0, locals := 24 } (zPc D (zT cI cB cJ) sz [(m0, .inr (3, [.ref mk, .ref mt, .int kd, .ref wo, .int wn, .ref re, .int pc, .int sta, .int dn, .int th, .ref ro, .ref aa, .ref si, .ref so, .ref la, .int (nI gd), .int (nI gl), .int (nI gt), .int (nI gr), .ref ip, .ref oq, .ref cp, .int ni, .int no])), (aa, .inl (cI, 8001, .inl (af))), (si, .inl (cI, 8001, .inl (zf))), (so, .inl (cI, 8001, .inl (of))), (ro, .inl (cB, 90000, .inl (rf)))] [.ref m0, .int ad]) (zQi D (va_A [(m0, .inr (3, [.ref mk, .ref mt, .int kd, .ref wo, .int wn, .ref re, .int pc, .int sta, .int dn, .int th, .ref ro, .ref aa, .ref si, .ref so, .ref la, .int (nI gd), .int (nI gl), .int (nI gt), .int (nI gr), .ref ip, .ref oq, .ref cp, .int ni, .int no])), (aa, .inl (cI, 8001, .inl (af))), (si, .inl (cI, 8001, .inl (zf))), (so, .inl (cI, 8001, .inl (of))), (ro, .inl (cB, 90000, .inl (rf)))] sz) (fun r (_ : Unit) => (mPl M ad 1 ∧ r = mCt M (zN ad / 65536) (zN ad % 65536) &&& 255) ∨ (¬ mPl M ad 1 ∧ r = -1)) (z0) (fun _ => [(m0, .inr (3, [.ref mk, .ref mt, .int kd, .ref wo, .int wn, .ref re, .int pc, .int sta, .int dn, .int 0, .ref ro, .ref aa, .ref si, .ref so, .ref la, .int (nI gd), .int (nI gl), .int (nI gt), .int (nI gr), .ref ip, .ref oq, .ref cp, .int ni, .int no])), (aa, .inl (cI, 8001, .inl (af))), (si, .inl (cI, 8001, .inl (zf))), (so, .inl (cI, 8001, .inl (of))), (ro, .inl (cB, 90000, .inl (rf)))])) (va_A [(m0, .inr (3, [.ref mk, .ref mt, .int kd, .ref wo, .int wn, .ref re, .int pc, .int sta, .int dn, .int th, .ref ro, .ref aa, .ref si, .ref so, .ref la, .int (nI gd), .int (nI gl), .int (nI gt), .int (nI gr), .ref ip, .ref oq, .ref cp, .int ni, .int no])), (aa, .inl (cI, 8001, .inl (af))), (si, .inl (cI, 8001, .inl (zf))), (so, .inl (cI, 8001, .inl (of))), (ro, .inl (cB, 90000, .inl (rf)))] sz) := by
  refine zstart (Qc := fun A => zQi D A (fun r (_ : Unit) => (mPl M ad 1 ∧ r = mCt M (zN ad / 65536) (zN ad % 65536) &&& 255) ∨ (¬ mPl M ad 1 ∧ r = -1)) (z0) (fun _ => [(m0, .inr (3, [.ref mk, .ref mt, .int kd, .ref wo, .int wn, .ref re, .int pc, .int sta, .int dn, .int 0, .ref ro, .ref aa, .ref si, .ref so, .ref la, .int (nI gd), .int (nI gl), .int (nI gt), .int (nI gr), .ref ip, .ref oq, .ref cp, .int ni, .int no])), (aa, .inl (cI, 8001, .inl (af))), (si, .inl (cI, 8001, .inl (zf))), (so, .inl (cI, 8001, .inl (of))), (ro, .inl (cB, 90000, .inl (rf)))])) (by decide) (Nat.le_of_ble_eq_true rfl) ?_
  intro p e s m below meth c ls A hE hr hlocks hin hsz hK hP hD hS hA hAe hl
  have hx := hE.1
  have hb := hE.2.1
  have hown := hE.2.2.2.1
  have hw := hE.2.2.2.2
  have hl : lv_has ls 3 [(0, .ref m0), (1, .int ad)] := hl
  refine lv_aload_n hx hb d_Mo_peek_0 rfl (lv_at hl 0 rfl) ?_
  refine lv_iconst (v := 0) hx hb d_Mo_peek_1 (by decide) ?_
  refine zput (v := .int 0) hE hK hP hD hS 0 rfl fd_Mo_62 ft_Mo_9 rfl rfl (Nat.le_of_ble_eq_true rfl) d_Mo_peek_2 (fun H locs hP hD hS => ?_)
  have hP : va_P D zC [(m0, .inr (3, [.ref mk, .ref mt, .int kd, .ref wo, .int wn, .ref re, .int pc, .int sta, .int dn, .int 0, .ref ro, .ref aa, .ref si, .ref so, .ref la, .int (nI gd), .int (nI gl), .int (nI gt), .int (nI gr), .ref ip, .ref oq, .ref cp, .int ni, .int no])), (aa, .inl (cI, 8001, .inl (af))), (si, .inl (cI, 8001, .inl (zf))), (so, .inl (cI, 8001, .inl (of))), (ro, .inl (cB, 90000, .inl (rf)))] _ := hP
  have hD : va_D A [(m0, .inr (3, [.ref mk, .ref mt, .int kd, .ref wo, .int wn, .ref re, .int pc, .int sta, .int dn, .int 0, .ref ro, .ref aa, .ref si, .ref so, .ref la, .int (nI gd), .int (nI gl), .int (nI gt), .int (nI gr), .ref ip, .ref oq, .ref cp, .int ni, .int no])), (aa, .inl (cI, 8001, .inl (af))), (si, .inl (cI, 8001, .inl (zf))), (so, .inl (cI, 8001, .inl (of))), (ro, .inl (cB, 90000, .inl (rf)))] := hD
  refine lv_aload_n hx hb d_Mo_peek_5 rfl (lv_at hl 0 rfl) ?_
  refine lv_iload_n hx hb d_Mo_peek_6 rfl (lv_at hl 1 rfl) ?_
  refine lv_iconst (v := 1) hx hb d_Mo_peek_7 (by decide) ?_
  refine zgoi (wr := [(ro, .inl (cB, 90000, .inl (rf)))]) (zrunV (n := 2) (As := [.int ad, .int 1]) (rest := []) hE (c_Mo_place l D cI cB cJ _ ad 1 m0 mk mt kd wo wn re pc sta dn 0 ro aa si so la (nI gd) (nI gl) (nI gt) (nI gr) ip oq cp ni no af zf of ⟨by rw [nI_toInt (by have := hR.1.1; have := hR.2.1; omega)]; omega, by rw [nI_toInt (by have := hR.1.1; have := hR.2.1; omega)]; have := hR.1.1; have := hR.2.1; omega⟩ (by decide)) cb_Mo_place lk_Mo_153 in_Mo_place se_Mo_place (zpreV (q0 := 0) hK hP hD rfl rfl rfl [0, 1, 2, 3] rfl rfl rfl) ⟨Nat.le_of_ble_eq_true rfl, Nat.le_of_ble_eq_true rfl, Nat.le_of_ble_eq_true rfl, Nat.le_of_ble_eq_true rfl⟩ rfl hl.1 rfl (Nat.le_of_ble_eq_true rfl) d_Mo_peek_8) hP hD hS hA [0, 1, 2, 3] [4] rfl rfl rfl (by decide) (fun r2 u3 H locs hq1 hP hD hS => ?_)
  subst hq1
  have hP : va_P D zC [(ro, .inl (cB, 90000, .inl (rf))), (m0, .inr (3, [.ref mk, .ref mt, .int kd, .ref wo, .int wn, .ref re, .int pc, .int sta, .int dn, .int 0, .ref ro, .ref aa, .ref si, .ref so, .ref la, .int (nI gd), .int (nI gl), .int (nI gt), .int (nI gr), .ref ip, .ref oq, .ref cp, .int ni, .int no])), (aa, .inl (cI, 8001, .inl (af))), (si, .inl (cI, 8001, .inl (zf))), (so, .inl (cI, 8001, .inl (of)))] _ := hP
  have hD : va_D A [(ro, .inl (cB, 90000, .inl (rf))), (m0, .inr (3, [.ref mk, .ref mt, .int kd, .ref wo, .int wn, .ref re, .int pc, .int sta, .int dn, .int 0, .ref ro, .ref aa, .ref si, .ref so, .ref la, .int (nI gd), .int (nI gl), .int (nI gt), .int (nI gr), .ref ip, .ref oq, .ref cp, .int ni, .int no])), (aa, .inl (cI, 8001, .inl (af))), (si, .inl (cI, 8001, .inl (zf))), (so, .inl (cI, 8001, .inl (of)))] := hD
  rcases Classical.em (mPl M ad 1) with hp | hp
  · obtain ⟨q, z, e1, e2, e3, e4, e5, e6⟩ := (rRep_place hR ad (k := 1) (by omega) (by omega)).1 hp
    have hu := up4_le z
    refine z_st (st' := [.int (nI (q + zN ad % 65536))]) (by rw [show (((sp_Mo_place ad 1 (nI gd) af zf of)) : Int32) = nI (q + zN ad % 65536) from e1]) ?_
    refine lv_istore_n (lv' := [(2, .int (nI (q + zN ad % 65536))), (0, .ref m0), (1, .int ad)]) hx hb d_Mo_peek_11 rfl hl (by decide) rfl (fun ls hl => ?_)
    refine lv_iload_n hx hb d_Mo_peek_12 rfl (lv_at hl 0 rfl) ?_
    refine lv_if_ge (tgt := 20) hx hb d_Mo_peek_13 (by decide) (fun h4 => ?_) (fun h4 => (show False by exact h4 (nI_pos' (by omega))).elim)
    refine lv_aload_n hx hb d_Mo_peek_20 rfl (lv_at hl 1 rfl) ?_
    refine zget hE hK hP 1 rfl fd_Mo_23 rfl d_Mo_peek_21 ?_
    refine lv_iload_n hx hb d_Mo_peek_24 rfl (lv_at hl 0 rfl) ?_
    refine va_bald hx hb hK hP 0 1 rfl rfl (vp_in_nI (by omega) (by omega)) d_Mo_peek_25 ?_
    refine z_st (st' := [.int (mCt M (zN ad / 65536) (zN ad % 65536))]) (by rw [show ((rf (nI (q + zN ad % 65536)).toNatClampNeg) : Int32) = mCt M (zN ad / 65536) (zN ad % 65536) from by rw [nI_clamp (by omega)]; exact e6 0 (by omega)]) ?_
    refine lv_sipush (v := 255) hx hb d_Mo_peek_26 (by decide) ?_
    refine lv_iand hx hb d_Mo_peek_29 ?_
    have hP9 := hP.sub (ws' := [(m0, .inr (3, [.ref mk, .ref mt, .int kd, .ref wo, .int wn, .ref re, .int pc, .int sta, .int dn, .int 0, .ref ro, .ref aa, .ref si, .ref so, .ref la, .int (nI gd), .int (nI gl), .int (nI gt), .int (nI gr), .ref ip, .ref oq, .ref cp, .int ni, .int no])), (aa, .inl (cI, 8001, .inl (af))), (si, .inl (cI, 8001, .inl (zf))), (so, .inl (cI, 8001, .inl (of))), (ro, .inl (cB, 90000, .inl (rf)))]) [1, 2, 3, 4, 0] rfl
    have hD9 := hD.sub (ws' := [(m0, .inr (3, [.ref mk, .ref mt, .int kd, .ref wo, .int wn, .ref re, .int pc, .int sta, .int dn, .int 0, .ref ro, .ref aa, .ref si, .ref so, .ref la, .int (nI gd), .int (nI gl), .int (nI gt), .int (nI gr), .ref ip, .ref oq, .ref cp, .int ni, .int no])), (aa, .inl (cI, 8001, .inl (af))), (si, .inl (cI, 8001, .inl (zf))), (so, .inl (cI, 8001, .inl (of))), (ro, .inl (cB, 90000, .inl (rf)))]) [1, 2, 3, 4, 0] rfl rfl
    exact zreti hx hb hr rfl hlocks hS () (Or.inl ⟨hp, rfl⟩) rfl hP9 hD9 d_Mo_peek_30
  · have e1 := (rRep_place hR ad (k := 1) (by omega) (by omega)).2 hp
    refine z_st (st' := [.int ((-1))]) (by rw [show (((sp_Mo_place ad 1 (nI gd) af zf of)) : Int32) = (-1) from e1]) ?_
    refine lv_istore_n (lv' := [(2, .int ((-1))), (0, .ref m0), (1, .int ad)]) hx hb d_Mo_peek_11 rfl hl (by decide) rfl (fun ls hl => ?_)
    refine lv_iload_n hx hb d_Mo_peek_12 rfl (lv_at hl 0 rfl) ?_
    refine lv_if_ge (tgt := 20) hx hb d_Mo_peek_13 (by decide) (fun h5 => (show False by revert h5; decide).elim) (fun h5 => ?_)
    refine lv_iconst (v := (-1)) hx hb d_Mo_peek_16 (by decide) ?_
    refine lv_goto (tgt := 30) hx hb d_Mo_peek_17 (by decide) ?_
    have hP9 := hP.sub (ws' := [(m0, .inr (3, [.ref mk, .ref mt, .int kd, .ref wo, .int wn, .ref re, .int pc, .int sta, .int dn, .int 0, .ref ro, .ref aa, .ref si, .ref so, .ref la, .int (nI gd), .int (nI gl), .int (nI gt), .int (nI gr), .ref ip, .ref oq, .ref cp, .int ni, .int no])), (aa, .inl (cI, 8001, .inl (af))), (si, .inl (cI, 8001, .inl (zf))), (so, .inl (cI, 8001, .inl (of))), (ro, .inl (cB, 90000, .inl (rf)))]) [1, 2, 3, 4, 0] rfl
    have hD9 := hD.sub (ws' := [(m0, .inr (3, [.ref mk, .ref mt, .int kd, .ref wo, .int wn, .ref re, .int pc, .int sta, .int dn, .int 0, .ref ro, .ref aa, .ref si, .ref so, .ref la, .int (nI gd), .int (nI gl), .int (nI gt), .int (nI gr), .ref ip, .ref oq, .ref cp, .int ni, .int no])), (aa, .inl (cI, 8001, .inl (af))), (si, .inl (cI, 8001, .inl (zf))), (so, .inl (cI, 8001, .inl (of))), (ro, .inl (cB, 90000, .inl (rf)))]) [1, 2, 3, 4, 0] rfl rfl
    exact zreti hx hb hr rfl hlocks hS () (Or.inr ⟨hp, rfl⟩) rfl hP9 hD9 d_Mo_peek_30
