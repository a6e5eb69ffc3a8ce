/-! decode rows -/
theorem d_Mo_take_0 : decode b_Mo_take 0 = .ok (.aload_n 0, 1) := by decide +kernel
theorem d_Mo_take_1 : decode b_Mo_take 1 = .ok (.iconst 0, 1) := by decide +kernel
theorem d_Mo_take_2 : decode b_Mo_take 2 = .ok (.putfield 62, 3) := by decide +kernel
theorem d_Mo_take_5 : decode b_Mo_take 5 = .ok (.lconst 0, 1) := by decide +kernel
theorem d_Mo_take_6 : decode b_Mo_take 6 = .ok (.lstore_n 1, 1) := by decide +kernel
theorem d_Mo_take_7 : decode b_Mo_take 7 = .ok (.aload_n 0, 1) := by decide +kernel
theorem d_Mo_take_8 : decode b_Mo_take 8 = .ok (.getfield 171, 3) := by decide +kernel
theorem d_Mo_take_11 : decode b_Mo_take 11 = .ok (.bipush 8, 2) := by decide +kernel
theorem d_Mo_take_13 : decode b_Mo_take 13 = .ok (.if_icmp .ge 10, 3) := by decide +kernel
theorem d_Mo_take_16 : decode b_Mo_take 16 = .ok (.aload_n 0, 1) := by decide +kernel
theorem d_Mo_take_17 : decode b_Mo_take 17 = .ok (.getfield 171, 3) := by decide +kernel
theorem d_Mo_take_20 : decode b_Mo_take 20 = .ok (.goto 5, 3) := by decide +kernel
theorem d_Mo_take_23 : decode b_Mo_take 23 = .ok (.bipush 8, 2) := by decide +kernel
theorem d_Mo_take_25 : decode b_Mo_take 25 = .ok (.istore_n 3, 1) := by decide +kernel
theorem d_Mo_take_26 : decode b_Mo_take 26 = .ok (.iconst 0, 1) := by decide +kernel
theorem d_Mo_take_27 : decode b_Mo_take 27 = .ok (.istore 4, 2) := by decide +kernel
theorem d_Mo_take_29 : decode b_Mo_take 29 = .ok (.iload 4, 2) := by decide +kernel
theorem d_Mo_take_31 : decode b_Mo_take 31 = .ok (.iload_n 3, 1) := by decide +kernel
theorem d_Mo_take_32 : decode b_Mo_take 32 = .ok (.if_icmp .ge 27, 3) := by decide +kernel
theorem d_Mo_take_35 : decode b_Mo_take 35 = .ok (.lload_n 1, 1) := by decide +kernel
theorem d_Mo_take_36 : decode b_Mo_take 36 = .ok (.bipush 8, 2) := by decide +kernel
theorem d_Mo_take_38 : decode b_Mo_take 38 = .ok (.lshl, 1) := by decide +kernel
theorem d_Mo_take_39 : decode b_Mo_take 39 = .ok (.aload_n 0, 1) := by decide +kernel
theorem d_Mo_take_40 : decode b_Mo_take 40 = .ok (.getfield 42, 3) := by decide +kernel
theorem d_Mo_take_43 : decode b_Mo_take 43 = .ok (.iload 4, 2) := by decide +kernel
theorem d_Mo_take_45 : decode b_Mo_take 45 = .ok (.baload, 1) := by decide +kernel
theorem d_Mo_take_46 : decode b_Mo_take 46 = .ok (.sipush 255, 3) := by decide +kernel
theorem d_Mo_take_49 : decode b_Mo_take 49 = .ok (.iand, 1) := by decide +kernel
theorem d_Mo_take_50 : decode b_Mo_take 50 = .ok (.i2l, 1) := by decide +kernel
theorem d_Mo_take_51 : decode b_Mo_take 51 = .ok (.lor, 1) := by decide +kernel
theorem d_Mo_take_52 : decode b_Mo_take 52 = .ok (.lstore_n 1, 1) := by decide +kernel
theorem d_Mo_take_53 : decode b_Mo_take 53 = .ok (.iinc 4 1, 3) := by decide +kernel
theorem d_Mo_take_56 : decode b_Mo_take 56 = .ok (.goto (-27), 3) := by decide +kernel
theorem d_Mo_take_59 : decode b_Mo_take 59 = .ok (.aload_n 0, 1) := by decide +kernel
theorem d_Mo_take_60 : decode b_Mo_take 60 = .ok (.dup, 1) := by decide +kernel
theorem d_Mo_take_61 : decode b_Mo_take 61 = .ok (.getfield 171, 3) := by decide +kernel
theorem d_Mo_take_64 : decode b_Mo_take 64 = .ok (.iload_n 3, 1) := by decide +kernel
theorem d_Mo_take_65 : decode b_Mo_take 65 = .ok (.isub, 1) := by decide +kernel
theorem d_Mo_take_66 : decode b_Mo_take 66 = .ok (.putfield 171, 3) := by decide +kernel
theorem d_Mo_take_69 : decode b_Mo_take 69 = .ok (.aload_n 0, 1) := by decide +kernel
theorem d_Mo_take_70 : decode b_Mo_take 70 = .ok (.getfield 42, 3) := by decide +kernel
theorem d_Mo_take_73 : decode b_Mo_take 73 = .ok (.iload_n 3, 1) := by decide +kernel
theorem d_Mo_take_74 : decode b_Mo_take 74 = .ok (.aload_n 0, 1) := by decide +kernel
theorem d_Mo_take_75 : decode b_Mo_take 75 = .ok (.getfield 42, 3) := by decide +kernel
theorem d_Mo_take_78 : decode b_Mo_take 78 = .ok (.iconst 0, 1) := by decide +kernel
theorem d_Mo_take_79 : decode b_Mo_take 79 = .ok (.aload_n 0, 1) := by decide +kernel
theorem d_Mo_take_80 : decode b_Mo_take 80 = .ok (.getfield 171, 3) := by decide +kernel
theorem d_Mo_take_83 : decode b_Mo_take 83 = .ok (.invokestatic 91, 3) := by decide +kernel
theorem d_Mo_take_86 : decode b_Mo_take 86 = .ok (.lload_n 1, 1) := by decide +kernel
theorem d_Mo_take_87 : decode b_Mo_take 87 = .ok (.lreturn, 1) := by decide +kernel

/-! the reference's rows of bytes -/
def jR (cap : Nat) (L : List Int32) (n : Nat) (f : Nat → Int32) : Prop := n = L.length ∧ n ≤ cap ∧ cap ≤ 4096 ∧ (∀ i, i < n → f i = L.getD i 0) ∧ ∀ i, i < cap → fits .byte (.int (f i)) = true
theorem drop_getD (L : List Int32) (k i : Nat) : (L.drop k).getD i 0 = L.getD (k + i) 0 := by
  rw [List.getD_eq_getElem?_getD, List.getD_eq_getElem?_getD, List.getElem?_drop]
theorem tk_s {O : List Int32} {k : Nat} (h : k < O.length) : bRem (O.drop k) = (O.getD k 0 &&& 255, O.drop (k + 1)) := by
  rw [List.drop_eq_getElem_cons h, List.getD_eq_getElem?_getD, List.getElem?_eq_getElem h]
  rfl
theorem jR_drop {cap : Nat} {L : List Int32} {n : Nat} {f : Nat → Int32} (h : jR cap L n f) {k : Nat} (hk : k ≤ n) : jR cap (L.drop k) (n - k) (va_cpy f f k 0 (n - k)) := by
  obtain ⟨h1, h2, h3, h4, h5⟩ := h
  refine ⟨by rw [List.length_drop, h1], by omega, h3, fun i hi => ?_, fun i hi => ?_⟩
  · rw [pk_cpy_in (Nat.zero_le _) (by omega), drop_getD, Nat.sub_zero]
    exact h4 _ (by omega)
  · by_cases c : i < n - k
    · rw [pk_cpy_in (Nat.zero_le _) (by omega)]
      exact h5 _ (by omega)
    · rw [pk_cpy_out (by omega)]
      exact h5 i hi
theorem jR_add {cap : Nat} {L : List Int32} {n : Nat} {f : Nat → Int32} (h : jR cap L n f) (hn : n < cap) (b : Int32) : jR cap (bAdd cap L b) (n + 1) (upd f n b.toInt8.toInt32) := by
  obtain ⟨h1, h2, h3, h4, h5⟩ := h
  unfold bAdd
  rw [if_pos (by omega)]
  refine ⟨by rw [List.length_append, h1]; rfl, by omega, h3, fun i hi => ?_, fun i hi => ?_⟩
  · by_cases c : i = n
    · rw [c, upd_self, h1, List.getD_eq_getElem?_getD, List.getElem?_append_right (Nat.le_refl _), Nat.sub_self]
      rfl
    · rw [upd_ne c, List.getD_eq_getElem?_getD, List.getElem?_append_left (by omega), ← List.getD_eq_getElem?_getD]
      exact h4 i (by omega)
  · by_cases c : i = n
    · rw [c, upd_self]
      exact pk_fb _
    · rw [upd_ne c]
      exact h5 i hi

set_option maxHeartbeats 4000000 in
theorem c_Mo_take (l : Launch) (D : va_G) (cI cB cJ : ClassId) (sz : Nat) (m0 : Nat) (mk : Nat) (mt : Nat) (kd : Int32) (wo : Nat) (wn : Int32) (re : Nat) (pc : Int32) (sta : Int32) (dn : Int32) (th : Int32) (ro : Nat) (aa : Nat) (si : Nat) (so : Nat) (la : Nat) (md : Int32) (lq : Int32) (tp : Int32) (tr : Int32) (ip : Nat) (oq : Nat) (cp : Nat) (ni : Int32) (go : Nat) (qf : Nat → Int32) (O : List Int32) (hO : jR 4096 O go qf) : zMet l y_Mo_take (zWs y_Mo_take b_Mo_take 5 (some .long)) { frames := 1, cells := 0, slots := 0, locals := 60 } (zPc D (zT cI cB cJ) sz [(m0, .inr (3, [.ref mk, .ref mt, .int kd, .ref wo, .int wn, .ref re, .int pc, .int sta, .int dn, .int th, .ref ro, .ref aa, .ref si, .ref so, .ref la, .int md, .int lq, .int tp, .int tr, .ref ip, .ref oq, .ref cp, .int ni, .int (nI go)])), (oq, .inl (cB, 4096, .inl (qf)))] [.ref m0]) (zQl D (va_A [(m0, .inr (3, [.ref mk, .ref mt, .int kd, .ref wo, .int wn, .ref re, .int pc, .int sta, .int dn, .int th, .ref ro, .ref aa, .ref si, .ref so, .ref la, .int md, .int lq, .int tp, .int tr, .ref ip, .ref oq, .ref cp, .int ni, .int (nI go)])), (oq, .inl (cB, 4096, .inl (qf)))] sz) (fun r (_ : Unit) => r = (xTk (min 8 O.length) 0 O).1 ∧ jR 4096 (xTk (min 8 O.length) 0 O).2 (go - (min 8 go)) (va_cpy qf qf (min 8 go) 0 (go - (min 8 go)))) (z0) (fun _ => [(m0, .inr (3, [.ref mk, .ref mt, .int kd, .ref wo, .int wn, .ref re, .int pc, .int sta, .int dn, .int 0, .ref ro, .ref aa, .ref si, .ref so, .ref la, .int md, .int lq, .int tp, .int tr, .ref ip, .ref oq, .ref cp, .int ni, .int (nI (go - (min 8 go)))])), (oq, .inl (cB, 4096, .inl (va_cpy qf qf (min 8 go) 0 (go - (min 8 go)))))])) (va_A [(m0, .inr (3, [.ref mk, .ref mt, .int kd, .ref wo, .int wn, .ref re, .int pc, .int sta, .int dn, .int th, .ref ro, .ref aa, .ref si, .ref so, .ref la, .int md, .int lq, .int tp, .int tr, .ref ip, .ref oq, .ref cp, .int ni, .int (nI go)])), (oq, .inl (cB, 4096, .inl (qf)))] sz) := by
  refine zstart (Qc := fun A => zQl D A (fun r (_ : Unit) => r = (xTk (min 8 O.length) 0 O).1 ∧ jR 4096 (xTk (min 8 O.length) 0 O).2 (go - (min 8 go)) (va_cpy qf qf (min 8 go) 0 (go - (min 8 go)))) (z0) (fun _ => [(m0, .inr (3, [.ref mk, .ref mt, .int kd, .ref wo, .int wn, .ref re, .int pc, .int sta, .int dn, .int 0, .ref ro, .ref aa, .ref si, .ref so, .ref la, .int md, .int lq, .int tp, .int tr, .ref ip, .ref oq, .ref cp, .int ni, .int (nI (go - (min 8 go)))])), (oq, .inl (cB, 4096, .inl (va_cpy qf qf (min 8 go) 0 (go - (min 8 go)))))])) (by decide) (Nat.le_of_ble_eq_true rfl) ?_
  intro p e s m below meth c ls A hE hr hlocks hin hsz hK hP hD hS hA hAe hl
  have hx := hE.1
  have hb := hE.2.1
  have hown := hE.2.2.2.1
  have hw := hE.2.2.2.2
  have hl : lv_has ls 5 [(0, .ref m0)] := hl
  have hgo := hO.2.1
  have hlen := hO.1
  refine lv_aload_n hx hb d_Mo_take_0 rfl (lv_at hl 0 rfl) ?_
  refine lv_iconst (v := 0) hx hb d_Mo_take_1 (by decide) ?_
  refine zput (v := .int 0) hE hK hP hD hS 0 rfl fd_Mo_62 ft_Mo_9 rfl rfl (Nat.le_of_ble_eq_true rfl) d_Mo_take_2 (fun H locs hP hD hS => ?_)
  have hP : va_P D zC [(m0, .inr (3, [.ref mk, .ref mt, .int kd, .ref wo, .int wn, .ref re, .int pc, .int sta, .int dn, .int 0, .ref ro, .ref aa, .ref si, .ref so, .ref la, .int md, .int lq, .int tp, .int tr, .ref ip, .ref oq, .ref cp, .int ni, .int (nI go)])), (oq, .inl (cB, 4096, .inl (qf)))] _ := hP
  have hD : va_D A [(m0, .inr (3, [.ref mk, .ref mt, .int kd, .ref wo, .int wn, .ref re, .int pc, .int sta, .int dn, .int 0, .ref ro, .ref aa, .ref si, .ref so, .ref la, .int md, .int lq, .int tp, .int tr, .ref ip, .ref oq, .ref cp, .int ni, .int (nI go)])), (oq, .inl (cB, 4096, .inl (qf)))] := hD
  refine lv_lconst (v := 0) hx hb d_Mo_take_5 rfl ?_
  refine lv_lstore_n (lv' := [(1, .long 0), (0, .ref m0)]) hx hb d_Mo_take_6 rfl hl (by decide) rfl (fun ls hl => ?_)
  refine lv_aload_n hx hb d_Mo_take_7 rfl (lv_at hl 1 rfl) ?_
  refine zget hE hK hP 0 rfl fd_Mo_171 rfl d_Mo_take_8 ?_
  refine lv_bipush (v := 8) hx hb d_Mo_take_11 (by decide) ?_
  refine lv_icmp_ge (tgt := 23) hx hb d_Mo_take_13 (by decide) (fun h1 => ?_) (fun h1 => ?_)
  · refine lv_bipush (v := 8) hx hb d_Mo_take_23 (by decide) ?_
    refine z_st (st' := [.int (nI (min 8 go))]) (by rw [show ((8) : Int32) = nI (min 8 go) from by have := z_le' (a := 8) (by omega) h1; rw [Nat.min_eq_left (by omega)]; rfl]) ?_
    refine lv_istore_n (lv' := [(3, .int (nI (min 8 go))), (1, .long 0), (0, .ref m0)]) hx hb d_Mo_take_25 rfl hl (by decide) rfl (fun ls hl => ?_)
    refine lv_iconst (v := 0) hx hb d_Mo_take_26 (by decide) ?_
    refine lv_istore (lv' := [(4, .int 0), (3, .int (nI (min 8 go))), (1, .long 0), (0, .ref m0)]) hx hb d_Mo_take_27 hl (by decide) rfl (fun ls hl => ?_)
    refine zloopH (σ := (Nat × Int64)) (fun j x ls H locs cells slots => (x.1 + j = (min 8 go) ∧ xTk j x.2 (O.drop x.1) = xTk (min 8 go) 0 O ∧ cells = 0 ∧ slots = 0) ∧ lv_has ls 5 [(4, .int (nI x.1)), (3, .int (nI (min 8 go))), (1, .long x.2), (0, .ref m0)] ∧ va_P D zC [(m0, .inr (3, [.ref mk, .ref mt, .int kd, .ref wo, .int wn, .ref re, .int pc, .int sta, .int dn, .int 0, .ref ro, .ref aa, .ref si, .ref so, .ref la, .int md, .int lq, .int tp, .int tr, .ref ip, .ref oq, .ref cp, .int ni, .int (nI go)])), (oq, .inl (cB, 4096, .inl (qf)))] H ∧ va_D A [(m0, .inr (3, [.ref mk, .ref mt, .int kd, .ref wo, .int wn, .ref re, .int pc, .int sta, .int dn, .int 0, .ref ro, .ref aa, .ref si, .ref so, .ref la, .int md, .int lq, .int tp, .int tr, .ref ip, .ref oq, .ref cp, .int ni, .int (nI go)])), (oq, .inl (cB, 4096, .inl (qf)))] ∧ va_S A s.heap H locs) (fun j x ls H locs cells slots hI ih => ?_) (min 8 go) (0, 0) ls ⟨⟨Nat.zero_add _, rfl, rfl, rfl⟩, hl, hP, hD, hS⟩
    obtain ⟨k, t⟩ := x
    obtain ⟨⟨hj, hz, rfl, rfl⟩, hl, hP, hD, hS⟩ := hI
    dsimp only at hj hz
    have hl : lv_has ls 5 [(4, .int (nI k)), (3, .int (nI (min 8 go))), (1, .long t), (0, .ref m0)] := hl
    have hP : va_P D zC [(m0, .inr (3, [.ref mk, .ref mt, .int kd, .ref wo, .int wn, .ref re, .int pc, .int sta, .int dn, .int 0, .ref ro, .ref aa, .ref si, .ref so, .ref la, .int md, .int lq, .int tp, .int tr, .ref ip, .ref oq, .ref cp, .int ni, .int (nI go)])), (oq, .inl (cB, 4096, .inl (qf)))] _ := hP
    have hD : va_D A [(m0, .inr (3, [.ref mk, .ref mt, .int kd, .ref wo, .int wn, .ref re, .int pc, .int sta, .int dn, .int 0, .ref ro, .ref aa, .ref si, .ref so, .ref la, .int md, .int lq, .int tp, .int tr, .ref ip, .ref oq, .ref cp, .int ni, .int (nI go)])), (oq, .inl (cB, 4096, .inl (qf)))] := hD
    refine lv_iload hx hb d_Mo_take_29 (lv_at hl 0 rfl) ?_
    refine lv_iload_n hx hb d_Mo_take_31 rfl (lv_at hl 1 rfl) ?_
    refine lv_icmp_ge (tgt := 59) hx hb d_Mo_take_32 (by decide) (fun h2 => ?_) (fun h2 => ?_)
    · have hj0 : j = 0 := by have := z_le' (by omega) h2; omega
      subst hj0
      have hkk : k = (min 8 go) := by omega
      subst hkk
      have hz1 : xTk (min 8 go) 0 O = (t, O.drop (min 8 go)) := hz.symm
      refine lv_aload_n hx hb d_Mo_take_59 rfl (lv_at hl 3 rfl) ?_
      refine lv_dup hx hb d_Mo_take_60 rfl ?_
      refine zget hE hK hP 0 rfl fd_Mo_171 rfl d_Mo_take_61 ?_
      refine lv_iload_n hx hb d_Mo_take_64 rfl (lv_at hl 1 rfl) ?_
      refine lv_isub hx hb d_Mo_take_65 ?_
      refine z_st (st' := [.int (nI (go - (min 8 go))), .ref m0]) (by rw [show (((nI go) - (nI (min 8 go))) : Int32) = nI (go - (min 8 go)) from pk_sub (by omega)]) ?_
      refine zput (v := .int (nI (go - (min 8 go)))) hE hK hP hD hS 0 rfl fd_Mo_171 ft_Mo_23 rfl rfl (Nat.le_of_ble_eq_true rfl) d_Mo_take_66 (fun H locs hP hD hS => ?_)
      have hP : va_P D zC [(m0, .inr (3, [.ref mk, .ref mt, .int kd, .ref wo, .int wn, .ref re, .int pc, .int sta, .int dn, .int 0, .ref ro, .ref aa, .ref si, .ref so, .ref la, .int md, .int lq, .int tp, .int tr, .ref ip, .ref oq, .ref cp, .int ni, .int (nI (go - (min 8 go)))])), (oq, .inl (cB, 4096, .inl (qf)))] _ := hP
      have hD : va_D A [(m0, .inr (3, [.ref mk, .ref mt, .int kd, .ref wo, .int wn, .ref re, .int pc, .int sta, .int dn, .int 0, .ref ro, .ref aa, .ref si, .ref so, .ref la, .int md, .int lq, .int tp, .int tr, .ref ip, .ref oq, .ref cp, .int ni, .int (nI (go - (min 8 go)))])), (oq, .inl (cB, 4096, .inl (qf)))] := hD
      refine lv_aload_n hx hb d_Mo_take_69 rfl (lv_at hl 3 rfl) ?_
      refine zget hE hK hP 0 rfl fd_Mo_42 rfl d_Mo_take_70 ?_
      refine lv_iload_n hx hb d_Mo_take_73 rfl (lv_at hl 1 rfl) ?_
      refine lv_aload_n hx hb d_Mo_take_74 rfl (lv_at hl 3 rfl) ?_
      refine zget hE hK hP 0 rfl fd_Mo_42 rfl d_Mo_take_75 ?_
      refine lv_iconst (v := 0) hx hb d_Mo_take_78 (by decide) ?_
      refine z_st (st' := [.int (nI 0), .ref oq, .int (nI (min 8 go)), .ref oq]) (by rw [show ((0) : Int32) = nI 0 from rfl]) ?_
      refine lv_aload_n hx hb d_Mo_take_79 rfl (lv_at hl 3 rfl) ?_
      refine zget hE hK hP 0 rfl fd_Mo_171 rfl d_Mo_take_80 ?_
      refine va_copyi (R := { frames := 1, cells := 0, slots := 0, locals := 60 }) (ty := .byte) (rest := []) hx hb (hE.2.2.1.trans hl.1.symm) hown (hw _ sl_Mo) (hw _ sy_nat) (hw _ sy_st) (hw _ sy_ini) hK hP hD hS 1 1 1 1 rfl rfl rfl rfl rfl (nI_pos (n := (min 8 go)) (by omega)) (nI_pos (n := 0) (by omega)) (nI_pos (n := go - (min 8 go)) (by omega)) (by rw [nI_clamp (by omega), nI_clamp (by omega)]; omega) (by rw [nI_clamp (by omega), nI_clamp (by omega)]; omega) (fun i hi => by rw [nI_clamp (by omega)] at hi ⊢; exact hO.2.2.2.2 _ (by omega)) (by exact Nat.le_of_ble_eq_true rfl) (by exact Nat.le_of_ble_eq_true rfl) d_Mo_take_83 (fun H locs hP hD hS => ?_)
      have hP : va_P D zC [(m0, .inr (3, [.ref mk, .ref mt, .int kd, .ref wo, .int wn, .ref re, .int pc, .int sta, .int dn, .int 0, .ref ro, .ref aa, .ref si, .ref so, .ref la, .int md, .int lq, .int tp, .int tr, .ref ip, .ref oq, .ref cp, .int ni, .int (nI (go - (min 8 go)))])), (oq, .inl (cB, 4096, .inl (va_cpy qf qf (nI (min 8 go)).toNatClampNeg (nI 0).toNatClampNeg (nI (go - (min 8 go))).toNatClampNeg)))] _ := hP
      have hD : va_D A [(m0, .inr (3, [.ref mk, .ref mt, .int kd, .ref wo, .int wn, .ref re, .int pc, .int sta, .int dn, .int 0, .ref ro, .ref aa, .ref si, .ref so, .ref la, .int md, .int lq, .int tp, .int tr, .ref ip, .ref oq, .ref cp, .int ni, .int (nI (go - (min 8 go)))])), (oq, .inl (cB, 4096, .inl (va_cpy qf qf (nI (min 8 go)).toNatClampNeg (nI 0).toNatClampNeg (nI (go - (min 8 go))).toNatClampNeg)))] := hD
      rw [show ((va_cpy qf qf (nI (min 8 go)).toNatClampNeg (nI 0).toNatClampNeg (nI (go - (min 8 go))).toNatClampNeg) : Nat → Int32) = va_cpy qf qf (min 8 go) 0 (go - (min 8 go)) from by rw [nI_clamp (by omega), nI_clamp (by omega), nI_clamp (by omega)]] at hP hD
      have hP : va_P D zC [(m0, .inr (3, [.ref mk, .ref mt, .int kd, .ref wo, .int wn, .ref re, .int pc, .int sta, .int dn, .int 0, .ref ro, .ref aa, .ref si, .ref so, .ref la, .int md, .int lq, .int tp, .int tr, .ref ip, .ref oq, .ref cp, .int ni, .int (nI (go - (min 8 go)))])), (oq, .inl (cB, 4096, .inl (va_cpy qf qf (min 8 go) 0 (go - (min 8 go)))))] _ := hP
      have hD : va_D A [(m0, .inr (3, [.ref mk, .ref mt, .int kd, .ref wo, .int wn, .ref re, .int pc, .int sta, .int dn, .int 0, .ref ro, .ref aa, .ref si, .ref so, .ref la, .int md, .int lq, .int tp, .int tr, .ref ip, .ref oq, .ref cp, .int ni, .int (nI (go - (min 8 go)))])), (oq, .inl (cB, 4096, .inl (va_cpy qf qf (min 8 go) 0 (go - (min 8 go)))))] := hD
      refine lv_lload_n hx hb d_Mo_take_86 rfl (lv_at hl 2 rfl) ?_
      have hP9 := hP.sub (ws' := [(m0, .inr (3, [.ref mk, .ref mt, .int kd, .ref wo, .int wn, .ref re, .int pc, .int sta, .int dn, .int 0, .ref ro, .ref aa, .ref si, .ref so, .ref la, .int md, .int lq, .int tp, .int tr, .ref ip, .ref oq, .ref cp, .int ni, .int (nI (go - (min 8 go)))])), (oq, .inl (cB, 4096, .inl (va_cpy qf qf (min 8 go) 0 (go - (min 8 go)))))]) [0, 1] rfl
      have hD9 := hD.sub (ws' := [(m0, .inr (3, [.ref mk, .ref mt, .int kd, .ref wo, .int wn, .ref re, .int pc, .int sta, .int dn, .int 0, .ref ro, .ref aa, .ref si, .ref so, .ref la, .int md, .int lq, .int tp, .int tr, .ref ip, .ref oq, .ref cp, .int ni, .int (nI (go - (min 8 go)))])), (oq, .inl (cB, 4096, .inl (va_cpy qf qf (min 8 go) 0 (go - (min 8 go)))))]) [0, 1] rfl rfl
      exact zretl hx hb hr hlocks hS () ⟨by rw [← hlen, hz1], by rw [← hlen, hz1]; exact jR_drop hO (by omega)⟩ rfl hP9 hD9 d_Mo_take_87
    · have hlt : k < (min 8 go) := z_nle' (by omega) h2
      obtain ⟨j, rfl⟩ : ∃ q, j = q + 1 := ⟨j - 1, by omega⟩
      refine lv_lload_n hx hb d_Mo_take_35 rfl (lv_at hl 2 rfl) ?_
      refine lv_bipush (v := 8) hx hb d_Mo_take_36 (by decide) ?_
      refine lv_lshl (v := zlshl t 8) hx hb d_Mo_take_38 rfl ?_
      refine lv_aload_n hx hb d_Mo_take_39 rfl (lv_at hl 3 rfl) ?_
      refine zget hE hK hP 0 rfl fd_Mo_42 rfl d_Mo_take_40 ?_
      refine lv_iload hx hb d_Mo_take_43 (lv_at hl 0 rfl) ?_
      refine va_bald hx hb hK hP 1 1 rfl rfl (vp_in_nI (by omega) (by omega)) d_Mo_take_45 ?_
      refine lv_sipush (v := 255) hx hb d_Mo_take_46 (by decide) ?_
      refine lv_iand hx hb d_Mo_take_49 ?_
      refine z_st (st' := [.int ((bRem (O.drop k)).1), .long (zlshl t 8)]) (by rw [show (((qf (nI k).toNatClampNeg) &&& 255) : Int32) = (bRem (O.drop k)).1 from by rw [nI_clamp (by omega), hO.2.2.2.1 k (by omega), tk_s (by omega)]]) ?_
      refine lv_i2l (v := ((bRem (O.drop k)).1 : Int32).toInt64) hx hb d_Mo_take_50 rfl ?_
      refine lv_lor hx hb d_Mo_take_51 ?_
      refine lv_lstore_n (lv' := [(1, .long ((zlshl t 8) ||| (((bRem (O.drop k)).1 : Int32).toInt64))), (4, .int (nI k)), (3, .int (nI (min 8 go))), (0, .ref m0)]) hx hb d_Mo_take_52 rfl hl (by decide) rfl (fun ls hl => ?_)
      refine lv_iinc (k := 1) (v := (nI k) + 1) (lv' := [(4, .int ((nI k) + 1)), (1, .long ((zlshl t 8) ||| (((bRem (O.drop k)).1 : Int32).toInt64))), (3, .int (nI (min 8 go))), (0, .ref m0)]) hx hb d_Mo_take_53 hl rfl rfl (by decide) rfl (fun ls hl => ?_)
      refine lv_goto (tgt := 29) hx hb d_Mo_take_56 (by decide) ?_
      rw [nI_1] at hl
      have hl := lv_sub (l' := [(4, .int (nI (k + 1))), (3, .int (nI (min 8 go))), (1, .long ((zlshl t 8) ||| ((bRem (O.drop k)).1 : Int32).toInt64)), (0, .ref m0)]) hl [0, 2, 1, 3] rfl
      exact ih j (k + 1, ((zlshl t 8) ||| ((bRem (O.drop k)).1 : Int32).toInt64)) ls H locs 0 0 (by omega) ⟨⟨by show k + 1 + j = (min 8 go); omega, by show xTk j ((zlshl t 8) ||| ((bRem (O.drop k)).1 : Int32).toInt64) (O.drop (k + 1)) = _; rw [show O.drop (k + 1) = (bRem (O.drop k)).2 from by rw [tk_s (by omega)]]; exact hz, rfl, rfl⟩, hl, hP, hD, hS⟩
  · refine lv_aload_n hx hb d_Mo_take_16 rfl (lv_at hl 1 rfl) ?_
    refine zget hE hK hP 0 rfl fd_Mo_171 rfl d_Mo_take_17 ?_
    refine lv_goto (tgt := 25) hx hb d_Mo_take_20 (by decide) ?_
    refine z_st (st' := [.int (nI (min 8 go))]) (by rw [show ((nI go) : Int32) = nI (min 8 go) from by have := z_nle' (a := 8) (by omega) h1; rw [Nat.min_eq_right (by omega)]]) ?_
    refine lv_istore_n (lv' := [(3, .int (nI (min 8 go))), (1, .long 0), (0, .ref m0)]) hx hb d_Mo_take_25 rfl hl (by decide) rfl (fun ls hl => ?_)
    refine lv_iconst (v := 0) hx hb d_Mo_take_26 (by decide) ?_
    refine lv_istore (lv' := [(4, .int 0), (3, .int (nI (min 8 go))), (1, .long 0), (0, .ref m0)]) hx hb d_Mo_take_27 hl (by decide) rfl (fun ls hl => ?_)
    refine zloopH (σ := (Nat × Int64)) (fun j x ls H locs cells slots => (x.1 + j = (min 8 go) ∧ xTk j x.2 (O.drop x.1) = xTk (min 8 go) 0 O ∧ cells = 0 ∧ slots = 0) ∧ lv_has ls 5 [(4, .int (nI x.1)), (3, .int (nI (min 8 go))), (1, .long x.2), (0, .ref m0)] ∧ va_P D zC [(m0, .inr (3, [.ref mk, .ref mt, .int kd, .ref wo, .int wn, .ref re, .int pc, .int sta, .int dn, .int 0, .ref ro, .ref aa, .ref si, .ref so, .ref la, .int md, .int lq, .int tp, .int tr, .ref ip, .ref oq, .ref cp, .int ni, .int (nI go)])), (oq, .inl (cB, 4096, .inl (qf)))] H ∧ va_D A [(m0, .inr (3, [.ref mk, .ref mt, .int kd, .ref wo, .int wn, .ref re, .int pc, .int sta, .int dn, .int 0, .ref ro, .ref aa, .ref si, .ref so, .ref la, .int md, .int lq, .int tp, .int tr, .ref ip, .ref oq, .ref cp, .int ni, .int (nI go)])), (oq, .inl (cB, 4096, .inl (qf)))] ∧ va_S A s.heap H locs) (fun j x ls H locs cells slots hI ih => ?_) (min 8 go) (0, 0) ls ⟨⟨Nat.zero_add _, rfl, rfl, rfl⟩, hl, hP, hD, hS⟩
    obtain ⟨k, t⟩ := x
    obtain ⟨⟨hj, hz, rfl, rfl⟩, hl, hP, hD, hS⟩ := hI
    dsimp only at hj hz
    have hl : lv_has ls 5 [(4, .int (nI k)), (3, .int (nI (min 8 go))), (1, .long t), (0, .ref m0)] := hl
    have hP : va_P D zC [(m0, .inr (3, [.ref mk, .ref mt, .int kd, .ref wo, .int wn, .ref re, .int pc, .int sta, .int dn, .int 0, .ref ro, .ref aa, .ref si, .ref so, .ref la, .int md, .int lq, .int tp, .int tr, .ref ip, .ref oq, .ref cp, .int ni, .int (nI go)])), (oq, .inl (cB, 4096, .inl (qf)))] _ := hP
    have hD : va_D A [(m0, .inr (3, [.ref mk, .ref mt, .int kd, .ref wo, .int wn, .ref re, .int pc, .int sta, .int dn, .int 0, .ref ro, .ref aa, .ref si, .ref so, .ref la, .int md, .int lq, .int tp, .int tr, .ref ip, .ref oq, .ref cp, .int ni, .int (nI go)])), (oq, .inl (cB, 4096, .inl (qf)))] := hD
    refine lv_iload hx hb d_Mo_take_29 (lv_at hl 0 rfl) ?_
    refine lv_iload_n hx hb d_Mo_take_31 rfl (lv_at hl 1 rfl) ?_
    refine lv_icmp_ge (tgt := 59) hx hb d_Mo_take_32 (by decide) (fun h3 => ?_) (fun h3 => ?_)
    · have hj0 : j = 0 := by have := z_le' (by omega) h3; omega
      subst hj0
      have hkk : k = (min 8 go) := by omega
      subst hkk
      have hz1 : xTk (min 8 go) 0 O = (t, O.drop (min 8 go)) := hz.symm
      refine lv_aload_n hx hb d_Mo_take_59 rfl (lv_at hl 3 rfl) ?_
      refine lv_dup hx hb d_Mo_take_60 rfl ?_
      refine zget hE hK hP 0 rfl fd_Mo_171 rfl d_Mo_take_61 ?_
      refine lv_iload_n hx hb d_Mo_take_64 rfl (lv_at hl 1 rfl) ?_
      refine lv_isub hx hb d_Mo_take_65 ?_
      refine z_st (st' := [.int (nI (go - (min 8 go))), .ref m0]) (by rw [show (((nI go) - (nI (min 8 go))) : Int32) = nI (go - (min 8 go)) from pk_sub (by omega)]) ?_
      refine zput (v := .int (nI (go - (min 8 go)))) hE hK hP hD hS 0 rfl fd_Mo_171 ft_Mo_23 rfl rfl (Nat.le_of_ble_eq_true rfl) d_Mo_take_66 (fun H locs hP hD hS => ?_)
      have hP : va_P D zC [(m0, .inr (3, [.ref mk, .ref mt, .int kd, .ref wo, .int wn, .ref re, .int pc, .int sta, .int dn, .int 0, .ref ro, .ref aa, .ref si, .ref so, .ref la, .int md, .int lq, .int tp, .int tr, .ref ip, .ref oq, .ref cp, .int ni, .int (nI (go - (min 8 go)))])), (oq, .inl (cB, 4096, .inl (qf)))] _ := hP
      have hD : va_D A [(m0, .inr (3, [.ref mk, .ref mt, .int kd, .ref wo, .int wn, .ref re, .int pc, .int sta, .int dn, .int 0, .ref ro, .ref aa, .ref si, .ref so, .ref la, .int md, .int lq, .int tp, .int tr, .ref ip, .ref oq, .ref cp, .int ni, .int (nI (go - (min 8 go)))])), (oq, .inl (cB, 4096, .inl (qf)))] := hD
      refine lv_aload_n hx hb d_Mo_take_69 rfl (lv_at hl 3 rfl) ?_
      refine zget hE hK hP 0 rfl fd_Mo_42 rfl d_Mo_take_70 ?_
      refine lv_iload_n hx hb d_Mo_take_73 rfl (lv_at hl 1 rfl) ?_
      refine lv_aload_n hx hb d_Mo_take_74 rfl (lv_at hl 3 rfl) ?_
      refine zget hE hK hP 0 rfl fd_Mo_42 rfl d_Mo_take_75 ?_
      refine lv_iconst (v := 0) hx hb d_Mo_take_78 (by decide) ?_
      refine z_st (st' := [.int (nI 0), .ref oq, .int (nI (min 8 go)), .ref oq]) (by rw [show ((0) : Int32) = nI 0 from rfl]) ?_
      refine lv_aload_n hx hb d_Mo_take_79 rfl (lv_at hl 3 rfl) ?_
      refine zget hE hK hP 0 rfl fd_Mo_171 rfl d_Mo_take_80 ?_
      refine va_copyi (R := { frames := 1, cells := 0, slots := 0, locals := 60 }) (ty := .byte) (rest := []) hx hb (hE.2.2.1.trans hl.1.symm) hown (hw _ sl_Mo) (hw _ sy_nat) (hw _ sy_st) (hw _ sy_ini) hK hP hD hS 1 1 1 1 rfl rfl rfl rfl rfl (nI_pos (n := (min 8 go)) (by omega)) (nI_pos (n := 0) (by omega)) (nI_pos (n := go - (min 8 go)) (by omega)) (by rw [nI_clamp (by omega), nI_clamp (by omega)]; omega) (by rw [nI_clamp (by omega), nI_clamp (by omega)]; omega) (fun i hi => by rw [nI_clamp (by omega)] at hi ⊢; exact hO.2.2.2.2 _ (by omega)) (by exact Nat.le_of_ble_eq_true rfl) (by exact Nat.le_of_ble_eq_true rfl) d_Mo_take_83 (fun H locs hP hD hS => ?_)
      have hP : va_P D zC [(m0, .inr (3, [.ref mk, .ref mt, .int kd, .ref wo, .int wn, .ref re, .int pc, .int sta, .int dn, .int 0, .ref ro, .ref aa, .ref si, .ref so, .ref la, .int md, .int lq, .int tp, .int tr, .ref ip, .ref oq, .ref cp, .int ni, .int (nI (go - (min 8 go)))])), (oq, .inl (cB, 4096, .inl (va_cpy qf qf (nI (min 8 go)).toNatClampNeg (nI 0).toNatClampNeg (nI (go - (min 8 go))).toNatClampNeg)))] _ := hP
      have hD : va_D A [(m0, .inr (3, [.ref mk, .ref mt, .int kd, .ref wo, .int wn, .ref re, .int pc, .int sta, .int dn, .int 0, .ref ro, .ref aa, .ref si, .ref so, .ref la, .int md, .int lq, .int tp, .int tr, .ref ip, .ref oq, .ref cp, .int ni, .int (nI (go - (min 8 go)))])), (oq, .inl (cB, 4096, .inl (va_cpy qf qf (nI (min 8 go)).toNatClampNeg (nI 0).toNatClampNeg (nI (go - (min 8 go))).toNatClampNeg)))] := hD
      rw [show ((va_cpy qf qf (nI (min 8 go)).toNatClampNeg (nI 0).toNatClampNeg (nI (go - (min 8 go))).toNatClampNeg) : Nat → Int32) = va_cpy qf qf (min 8 go) 0 (go - (min 8 go)) from by rw [nI_clamp (by omega), nI_clamp (by omega), nI_clamp (by omega)]] at hP hD
      have hP : va_P D zC [(m0, .inr (3, [.ref mk, .ref mt, .int kd, .ref wo, .int wn, .ref re, .int pc, .int sta, .int dn, .int 0, .ref ro, .ref aa, .ref si, .ref so, .ref la, .int md, .int lq, .int tp, .int tr, .ref ip, .ref oq, .ref cp, .int ni, .int (nI (go - (min 8 go)))])), (oq, .inl (cB, 4096, .inl (va_cpy qf qf (min 8 go) 0 (go - (min 8 go)))))] _ := hP
      have hD : va_D A [(m0, .inr (3, [.ref mk, .ref mt, .int kd, .ref wo, .int wn, .ref re, .int pc, .int sta, .int dn, .int 0, .ref ro, .ref aa, .ref si, .ref so, .ref la, .int md, .int lq, .int tp, .int tr, .ref ip, .ref oq, .ref cp, .int ni, .int (nI (go - (min 8 go)))])), (oq, .inl (cB, 4096, .inl (va_cpy qf qf (min 8 go) 0 (go - (min 8 go)))))] := hD
      refine lv_lload_n hx hb d_Mo_take_86 rfl (lv_at hl 2 rfl) ?_
      have hP9 := hP.sub (ws' := [(m0, .inr (3, [.ref mk, .ref mt, .int kd, .ref wo, .int wn, .ref re, .int pc, .int sta, .int dn, .int 0, .ref ro, .ref aa, .ref si, .ref so, .ref la, .int md, .int lq, .int tp, .int tr, .ref ip, .ref oq, .ref cp, .int ni, .int (nI (go - (min 8 go)))])), (oq, .inl (cB, 4096, .inl (va_cpy qf qf (min 8 go) 0 (go - (min 8 go)))))]) [0, 1] rfl
      have hD9 := hD.sub (ws' := [(m0, .inr (3, [.ref mk, .ref mt, .int kd, .ref wo, .int wn, .ref re, .int pc, .int sta, .int dn, .int 0, .ref ro, .ref aa, .ref si, .ref so, .ref la, .int md, .int lq, .int tp, .int tr, .ref ip, .ref oq, .ref cp, .int ni, .int (nI (go - (min 8 go)))])), (oq, .inl (cB, 4096, .inl (va_cpy qf qf (min 8 go) 0 (go - (min 8 go)))))]) [0, 1] rfl rfl
      exact zretl hx hb hr hlocks hS () ⟨by rw [← hlen, hz1], by rw [← hlen, hz1]; exact jR_drop hO (by omega)⟩ rfl hP9 hD9 d_Mo_take_87
    · have hlt : k < (min 8 go) := z_nle' (by omega) h3
      obtain ⟨j, rfl⟩ : ∃ q, j = q + 1 := ⟨j - 1, by omega⟩
      refine lv_lload_n hx hb d_Mo_take_35 rfl (lv_at hl 2 rfl) ?_
      refine lv_bipush (v := 8) hx hb d_Mo_take_36 (by decide) ?_
      refine lv_lshl (v := zlshl t 8) hx hb d_Mo_take_38 rfl ?_
      refine lv_aload_n hx hb d_Mo_take_39 rfl (lv_at hl 3 rfl) ?_
      refine zget hE hK hP 0 rfl fd_Mo_42 rfl d_Mo_take_40 ?_
      refine lv_iload hx hb d_Mo_take_43 (lv_at hl 0 rfl) ?_
      refine va_bald hx hb hK hP 1 1 rfl rfl (vp_in_nI (by omega) (by omega)) d_Mo_take_45 ?_
      refine lv_sipush (v := 255) hx hb d_Mo_take_46 (by decide) ?_
      refine lv_iand hx hb d_Mo_take_49 ?_
      refine z_st (st' := [.int ((bRem (O.drop k)).1), .long (zlshl t 8)]) (by rw [show (((qf (nI k).toNatClampNeg) &&& 255) : Int32) = (bRem (O.drop k)).1 from by rw [nI_clamp (by omega), hO.2.2.2.1 k (by omega), tk_s (by omega)]]) ?_
      refine lv_i2l (v := ((bRem (O.drop k)).1 : Int32).toInt64) hx hb d_Mo_take_50 rfl ?_
      refine lv_lor hx hb d_Mo_take_51 ?_
      refine lv_lstore_n (lv' := [(1, .long ((zlshl t 8) ||| (((bRem (O.drop k)).1 : Int32).toInt64))), (4, .int (nI k)), (3, .int (nI (min 8 go))), (0, .ref m0)]) hx hb d_Mo_take_52 rfl hl (by decide) rfl (fun ls hl => ?_)
      refine lv_iinc (k := 1) (v := (nI k) + 1) (lv' := [(4, .int ((nI k) + 1)), (1, .long ((zlshl t 8) ||| (((bRem (O.drop k)).1 : Int32).toInt64))), (3, .int (nI (min 8 go))), (0, .ref m0)]) hx hb d_Mo_take_53 hl rfl rfl (by decide) rfl (fun ls hl => ?_)
      refine lv_goto (tgt := 29) hx hb d_Mo_take_56 (by decide) ?_
      rw [nI_1] at hl
      have hl := lv_sub (l' := [(4, .int (nI (k + 1))), (3, .int (nI (min 8 go))), (1, .long ((zlshl t 8) ||| ((bRem (O.drop k)).1 : Int32).toInt64)), (0, .ref m0)]) hl [0, 2, 1, 3] rfl
      exact ih j (k + 1, ((zlshl t 8) ||| ((bRem (O.drop k)).1 : Int32).toInt64)) ls H locs 0 0 (by omega) ⟨⟨by show k + 1 + j = (min 8 go); omega, by show xTk j ((zlshl t 8) ||| ((bRem (O.drop k)).1 : Int32).toInt64) (O.drop (k + 1)) = _; rw [show O.drop (k + 1) = (bRem (O.drop k)).2 from by rw [tk_s (by omega)]]; exact hz, rfl, rfl⟩, hl, hP, hD, hS⟩
