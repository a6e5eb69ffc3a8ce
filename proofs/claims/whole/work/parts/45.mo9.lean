/-! decode rows -/
theorem d_Mo_input_0 : decode b_Mo_input 0 = .ok (.aload_n 0, 1) := by decide +kernel
theorem d_Mo_input_1 : decode b_Mo_input 1 = .ok (.iload_n 3, 1) := by decide +kernel
theorem d_Mo_input_2 : decode b_Mo_input 2 = .ok (.ifCond .lt 9, 3) := by decide +kernel
theorem d_Mo_input_5 : decode b_Mo_input 5 = .ok (.iload_n 3, 1) := by decide +kernel
theorem d_Mo_input_6 : decode b_Mo_input 6 = .ok (.bipush 8, 2) := by decide +kernel
theorem d_Mo_input_8 : decode b_Mo_input 8 = .ok (.if_icmp .le 7, 3) := by decide +kernel
theorem d_Mo_input_11 : decode b_Mo_input 11 = .ok (.iconst 1, 1) := by decide +kernel
theorem d_Mo_input_12 : decode b_Mo_input 12 = .ok (.goto 20, 3) := by decide +kernel
theorem d_Mo_input_15 : decode b_Mo_input 15 = .ok (.aload_n 0, 1) := by decide +kernel
theorem d_Mo_input_16 : decode b_Mo_input 16 = .ok (.getfield 174, 3) := by decide +kernel
theorem d_Mo_input_19 : decode b_Mo_input 19 = .ok (.iload_n 3, 1) := by decide +kernel
theorem d_Mo_input_20 : decode b_Mo_input 20 = .ok (.iadd, 1) := by decide +kernel
theorem d_Mo_input_21 : decode b_Mo_input 21 = .ok (.sipush 1000, 3) := by decide +kernel
theorem d_Mo_input_24 : decode b_Mo_input 24 = .ok (.if_icmp .le 7, 3) := by decide +kernel
theorem d_Mo_input_27 : decode b_Mo_input 27 = .ok (.iconst 2, 1) := by decide +kernel
theorem d_Mo_input_28 : decode b_Mo_input 28 = .ok (.goto 4, 3) := by decide +kernel
theorem d_Mo_input_31 : decode b_Mo_input 31 = .ok (.iconst 0, 1) := by decide +kernel
theorem d_Mo_input_32 : decode b_Mo_input 32 = .ok (.putfield 62, 3) := by decide +kernel
theorem d_Mo_input_35 : decode b_Mo_input 35 = .ok (.aload_n 0, 1) := by decide +kernel
theorem d_Mo_input_36 : decode b_Mo_input 36 = .ok (.getfield 62, 3) := by decide +kernel
theorem d_Mo_input_39 : decode b_Mo_input 39 = .ok (.ifCond .le 5, 3) := by decide +kernel
theorem d_Mo_input_42 : decode b_Mo_input 42 = .ok (.iconst 0, 1) := by decide +kernel
theorem d_Mo_input_43 : decode b_Mo_input 43 = .ok (.ireturn, 1) := by decide +kernel
theorem d_Mo_input_44 : decode b_Mo_input 44 = .ok (.iload_n 3, 1) := by decide +kernel
theorem d_Mo_input_45 : decode b_Mo_input 45 = .ok (.iconst 1, 1) := by decide +kernel
theorem d_Mo_input_46 : decode b_Mo_input 46 = .ok (.isub, 1) := by decide +kernel
theorem d_Mo_input_47 : decode b_Mo_input 47 = .ok (.istore 4, 2) := by decide +kernel
theorem d_Mo_input_49 : decode b_Mo_input 49 = .ok (.iload 4, 2) := by decide +kernel
theorem d_Mo_input_51 : decode b_Mo_input 51 = .ok (.ifCond .lt 37, 3) := by decide +kernel
theorem d_Mo_input_54 : decode b_Mo_input 54 = .ok (.aload_n 0, 1) := by decide +kernel
theorem d_Mo_input_55 : decode b_Mo_input 55 = .ok (.getfield 39, 3) := by decide +kernel
theorem d_Mo_input_58 : decode b_Mo_input 58 = .ok (.aload_n 0, 1) := by decide +kernel
theorem d_Mo_input_59 : decode b_Mo_input 59 = .ok (.getfield 174, 3) := by decide +kernel
theorem d_Mo_input_62 : decode b_Mo_input 62 = .ok (.lload_n 1, 1) := by decide +kernel
theorem d_Mo_input_63 : decode b_Mo_input 63 = .ok (.bipush 8, 2) := by decide +kernel
theorem d_Mo_input_65 : decode b_Mo_input 65 = .ok (.iload 4, 2) := by decide +kernel
theorem d_Mo_input_67 : decode b_Mo_input 67 = .ok (.imul, 1) := by decide +kernel
theorem d_Mo_input_68 : decode b_Mo_input 68 = .ok (.lshr, 1) := by decide +kernel
theorem d_Mo_input_69 : decode b_Mo_input 69 = .ok (.l2i, 1) := by decide +kernel
theorem d_Mo_input_70 : decode b_Mo_input 70 = .ok (.i2b, 1) := by decide +kernel
theorem d_Mo_input_71 : decode b_Mo_input 71 = .ok (.bastore, 1) := by decide +kernel
theorem d_Mo_input_72 : decode b_Mo_input 72 = .ok (.aload_n 0, 1) := by decide +kernel
theorem d_Mo_input_73 : decode b_Mo_input 73 = .ok (.dup, 1) := by decide +kernel
theorem d_Mo_input_74 : decode b_Mo_input 74 = .ok (.getfield 174, 3) := by decide +kernel
theorem d_Mo_input_77 : decode b_Mo_input 77 = .ok (.iconst 1, 1) := by decide +kernel
theorem d_Mo_input_78 : decode b_Mo_input 78 = .ok (.iadd, 1) := by decide +kernel
theorem d_Mo_input_79 : decode b_Mo_input 79 = .ok (.putfield 174, 3) := by decide +kernel
theorem d_Mo_input_82 : decode b_Mo_input 82 = .ok (.iinc 4 (-1), 3) := by decide +kernel
theorem d_Mo_input_85 : decode b_Mo_input 85 = .ok (.goto (-36), 3) := by decide +kernel
theorem d_Mo_input_88 : decode b_Mo_input 88 = .ok (.aload_n 0, 1) := by decide +kernel
theorem d_Mo_input_89 : decode b_Mo_input 89 = .ok (.getfield 174, 3) := by decide +kernel
theorem d_Mo_input_92 : decode b_Mo_input 92 = .ok (.ireturn, 1) := by decide +kernel

/-- bytes put in, as the reference shifts -/
def rIn (w : Int64) : Nat → List Int32 → List Int32
  | 0, L => L
  | j + 1, L => rIn w j (bAdd 1000 L ((zlshr w (8 * (nI j)) : Int64).toInt32))

set_option maxHeartbeats 4000000 in
theorem c_Mo_input (l : Launch) (D : va_G) (cI cB cJ : ClassId) (sz : Nat) (w : Int64) (n0 : Int32) (m0 : Nat) (mk : Nat) (mt : Nat) (kd : Int32) (wo : Nat) (wn : Int32) (re : Nat) (pc : Int32) (sta : Int32) (dn : Int32) (th : Int32) (ro : Nat) (aa : Nat) (si : Nat) (so : Nat) (la : Nat) (md : Int32) (lq : Int32) (tp : Int32) (tr : Int32) (ip : Nat) (oq : Nat) (cp : Nat) (gi : Nat) (no : Int32) (jf : Nat → Int32) (I : List Int32) (k0 : Nat) (hI0 : jR 1000 I gi jf) (hk : n0 = nI k0) (hk8 : k0 ≤ 8) (hgk : gi + k0 ≤ 1000) : zMet l y_Mo_input (zWs y_Mo_input b_Mo_input 5 (some .int)) { frames := 0, cells := 0, slots := 0, locals := 0 } (zPc D (zT cI cB cJ) sz [(m0, .inr (3, [.ref mk, .ref mt, .int kd, .ref wo, .int wn, .ref re, .int pc, .int sta, .int dn, .int th, .ref ro, .ref aa, .ref si, .ref so, .ref la, .int md, .int lq, .int tp, .int tr, .ref ip, .ref oq, .ref cp, .int (nI gi), .int no])), (ip, .inl (cB, 1000, .inl (jf)))] [.ref m0, .long w, .int n0]) (zQi D (va_A [(m0, .inr (3, [.ref mk, .ref mt, .int kd, .ref wo, .int wn, .ref re, .int pc, .int sta, .int dn, .int th, .ref ro, .ref aa, .ref si, .ref so, .ref la, .int md, .int lq, .int tp, .int tr, .ref ip, .ref oq, .ref cp, .int (nI gi), .int no])), (ip, .inl (cB, 1000, .inl (jf)))] sz) (fun r (U : (Nat → Int32)) => r = nI (gi + k0) ∧ jR 1000 (rIn w k0 I) (gi + k0) U) (fun _ => (0, 0)) (fun (U : (Nat → Int32)) => [(m0, .inr (3, [.ref mk, .ref mt, .int kd, .ref wo, .int wn, .ref re, .int pc, .int sta, .int dn, .int 0, .ref ro, .ref aa, .ref si, .ref so, .ref la, .int md, .int lq, .int tp, .int tr, .ref ip, .ref oq, .ref cp, .int (nI (gi + k0)), .int no])), (ip, .inl (cB, 1000, .inl (U)))])) (va_A [(m0, .inr (3, [.ref mk, .ref mt, .int kd, .ref wo, .int wn, .ref re, .int pc, .int sta, .int dn, .int th, .ref ro, .ref aa, .ref si, .ref so, .ref la, .int md, .int lq, .int tp, .int tr, .ref ip, .ref oq, .ref cp, .int (nI gi), .int no])), (ip, .inl (cB, 1000, .inl (jf)))] sz) := by
  refine zstart (Qc := fun A => zQi D A (fun r (U : (Nat → Int32)) => r = nI (gi + k0) ∧ jR 1000 (rIn w k0 I) (gi + k0) U) (fun _ => (0, 0)) (fun (U : (Nat → Int32)) => [(m0, .inr (3, [.ref mk, .ref mt, .int kd, .ref wo, .int wn, .ref re, .int pc, .int sta, .int dn, .int 0, .ref ro, .ref aa, .ref si, .ref so, .ref la, .int md, .int lq, .int tp, .int tr, .ref ip, .ref oq, .ref cp, .int (nI (gi + k0)), .int no])), (ip, .inl (cB, 1000, .inl (U)))])) (by decide) (Nat.le_of_ble_eq_true rfl) ?_
  intro p e s m below meth c ls A hE hr hlocks hin hsz hK hP hD hS hA hAe hl
  have hx := hE.1
  have hb := hE.2.1
  have hown := hE.2.2.2.1
  have hw := hE.2.2.2.2
  have hl : lv_has ls 5 [(0, .ref m0), (1, .long w), (3, .int n0)] := hl
  refine lv_aload_n hx hb d_Mo_input_0 rfl (lv_at hl 0 rfl) ?_
  refine lv_iload_n hx hb d_Mo_input_1 rfl (lv_at hl 2 rfl) ?_
  refine lv_if_lt (tgt := 11) hx hb d_Mo_input_2 (by decide) (fun h1 => (show False by rw [hk] at h1; exact nI_nlt (a := k0) (b := 0) (by omega) (by omega) h1).elim) (fun h1 => ?_)
  refine lv_iload_n hx hb d_Mo_input_5 rfl (lv_at hl 2 rfl) ?_
  refine lv_bipush (v := 8) hx hb d_Mo_input_6 (by decide) ?_
  refine lv_icmp_le (tgt := 15) hx hb d_Mo_input_8 (by decide) (fun h2 => ?_) (fun h2 => (show False by exact h2 (by rw [hk]; exact nI_le (b := 8) hk8 (by omega))).elim)
  refine lv_aload_n hx hb d_Mo_input_15 rfl (lv_at hl 0 rfl) ?_
  refine zget hE hK hP 0 rfl fd_Mo_174 rfl d_Mo_input_16 ?_
  refine lv_iload_n hx hb d_Mo_input_19 rfl (lv_at hl 2 rfl) ?_
  refine lv_iadd hx hb d_Mo_input_20 ?_
  refine z_st (st' := [.int (nI (gi + k0)), .ref m0]) (by rw [show (((nI gi) + n0) : Int32) = nI (gi + k0) from by rw [hk]; exact nI_add _ _]) ?_
  refine lv_sipush (v := 1000) hx hb d_Mo_input_21 (by decide) ?_
  refine lv_icmp_le (tgt := 31) hx hb d_Mo_input_24 (by decide) (fun h3 => ?_) (fun h3 => (show False by exact h3 (nI_le (b := 1000) hgk (by omega))).elim)
  refine lv_iconst (v := 0) hx hb d_Mo_input_31 (by decide) ?_
  refine zput (v := .int 0) hE hK hP hD hS 0 rfl fd_Mo_62 ft_Mo_9 rfl rfl (Nat.le_of_ble_eq_true rfl) d_Mo_input_32 (fun H locs hP hD hS => ?_)
  have hP : va_P D zC [(m0, .inr (3, [.ref mk, .ref mt, .int kd, .ref wo, .int wn, .ref re, .int pc, .int sta, .int dn, .int 0, .ref ro, .ref aa, .ref si, .ref so, .ref la, .int md, .int lq, .int tp, .int tr, .ref ip, .ref oq, .ref cp, .int (nI gi), .int no])), (ip, .inl (cB, 1000, .inl (jf)))] _ := hP
  have hD : va_D A [(m0, .inr (3, [.ref mk, .ref mt, .int kd, .ref wo, .int wn, .ref re, .int pc, .int sta, .int dn, .int 0, .ref ro, .ref aa, .ref si, .ref so, .ref la, .int md, .int lq, .int tp, .int tr, .ref ip, .ref oq, .ref cp, .int (nI gi), .int no])), (ip, .inl (cB, 1000, .inl (jf)))] := hD
  refine lv_aload_n hx hb d_Mo_input_35 rfl (lv_at hl 0 rfl) ?_
  refine zget hE hK hP 0 rfl fd_Mo_62 rfl d_Mo_input_36 ?_
  refine lv_if_le (tgt := 44) hx hb d_Mo_input_39 (by decide) (fun h4 => ?_) (fun h4 => (show False by revert h4; decide).elim)
  refine lv_iload_n hx hb d_Mo_input_44 rfl (lv_at hl 2 rfl) ?_
  refine lv_iconst (v := 1) hx hb d_Mo_input_45 (by decide) ?_
  refine lv_isub hx hb d_Mo_input_46 ?_
  refine z_st (st' := [.int (nI k0 + (-1))]) (by rw [show ((n0 - 1) : Int32) = nI k0 + (-1) from by rw [hk]; exact z_m1 _]) ?_
  refine lv_istore (lv' := [(4, .int (nI k0 + (-1))), (0, .ref m0), (1, .long w), (3, .int n0)]) hx hb d_Mo_input_47 hl (by decide) rfl (fun ls hl => ?_)
  refine zloopH (σ := (List Int32 × Nat × (Nat → Int32))) (fun j x ls H locs cells slots => (j ≤ k0 ∧ rIn w j x.1 = rIn w k0 I ∧ jR 1000 x.1 x.2.1 x.2.2 ∧ x.2.1 + j = gi + k0 ∧ cells = 0 ∧ slots = 0) ∧ lv_has ls 5 [(4, .int (nI j + (-1))), (0, .ref m0), (1, .long w), (3, .int n0)] ∧ va_P D zC [(m0, .inr (3, [.ref mk, .ref mt, .int kd, .ref wo, .int wn, .ref re, .int pc, .int sta, .int dn, .int 0, .ref ro, .ref aa, .ref si, .ref so, .ref la, .int md, .int lq, .int tp, .int tr, .ref ip, .ref oq, .ref cp, .int (nI x.2.1), .int no])), (ip, .inl (cB, 1000, .inl (x.2.2)))] H ∧ va_D A [(m0, .inr (3, [.ref mk, .ref mt, .int kd, .ref wo, .int wn, .ref re, .int pc, .int sta, .int dn, .int 0, .ref ro, .ref aa, .ref si, .ref so, .ref la, .int md, .int lq, .int tp, .int tr, .ref ip, .ref oq, .ref cp, .int (nI x.2.1), .int no])), (ip, .inl (cB, 1000, .inl (x.2.2)))] ∧ va_S A s.heap H locs) (fun j x ls H locs cells slots hI ih => ?_) k0 (I, gi, jf) ls ⟨⟨Nat.le_refl _, rfl, hI0, rfl, rfl, rfl⟩, hl, hP, hD, hS⟩
  obtain ⟨Lx, cn, fx⟩ := x
  obtain ⟨⟨hj, hz, hb1, hcn, rfl, rfl⟩, hl, hP, hD, hS⟩ := hI
  dsimp only at hj hz hb1 hcn
  have hl : lv_has ls 5 [(4, .int (nI j + (-1))), (0, .ref m0), (1, .long w), (3, .int n0)] := hl
  have hP : va_P D zC [(m0, .inr (3, [.ref mk, .ref mt, .int kd, .ref wo, .int wn, .ref re, .int pc, .int sta, .int dn, .int 0, .ref ro, .ref aa, .ref si, .ref so, .ref la, .int md, .int lq, .int tp, .int tr, .ref ip, .ref oq, .ref cp, .int (nI cn), .int no])), (ip, .inl (cB, 1000, .inl (fx)))] _ := hP
  have hD : va_D A [(m0, .inr (3, [.ref mk, .ref mt, .int kd, .ref wo, .int wn, .ref re, .int pc, .int sta, .int dn, .int 0, .ref ro, .ref aa, .ref si, .ref so, .ref la, .int md, .int lq, .int tp, .int tr, .ref ip, .ref oq, .ref cp, .int (nI cn), .int no])), (ip, .inl (cB, 1000, .inl (fx)))] := hD
  refine lv_iload hx hb d_Mo_input_49 (lv_at hl 0 rfl) ?_
  refine lv_if_lt (tgt := 88) hx hb d_Mo_input_51 (by decide) (fun h5 => ?_) (fun h5 => ?_)
  · have j0 : j = 0 := z_pm0 (by omega) h5
    subst j0
    have hc0 : cn = gi + k0 := by omega
    subst hc0
    refine lv_aload_n hx hb d_Mo_input_88 rfl (lv_at hl 1 rfl) ?_
    refine zget hE hK hP 0 rfl fd_Mo_174 rfl d_Mo_input_89 ?_
    have hP9 := hP.sub (ws' := [(m0, .inr (3, [.ref mk, .ref mt, .int kd, .ref wo, .int wn, .ref re, .int pc, .int sta, .int dn, .int 0, .ref ro, .ref aa, .ref si, .ref so, .ref la, .int md, .int lq, .int tp, .int tr, .ref ip, .ref oq, .ref cp, .int (nI (gi + k0)), .int no])), (ip, .inl (cB, 1000, .inl (fx)))]) [0, 1] rfl
    have hD9 := hD.sub (ws' := [(m0, .inr (3, [.ref mk, .ref mt, .int kd, .ref wo, .int wn, .ref re, .int pc, .int sta, .int dn, .int 0, .ref ro, .ref aa, .ref si, .ref so, .ref la, .int md, .int lq, .int tp, .int tr, .ref ip, .ref oq, .ref cp, .int (nI (gi + k0)), .int no])), (ip, .inl (cB, 1000, .inl (fx)))]) [0, 1] rfl rfl
    exact zreti hx hb hr rfl hlocks hS fx ⟨rfl, by rw [← hz]; exact hb1⟩ rfl hP9 hD9 d_Mo_input_92
  · obtain ⟨j, rfl⟩ : ∃ q, j = q + 1 := ⟨j - 1, by have := z_pm h5; omega⟩
    rw [pk_m1] at hl
    have hl : lv_has ls 5 [(4, .int (nI j)), (0, .ref m0), (1, .long w), (3, .int n0)] := hl
    refine lv_aload_n hx hb d_Mo_input_54 rfl (lv_at hl 1 rfl) ?_
    refine zget hE hK hP 0 rfl fd_Mo_39 rfl d_Mo_input_55 ?_
    refine lv_aload_n hx hb d_Mo_input_58 rfl (lv_at hl 1 rfl) ?_
    refine zget hE hK hP 0 rfl fd_Mo_174 rfl d_Mo_input_59 ?_
    refine lv_lload_n hx hb d_Mo_input_62 rfl (lv_at hl 2 rfl) ?_
    refine lv_bipush (v := 8) hx hb d_Mo_input_63 (by decide) ?_
    refine lv_iload hx hb d_Mo_input_65 (lv_at hl 0 rfl) ?_
    refine lv_imul hx hb d_Mo_input_67 ?_
    refine lv_lshr (v := zlshr w (8 * (nI j))) hx hb d_Mo_input_68 rfl ?_
    refine lv_l2i (v := (zlshr w (8 * (nI j)) : Int64).toInt32) hx hb d_Mo_input_69 rfl ?_
    refine lv_i2b (v := ((zlshr w (8 * (nI j)) : Int64).toInt32 : Int32).toInt8.toInt32) hx hb d_Mo_input_70 rfl ?_
    refine va_bast hx hb hK hP hD hS 1 1 rfl rfl (vp_in_nI (by omega) (by omega)) d_Mo_input_71 (fun H locs hP hD hS => ?_)
    have hP : va_P D zC [(m0, .inr (3, [.ref mk, .ref mt, .int kd, .ref wo, .int wn, .ref re, .int pc, .int sta, .int dn, .int 0, .ref ro, .ref aa, .ref si, .ref so, .ref la, .int md, .int lq, .int tp, .int tr, .ref ip, .ref oq, .ref cp, .int (nI cn), .int no])), (ip, .inl (cB, 1000, .inl (upd fx (nI cn).toNatClampNeg (vp_nar .byte (((zlshr w (8 * (nI j)) : Int64).toInt32 : Int32).toInt8.toInt32)))))] _ := hP
    have hD : va_D A [(m0, .inr (3, [.ref mk, .ref mt, .int kd, .ref wo, .int wn, .ref re, .int pc, .int sta, .int dn, .int 0, .ref ro, .ref aa, .ref si, .ref so, .ref la, .int md, .int lq, .int tp, .int tr, .ref ip, .ref oq, .ref cp, .int (nI cn), .int no])), (ip, .inl (cB, 1000, .inl (upd fx (nI cn).toNatClampNeg (vp_nar .byte (((zlshr w (8 * (nI j)) : Int64).toInt32 : Int32).toInt8.toInt32)))))] := hD
    rw [show ((upd fx (nI cn).toNatClampNeg (vp_nar .byte (((zlshr w (8 * (nI j)) : Int64).toInt32 : Int32).toInt8.toInt32))) : Nat → Int32) = upd fx cn (((zlshr w (8 * (nI j)) : Int64).toInt32).toInt8.toInt32) from by rw [nI_clamp (by omega), pk_vb]] at hP hD
    have hP : va_P D zC [(m0, .inr (3, [.ref mk, .ref mt, .int kd, .ref wo, .int wn, .ref re, .int pc, .int sta, .int dn, .int 0, .ref ro, .ref aa, .ref si, .ref so, .ref la, .int md, .int lq, .int tp, .int tr, .ref ip, .ref oq, .ref cp, .int (nI cn), .int no])), (ip, .inl (cB, 1000, .inl (upd fx cn (((zlshr w (8 * (nI j)) : Int64).toInt32).toInt8.toInt32))))] _ := hP
    have hD : va_D A [(m0, .inr (3, [.ref mk, .ref mt, .int kd, .ref wo, .int wn, .ref re, .int pc, .int sta, .int dn, .int 0, .ref ro, .ref aa, .ref si, .ref so, .ref la, .int md, .int lq, .int tp, .int tr, .ref ip, .ref oq, .ref cp, .int (nI cn), .int no])), (ip, .inl (cB, 1000, .inl (upd fx cn (((zlshr w (8 * (nI j)) : Int64).toInt32).toInt8.toInt32))))] := hD
    refine lv_aload_n hx hb d_Mo_input_72 rfl (lv_at hl 1 rfl) ?_
    refine lv_dup hx hb d_Mo_input_73 rfl ?_
    refine zget hE hK hP 0 rfl fd_Mo_174 rfl d_Mo_input_74 ?_
    refine lv_iconst (v := 1) hx hb d_Mo_input_77 (by decide) ?_
    refine lv_iadd hx hb d_Mo_input_78 ?_
    refine z_st (st' := [.int (nI (cn + 1)), .ref m0]) (by rw [show (((nI cn) + 1) : Int32) = nI (cn + 1) from nI_1 cn]) ?_
    refine zput (v := .int (nI (cn + 1))) hE hK hP hD hS 0 rfl fd_Mo_174 ft_Mo_22 rfl rfl (Nat.le_of_ble_eq_true rfl) d_Mo_input_79 (fun H locs hP hD hS => ?_)
    have hP : va_P D zC [(m0, .inr (3, [.ref mk, .ref mt, .int kd, .ref wo, .int wn, .ref re, .int pc, .int sta, .int dn, .int 0, .ref ro, .ref aa, .ref si, .ref so, .ref la, .int md, .int lq, .int tp, .int tr, .ref ip, .ref oq, .ref cp, .int (nI (cn + 1)), .int no])), (ip, .inl (cB, 1000, .inl (upd fx cn (((zlshr w (8 * (nI j)) : Int64).toInt32).toInt8.toInt32))))] _ := hP
    have hD : va_D A [(m0, .inr (3, [.ref mk, .ref mt, .int kd, .ref wo, .int wn, .ref re, .int pc, .int sta, .int dn, .int 0, .ref ro, .ref aa, .ref si, .ref so, .ref la, .int md, .int lq, .int tp, .int tr, .ref ip, .ref oq, .ref cp, .int (nI (cn + 1)), .int no])), (ip, .inl (cB, 1000, .inl (upd fx cn (((zlshr w (8 * (nI j)) : Int64).toInt32).toInt8.toInt32))))] := hD
    refine lv_iinc (k := 0) (v := (nI j) + (-1)) (lv' := [(4, .int ((nI j) + (-1))), (0, .ref m0), (1, .long w), (3, .int n0)]) hx hb d_Mo_input_82 hl rfl rfl (by decide) rfl (fun ls hl => ?_)
    refine lv_goto (tgt := 49) hx hb d_Mo_input_85 (by decide) ?_
    exact ih j (bAdd 1000 Lx ((zlshr w (8 * (nI j)) : Int64).toInt32), cn + 1, upd fx cn (((zlshr w (8 * (nI j)) : Int64).toInt32).toInt8.toInt32)) ls H locs 0 0 (by omega) ⟨⟨by omega, hz, jR_add hb1 (by omega) _, by show cn + 1 + j = gi + k0; omega, rfl, rfl⟩, hl, hP, hD, hS⟩
