/-! cells alike on their range; rows that grow -/
theorem z_cell {cA : ClassId} {n : Nat} {f g : Nat → Int32} (h : ∀ j, j < n → f j = g j) : vp_cell cA (n, .inl f) = vp_cell cA (n, .inl g) := by
  show arrV cA n (fun j => .int (f j)) = arrV cA n (fun j => .int (g j))
  unfold arrV
  have e : (fun j : Fin n => Value.int (f j.val)) = fun j : Fin n => Value.int (g j.val) := funext fun j => by rw [h j.val j.isLt]
  rw [e]
theorem z_swP {D : va_G} {ws : va_W} {H : Heap} {q0 a n : Nat} {cA : ClassId} {f : Nat → Int32} (hP : va_P D zC ws H) (he : ws[q0]? = some (a, .inl (cA, n, .inl f))) (g : Nat → Int32) (h : ∀ j, j < n → f j = g j) : va_P D zC (ws.set q0 (a, .inl (cA, n, .inl g))) H := by
  have hl := (List.getElem?_eq_some_iff.mp he).1
  intro k q hk
  by_cases hkp : k = q0
  · subst hkp
    rw [List.getElem?_set_self hl] at hk
    cases hk
    have h1 : H[a]? = some (vp_cell cA (n, .inl f)) := hP k _ he
    show H[a]? = some (vp_cell cA (n, .inl g))
    rw [h1, z_cell h]
  · rw [List.getElem?_set_ne (Ne.symm hkp)] at hk
    exact hP k q hk
def zfl (f : Nat → Int32) (v : Int32) (x : Nat) : Nat → Int32 := fun j => if j < x then v else f j
theorem zfl_0 (f : Nat → Int32) (v : Int32) : zfl f v 0 = f := by
  funext j
  unfold zfl
  rw [if_neg (by omega)]
theorem zfl_s (f : Nat → Int32) (v : Int32) (x : Nat) : upd (zfl f v x) x v = zfl f v (x + 1) := by
  funext j
  unfold upd zfl
  by_cases h : j = x
  · subst h
    rw [if_pos rfl, if_pos (by omega)]
  · rw [if_neg h]
    by_cases h2 : j < x
    · rw [if_pos h2, if_pos (by omega)]
    · rw [if_neg h2, if_neg (by omega)]
def wdl (n d t : Nat) : Nat := if d ≤ n then n else min t (max d (2 * n))
def wdf (f : Nat → Int32) (n d : Nat) : Nat → Int32 := if d ≤ n then f else va_cpy f (fun _ => 0) 0 0 n
theorem z_max {a b : Nat} (ha : a < 2 ^ 31) (hb : b < 2 ^ 31) : (if nI a < nI b then nI b else nI a) = nI (max a b) := by
  by_cases h : a < b
  · rw [if_pos (nI_lt h hb), Nat.max_eq_right (by omega)]
  · rw [if_neg (nI_nlt (by omega) ha), Nat.max_eq_left (by omega)]
theorem z_min {a b : Nat} (ha : a < 2 ^ 31) (hb : b < 2 ^ 31) : (if nI b < nI a then nI b else nI a) = nI (min a b) := by
  by_cases h : b < a
  · rw [if_pos (nI_lt h ha), Nat.min_eq_right (by omega)]
  · rw [if_neg (nI_nlt (by omega) hb), Nat.min_eq_left (by omega)]
def wkc (n d : Nat) : Nat := if d ≤ n then 0 else 1
def wks (n d t : Nat) : Nat := if d ≤ n then 0 else wdl n d t
/-! decode rows -/
theorem d_Ar_copyOfI_0 : decode b_Ar_copyOfI 0 = .ok (.iload_n 1, 1) := by decide +kernel
theorem d_Ar_copyOfI_1 : decode b_Ar_copyOfI 1 = .ok (.aload_n 0, 1) := by decide +kernel
theorem d_Ar_copyOfI_2 : decode b_Ar_copyOfI 2 = .ok (.arraylength, 1) := by decide +kernel
theorem d_Ar_copyOfI_3 : decode b_Ar_copyOfI 3 = .ok (.if_icmp .ne 11, 3) := by decide +kernel
theorem d_Ar_copyOfI_6 : decode b_Ar_copyOfI 6 = .ok (.aload_n 0, 1) := by decide +kernel
theorem d_Ar_copyOfI_7 : decode b_Ar_copyOfI 7 = .ok (.invokevirtual 316, 3) := by decide +kernel
theorem d_Ar_copyOfI_10 : decode b_Ar_copyOfI 10 = .ok (.checkcast 317, 3) := by decide +kernel
theorem d_Ar_copyOfI_13 : decode b_Ar_copyOfI 13 = .ok (.areturn, 1) := by decide +kernel
theorem d_Ar_copyOfI_14 : decode b_Ar_copyOfI 14 = .ok (.iload_n 1, 1) := by decide +kernel
theorem d_Ar_copyOfI_15 : decode b_Ar_copyOfI 15 = .ok (.newarray .int, 2) := by decide +kernel
theorem d_Ar_copyOfI_17 : decode b_Ar_copyOfI 17 = .ok (.astore_n 2, 1) := by decide +kernel
theorem d_Ar_copyOfI_18 : decode b_Ar_copyOfI 18 = .ok (.aload_n 0, 1) := by decide +kernel
theorem d_Ar_copyOfI_19 : decode b_Ar_copyOfI 19 = .ok (.iconst 0, 1) := by decide +kernel
theorem d_Ar_copyOfI_20 : decode b_Ar_copyOfI 20 = .ok (.aload_n 2, 1) := by decide +kernel
theorem d_Ar_copyOfI_21 : decode b_Ar_copyOfI 21 = .ok (.iconst 0, 1) := by decide +kernel
theorem d_Ar_copyOfI_22 : decode b_Ar_copyOfI 22 = .ok (.aload_n 0, 1) := by decide +kernel
theorem d_Ar_copyOfI_23 : decode b_Ar_copyOfI 23 = .ok (.arraylength, 1) := by decide +kernel
theorem d_Ar_copyOfI_24 : decode b_Ar_copyOfI 24 = .ok (.iload_n 1, 1) := by decide +kernel
theorem d_Ar_copyOfI_25 : decode b_Ar_copyOfI 25 = .ok (.invokestatic 304, 3) := by decide +kernel
theorem d_Ar_copyOfI_28 : decode b_Ar_copyOfI 28 = .ok (.invokestatic 150, 3) := by decide +kernel
theorem d_Ar_copyOfI_31 : decode b_Ar_copyOfI 31 = .ok (.aload_n 2, 1) := by decide +kernel
theorem d_Ar_copyOfI_32 : decode b_Ar_copyOfI 32 = .ok (.areturn, 1) := by decide +kernel
theorem d_Ar_copyOfB_0 : decode b_Ar_copyOfB 0 = .ok (.iload_n 1, 1) := by decide +kernel
theorem d_Ar_copyOfB_1 : decode b_Ar_copyOfB 1 = .ok (.aload_n 0, 1) := by decide +kernel
theorem d_Ar_copyOfB_2 : decode b_Ar_copyOfB 2 = .ok (.arraylength, 1) := by decide +kernel
theorem d_Ar_copyOfB_3 : decode b_Ar_copyOfB 3 = .ok (.if_icmp .ne 11, 3) := by decide +kernel
theorem d_Ar_copyOfB_6 : decode b_Ar_copyOfB 6 = .ok (.aload_n 0, 1) := by decide +kernel
theorem d_Ar_copyOfB_7 : decode b_Ar_copyOfB 7 = .ok (.invokevirtual 310, 3) := by decide +kernel
theorem d_Ar_copyOfB_10 : decode b_Ar_copyOfB 10 = .ok (.checkcast 311, 3) := by decide +kernel
theorem d_Ar_copyOfB_13 : decode b_Ar_copyOfB 13 = .ok (.areturn, 1) := by decide +kernel
theorem d_Ar_copyOfB_14 : decode b_Ar_copyOfB 14 = .ok (.iload_n 1, 1) := by decide +kernel
theorem d_Ar_copyOfB_15 : decode b_Ar_copyOfB 15 = .ok (.newarray .byte, 2) := by decide +kernel
theorem d_Ar_copyOfB_17 : decode b_Ar_copyOfB 17 = .ok (.astore_n 2, 1) := by decide +kernel
theorem d_Ar_copyOfB_18 : decode b_Ar_copyOfB 18 = .ok (.aload_n 0, 1) := by decide +kernel
theorem d_Ar_copyOfB_19 : decode b_Ar_copyOfB 19 = .ok (.iconst 0, 1) := by decide +kernel
theorem d_Ar_copyOfB_20 : decode b_Ar_copyOfB 20 = .ok (.aload_n 2, 1) := by decide +kernel
theorem d_Ar_copyOfB_21 : decode b_Ar_copyOfB 21 = .ok (.iconst 0, 1) := by decide +kernel
theorem d_Ar_copyOfB_22 : decode b_Ar_copyOfB 22 = .ok (.aload_n 0, 1) := by decide +kernel
theorem d_Ar_copyOfB_23 : decode b_Ar_copyOfB 23 = .ok (.arraylength, 1) := by decide +kernel
theorem d_Ar_copyOfB_24 : decode b_Ar_copyOfB 24 = .ok (.iload_n 1, 1) := by decide +kernel
theorem d_Ar_copyOfB_25 : decode b_Ar_copyOfB 25 = .ok (.invokestatic 304, 3) := by decide +kernel
theorem d_Ar_copyOfB_28 : decode b_Ar_copyOfB 28 = .ok (.invokestatic 150, 3) := by decide +kernel
theorem d_Ar_copyOfB_31 : decode b_Ar_copyOfB 31 = .ok (.aload_n 2, 1) := by decide +kernel
theorem d_Ar_copyOfB_32 : decode b_Ar_copyOfB 32 = .ok (.areturn, 1) := by decide +kernel
theorem d_Ar_fill_0 : decode b_Ar_fill 0 = .ok (.iconst 0, 1) := by decide +kernel
theorem d_Ar_fill_1 : decode b_Ar_fill 1 = .ok (.istore_n 2, 1) := by decide +kernel
theorem d_Ar_fill_2 : decode b_Ar_fill 2 = .ok (.aload_n 0, 1) := by decide +kernel
theorem d_Ar_fill_3 : decode b_Ar_fill 3 = .ok (.arraylength, 1) := by decide +kernel
theorem d_Ar_fill_4 : decode b_Ar_fill 4 = .ok (.istore_n 3, 1) := by decide +kernel
theorem d_Ar_fill_5 : decode b_Ar_fill 5 = .ok (.iload_n 2, 1) := by decide +kernel
theorem d_Ar_fill_6 : decode b_Ar_fill 6 = .ok (.iload_n 3, 1) := by decide +kernel
theorem d_Ar_fill_7 : decode b_Ar_fill 7 = .ok (.if_icmp .ge 13, 3) := by decide +kernel
theorem d_Ar_fill_10 : decode b_Ar_fill 10 = .ok (.aload_n 0, 1) := by decide +kernel
theorem d_Ar_fill_11 : decode b_Ar_fill 11 = .ok (.iload_n 2, 1) := by decide +kernel
theorem d_Ar_fill_12 : decode b_Ar_fill 12 = .ok (.iload_n 1, 1) := by decide +kernel
theorem d_Ar_fill_13 : decode b_Ar_fill 13 = .ok (.iastore, 1) := by decide +kernel
theorem d_Ar_fill_14 : decode b_Ar_fill 14 = .ok (.iinc 2 1, 3) := by decide +kernel
theorem d_Ar_fill_17 : decode b_Ar_fill 17 = .ok (.goto (-12), 3) := by decide +kernel
theorem d_Ar_fill_20 : decode b_Ar_fill 20 = .ok (.return_, 1) := by decide +kernel
theorem d_Rv_widened_0 : decode b_Rv_widened 0 = .ok (.iload_n 1, 1) := by decide +kernel
theorem d_Rv_widened_1 : decode b_Rv_widened 1 = .ok (.aload_n 0, 1) := by decide +kernel
theorem d_Rv_widened_2 : decode b_Rv_widened 2 = .ok (.arraylength, 1) := by decide +kernel
theorem d_Rv_widened_3 : decode b_Rv_widened 3 = .ok (.if_icmp .gt 5, 3) := by decide +kernel
theorem d_Rv_widened_6 : decode b_Rv_widened 6 = .ok (.aload_n 0, 1) := by decide +kernel
theorem d_Rv_widened_7 : decode b_Rv_widened 7 = .ok (.areturn, 1) := by decide +kernel
theorem d_Rv_widened_8 : decode b_Rv_widened 8 = .ok (.aload_n 0, 1) := by decide +kernel
theorem d_Rv_widened_9 : decode b_Rv_widened 9 = .ok (.iload_n 2, 1) := by decide +kernel
theorem d_Rv_widened_10 : decode b_Rv_widened 10 = .ok (.iload_n 1, 1) := by decide +kernel
theorem d_Rv_widened_11 : decode b_Rv_widened 11 = .ok (.iconst 2, 1) := by decide +kernel
theorem d_Rv_widened_12 : decode b_Rv_widened 12 = .ok (.aload_n 0, 1) := by decide +kernel
theorem d_Rv_widened_13 : decode b_Rv_widened 13 = .ok (.arraylength, 1) := by decide +kernel
theorem d_Rv_widened_14 : decode b_Rv_widened 14 = .ok (.imul, 1) := by decide +kernel
theorem d_Rv_widened_15 : decode b_Rv_widened 15 = .ok (.invokestatic 106, 3) := by decide +kernel
theorem d_Rv_widened_18 : decode b_Rv_widened 18 = .ok (.invokestatic 88, 3) := by decide +kernel
theorem d_Rv_widened_21 : decode b_Rv_widened 21 = .ok (.invokestatic 109, 3) := by decide +kernel
theorem d_Rv_widened_24 : decode b_Rv_widened 24 = .ok (.areturn, 1) := by decide +kernel

set_option maxHeartbeats 4000000 in
theorem c_Ar_copyOfI (l : Launch) (D : va_G) (cI cB cJ : ClassId) (sz : Nat) (a1 : Nat) (n0 : Int32) (n1 : Nat) (f1 : Nat → Int32) (N1 : Nat) (hN : n0 = nI N1) (hne : n1 < N1) (hNb : N1 ≤ 80000) : zMet l y_Ar_copyOfI (zWs y_Ar_copyOfI b_Ar_copyOfI 3 (some (.array .int))) { frames := 1, cells := 1, slots := N1, locals := 60 } (zPc D (zT cI cB cJ) sz [(a1, .inl (cI, n1, .inl (f1)))] [.ref a1, .int n0]) (zQr D (va_A [(a1, .inl (cI, n1, .inl (f1)))] sz) (fun (r : Nat) (U : Nat) => U = r) (fun _ => (1, N1)) (fun (U : Nat) => [(a1, .inl (cI, n1, .inl (f1))), (U, .inl (cI, N1, .inl (va_cpy f1 (fun _ => 0) 0 0 n1)))])) (va_A [(a1, .inl (cI, n1, .inl (f1)))] sz) := by
  refine zstart (Qc := fun A => zQr D A (fun (r : Nat) (U : Nat) => U = r) (fun _ => (1, N1)) (fun (U : Nat) => [(a1, .inl (cI, n1, .inl (f1))), (U, .inl (cI, N1, .inl (va_cpy f1 (fun _ => 0) 0 0 n1)))])) (by decide) (Nat.le_of_ble_eq_true rfl) ?_
  intro p e s m below meth c ls A hE hr hlocks hin hsz hK hP hD hS hA hAe hl
  have hx := hE.1
  have hb := hE.2.1
  have hown := hE.2.2.2.1
  have hw := hE.2.2.2.2
  have hl : lv_has ls 3 [(0, .ref a1), (1, .int n0)] := hl
  refine lv_iload_n hx hb d_Ar_copyOfI_0 rfl (lv_at hl 1 rfl) ?_
  refine lv_aload_n hx hb d_Ar_copyOfI_1 rfl (lv_at hl 0 rfl) ?_
  refine va_alen (v := nI n1) hx hb hK hP 0 0 rfl rfl rfl d_Ar_copyOfI_2 ?_
  refine lv_icmp_ne (tgt := 14) hx hb d_Ar_copyOfI_3 (by decide) (fun h1 => ?_) (fun h1 => (show False by have q := h1; rw [hN] at q; exact absurd ((nI_eq (by omega) (by omega)).mp q) (by omega)).elim)
  refine lv_iload_n hx hb d_Ar_copyOfI_14 rfl (lv_at hl 1 rfl) ?_
  refine va_newa (a0 := (N1, .inl (fun _ => 0))) (N' := N1) hx hb (hw _ aw_int) rfl hK hP hD hS hA (fun _ => rfl) (by rw [hN]; exact nI_pos (by omega)) (by rw [hN]; exact nI_clamp (by omega)) (by show N1 * 4 ≤ 536870912; omega) (Nat.le_of_ble_eq_true rfl) (by show 0 + N1 ≤ N1; omega) d_Ar_copyOfI_15 (fun q2 cA0 H hK0 hP hD hS => ?_)
  obtain rfl : cI = cA0 := zK_int hK0
  have hP : va_P D zC [(a1, .inl (cI, n1, .inl (f1))), (q2, .inl (cI, N1, .inl (fun _ => 0)))] _ := hP
  have hD : va_D A [(a1, .inl (cI, n1, .inl (f1))), (q2, .inl (cI, N1, .inl (fun _ => 0)))] := hD
  refine lv_astore_n (lv' := [(2, .ref q2), (0, .ref a1), (1, .int n0)]) hx hb d_Ar_copyOfI_17 rfl hl (by decide) rfl (fun ls hl => ?_)
  refine lv_aload_n hx hb d_Ar_copyOfI_18 rfl (lv_at hl 1 rfl) ?_
  refine lv_iconst (v := 0) hx hb d_Ar_copyOfI_19 (by decide) ?_
  refine lv_aload_n hx hb d_Ar_copyOfI_20 rfl (lv_at hl 0 rfl) ?_
  refine lv_iconst (v := 0) hx hb d_Ar_copyOfI_21 (by decide) ?_
  refine lv_aload_n hx hb d_Ar_copyOfI_22 rfl (lv_at hl 1 rfl) ?_
  refine va_alen (v := nI n1) hx hb hK hP 0 0 rfl rfl rfl d_Ar_copyOfI_23 ?_
  refine lv_iload_n hx hb d_Ar_copyOfI_24 rfl (lv_at hl 2 rfl) ?_
  refine va_mmin (R := { frames := 1, cells := 1, slots := N1, locals := 60 }) hx hb (hE.2.2.1.trans hl.1.symm) hown (hw _ ml_Ar_304) (hw _ mm_min_st) (hw _ mm_ini) (hw _ mm_min_code) (by exact Nat.le_of_ble_eq_true rfl) (by exact Nat.le_of_ble_eq_true rfl) (by show 0 + 1 ≤ 1; omega) (by show 0 + N1 ≤ N1; omega) d_Ar_copyOfI_25 ?_
  refine z_st (st' := [.int (nI n1), .int 0, .ref q2, .int 0, .ref a1]) (by rw [show ((if n0 < (nI n1) then n0 else (nI n1)) : Int32) = nI n1 from by rw [hN]; exact if_neg (nI_nlt (by omega) (by omega))]) ?_
  refine va_copyi (R := { frames := 1, cells := 1, slots := N1, locals := 60 }) (ty := .int) (rest := []) hx hb (hE.2.2.1.trans hl.1.symm) hown (hw _ sl_Ar) (hw _ sy_nat) (hw _ sy_st) (hw _ sy_ini) hK hP hD hS 0 1 0 0 rfl rfl rfl rfl rfl (by decide) (by decide) (nI_pos (n := n1) (by omega)) (by rw [nI_clamp (by omega)]; show 0 + n1 ≤ n1; omega) (by rw [nI_clamp (by omega)]; show 0 + n1 ≤ N1; omega) (fun i hi => rfl) (by exact Nat.le_of_ble_eq_true rfl) (by exact Nat.le_of_ble_eq_true rfl) d_Ar_copyOfI_28 (fun H locs hP hD hS => ?_)
  have hP : va_P D zC [(a1, .inl (cI, n1, .inl (f1))), (q2, .inl (cI, N1, .inl (va_cpy f1 (fun _ => 0) 0 0 (nI n1).toNatClampNeg)))] _ := hP
  have hD : va_D A [(a1, .inl (cI, n1, .inl (f1))), (q2, .inl (cI, N1, .inl (va_cpy f1 (fun _ => 0) 0 0 (nI n1).toNatClampNeg)))] := hD
  rw [show ((va_cpy f1 (fun _ => 0) 0 0 (nI n1).toNatClampNeg) : Nat → Int32) = va_cpy f1 (fun _ => 0) 0 0 n1 from by rw [nI_clamp (by omega)]] at hP hD
  have hP : va_P D zC [(a1, .inl (cI, n1, .inl (f1))), (q2, .inl (cI, N1, .inl (va_cpy f1 (fun _ => 0) 0 0 n1)))] _ := hP
  have hD : va_D A [(a1, .inl (cI, n1, .inl (f1))), (q2, .inl (cI, N1, .inl (va_cpy f1 (fun _ => 0) 0 0 n1)))] := hD
  refine lv_aload_n hx hb d_Ar_copyOfI_31 rfl (lv_at hl 0 rfl) ?_
  have hP9 := hP.sub (ws' := [(a1, .inl (cI, n1, .inl (f1))), (q2, .inl (cI, N1, .inl (va_cpy f1 (fun _ => 0) 0 0 n1)))]) [0, 1] rfl
  have hD9 := hD.sub (ws' := [(a1, .inl (cI, n1, .inl (f1))), (q2, .inl (cI, N1, .inl (va_cpy f1 (fun _ => 0) 0 0 n1)))]) [0, 1] rfl rfl
  exact zretr hx hb hr (Or.inr ⟨_, rfl⟩) hlocks hS q2 rfl (by show (1, N1) = (0 + 1, 0 + N1); simp) hP9 hD9 d_Ar_copyOfI_32

set_option maxHeartbeats 4000000 in
theorem c_Ar_copyOfB (l : Launch) (D : va_G) (cI cB cJ : ClassId) (sz : Nat) (a1 : Nat) (n0 : Int32) (n1 : Nat) (f1 : Nat → Int32) (N1 : Nat) (hN : n0 = nI N1) (hne : n1 < N1) (hNb : N1 ≤ 80000) (hft : ∀ i, i < n1 → fits .byte (.int (f1 i)) = true) : zMet l y_Ar_copyOfB (zWs y_Ar_copyOfB b_Ar_copyOfB 3 (some (.array .byte))) { frames := 1, cells := 1, slots := N1, locals := 60 } (zPc D (zT cI cB cJ) sz [(a1, .inl (cB, n1, .inl (f1)))] [.ref a1, .int n0]) (zQr D (va_A [(a1, .inl (cB, n1, .inl (f1)))] sz) (fun (r : Nat) (U : Nat) => U = r) (fun _ => (1, N1)) (fun (U : Nat) => [(a1, .inl (cB, n1, .inl (f1))), (U, .inl (cB, N1, .inl (va_cpy f1 (fun _ => 0) 0 0 n1)))])) (va_A [(a1, .inl (cB, n1, .inl (f1)))] sz) := by
  refine zstart (Qc := fun A => zQr D A (fun (r : Nat) (U : Nat) => U = r) (fun _ => (1, N1)) (fun (U : Nat) => [(a1, .inl (cB, n1, .inl (f1))), (U, .inl (cB, N1, .inl (va_cpy f1 (fun _ => 0) 0 0 n1)))])) (by decide) (Nat.le_of_ble_eq_true rfl) ?_
  intro p e s m below meth c ls A hE hr hlocks hin hsz hK hP hD hS hA hAe hl
  have hx := hE.1
  have hb := hE.2.1
  have hown := hE.2.2.2.1
  have hw := hE.2.2.2.2
  have hl : lv_has ls 3 [(0, .ref a1), (1, .int n0)] := hl
  refine lv_iload_n hx hb d_Ar_copyOfB_0 rfl (lv_at hl 1 rfl) ?_
  refine lv_aload_n hx hb d_Ar_copyOfB_1 rfl (lv_at hl 0 rfl) ?_
  refine va_alen (v := nI n1) hx hb hK hP 0 1 rfl rfl rfl d_Ar_copyOfB_2 ?_
  refine lv_icmp_ne (tgt := 14) hx hb d_Ar_copyOfB_3 (by decide) (fun h1 => ?_) (fun h1 => (show False by have q := h1; rw [hN] at q; exact absurd ((nI_eq (by omega) (by omega)).mp q) (by omega)).elim)
  refine lv_iload_n hx hb d_Ar_copyOfB_14 rfl (lv_at hl 1 rfl) ?_
  refine va_newa (a0 := (N1, .inl (fun _ => 0))) (N' := N1) hx hb (hw _ aw_byte) rfl hK hP hD hS hA (fun _ => rfl) (by rw [hN]; exact nI_pos (by omega)) (by rw [hN]; exact nI_clamp (by omega)) (by show N1 * 1 ≤ 536870912; omega) (Nat.le_of_ble_eq_true rfl) (by show 0 + N1 ≤ N1; omega) d_Ar_copyOfB_15 (fun q2 cA0 H hK0 hP hD hS => ?_)
  obtain rfl : cB = cA0 := zK_byte hK0
  have hP : va_P D zC [(a1, .inl (cB, n1, .inl (f1))), (q2, .inl (cB, N1, .inl (fun _ => 0)))] _ := hP
  have hD : va_D A [(a1, .inl (cB, n1, .inl (f1))), (q2, .inl (cB, N1, .inl (fun _ => 0)))] := hD
  refine lv_astore_n (lv' := [(2, .ref q2), (0, .ref a1), (1, .int n0)]) hx hb d_Ar_copyOfB_17 rfl hl (by decide) rfl (fun ls hl => ?_)
  refine lv_aload_n hx hb d_Ar_copyOfB_18 rfl (lv_at hl 1 rfl) ?_
  refine lv_iconst (v := 0) hx hb d_Ar_copyOfB_19 (by decide) ?_
  refine lv_aload_n hx hb d_Ar_copyOfB_20 rfl (lv_at hl 0 rfl) ?_
  refine lv_iconst (v := 0) hx hb d_Ar_copyOfB_21 (by decide) ?_
  refine lv_aload_n hx hb d_Ar_copyOfB_22 rfl (lv_at hl 1 rfl) ?_
  refine va_alen (v := nI n1) hx hb hK hP 0 1 rfl rfl rfl d_Ar_copyOfB_23 ?_
  refine lv_iload_n hx hb d_Ar_copyOfB_24 rfl (lv_at hl 2 rfl) ?_
  refine va_mmin (R := { frames := 1, cells := 1, slots := N1, locals := 60 }) hx hb (hE.2.2.1.trans hl.1.symm) hown (hw _ ml_Ar_304) (hw _ mm_min_st) (hw _ mm_ini) (hw _ mm_min_code) (by exact Nat.le_of_ble_eq_true rfl) (by exact Nat.le_of_ble_eq_true rfl) (by show 0 + 1 ≤ 1; omega) (by show 0 + N1 ≤ N1; omega) d_Ar_copyOfB_25 ?_
  refine z_st (st' := [.int (nI n1), .int 0, .ref q2, .int 0, .ref a1]) (by rw [show ((if n0 < (nI n1) then n0 else (nI n1)) : Int32) = nI n1 from by rw [hN]; exact if_neg (nI_nlt (by omega) (by omega))]) ?_
  refine va_copyi (R := { frames := 1, cells := 1, slots := N1, locals := 60 }) (ty := .byte) (rest := []) hx hb (hE.2.2.1.trans hl.1.symm) hown (hw _ sl_Ar) (hw _ sy_nat) (hw _ sy_st) (hw _ sy_ini) hK hP hD hS 0 1 1 1 rfl rfl rfl rfl rfl (by decide) (by decide) (nI_pos (n := n1) (by omega)) (by rw [nI_clamp (by omega)]; show 0 + n1 ≤ n1; omega) (by rw [nI_clamp (by omega)]; show 0 + n1 ≤ N1; omega) (fun i hi => by rw [nI_clamp (by omega)] at hi; exact hft _ (by show 0 + i < n1; omega)) (by exact Nat.le_of_ble_eq_true rfl) (by exact Nat.le_of_ble_eq_true rfl) d_Ar_copyOfB_28 (fun H locs hP hD hS => ?_)
  have hP : va_P D zC [(a1, .inl (cB, n1, .inl (f1))), (q2, .inl (cB, N1, .inl (va_cpy f1 (fun _ => 0) 0 0 (nI n1).toNatClampNeg)))] _ := hP
  have hD : va_D A [(a1, .inl (cB, n1, .inl (f1))), (q2, .inl (cB, N1, .inl (va_cpy f1 (fun _ => 0) 0 0 (nI n1).toNatClampNeg)))] := hD
  rw [show ((va_cpy f1 (fun _ => 0) 0 0 (nI n1).toNatClampNeg) : Nat → Int32) = va_cpy f1 (fun _ => 0) 0 0 n1 from by rw [nI_clamp (by omega)]] at hP hD
  have hP : va_P D zC [(a1, .inl (cB, n1, .inl (f1))), (q2, .inl (cB, N1, .inl (va_cpy f1 (fun _ => 0) 0 0 n1)))] _ := hP
  have hD : va_D A [(a1, .inl (cB, n1, .inl (f1))), (q2, .inl (cB, N1, .inl (va_cpy f1 (fun _ => 0) 0 0 n1)))] := hD
  refine lv_aload_n hx hb d_Ar_copyOfB_31 rfl (lv_at hl 0 rfl) ?_
  have hP9 := hP.sub (ws' := [(a1, .inl (cB, n1, .inl (f1))), (q2, .inl (cB, N1, .inl (va_cpy f1 (fun _ => 0) 0 0 n1)))]) [0, 1] rfl
  have hD9 := hD.sub (ws' := [(a1, .inl (cB, n1, .inl (f1))), (q2, .inl (cB, N1, .inl (va_cpy f1 (fun _ => 0) 0 0 n1)))]) [0, 1] rfl rfl
  exact zretr hx hb hr (Or.inr ⟨_, rfl⟩) hlocks hS q2 rfl (by show (1, N1) = (0 + 1, 0 + N1); simp) hP9 hD9 d_Ar_copyOfB_32

set_option maxHeartbeats 4000000 in
theorem c_Ar_fill (l : Launch) (D : va_G) (cI cB cJ : ClassId) (sz : Nat) (a1 : Nat) (v : Int32) (n1 : Nat) (f1 : Nat → Int32) (hn : n1 ≤ 80000) : zMet l y_Ar_fill (zWs y_Ar_fill b_Ar_fill 4 (none)) { frames := 0, cells := 0, slots := 0, locals := 0 } (zPc D (zT cI cB cJ) sz [(a1, .inl (cI, n1, .inl (f1)))] [.ref a1, .int v]) (zQv D (va_A [(a1, .inl (cI, n1, .inl (f1)))] sz) (fun (_ : Unit) => True) (z0) (fun _ => [(a1, .inl (cI, n1, .inl (fun _ => v)))])) (va_A [(a1, .inl (cI, n1, .inl (f1)))] sz) := by
  refine zstart (Qc := fun A => zQv D A (fun (_ : Unit) => True) (z0) (fun _ => [(a1, .inl (cI, n1, .inl (fun _ => v)))])) (by decide) (Nat.le_of_ble_eq_true rfl) ?_
  intro p e s m below meth c ls A hE hr hlocks hin hsz hK hP hD hS hA hAe hl
  have hx := hE.1
  have hb := hE.2.1
  have hown := hE.2.2.2.1
  have hw := hE.2.2.2.2
  have hl : lv_has ls 4 [(0, .ref a1), (1, .int v)] := hl
  refine lv_iconst (v := 0) hx hb d_Ar_fill_0 (by decide) ?_
  refine lv_istore_n (lv' := [(2, .int 0), (0, .ref a1), (1, .int v)]) hx hb d_Ar_fill_1 rfl hl (by decide) rfl (fun ls hl => ?_)
  refine lv_aload_n hx hb d_Ar_fill_2 rfl (lv_at hl 1 rfl) ?_
  refine va_alen (v := nI n1) hx hb hK hP 0 0 rfl rfl rfl d_Ar_fill_3 ?_
  refine lv_istore_n (lv' := [(3, .int (nI n1)), (2, .int 0), (0, .ref a1), (1, .int v)]) hx hb d_Ar_fill_4 rfl hl (by decide) rfl (fun ls hl => ?_)
  rw [show ((f1) : Nat → Int32) = zfl f1 v 0 from (zfl_0 f1 v).symm] at hP hD
  have hP : va_P D zC [(a1, .inl (cI, n1, .inl (zfl f1 v 0)))] _ := hP
  have hD : va_D A [(a1, .inl (cI, n1, .inl (zfl f1 v 0)))] := hD
  refine zloopH (σ := Nat) (fun j x ls H locs cells slots => (x + j = n1 ∧ cells = 0 ∧ slots = 0) ∧ lv_has ls 4 [(3, .int (nI n1)), (2, .int (nI x)), (0, .ref a1), (1, .int v)] ∧ va_P D zC [(a1, .inl (cI, n1, .inl (zfl f1 v x)))] H ∧ va_D A [(a1, .inl (cI, n1, .inl (zfl f1 v x)))] ∧ va_S A s.heap H locs) (fun j x ls H locs cells slots hI ih => ?_) n1 0 ls ⟨⟨by omega, rfl, rfl⟩, hl, hP, hD, hS⟩
  obtain ⟨⟨hj, rfl, rfl⟩, hl, hP, hD, hS⟩ := hI
  refine lv_iload_n hx hb d_Ar_fill_5 rfl (lv_at hl 1 rfl) ?_
  refine lv_iload_n hx hb d_Ar_fill_6 rfl (lv_at hl 0 rfl) ?_
  refine lv_icmp_ge (tgt := 20) hx hb d_Ar_fill_7 (by decide) (fun h1 => ?_) (fun h1 => ?_)
  · have hx0 : n1 = x := by have := z_le' (by omega) h1; omega
    subst hx0
    have hP9 := hP.sub (ws' := [(a1, .inl (cI, n1, .inl (zfl f1 v n1)))]) [0] rfl
    have hD9 := hD.sub (ws' := [(a1, .inl (cI, n1, .inl (zfl f1 v n1)))]) [0] rfl rfl
    have hP8 := z_swP (q0 := 0) hP9 rfl (fun _ => v) (fun j hj => if_pos hj)
    have hD8 := hD9.set (p := 0) (e := .inl (cI, n1, .inl (fun _ => v))) rfl
    exact zretv hx hb hr hlocks hS () trivial rfl hP8 hD8 d_Ar_fill_20
  · have hlt : x < n1 := z_nle' (by omega) h1
    refine lv_aload_n hx hb d_Ar_fill_10 rfl (lv_at hl 2 rfl) ?_
    refine lv_iload_n hx hb d_Ar_fill_11 rfl (lv_at hl 1 rfl) ?_
    refine lv_iload_n hx hb d_Ar_fill_12 rfl (lv_at hl 3 rfl) ?_
    refine va_iast hx hb hK hP hD hS 0 0 rfl rfl (vp_in_nI hlt (by omega)) d_Ar_fill_13 (fun H locs hP hD hS => ?_)
    have hP : va_P D zC [(a1, .inl (cI, n1, .inl (upd (zfl f1 v x) (nI x).toNatClampNeg v)))] _ := hP
    have hD : va_D A [(a1, .inl (cI, n1, .inl (upd (zfl f1 v x) (nI x).toNatClampNeg v)))] := hD
    rw [show ((upd (zfl f1 v x) (nI x).toNatClampNeg v) : Nat → Int32) = zfl f1 v (x + 1) from by rw [nI_clamp (by omega), zfl_s]] at hP hD
    have hP : va_P D zC [(a1, .inl (cI, n1, .inl (zfl f1 v (x + 1))))] _ := hP
    have hD : va_D A [(a1, .inl (cI, n1, .inl (zfl f1 v (x + 1))))] := hD
    refine lv_iinc (k := 1) (v := (nI x) + 1) (lv' := [(2, .int ((nI x) + 1)), (3, .int (nI n1)), (0, .ref a1), (1, .int v)]) hx hb d_Ar_fill_14 hl rfl rfl (by decide) rfl (fun ls hl => ?_)
    refine lv_goto (tgt := 5) hx hb d_Ar_fill_17 (by decide) ?_
    rw [nI_1] at hl
    have hl := lv_sub (l' := [(3, .int (nI n1)), (2, .int (nI (x + 1))), (0, .ref a1), (1, .int v)]) hl [1, 0, 2, 3] rfl
    exact ih (j - 1) (x + 1) ls H locs 0 0 (by omega) ⟨⟨by omega, rfl, rfl⟩, hl, hP, hD, hS⟩

set_option maxHeartbeats 4000000 in
theorem c_Rv_widened (l : Launch) (D : va_G) (cI cB cJ : ClassId) (sz : Nat) (a1 : Nat) (nd : Int32) (mx : Int32) (n1 : Nat) (f1 : Nat → Int32) (d0 : Nat) (t0 : Nat) (hnd : nd = nI d0) (hmx : mx = nI t0) (hd : d0 ≤ t0) (ht : t0 ≤ 8001) (hn : n1 ≤ 8001) : zMet l y_Rv_widened (zWs y_Rv_widened b_Rv_widened 3 (some (.array .int))) { frames := 2, cells := wkc n1 d0, slots := wks n1 d0 t0, locals := 82 } (zPc D (zT cI cB cJ) sz [(a1, .inl (cI, n1, .inl (f1)))] [.ref a1, .int nd, .int mx]) (zQr D (va_A [(a1, .inl (cI, n1, .inl (f1)))] sz) (fun (r : Nat) (U : Nat) => U = r) (fun _ => (wkc n1 d0, wks n1 d0 t0)) (fun (U : Nat) => [(U, .inl (cI, (wdl n1 d0 t0), .inl (wdf f1 n1 d0)))])) (va_A [(a1, .inl (cI, n1, .inl (f1)))] sz) := by
  refine zstart (Qc := fun A => zQr D A (fun (r : Nat) (U : Nat) => U = r) (fun _ => (wkc n1 d0, wks n1 d0 t0)) (fun (U : Nat) => [(U, .inl (cI, (wdl n1 d0 t0), .inl (wdf f1 n1 d0)))])) (by decide) (Nat.le_of_ble_eq_true rfl) ?_
  intro p e s m below meth c ls A hE hr hlocks hin hsz hK hP hD hS hA hAe hl
  have hx := hE.1
  have hb := hE.2.1
  have hown := hE.2.2.2.1
  have hw := hE.2.2.2.2
  have hl : lv_has ls 3 [(0, .ref a1), (1, .int nd), (2, .int mx)] := hl
  refine lv_iload_n hx hb d_Rv_widened_0 rfl (lv_at hl 1 rfl) ?_
  refine lv_aload_n hx hb d_Rv_widened_1 rfl (lv_at hl 0 rfl) ?_
  refine va_alen (v := nI n1) hx hb hK hP 0 0 rfl rfl rfl d_Rv_widened_2 ?_
  refine lv_icmp_gt (tgt := 8) hx hb d_Rv_widened_3 (by decide) (fun h1 => ?_) (fun h1 => ?_)
  · have hgt : ¬ d0 ≤ n1 := fun q => absurd h1 (by rw [hnd]; exact nI_nlt q (by omega))
    refine lv_aload_n hx hb d_Rv_widened_8 rfl (lv_at hl 0 rfl) ?_
    refine lv_iload_n hx hb d_Rv_widened_9 rfl (lv_at hl 2 rfl) ?_
    refine lv_iload_n hx hb d_Rv_widened_10 rfl (lv_at hl 1 rfl) ?_
    refine lv_iconst (v := 2) hx hb d_Rv_widened_11 (by decide) ?_
    refine lv_aload_n hx hb d_Rv_widened_12 rfl (lv_at hl 0 rfl) ?_
    refine va_alen (v := nI n1) hx hb hK hP 0 0 rfl rfl rfl d_Rv_widened_13 ?_
    refine lv_imul hx hb d_Rv_widened_14 ?_
    refine z_st (st' := [.int (nI (2 * n1)), .int nd, .int mx, .ref a1]) (by rw [show ((2 * (nI n1)) : Int32) = nI (2 * n1) from pk_mul 2 n1]) ?_
    refine va_mmax (R := { frames := 2, cells := wkc n1 d0, slots := wks n1 d0 t0, locals := 82 }) hx hb (hE.2.2.1.trans hl.1.symm) hown (hw _ ml_Rv_106) (hw _ mm_max_st) (hw _ mm_ini) (hw _ mm_max_code) (by exact Nat.le_of_ble_eq_true rfl) (by exact Nat.le_of_ble_eq_true rfl) (Nat.zero_le _) (Nat.zero_le _) d_Rv_widened_15 ?_
    refine z_st (st' := [.int (nI (max d0 (2 * n1))), .int mx, .ref a1]) (by rw [show ((if nd < (nI (2 * n1)) then (nI (2 * n1)) else nd) : Int32) = nI (max d0 (2 * n1)) from by rw [hnd]; exact z_max (by omega) (by omega)]) ?_
    refine va_mmin (R := { frames := 2, cells := wkc n1 d0, slots := wks n1 d0 t0, locals := 82 }) hx hb (hE.2.2.1.trans hl.1.symm) hown (hw _ ml_Rv_88) (hw _ mm_min_st) (hw _ mm_ini) (hw _ mm_min_code) (by exact Nat.le_of_ble_eq_true rfl) (by exact Nat.le_of_ble_eq_true rfl) (Nat.zero_le _) (Nat.zero_le _) d_Rv_widened_18 ?_
    refine z_st (st' := [.int (nI (min t0 (max d0 (2 * n1)))), .ref a1]) (by rw [show ((if (nI (max d0 (2 * n1))) < mx then (nI (max d0 (2 * n1))) else mx) : Int32) = nI (min t0 (max d0 (2 * n1))) from by rw [hmx]; exact z_min (by omega) (by omega)]) ?_
    refine zgor (wr := []) (zrunS (n := 2) (As := [.ref a1, .int (nI (min t0 (max d0 (2 * n1))))]) (rest := []) hE (c_Ar_copyOfI l D cI cB cJ _ a1 (nI (min t0 (max d0 (2 * n1)))) n1 f1 (min t0 (max d0 (2 * n1))) rfl (by omega) (by omega)) cb_Ar_copyOfI lk_Rv_109 st_Ar_copyOfI (zpreS hK hP hD [0] rfl rfl rfl) ⟨Nat.le_of_ble_eq_true rfl, Nat.le_of_ble_eq_true rfl, by show 0 + 1 ≤ wkc n1 d0; unfold wkc; rw [if_neg hgt]; exact Nat.le_refl _, by show 0 + min t0 (max d0 (2 * n1)) ≤ wks n1 d0 t0; unfold wks wdl; rw [if_neg hgt, if_neg hgt]; omega⟩ rfl hl.1 rfl (Nat.le_of_ble_eq_true rfl) d_Rv_widened_21) hP hD hS hA [0] [] rfl rfl rfl (by decide) (fun r3 u4 H locs hq2 hP hD hS => ?_)
    subst hq2
    have hP : va_P D zC [(a1, .inl (cI, n1, .inl (f1))), (u4, .inl (cI, (min t0 (max d0 (2 * n1))), .inl (va_cpy f1 (fun _ => 0) 0 0 n1)))] _ := hP
    have hD : va_D A [(a1, .inl (cI, n1, .inl (f1))), (u4, .inl (cI, (min t0 (max d0 (2 * n1))), .inl (va_cpy f1 (fun _ => 0) 0 0 n1)))] := hD
    have hP9 := hP.sub (ws' := [(u4, .inl (cI, (min t0 (max d0 (2 * n1))), .inl (va_cpy f1 (fun _ => 0) 0 0 n1)))]) [1] rfl
    have hD9 := hD.sub (ws' := [(u4, .inl (cI, (min t0 (max d0 (2 * n1))), .inl (va_cpy f1 (fun _ => 0) 0 0 n1)))]) [1] rfl rfl
    exact zretr hx hb hr (Or.inr ⟨_, rfl⟩) hlocks hS u4 rfl (by unfold wkc wks wdl; rw [if_neg hgt, if_neg hgt, if_neg hgt]; show (1, _) = (0 + 1, 0 + _); simp) (by unfold wdl wdf; rw [if_neg hgt, if_neg hgt]; exact hP9) (by unfold wdl wdf; rw [if_neg hgt, if_neg hgt]; exact hD9) d_Rv_widened_24
  · have hle : d0 ≤ n1 := Nat.not_lt.mp (fun q => absurd (show nI n1 < nd by rw [hnd]; exact nI_lt q (by omega)) h1)
    refine lv_aload_n hx hb d_Rv_widened_6 rfl (lv_at hl 0 rfl) ?_
    have hP9 := hP.sub (ws' := [(a1, .inl (cI, n1, .inl (f1)))]) [0] rfl
    have hD9 := hD.sub (ws' := [(a1, .inl (cI, n1, .inl (f1)))]) [0] rfl rfl
    exact zretr hx hb hr (Or.inr ⟨_, rfl⟩) hlocks hS a1 rfl (by unfold wkc wks; rw [if_pos hle, if_pos hle]) (by unfold wdl wdf; rw [if_pos hle, if_pos hle]; exact hP9) (by unfold wdl wdf; rw [if_pos hle, if_pos hle]; exact hD9) d_Rv_widened_7
