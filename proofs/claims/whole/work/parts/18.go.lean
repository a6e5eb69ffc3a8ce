/-! what the class's rows say of one object; which calls let one go -/
theorem z_a16 (x : Int32) : x &&& 65535 = nI (zN x % 65536) := pk_and x 16 (by decide)
theorem cRep_at {M : MM} {md bt nl pe rn pn : Nat} {sf tf uf pf : Nat → Int32} (h : cRep M md bt nl pe rn pn sf tf uf pf) {k z : Nat} (hk : mSz M k = some z) :
    k < rn ∧ rn ≤ 8001 ∧ sf k = nI z ∧ z ≤ 4000 ∧ (∃ q, tf k = nI q ∧ q ≤ 80000 ∧ (0 < z → q + up4 z ≤ pn) ∧ ∀ i, i < z → pf (q + i) = mCt M k i) ∧ pe ≤ 80000 ∧ up4 z ≤ bt ∧ bt ≤ 40000 := by
  obtain ⟨hI, h1, h2, h3, h4, h5, h6, h7, h8, h9, h10, h11, h12, st, g1, g2, g3⟩ := h
  obtain ⟨k1, k2, k3⟩ := hI.2.2.1 k z hk
  obtain ⟨e1, e2, e3⟩ := g1 k z hk
  refine ⟨by omega, h5, ?_, k3, ⟨st k, e1, by omega, fun hz => by have := e3 hz; omega, fun i hi => g3 k z i hk hi⟩, by omega, ?_, ?_⟩
  · rw [h10 k k1 (by omega), hk]
  · have := mSum_up (sz := mSz M) (mMd M) k1 k2
    rw [hk, ← hI.2.2.2.1, ← h2] at this
    exact this
  · rw [h2]
    exact hI.2.1
theorem cRep_there {M : MM} {md bt nl pe rn pn : Nat} {sf tf uf pf : Nat → Int32} (h : cRep M md bt nl pe rn pn sf tf uf pf) {k : Nat} (hk : k < 65536) : sp_Me_isThere (nI k) md sf = if (mSz M k).isSome = true then 1 else 0 := by
  obtain ⟨hI, h1, h2, h3, h4, h5, h6, h7, h8, h9, h10, -⟩ := h
  have hnone : (k = 0 ∨ md < k) → mSz M k = none := by
    intro c
    cases e : mSz M k with
    | none => rfl
    | some z =>
      have := hI.2.2.1 k z e
      omega
  unfold sp_Me_isThere
  by_cases c1 : k = 0
  · rw [if_pos (by subst c1; decide), hnone (Or.inl c1)]
    rfl
  · have hk1 : ¬ nI k < (1 : Int32) := nI_nlt (a := k) (b := 1) (by omega) (by omega)
    rw [if_neg hk1]
    by_cases c2 : md < k
    · rw [if_pos (nI_lt c2 (by omega)), hnone (Or.inr c2)]
      rfl
    · rw [if_neg (nI_nlt (by omega) (by omega)), nI_clamp (by omega), h10 k (by omega) (by omega)]
      cases e : mSz M k with
      | none => rfl
      | some z =>
        have hz := hI.2.2.1 k z e
        have hne : ¬ nI z = -1 := fun q => by
          have := congrArg Int32.toInt q
          rw [nI_toInt (by omega)] at this
          have k1 : ((-1) : Int32).toInt = -1 := by decide
          omega
        show (if nI z = -1 then 0 else 1) = _
        rw [if_neg hne]
        rfl
theorem nI_nm1 {z : Nat} (h : z < 2 ^ 31) : ¬ nI z = -1 := fun q => by
  have := congrArg Int32.toInt q
  rw [nI_toInt h] at this
  have k1 : ((-1) : Int32).toInt = -1 := by decide
  omega
theorem cRep_gv {M : MM} {md bt nl pe rn pn : Nat} {sf tf uf pf : Nat → Int32} (h : cRep M md bt nl pe rn pn sf tf uf pf) {k z : Nat} (hk : mSz M k = some z) : uf k = -1 ↔ mGv M k = true := by
  have h11 := h.2.2.2.2.2.2.2.2.2.2.2.1
  have h12 := h.2.2.2.2.2.2.2.2.2.2.2.2.1
  constructor
  · intro hu
    cases e : mGv M k with
    | true => rfl
    | false =>
      exfalso
      have hm := h.1.2.2.2.2.2.2.2 k z hk e
      obtain ⟨i, hi, he⟩ := List.mem_iff_getElem.mp hm
      have hb := h12 i hi
      have hg : (mLs M).getD i 0 = k := by rw [List.getD_eq_getElem?_getD, List.getElem?_eq_getElem hi]; exact he
      rw [hg, hu] at hb
      refine nI_nm1 (z := (mLs M).getD (i + 1) 0) ?_ hb.symm
      by_cases c : i + 1 < (mLs M).length
      · have hmem : (mLs M).getD (i + 1) 0 ∈ mLs M := by rw [List.getD_eq_getElem?_getD, List.getElem?_eq_getElem c]; exact List.getElem_mem c
        obtain ⟨y, hy, -⟩ := h.1.2.2.2.2.2.2.1 _ hmem
        have := h.1.2.2.1 _ y hy
        have := h.1.1
        omega
      · rw [List.getD_eq_getElem?_getD, List.getElem?_eq_none (by omega)]
        decide
  · intro hg
    exact h11 k z hk hg
def mDropG (M : MM) (a : Int32) : Option MM := if zN a % 65536 = 0 ∧ (mSz M (zN a / 65536)).isSome = true ∧ mGv M (zN a / 65536) = true then some (mGone M (zN a / 65536)) else none
def mPopN : Nat → MM → MM
  | 0, M => M
  | j + 1, M => mPopN j (mGone M ((mLs M).headD 0))
def mDropL (M : MM) (n : Int32) : Option MM := if 0 ≤ n.toInt ∧ n.toInt ≤ (mLs M).length then some (mPopN n.toInt.toNat M) else none
theorem z_ite0 {c : Prop} [Decidable c] (h : ¬ (if c then (1 : Int32) else 0) = 0) : c := by
  by_cases q : c
  · exact q
  · rw [if_neg q] at h
    exact absurd rfl h
theorem z_ite1 {c : Prop} [Decidable c] (h : (if c then (1 : Int32) else 0) = 0) : ¬ c := by
  intro q
  rw [if_pos q] at h
  exact absurd h (by decide)
theorem mPopN_s : ∀ (j : Nat) (M : MM), mPopN (j + 1) M = mGone (mPopN j M) ((mLs (mPopN j M)).headD 0)
  | 0, _ => rfl
  | j + 1, M => by
    show mPopN (j + 1) (mGone M ((mLs M).headD 0)) = _
    rw [mPopN_s j]
    rfl
/-! decode rows -/
theorem d_Me_addNumber_0 : decode b_Me_addNumber 0 = .ok (.aload_n 0, 1) := by decide +kernel
theorem d_Me_addNumber_1 : decode b_Me_addNumber 1 = .ok (.dup, 1) := by decide +kernel
theorem d_Me_addNumber_2 : decode b_Me_addNumber 2 = .ok (.getfield 26, 3) := by decide +kernel
theorem d_Me_addNumber_5 : decode b_Me_addNumber 5 = .ok (.iconst 1, 1) := by decide +kernel
theorem d_Me_addNumber_6 : decode b_Me_addNumber 6 = .ok (.iadd, 1) := by decide +kernel
theorem d_Me_addNumber_7 : decode b_Me_addNumber 7 = .ok (.putfield 26, 3) := by decide +kernel
theorem d_Me_addNumber_10 : decode b_Me_addNumber 10 = .ok (.aload_n 0, 1) := by decide +kernel
theorem d_Me_addNumber_11 : decode b_Me_addNumber 11 = .ok (.aload_n 0, 1) := by decide +kernel
theorem d_Me_addNumber_12 : decode b_Me_addNumber 12 = .ok (.getfield 9, 3) := by decide +kernel
theorem d_Me_addNumber_15 : decode b_Me_addNumber 15 = .ok (.aload_n 0, 1) := by decide +kernel
theorem d_Me_addNumber_16 : decode b_Me_addNumber 16 = .ok (.getfield 26, 3) := by decide +kernel
theorem d_Me_addNumber_19 : decode b_Me_addNumber 19 = .ok (.iconst 1, 1) := by decide +kernel
theorem d_Me_addNumber_20 : decode b_Me_addNumber 20 = .ok (.iadd, 1) := by decide +kernel
theorem d_Me_addNumber_21 : decode b_Me_addNumber 21 = .ok (.sipush 8001, 3) := by decide +kernel
theorem d_Me_addNumber_24 : decode b_Me_addNumber 24 = .ok (.invokestatic 60, 3) := by decide +kernel
theorem d_Me_addNumber_27 : decode b_Me_addNumber 27 = .ok (.putfield 9, 3) := by decide +kernel
theorem d_Me_addNumber_30 : decode b_Me_addNumber 30 = .ok (.aload_n 0, 1) := by decide +kernel
theorem d_Me_addNumber_31 : decode b_Me_addNumber 31 = .ok (.aload_n 0, 1) := by decide +kernel
theorem d_Me_addNumber_32 : decode b_Me_addNumber 32 = .ok (.getfield 13, 3) := by decide +kernel
theorem d_Me_addNumber_35 : decode b_Me_addNumber 35 = .ok (.aload_n 0, 1) := by decide +kernel
theorem d_Me_addNumber_36 : decode b_Me_addNumber 36 = .ok (.getfield 26, 3) := by decide +kernel
theorem d_Me_addNumber_39 : decode b_Me_addNumber 39 = .ok (.iconst 1, 1) := by decide +kernel
theorem d_Me_addNumber_40 : decode b_Me_addNumber 40 = .ok (.iadd, 1) := by decide +kernel
theorem d_Me_addNumber_41 : decode b_Me_addNumber 41 = .ok (.sipush 8001, 3) := by decide +kernel
theorem d_Me_addNumber_44 : decode b_Me_addNumber 44 = .ok (.invokestatic 60, 3) := by decide +kernel
theorem d_Me_addNumber_47 : decode b_Me_addNumber 47 = .ok (.putfield 13, 3) := by decide +kernel
theorem d_Me_addNumber_50 : decode b_Me_addNumber 50 = .ok (.aload_n 0, 1) := by decide +kernel
theorem d_Me_addNumber_51 : decode b_Me_addNumber 51 = .ok (.aload_n 0, 1) := by decide +kernel
theorem d_Me_addNumber_52 : decode b_Me_addNumber 52 = .ok (.getfield 16, 3) := by decide +kernel
theorem d_Me_addNumber_55 : decode b_Me_addNumber 55 = .ok (.aload_n 0, 1) := by decide +kernel
theorem d_Me_addNumber_56 : decode b_Me_addNumber 56 = .ok (.getfield 26, 3) := by decide +kernel
theorem d_Me_addNumber_59 : decode b_Me_addNumber 59 = .ok (.iconst 1, 1) := by decide +kernel
theorem d_Me_addNumber_60 : decode b_Me_addNumber 60 = .ok (.iadd, 1) := by decide +kernel
theorem d_Me_addNumber_61 : decode b_Me_addNumber 61 = .ok (.sipush 8001, 3) := by decide +kernel
theorem d_Me_addNumber_64 : decode b_Me_addNumber 64 = .ok (.invokestatic 60, 3) := by decide +kernel
theorem d_Me_addNumber_67 : decode b_Me_addNumber 67 = .ok (.putfield 16, 3) := by decide +kernel
theorem d_Me_addNumber_70 : decode b_Me_addNumber 70 = .ok (.return_, 1) := by decide +kernel
theorem d_Me_dropGiven_0 : decode b_Me_dropGiven 0 = .ok (.iload_n 1, 1) := by decide +kernel
theorem d_Me_dropGiven_1 : decode b_Me_dropGiven 1 = .ok (.bipush 16, 2) := by decide +kernel
theorem d_Me_dropGiven_3 : decode b_Me_dropGiven 3 = .ok (.iushr, 1) := by decide +kernel
theorem d_Me_dropGiven_4 : decode b_Me_dropGiven 4 = .ok (.istore_n 2, 1) := by decide +kernel
theorem d_Me_dropGiven_5 : decode b_Me_dropGiven 5 = .ok (.iload_n 1, 1) := by decide +kernel
theorem d_Me_dropGiven_6 : decode b_Me_dropGiven 6 = .ok (.ldc 82, 2) := by decide +kernel
theorem d_Me_dropGiven_8 : decode b_Me_dropGiven 8 = .ok (.iand, 1) := by decide +kernel
theorem d_Me_dropGiven_9 : decode b_Me_dropGiven 9 = .ok (.ifCond .ne 21, 3) := by decide +kernel
theorem d_Me_dropGiven_12 : decode b_Me_dropGiven 12 = .ok (.aload_n 0, 1) := by decide +kernel
theorem d_Me_dropGiven_13 : decode b_Me_dropGiven 13 = .ok (.iload_n 2, 1) := by decide +kernel
theorem d_Me_dropGiven_14 : decode b_Me_dropGiven 14 = .ok (.invokevirtual 83, 3) := by decide +kernel
theorem d_Me_dropGiven_17 : decode b_Me_dropGiven 17 = .ok (.ifCond .eq 13, 3) := by decide +kernel
theorem d_Me_dropGiven_20 : decode b_Me_dropGiven 20 = .ok (.aload_n 0, 1) := by decide +kernel
theorem d_Me_dropGiven_21 : decode b_Me_dropGiven 21 = .ok (.getfield 16, 3) := by decide +kernel
theorem d_Me_dropGiven_24 : decode b_Me_dropGiven 24 = .ok (.iload_n 2, 1) := by decide +kernel
theorem d_Me_dropGiven_25 : decode b_Me_dropGiven 25 = .ok (.iaload, 1) := by decide +kernel
theorem d_Me_dropGiven_26 : decode b_Me_dropGiven 26 = .ok (.iconst (-1), 1) := by decide +kernel
theorem d_Me_dropGiven_27 : decode b_Me_dropGiven 27 = .ok (.if_icmp .eq 5, 3) := by decide +kernel
theorem d_Me_dropGiven_30 : decode b_Me_dropGiven 30 = .ok (.iconst 0, 1) := by decide +kernel
theorem d_Me_dropGiven_31 : decode b_Me_dropGiven 31 = .ok (.ireturn, 1) := by decide +kernel
theorem d_Me_dropGiven_32 : decode b_Me_dropGiven 32 = .ok (.aload_n 0, 1) := by decide +kernel
theorem d_Me_dropGiven_33 : decode b_Me_dropGiven 33 = .ok (.iload_n 2, 1) := by decide +kernel
theorem d_Me_dropGiven_34 : decode b_Me_dropGiven 34 = .ok (.invokevirtual 79, 3) := by decide +kernel
theorem d_Me_dropGiven_37 : decode b_Me_dropGiven 37 = .ok (.iconst 1, 1) := by decide +kernel
theorem d_Me_dropGiven_38 : decode b_Me_dropGiven 38 = .ok (.ireturn, 1) := by decide +kernel
theorem d_Me_dropLast_0 : decode b_Me_dropLast 0 = .ok (.iload_n 1, 1) := by decide +kernel
theorem d_Me_dropLast_1 : decode b_Me_dropLast 1 = .ok (.ifCond .lt 11, 3) := by decide +kernel
theorem d_Me_dropLast_4 : decode b_Me_dropLast 4 = .ok (.iload_n 1, 1) := by decide +kernel
theorem d_Me_dropLast_5 : decode b_Me_dropLast 5 = .ok (.aload_n 0, 1) := by decide +kernel
theorem d_Me_dropLast_6 : decode b_Me_dropLast 6 = .ok (.getfield 33, 3) := by decide +kernel
theorem d_Me_dropLast_9 : decode b_Me_dropLast 9 = .ok (.if_icmp .le 5, 3) := by decide +kernel
theorem d_Me_dropLast_12 : decode b_Me_dropLast 12 = .ok (.iconst 0, 1) := by decide +kernel
theorem d_Me_dropLast_13 : decode b_Me_dropLast 13 = .ok (.ireturn, 1) := by decide +kernel
theorem d_Me_dropLast_14 : decode b_Me_dropLast 14 = .ok (.iconst 0, 1) := by decide +kernel
theorem d_Me_dropLast_15 : decode b_Me_dropLast 15 = .ok (.istore_n 2, 1) := by decide +kernel
theorem d_Me_dropLast_16 : decode b_Me_dropLast 16 = .ok (.iload_n 2, 1) := by decide +kernel
theorem d_Me_dropLast_17 : decode b_Me_dropLast 17 = .ok (.iload_n 1, 1) := by decide +kernel
theorem d_Me_dropLast_18 : decode b_Me_dropLast 18 = .ok (.if_icmp .ge 30, 3) := by decide +kernel
theorem d_Me_dropLast_21 : decode b_Me_dropLast 21 = .ok (.aload_n 0, 1) := by decide +kernel
theorem d_Me_dropLast_22 : decode b_Me_dropLast 22 = .ok (.aload_n 0, 1) := by decide +kernel
theorem d_Me_dropLast_23 : decode b_Me_dropLast 23 = .ok (.getfield 36, 3) := by decide +kernel
theorem d_Me_dropLast_26 : decode b_Me_dropLast 26 = .ok (.invokevirtual 79, 3) := by decide +kernel
theorem d_Me_dropLast_29 : decode b_Me_dropLast 29 = .ok (.aload_n 0, 1) := by decide +kernel
theorem d_Me_dropLast_30 : decode b_Me_dropLast 30 = .ok (.aload_n 0, 1) := by decide +kernel
theorem d_Me_dropLast_31 : decode b_Me_dropLast 31 = .ok (.getfield 16, 3) := by decide +kernel
theorem d_Me_dropLast_34 : decode b_Me_dropLast 34 = .ok (.aload_n 0, 1) := by decide +kernel
theorem d_Me_dropLast_35 : decode b_Me_dropLast 35 = .ok (.getfield 36, 3) := by decide +kernel
theorem d_Me_dropLast_38 : decode b_Me_dropLast 38 = .ok (.iaload, 1) := by decide +kernel
theorem d_Me_dropLast_39 : decode b_Me_dropLast 39 = .ok (.putfield 36, 3) := by decide +kernel
theorem d_Me_dropLast_42 : decode b_Me_dropLast 42 = .ok (.iinc 2 1, 3) := by decide +kernel
theorem d_Me_dropLast_45 : decode b_Me_dropLast 45 = .ok (.goto (-29), 3) := by decide +kernel
theorem d_Me_dropLast_48 : decode b_Me_dropLast 48 = .ok (.aload_n 0, 1) := by decide +kernel
theorem d_Me_dropLast_49 : decode b_Me_dropLast 49 = .ok (.dup, 1) := by decide +kernel
theorem d_Me_dropLast_50 : decode b_Me_dropLast 50 = .ok (.getfield 33, 3) := by decide +kernel
theorem d_Me_dropLast_53 : decode b_Me_dropLast 53 = .ok (.iload_n 1, 1) := by decide +kernel
theorem d_Me_dropLast_54 : decode b_Me_dropLast 54 = .ok (.isub, 1) := by decide +kernel
theorem d_Me_dropLast_55 : decode b_Me_dropLast 55 = .ok (.putfield 33, 3) := by decide +kernel
theorem d_Me_dropLast_58 : decode b_Me_dropLast 58 = .ok (.iconst 1, 1) := by decide +kernel
theorem d_Me_dropLast_59 : decode b_Me_dropLast 59 = .ok (.ireturn, 1) := by decide +kernel

set_option maxHeartbeats 4000000 in
theorem c_Me_addNumber (l : Launch) (D : va_G) (cI cB cJ : ClassId) (sz : Nat) (h0 : Nat) (md : Nat) (bt : Nat) (lo : Nat) (nl : Nat) (sa : Nat) (ta : Nat) (fa : Nat) (pa : Nat) (pe : Nat) (ba : Nat) (rn : Nat) (sf : Nat → Int32) (tf : Nat → Int32) (uf : Nat → Int32) (hmd : md < 8000) (hmr : md < rn) (hrm : rn ≤ 8001) : zMet l y_Me_addNumber (zWs y_Me_addNumber b_Me_addNumber 1 (none)) { frames := 3, cells := 3 * wkc rn (md + 2), slots := 3 * wks rn (md + 2) 8001, locals := 104 } (zPc D (zT cI cB cJ) sz [(h0, .inr (1, [.int (nI md), .int (nI bt), .int (nI lo), .int (nI nl), .ref sa, .ref ta, .ref fa, .ref pa, .int (nI pe), .ref ba])), (sa, .inl (cI, rn, .inl (sf))), (ta, .inl (cI, rn, .inl (tf))), (fa, .inl (cI, rn, .inl (uf)))] [.ref h0]) (zQv D (va_A [(h0, .inr (1, [.int (nI md), .int (nI bt), .int (nI lo), .int (nI nl), .ref sa, .ref ta, .ref fa, .ref pa, .int (nI pe), .ref ba])), (sa, .inl (cI, rn, .inl (sf))), (ta, .inl (cI, rn, .inl (tf))), (fa, .inl (cI, rn, .inl (uf)))] sz) (fun (_ : (Nat × Nat × Nat)) => True) (fun _ => (3 * wkc rn (md + 2), 3 * wks rn (md + 2) 8001)) (fun (U : (Nat × Nat × Nat)) => [(h0, .inr (1, [.int (nI (md + 1)), .int (nI bt), .int (nI lo), .int (nI nl), .ref U.1, .ref U.2.1, .ref U.2.2, .ref pa, .int (nI pe), .ref ba])), (U.1, .inl (cI, (wdl rn (md + 2) 8001), .inl (wdf sf rn (md + 2)))), (U.2.1, .inl (cI, (wdl rn (md + 2) 8001), .inl (wdf tf rn (md + 2)))), (U.2.2, .inl (cI, (wdl rn (md + 2) 8001), .inl (wdf uf rn (md + 2))))])) (va_A [(h0, .inr (1, [.int (nI md), .int (nI bt), .int (nI lo), .int (nI nl), .ref sa, .ref ta, .ref fa, .ref pa, .int (nI pe), .ref ba])), (sa, .inl (cI, rn, .inl (sf))), (ta, .inl (cI, rn, .inl (tf))), (fa, .inl (cI, rn, .inl (uf)))] sz) := by
  refine zstart (Qc := fun A => zQv D A (fun (_ : (Nat × Nat × Nat)) => True) (fun _ => (3 * wkc rn (md + 2), 3 * wks rn (md + 2) 8001)) (fun (U : (Nat × Nat × Nat)) => [(h0, .inr (1, [.int (nI (md + 1)), .int (nI bt), .int (nI lo), .int (nI nl), .ref U.1, .ref U.2.1, .ref U.2.2, .ref pa, .int (nI pe), .ref ba])), (U.1, .inl (cI, (wdl rn (md + 2) 8001), .inl (wdf sf rn (md + 2)))), (U.2.1, .inl (cI, (wdl rn (md + 2) 8001), .inl (wdf tf rn (md + 2)))), (U.2.2, .inl (cI, (wdl rn (md + 2) 8001), .inl (wdf uf rn (md + 2))))])) (by decide) (Nat.le_of_ble_eq_true rfl) ?_
  intro p e s m below meth c ls A hE hr hlocks hin hsz hK hP hD hS hA hAe hl
  have hx := hE.1
  have hb := hE.2.1
  have hown := hE.2.2.2.1
  have hw := hE.2.2.2.2
  have hl : lv_has ls 1 [(0, .ref h0)] := hl
  refine lv_aload_n hx hb d_Me_addNumber_0 rfl (lv_at hl 0 rfl) ?_
  refine lv_dup hx hb d_Me_addNumber_1 rfl ?_
  refine zget hE hK hP 0 rfl fd_Me_26 rfl d_Me_addNumber_2 ?_
  refine lv_iconst (v := 1) hx hb d_Me_addNumber_5 (by decide) ?_
  refine lv_iadd hx hb d_Me_addNumber_6 ?_
  refine z_st (st' := [.int (nI (md + 1)), .ref h0]) (by rw [show (((nI md) + 1) : Int32) = nI (md + 1) from nI_1 md]) ?_
  refine zput (v := .int (nI (md + 1))) hE hK hP hD hS 0 rfl fd_Me_26 ft_Me_0 rfl rfl (Nat.le_of_ble_eq_true rfl) d_Me_addNumber_7 (fun H locs hP hD hS => ?_)
  have hP : va_P D zC [(h0, .inr (1, [.int (nI (md + 1)), .int (nI bt), .int (nI lo), .int (nI nl), .ref sa, .ref ta, .ref fa, .ref pa, .int (nI pe), .ref ba])), (sa, .inl (cI, rn, .inl (sf))), (ta, .inl (cI, rn, .inl (tf))), (fa, .inl (cI, rn, .inl (uf)))] _ := hP
  have hD : va_D A [(h0, .inr (1, [.int (nI (md + 1)), .int (nI bt), .int (nI lo), .int (nI nl), .ref sa, .ref ta, .ref fa, .ref pa, .int (nI pe), .ref ba])), (sa, .inl (cI, rn, .inl (sf))), (ta, .inl (cI, rn, .inl (tf))), (fa, .inl (cI, rn, .inl (uf)))] := hD
  refine lv_aload_n hx hb d_Me_addNumber_10 rfl (lv_at hl 0 rfl) ?_
  refine lv_aload_n hx hb d_Me_addNumber_11 rfl (lv_at hl 0 rfl) ?_
  refine zget hE hK hP 0 rfl fd_Me_9 rfl d_Me_addNumber_12 ?_
  refine lv_aload_n hx hb d_Me_addNumber_15 rfl (lv_at hl 0 rfl) ?_
  refine zget hE hK hP 0 rfl fd_Me_26 rfl d_Me_addNumber_16 ?_
  refine lv_iconst (v := 1) hx hb d_Me_addNumber_19 (by decide) ?_
  refine lv_iadd hx hb d_Me_addNumber_20 ?_
  refine z_st (st' := [.int (nI (md + 2)), .ref sa, .ref h0]) (by rw [show (((nI (md + 1)) + 1) : Int32) = nI (md + 2) from nI_1 (md + 1)]) ?_
  refine lv_sipush (v := 8001) hx hb d_Me_addNumber_21 (by decide) ?_
  refine zgor (wr := [(h0, .inr (1, [.int (nI (md + 1)), .int (nI bt), .int (nI lo), .int (nI nl), .ref sa, .ref ta, .ref fa, .ref pa, .int (nI pe), .ref ba])), (ta, .inl (cI, rn, .inl (tf))), (fa, .inl (cI, rn, .inl (uf)))]) (zrunS (n := 3) (As := [.ref sa, .int (nI (md + 2)), .int 8001]) (rest := [.ref h0]) hE (c_Rv_widened l D cI cB cJ _ sa (nI (md + 2)) 8001 rn sf (md + 2) 8001 rfl rfl (by omega) (by omega) (by omega)) cb_Rv_widened lk_Me_60 st_Rv_widened (zpreS hK hP hD [1] rfl rfl rfl) ⟨Nat.le_of_ble_eq_true rfl, Nat.le_of_ble_eq_true rfl, by show 0 + wkc rn (md + 2) ≤ 3 * wkc rn (md + 2); omega, by show 0 + wks rn (md + 2) 8001 ≤ 3 * wks rn (md + 2) 8001; omega⟩ rfl hl.1 rfl (Nat.le_of_ble_eq_true rfl) d_Me_addNumber_24) hP hD hS hA [1] [0, 2, 3] rfl rfl rfl (by decide) (fun r2 u3 H locs hq1 hP hD hS => ?_)
  subst hq1
  have hP : va_P D zC [(h0, .inr (1, [.int (nI (md + 1)), .int (nI bt), .int (nI lo), .int (nI nl), .ref sa, .ref ta, .ref fa, .ref pa, .int (nI pe), .ref ba])), (ta, .inl (cI, rn, .inl (tf))), (fa, .inl (cI, rn, .inl (uf))), (u3, .inl (cI, (wdl rn (md + 2) 8001), .inl (wdf sf rn (md + 2))))] _ := hP
  have hD : va_D A [(h0, .inr (1, [.int (nI (md + 1)), .int (nI bt), .int (nI lo), .int (nI nl), .ref sa, .ref ta, .ref fa, .ref pa, .int (nI pe), .ref ba])), (ta, .inl (cI, rn, .inl (tf))), (fa, .inl (cI, rn, .inl (uf))), (u3, .inl (cI, (wdl rn (md + 2) 8001), .inl (wdf sf rn (md + 2))))] := hD
  refine zput (v := .ref u3) hE hK hP hD hS 0 rfl fd_Me_9 ft_Me_4 rfl rfl (Nat.le_of_ble_eq_true rfl) d_Me_addNumber_27 (fun H locs hP hD hS => ?_)
  have hP : va_P D zC [(h0, .inr (1, [.int (nI (md + 1)), .int (nI bt), .int (nI lo), .int (nI nl), .ref u3, .ref ta, .ref fa, .ref pa, .int (nI pe), .ref ba])), (ta, .inl (cI, rn, .inl (tf))), (fa, .inl (cI, rn, .inl (uf))), (u3, .inl (cI, (wdl rn (md + 2) 8001), .inl (wdf sf rn (md + 2))))] _ := hP
  have hD : va_D A [(h0, .inr (1, [.int (nI (md + 1)), .int (nI bt), .int (nI lo), .int (nI nl), .ref u3, .ref ta, .ref fa, .ref pa, .int (nI pe), .ref ba])), (ta, .inl (cI, rn, .inl (tf))), (fa, .inl (cI, rn, .inl (uf))), (u3, .inl (cI, (wdl rn (md + 2) 8001), .inl (wdf sf rn (md + 2))))] := hD
  refine lv_aload_n hx hb d_Me_addNumber_30 rfl (lv_at hl 0 rfl) ?_
  refine lv_aload_n hx hb d_Me_addNumber_31 rfl (lv_at hl 0 rfl) ?_
  refine zget hE hK hP 0 rfl fd_Me_13 rfl d_Me_addNumber_32 ?_
  refine lv_aload_n hx hb d_Me_addNumber_35 rfl (lv_at hl 0 rfl) ?_
  refine zget hE hK hP 0 rfl fd_Me_26 rfl d_Me_addNumber_36 ?_
  refine lv_iconst (v := 1) hx hb d_Me_addNumber_39 (by decide) ?_
  refine lv_iadd hx hb d_Me_addNumber_40 ?_
  refine z_st (st' := [.int (nI (md + 2)), .ref ta, .ref h0]) (by rw [show (((nI (md + 1)) + 1) : Int32) = nI (md + 2) from nI_1 (md + 1)]) ?_
  refine lv_sipush (v := 8001) hx hb d_Me_addNumber_41 (by decide) ?_
  refine zgor (wr := [(h0, .inr (1, [.int (nI (md + 1)), .int (nI bt), .int (nI lo), .int (nI nl), .ref u3, .ref ta, .ref fa, .ref pa, .int (nI pe), .ref ba])), (fa, .inl (cI, rn, .inl (uf))), (u3, .inl (cI, (wdl rn (md + 2) 8001), .inl (wdf sf rn (md + 2))))]) (zrunS (n := 3) (As := [.ref ta, .int (nI (md + 2)), .int 8001]) (rest := [.ref h0]) hE (c_Rv_widened l D cI cB cJ _ ta (nI (md + 2)) 8001 rn tf (md + 2) 8001 rfl rfl (by omega) (by omega) (by omega)) cb_Rv_widened lk_Me_60 st_Rv_widened (zpreS hK hP hD [1] rfl rfl rfl) ⟨Nat.le_of_ble_eq_true rfl, Nat.le_of_ble_eq_true rfl, by show 0 + wkc rn (md + 2) + wkc rn (md + 2) ≤ 3 * wkc rn (md + 2); omega, by show 0 + wks rn (md + 2) 8001 + wks rn (md + 2) 8001 ≤ 3 * wks rn (md + 2) 8001; omega⟩ rfl hl.1 rfl (Nat.le_of_ble_eq_true rfl) d_Me_addNumber_44) hP hD hS hA [1] [0, 2, 3] rfl rfl rfl (by decide) (fun r5 u6 H locs hq4 hP hD hS => ?_)
  subst hq4
  have hP : va_P D zC [(h0, .inr (1, [.int (nI (md + 1)), .int (nI bt), .int (nI lo), .int (nI nl), .ref u3, .ref ta, .ref fa, .ref pa, .int (nI pe), .ref ba])), (fa, .inl (cI, rn, .inl (uf))), (u3, .inl (cI, (wdl rn (md + 2) 8001), .inl (wdf sf rn (md + 2)))), (u6, .inl (cI, (wdl rn (md + 2) 8001), .inl (wdf tf rn (md + 2))))] _ := hP
  have hD : va_D A [(h0, .inr (1, [.int (nI (md + 1)), .int (nI bt), .int (nI lo), .int (nI nl), .ref u3, .ref ta, .ref fa, .ref pa, .int (nI pe), .ref ba])), (fa, .inl (cI, rn, .inl (uf))), (u3, .inl (cI, (wdl rn (md + 2) 8001), .inl (wdf sf rn (md + 2)))), (u6, .inl (cI, (wdl rn (md + 2) 8001), .inl (wdf tf rn (md + 2))))] := hD
  refine zput (v := .ref u6) hE hK hP hD hS 0 rfl fd_Me_13 ft_Me_5 rfl rfl (Nat.le_of_ble_eq_true rfl) d_Me_addNumber_47 (fun H locs hP hD hS => ?_)
  have hP : va_P D zC [(h0, .inr (1, [.int (nI (md + 1)), .int (nI bt), .int (nI lo), .int (nI nl), .ref u3, .ref u6, .ref fa, .ref pa, .int (nI pe), .ref ba])), (fa, .inl (cI, rn, .inl (uf))), (u3, .inl (cI, (wdl rn (md + 2) 8001), .inl (wdf sf rn (md + 2)))), (u6, .inl (cI, (wdl rn (md + 2) 8001), .inl (wdf tf rn (md + 2))))] _ := hP
  have hD : va_D A [(h0, .inr (1, [.int (nI (md + 1)), .int (nI bt), .int (nI lo), .int (nI nl), .ref u3, .ref u6, .ref fa, .ref pa, .int (nI pe), .ref ba])), (fa, .inl (cI, rn, .inl (uf))), (u3, .inl (cI, (wdl rn (md + 2) 8001), .inl (wdf sf rn (md + 2)))), (u6, .inl (cI, (wdl rn (md + 2) 8001), .inl (wdf tf rn (md + 2))))] := hD
  refine lv_aload_n hx hb d_Me_addNumber_50 rfl (lv_at hl 0 rfl) ?_
  refine lv_aload_n hx hb d_Me_addNumber_51 rfl (lv_at hl 0 rfl) ?_
  refine zget hE hK hP 0 rfl fd_Me_16 rfl d_Me_addNumber_52 ?_
  refine lv_aload_n hx hb d_Me_addNumber_55 rfl (lv_at hl 0 rfl) ?_
  refine zget hE hK hP 0 rfl fd_Me_26 rfl d_Me_addNumber_56 ?_
  refine lv_iconst (v := 1) hx hb d_Me_addNumber_59 (by decide) ?_
  refine lv_iadd hx hb d_Me_addNumber_60 ?_
  refine z_st (st' := [.int (nI (md + 2)), .ref fa, .ref h0]) (by rw [show (((nI (md + 1)) + 1) : Int32) = nI (md + 2) from nI_1 (md + 1)]) ?_
  refine lv_sipush (v := 8001) hx hb d_Me_addNumber_61 (by decide) ?_
  refine zgor (wr := [(h0, .inr (1, [.int (nI (md + 1)), .int (nI bt), .int (nI lo), .int (nI nl), .ref u3, .ref u6, .ref fa, .ref pa, .int (nI pe), .ref ba])), (u3, .inl (cI, (wdl rn (md + 2) 8001), .inl (wdf sf rn (md + 2)))), (u6, .inl (cI, (wdl rn (md + 2) 8001), .inl (wdf tf rn (md + 2))))]) (zrunS (n := 3) (As := [.ref fa, .int (nI (md + 2)), .int 8001]) (rest := [.ref h0]) hE (c_Rv_widened l D cI cB cJ _ fa (nI (md + 2)) 8001 rn uf (md + 2) 8001 rfl rfl (by omega) (by omega) (by omega)) cb_Rv_widened lk_Me_60 st_Rv_widened (zpreS hK hP hD [1] rfl rfl rfl) ⟨Nat.le_of_ble_eq_true rfl, Nat.le_of_ble_eq_true rfl, by show 0 + wkc rn (md + 2) + wkc rn (md + 2) + wkc rn (md + 2) ≤ 3 * wkc rn (md + 2); omega, by show 0 + wks rn (md + 2) 8001 + wks rn (md + 2) 8001 + wks rn (md + 2) 8001 ≤ 3 * wks rn (md + 2) 8001; omega⟩ rfl hl.1 rfl (Nat.le_of_ble_eq_true rfl) d_Me_addNumber_64) hP hD hS hA [1] [0, 2, 3] rfl rfl rfl (by decide) (fun r8 u9 H locs hq7 hP hD hS => ?_)
  subst hq7
  have hP : va_P D zC [(h0, .inr (1, [.int (nI (md + 1)), .int (nI bt), .int (nI lo), .int (nI nl), .ref u3, .ref u6, .ref fa, .ref pa, .int (nI pe), .ref ba])), (u3, .inl (cI, (wdl rn (md + 2) 8001), .inl (wdf sf rn (md + 2)))), (u6, .inl (cI, (wdl rn (md + 2) 8001), .inl (wdf tf rn (md + 2)))), (u9, .inl (cI, (wdl rn (md + 2) 8001), .inl (wdf uf rn (md + 2))))] _ := hP
  have hD : va_D A [(h0, .inr (1, [.int (nI (md + 1)), .int (nI bt), .int (nI lo), .int (nI nl), .ref u3, .ref u6, .ref fa, .ref pa, .int (nI pe), .ref ba])), (u3, .inl (cI, (wdl rn (md + 2) 8001), .inl (wdf sf rn (md + 2)))), (u6, .inl (cI, (wdl rn (md + 2) 8001), .inl (wdf tf rn (md + 2)))), (u9, .inl (cI, (wdl rn (md + 2) 8001), .inl (wdf uf rn (md + 2))))] := hD
  refine zput (v := .ref u9) hE hK hP hD hS 0 rfl fd_Me_16 ft_Me_6 rfl rfl (Nat.le_of_ble_eq_true rfl) d_Me_addNumber_67 (fun H locs hP hD hS => ?_)
  have hP : va_P D zC [(h0, .inr (1, [.int (nI (md + 1)), .int (nI bt), .int (nI lo), .int (nI nl), .ref u3, .ref u6, .ref u9, .ref pa, .int (nI pe), .ref ba])), (u3, .inl (cI, (wdl rn (md + 2) 8001), .inl (wdf sf rn (md + 2)))), (u6, .inl (cI, (wdl rn (md + 2) 8001), .inl (wdf tf rn (md + 2)))), (u9, .inl (cI, (wdl rn (md + 2) 8001), .inl (wdf uf rn (md + 2))))] _ := hP
  have hD : va_D A [(h0, .inr (1, [.int (nI (md + 1)), .int (nI bt), .int (nI lo), .int (nI nl), .ref u3, .ref u6, .ref u9, .ref pa, .int (nI pe), .ref ba])), (u3, .inl (cI, (wdl rn (md + 2) 8001), .inl (wdf sf rn (md + 2)))), (u6, .inl (cI, (wdl rn (md + 2) 8001), .inl (wdf tf rn (md + 2)))), (u9, .inl (cI, (wdl rn (md + 2) 8001), .inl (wdf uf rn (md + 2))))] := hD
  have hP9 := hP.sub (ws' := [(h0, .inr (1, [.int (nI (md + 1)), .int (nI bt), .int (nI lo), .int (nI nl), .ref u3, .ref u6, .ref u9, .ref pa, .int (nI pe), .ref ba])), (u3, .inl (cI, (wdl rn (md + 2) 8001), .inl (wdf sf rn (md + 2)))), (u6, .inl (cI, (wdl rn (md + 2) 8001), .inl (wdf tf rn (md + 2)))), (u9, .inl (cI, (wdl rn (md + 2) 8001), .inl (wdf uf rn (md + 2))))]) [0, 1, 2, 3] rfl
  have hD9 := hD.sub (ws' := [(h0, .inr (1, [.int (nI (md + 1)), .int (nI bt), .int (nI lo), .int (nI nl), .ref u3, .ref u6, .ref u9, .ref pa, .int (nI pe), .ref ba])), (u3, .inl (cI, (wdl rn (md + 2) 8001), .inl (wdf sf rn (md + 2)))), (u6, .inl (cI, (wdl rn (md + 2) 8001), .inl (wdf tf rn (md + 2)))), (u9, .inl (cI, (wdl rn (md + 2) 8001), .inl (wdf uf rn (md + 2))))]) [0, 1, 2, 3] rfl rfl
  exact zretv hx hb hr hlocks hS (u3, u6, u9) trivial (Prod.ext (by show 3 * wkc rn (md + 2) = 0 + wkc rn (md + 2) + wkc rn (md + 2) + wkc rn (md + 2); omega) (by show 3 * wks rn (md + 2) 8001 = 0 + wks rn (md + 2) 8001 + wks rn (md + 2) 8001 + wks rn (md + 2) 8001; omega)) hP9 hD9 d_Me_addNumber_70

set_option maxHeartbeats 4000000 in
theorem c_Me_dropGiven (l : Launch) (D : va_G) (cI cB cJ : ClassId) (sz : Nat) (ad : Int32) (h0 : Nat) (md : Nat) (bt : Nat) (lo : Nat) (nl : Nat) (sa : Nat) (ta : Nat) (fa : Nat) (pa : Nat) (pe : Nat) (ba : Nat) (rn : Nat) (sf : Nat → Int32) (tf : Nat → Int32) (uf : Nat → Int32) (M : MM) (pn : Nat) (pf : Nat → Int32) (hR : cRep M md bt nl pe rn pn sf tf uf pf) : zMet l y_Me_dropGiven (zWs y_Me_dropGiven b_Me_dropGiven 3 (some .boolean)) { frames := 2, cells := 0, slots := 0, locals := 42 } (zPc D (zT cI cB cJ) sz [(h0, .inr (1, [.int (nI md), .int (nI bt), .int (nI lo), .int (nI nl), .ref sa, .ref ta, .ref fa, .ref pa, .int (nI pe), .ref ba])), (sa, .inl (cI, rn, .inl (sf))), (ta, .inl (cI, rn, .inl (tf))), (fa, .inl (cI, rn, .inl (uf)))] [.ref h0, .int ad]) (zQi D (va_A [(h0, .inr (1, [.int (nI md), .int (nI bt), .int (nI lo), .int (nI nl), .ref sa, .ref ta, .ref fa, .ref pa, .int (nI pe), .ref ba])), (sa, .inl (cI, rn, .inl (sf))), (ta, .inl (cI, rn, .inl (tf))), (fa, .inl (cI, rn, .inl (uf)))] sz) (fun r (U : (Nat × Nat × (Nat → Int32))) => r = (if (mDropG M ad).isSome = true then 1 else 0) ∧ cRep ((mDropG M ad).getD M) md U.1 nl U.2.1 rn pn U.2.2 tf uf pf) (fun _ => (0, 0)) (fun (U : (Nat × Nat × (Nat → Int32))) => [(h0, .inr (1, [.int (nI md), .int (nI U.1), .int (nI lo), .int (nI nl), .ref sa, .ref ta, .ref fa, .ref pa, .int (nI U.2.1), .ref ba])), (sa, .inl (cI, rn, .inl (U.2.2))), (ta, .inl (cI, rn, .inl (tf))), (fa, .inl (cI, rn, .inl (uf)))])) (va_A [(h0, .inr (1, [.int (nI md), .int (nI bt), .int (nI lo), .int (nI nl), .ref sa, .ref ta, .ref fa, .ref pa, .int (nI pe), .ref ba])), (sa, .inl (cI, rn, .inl (sf))), (ta, .inl (cI, rn, .inl (tf))), (fa, .inl (cI, rn, .inl (uf)))] sz) := by
  refine zstart (Qc := fun A => zQi D A (fun r (U : (Nat × Nat × (Nat → Int32))) => r = (if (mDropG M ad).isSome = true then 1 else 0) ∧ cRep ((mDropG M ad).getD M) md U.1 nl U.2.1 rn pn U.2.2 tf uf pf) (fun _ => (0, 0)) (fun (U : (Nat × Nat × (Nat → Int32))) => [(h0, .inr (1, [.int (nI md), .int (nI U.1), .int (nI lo), .int (nI nl), .ref sa, .ref ta, .ref fa, .ref pa, .int (nI U.2.1), .ref ba])), (sa, .inl (cI, rn, .inl (U.2.2))), (ta, .inl (cI, rn, .inl (tf))), (fa, .inl (cI, rn, .inl (uf)))])) (by decide) (Nat.le_of_ble_eq_true rfl) ?_
  intro p e s m below meth c ls A hE hr hlocks hin hsz hK hP hD hS hA hAe hl
  have hx := hE.1
  have hb := hE.2.1
  have hown := hE.2.2.2.1
  have hw := hE.2.2.2.2
  have hl : lv_has ls 3 [(0, .ref h0), (1, .int ad)] := hl
  refine lv_iload_n hx hb d_Me_dropGiven_0 rfl (lv_at hl 1 rfl) ?_
  refine lv_bipush (v := 16) hx hb d_Me_dropGiven_1 (by decide) ?_
  refine lv_iushr (v := zushr ad 16) hx hb d_Me_dropGiven_3 rfl ?_
  refine lv_istore_n (lv' := [(2, .int (zushr ad 16)), (0, .ref h0), (1, .int ad)]) hx hb d_Me_dropGiven_4 rfl hl (by decide) rfl (fun ls hl => ?_)
  refine lv_iload_n hx hb d_Me_dropGiven_5 rfl (lv_at hl 2 rfl) ?_
  refine lv_ldc (v := 65535) hx hb hown (hw _ kc_Me_82) d_Me_dropGiven_6 ?_
  refine lv_iand hx hb d_Me_dropGiven_8 ?_
  refine lv_if_ne (tgt := 30) hx hb d_Me_dropGiven_9 (by decide) (fun h1 => ?_) (fun h1 => ?_)
  · have hnone : mDropG M ad = none := if_neg (fun q => h1 ((z_a16 ad).trans (by rw [q.1]; exact nI_0)))
    refine lv_iconst (v := 0) hx hb d_Me_dropGiven_30 (by decide) ?_
    have hP9 := hP.sub (ws' := [(h0, .inr (1, [.int (nI md), .int (nI bt), .int (nI lo), .int (nI nl), .ref sa, .ref ta, .ref fa, .ref pa, .int (nI pe), .ref ba])), (sa, .inl (cI, rn, .inl (sf))), (ta, .inl (cI, rn, .inl (tf))), (fa, .inl (cI, rn, .inl (uf)))]) [0, 1, 2, 3] rfl
    have hD9 := hD.sub (ws' := [(h0, .inr (1, [.int (nI md), .int (nI bt), .int (nI lo), .int (nI nl), .ref sa, .ref ta, .ref fa, .ref pa, .int (nI pe), .ref ba])), (sa, .inl (cI, rn, .inl (sf))), (ta, .inl (cI, rn, .inl (tf))), (fa, .inl (cI, rn, .inl (uf)))]) [0, 1, 2, 3] rfl rfl
    exact zreti hx hb hr rfl hlocks hS (bt, pe, sf) ⟨by rw [hnone]; rfl, by rw [hnone]; exact hR⟩ rfl hP9 hD9 d_Me_dropGiven_31
  · have ha0 : zN ad % 65536 = 0 := z_e0 (by omega) ((z_a16 ad).symm.trans h1)
    refine lv_aload_n hx hb d_Me_dropGiven_12 rfl (lv_at hl 1 rfl) ?_
    refine lv_iload_n hx hb d_Me_dropGiven_13 rfl (lv_at hl 0 rfl) ?_
    refine z_st (st' := [.int (nI (zN ad / 65536)), .ref h0]) (by rw [show ((zushr ad 16) : Int32) = nI (zN ad / 65536) from z_u16 ad]) ?_
    refine zgoi (wr := [(ta, .inl (cI, rn, .inl (tf))), (fa, .inl (cI, rn, .inl (uf)))]) (zrunV (n := 1) (As := [.int (nI (zN ad / 65536))]) (rest := []) hE (c_Me_isThere l D cI cB cJ _ (nI (zN ad / 65536)) h0 md bt lo nl sa ta fa pa pe ba rn sf hR.2.2.2.2.1 hR.2.2.2.2.2.1) cb_Me_isThere lk_Me_83 in_Me_isThere se_Me_isThere (zpreV (q0 := 0) hK hP hD rfl rfl rfl [0, 1] rfl rfl rfl) ⟨Nat.le_of_ble_eq_true rfl, Nat.le_of_ble_eq_true rfl, Nat.le_of_ble_eq_true rfl, Nat.le_of_ble_eq_true rfl⟩ rfl hl.1 rfl (Nat.le_of_ble_eq_true rfl) d_Me_dropGiven_14) hP hD hS hA [0, 1] [2, 3] rfl rfl rfl (by decide) (fun r3 u4 H locs hq2 hP hD hS => ?_)
    subst hq2
    have hP : va_P D zC [(ta, .inl (cI, rn, .inl (tf))), (fa, .inl (cI, rn, .inl (uf))), (h0, .inr (1, [.int (nI md), .int (nI bt), .int (nI lo), .int (nI nl), .ref sa, .ref ta, .ref fa, .ref pa, .int (nI pe), .ref ba])), (sa, .inl (cI, rn, .inl (sf)))] _ := hP
    have hD : va_D A [(ta, .inl (cI, rn, .inl (tf))), (fa, .inl (cI, rn, .inl (uf))), (h0, .inr (1, [.int (nI md), .int (nI bt), .int (nI lo), .int (nI nl), .ref sa, .ref ta, .ref fa, .ref pa, .int (nI pe), .ref ba])), (sa, .inl (cI, rn, .inl (sf)))] := hD
    refine z_st (st' := [.int ((if (mSz M (zN ad / 65536)).isSome = true then 1 else 0))]) (by rw [show (((sp_Me_isThere (nI (zN ad / 65536)) md sf)) : Int32) = (if (mSz M (zN ad / 65536)).isSome = true then 1 else 0) from cRep_there hR (by have := zN_lt ad; omega)]) ?_
    refine lv_if_eq (tgt := 30) hx hb d_Me_dropGiven_17 (by decide) (fun h5 => ?_) (fun h5 => ?_)
    · have hnone : mDropG M ad = none := if_neg (fun q => z_ite1 h5 q.2.1)
      refine lv_iconst (v := 0) hx hb d_Me_dropGiven_30 (by decide) ?_
      have hP9 := hP.sub (ws' := [(h0, .inr (1, [.int (nI md), .int (nI bt), .int (nI lo), .int (nI nl), .ref sa, .ref ta, .ref fa, .ref pa, .int (nI pe), .ref ba])), (sa, .inl (cI, rn, .inl (sf))), (ta, .inl (cI, rn, .inl (tf))), (fa, .inl (cI, rn, .inl (uf)))]) [2, 3, 0, 1] rfl
      have hD9 := hD.sub (ws' := [(h0, .inr (1, [.int (nI md), .int (nI bt), .int (nI lo), .int (nI nl), .ref sa, .ref ta, .ref fa, .ref pa, .int (nI pe), .ref ba])), (sa, .inl (cI, rn, .inl (sf))), (ta, .inl (cI, rn, .inl (tf))), (fa, .inl (cI, rn, .inl (uf)))]) [2, 3, 0, 1] rfl rfl
      exact zreti hx hb hr rfl hlocks hS (bt, pe, sf) ⟨by rw [hnone]; rfl, by rw [hnone]; exact hR⟩ rfl hP9 hD9 d_Me_dropGiven_31
    · have hsome : (mSz M (zN ad / 65536)).isSome = true := z_ite0 h5
      obtain ⟨zz, hz⟩ := Option.isSome_iff_exists.mp hsome
      obtain ⟨a1, a2, a3, a4, ⟨qq, a5, a6, a7, a8⟩, a9, a10, a11⟩ := cRep_at hR hz
      refine lv_aload_n hx hb d_Me_dropGiven_20 rfl (lv_at hl 1 rfl) ?_
      refine zget hE hK hP 2 rfl fd_Me_16 rfl d_Me_dropGiven_21 ?_
      refine lv_iload_n hx hb d_Me_dropGiven_24 rfl (lv_at hl 0 rfl) ?_
      refine va_iald hx hb hK hP 1 0 rfl rfl (by rw [z_u16]; exact vp_in_nI a1 (by omega)) d_Me_dropGiven_25 ?_
      refine z_st (st' := [.int (uf (zN ad / 65536))]) (by rw [show ((uf (zushr ad 16).toNatClampNeg) : Int32) = uf (zN ad / 65536) from by rw [z_u16, nI_clamp (by omega)]]) ?_
      refine lv_iconst (v := (-1)) hx hb d_Me_dropGiven_26 (by decide) ?_
      refine lv_icmp_eq (tgt := 32) hx hb d_Me_dropGiven_27 (by decide) (fun h6 => ?_) (fun h6 => ?_)
      · have hsm : mDropG M ad = some (mGone M (zN ad / 65536)) := if_pos ⟨ha0, hsome, (cRep_gv hR hz).mp h6⟩
        refine lv_aload_n hx hb d_Me_dropGiven_32 rfl (lv_at hl 1 rfl) ?_
        refine lv_iload_n hx hb d_Me_dropGiven_33 rfl (lv_at hl 0 rfl) ?_
        refine z_st (st' := [.int (nI (zN ad / 65536)), .ref h0]) (by rw [show ((zushr ad 16) : Int32) = nI (zN ad / 65536) from z_u16 ad]) ?_
        refine zgov (wr := [(fa, .inl (cI, rn, .inl (uf)))]) (zrunV (n := 1) (As := [.int (nI (zN ad / 65536))]) (rest := []) hE (c_Me_drop l D cI cB cJ _ (nI (zN ad / 65536)) h0 md bt lo nl sa ta fa pa pe ba rn sf tf (zN ad / 65536) zz qq rfl a1 a2 a3 a4 a5 a6 a9 a10 a11) cb_Me_drop lk_Me_79 in_Me_drop se_Me_drop (zpreV (q0 := 2) hK hP hD rfl rfl rfl [2, 3, 0] rfl rfl rfl) ⟨Nat.le_of_ble_eq_true rfl, Nat.le_of_ble_eq_true rfl, Nat.le_of_ble_eq_true rfl, Nat.le_of_ble_eq_true rfl⟩ rfl hl.1 rfl (Nat.le_of_ble_eq_true rfl) d_Me_dropGiven_34) hP hD hS hA [2, 3, 0] [1] rfl rfl rfl (by decide) (fun u9 H locs hq7 hP hD hS => ?_)
        clear hq7
        have hP : va_P D zC [(fa, .inl (cI, rn, .inl (uf))), (h0, .inr (1, [.int (nI md), .int (nI (bt - up4 zz)), .int (nI lo), .int (nI nl), .ref sa, .ref ta, .ref fa, .ref pa, .int (nI (if qq + up4 zz = pe then qq else pe)), .ref ba])), (sa, .inl (cI, rn, .inl (upd sf (zN ad / 65536) (-1)))), (ta, .inl (cI, rn, .inl (tf)))] _ := hP
        have hD : va_D A [(fa, .inl (cI, rn, .inl (uf))), (h0, .inr (1, [.int (nI md), .int (nI (bt - up4 zz)), .int (nI lo), .int (nI nl), .ref sa, .ref ta, .ref fa, .ref pa, .int (nI (if qq + up4 zz = pe then qq else pe)), .ref ba])), (sa, .inl (cI, rn, .inl (upd sf (zN ad / 65536) (-1)))), (ta, .inl (cI, rn, .inl (tf)))] := hD
        refine lv_iconst (v := 1) hx hb d_Me_dropGiven_37 (by decide) ?_
        have hP9 := hP.sub (ws' := [(h0, .inr (1, [.int (nI md), .int (nI (bt - up4 zz)), .int (nI lo), .int (nI nl), .ref sa, .ref ta, .ref fa, .ref pa, .int (nI (if qq + up4 zz = pe then qq else pe)), .ref ba])), (sa, .inl (cI, rn, .inl (upd sf (zN ad / 65536) (-1)))), (ta, .inl (cI, rn, .inl (tf))), (fa, .inl (cI, rn, .inl (uf)))]) [1, 2, 3, 0] rfl
        have hD9 := hD.sub (ws' := [(h0, .inr (1, [.int (nI md), .int (nI (bt - up4 zz)), .int (nI lo), .int (nI nl), .ref sa, .ref ta, .ref fa, .ref pa, .int (nI (if qq + up4 zz = pe then qq else pe)), .ref ba])), (sa, .inl (cI, rn, .inl (upd sf (zN ad / 65536) (-1)))), (ta, .inl (cI, rn, .inl (tf))), (fa, .inl (cI, rn, .inl (uf)))]) [1, 2, 3, 0] rfl rfl
        exact zreti hx hb hr rfl hlocks hS (bt - up4 zz, (if qq + up4 zz = pe then qq else pe), upd sf (zN ad / 65536) (-1)) ⟨by rw [hsm]; rfl, by rw [hsm]; exact cRep_given hR hz ((cRep_gv hR hz).mp h6) a5 a6⟩ rfl hP9 hD9 d_Me_dropGiven_38
      · have hnone : mDropG M ad = none := if_neg (fun q => h6 ((cRep_gv hR hz).mpr q.2.2))
        refine lv_iconst (v := 0) hx hb d_Me_dropGiven_30 (by decide) ?_
        have hP9 := hP.sub (ws' := [(h0, .inr (1, [.int (nI md), .int (nI bt), .int (nI lo), .int (nI nl), .ref sa, .ref ta, .ref fa, .ref pa, .int (nI pe), .ref ba])), (sa, .inl (cI, rn, .inl (sf))), (ta, .inl (cI, rn, .inl (tf))), (fa, .inl (cI, rn, .inl (uf)))]) [2, 3, 0, 1] rfl
        have hD9 := hD.sub (ws' := [(h0, .inr (1, [.int (nI md), .int (nI bt), .int (nI lo), .int (nI nl), .ref sa, .ref ta, .ref fa, .ref pa, .int (nI pe), .ref ba])), (sa, .inl (cI, rn, .inl (sf))), (ta, .inl (cI, rn, .inl (tf))), (fa, .inl (cI, rn, .inl (uf)))]) [2, 3, 0, 1] rfl rfl
        exact zreti hx hb hr rfl hlocks hS (bt, pe, sf) ⟨by rw [hnone]; rfl, by rw [hnone]; exact hR⟩ rfl hP9 hD9 d_Me_dropGiven_31

set_option maxHeartbeats 4000000 in
theorem c_Me_dropLast (l : Launch) (D : va_G) (cI cB cJ : ClassId) (sz : Nat) (n0 : Int32) (h0 : Nat) (md : Nat) (bt : Nat) (lo : Nat) (nl : Nat) (sa : Nat) (ta : Nat) (fa : Nat) (pa : Nat) (pe : Nat) (ba : Nat) (rn : Nat) (sf : Nat → Int32) (tf : Nat → Int32) (uf : Nat → Int32) (M : MM) (pn : Nat) (pf : Nat → Int32) (hR : cRep M md bt nl pe rn pn sf tf uf pf) (hlo : lo = (mLs M).length) : zMet l y_Me_dropLast (zWs y_Me_dropLast b_Me_dropLast 3 (some .boolean)) { frames := 2, cells := 0, slots := 0, locals := 42 } (zPc D (zT cI cB cJ) sz [(h0, .inr (1, [.int (nI md), .int (nI bt), .int (nI lo), .int (nI nl), .ref sa, .ref ta, .ref fa, .ref pa, .int (nI pe), .ref ba])), (sa, .inl (cI, rn, .inl (sf))), (ta, .inl (cI, rn, .inl (tf))), (fa, .inl (cI, rn, .inl (uf)))] [.ref h0, .int n0]) (zQi D (va_A [(h0, .inr (1, [.int (nI md), .int (nI bt), .int (nI lo), .int (nI nl), .ref sa, .ref ta, .ref fa, .ref pa, .int (nI pe), .ref ba])), (sa, .inl (cI, rn, .inl (sf))), (ta, .inl (cI, rn, .inl (tf))), (fa, .inl (cI, rn, .inl (uf)))] sz) (fun r (U : (Nat × Nat × Nat × Nat × (Nat → Int32))) => r = (if (mDropL M n0).isSome = true then 1 else 0) ∧ cRep ((mDropL M n0).getD M) md U.1 U.2.1 U.2.2.1 rn pn U.2.2.2.2 tf uf pf ∧ U.2.2.2.1 = (mLs ((mDropL M n0).getD M)).length) (fun _ => (0, 0)) (fun (U : (Nat × Nat × Nat × Nat × (Nat → Int32))) => [(h0, .inr (1, [.int (nI md), .int (nI U.1), .int (nI U.2.2.2.1), .int (nI U.2.1), .ref sa, .ref ta, .ref fa, .ref pa, .int (nI U.2.2.1), .ref ba])), (sa, .inl (cI, rn, .inl (U.2.2.2.2))), (ta, .inl (cI, rn, .inl (tf))), (fa, .inl (cI, rn, .inl (uf)))])) (va_A [(h0, .inr (1, [.int (nI md), .int (nI bt), .int (nI lo), .int (nI nl), .ref sa, .ref ta, .ref fa, .ref pa, .int (nI pe), .ref ba])), (sa, .inl (cI, rn, .inl (sf))), (ta, .inl (cI, rn, .inl (tf))), (fa, .inl (cI, rn, .inl (uf)))] sz) := by
  refine zstart (Qc := fun A => zQi D A (fun r (U : (Nat × Nat × Nat × Nat × (Nat → Int32))) => r = (if (mDropL M n0).isSome = true then 1 else 0) ∧ cRep ((mDropL M n0).getD M) md U.1 U.2.1 U.2.2.1 rn pn U.2.2.2.2 tf uf pf ∧ U.2.2.2.1 = (mLs ((mDropL M n0).getD M)).length) (fun _ => (0, 0)) (fun (U : (Nat × Nat × Nat × Nat × (Nat → Int32))) => [(h0, .inr (1, [.int (nI md), .int (nI U.1), .int (nI U.2.2.2.1), .int (nI U.2.1), .ref sa, .ref ta, .ref fa, .ref pa, .int (nI U.2.2.1), .ref ba])), (sa, .inl (cI, rn, .inl (U.2.2.2.2))), (ta, .inl (cI, rn, .inl (tf))), (fa, .inl (cI, rn, .inl (uf)))])) (by decide) (Nat.le_of_ble_eq_true rfl) ?_
  intro p e s m below meth c ls A hE hr hlocks hin hsz hK hP hD hS hA hAe hl
  have hx := hE.1
  have hb := hE.2.1
  have hown := hE.2.2.2.1
  have hw := hE.2.2.2.2
  have hl : lv_has ls 3 [(0, .ref h0), (1, .int n0)] := hl
  have hlo8 : lo ≤ 8000 := by have q1 := hR.1.2.2.2.2.1; have q2 := hR.1.1; omega
  refine lv_iload_n hx hb d_Me_dropLast_0 rfl (lv_at hl 1 rfl) ?_
  refine lv_if_lt (tgt := 12) hx hb d_Me_dropLast_1 (by decide) (fun h1 => ?_) (fun h1 => ?_)
  · have hnone : mDropL M n0 = none := if_neg (fun q => by have q1 := z_lt h1; have k0 : ((0) : Int32).toInt = 0 := (by decide); omega)
    refine lv_iconst (v := 0) hx hb d_Me_dropLast_12 (by decide) ?_
    have hP9 := hP.sub (ws' := [(h0, .inr (1, [.int (nI md), .int (nI bt), .int (nI lo), .int (nI nl), .ref sa, .ref ta, .ref fa, .ref pa, .int (nI pe), .ref ba])), (sa, .inl (cI, rn, .inl (sf))), (ta, .inl (cI, rn, .inl (tf))), (fa, .inl (cI, rn, .inl (uf)))]) [0, 1, 2, 3] rfl
    have hD9 := hD.sub (ws' := [(h0, .inr (1, [.int (nI md), .int (nI bt), .int (nI lo), .int (nI nl), .ref sa, .ref ta, .ref fa, .ref pa, .int (nI pe), .ref ba])), (sa, .inl (cI, rn, .inl (sf))), (ta, .inl (cI, rn, .inl (tf))), (fa, .inl (cI, rn, .inl (uf)))]) [0, 1, 2, 3] rfl rfl
    exact zreti hx hb hr rfl hlocks hS (bt, nl, pe, lo, sf) ⟨by rw [hnone]; rfl, by rw [hnone]; exact hR, by rw [hnone]; exact hlo⟩ rfl hP9 hD9 d_Me_dropLast_13
  · refine lv_iload_n hx hb d_Me_dropLast_4 rfl (lv_at hl 1 rfl) ?_
    refine lv_aload_n hx hb d_Me_dropLast_5 rfl (lv_at hl 0 rfl) ?_
    refine zget hE hK hP 0 rfl fd_Me_33 rfl d_Me_dropLast_6 ?_
    refine lv_icmp_le (tgt := 14) hx hb d_Me_dropLast_9 (by decide) (fun h2 => ?_) (fun h2 => ?_)
    · obtain ⟨kn, hkn, rfl⟩ := nI_of2 (nI_toInt (n := lo) (by omega)) h1 h2
      have hsm : mDropL M (nI kn) = some (mPopN kn M) := by unfold mDropL; rw [nI_toInt (by omega), if_pos (by omega)]; rfl
      refine lv_iconst (v := 0) hx hb d_Me_dropLast_14 (by decide) ?_
      refine lv_istore_n (lv' := [(2, .int 0), (0, .ref h0), (1, .int (nI kn))]) hx hb d_Me_dropLast_15 rfl hl (by decide) rfl (fun ls hl => ?_)
      refine zloopH (σ := (Nat × Nat × Nat × Nat × (Nat → Int32))) (fun j x ls H locs cells slots => (x.1 + j = kn ∧ cRep (mPopN x.1 M) md x.2.1 x.2.2.1 x.2.2.2.1 rn pn x.2.2.2.2 tf uf pf ∧ (mLs (mPopN x.1 M)).length + x.1 = lo ∧ cells = 0 ∧ slots = 0) ∧ lv_has ls 3 [(2, .int (nI x.1)), (0, .ref h0), (1, .int (nI kn))] ∧ va_P D zC [(h0, .inr (1, [.int (nI md), .int (nI x.2.1), .int (nI lo), .int (nI x.2.2.1), .ref sa, .ref ta, .ref fa, .ref pa, .int (nI x.2.2.2.1), .ref ba])), (sa, .inl (cI, rn, .inl (x.2.2.2.2))), (ta, .inl (cI, rn, .inl (tf))), (fa, .inl (cI, rn, .inl (uf)))] H ∧ va_D A [(h0, .inr (1, [.int (nI md), .int (nI x.2.1), .int (nI lo), .int (nI x.2.2.1), .ref sa, .ref ta, .ref fa, .ref pa, .int (nI x.2.2.2.1), .ref ba])), (sa, .inl (cI, rn, .inl (x.2.2.2.2))), (ta, .inl (cI, rn, .inl (tf))), (fa, .inl (cI, rn, .inl (uf)))] ∧ va_S A s.heap H locs) (fun j x ls H locs cells slots hI ih => ?_) kn (0, bt, nl, pe, sf) ls ⟨⟨by show 0 + kn = kn; omega, hR, hlo.symm, rfl, rfl⟩, hl, hP, hD, hS⟩
      obtain ⟨i, b2, n2, p2, s2⟩ := x
      obtain ⟨⟨hj, hR2, hln, rfl, rfl⟩, hl, hP, hD, hS⟩ := hI
      dsimp only at hj hR2 hln
      have hl : lv_has ls 3 [(2, .int (nI i)), (0, .ref h0), (1, .int (nI kn))] := hl
      have hP : va_P D zC [(h0, .inr (1, [.int (nI md), .int (nI b2), .int (nI lo), .int (nI n2), .ref sa, .ref ta, .ref fa, .ref pa, .int (nI p2), .ref ba])), (sa, .inl (cI, rn, .inl (s2))), (ta, .inl (cI, rn, .inl (tf))), (fa, .inl (cI, rn, .inl (uf)))] _ := hP
      have hD : va_D A [(h0, .inr (1, [.int (nI md), .int (nI b2), .int (nI lo), .int (nI n2), .ref sa, .ref ta, .ref fa, .ref pa, .int (nI p2), .ref ba])), (sa, .inl (cI, rn, .inl (s2))), (ta, .inl (cI, rn, .inl (tf))), (fa, .inl (cI, rn, .inl (uf)))] := hD
      refine lv_iload_n hx hb d_Me_dropLast_16 rfl (lv_at hl 0 rfl) ?_
      refine lv_iload_n hx hb d_Me_dropLast_17 rfl (lv_at hl 2 rfl) ?_
      refine lv_icmp_ge (tgt := 48) hx hb d_Me_dropLast_18 (by decide) (fun h3 => ?_) (fun h3 => ?_)
      · have hik : i = kn := by have := z_le' (by omega) h3; omega
        refine lv_aload_n hx hb d_Me_dropLast_48 rfl (lv_at hl 1 rfl) ?_
        refine lv_dup hx hb d_Me_dropLast_49 rfl ?_
        refine zget hE hK hP 0 rfl fd_Me_33 rfl d_Me_dropLast_50 ?_
        refine lv_iload_n hx hb d_Me_dropLast_53 rfl (lv_at hl 2 rfl) ?_
        refine lv_isub hx hb d_Me_dropLast_54 ?_
        refine z_st (st' := [.int (nI (lo - kn)), .ref h0]) (by rw [show (((nI lo) - (nI kn)) : Int32) = nI (lo - kn) from pk_sub (by omega)]) ?_
        refine zput (v := .int (nI (lo - kn))) hE hK hP hD hS 0 rfl fd_Me_33 ft_Me_2 rfl rfl (Nat.le_of_ble_eq_true rfl) d_Me_dropLast_55 (fun H locs hP hD hS => ?_)
        have hP : va_P D zC [(h0, .inr (1, [.int (nI md), .int (nI b2), .int (nI (lo - kn)), .int (nI n2), .ref sa, .ref ta, .ref fa, .ref pa, .int (nI p2), .ref ba])), (sa, .inl (cI, rn, .inl (s2))), (ta, .inl (cI, rn, .inl (tf))), (fa, .inl (cI, rn, .inl (uf)))] _ := hP
        have hD : va_D A [(h0, .inr (1, [.int (nI md), .int (nI b2), .int (nI (lo - kn)), .int (nI n2), .ref sa, .ref ta, .ref fa, .ref pa, .int (nI p2), .ref ba])), (sa, .inl (cI, rn, .inl (s2))), (ta, .inl (cI, rn, .inl (tf))), (fa, .inl (cI, rn, .inl (uf)))] := hD
        refine lv_iconst (v := 1) hx hb d_Me_dropLast_58 (by decide) ?_
        have hP9 := hP.sub (ws' := [(h0, .inr (1, [.int (nI md), .int (nI b2), .int (nI (lo - kn)), .int (nI n2), .ref sa, .ref ta, .ref fa, .ref pa, .int (nI p2), .ref ba])), (sa, .inl (cI, rn, .inl (s2))), (ta, .inl (cI, rn, .inl (tf))), (fa, .inl (cI, rn, .inl (uf)))]) [0, 1, 2, 3] rfl
        have hD9 := hD.sub (ws' := [(h0, .inr (1, [.int (nI md), .int (nI b2), .int (nI (lo - kn)), .int (nI n2), .ref sa, .ref ta, .ref fa, .ref pa, .int (nI p2), .ref ba])), (sa, .inl (cI, rn, .inl (s2))), (ta, .inl (cI, rn, .inl (tf))), (fa, .inl (cI, rn, .inl (uf)))]) [0, 1, 2, 3] rfl rfl
        exact zreti hx hb hr rfl hlocks hS (b2, n2, p2, lo - kn, s2) ⟨by rw [hsm]; rfl, by rw [hsm]; exact hik ▸ hR2, by rw [hsm]; show lo - kn = (mLs (mPopN kn M)).length; rw [← hik]; omega⟩ rfl hP9 hD9 d_Me_dropLast_59
      · have hlt : i < kn := z_nle' (by omega) h3
        have hne : mLs (mPopN i M) ≠ [] := fun q => by rw [q] at hln; simp only [List.length_nil] at hln; omega
        obtain ⟨kk, rr, hls⟩ := List.exists_cons_of_ne_nil hne
        have hn2 : n2 = kk := by rw [hR2.2.2.2.1, hls]; rfl
        subst hn2
        obtain ⟨zz, hz, hg⟩ := hR2.1.2.2.2.2.2.2.1 n2 (by rw [hls]; exact List.mem_cons_self)
        obtain ⟨a1, a2, a3, a4, ⟨qq, a5, a6, a7, a8⟩, a9, a10, a11⟩ := cRep_at hR2 hz
        obtain ⟨hR3, hls3, hu⟩ := cRep_last hR2 hls hz a5 a6
        refine lv_aload_n hx hb d_Me_dropLast_21 rfl (lv_at hl 1 rfl) ?_
        refine lv_aload_n hx hb d_Me_dropLast_22 rfl (lv_at hl 1 rfl) ?_
        refine zget hE hK hP 0 rfl fd_Me_36 rfl d_Me_dropLast_23 ?_
        refine zgov (wr := [(fa, .inl (cI, rn, .inl (uf)))]) (zrunV (n := 1) (As := [.int (nI n2)]) (rest := []) hE (c_Me_drop l D cI cB cJ _ (nI n2) h0 md b2 lo n2 sa ta fa pa p2 ba rn s2 tf n2 zz qq rfl a1 a2 a3 a4 a5 a6 a9 a10 a11) cb_Me_drop lk_Me_79 in_Me_drop se_Me_drop (zpreV (q0 := 0) hK hP hD rfl rfl rfl [0, 1, 2] rfl rfl rfl) ⟨Nat.le_of_ble_eq_true rfl, Nat.le_of_ble_eq_true rfl, Nat.le_of_ble_eq_true rfl, Nat.le_of_ble_eq_true rfl⟩ rfl hl.1 rfl (Nat.le_of_ble_eq_true rfl) d_Me_dropLast_26) hP hD hS hA [0, 1, 2] [3] rfl rfl rfl (by decide) (fun u6 H locs hq4 hP hD hS => ?_)
        clear hq4
        have hP : va_P D zC [(fa, .inl (cI, rn, .inl (uf))), (h0, .inr (1, [.int (nI md), .int (nI (b2 - up4 zz)), .int (nI lo), .int (nI n2), .ref sa, .ref ta, .ref fa, .ref pa, .int (nI (if qq + up4 zz = p2 then qq else p2)), .ref ba])), (sa, .inl (cI, rn, .inl (upd s2 n2 (-1)))), (ta, .inl (cI, rn, .inl (tf)))] _ := hP
        have hD : va_D A [(fa, .inl (cI, rn, .inl (uf))), (h0, .inr (1, [.int (nI md), .int (nI (b2 - up4 zz)), .int (nI lo), .int (nI n2), .ref sa, .ref ta, .ref fa, .ref pa, .int (nI (if qq + up4 zz = p2 then qq else p2)), .ref ba])), (sa, .inl (cI, rn, .inl (upd s2 n2 (-1)))), (ta, .inl (cI, rn, .inl (tf)))] := hD
        refine lv_aload_n hx hb d_Me_dropLast_29 rfl (lv_at hl 1 rfl) ?_
        refine lv_aload_n hx hb d_Me_dropLast_30 rfl (lv_at hl 1 rfl) ?_
        refine zget hE hK hP 1 rfl fd_Me_16 rfl d_Me_dropLast_31 ?_
        refine lv_aload_n hx hb d_Me_dropLast_34 rfl (lv_at hl 1 rfl) ?_
        refine zget hE hK hP 1 rfl fd_Me_36 rfl d_Me_dropLast_35 ?_
        refine va_iald hx hb hK hP 0 0 rfl rfl (vp_in_nI a1 (by omega)) d_Me_dropLast_38 ?_
        refine z_st (st' := [.int (nI (rr.headD 0)), .ref h0]) (by rw [show ((uf (nI n2).toNatClampNeg) : Int32) = nI (rr.headD 0) from by rw [nI_clamp (by omega)]; exact hu]) ?_
        refine zput (v := .int (nI (rr.headD 0))) hE hK hP hD hS 1 rfl fd_Me_36 ft_Me_3 rfl rfl (Nat.le_of_ble_eq_true rfl) d_Me_dropLast_39 (fun H locs hP hD hS => ?_)
        have hP : va_P D zC [(fa, .inl (cI, rn, .inl (uf))), (h0, .inr (1, [.int (nI md), .int (nI (b2 - up4 zz)), .int (nI lo), .int (nI (rr.headD 0)), .ref sa, .ref ta, .ref fa, .ref pa, .int (nI (if qq + up4 zz = p2 then qq else p2)), .ref ba])), (sa, .inl (cI, rn, .inl (upd s2 n2 (-1)))), (ta, .inl (cI, rn, .inl (tf)))] _ := hP
        have hD : va_D A [(fa, .inl (cI, rn, .inl (uf))), (h0, .inr (1, [.int (nI md), .int (nI (b2 - up4 zz)), .int (nI lo), .int (nI (rr.headD 0)), .ref sa, .ref ta, .ref fa, .ref pa, .int (nI (if qq + up4 zz = p2 then qq else p2)), .ref ba])), (sa, .inl (cI, rn, .inl (upd s2 n2 (-1)))), (ta, .inl (cI, rn, .inl (tf)))] := hD
        refine lv_iinc (k := 0) (v := (nI i) + 1) (lv' := [(2, .int ((nI i) + 1)), (0, .ref h0), (1, .int (nI kn))]) hx hb d_Me_dropLast_42 hl rfl rfl (by decide) rfl (fun ls hl => ?_)
        refine lv_goto (tgt := 16) hx hb d_Me_dropLast_45 (by decide) ?_
        rw [nI_1] at hl
        have hpp : mPopN (i + 1) M = mGone (mPopN i M) n2 := by rw [mPopN_s, hls]; rfl
        have hP := hP.sub (ws' := [(h0, .inr (1, [.int (nI md), .int (nI (b2 - up4 zz)), .int (nI lo), .int (nI (rr.headD 0)), .ref sa, .ref ta, .ref fa, .ref pa, .int (nI (if qq + up4 zz = p2 then qq else p2)), .ref ba])), (sa, .inl (cI, rn, .inl (upd s2 n2 (-1)))), (ta, .inl (cI, rn, .inl (tf))), (fa, .inl (cI, rn, .inl (uf)))]) [1, 2, 3, 0] rfl
        have hD := hD.sub (ws' := [(h0, .inr (1, [.int (nI md), .int (nI (b2 - up4 zz)), .int (nI lo), .int (nI (rr.headD 0)), .ref sa, .ref ta, .ref fa, .ref pa, .int (nI (if qq + up4 zz = p2 then qq else p2)), .ref ba])), (sa, .inl (cI, rn, .inl (upd s2 n2 (-1)))), (ta, .inl (cI, rn, .inl (tf))), (fa, .inl (cI, rn, .inl (uf)))]) [1, 2, 3, 0] rfl rfl
        exact ih (j - 1) (i + 1, b2 - up4 zz, rr.headD 0, (if qq + up4 zz = p2 then qq else p2), upd s2 n2 (-1)) ls H locs 0 0 (by omega) ⟨⟨by show i + 1 + (j - 1) = kn; omega, by show cRep (mPopN (i + 1) M) _ _ _ _ _ _ _ _ _ _; rw [hpp]; exact hR3, by show (mLs (mPopN (i + 1) M)).length + (i + 1) = lo; rw [hpp, hls3]; rw [hls] at hln; simp only [List.length_cons] at hln; omega, rfl, rfl⟩, hl, hP, hD, hS⟩
    · have hnone : mDropL M n0 = none := if_neg (fun q => by have q1 := z_nlt h1; have q2 := z_nle h2; have k0 : ((0) : Int32).toInt = 0 := (by decide); have ni0 : (nI lo).toInt = ((lo : Nat) : Int) := nI_toInt (by omega); omega)
      refine lv_iconst (v := 0) hx hb d_Me_dropLast_12 (by decide) ?_
      have hP9 := hP.sub (ws' := [(h0, .inr (1, [.int (nI md), .int (nI bt), .int (nI lo), .int (nI nl), .ref sa, .ref ta, .ref fa, .ref pa, .int (nI pe), .ref ba])), (sa, .inl (cI, rn, .inl (sf))), (ta, .inl (cI, rn, .inl (tf))), (fa, .inl (cI, rn, .inl (uf)))]) [0, 1, 2, 3] rfl
      have hD9 := hD.sub (ws' := [(h0, .inr (1, [.int (nI md), .int (nI bt), .int (nI lo), .int (nI nl), .ref sa, .ref ta, .ref fa, .ref pa, .int (nI pe), .ref ba])), (sa, .inl (cI, rn, .inl (sf))), (ta, .inl (cI, rn, .inl (tf))), (fa, .inl (cI, rn, .inl (uf)))]) [0, 1, 2, 3] rfl rfl
      exact zreti hx hb hr rfl hlocks hS (bt, nl, pe, lo, sf) ⟨by rw [hnone]; rfl, by rw [hnone]; exact hR, by rw [hnone]; exact hlo⟩ rfl hP9 hD9 d_Me_dropLast_13
