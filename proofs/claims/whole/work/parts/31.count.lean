/-! decode rows -/
theorem d_Rv_count_0 : decode b_Rv_count 0 = .ok (.iload_n 1, 1) := by decide +kernel
theorem d_Rv_count_1 : decode b_Rv_count 1 = .ok (.tableswitch 93 0 6 #[43, 48, 56, 64, 72, 77, 85], 43) := by decide +kernel
theorem d_Rv_count_44 : decode b_Rv_count 44 = .ok (.aload_n 0, 1) := by decide +kernel
theorem d_Rv_count_45 : decode b_Rv_count 45 = .ok (.getfield 39, 3) := by decide +kernel
theorem d_Rv_count_48 : decode b_Rv_count 48 = .ok (.ireturn, 1) := by decide +kernel
theorem d_Rv_count_49 : decode b_Rv_count 49 = .ok (.aload_n 0, 1) := by decide +kernel
theorem d_Rv_count_50 : decode b_Rv_count 50 = .ok (.getfield 19, 3) := by decide +kernel
theorem d_Rv_count_53 : decode b_Rv_count 53 = .ok (.getfield 97, 3) := by decide +kernel
theorem d_Rv_count_56 : decode b_Rv_count 56 = .ok (.ireturn, 1) := by decide +kernel
theorem d_Rv_count_57 : decode b_Rv_count 57 = .ok (.aload_n 0, 1) := by decide +kernel
theorem d_Rv_count_58 : decode b_Rv_count 58 = .ok (.getfield 19, 3) := by decide +kernel
theorem d_Rv_count_61 : decode b_Rv_count 61 = .ok (.getfield 100, 3) := by decide +kernel
theorem d_Rv_count_64 : decode b_Rv_count 64 = .ok (.ireturn, 1) := by decide +kernel
theorem d_Rv_count_65 : decode b_Rv_count 65 = .ok (.aload_n 0, 1) := by decide +kernel
theorem d_Rv_count_66 : decode b_Rv_count 66 = .ok (.getfield 19, 3) := by decide +kernel
theorem d_Rv_count_69 : decode b_Rv_count 69 = .ok (.getfield 103, 3) := by decide +kernel
theorem d_Rv_count_72 : decode b_Rv_count 72 = .ok (.ireturn, 1) := by decide +kernel
theorem d_Rv_count_73 : decode b_Rv_count 73 = .ok (.aload_n 0, 1) := by decide +kernel
theorem d_Rv_count_74 : decode b_Rv_count 74 = .ok (.getfield 62, 3) := by decide +kernel
theorem d_Rv_count_77 : decode b_Rv_count 77 = .ok (.ireturn, 1) := by decide +kernel
theorem d_Rv_count_78 : decode b_Rv_count 78 = .ok (.aload_n 0, 1) := by decide +kernel
theorem d_Rv_count_79 : decode b_Rv_count 79 = .ok (.getfield 32, 3) := by decide +kernel
theorem d_Rv_count_82 : decode b_Rv_count 82 = .ok (.getfield 82, 3) := by decide +kernel
theorem d_Rv_count_85 : decode b_Rv_count 85 = .ok (.ireturn, 1) := by decide +kernel
theorem d_Rv_count_86 : decode b_Rv_count 86 = .ok (.aload_n 0, 1) := by decide +kernel
theorem d_Rv_count_87 : decode b_Rv_count 87 = .ok (.getfield 28, 3) := by decide +kernel
theorem d_Rv_count_90 : decode b_Rv_count 90 = .ok (.getfield 82, 3) := by decide +kernel
theorem d_Rv_count_93 : decode b_Rv_count 93 = .ok (.ireturn, 1) := by decide +kernel
theorem d_Rv_count_94 : decode b_Rv_count 94 = .ok (.new 68, 3) := by decide +kernel
theorem d_Rv_count_97 : decode b_Rv_count 97 = .ok (.dup, 1) := by decide +kernel
theorem d_Rv_count_98 : decode b_Rv_count 98 = .ok (.invokespecial 70, 3) := by decide +kernel
theorem d_Rv_count_101 : decode b_Rv_count 101 = .ok (.athrow, 1) := by decide +kernel

def sp_Rv_count (k : Int32) (wc : Int32) (dn : Int32) (md : Nat) (bt : Nat) (lo : Nat) (uh : Nat) (oh : Nat) : Int32 := if k = 0 then wc else if k = 1 then nI md else if k = 2 then nI bt else if k = 3 then nI lo else if k = 4 then dn else if k = 5 then nI oh else nI uh
set_option maxHeartbeats 4000000 in
theorem c_Rv_count (l : Launch) (D : va_G) (cI cB cJ : ClassId) (sz : Nat) (k : Int32) (x : Nat) (wa : Nat) (wc : Int32) (ra : Nat) (ma : Nat) (ua : Nat) (oa : Nat) (ph : Int32) (dn : Int32) (nx : Int32) (fo : Int32) (md : Nat) (bt : Nat) (lo : Nat) (nl : Nat) (sa : Nat) (ta : Nat) (fa : Nat) (pa : Nat) (pe : Nat) (ba : Nat) (ur : Nat) (ui : Nat) (uh : Nat) (orr : Nat) (oi : Nat) (oh : Nat) (hk : 0 ≤ k.toInt ∧ k.toInt ≤ 6) : zMet l y_Rv_count (zWs y_Rv_count b_Rv_count 2 (some .int)) { frames := 6, cells := 0, slots := 0, locals := 110 } (zPc D (zT cI cB cJ) sz [(x, .inr (0, [.ref wa, .int wc, .ref ra, .ref ma, .ref ua, .ref oa, .int ph, .int dn, .int nx, .int fo])), (ma, .inr (1, [.int (nI md), .int (nI bt), .int (nI lo), .int (nI nl), .ref sa, .ref ta, .ref fa, .ref pa, .int (nI pe), .ref ba])), (ua, .inr (2, [.ref ur, .int (nI ui), .int (nI uh)])), (oa, .inr (2, [.ref orr, .int (nI oi), .int (nI oh)]))] [.ref x, .int k]) (zQi D (va_A [(x, .inr (0, [.ref wa, .int wc, .ref ra, .ref ma, .ref ua, .ref oa, .int ph, .int dn, .int nx, .int fo])), (ma, .inr (1, [.int (nI md), .int (nI bt), .int (nI lo), .int (nI nl), .ref sa, .ref ta, .ref fa, .ref pa, .int (nI pe), .ref ba])), (ua, .inr (2, [.ref ur, .int (nI ui), .int (nI uh)])), (oa, .inr (2, [.ref orr, .int (nI oi), .int (nI oh)]))] sz) (fun r (_ : Unit) => r = (sp_Rv_count k wc dn md bt lo uh oh)) (z0) (fun _ => [(x, .inr (0, [.ref wa, .int wc, .ref ra, .ref ma, .ref ua, .ref oa, .int ph, .int dn, .int nx, .int fo])), (ma, .inr (1, [.int (nI md), .int (nI bt), .int (nI lo), .int (nI nl), .ref sa, .ref ta, .ref fa, .ref pa, .int (nI pe), .ref ba])), (ua, .inr (2, [.ref ur, .int (nI ui), .int (nI uh)])), (oa, .inr (2, [.ref orr, .int (nI oi), .int (nI oh)]))])) (va_A [(x, .inr (0, [.ref wa, .int wc, .ref ra, .ref ma, .ref ua, .ref oa, .int ph, .int dn, .int nx, .int fo])), (ma, .inr (1, [.int (nI md), .int (nI bt), .int (nI lo), .int (nI nl), .ref sa, .ref ta, .ref fa, .ref pa, .int (nI pe), .ref ba])), (ua, .inr (2, [.ref ur, .int (nI ui), .int (nI uh)])), (oa, .inr (2, [.ref orr, .int (nI oi), .int (nI oh)]))] sz) := by
  refine zstart (Qc := fun A => zQi D A (fun r (_ : Unit) => r = (sp_Rv_count k wc dn md bt lo uh oh)) (z0) (fun _ => [(x, .inr (0, [.ref wa, .int wc, .ref ra, .ref ma, .ref ua, .ref oa, .int ph, .int dn, .int nx, .int fo])), (ma, .inr (1, [.int (nI md), .int (nI bt), .int (nI lo), .int (nI nl), .ref sa, .ref ta, .ref fa, .ref pa, .int (nI pe), .ref ba])), (ua, .inr (2, [.ref ur, .int (nI ui), .int (nI uh)])), (oa, .inr (2, [.ref orr, .int (nI oi), .int (nI oh)]))])) (by decide) (Nat.le_of_ble_eq_true rfl) ?_
  intro p e s m below meth c ls A hE hr hlocks hin hsz hK hP hD hS hA hAe hl
  have hx := hE.1
  have hb := hE.2.1
  have hown := hE.2.2.2.1
  have hw := hE.2.2.2.2
  have hl : lv_has ls 2 [(0, .ref x), (1, .int k)] := hl
  refine lv_iload_n hx hb d_Rv_count_0 rfl (lv_at hl 1 rfl) ?_
  rcases Decidable.em (k = 0) with h1 | h1
  · refine lv_tableIn (tgt := 44) hx hb d_Rv_count_1 (by rw [h1]; decide) (by rw [h1]; decide) (by rw [h1]; rfl) (by decide) ?_
    refine lv_aload_n hx hb d_Rv_count_44 rfl (lv_at hl 0 rfl) ?_
    refine zget hE hK hP 0 rfl fd_Rv_39 rfl d_Rv_count_45 ?_
    have hs : (sp_Rv_count k wc dn md bt lo uh oh) = wc := by rw [sp_Rv_count, if_pos h1]
    have hP9 := hP.sub (ws' := [(x, .inr (0, [.ref wa, .int wc, .ref ra, .ref ma, .ref ua, .ref oa, .int ph, .int dn, .int nx, .int fo])), (ma, .inr (1, [.int (nI md), .int (nI bt), .int (nI lo), .int (nI nl), .ref sa, .ref ta, .ref fa, .ref pa, .int (nI pe), .ref ba])), (ua, .inr (2, [.ref ur, .int (nI ui), .int (nI uh)])), (oa, .inr (2, [.ref orr, .int (nI oi), .int (nI oh)]))]) [0, 1, 2, 3] rfl
    have hD9 := hD.sub (ws' := [(x, .inr (0, [.ref wa, .int wc, .ref ra, .ref ma, .ref ua, .ref oa, .int ph, .int dn, .int nx, .int fo])), (ma, .inr (1, [.int (nI md), .int (nI bt), .int (nI lo), .int (nI nl), .ref sa, .ref ta, .ref fa, .ref pa, .int (nI pe), .ref ba])), (ua, .inr (2, [.ref ur, .int (nI ui), .int (nI uh)])), (oa, .inr (2, [.ref orr, .int (nI oi), .int (nI oh)]))]) [0, 1, 2, 3] rfl rfl
    exact zreti hx hb hr rfl hlocks hS () (by rw [hs]) rfl (by exact hP9) (by exact hD9) d_Rv_count_48
  · rcases Decidable.em (k = 1) with h2 | h2
    · refine lv_tableIn (tgt := 49) hx hb d_Rv_count_1 (by rw [h2]; decide) (by rw [h2]; decide) (by rw [h2]; rfl) (by decide) ?_
      refine lv_aload_n hx hb d_Rv_count_49 rfl (lv_at hl 0 rfl) ?_
      refine zget hE hK hP 0 rfl fd_Rv_19 rfl d_Rv_count_50 ?_
      refine zget hE hK hP 1 rfl fd_Rv_97 rfl d_Rv_count_53 ?_
      have hs : (sp_Rv_count k wc dn md bt lo uh oh) = nI md := by rw [sp_Rv_count, if_neg h1, if_pos h2]
      have hP9 := hP.sub (ws' := [(x, .inr (0, [.ref wa, .int wc, .ref ra, .ref ma, .ref ua, .ref oa, .int ph, .int dn, .int nx, .int fo])), (ma, .inr (1, [.int (nI md), .int (nI bt), .int (nI lo), .int (nI nl), .ref sa, .ref ta, .ref fa, .ref pa, .int (nI pe), .ref ba])), (ua, .inr (2, [.ref ur, .int (nI ui), .int (nI uh)])), (oa, .inr (2, [.ref orr, .int (nI oi), .int (nI oh)]))]) [0, 1, 2, 3] rfl
      have hD9 := hD.sub (ws' := [(x, .inr (0, [.ref wa, .int wc, .ref ra, .ref ma, .ref ua, .ref oa, .int ph, .int dn, .int nx, .int fo])), (ma, .inr (1, [.int (nI md), .int (nI bt), .int (nI lo), .int (nI nl), .ref sa, .ref ta, .ref fa, .ref pa, .int (nI pe), .ref ba])), (ua, .inr (2, [.ref ur, .int (nI ui), .int (nI uh)])), (oa, .inr (2, [.ref orr, .int (nI oi), .int (nI oh)]))]) [0, 1, 2, 3] rfl rfl
      exact zreti hx hb hr rfl hlocks hS () (by rw [hs]) rfl (by exact hP9) (by exact hD9) d_Rv_count_56
    · rcases Decidable.em (k = 2) with h3 | h3
      · refine lv_tableIn (tgt := 57) hx hb d_Rv_count_1 (by rw [h3]; decide) (by rw [h3]; decide) (by rw [h3]; rfl) (by decide) ?_
        refine lv_aload_n hx hb d_Rv_count_57 rfl (lv_at hl 0 rfl) ?_
        refine zget hE hK hP 0 rfl fd_Rv_19 rfl d_Rv_count_58 ?_
        refine zget hE hK hP 1 rfl fd_Rv_100 rfl d_Rv_count_61 ?_
        have hs : (sp_Rv_count k wc dn md bt lo uh oh) = nI bt := by rw [sp_Rv_count, if_neg h1, if_neg h2, if_pos h3]
        have hP9 := hP.sub (ws' := [(x, .inr (0, [.ref wa, .int wc, .ref ra, .ref ma, .ref ua, .ref oa, .int ph, .int dn, .int nx, .int fo])), (ma, .inr (1, [.int (nI md), .int (nI bt), .int (nI lo), .int (nI nl), .ref sa, .ref ta, .ref fa, .ref pa, .int (nI pe), .ref ba])), (ua, .inr (2, [.ref ur, .int (nI ui), .int (nI uh)])), (oa, .inr (2, [.ref orr, .int (nI oi), .int (nI oh)]))]) [0, 1, 2, 3] rfl
        have hD9 := hD.sub (ws' := [(x, .inr (0, [.ref wa, .int wc, .ref ra, .ref ma, .ref ua, .ref oa, .int ph, .int dn, .int nx, .int fo])), (ma, .inr (1, [.int (nI md), .int (nI bt), .int (nI lo), .int (nI nl), .ref sa, .ref ta, .ref fa, .ref pa, .int (nI pe), .ref ba])), (ua, .inr (2, [.ref ur, .int (nI ui), .int (nI uh)])), (oa, .inr (2, [.ref orr, .int (nI oi), .int (nI oh)]))]) [0, 1, 2, 3] rfl rfl
        exact zreti hx hb hr rfl hlocks hS () (by rw [hs]) rfl (by exact hP9) (by exact hD9) d_Rv_count_64
      · rcases Decidable.em (k = 3) with h4 | h4
        · refine lv_tableIn (tgt := 65) hx hb d_Rv_count_1 (by rw [h4]; decide) (by rw [h4]; decide) (by rw [h4]; rfl) (by decide) ?_
          refine lv_aload_n hx hb d_Rv_count_65 rfl (lv_at hl 0 rfl) ?_
          refine zget hE hK hP 0 rfl fd_Rv_19 rfl d_Rv_count_66 ?_
          refine zget hE hK hP 1 rfl fd_Rv_103 rfl d_Rv_count_69 ?_
          have hs : (sp_Rv_count k wc dn md bt lo uh oh) = nI lo := by rw [sp_Rv_count, if_neg h1, if_neg h2, if_neg h3, if_pos h4]
          have hP9 := hP.sub (ws' := [(x, .inr (0, [.ref wa, .int wc, .ref ra, .ref ma, .ref ua, .ref oa, .int ph, .int dn, .int nx, .int fo])), (ma, .inr (1, [.int (nI md), .int (nI bt), .int (nI lo), .int (nI nl), .ref sa, .ref ta, .ref fa, .ref pa, .int (nI pe), .ref ba])), (ua, .inr (2, [.ref ur, .int (nI ui), .int (nI uh)])), (oa, .inr (2, [.ref orr, .int (nI oi), .int (nI oh)]))]) [0, 1, 2, 3] rfl
          have hD9 := hD.sub (ws' := [(x, .inr (0, [.ref wa, .int wc, .ref ra, .ref ma, .ref ua, .ref oa, .int ph, .int dn, .int nx, .int fo])), (ma, .inr (1, [.int (nI md), .int (nI bt), .int (nI lo), .int (nI nl), .ref sa, .ref ta, .ref fa, .ref pa, .int (nI pe), .ref ba])), (ua, .inr (2, [.ref ur, .int (nI ui), .int (nI uh)])), (oa, .inr (2, [.ref orr, .int (nI oi), .int (nI oh)]))]) [0, 1, 2, 3] rfl rfl
          exact zreti hx hb hr rfl hlocks hS () (by rw [hs]) rfl (by exact hP9) (by exact hD9) d_Rv_count_72
        · rcases Decidable.em (k = 4) with h5 | h5
          · refine lv_tableIn (tgt := 73) hx hb d_Rv_count_1 (by rw [h5]; decide) (by rw [h5]; decide) (by rw [h5]; rfl) (by decide) ?_
            refine lv_aload_n hx hb d_Rv_count_73 rfl (lv_at hl 0 rfl) ?_
            refine zget hE hK hP 0 rfl fd_Rv_62 rfl d_Rv_count_74 ?_
            have hs : (sp_Rv_count k wc dn md bt lo uh oh) = dn := by rw [sp_Rv_count, if_neg h1, if_neg h2, if_neg h3, if_neg h4, if_pos h5]
            have hP9 := hP.sub (ws' := [(x, .inr (0, [.ref wa, .int wc, .ref ra, .ref ma, .ref ua, .ref oa, .int ph, .int dn, .int nx, .int fo])), (ma, .inr (1, [.int (nI md), .int (nI bt), .int (nI lo), .int (nI nl), .ref sa, .ref ta, .ref fa, .ref pa, .int (nI pe), .ref ba])), (ua, .inr (2, [.ref ur, .int (nI ui), .int (nI uh)])), (oa, .inr (2, [.ref orr, .int (nI oi), .int (nI oh)]))]) [0, 1, 2, 3] rfl
            have hD9 := hD.sub (ws' := [(x, .inr (0, [.ref wa, .int wc, .ref ra, .ref ma, .ref ua, .ref oa, .int ph, .int dn, .int nx, .int fo])), (ma, .inr (1, [.int (nI md), .int (nI bt), .int (nI lo), .int (nI nl), .ref sa, .ref ta, .ref fa, .ref pa, .int (nI pe), .ref ba])), (ua, .inr (2, [.ref ur, .int (nI ui), .int (nI uh)])), (oa, .inr (2, [.ref orr, .int (nI oi), .int (nI oh)]))]) [0, 1, 2, 3] rfl rfl
            exact zreti hx hb hr rfl hlocks hS () (by rw [hs]) rfl (by exact hP9) (by exact hD9) d_Rv_count_77
          · rcases Decidable.em (k = 5) with h6 | h6
            · refine lv_tableIn (tgt := 78) hx hb d_Rv_count_1 (by rw [h6]; decide) (by rw [h6]; decide) (by rw [h6]; rfl) (by decide) ?_
              refine lv_aload_n hx hb d_Rv_count_78 rfl (lv_at hl 0 rfl) ?_
              refine zget hE hK hP 0 rfl fd_Rv_32 rfl d_Rv_count_79 ?_
              refine zget hE hK hP 3 rfl fd_Rv_82 rfl d_Rv_count_82 ?_
              have hs : (sp_Rv_count k wc dn md bt lo uh oh) = nI oh := by rw [sp_Rv_count, if_neg h1, if_neg h2, if_neg h3, if_neg h4, if_neg h5, if_pos h6]
              have hP9 := hP.sub (ws' := [(x, .inr (0, [.ref wa, .int wc, .ref ra, .ref ma, .ref ua, .ref oa, .int ph, .int dn, .int nx, .int fo])), (ma, .inr (1, [.int (nI md), .int (nI bt), .int (nI lo), .int (nI nl), .ref sa, .ref ta, .ref fa, .ref pa, .int (nI pe), .ref ba])), (ua, .inr (2, [.ref ur, .int (nI ui), .int (nI uh)])), (oa, .inr (2, [.ref orr, .int (nI oi), .int (nI oh)]))]) [0, 1, 2, 3] rfl
              have hD9 := hD.sub (ws' := [(x, .inr (0, [.ref wa, .int wc, .ref ra, .ref ma, .ref ua, .ref oa, .int ph, .int dn, .int nx, .int fo])), (ma, .inr (1, [.int (nI md), .int (nI bt), .int (nI lo), .int (nI nl), .ref sa, .ref ta, .ref fa, .ref pa, .int (nI pe), .ref ba])), (ua, .inr (2, [.ref ur, .int (nI ui), .int (nI uh)])), (oa, .inr (2, [.ref orr, .int (nI oi), .int (nI oh)]))]) [0, 1, 2, 3] rfl rfl
              exact zreti hx hb hr rfl hlocks hS () (by rw [hs]) rfl (by exact hP9) (by exact hD9) d_Rv_count_85
            · rcases Decidable.em (k = 6) with h7 | h7
              · refine lv_tableIn (tgt := 86) hx hb d_Rv_count_1 (by rw [h7]; decide) (by rw [h7]; decide) (by rw [h7]; rfl) (by decide) ?_
                refine lv_aload_n hx hb d_Rv_count_86 rfl (lv_at hl 0 rfl) ?_
                refine zget hE hK hP 0 rfl fd_Rv_28 rfl d_Rv_count_87 ?_
                refine zget hE hK hP 2 rfl fd_Rv_82 rfl d_Rv_count_90 ?_
                have hs : (sp_Rv_count k wc dn md bt lo uh oh) = nI uh := by rw [sp_Rv_count, if_neg h1, if_neg h2, if_neg h3, if_neg h4, if_neg h5, if_neg h6]
                have hP9 := hP.sub (ws' := [(x, .inr (0, [.ref wa, .int wc, .ref ra, .ref ma, .ref ua, .ref oa, .int ph, .int dn, .int nx, .int fo])), (ma, .inr (1, [.int (nI md), .int (nI bt), .int (nI lo), .int (nI nl), .ref sa, .ref ta, .ref fa, .ref pa, .int (nI pe), .ref ba])), (ua, .inr (2, [.ref ur, .int (nI ui), .int (nI uh)])), (oa, .inr (2, [.ref orr, .int (nI oi), .int (nI oh)]))]) [0, 1, 2, 3] rfl
                have hD9 := hD.sub (ws' := [(x, .inr (0, [.ref wa, .int wc, .ref ra, .ref ma, .ref ua, .ref oa, .int ph, .int dn, .int nx, .int fo])), (ma, .inr (1, [.int (nI md), .int (nI bt), .int (nI lo), .int (nI nl), .ref sa, .ref ta, .ref fa, .ref pa, .int (nI pe), .ref ba])), (ua, .inr (2, [.ref ur, .int (nI ui), .int (nI uh)])), (oa, .inr (2, [.ref orr, .int (nI oi), .int (nI oh)]))]) [0, 1, 2, 3] rfl rfl
                exact zreti hx hb hr rfl hlocks hS () (by rw [hs]) rfl (by exact hP9) (by exact hD9) d_Rv_count_93
              · exact (show False by have q1 := z_neq h1; have q2 := z_neq h2; have q3 := z_neq h3; have q4 := z_neq h4; have q5 := z_neq h5; have q6 := z_neq h6; have q7 := z_neq h7; have k0 : ((0) : Int32).toInt = 0 := (by decide); have k1 : ((1) : Int32).toInt = 1 := (by decide); have k2 : ((2) : Int32).toInt = 2 := (by decide); have k3 : ((3) : Int32).toInt = 3 := (by decide); have k4 : ((4) : Int32).toInt = 4 := (by decide); have k5 : ((5) : Int32).toInt = 5 := (by decide); have k6 : ((6) : Int32).toInt = 6 := (by decide); omega).elim
