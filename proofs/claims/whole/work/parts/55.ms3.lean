/-! both sides by opcode -/
theorem xe_3 {w : Int32} (rg : Nat → Int32) (M : MM) (I O : List Int32) (ph nx fo : Int32) (h : wA w = 3) : xExec w rg M I O ph nx fo = ((sp_Rv_load w rg M).1, (sp_Rv_load w rg M).2, M, I, O, ph, fo) := by
  unfold xExec
  rw [w_127, h, if_pos (show nI 3 = 3 by decide)]
theorem xe_15 {w : Int32} (rg : Nat → Int32) (M : MM) (I O : List Int32) (ph nx fo : Int32) (h : wA w = 15) : xExec w rg M I O ph nx fo = (if (sp_Rv_middle w) = 0 then (0, rg, M, I, O, ph, fo) else (1, rg, M, I, O, ph, fo)) := by
  unfold xExec
  rw [w_127, h, if_neg (show ¬ nI 15 = 3 by decide), if_pos (show nI 15 = 15 by decide)]
theorem xe_19 {w : Int32} (rg : Nat → Int32) (M : MM) (I O : List Int32) (ph nx fo : Int32) (h : wA w = 19) : xExec w rg M I O ph nx fo = ((sp_Rv_operateWithConstant w rg).1, (sp_Rv_operateWithConstant w rg).2, M, I, O, ph, fo) := by
  unfold xExec
  rw [w_127, h, if_neg (show ¬ nI 19 = 3 by decide), if_neg (show ¬ nI 19 = 15 by decide), if_pos (show nI 19 = 19 by decide)]
theorem xe_23 {w : Int32} (rg : Nat → Int32) (M : MM) (I O : List Int32) (ph nx fo : Int32) (h : wA w = 23) : xExec w rg M I O ph nx fo = ((sp_Rv_keep w (nx + (w &&& (-4096))) rg).1, (sp_Rv_keep w (nx + (w &&& (-4096))) rg).2, M, I, O, ph, fo) := by
  unfold xExec
  rw [w_127, h, if_neg (show ¬ nI 23 = 3 by decide), if_neg (show ¬ nI 23 = 15 by decide), if_neg (show ¬ nI 23 = 19 by decide), if_pos (show nI 23 = 23 by decide)]
theorem xe_35 {w : Int32} (rg : Nat → Int32) (M : MM) (I O : List Int32) (ph nx fo : Int32) (h : wA w = 35) : xExec w rg M I O ph nx fo = ((xStore w rg M).1, rg, (xStore w rg M).2, I, O, ph, fo) := by
  unfold xExec
  rw [w_127, h, if_neg (show ¬ nI 35 = 3 by decide), if_neg (show ¬ nI 35 = 15 by decide), if_neg (show ¬ nI 35 = 19 by decide), if_neg (show ¬ nI 35 = 23 by decide), if_pos (show nI 35 = 35 by decide)]
theorem xe_51 {w : Int32} (rg : Nat → Int32) (M : MM) (I O : List Int32) (ph nx fo : Int32) (h : wA w = 51) : xExec w rg M I O ph nx fo = ((sp_Rv_operate w rg).1, (sp_Rv_operate w rg).2, M, I, O, ph, fo) := by
  unfold xExec
  rw [w_127, h, if_neg (show ¬ nI 51 = 3 by decide), if_neg (show ¬ nI 51 = 15 by decide), if_neg (show ¬ nI 51 = 19 by decide), if_neg (show ¬ nI 51 = 23 by decide), if_neg (show ¬ nI 51 = 35 by decide), if_pos (show nI 51 = 51 by decide)]
theorem xe_55 {w : Int32} (rg : Nat → Int32) (M : MM) (I O : List Int32) (ph nx fo : Int32) (h : wA w = 55) : xExec w rg M I O ph nx fo = ((sp_Rv_keep w (w &&& (-4096)) rg).1, (sp_Rv_keep w (w &&& (-4096)) rg).2, M, I, O, ph, fo) := by
  unfold xExec
  rw [w_127, h, if_neg (show ¬ nI 55 = 3 by decide), if_neg (show ¬ nI 55 = 15 by decide), if_neg (show ¬ nI 55 = 19 by decide), if_neg (show ¬ nI 55 = 23 by decide), if_neg (show ¬ nI 55 = 35 by decide), if_neg (show ¬ nI 55 = 51 by decide), if_pos (show nI 55 = 55 by decide)]
theorem xe_99 {w : Int32} (rg : Nat → Int32) (M : MM) (I O : List Int32) (ph nx fo : Int32) (h : wA w = 99) : xExec w rg M I O ph nx fo = ((sp_Rv_branch w nx fo rg).1, rg, M, I, O, ph, (sp_Rv_branch w nx fo rg).2) := by
  unfold xExec
  rw [w_127, h, if_neg (show ¬ nI 99 = 3 by decide), if_neg (show ¬ nI 99 = 15 by decide), if_neg (show ¬ nI 99 = 19 by decide), if_neg (show ¬ nI 99 = 23 by decide), if_neg (show ¬ nI 99 = 35 by decide), if_neg (show ¬ nI 99 = 51 by decide), if_neg (show ¬ nI 99 = 55 by decide), if_pos (show nI 99 = 99 by decide)]
theorem xe_103 {w : Int32} (rg : Nat → Int32) (M : MM) (I O : List Int32) (ph nx fo : Int32) (h : wA w = 103) : xExec w rg M I O ph nx fo = ((sp_Rv_jumpByRegister w nx fo rg).1, (sp_Rv_jumpByRegister w nx fo rg).2.2, M, I, O, ph, (sp_Rv_jumpByRegister w nx fo rg).2.1) := by
  unfold xExec
  rw [w_127, h, if_neg (show ¬ nI 103 = 3 by decide), if_neg (show ¬ nI 103 = 15 by decide), if_neg (show ¬ nI 103 = 19 by decide), if_neg (show ¬ nI 103 = 23 by decide), if_neg (show ¬ nI 103 = 35 by decide), if_neg (show ¬ nI 103 = 51 by decide), if_neg (show ¬ nI 103 = 55 by decide), if_neg (show ¬ nI 103 = 99 by decide), if_pos (show nI 103 = 103 by decide)]
theorem xe_111 {w : Int32} (rg : Nat → Int32) (M : MM) (I O : List Int32) (ph nx fo : Int32) (h : wA w = 111) : xExec w rg M I O ph nx fo = ((sp_Rv_jump w (nx + (sp_Rv_jumpOffset w)) nx fo rg).1, (sp_Rv_jump w (nx + (sp_Rv_jumpOffset w)) nx fo rg).2.2, M, I, O, ph, (sp_Rv_jump w (nx + (sp_Rv_jumpOffset w)) nx fo rg).2.1) := by
  unfold xExec
  rw [w_127, h, if_neg (show ¬ nI 111 = 3 by decide), if_neg (show ¬ nI 111 = 15 by decide), if_neg (show ¬ nI 111 = 19 by decide), if_neg (show ¬ nI 111 = 23 by decide), if_neg (show ¬ nI 111 = 35 by decide), if_neg (show ¬ nI 111 = 51 by decide), if_neg (show ¬ nI 111 = 55 by decide), if_neg (show ¬ nI 111 = 99 by decide), if_neg (show ¬ nI 111 = 103 by decide), if_pos (show nI 111 = 111 by decide)]
theorem xe_115 {w : Int32} (rg : Nat → Int32) (M : MM) (I O : List Int32) (ph nx fo : Int32) (h : wA w = 115) : xExec w rg M I O ph nx fo = (if w = 115 then ((xServe rg M I O ph).1, (xServe rg M I O ph).2.1, (xServe rg M I O ph).2.2.1, (xServe rg M I O ph).2.2.2.1, (xServe rg M I O ph).2.2.2.2.1, (xServe rg M I O ph).2.2.2.2.2, fo) else if w = 1048691 then (5, rg, M, I, O, ph, fo) else (1, rg, M, I, O, ph, fo)) := by
  unfold xExec
  rw [w_127, h, if_neg (show ¬ nI 115 = 3 by decide), if_neg (show ¬ nI 115 = 15 by decide), if_neg (show ¬ nI 115 = 19 by decide), if_neg (show ¬ nI 115 = 23 by decide), if_neg (show ¬ nI 115 = 35 by decide), if_neg (show ¬ nI 115 = 51 by decide), if_neg (show ¬ nI 115 = 55 by decide), if_neg (show ¬ nI 115 = 99 by decide), if_neg (show ¬ nI 115 = 103 by decide), if_neg (show ¬ nI 115 = 111 by decide), if_pos (show nI 115 = 115 by decide)]
theorem xe_no {w : Int32} (rg : Nat → Int32) (M : MM) (I O : List Int32) (ph nx fo : Int32) {a : Nat} (h : wA w = a) (ha : a < 128) (h3 : ¬ a = 3) (h15 : ¬ a = 15) (h19 : ¬ a = 19) (h23 : ¬ a = 23) (h35 : ¬ a = 35) (h51 : ¬ a = 51) (h55 : ¬ a = 55) (h99 : ¬ a = 99) (h103 : ¬ a = 103) (h111 : ¬ a = 111) (h115 : ¬ a = 115) : xExec w rg M I O ph nx fo = (1, rg, M, I, O, ph, fo) := by
  unfold xExec
  rw [w_127, h, if_neg (show ¬ nI a = 3 from fun q => h3 (nI_inj (a := a) (b := 3) (by omega) (by omega) q)), if_neg (show ¬ nI a = 15 from fun q => h15 (nI_inj (a := a) (b := 15) (by omega) (by omega) q)), if_neg (show ¬ nI a = 19 from fun q => h19 (nI_inj (a := a) (b := 19) (by omega) (by omega) q)), if_neg (show ¬ nI a = 23 from fun q => h23 (nI_inj (a := a) (b := 23) (by omega) (by omega) q)), if_neg (show ¬ nI a = 35 from fun q => h35 (nI_inj (a := a) (b := 35) (by omega) (by omega) q)), if_neg (show ¬ nI a = 51 from fun q => h51 (nI_inj (a := a) (b := 51) (by omega) (by omega) q)), if_neg (show ¬ nI a = 55 from fun q => h55 (nI_inj (a := a) (b := 55) (by omega) (by omega) q)), if_neg (show ¬ nI a = 99 from fun q => h99 (nI_inj (a := a) (b := 99) (by omega) (by omega) q)), if_neg (show ¬ nI a = 103 from fun q => h103 (nI_inj (a := a) (b := 103) (by omega) (by omega) q)), if_neg (show ¬ nI a = 111 from fun q => h111 (nI_inj (a := a) (b := 111) (by omega) (by omega) q)), if_neg (show ¬ nI a = 115 from fun q => h115 (nI_inj (a := a) (b := 115) (by omega) (by omega) q))]
theorem rx_jump {k : Nat} (w pc sta : Int32) (rg : Nat → Int32) (M : MM) (I O : List Int32) (h1 : 0 ≤ k) (h2 : k < 4) : rEx k w pc sta rg M I O = ((sp_Mo_jumps (nI k) w pc sta rg).1, (sp_Mo_jumps (nI k) w pc sta rg).2.1, (sp_Mo_jumps (nI k) w pc sta rg).2.2, M, I, O) := by
  unfold rEx
  rw [if_neg (show ¬ k = 48 by omega), if_pos h2]
theorem rx_branch {k : Nat} (w pc sta : Int32) (rg : Nat → Int32) (M : MM) (I O : List Int32) (h1 : 4 ≤ k) (h2 : k < 10) : rEx k w pc sta rg M I O = ((sp_Mo_branch (sp_Mo_bits w 12 3) w pc sta rg).1, (sp_Mo_branch (sp_Mo_bits w 12 3) w pc sta rg).2, rg, M, I, O) := by
  unfold rEx
  rw [if_neg (show ¬ k = 48 by omega), if_neg (show ¬ k < 4 by omega), if_pos h2]
theorem rx_load {k : Nat} (w pc sta : Int32) (rg : Nat → Int32) (M : MM) (I O : List Int32) (h1 : 10 ≤ k) (h2 : k < 15) : rEx k w pc sta rg M I O = ((rLd M (sp_Mo_bits w 12 3) w (zN ((1 : Int32) <<< ((sp_Mo_bits w 12 3 &&& 3) &&& 31))) pc sta rg).1, (rLd M (sp_Mo_bits w 12 3) w (zN ((1 : Int32) <<< ((sp_Mo_bits w 12 3 &&& 3) &&& 31))) pc sta rg).2.1, (rLd M (sp_Mo_bits w 12 3) w (zN ((1 : Int32) <<< ((sp_Mo_bits w 12 3 &&& 3) &&& 31))) pc sta rg).2.2, M, I, O) := by
  unfold rEx
  rw [if_neg (show ¬ k = 48 by omega), if_neg (show ¬ k < 4 by omega), if_neg (show ¬ k < 10 by omega), if_pos h2]
theorem rx_store {k : Nat} (w pc sta : Int32) (rg : Nat → Int32) (M : MM) (I O : List Int32) (h1 : 15 ≤ k) (h2 : k < 18) : rEx k w pc sta rg M I O = ((rSt M w (zN ((1 : Int32) <<< (sp_Mo_bits w 12 3 &&& 31))) pc sta rg).1, (rSt M w (zN ((1 : Int32) <<< (sp_Mo_bits w 12 3 &&& 31))) pc sta rg).2.1, rg, (rSt M w (zN ((1 : Int32) <<< (sp_Mo_bits w 12 3 &&& 31))) pc sta rg).2.2, I, O) := by
  unfold rEx
  rw [if_neg (show ¬ k = 48 by omega), if_neg (show ¬ k < 4 by omega), if_neg (show ¬ k < 10 by omega), if_neg (show ¬ k < 15 by omega), if_pos h2]
theorem rx_with {k : Nat} (w pc sta : Int32) (rg : Nat → Int32) (M : MM) (I O : List Int32) (h1 : 18 ≤ k) (h2 : k < 24) : rEx k w pc sta rg M I O = (pc + 4, sta, sp_Mo_put w (sp_Mo_plain (sp_Mo_bits w 12 3) 0 (rg (sp_Mo_bits w 15 5).toNatClampNeg) (sp_Mo_byUpper w)) rg, M, I, O) := by
  unfold rEx
  rw [if_neg (show ¬ k = 48 by omega), if_neg (show ¬ k < 4 by omega), if_neg (show ¬ k < 10 by omega), if_neg (show ¬ k < 15 by omega), if_neg (show ¬ k < 18 by omega), if_pos h2]
  rfl
theorem rx_shift {k : Nat} (w pc sta : Int32) (rg : Nat → Int32) (M : MM) (I O : List Int32) (h1 : 24 ≤ k) (h2 : k < 27) : rEx k w pc sta rg M I O = (pc + 4, sta, sp_Mo_put w (sp_Mo_plain (sp_Mo_bits w 12 3) (o30 w) (rg (sp_Mo_bits w 15 5).toNatClampNeg) (sp_Mo_bits w 20 5)) rg, M, I, O) := by
  unfold rEx
  rw [if_neg (show ¬ k = 48 by omega), if_neg (show ¬ k < 4 by omega), if_neg (show ¬ k < 10 by omega), if_neg (show ¬ k < 15 by omega), if_neg (show ¬ k < 18 by omega), if_neg (show ¬ k < 24 by omega), if_pos h2]
  rfl
theorem rx_plain {k : Nat} (w pc sta : Int32) (rg : Nat → Int32) (M : MM) (I O : List Int32) (h1 : 27 ≤ k) (h2 : k < 37) : rEx k w pc sta rg M I O = (pc + 4, sta, sp_Mo_put w (sp_Mo_plain (sp_Mo_bits w 12 3) (o30 w) (rg (sp_Mo_bits w 15 5).toNatClampNeg) (rg (sp_Mo_bits w 20 5).toNatClampNeg)) rg, M, I, O) := by
  unfold rEx
  rw [if_neg (show ¬ k = 48 by omega), if_neg (show ¬ k < 4 by omega), if_neg (show ¬ k < 10 by omega), if_neg (show ¬ k < 15 by omega), if_neg (show ¬ k < 18 by omega), if_neg (show ¬ k < 24 by omega), if_neg (show ¬ k < 27 by omega), if_pos h2]
  rfl
theorem rx_more {k : Nat} (w pc sta : Int32) (rg : Nat → Int32) (M : MM) (I O : List Int32) (h1 : 37 ≤ k) (h2 : k < 45) : rEx k w pc sta rg M I O = (pc + 4, sta, sp_Mo_put w (sp_Mo_more (sp_Mo_bits w 12 3) (rg (sp_Mo_bits w 15 5).toNatClampNeg) (rg (sp_Mo_bits w 20 5).toNatClampNeg)) rg, M, I, O) := by
  unfold rEx
  rw [if_neg (show ¬ k = 48 by omega), if_neg (show ¬ k < 4 by omega), if_neg (show ¬ k < 10 by omega), if_neg (show ¬ k < 15 by omega), if_neg (show ¬ k < 18 by omega), if_neg (show ¬ k < 24 by omega), if_neg (show ¬ k < 27 by omega), if_neg (show ¬ k < 37 by omega), if_pos h2]
  rfl
theorem rx_fence (w pc sta : Int32) (rg : Nat → Int32) (M : MM) (I O : List Int32) : rEx 45 w pc sta rg M I O = (pc + 4, sta, rg, M, I, O) := rfl
theorem rx_call (w pc sta : Int32) (rg : Nat → Int32) (M : MM) (I O : List Int32) : rEx 46 w pc sta rg M I O = (sPc rg M I O sta pc, sSt rg M I O sta, (xServe rg M I O sta).2.1, (xServe rg M I O sta).2.2.1, (xServe rg M I O sta).2.2.2.1, (xServe rg M I O sta).2.2.2.2.1) := rfl
theorem rx_break (w pc sta : Int32) (rg : Nat → Int32) (M : MM) (I O : List Int32) : rEx 47 w pc sta rg M I O = (pc, sp_Mo_trap 5, rg, M, I, O) := rfl
theorem rx_none (w pc sta : Int32) (rg : Nat → Int32) (M : MM) (I O : List Int32) : rEx 48 w pc sta rg M I O = (pc, sp_Mo_trap 1, rg, M, I, O) := rfl

/-! one instruction: class and reference do the same -/
theorem keep_put (w v : Int32) (rg : Nat → Int32) : sp_Rv_keep w v rg = (0, sp_Mo_put w v rg) := by
  unfold sp_Rv_keep sp_Mo_put
  rw [bits5]
  obtain ⟨j, hj, e⟩ := pk_andE (zushr w 7) (m := 31) 5 (by decide)
  rw [e]
  rcases Nat.eq_zero_or_pos j with c | c
  · rw [if_pos (by rw [c]; exact nI_0), if_pos (by rw [c]; exact (by decide : nI 0 ≤ 0))]
  · rw [if_neg (nI_ne0 c (by omega)), if_neg (nI_nle c (by omega))]
abbrev XE : Type := Int32 × (Nat → Int32) × MM × List Int32 × List Int32 × Int32 × Int32
def xFin (pc : Int32) (E : XE) : RX := if E.1 = 0 then (if E.2.2.2.2.2.1 = 1 then (E.2.2.2.2.2.2, E.2.2.2.2.2.1, E.2.1, E.2.2.1, E.2.2.2.1, E.2.2.2.2.1) else (pc, E.2.2.2.2.2.1, E.2.1, E.2.2.1, E.2.2.2.1, E.2.2.2.2.1)) else (pc, 10 + E.1, E.2.1, E.2.2.1, E.2.2.2.1, E.2.2.2.2.1)
theorem fin_ok (pc fo : Int32) (rg : Nat → Int32) (M : MM) (I O : List Int32) : xFin pc (0, rg, M, I, O, 1, fo) = (fo, 1, rg, M, I, O) := rfl
theorem wE_0 {w : Int32} (h : ¬ wA w = 115) : wE w = 0 := by
  unfold wE
  rw [if_neg (fun q => h (by rw [q]; decide)), if_neg (fun q => h (by rw [q]; decide))]
theorem kn_51 : ∀ b, b < 8 → ∀ c, c < 128 → kN 51 b c 0 = if c = 0 then 27 + b else if c = 1 then 37 + b else if c = 32 then (if b = 0 then 35 else if b = 5 then 36 else 48) else 48 := by decide +kernel
theorem kn_19 : ∀ b, b < 8 → ∀ c, c < 128 → kN 19 b c 0 = if b = 1 then (if c = 0 then 24 else 48) else if b = 5 then (if c = 0 then 25 else if c = 32 then 26 else 48) else if b = 0 then 18 else if b < 5 then 17 + b else 16 + b := by decide +kernel
theorem kn_99 : ∀ b, b < 8 → ∀ c, c < 128 → kN 99 b c 0 = if b < 2 then 4 + b else if b < 4 then 48 else 2 + b := by decide +kernel
theorem kn_3 : ∀ b, b < 8 → ∀ c, c < 128 → kN 3 b c 0 = if b < 3 then 10 + b else if b = 3 then 48 else if b < 6 then 9 + b else 48 := by decide +kernel
theorem kn_35 : ∀ b, b < 8 → ∀ c, c < 128 → kN 35 b c 0 = if b < 3 then 15 + b else 48 := by decide +kernel
theorem kn_103 : ∀ b, b < 8 → ∀ c, c < 128 → kN 103 b c 0 = if b = 0 then 3 else 48 := by decide +kernel
theorem kn_15 : ∀ b, b < 8 → ∀ c, c < 128 → kN 15 b c 0 = if b = 0 then 45 else 48 := by decide +kernel
theorem kn_55 (b c : Nat) : kN 55 b c 0 = 0 := rfl
theorem kn_23 (b c : Nat) : kN 23 b c 0 = 1 := rfl
theorem kn_111 (b c : Nat) : kN 111 b c 0 = 2 := rfl
theorem kn_115 : ∀ b, b < 8 → ∀ c, c < 128 → kN 115 b c 0 = 48 ∧ kN 115 b c 46 = 46 ∧ kN 115 b c 47 = 47 := by decide +kernel
theorem va_in : ∀ x, x < 46 → vA x = 3 ∨ vA x = 15 ∨ vA x = 19 ∨ vA x = 23 ∨ vA x = 35 ∨ vA x = 51 ∨ vA x = 55 ∨ vA x = 99 ∨ vA x = 103 ∨ vA x = 111 ∨ vA x = 115 := by decide +kernel
theorem va_no (a : Nat) (ha : a < 128) (h3 : ¬ a = 3) (h15 : ¬ a = 15) (h19 : ¬ a = 19) (h23 : ¬ a = 23) (h35 : ¬ a = 35) (h51 : ¬ a = 51) (h55 : ¬ a = 55) (h99 : ¬ a = 99) (h103 : ¬ a = 103) (h111 : ¬ a = 111) (h115 : ¬ a = 115) : ∀ x, x < 46 → ¬ a = vA x := by
  intro x hx e
  rcases va_in x hx with q | q | q | q | q | q | q | q | q | q | q <;> omega
theorem kn_no {a b c : Nat} (h : ∀ x, x < 46 → ¬ a = vA x) : kN a b c 0 = 48 := by
  refine kS_none (n := 48) (fun x hx => ?_) 48 0 (by omega)
  unfold kQ
  rcases t_shape x hx with ⟨h1, h2, h3⟩ | ⟨h1, h2, h3⟩ | ⟨h1, h2, h3⟩ | ⟨h1, h2, h3⟩
  · have hx : x < 46 := by
      unfold tT at h1
      by_cases c : x < 46
      · exact c
      · rw [if_neg (by omega), if_neg (by omega), if_neg (by omega), if_neg c] at h1
        cases h1
    rw [if_pos h1]
    exact beq_eq_false_iff_ne.mpr (h x hx)
  · have hx : x < 46 := by
      unfold tT at h1
      by_cases c : x < 46
      · exact c
      · rw [if_neg (by omega), if_neg (by omega), if_neg (by omega), if_neg c] at h1
        cases h1
    rw [if_neg (by omega), if_pos h1, beq_eq_false_iff_ne.mpr (h x hx)]
    rfl
  · have hx : x < 46 := by
      unfold tT at h1
      by_cases c : x < 46
      · exact c
      · rw [if_neg (by omega), if_neg (by omega), if_neg (by omega), if_neg c] at h1
        cases h1
    rw [if_neg (by omega), if_neg (by omega), if_pos h1, beq_eq_false_iff_ne.mpr (h x hx)]
    rfl
  · rw [if_neg (by omega), if_neg (by omega), if_neg (by omega)]
    exact beq_eq_false_iff_ne.mpr (by rcases h3 with q | q <;> omega)
theorem bit30 (w : Int32) : sp_Mo_bits w 30 1 = nI (zN w / 1073741824 % 2) := by
  have h := zN_lt w
  unfold sp_Mo_bits
  rw [z_ushr w 30 30 (by decide)]
  exact pk_andN (by omega) 1 (by decide)
theorem o30_0 {w : Int32} (h : wC w < 32) : o30 w = 0 := by
  unfold wC at h
  unfold o30
  rw [bit30, show zN w / 1073741824 % 2 = 0 by omega]
  exact if_neg (by decide)
theorem o30_1 {w : Int32} (h : wC w = 32) : o30 w = 1 := by
  unfold wC at h
  unfold o30
  rw [bit30, show zN w / 1073741824 % 2 = 1 by omega]
  exact if_pos (by decide)
theorem f8 : ∀ b, b < 8 → nI b = 0 ∨ nI b = 1 ∨ nI b = 2 ∨ nI b = 3 ∨ nI b = 4 ∨ nI b = 5 ∨ nI b = 6 ∨ nI b = 7 := by decide
theorem f03 : ∀ b, b < 4 → nI b = 0 ∨ nI b = 1 ∨ nI b = 2 ∨ nI b = 3 := by decide
theorem f47 : ∀ b, b < 8 → 4 ≤ b → nI b = 4 ∨ nI b = 5 ∨ nI b = 6 ∨ nI b = 7 := by decide
theorem ex_51 {w pc : Int32} {rg : Nat → Int32} {M : MM} {I O : List Int32} (b c : Nat) (hb : b < 8) (hc : c < 128) (hm : sp_Rv_middle w = nI b) (hf : sp_Mo_bits w 12 3 = nI b) (ht : sp_Rv_top w = nI c) (h30 : c < 32 → o30 w = 0) (h31 : c = 32 → o30 w = 1) :
    rEx (if c = 0 then 27 + b else if c = 1 then 37 + b else if c = 32 then (if b = 0 then 35 else if b = 5 then 36 else 48) else 48) w pc 1 rg M I O = xFin pc ((sp_Rv_operate w rg).1, (sp_Rv_operate w rg).2, M, I, O, 1, pc + 4) := by
  unfold sp_Rv_operate
  rw [ht, hm]
  by_cases c0 : c = 0
  · rw [if_pos c0, if_pos (show nI c = 0 by rw [c0]; exact nI_0), rx_plain _ _ _ _ _ _ _ (by omega) (by omega), h30 (by omega), hf, plain_eq _ _ _ (f8 b hb), bits5, bits5, keep_put]
    rfl
  · rw [if_neg c0, if_neg (show ¬ nI c = 0 from nI_ne0 (by omega) (by omega))]
    by_cases c1 : c = 1
    · rw [if_pos c1, if_pos (show nI c = 1 by rw [c1]; rfl)]
      by_cases d : 4 ≤ b
      · rw [if_pos (show 4 ≤ nI b from nI_le (a := 4) d (by omega)), rx_more _ _ _ _ _ _ _ (by omega) (by omega), hf, more_hi _ _ _ (f47 b hb d), bits5, bits5, keep_put]
        rfl
      · rw [if_neg (show ¬ 4 ≤ nI b from nI_ge (b := 4) (by omega) (by omega)), rx_more _ _ _ _ _ _ _ (by omega) (by omega), hf, more_lo _ _ _ (f03 b (by omega)), bits5, bits5, keep_put]
        rfl
    · rw [if_neg c1, if_neg (show ¬ nI c = 1 from fun q => c1 (nI_inj (b := 1) (by omega) (by omega) q))]
      by_cases c2 : c = 32
      · rw [if_pos c2, if_pos (show nI c = 32 by rw [c2]; rfl)]
        by_cases d0 : b = 0
        · rw [if_pos d0, if_pos (show nI b = 0 by rw [d0]; exact nI_0), rx_plain _ _ _ _ _ _ _ (by omega) (by omega), h31 c2, hf, d0, bits5, bits5, keep_put]
          rfl
        · rw [if_neg d0, if_neg (show ¬ nI b = 0 from nI_ne0 (by omega) (by omega))]
          by_cases d5 : b = 5
          · rw [if_pos d5, if_pos (show nI b = 5 by rw [d5]; rfl), rx_plain _ _ _ _ _ _ _ (by omega) (by omega), h31 c2, hf, d5, bits5, bits5, keep_put]
            rfl
          · rw [if_neg d5, if_neg (show ¬ nI b = 5 from fun q => d5 (nI_inj (b := 5) (by omega) (by omega) q)), rx_none]
            rfl
      · rw [if_neg c2, if_neg (show ¬ nI c = 32 from fun q => c2 (nI_inj (b := 32) (by omega) (by omega) q)), rx_none]
        rfl
theorem sh20_b (x : BitVec 32) : (x >>> 20) &&& 31#32 = (x.sshiftRight 20) &&& 31#32 := by
  apply BitVec.eq_of_getLsbD_eq
  intro i hi
  simp only [BitVec.getLsbD_sshiftRight, BitVec.getLsbD_ushiftRight, BitVec.getLsbD_and, BitVec.msb_eq_getLsbD_last]
  revert i
  refine bv_cases ?_ ?_ ?_ ?_ ?_ ?_ ?_ ?_ ?_ ?_ ?_ ?_ ?_ ?_ ?_ ?_ ?_ ?_ ?_ ?_ ?_ ?_ ?_ ?_ ?_ ?_ ?_ ?_ ?_ ?_ ?_ ?_ <;> simp
theorem sh20 (w : Int32) : sp_Mo_bits w 20 5 = (w >>> ((20 : Int32) &&& 31)) &&& 31 := congrArg Int32.ofBitVec (sh20_b w.toBitVec)
theorem and31 (z : Int32) : (z &&& 31) &&& 31 = z &&& 31 := by
  rw [Int32.and_assoc]
  rfl
theorem ex_19 {w pc : Int32} {rg : Nat → Int32} {M : MM} {I O : List Int32} (b c : Nat) (hb : b < 8) (hc : c < 128) (hm : sp_Rv_middle w = nI b) (hf : sp_Mo_bits w 12 3 = nI b) (ht : sp_Rv_top w = nI c) (h30 : c < 32 → o30 w = 0) (h31 : c = 32 → o30 w = 1) :
    rEx (if b = 1 then (if c = 0 then 24 else 48) else if b = 5 then (if c = 0 then 25 else if c = 32 then 26 else 48) else if b = 0 then 18 else if b < 5 then 17 + b else 16 + b) w pc 1 rg M I O = xFin pc ((sp_Rv_operateWithConstant w rg).1, (sp_Rv_operateWithConstant w rg).2, M, I, O, 1, pc + 4) := by
  unfold sp_Rv_operateWithConstant
  rw [ht, hm]
  by_cases b1 : b = 1
  · rw [if_pos b1, if_pos (show nI b = 1 by rw [b1]; rfl)]
    by_cases c0 : c = 0
    · rw [if_pos c0, if_pos (show nI c = 0 by rw [c0]; exact nI_0), rx_shift _ _ _ _ _ _ _ (by omega) (by omega), h30 (by omega), hf, b1, sh20, bits5, keep_put,
        show ∀ X Y : Int32, sp_Mo_plain (nI 1) 0 X Y = X <<< ((Y &&& 31) &&& 31) from fun _ _ => rfl, and31]
      rfl
    · rw [if_neg c0, if_neg (show ¬ nI c = 0 from nI_ne0 (by omega) (by omega)), rx_none]
      rfl
  · rw [if_neg b1, if_neg (show ¬ nI b = 1 from fun q => b1 (nI_inj (b := 1) (by omega) (by omega) q))]
    by_cases b5 : b = 5
    · rw [if_pos b5, if_pos (show nI b = 5 by rw [b5]; rfl)]
      by_cases c0 : c = 0
      · rw [if_pos c0, if_neg (show ¬ nI c = 32 by rw [c0]; decide), if_pos (show nI c = 0 by rw [c0]; exact nI_0), rx_shift _ _ _ _ _ _ _ (by omega) (by omega), h30 (by omega), hf, b5, sh20, bits5, keep_put,
          show ∀ X Y : Int32, sp_Mo_plain (nI 5) 0 X Y = zushr X (Y &&& 31) from fun _ _ => rfl, and31]
        rfl
      · rw [if_neg c0]
        by_cases c2 : c = 32
        · rw [if_pos c2, if_pos (show nI c = 32 by rw [c2]; rfl), rx_shift _ _ _ _ _ _ _ (by omega) (by omega), h31 c2, hf, b5, sh20, bits5, keep_put,
            show ∀ X Y : Int32, sp_Mo_plain (nI 5) 1 X Y = X >>> ((Y &&& 31) &&& 31) from fun _ _ => rfl, and31]
          rfl
        · rw [if_neg c2, if_neg (show ¬ nI c = 32 from fun q => c2 (nI_inj (b := 32) (by omega) (by omega) q)), if_neg (show ¬ nI c = 0 from nI_ne0 (by omega) (by omega)), rx_none]
          rfl
    · rw [if_neg b5, if_neg (show ¬ nI b = 5 from fun q => b5 (nI_inj (b := 5) (by omega) (by omega) q))]
      have hk : 18 ≤ (if b = 0 then 18 else if b < 5 then 17 + b else 16 + b) ∧ (if b = 0 then 18 else if b < 5 then 17 + b else 16 + b) < 24 := by
        by_cases d0 : b = 0
        · rw [if_pos d0]
          omega
        · rw [if_neg d0]
          by_cases d5 : b < 5
          · rw [if_pos d5]
            omega
          · rw [if_neg d5]
            omega
      rw [rx_with _ _ _ _ _ _ _ hk.1 hk.2, hf, plain_eq _ _ _ (f8 b hb), of_upper, bits5, keep_put]
      rfl
theorem go_x (pc to : Int32) (rg : Nat → Int32) (M : MM) (I O : List Int32) : xFin pc ((sp_Rv_goTo to (pc + 4)).1, rg, M, I, O, 1, (sp_Rv_goTo to (pc + 4)).2) = ((sp_Mo_isGone to pc 1).2.1, (sp_Mo_isGone to pc 1).2.2, rg, M, I, O) := by
  unfold sp_Rv_goTo sp_Mo_isGone
  by_cases c : to &&& 3 = 0
  · rw [if_pos c, if_pos c]
    rfl
  · rw [if_neg c, if_neg c]
    rfl
theorem jump_x (w pc to : Int32) (rg : Nat → Int32) (M : MM) (I O : List Int32) : xFin pc ((sp_Rv_jump w to pc (pc + 4) rg).1, (sp_Rv_jump w to pc (pc + 4) rg).2.2, M, I, O, 1, (sp_Rv_jump w to pc (pc + 4) rg).2.1) = if (sp_Mo_isGone to pc 1).1 = 0 then ((sp_Mo_isGone to pc 1).2.1, (sp_Mo_isGone to pc 1).2.2, rg, M, I, O) else ((sp_Mo_isGone to pc 1).2.1, (sp_Mo_isGone to pc 1).2.2, sp_Mo_put w (pc + 4) rg, M, I, O) := by
  unfold sp_Rv_jump
  rw [keep_put]
  unfold sp_Rv_goTo sp_Mo_isGone
  by_cases c : to &&& 3 = 0
  · rw [if_pos c, if_pos c]
    rfl
  · rw [if_neg c, if_neg c]
    rfl
theorem ite_pack {α β γ δ : Type} {p : Prop} {dp : Decidable p} (a1 a2 : α) (b1 b2 : β) (c1 c2 : γ) (d : δ) : ((if p then (a1, b1, c1) else (a2, b2, c2)).1, (if p then (a1, b1, c1) else (a2, b2, c2)).2.1, (if p then (a1, b1, c1) else (a2, b2, c2)).2.2, d) = if p then (a1, b1, c1, d) else (a2, b2, c2, d) := by
  by_cases h : p
  · rw [if_pos h, if_pos h]
  · rw [if_neg h, if_neg h]
theorem ex_55 {w pc : Int32} {rg : Nat → Int32} {M : MM} {I O : List Int32} : rEx 0 w pc 1 rg M I O = xFin pc ((sp_Rv_keep w (w &&& (-4096)) rg).1, (sp_Rv_keep w (w &&& (-4096)) rg).2, M, I, O, 1, pc + 4) := by
  rw [keep_put]
  rfl
theorem ex_23 {w pc : Int32} {rg : Nat → Int32} {M : MM} {I O : List Int32} : rEx 1 w pc 1 rg M I O = xFin pc ((sp_Rv_keep w (pc + (w &&& (-4096))) rg).1, (sp_Rv_keep w (pc + (w &&& (-4096))) rg).2, M, I, O, 1, pc + 4) := by
  rw [keep_put]
  rfl
theorem ex_111 {w pc : Int32} {rg : Nat → Int32} {M : MM} {I O : List Int32} : rEx 2 w pc 1 rg M I O = xFin pc ((sp_Rv_jump w (pc + (sp_Rv_jumpOffset w)) pc (pc + 4) rg).1, (sp_Rv_jump w (pc + (sp_Rv_jumpOffset w)) pc (pc + 4) rg).2.2, M, I, O, 1, (sp_Rv_jump w (pc + (sp_Rv_jumpOffset w)) pc (pc + 4) rg).2.1) := by
  rw [jump_x, rx_jump _ _ _ _ _ _ _ (by omega) (by omega)]
  have e : sp_Mo_jumps (nI 2) w pc 1 rg = if ((sp_Mo_isGone (pc + (sp_Mo_byJump w)) pc 1).1) = 0 then ((sp_Mo_isGone (pc + (sp_Mo_byJump w)) pc 1).2.1, (sp_Mo_isGone (pc + (sp_Mo_byJump w)) pc 1).2.2, rg) else ((sp_Mo_isGone (pc + (sp_Mo_byJump w)) pc 1).2.1, (sp_Mo_isGone (pc + (sp_Mo_byJump w)) pc 1).2.2, (sp_Mo_put w (pc + 4) rg)) := rfl
  rw [e, of_jump]
  exact ite_pack _ _ _ _ _ _ (M, I, O)
theorem ex_103 {w pc : Int32} {rg : Nat → Int32} {M : MM} {I O : List Int32} (b : Nat) (hb : b < 8) (hm : sp_Rv_middle w = nI b) : rEx (if b = 0 then 3 else 48) w pc 1 rg M I O = xFin pc ((sp_Rv_jumpByRegister w pc (pc + 4) rg).1, (sp_Rv_jumpByRegister w pc (pc + 4) rg).2.2, M, I, O, 1, (sp_Rv_jumpByRegister w pc (pc + 4) rg).2.1) := by
  unfold sp_Rv_jumpByRegister
  rw [hm]
  by_cases b0 : b = 0
  · rw [if_pos b0, if_pos (show nI b = 0 by rw [b0]; exact nI_0), jump_x, rx_jump _ _ _ _ _ _ _ (by omega) (by omega)]
    have e : sp_Mo_jumps (nI 3) w pc 1 rg = if ((sp_Mo_isGone (((rg (sp_Mo_bits w 15 5).toNatClampNeg) + (sp_Mo_byUpper w)) &&& (-2)) pc 1).1) = 0 then ((sp_Mo_isGone (((rg (sp_Mo_bits w 15 5).toNatClampNeg) + (sp_Mo_byUpper w)) &&& (-2)) pc 1).2.1, (sp_Mo_isGone (((rg (sp_Mo_bits w 15 5).toNatClampNeg) + (sp_Mo_byUpper w)) &&& (-2)) pc 1).2.2, rg) else ((sp_Mo_isGone (((rg (sp_Mo_bits w 15 5).toNatClampNeg) + (sp_Mo_byUpper w)) &&& (-2)) pc 1).2.1, (sp_Mo_isGone (((rg (sp_Mo_bits w 15 5).toNatClampNeg) + (sp_Mo_byUpper w)) &&& (-2)) pc 1).2.2, (sp_Mo_put w (pc + 4) rg)) := rfl
    rw [e, of_upper, bits5]
    exact ite_pack _ _ _ _ _ _ (M, I, O)
  · rw [if_neg b0, if_neg (show ¬ nI b = 0 from nI_ne0 (by omega) (by omega)), rx_none]
    rfl
theorem ex_15 {w pc : Int32} {rg : Nat → Int32} {M : MM} {I O : List Int32} (b : Nat) (hb : b < 8) (hm : sp_Rv_middle w = nI b) : rEx (if b = 0 then 45 else 48) w pc 1 rg M I O = xFin pc (if (sp_Rv_middle w) = 0 then (0, rg, M, I, O, 1, pc + 4) else (1, rg, M, I, O, 1, pc + 4)) := by
  rw [hm]
  by_cases b0 : b = 0
  · rw [if_pos b0, if_pos (show nI b = 0 by rw [b0]; exact nI_0), rx_fence]
    rfl
  · rw [if_neg b0, if_neg (show ¬ nI b = 0 from nI_ne0 (by omega) (by omega)), rx_none]
    rfl
theorem cmp_eq (x y : Int32) : lg_cmp x.toInt64 y.toInt64 = 0 ↔ x = y := by
  rw [lg_cmp_eq]
  constructor
  · intro h
    have q := congrArg Int64.toInt h
    rw [Int32.toInt_toInt64, Int32.toInt_toInt64] at q
    exact Int32.toInt_inj.mp q
  · intro h
    rw [h]
theorem cmp_ge (x y : Int32) : 0 ≤ lg_cmp x.toInt64 y.toInt64 ↔ y ≤ x := by
  rw [lg_cmp_ge, Int64.le_iff_toInt_le, Int32.toInt_toInt64, Int32.toInt_toInt64, Int32.le_iff_toInt_le]
theorem br_eq {p q : Prop} {dp : Decidable p} [dq : Decidable q] (h : p ↔ q) {α : Type} (a b : α) : (if p then a else b) = if q then a else b := by
  by_cases c : p
  · rw [if_pos c, if_pos (h.mp c)]
  · rw [if_neg c, if_neg (fun d => c (h.mpr d))]
theorem fin_if {p : Prop} {dp : Decidable p} (pc : Int32) (rg : Nat → Int32) (M : MM) (I O : List Int32) (a b : Int32 × Int32) (x y : Int32 × Int32) (h1 : xFin pc (a.1, rg, M, I, O, 1, a.2) = (x.1, x.2, rg, M, I, O)) (h2 : xFin pc (b.1, rg, M, I, O, 1, b.2) = (y.1, y.2, rg, M, I, O)) :
    ((if p then x else y).1, (if p then x else y).2, rg, M, I, O) = xFin pc ((if p then a else b).1, rg, M, I, O, 1, (if p then a else b).2) := by
  by_cases c : p
  · rw [if_pos c, if_pos c]
    exact h1.symm
  · rw [if_neg c, if_neg c]
    exact h2.symm

theorem br_ne {p q : Prop} {dp : Decidable p} [dq : Decidable q] (h : p ↔ ¬ q) {α : Type} (a b : α) : (if p then a else b) = if q then b else a := by
  by_cases c : q
  · rw [if_pos c, if_neg (fun d => h.mp d c)]
  · rw [if_neg c, if_pos (h.mpr c)]
theorem bl_0 (x y : Int32) : 0 ≤ lg_cmp (x.toInt64 &&& 4294967295) (y.toInt64 &&& 4294967295) ↔ sp_Rv_isBelow x y = 0 := by
  unfold sp_Rv_isBelow sp_Rv_unsigned
  by_cases c : 0 ≤ lg_cmp (x.toInt64 &&& 4294967295) (y.toInt64 &&& 4294967295)
  · rw [if_pos c]
    exact ⟨fun _ => rfl, fun _ => c⟩
  · rw [if_neg c]
    exact ⟨fun q => absurd q c, fun q => absurd q (by decide)⟩
theorem cmp_lt (x y : Int32) : 0 ≤ lg_cmp x.toInt64 y.toInt64 ↔ ¬ x < y := by
  rw [cmp_ge]
  exact Int32.not_lt.symm
theorem b8 {b : Nat} (h : b < 8) : b = 0 ∨ b = 1 ∨ b = 2 ∨ b = 3 ∨ b = 4 ∨ b = 5 ∨ b = 6 ∨ b = 7 := by omega
theorem ex_99 {w pc : Int32} {rg : Nat → Int32} {M : MM} {I O : List Int32} (b : Nat) (hb : b < 8) (hm : sp_Rv_middle w = nI b) (hf : sp_Mo_bits w 12 3 = nI b) : rEx (if b < 2 then 4 + b else if b < 4 then 48 else 2 + b) w pc 1 rg M I O = xFin pc ((sp_Rv_branch w pc (pc + 4) rg).1, rg, M, I, O, 1, (sp_Rv_branch w pc (pc + 4) rg).2) := by
  have g1 := go_x pc (pc + sp_Rv_branchOffset w) rg M I O
  have g2 : xFin pc (0, rg, M, I, O, 1, pc + 4) = (pc + 4, 1, rg, M, I, O) := rfl
  unfold sp_Rv_branch
  rw [hm]
  rcases b8 hb with rfl | rfl | rfl | rfl | rfl | rfl | rfl | rfl
  · rw [show (if (0 : Nat) < 2 then 4 + 0 else if (0 : Nat) < 4 then 48 else 2 + 0) = 4 from rfl, if_pos (show nI 0 = 0 by decide), rx_branch _ _ _ _ _ _ _ (by omega) (by omega), hf]
    have e : sp_Mo_branch (nI 0) w pc 1 rg = if lg_cmp ((rg (sp_Mo_bits w 15 5).toNatClampNeg) : Int32).toInt64 ((rg (sp_Mo_bits w 20 5).toNatClampNeg) : Int32).toInt64 = 0 then ((sp_Mo_isGone (pc + (sp_Mo_byBranch w)) pc 1).2.1, (sp_Mo_isGone (pc + (sp_Mo_byBranch w)) pc 1).2.2) else (pc + 4, 1) := rfl
    rw [e, br_eq (cmp_eq _ _), of_branch, bits5, bits5]
    exact fin_if pc rg M I O _ _ _ _ g1 g2
  · rw [show (if (1 : Nat) < 2 then 4 + 1 else if (1 : Nat) < 4 then 48 else 2 + 1) = 5 from rfl, if_neg (show ¬ nI 1 = 0 by decide), if_pos (show nI 1 = 1 by decide), rx_branch _ _ _ _ _ _ _ (by omega) (by omega), hf]
    have e : sp_Mo_branch (nI 1) w pc 1 rg = if lg_cmp ((rg (sp_Mo_bits w 15 5).toNatClampNeg) : Int32).toInt64 ((rg (sp_Mo_bits w 20 5).toNatClampNeg) : Int32).toInt64 = 0 then (pc + 4, 1) else ((sp_Mo_isGone (pc + (sp_Mo_byBranch w)) pc 1).2.1, (sp_Mo_isGone (pc + (sp_Mo_byBranch w)) pc 1).2.2) := rfl
    rw [e, br_eq (cmp_eq _ _), of_branch, bits5, bits5]
    exact fin_if pc rg M I O _ _ _ _ g2 g1
  · rw [show (if (2 : Nat) < 2 then 4 + 2 else if (2 : Nat) < 4 then 48 else 2 + 2) = 48 from rfl, if_neg (show ¬ nI 2 = 0 by decide), if_neg (show ¬ nI 2 = 1 by decide), if_pos (show nI 2 = 2 by decide), rx_none]
    rfl
  · rw [show (if (3 : Nat) < 2 then 4 + 3 else if (3 : Nat) < 4 then 48 else 2 + 3) = 48 from rfl, if_neg (show ¬ nI 3 = 0 by decide), if_neg (show ¬ nI 3 = 1 by decide), if_neg (show ¬ nI 3 = 2 by decide), if_pos (show nI 3 = 3 by decide), rx_none]
    rfl
  · rw [show (if (4 : Nat) < 2 then 4 + 4 else if (4 : Nat) < 4 then 48 else 2 + 4) = 6 from rfl, if_neg (show ¬ nI 4 = 0 by decide), if_neg (show ¬ nI 4 = 1 by decide), if_neg (show ¬ nI 4 = 2 by decide), if_neg (show ¬ nI 4 = 3 by decide), if_pos (show nI 4 = 4 by decide), rx_branch _ _ _ _ _ _ _ (by omega) (by omega), hf]
    have e : sp_Mo_branch (nI 4) w pc 1 rg = if 0 ≤ lg_cmp ((rg (sp_Mo_bits w 15 5).toNatClampNeg) : Int32).toInt64 ((rg (sp_Mo_bits w 20 5).toNatClampNeg) : Int32).toInt64 then (pc + 4, 1) else ((sp_Mo_isGone (pc + (sp_Mo_byBranch w)) pc 1).2.1, (sp_Mo_isGone (pc + (sp_Mo_byBranch w)) pc 1).2.2) := rfl
    rw [e, br_eq (cmp_ge _ _), of_branch, bits5, bits5]
    exact fin_if pc rg M I O _ _ _ _ g2 g1
  · rw [show (if (5 : Nat) < 2 then 4 + 5 else if (5 : Nat) < 4 then 48 else 2 + 5) = 7 from rfl, if_neg (show ¬ nI 5 = 0 by decide), if_neg (show ¬ nI 5 = 1 by decide), if_neg (show ¬ nI 5 = 2 by decide), if_neg (show ¬ nI 5 = 3 by decide), if_neg (show ¬ nI 5 = 4 by decide), if_pos (show nI 5 = 5 by decide), rx_branch _ _ _ _ _ _ _ (by omega) (by omega), hf]
    have e : sp_Mo_branch (nI 5) w pc 1 rg = if 0 ≤ lg_cmp ((rg (sp_Mo_bits w 15 5).toNatClampNeg) : Int32).toInt64 ((rg (sp_Mo_bits w 20 5).toNatClampNeg) : Int32).toInt64 then ((sp_Mo_isGone (pc + (sp_Mo_byBranch w)) pc 1).2.1, (sp_Mo_isGone (pc + (sp_Mo_byBranch w)) pc 1).2.2) else (pc + 4, 1) := rfl
    rw [e, br_ne (cmp_lt _ _), of_branch, bits5, bits5]
    exact fin_if pc rg M I O _ _ _ _ g2 g1
  · rw [show (if (6 : Nat) < 2 then 4 + 6 else if (6 : Nat) < 4 then 48 else 2 + 6) = 8 from rfl, if_neg (show ¬ nI 6 = 0 by decide), if_neg (show ¬ nI 6 = 1 by decide), if_neg (show ¬ nI 6 = 2 by decide), if_neg (show ¬ nI 6 = 3 by decide), if_neg (show ¬ nI 6 = 4 by decide), if_neg (show ¬ nI 6 = 5 by decide), if_pos (show nI 6 = 6 by decide), rx_branch _ _ _ _ _ _ _ (by omega) (by omega), hf]
    have e : sp_Mo_branch (nI 6) w pc 1 rg = if 0 ≤ lg_cmp ((((rg (sp_Mo_bits w 15 5).toNatClampNeg) : Int32).toInt64) &&& 4294967295) ((((rg (sp_Mo_bits w 20 5).toNatClampNeg) : Int32).toInt64) &&& 4294967295) then (pc + 4, 1) else ((sp_Mo_isGone (pc + (sp_Mo_byBranch w)) pc 1).2.1, (sp_Mo_isGone (pc + (sp_Mo_byBranch w)) pc 1).2.2) := rfl
    rw [e, br_eq (bl_0 _ _), of_branch, bits5, bits5]
    exact fin_if pc rg M I O _ _ _ _ g2 g1
  · rw [show (if (7 : Nat) < 2 then 4 + 7 else if (7 : Nat) < 4 then 48 else 2 + 7) = 9 from rfl, if_neg (show ¬ nI 7 = 0 by decide), if_neg (show ¬ nI 7 = 1 by decide), if_neg (show ¬ nI 7 = 2 by decide), if_neg (show ¬ nI 7 = 3 by decide), if_neg (show ¬ nI 7 = 4 by decide), if_neg (show ¬ nI 7 = 5 by decide), if_neg (show ¬ nI 7 = 6 by decide), if_pos (show nI 7 = 7 by decide), rx_branch _ _ _ _ _ _ _ (by omega) (by omega), hf]
    have e : sp_Mo_branch (nI 7) w pc 1 rg = if 0 ≤ lg_cmp ((((rg (sp_Mo_bits w 15 5).toNatClampNeg) : Int32).toInt64) &&& 4294967295) ((((rg (sp_Mo_bits w 20 5).toNatClampNeg) : Int32).toInt64) &&& 4294967295) then ((sp_Mo_isGone (pc + (sp_Mo_byBranch w)) pc 1).2.1, (sp_Mo_isGone (pc + (sp_Mo_byBranch w)) pc 1).2.2) else (pc + 4, 1) := rfl
    rw [e, br_eq (bl_0 _ _), of_branch, bits5, bits5]
    exact fin_if pc rg M I O _ _ _ _ g1 g2
theorem sx8_b (x : BitVec 32) : (x <<< 24).sshiftRight 24 = (x.signExtend 8).signExtend 32 := by
  apply BitVec.eq_of_getLsbD_eq
  intro i hi
  simp only [BitVec.getLsbD_sshiftRight, BitVec.getLsbD_shiftLeft, BitVec.getLsbD_signExtend, BitVec.msb_eq_getLsbD_last]
  revert i
  refine bv_cases ?_ ?_ ?_ ?_ ?_ ?_ ?_ ?_ ?_ ?_ ?_ ?_ ?_ ?_ ?_ ?_ ?_ ?_ ?_ ?_ ?_ ?_ ?_ ?_ ?_ ?_ ?_ ?_ ?_ ?_ ?_ ?_ <;> simp
theorem sx8 (v : Int32) : sp_Mo_signed v (8 * nI 1) = v.toInt8.toInt32 := congrArg Int32.ofBitVec (sx8_b v.toBitVec)
theorem sx16_b (x : BitVec 32) : (x <<< 16).sshiftRight 16 = (x.signExtend 16).signExtend 32 := by
  apply BitVec.eq_of_getLsbD_eq
  intro i hi
  simp only [BitVec.getLsbD_sshiftRight, BitVec.getLsbD_shiftLeft, BitVec.getLsbD_signExtend, BitVec.msb_eq_getLsbD_last]
  revert i
  refine bv_cases ?_ ?_ ?_ ?_ ?_ ?_ ?_ ?_ ?_ ?_ ?_ ?_ ?_ ?_ ?_ ?_ ?_ ?_ ?_ ?_ ?_ ?_ ?_ ?_ ?_ ?_ ?_ ?_ ?_ ?_ ?_ ?_ <;> simp
theorem sx16 (v : Int32) : sp_Mo_signed v (8 * nI 2) = v.toInt16.toInt32 := congrArg Int32.ofBitVec (sx16_b v.toBitVec)
theorem sx32_b (x : BitVec 32) : (x <<< 0).sshiftRight 0 = x := by simp
theorem sx32 (v : Int32) : sp_Mo_signed v (8 * nI 4) = v := congrArg Int32.ofBitVec (sx32_b v.toBitVec)
theorem ld_fin {w pc : Int32} {rg : Nat → Int32} {M : MM} {I O : List Int32} (hM : MI M) {k : Nat} (hk : k = 1 ∨ k = 2 ∨ k = 4) (a v : Int32) : ((@ite _ (mPl M a k) (Classical.propDecidable _) (pc + 4, (1 : Int32), sp_Mo_put w v rg) (pc, 12, rg)).1, (@ite _ (mPl M a k) (Classical.propDecidable _) (pc + 4, (1 : Int32), sp_Mo_put w v rg) (pc, 12, rg)).2.1, (@ite _ (mPl M a k) (Classical.propDecidable _) (pc + 4, (1 : Int32), sp_Mo_put w v rg) (pc, 12, rg)).2.2, M, I, O) = xFin pc ((if mHsA M a (nI k) = 0 then ((2 : Int32), rg) else ((sp_Rv_keep w v rg).1, (sp_Rv_keep w v rg).2)).1, (if mHsA M a (nI k) = 0 then ((2 : Int32), rg) else ((sp_Rv_keep w v rg).1, (sp_Rv_keep w v rg).2)).2, M, I, O, 1, pc + 4) := by
  rw [keep_put]
  by_cases c : mPl M a k
  · rw [if_pos c, if_neg ((mHsA_iff hM hk).mpr c)]
    rfl
  · have d : mHsA M a (nI k) = 0 := Classical.byContradiction (fun q => c ((mHsA_iff hM hk).mp q))
    rw [if_neg c, if_pos d]
    rfl
theorem ex_3 {w pc : Int32} {rg : Nat → Int32} {M : MM} {I O : List Int32} (hM : MI M) (b : Nat) (hb : b < 8) (hm : sp_Rv_middle w = nI b) (hf : sp_Mo_bits w 12 3 = nI b) : rEx (if b < 3 then 10 + b else if b = 3 then 48 else if b < 6 then 9 + b else 48) w pc 1 rg M I O = xFin pc ((sp_Rv_load w rg M).1, (sp_Rv_load w rg M).2, M, I, O, 1, pc + 4) := by
  unfold sp_Rv_load
  rw [hm]
  rcases b8 hb with rfl | rfl | rfl | rfl | rfl | rfl | rfl | rfl
  · rw [show (if (0 : Nat) < 3 then 10 + 0 else if (0 : Nat) = 3 then 48 else if (0 : Nat) < 6 then 9 + 0 else 48) = 10 from rfl, if_neg (show ¬ nI 0 = 3 by decide), if_pos (show nI 0 ≤ 5 by decide), if_pos (show nI 0 = 0 by decide), show ((1 : Int32) <<< ((nI 0 &&& 3) &&& 31)) = nI 1 by decide, rx_load _ _ _ _ _ _ _ (by omega) (by omega), hf, show zN ((1 : Int32) <<< ((nI 0 &&& 3) &&& 31)) = 1 by decide]
    unfold rLd
    rw [if_neg (show ¬ 3 ≤ nI 0 by decide), sx8, of_upper, bits5]
    exact ld_fin hM (Or.inl rfl) _ _
  · rw [show (if (1 : Nat) < 3 then 10 + 1 else if (1 : Nat) = 3 then 48 else if (1 : Nat) < 6 then 9 + 1 else 48) = 11 from rfl, if_neg (show ¬ nI 1 = 3 by decide), if_pos (show nI 1 ≤ 5 by decide), if_neg (show ¬ nI 1 = 0 by decide), if_pos (show nI 1 = 1 by decide), show ((1 : Int32) <<< ((nI 1 &&& 3) &&& 31)) = nI 2 by decide, rx_load _ _ _ _ _ _ _ (by omega) (by omega), hf, show zN ((1 : Int32) <<< ((nI 1 &&& 3) &&& 31)) = 2 by decide]
    unfold rLd
    rw [if_neg (show ¬ 3 ≤ nI 1 by decide), sx16, of_upper, bits5]
    exact ld_fin hM (Or.inr (Or.inl rfl)) _ _
  · rw [show (if (2 : Nat) < 3 then 10 + 2 else if (2 : Nat) = 3 then 48 else if (2 : Nat) < 6 then 9 + 2 else 48) = 12 from rfl, if_neg (show ¬ nI 2 = 3 by decide), if_pos (show nI 2 ≤ 5 by decide), if_neg (show ¬ nI 2 = 0 by decide), if_neg (show ¬ nI 2 = 1 by decide), show ((1 : Int32) <<< ((nI 2 &&& 3) &&& 31)) = nI 4 by decide, rx_load _ _ _ _ _ _ _ (by omega) (by omega), hf, show zN ((1 : Int32) <<< ((nI 2 &&& 3) &&& 31)) = 4 by decide]
    unfold rLd
    rw [if_neg (show ¬ 3 ≤ nI 2 by decide), sx32, of_upper, bits5]
    exact ld_fin hM (Or.inr (Or.inr rfl)) _ _
  · rw [show (if (3 : Nat) < 3 then 10 + 3 else if (3 : Nat) = 3 then 48 else if (3 : Nat) < 6 then 9 + 3 else 48) = 48 from rfl, if_pos (show nI 3 = 3 by decide), rx_none]
    rfl
  · rw [show (if (4 : Nat) < 3 then 10 + 4 else if (4 : Nat) = 3 then 48 else if (4 : Nat) < 6 then 9 + 4 else 48) = 13 from rfl, if_neg (show ¬ nI 4 = 3 by decide), if_pos (show nI 4 ≤ 5 by decide), if_neg (show ¬ nI 4 = 0 by decide), if_neg (show ¬ nI 4 = 1 by decide), show ((1 : Int32) <<< ((nI 4 &&& 3) &&& 31)) = nI 1 by decide, rx_load _ _ _ _ _ _ _ (by omega) (by omega), hf, show zN ((1 : Int32) <<< ((nI 4 &&& 3) &&& 31)) = 1 by decide]
    unfold rLd
    rw [if_pos (show 3 ≤ nI 4 by decide), of_upper, bits5]
    exact ld_fin hM (Or.inl rfl) _ _
  · rw [show (if (5 : Nat) < 3 then 10 + 5 else if (5 : Nat) = 3 then 48 else if (5 : Nat) < 6 then 9 + 5 else 48) = 14 from rfl, if_neg (show ¬ nI 5 = 3 by decide), if_pos (show nI 5 ≤ 5 by decide), if_neg (show ¬ nI 5 = 0 by decide), if_neg (show ¬ nI 5 = 1 by decide), show ((1 : Int32) <<< ((nI 5 &&& 3) &&& 31)) = nI 2 by decide, rx_load _ _ _ _ _ _ _ (by omega) (by omega), hf, show zN ((1 : Int32) <<< ((nI 5 &&& 3) &&& 31)) = 2 by decide]
    unfold rLd
    rw [if_pos (show 3 ≤ nI 5 by decide), of_upper, bits5]
    exact ld_fin hM (Or.inr (Or.inl rfl)) _ _
  · rw [show (if (6 : Nat) < 3 then 10 + 6 else if (6 : Nat) = 3 then 48 else if (6 : Nat) < 6 then 9 + 6 else 48) = 48 from rfl, if_neg (show ¬ nI 6 = 3 by decide), if_neg (show ¬ nI 6 ≤ 5 by decide), rx_none]
    rfl
  · rw [show (if (7 : Nat) < 3 then 10 + 7 else if (7 : Nat) = 3 then 48 else if (7 : Nat) < 6 then 9 + 7 else 48) = 48 from rfl, if_neg (show ¬ nI 7 = 3 by decide), if_neg (show ¬ nI 7 ≤ 5 by decide), rx_none]
    rfl
theorem st_fin {pc : Int32} {rg : Nat → Int32} {M : MM} {I O : List Int32} (hM : MI M) {k : Nat} (hk : k = 1 ∨ k = 2 ∨ k = 4) (a v : Int32) : ((@ite _ (mPl M a k) (Classical.propDecidable _) (pc + 4, (1 : Int32), mWr M a (nI k) v) (pc, 12, M)).1, (@ite _ (mPl M a k) (Classical.propDecidable _) (pc + 4, (1 : Int32), mWr M a (nI k) v) (pc, 12, M)).2.1, rg, (@ite _ (mPl M a k) (Classical.propDecidable _) (pc + 4, (1 : Int32), mWr M a (nI k) v) (pc, 12, M)).2.2, I, O) = xFin pc ((if mHsA M a (nI k) = 0 then ((2 : Int32), M) else (0, mWr M a (nI k) v)).1, rg, (if mHsA M a (nI k) = 0 then ((2 : Int32), M) else (0, mWr M a (nI k) v)).2, I, O, 1, pc + 4) := by
  by_cases c : mPl M a k
  · rw [if_pos c, if_neg ((mHsA_iff hM hk).mpr c)]
    rfl
  · have d : mHsA M a (nI k) = 0 := Classical.byContradiction (fun q => c ((mHsA_iff hM hk).mp q))
    rw [if_neg c, if_pos d]
    rfl
theorem ex_35 {w pc : Int32} {rg : Nat → Int32} {M : MM} {I O : List Int32} (hM : MI M) (b : Nat) (hb : b < 8) (hm : sp_Rv_middle w = nI b) (hf : sp_Mo_bits w 12 3 = nI b) : rEx (if b < 3 then 15 + b else 48) w pc 1 rg M I O = xFin pc ((xStore w rg M).1, rg, (xStore w rg M).2, I, O, 1, pc + 4) := by
  unfold xStore xAd
  rw [hm]
  rcases b8 hb with rfl | rfl | rfl | rfl | rfl | rfl | rfl | rfl
  · rw [show (if (0 : Nat) < 3 then 15 + 0 else 48) = 15 from rfl, if_pos (show nI 0 ≤ 2 by decide), show ((1 : Int32) <<< (nI 0 &&& 31)) = nI 1 by decide, rx_store _ _ _ _ _ _ _ (by omega) (by omega), hf, show zN ((1 : Int32) <<< (nI 0 &&& 31)) = 1 by decide]
    unfold rSt
    rw [of_store, bits5, bits5]
    exact st_fin hM (Or.inl rfl) _ _
  · rw [show (if (1 : Nat) < 3 then 15 + 1 else 48) = 16 from rfl, if_pos (show nI 1 ≤ 2 by decide), show ((1 : Int32) <<< (nI 1 &&& 31)) = nI 2 by decide, rx_store _ _ _ _ _ _ _ (by omega) (by omega), hf, show zN ((1 : Int32) <<< (nI 1 &&& 31)) = 2 by decide]
    unfold rSt
    rw [of_store, bits5, bits5]
    exact st_fin hM (Or.inr (Or.inl rfl)) _ _
  · rw [show (if (2 : Nat) < 3 then 15 + 2 else 48) = 17 from rfl, if_pos (show nI 2 ≤ 2 by decide), show ((1 : Int32) <<< (nI 2 &&& 31)) = nI 4 by decide, rx_store _ _ _ _ _ _ _ (by omega) (by omega), hf, show zN ((1 : Int32) <<< (nI 2 &&& 31)) = 4 by decide]
    unfold rSt
    rw [of_store, bits5, bits5]
    exact st_fin hM (Or.inr (Or.inr rfl)) _ _
  · rw [show (if (3 : Nat) < 3 then 15 + 3 else 48) = 48 from rfl, if_neg (show ¬ nI 3 ≤ 2 by decide), rx_none]
    rfl
  · rw [show (if (4 : Nat) < 3 then 15 + 4 else 48) = 48 from rfl, if_neg (show ¬ nI 4 ≤ 2 by decide), rx_none]
    rfl
  · rw [show (if (5 : Nat) < 3 then 15 + 5 else 48) = 48 from rfl, if_neg (show ¬ nI 5 ≤ 2 by decide), rx_none]
    rfl
  · rw [show (if (6 : Nat) < 3 then 15 + 6 else 48) = 48 from rfl, if_neg (show ¬ nI 6 ≤ 2 by decide), rx_none]
    rfl
  · rw [show (if (7 : Nat) < 3 then 15 + 7 else 48) = 48 from rfl, if_neg (show ¬ nI 7 ≤ 2 by decide), rx_none]
    rfl
theorem serve_ph (rg : Nat → Int32) (M : MM) (I O : List Int32) : (xServe rg M I O 1).2.2.2.2.2 = if rg 17 = 0 then 2 else 1 := by
  unfold xServe
  by_cases z : rg 17 = 0
  · rw [if_pos z, if_pos z]
  · rw [if_neg z, if_neg z]
    repeat' split
    all_goals rfl
theorem ex_call {w pc : Int32} {rg : Nat → Int32} {M : MM} {I O : List Int32} : rEx 46 w pc 1 rg M I O = xFin pc ((xServe rg M I O 1).1, (xServe rg M I O 1).2.1, (xServe rg M I O 1).2.2.1, (xServe rg M I O 1).2.2.2.1, (xServe rg M I O 1).2.2.2.2.1, (xServe rg M I O 1).2.2.2.2.2, pc + 4) := by
  rw [rx_call]
  unfold xFin sPc sSt
  have p := serve_ph rg M I O
  dsimp only
  by_cases t : (xServe rg M I O 1).1 = 0
  · rw [if_pos t, if_pos t, if_pos t]
    by_cases z : rg 17 = 0
    · rw [if_pos z] at p
      rw [p, if_pos z, if_neg (show ¬ (2 : Int32) = 1 by decide)]
    · rw [if_neg z] at p
      rw [p, if_neg z, if_pos rfl]
  · rw [if_neg t, if_neg t, if_neg t]

theorem ex_x {w pc : Int32} {rg : Nat → Int32} {M : MM} {I O : List Int32} (hM : MI M) : rEx (rKd w) w pc 1 rg M I O = xFin pc (xExec w rg M I O 1 pc (pc + 4)) := by
  have ha := wA_lt w
  have hb := wB_lt w
  have hc := wC_lt w
  rw [rKd_eq]
  by_cases a3 : wA w = 3
  · rw [xe_3 rg M I O 1 pc (pc + 4) a3, wE_0 (by omega), a3, kn_3 _ hb _ hc]
    exact ex_3 hM _ hb (w_mid w) (w_bits3 w)
  by_cases a15 : wA w = 15
  · rw [xe_15 rg M I O 1 pc (pc + 4) a15, wE_0 (by omega), a15, kn_15 _ hb _ hc]
    exact ex_15 _ hb (w_mid w)
  by_cases a19 : wA w = 19
  · rw [xe_19 rg M I O 1 pc (pc + 4) a19, wE_0 (by omega), a19, kn_19 _ hb _ hc]
    exact ex_19 _ _ hb hc (w_mid w) (w_bits3 w) (w_top w) o30_0 o30_1
  by_cases a23 : wA w = 23
  · rw [xe_23 rg M I O 1 pc (pc + 4) a23, wE_0 (by omega), a23, kn_23]
    exact ex_23 
  by_cases a35 : wA w = 35
  · rw [xe_35 rg M I O 1 pc (pc + 4) a35, wE_0 (by omega), a35, kn_35 _ hb _ hc]
    exact ex_35 hM _ hb (w_mid w) (w_bits3 w)
  by_cases a51 : wA w = 51
  · rw [xe_51 rg M I O 1 pc (pc + 4) a51, wE_0 (by omega), a51, kn_51 _ hb _ hc]
    exact ex_51 _ _ hb hc (w_mid w) (w_bits3 w) (w_top w) o30_0 o30_1
  by_cases a55 : wA w = 55
  · rw [xe_55 rg M I O 1 pc (pc + 4) a55, wE_0 (by omega), a55, kn_55]
    exact ex_55 
  by_cases a99 : wA w = 99
  · rw [xe_99 rg M I O 1 pc (pc + 4) a99, wE_0 (by omega), a99, kn_99 _ hb _ hc]
    exact ex_99 _ hb (w_mid w) (w_bits3 w)
  by_cases a103 : wA w = 103
  · rw [xe_103 rg M I O 1 pc (pc + 4) a103, wE_0 (by omega), a103, kn_103 _ hb _ hc]
    exact ex_103 _ hb (w_mid w)
  by_cases a111 : wA w = 111
  · rw [xe_111 rg M I O 1 pc (pc + 4) a111, wE_0 (by omega), a111, kn_111]
    exact ex_111 
  by_cases a115 : wA w = 115
  · rw [xe_115 rg M I O 1 pc (pc + 4) a115, a115]
    obtain ⟨k1, k2, k3⟩ := kn_115 _ hb _ hc
    unfold wE
    by_cases c : w = 115
    · rw [if_pos c, if_pos c, k2]
      exact ex_call
    · rw [if_neg c, if_neg c]
      by_cases d : w = 1048691
      · rw [if_pos d, if_pos d, k3]
        rfl
      · rw [if_neg d, if_neg d, k1, rx_none]
        rfl
  rw [xe_no rg M I O 1 pc (pc + 4) rfl ha a3 a15 a19 a23 a35 a51 a55 a99 a103 a111 a115, wE_0 a115, kn_no (va_no _ ha a3 a15 a19 a23 a35 a51 a55 a99 a103 a111 a115), rx_none]
  rfl

/-! one step, both sides; runs -/
theorem t_keep (w v : Int32) (rg : Nat → Int32) : zN (sp_Rv_keep w v rg).1 ≤ 5 := by
  rw [keep_put]
  exact (by decide : zN 0 ≤ 5)
theorem t_lit (t : Int32) (h : t = 0 ∨ t = 1 ∨ t = 2 ∨ t = 3 ∨ t = 4 ∨ t = 5) : zN t ≤ 5 := by
  rcases h with rfl | rfl | rfl | rfl | rfl | rfl <;> decide
theorem t_goTo (ad fo : Int32) : zN (sp_Rv_goTo ad fo).1 ≤ 5 := by
  unfold sp_Rv_goTo
  split
  · exact (by decide : zN 0 ≤ 5)
  · exact (by decide : zN 3 ≤ 5)
theorem t_jump (w ad nx fo : Int32) (rg : Nat → Int32) : zN (sp_Rv_jump w ad nx fo rg).1 ≤ 5 := by
  unfold sp_Rv_jump
  split
  · exact t_keep _ _ _
  · exact t_goTo _ _
theorem t_jbr (w nx fo : Int32) (rg : Nat → Int32) : zN (sp_Rv_jumpByRegister w nx fo rg).1 ≤ 5 := by
  unfold sp_Rv_jumpByRegister
  split
  · exact t_jump _ _ _ _ _
  · exact (by decide : zN 1 ≤ 5)
theorem t_branch (w nx fo : Int32) (rg : Nat → Int32) : zN (sp_Rv_branch w nx fo rg).1 ≤ 5 := by
  unfold sp_Rv_branch
  repeat' split
  all_goals first
    | exact t_goTo _ _
    | exact (by decide : zN 0 ≤ 5)
    | exact (by decide : zN 1 ≤ 5)
theorem t_op (w : Int32) (rg : Nat → Int32) : zN (sp_Rv_operate w rg).1 ≤ 5 := by
  unfold sp_Rv_operate
  repeat' split
  all_goals first
    | exact t_keep _ _ _
    | exact (by decide : zN 1 ≤ 5)
theorem t_opc (w : Int32) (rg : Nat → Int32) : zN (sp_Rv_operateWithConstant w rg).1 ≤ 5 := by
  unfold sp_Rv_operateWithConstant
  repeat' split
  all_goals first
    | exact t_keep _ _ _
    | exact (by decide : zN 1 ≤ 5)
theorem t_load (w : Int32) (rg : Nat → Int32) (M : MM) : zN (sp_Rv_load w rg M).1 ≤ 5 := by
  unfold sp_Rv_load
  repeat' split
  all_goals first
    | exact t_keep _ _ _
    | exact (by decide : zN 1 ≤ 5)
    | exact (by decide : zN 2 ≤ 5)
theorem t_store (w : Int32) (rg : Nat → Int32) (M : MM) : zN (xStore w rg M).1 ≤ 5 := by
  unfold xStore
  repeat' split
  all_goals first
    | exact (by decide : zN 0 ≤ 5)
    | exact (by decide : zN 1 ≤ 5)
    | exact (by decide : zN 2 ≤ 5)
theorem t_copy (a b n : Int32) (M : MM) : zN (xCopy a b n M).1 ≤ 5 := by
  unfold xCopy
  repeat' split
  all_goals first
    | exact (by decide : zN 0 ≤ 5)
    | exact (by decide : zN 2 ≤ 5)
    | exact (by decide : zN 4 ≤ 5)
theorem t_done (b : Int32) : zN (sp_Rv_doneIf b) ≤ 5 := by
  unfold sp_Rv_doneIf
  split
  · decide
  · decide
theorem t_ans (a : Int32) (rg : Nat → Int32) : zN (sp_Rv_answerAddress a rg).1 ≤ 5 := by
  unfold sp_Rv_answerAddress
  split
  · exact (by decide : zN 4 ≤ 5)
  · exact (by decide : zN 0 ≤ 5)
theorem t_serve (rg : Nat → Int32) (M : MM) (I O : List Int32) (ph : Int32) : zN (xServe rg M I O ph).1 ≤ 5 := by
  unfold xServe
  by_cases h0 : rg 17 = 0
  · rw [if_pos h0]
    exact (by decide : zN 0 ≤ 5)
  rw [if_neg h0]
  by_cases h1 : rg 17 = 1
  · rw [if_pos h1]
    exact t_ans _ _
  rw [if_neg h1]
  by_cases h2 : rg 17 = 2
  · rw [if_pos h2]
    exact t_done _
  rw [if_neg h2]
  by_cases h3 : rg 17 = 3
  · rw [if_pos h3]
    exact (by decide : zN 0 ≤ 5)
  rw [if_neg h3]
  by_cases h4 : rg 17 = 4
  · rw [if_pos h4]
    by_cases c : rg 10 = 0
    · rw [if_pos c]
      exact t_done _
    · rw [if_neg c]
      by_cases d : (if (mDropG M (rg 10)).isSome = true then (1 : Int32) else 0) = 0
      · rw [if_pos d]
        exact t_done _
      · rw [if_neg d]
        exact t_done _
  rw [if_neg h4]
  by_cases h5 : rg 17 = 5
  · rw [if_pos h5]
    exact (by decide : zN 0 ≤ 5)
  rw [if_neg h5]
  by_cases h6 : rg 17 = 6
  · rw [if_pos h6]
    exact (by decide : zN 0 ≤ 5)
  rw [if_neg h6]
  by_cases h7 : rg 17 = 7
  · rw [if_pos h7]
    by_cases c : zushr (rg 10) 16 = zushr (rg 11) 16
    · rw [if_pos c]
      exact t_done _
    · rw [if_neg c]
      exact t_done _
  rw [if_neg h7]
  by_cases h8 : rg 17 = 8
  · rw [if_pos h8]
    exact t_copy _ _ _ _
  rw [if_neg h8]
  exact (by decide : zN 4 ≤ 5)
theorem t_exec (w : Int32) (rg : Nat → Int32) (M : MM) (I O : List Int32) (nx fo : Int32) : zN (xExec w rg M I O 1 nx fo).1 ≤ 5 ∧ ((xExec w rg M I O 1 nx fo).2.2.2.2.2.1 = 1 ∨ (xExec w rg M I O 1 nx fo).2.2.2.2.2.1 = 2) := by
  have ha := wA_lt w
  by_cases a3 : wA w = 3
  · rw [xe_3 rg M I O 1 nx fo a3]
    exact ⟨t_load _ _ _, Or.inl rfl⟩
  by_cases a15 : wA w = 15
  · rw [xe_15 rg M I O 1 nx fo a15]
    by_cases c : sp_Rv_middle w = 0
    · rw [if_pos c]
      exact ⟨(by decide : zN 0 ≤ 5), Or.inl rfl⟩
    · rw [if_neg c]
      exact ⟨(by decide : zN 1 ≤ 5), Or.inl rfl⟩
  by_cases a19 : wA w = 19
  · rw [xe_19 rg M I O 1 nx fo a19]
    exact ⟨t_opc _ _, Or.inl rfl⟩
  by_cases a23 : wA w = 23
  · rw [xe_23 rg M I O 1 nx fo a23]
    exact ⟨t_keep _ _ _, Or.inl rfl⟩
  by_cases a35 : wA w = 35
  · rw [xe_35 rg M I O 1 nx fo a35]
    exact ⟨t_store _ _ _, Or.inl rfl⟩
  by_cases a51 : wA w = 51
  · rw [xe_51 rg M I O 1 nx fo a51]
    exact ⟨t_op _ _, Or.inl rfl⟩
  by_cases a55 : wA w = 55
  · rw [xe_55 rg M I O 1 nx fo a55]
    exact ⟨t_keep _ _ _, Or.inl rfl⟩
  by_cases a99 : wA w = 99
  · rw [xe_99 rg M I O 1 nx fo a99]
    exact ⟨t_branch _ _ _ _, Or.inl rfl⟩
  by_cases a103 : wA w = 103
  · rw [xe_103 rg M I O 1 nx fo a103]
    exact ⟨t_jbr _ _ _ _, Or.inl rfl⟩
  by_cases a111 : wA w = 111
  · rw [xe_111 rg M I O 1 nx fo a111]
    exact ⟨t_jump _ _ _ _ _, Or.inl rfl⟩
  by_cases a115 : wA w = 115
  · rw [xe_115 rg M I O 1 nx fo a115]
    by_cases c : w = 115
    · rw [if_pos c]
      refine ⟨t_serve _ _ _ _ _, ?_⟩
      have p := serve_ph rg M I O
      by_cases z : rg 17 = 0
      · rw [if_pos z] at p
        exact Or.inr p
      · rw [if_neg z] at p
        exact Or.inl p
    · rw [if_neg c]
      by_cases d : w = 1048691
      · rw [if_pos d]
        exact ⟨(by decide : zN 5 ≤ 5), Or.inl rfl⟩
      · rw [if_neg d]
        exact ⟨(by decide : zN 1 ≤ 5), Or.inl rfl⟩
  rw [xe_no rg M I O 1 nx fo rfl ha a3 a15 a19 a23 a35 a51 a55 a99 a103 a111 a115]
  exact ⟨(by decide : zN 1 ≤ 5), Or.inl rfl⟩
theorem ten_le {t : Int32} (h : zN t ≤ 5) : 10 ≤ 10 + t ∧ ¬ 10 + t = 1 := by
  rw [z_of t]
  revert h
  generalize zN t = n
  intro h
  have hc : n = 0 ∨ n = 1 ∨ n = 2 ∨ n = 3 ∨ n = 4 ∨ n = 5 := by omega
  rcases hc with rfl | rfl | rfl | rfl | rfl | rfl <;> decide
theorem neg_zN {pc : Int32} (h : pc < 0) : 2147483648 ≤ zN pc := Nat.not_lt.mp (fun q => by
  rw [z_of pc] at h
  exact nI_pos q h)
theorem step_x {wc : Int32} {wf rg : Nat → Int32} {M : MM} {I O : List Int32} {dn pc : Int32} (hM : MI M) (hwn : 0 ≤ wc.toInt ∧ wc.toInt ≤ 4000) :
    rStep (wf (zushr pc 2).toNatClampNeg) wc pc 1 rg M I O = ((xNext wc wf rg M I O 1 dn pc).2.2.2.2.2.2.1, (xNext wc wf rg M I O 1 dn pc).2.2.2.2.1, (xNext wc wf rg M I O 1 dn pc).1, (xNext wc wf rg M I O 1 dn pc).2.1, (xNext wc wf rg M I O 1 dn pc).2.2.1, (xNext wc wf rg M I O 1 dn pc).2.2.2.1) ∧
    (xNext wc wf rg M I O 1 dn pc).2.2.2.2.2.1 = if 10 ≤ (xNext wc wf rg M I O 1 dn pc).2.2.2.2.1 then dn else dn + 1 := by
  have hz := zN_lt pc
  unfold rStep xNext
  by_cases p : pc < 0
  · have q := neg_zN p
    have hge : wc ≤ zushr pc 2 := Int32.le_iff_toInt_le.mpr (by rw [z_ushr pc 2 2 (by decide), nI_toInt (by omega)]; omega)
    rw [if_pos p, if_pos hge]
    exact ⟨rfl, (if_pos (show (10 : Int32) ≤ 10 + 3 by decide)).symm⟩
  · rw [if_neg p, pc4 p]
    by_cases q : wc ≤ zushr pc 2
    · rw [if_neg (Int32.not_lt.mpr q), if_pos q]
      exact ⟨rfl, (if_pos (show (10 : Int32) ≤ 10 + 3 by decide)).symm⟩
    · rw [if_pos (Int32.not_le.mp q), if_neg q, ex_x hM]
      have te := t_exec (wf (zushr pc 2).toNatClampNeg) rg M I O pc (pc + 4)
      revert te
      generalize xExec (wf (zushr pc 2).toNatClampNeg) rg M I O 1 pc (pc + 4) = E
      intro te
      unfold xFin
      by_cases t : E.1 = 0
      · rw [if_pos t, if_pos t]
        by_cases f : E.2.2.2.2.2.1 = 1
        · rw [if_pos f, if_pos f]
          exact ⟨rfl, (if_neg (show ¬ 10 ≤ E.2.2.2.2.2.1 by rw [f]; decide)).symm⟩
        · rw [if_neg f, if_neg f]
          have f2 : E.2.2.2.2.2.1 = 2 := te.2.resolve_left f
          exact ⟨rfl, (if_neg (show ¬ 10 ≤ E.2.2.2.2.2.1 by rw [f2]; decide)).symm⟩
      · rw [if_neg t, if_neg t]
        exact ⟨rfl, (if_pos (ten_le te.1).1).symm⟩
theorem add4 {pc : Int32} (h : pc &&& 3 = 0) : (pc + 4) &&& 3 = 0 := by
  have hz := zN_lt pc
  have h1 : pc &&& 3 = nI (zN pc % 4) := pk_and pc 2 (by decide)
  rw [h1] at h
  have h := z_e0 (by omega) h
  have e : pc + 4 = nI (zN pc + 4) := by rw [← nI_add, ← z_of pc]; rfl
  have e2 : (pc + 4) &&& 3 = nI (zN (pc + 4) % 4) := pk_and (pc + 4) 2 (by decide)
  have e3 : zN (nI (zN pc + 4)) = (zN pc + 4) % 2 ^ 32 := rfl
  rw [e2, e, e3, show (zN pc + 4) % 2 ^ 32 % 4 = 0 by omega]
  rfl
theorem fo_goTo {ad fo : Int32} (h : fo &&& 3 = 0) : (sp_Rv_goTo ad fo).2 &&& 3 = 0 := by
  unfold sp_Rv_goTo
  by_cases c : ad &&& 3 = 0
  · rw [if_pos c]
    exact c
  · rw [if_neg c]
    exact h
theorem fo_jump {w ad nx fo : Int32} {rg : Nat → Int32} (h : fo &&& 3 = 0) : (sp_Rv_jump w ad nx fo rg).2.1 &&& 3 = 0 := by
  unfold sp_Rv_jump
  split
  · exact fo_goTo h
  · exact fo_goTo h
theorem fo_exec {w : Int32} {rg : Nat → Int32} {M : MM} {I O : List Int32} {ph nx fo : Int32} (h : fo &&& 3 = 0) : (xExec w rg M I O ph nx fo).2.2.2.2.2.2 &&& 3 = 0 := by
  have hb : (sp_Rv_branch w nx fo rg).2 &&& 3 = 0 := by
    unfold sp_Rv_branch
    repeat' split
    all_goals first
      | exact h
      | exact fo_goTo h
  have hj : (sp_Rv_jumpByRegister w nx fo rg).2.1 &&& 3 = 0 := by
    unfold sp_Rv_jumpByRegister
    split
    · exact fo_jump h
    · exact h
  have ha := wA_lt w
  by_cases a3 : wA w = 3
  · rw [xe_3 rg M I O ph nx fo a3]
    exact h
  by_cases a15 : wA w = 15
  · rw [xe_15 rg M I O ph nx fo a15]
    by_cases c : sp_Rv_middle w = 0
    · rw [if_pos c]
      exact h
    · rw [if_neg c]
      exact h
  by_cases a19 : wA w = 19
  · rw [xe_19 rg M I O ph nx fo a19]
    exact h
  by_cases a23 : wA w = 23
  · rw [xe_23 rg M I O ph nx fo a23]
    exact h
  by_cases a35 : wA w = 35
  · rw [xe_35 rg M I O ph nx fo a35]
    exact h
  by_cases a51 : wA w = 51
  · rw [xe_51 rg M I O ph nx fo a51]
    exact h
  by_cases a55 : wA w = 55
  · rw [xe_55 rg M I O ph nx fo a55]
    exact h
  by_cases a99 : wA w = 99
  · rw [xe_99 rg M I O ph nx fo a99]
    exact hb
  by_cases a103 : wA w = 103
  · rw [xe_103 rg M I O ph nx fo a103]
    exact hj
  by_cases a111 : wA w = 111
  · rw [xe_111 rg M I O ph nx fo a111]
    exact fo_jump h
  by_cases a115 : wA w = 115
  · rw [xe_115 rg M I O ph nx fo a115]
    by_cases c : w = 115
    · rw [if_pos c]
      exact h
    · rw [if_neg c]
      by_cases d : w = 1048691
      · rw [if_pos d]
        exact h
      · rw [if_neg d]
        exact h
  rw [xe_no rg M I O ph nx fo rfl ha a3 a15 a19 a23 a35 a51 a55 a99 a103 a111 a115]
  exact h
theorem next_pc {wc : Int32} {wf rg : Nat → Int32} {M : MM} {I O : List Int32} {ph dn pc : Int32} (h : pc &&& 3 = 0) : (xNext wc wf rg M I O ph dn pc).2.2.2.2.2.2.1 &&& 3 = 0 := by
  have he := fo_exec (w := wf (zushr pc 2).toNatClampNeg) (rg := rg) (M := M) (I := I) (O := O) (ph := ph) (nx := pc) (add4 h)
  unfold xNext
  by_cases p : wc ≤ zushr pc 2
  · rw [if_pos p]
    exact h
  · rw [if_neg p]
    by_cases t : (xExec (wf (zushr pc 2).toNatClampNeg) rg M I O ph pc (pc + 4)).1 = 0
    · rw [if_pos t]
      by_cases f : (xExec (wf (zushr pc 2).toNatClampNeg) rg M I O ph pc (pc + 4)).2.2.2.2.2.1 = 1
      · rw [if_pos f]
        exact he
      · rw [if_neg f]
        exact h
    · rw [if_neg t]
      exact h

/-! the table of kinds as it grows -/
def kM (n : Nat) : Nat → Int32 := fun i => if i < n then tM i else 0
def kV (n : Nat) : Nat → Int32 := fun i => if i < n then tV i else 0
theorem kM_s (n : Nat) {m : Int32} (h : tM n = m) : upd (kM n) n m = kM (n + 1) := by
  funext i
  unfold kM
  by_cases c : i = n
  · rw [c, upd_self, if_pos (by omega), h]
  · rw [upd_ne c]
    by_cases d : i < n
    · rw [if_pos d, if_pos (by omega)]
    · rw [if_neg d, if_neg (by omega)]
theorem kV_s (n : Nat) {m : Int32} (h : tV n = m) : upd (kV n) n m = kV (n + 1) := by
  funext i
  unfold kV
  by_cases c : i = n
  · rw [c, upd_self, if_pos (by omega), h]
  · rw [upd_ne c]
    by_cases d : i < n
    · rw [if_pos d, if_pos (by omega)]
    · rw [if_neg d, if_neg (by omega)]
theorem kM_48 : kM 48 = tM := by
  funext i
  unfold kM
  by_cases c : i < 48
  · rw [if_pos c]
  · rw [if_neg c]
    unfold tM
    rw [if_neg (by omega), if_neg (by omega), if_neg (by omega), if_neg (by omega), if_neg c]
theorem kV_48 : kV 48 = tV := by
  funext i
  unfold kV
  by_cases c : i < 48
  · rw [if_pos c]
  · rw [if_neg c]
    unfold tV
    rw [if_neg (by omega), if_neg (by omega), if_neg c]
theorem i_sub (a b : Int32) : b = a + b - a := by
  rw [Int32.add_comm]
  exact (Int32.add_sub_cancel b a).symm
