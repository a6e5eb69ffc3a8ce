section
-- ===== PART A: goes FIRST, ahead of the names: the tables' words, and 'selects' of the private methods out of them =====
/-- a private method of a class that the tables say can be made, by its rows of tables_1 -/
def lw_okq (q : MethodName × Nat) : Prop := (q.1.cls ≠ "java/lang/invoke/MethodHandle" ∧ q.1.cls ≠ "java/lang/invoke/VarHandle") ∧ Cond.instantiable q.1.cls q.2 ∈ tables_1 ∧ Cond.privateMethod q.1 ∈ tables_1 ∧ Cond.instanceMethod q.1 ∈ tables_1
theorem lw_p0 : lw_okq (⟨"RvMachine$Memory", "isThere", "(I)Z"⟩, 10) := ⟨⟨by decide +kernel, by decide +kernel⟩, List.mem_of_getElem? (i := 23) (by decide +kernel), List.mem_of_getElem? (i := 125) (by decide +kernel), List.mem_of_getElem? (i := 126) (by decide +kernel)⟩
theorem lw_p1 : lw_okq (⟨"RvMachine$Memory", "spot", "(I)I"⟩, 10) := ⟨⟨by decide +kernel, by decide +kernel⟩, List.mem_of_getElem? (i := 23) (by decide +kernel), List.mem_of_getElem? (i := 134) (by decide +kernel), List.mem_of_getElem? (i := 135) (by decide +kernel)⟩
theorem lw_p2 : lw_okq (⟨"RvMachine$Bytes", "wrapped", "(I)I"⟩, 3) := ⟨⟨by decide +kernel, by decide +kernel⟩, List.mem_of_getElem? (i := 65) (by decide +kernel), List.mem_of_getElem? (i := 149) (by decide +kernel), List.mem_of_getElem? (i := 150) (by decide +kernel)⟩
theorem lw_p3 : lw_okq (⟨"java/lang/Throwable", "fillInStackTrace", "(I)Ljava/lang/Throwable;"⟩, 6) := ⟨⟨by decide +kernel, by decide +kernel⟩, List.mem_of_getElem? (i := 199) (by decide +kernel), List.mem_of_getElem? (i := 197) (by decide +kernel), List.mem_of_getElem? (i := 198) (by decide +kernel)⟩
theorem lw_p4 : lw_okq (⟨"RvMachine", "doNext", "()V"⟩, 10) := ⟨⟨by decide +kernel, by decide +kernel⟩, List.mem_of_getElem? (i := 15) (by decide +kernel), List.mem_of_getElem? (i := 308) (by decide +kernel), List.mem_of_getElem? (i := 309) (by decide +kernel)⟩
theorem lw_p5 : lw_okq (⟨"RvMachine", "execute", "(I)I"⟩, 10) := ⟨⟨by decide +kernel, by decide +kernel⟩, List.mem_of_getElem? (i := 15) (by decide +kernel), List.mem_of_getElem? (i := 312) (by decide +kernel), List.mem_of_getElem? (i := 313) (by decide +kernel)⟩
theorem lw_p6 : lw_okq (⟨"RvMachine", "keep", "(II)I"⟩, 10) := ⟨⟨by decide +kernel, by decide +kernel⟩, List.mem_of_getElem? (i := 15) (by decide +kernel), List.mem_of_getElem? (i := 316) (by decide +kernel), List.mem_of_getElem? (i := 317) (by decide +kernel)⟩
theorem lw_p7 : lw_okq (⟨"RvMachine", "jump", "(II)I"⟩, 10) := ⟨⟨by decide +kernel, by decide +kernel⟩, List.mem_of_getElem? (i := 15) (by decide +kernel), List.mem_of_getElem? (i := 324) (by decide +kernel), List.mem_of_getElem? (i := 325) (by decide +kernel)⟩
theorem lw_p8 : lw_okq (⟨"RvMachine", "goTo", "(I)I"⟩, 10) := ⟨⟨by decide +kernel, by decide +kernel⟩, List.mem_of_getElem? (i := 15) (by decide +kernel), List.mem_of_getElem? (i := 328) (by decide +kernel), List.mem_of_getElem? (i := 329) (by decide +kernel)⟩
theorem lw_p9 : lw_okq (⟨"RvMachine", "jumpByRegister", "(I)I"⟩, 10) := ⟨⟨by decide +kernel, by decide +kernel⟩, List.mem_of_getElem? (i := 15) (by decide +kernel), List.mem_of_getElem? (i := 332) (by decide +kernel), List.mem_of_getElem? (i := 333) (by decide +kernel)⟩
theorem lw_p10 : lw_okq (⟨"RvMachine", "firstOperand", "(I)I"⟩, 10) := ⟨⟨by decide +kernel, by decide +kernel⟩, List.mem_of_getElem? (i := 15) (by decide +kernel), List.mem_of_getElem? (i := 339) (by decide +kernel), List.mem_of_getElem? (i := 340) (by decide +kernel)⟩
theorem lw_p11 : lw_okq (⟨"RvMachine", "branch", "(I)I"⟩, 10) := ⟨⟨by decide +kernel, by decide +kernel⟩, List.mem_of_getElem? (i := 15) (by decide +kernel), List.mem_of_getElem? (i := 343) (by decide +kernel), List.mem_of_getElem? (i := 344) (by decide +kernel)⟩
theorem lw_p12 : lw_okq (⟨"RvMachine", "secondOperand", "(I)I"⟩, 10) := ⟨⟨by decide +kernel, by decide +kernel⟩, List.mem_of_getElem? (i := 15) (by decide +kernel), List.mem_of_getElem? (i := 347) (by decide +kernel), List.mem_of_getElem? (i := 348) (by decide +kernel)⟩
theorem lw_p13 : lw_okq (⟨"RvMachine", "load", "(I)I"⟩, 10) := ⟨⟨by decide +kernel, by decide +kernel⟩, List.mem_of_getElem? (i := 15) (by decide +kernel), List.mem_of_getElem? (i := 361) (by decide +kernel), List.mem_of_getElem? (i := 362) (by decide +kernel)⟩
theorem lw_p14 : lw_okq (⟨"RvMachine", "store", "(I)I"⟩, 10) := ⟨⟨by decide +kernel, by decide +kernel⟩, List.mem_of_getElem? (i := 15) (by decide +kernel), List.mem_of_getElem? (i := 370) (by decide +kernel), List.mem_of_getElem? (i := 371) (by decide +kernel)⟩
theorem lw_p15 : lw_okq (⟨"RvMachine", "operateWithConstant", "(I)I"⟩, 10) := ⟨⟨by decide +kernel, by decide +kernel⟩, List.mem_of_getElem? (i := 15) (by decide +kernel), List.mem_of_getElem? (i := 381) (by decide +kernel), List.mem_of_getElem? (i := 382) (by decide +kernel)⟩
def lw_privs_1 : List (MethodName × Nat) := [(⟨"RvMachine$Memory", "isThere", "(I)Z"⟩, 10), (⟨"RvMachine$Memory", "spot", "(I)I"⟩, 10), (⟨"RvMachine$Bytes", "wrapped", "(I)I"⟩, 3), (⟨"java/lang/Throwable", "fillInStackTrace", "(I)Ljava/lang/Throwable;"⟩, 6), (⟨"RvMachine", "doNext", "()V"⟩, 10), (⟨"RvMachine", "execute", "(I)I"⟩, 10), (⟨"RvMachine", "keep", "(II)I"⟩, 10), (⟨"RvMachine", "jump", "(II)I"⟩, 10), (⟨"RvMachine", "goTo", "(I)I"⟩, 10), (⟨"RvMachine", "jumpByRegister", "(I)I"⟩, 10), (⟨"RvMachine", "firstOperand", "(I)I"⟩, 10), (⟨"RvMachine", "branch", "(I)I"⟩, 10), (⟨"RvMachine", "secondOperand", "(I)I"⟩, 10), (⟨"RvMachine", "load", "(I)I"⟩, 10), (⟨"RvMachine", "store", "(I)I"⟩, 10), (⟨"RvMachine", "operateWithConstant", "(I)I"⟩, 10)]
theorem lw_r1 : ∀ q ∈ lw_privs_1, lw_okq q := List.forall_mem_cons.mpr ⟨lw_p0, List.forall_mem_cons.mpr ⟨lw_p1, List.forall_mem_cons.mpr ⟨lw_p2, List.forall_mem_cons.mpr ⟨lw_p3, List.forall_mem_cons.mpr ⟨lw_p4, List.forall_mem_cons.mpr ⟨lw_p5, List.forall_mem_cons.mpr ⟨lw_p6, List.forall_mem_cons.mpr ⟨lw_p7, List.forall_mem_cons.mpr ⟨lw_p8, List.forall_mem_cons.mpr ⟨lw_p9, List.forall_mem_cons.mpr ⟨lw_p10, List.forall_mem_cons.mpr ⟨lw_p11, List.forall_mem_cons.mpr ⟨lw_p12, List.forall_mem_cons.mpr ⟨lw_p13, List.forall_mem_cons.mpr ⟨lw_p14, List.forall_mem_cons.mpr ⟨lw_p15, fun _ h => absurd h List.not_mem_nil⟩⟩⟩⟩⟩⟩⟩⟩⟩⟩⟩⟩⟩⟩⟩⟩
theorem lw_p16 : lw_okq (⟨"RvMachine", "operate", "(I)I"⟩, 10) := ⟨⟨by decide +kernel, by decide +kernel⟩, List.mem_of_getElem? (i := 15) (by decide +kernel), List.mem_of_getElem? (i := 391) (by decide +kernel), List.mem_of_getElem? (i := 392) (by decide +kernel)⟩
theorem lw_p17 : lw_okq (⟨"RvMachine", "serve", "()I"⟩, 10) := ⟨⟨by decide +kernel, by decide +kernel⟩, List.mem_of_getElem? (i := 15) (by decide +kernel), List.mem_of_getElem? (i := 401) (by decide +kernel), List.mem_of_getElem? (i := 402) (by decide +kernel)⟩
theorem lw_p18 : lw_okq (⟨"RvMachine$Memory", "tidy", "(I)V"⟩, 10) := ⟨⟨by decide +kernel, by decide +kernel⟩, List.mem_of_getElem? (i := 23) (by decide +kernel), List.mem_of_getElem? (i := 413) (by decide +kernel), List.mem_of_getElem? (i := 414) (by decide +kernel)⟩
theorem lw_p19 : lw_okq (⟨"RvMachine$Memory", "addNumber", "()V"⟩, 10) := ⟨⟨by decide +kernel, by decide +kernel⟩, List.mem_of_getElem? (i := 23) (by decide +kernel), List.mem_of_getElem? (i := 428) (by decide +kernel), List.mem_of_getElem? (i := 429) (by decide +kernel)⟩
theorem lw_p20 : lw_okq (⟨"RvMachine", "answerAddress", "(I)I"⟩, 10) := ⟨⟨by decide +kernel, by decide +kernel⟩, List.mem_of_getElem? (i := 15) (by decide +kernel), List.mem_of_getElem? (i := 433) (by decide +kernel), List.mem_of_getElem? (i := 434) (by decide +kernel)⟩
theorem lw_p21 : lw_okq (⟨"RvMachine$Memory", "drop", "(I)V"⟩, 10) := ⟨⟨by decide +kernel, by decide +kernel⟩, List.mem_of_getElem? (i := 23) (by decide +kernel), List.mem_of_getElem? (i := 441) (by decide +kernel), List.mem_of_getElem? (i := 442) (by decide +kernel)⟩
theorem lw_p22 : lw_okq (⟨"RvMachine", "copyBytes", "(III)I"⟩, 10) := ⟨⟨by decide +kernel, by decide +kernel⟩, List.mem_of_getElem? (i := 15) (by decide +kernel), List.mem_of_getElem? (i := 456) (by decide +kernel), List.mem_of_getElem? (i := 457) (by decide +kernel)⟩
theorem lw_p23 : lw_okq (⟨"RvMachineModel", "kind", "(II)V"⟩, 24) := ⟨⟨by decide +kernel, by decide +kernel⟩, List.mem_of_getElem? (i := 493) (by decide +kernel), List.mem_of_getElem? (i := 500) (by decide +kernel), List.mem_of_getElem? (i := 501) (by decide +kernel)⟩
theorem lw_p24 : lw_okq (⟨"RvMachineModel", "step", "()V"⟩, 24) := ⟨⟨by decide +kernel, by decide +kernel⟩, List.mem_of_getElem? (i := 493) (by decide +kernel), List.mem_of_getElem? (i := 603) (by decide +kernel), List.mem_of_getElem? (i := 604) (by decide +kernel)⟩
theorem lw_p25 : lw_okq (⟨"RvMachineModel", "trap", "(I)V"⟩, 24) := ⟨⟨by decide +kernel, by decide +kernel⟩, List.mem_of_getElem? (i := 493) (by decide +kernel), List.mem_of_getElem? (i := 607) (by decide +kernel), List.mem_of_getElem? (i := 608) (by decide +kernel)⟩
theorem lw_p26 : lw_okq (⟨"RvMachineModel", "jumps", "(II)V"⟩, 24) := ⟨⟨by decide +kernel, by decide +kernel⟩, List.mem_of_getElem? (i := 493) (by decide +kernel), List.mem_of_getElem? (i := 611) (by decide +kernel), List.mem_of_getElem? (i := 612) (by decide +kernel)⟩
theorem lw_p27 : lw_okq (⟨"RvMachineModel", "goesOn", "(II)V"⟩, 24) := ⟨⟨by decide +kernel, by decide +kernel⟩, List.mem_of_getElem? (i := 493) (by decide +kernel), List.mem_of_getElem? (i := 615) (by decide +kernel), List.mem_of_getElem? (i := 616) (by decide +kernel)⟩
theorem lw_p28 : lw_okq (⟨"RvMachineModel", "put", "(II)V"⟩, 24) := ⟨⟨by decide +kernel, by decide +kernel⟩, List.mem_of_getElem? (i := 493) (by decide +kernel), List.mem_of_getElem? (i := 619) (by decide +kernel), List.mem_of_getElem? (i := 620) (by decide +kernel)⟩
theorem lw_p29 : lw_okq (⟨"RvMachineModel", "isGone", "(I)Z"⟩, 24) := ⟨⟨by decide +kernel, by decide +kernel⟩, List.mem_of_getElem? (i := 493) (by decide +kernel), List.mem_of_getElem? (i := 635) (by decide +kernel), List.mem_of_getElem? (i := 636) (by decide +kernel)⟩
theorem lw_p30 : lw_okq (⟨"RvMachineModel", "branch", "(II)V"⟩, 24) := ⟨⟨by decide +kernel, by decide +kernel⟩, List.mem_of_getElem? (i := 493) (by decide +kernel), List.mem_of_getElem? (i := 639) (by decide +kernel), List.mem_of_getElem? (i := 640) (by decide +kernel)⟩
theorem lw_p31 : lw_okq (⟨"RvMachineModel", "load", "(II)V"⟩, 24) := ⟨⟨by decide +kernel, by decide +kernel⟩, List.mem_of_getElem? (i := 493) (by decide +kernel), List.mem_of_getElem? (i := 647) (by decide +kernel), List.mem_of_getElem? (i := 648) (by decide +kernel)⟩
def lw_privs_2 : List (MethodName × Nat) := [(⟨"RvMachine", "operate", "(I)I"⟩, 10), (⟨"RvMachine", "serve", "()I"⟩, 10), (⟨"RvMachine$Memory", "tidy", "(I)V"⟩, 10), (⟨"RvMachine$Memory", "addNumber", "()V"⟩, 10), (⟨"RvMachine", "answerAddress", "(I)I"⟩, 10), (⟨"RvMachine$Memory", "drop", "(I)V"⟩, 10), (⟨"RvMachine", "copyBytes", "(III)I"⟩, 10), (⟨"RvMachineModel", "kind", "(II)V"⟩, 24), (⟨"RvMachineModel", "step", "()V"⟩, 24), (⟨"RvMachineModel", "trap", "(I)V"⟩, 24), (⟨"RvMachineModel", "jumps", "(II)V"⟩, 24), (⟨"RvMachineModel", "goesOn", "(II)V"⟩, 24), (⟨"RvMachineModel", "put", "(II)V"⟩, 24), (⟨"RvMachineModel", "isGone", "(I)Z"⟩, 24), (⟨"RvMachineModel", "branch", "(II)V"⟩, 24), (⟨"RvMachineModel", "load", "(II)V"⟩, 24)]
theorem lw_r2 : ∀ q ∈ lw_privs_2, lw_okq q := List.forall_mem_cons.mpr ⟨lw_p16, List.forall_mem_cons.mpr ⟨lw_p17, List.forall_mem_cons.mpr ⟨lw_p18, List.forall_mem_cons.mpr ⟨lw_p19, List.forall_mem_cons.mpr ⟨lw_p20, List.forall_mem_cons.mpr ⟨lw_p21, List.forall_mem_cons.mpr ⟨lw_p22, List.forall_mem_cons.mpr ⟨lw_p23, List.forall_mem_cons.mpr ⟨lw_p24, List.forall_mem_cons.mpr ⟨lw_p25, List.forall_mem_cons.mpr ⟨lw_p26, List.forall_mem_cons.mpr ⟨lw_p27, List.forall_mem_cons.mpr ⟨lw_p28, List.forall_mem_cons.mpr ⟨lw_p29, List.forall_mem_cons.mpr ⟨lw_p30, List.forall_mem_cons.mpr ⟨lw_p31, fun _ h => absurd h List.not_mem_nil⟩⟩⟩⟩⟩⟩⟩⟩⟩⟩⟩⟩⟩⟩⟩⟩
theorem lw_p32 : lw_okq (⟨"RvMachineModel", "place", "(II)I"⟩, 24) := ⟨⟨by decide +kernel, by decide +kernel⟩, List.mem_of_getElem? (i := 493) (by decide +kernel), List.mem_of_getElem? (i := 651) (by decide +kernel), List.mem_of_getElem? (i := 652) (by decide +kernel)⟩
theorem lw_p33 : lw_okq (⟨"RvMachineModel", "read", "(II)I"⟩, 24) := ⟨⟨by decide +kernel, by decide +kernel⟩, List.mem_of_getElem? (i := 493) (by decide +kernel), List.mem_of_getElem? (i := 656) (by decide +kernel), List.mem_of_getElem? (i := 657) (by decide +kernel)⟩
theorem lw_p34 : lw_okq (⟨"RvMachineModel", "store", "(II)V"⟩, 24) := ⟨⟨by decide +kernel, by decide +kernel⟩, List.mem_of_getElem? (i := 493) (by decide +kernel), List.mem_of_getElem? (i := 660) (by decide +kernel), List.mem_of_getElem? (i := 661) (by decide +kernel)⟩
theorem lw_p35 : lw_okq (⟨"RvMachineModel", "service", "()V"⟩, 24) := ⟨⟨by decide +kernel, by decide +kernel⟩, List.mem_of_getElem? (i := 493) (by decide +kernel), List.mem_of_getElem? (i := 673) (by decide +kernel), List.mem_of_getElem? (i := 674) (by decide +kernel)⟩
theorem lw_p36 : lw_okq (⟨"RvMachineModel", "object", "(II)I"⟩, 24) := ⟨⟨by decide +kernel, by decide +kernel⟩, List.mem_of_getElem? (i := 493) (by decide +kernel), List.mem_of_getElem? (i := 677) (by decide +kernel), List.mem_of_getElem? (i := 678) (by decide +kernel)⟩
theorem lw_p37 : lw_okq (⟨"RvMachineModel", "pack", "()V"⟩, 24) := ⟨⟨by decide +kernel, by decide +kernel⟩, List.mem_of_getElem? (i := 493) (by decide +kernel), List.mem_of_getElem? (i := 685) (by decide +kernel), List.mem_of_getElem? (i := 686) (by decide +kernel)⟩
theorem lw_p38 : lw_okq (⟨"RvMachineModel", "gone", "(I)V"⟩, 24) := ⟨⟨by decide +kernel, by decide +kernel⟩, List.mem_of_getElem? (i := 493) (by decide +kernel), List.mem_of_getElem? (i := 690) (by decide +kernel), List.mem_of_getElem? (i := 691) (by decide +kernel)⟩
def lw_privs_3 : List (MethodName × Nat) := [(⟨"RvMachineModel", "place", "(II)I"⟩, 24), (⟨"RvMachineModel", "read", "(II)I"⟩, 24), (⟨"RvMachineModel", "store", "(II)V"⟩, 24), (⟨"RvMachineModel", "service", "()V"⟩, 24), (⟨"RvMachineModel", "object", "(II)I"⟩, 24), (⟨"RvMachineModel", "pack", "()V"⟩, 24), (⟨"RvMachineModel", "gone", "(I)V"⟩, 24)]
theorem lw_r3 : ∀ q ∈ lw_privs_3, lw_okq q := List.forall_mem_cons.mpr ⟨lw_p32, List.forall_mem_cons.mpr ⟨lw_p33, List.forall_mem_cons.mpr ⟨lw_p34, List.forall_mem_cons.mpr ⟨lw_p35, List.forall_mem_cons.mpr ⟨lw_p36, List.forall_mem_cons.mpr ⟨lw_p37, List.forall_mem_cons.mpr ⟨lw_p38, fun _ h => absurd h List.not_mem_nil⟩⟩⟩⟩⟩⟩⟩
def lw_privs : List (MethodName × Nat) := lw_privs_1 ++ (lw_privs_2 ++ (lw_privs_3))
def lw_tbl : List Cond := k2_sels lw_privs ++ tables_1
theorem lw_privs_ok : ∀ q ∈ lw_privs, lw_okq q := by
  show ∀ q ∈ lw_privs_1 ++ (lw_privs_2 ++ (lw_privs_3)), lw_okq q
  exact List.forall_mem_append.mpr ⟨lw_r1, List.forall_mem_append.mpr ⟨lw_r2, lw_r3⟩⟩
end
section
/-! names: classes, fields, methods (printed by an own program out of the listing) -/
def R_Rv : String := "RvMachine"
def F_Rv : u_T := fun k => match k with
  | 0 => ("RvMachine", "words", "[I", false)
  | 1 => ("RvMachine", "wordCount", "I", false)
  | 2 => ("RvMachine", "registers", "[I", true)
  | 3 => ("RvMachine", "memory", "LRvMachine$Memory;", true)
  | 4 => ("RvMachine", "unread", "LRvMachine$Bytes;", true)
  | 5 => ("RvMachine", "written", "LRvMachine$Bytes;", true)
  | 6 => ("RvMachine", "phase", "I", false)
  | 7 => ("RvMachine", "done", "I", false)
  | 8 => ("RvMachine", "next", "I", false)
  | _ => ("RvMachine", "following", "I", false)
def t_Rv : Nat → FieldType := fun k => match k with
  | 0 => .array .int
  | 1 => .int
  | 2 => .array .int
  | 3 => .object "RvMachine$Memory"
  | 4 => .object "RvMachine$Bytes"
  | 5 => .object "RvMachine$Bytes"
  | 6 => .int
  | 7 => .int
  | 8 => .int
  | _ => .int
theorem n_Rv : ∀ a, a < 10 → ∀ b, b < 10 → a ≠ b → (F_Rv a).2.1 ≠ (F_Rv b).2.1 := by decide +kernel
theorem t_Rv_ok : ∀ k, k < 10 → parseFieldDescriptor (F_Rv k).2.2.1 = some (t_Rv k) := by decide +kernel
def R_Me : String := "RvMachine$Memory"
def F_Me : u_T := fun k => match k with
  | 0 => ("RvMachine$Memory", "made", "I", false)
  | 1 => ("RvMachine$Memory", "bytes", "I", false)
  | 2 => ("RvMachine$Memory", "lastOnes", "I", false)
  | 3 => ("RvMachine$Memory", "newestLast", "I", false)
  | 4 => ("RvMachine$Memory", "sizes", "[I", false)
  | 5 => ("RvMachine$Memory", "starts", "[I", false)
  | 6 => ("RvMachine$Memory", "before", "[I", false)
  | 7 => ("RvMachine$Memory", "pool", "[B", false)
  | 8 => ("RvMachine$Memory", "poolEnd", "I", false)
  | _ => ("RvMachine$Memory", "blank", "[B", true)
def t_Me : Nat → FieldType := fun k => match k with
  | 0 => .int
  | 1 => .int
  | 2 => .int
  | 3 => .int
  | 4 => .array .int
  | 5 => .array .int
  | 6 => .array .int
  | 7 => .array .byte
  | 8 => .int
  | _ => .array .byte
theorem n_Me : ∀ a, a < 10 → ∀ b, b < 10 → a ≠ b → (F_Me a).2.1 ≠ (F_Me b).2.1 := by decide +kernel
theorem t_Me_ok : ∀ k, k < 10 → parseFieldDescriptor (F_Me k).2.2.1 = some (t_Me k) := by decide +kernel
def R_By : String := "RvMachine$Bytes"
def F_By : u_T := fun k => match k with
  | 0 => ("RvMachine$Bytes", "ring", "[B", true)
  | 1 => ("RvMachine$Bytes", "first", "I", false)
  | _ => ("RvMachine$Bytes", "held", "I", false)
def t_By : Nat → FieldType := fun k => match k with
  | 0 => .array .byte
  | 1 => .int
  | _ => .int
theorem n_By : ∀ a, a < 3 → ∀ b, b < 3 → a ≠ b → (F_By a).2.1 ≠ (F_By b).2.1 := by decide +kernel
theorem t_By_ok : ∀ k, k < 3 → parseFieldDescriptor (F_By k).2.2.1 = some (t_By k) := by decide +kernel
def R_Mo : String := "RvMachineModel"
def F_Mo : u_T := fun k => match k with
  | 0 => ("RvMachineModel", "mask", "[I", true)
  | 1 => ("RvMachineModel", "match", "[I", true)
  | 2 => ("RvMachineModel", "kinds", "I", false)
  | 3 => ("RvMachineModel", "word", "[I", true)
  | 4 => ("RvMachineModel", "words", "I", false)
  | 5 => ("RvMachineModel", "reg", "[I", true)
  | 6 => ("RvMachineModel", "pc", "I", false)
  | 7 => ("RvMachineModel", "state", "I", false)
  | 8 => ("RvMachineModel", "done", "I", false)
  | 9 => ("RvMachineModel", "thrown", "I", false)
  | 10 => ("RvMachineModel", "row", "[B", true)
  | 11 => ("RvMachineModel", "at", "[I", true)
  | 12 => ("RvMachineModel", "size", "[I", true)
  | 13 => ("RvMachineModel", "sort", "[I", true)
  | 14 => ("RvMachineModel", "last", "[I", true)
  | 15 => ("RvMachineModel", "made", "I", false)
  | 16 => ("RvMachineModel", "lasts", "I", false)
  | 17 => ("RvMachineModel", "top", "I", false)
  | 18 => ("RvMachineModel", "there", "I", false)
  | 19 => ("RvMachineModel", "input", "[B", true)
  | 20 => ("RvMachineModel", "written", "[B", true)
  | 21 => ("RvMachineModel", "copy", "[B", true)
  | 22 => ("RvMachineModel", "inputs", "I", false)
  | _ => ("RvMachineModel", "outputs", "I", false)
def t_Mo : Nat → FieldType := fun k => match k with
  | 0 => .array .int
  | 1 => .array .int
  | 2 => .int
  | 3 => .array .int
  | 4 => .int
  | 5 => .array .int
  | 6 => .int
  | 7 => .int
  | 8 => .int
  | 9 => .int
  | 10 => .array .byte
  | 11 => .array .int
  | 12 => .array .int
  | 13 => .array .int
  | 14 => .array .int
  | 15 => .int
  | 16 => .int
  | 17 => .int
  | 18 => .int
  | 19 => .array .byte
  | 20 => .array .byte
  | 21 => .array .byte
  | 22 => .int
  | _ => .int
theorem n_Mo : ∀ a, a < 24 → ∀ b, b < 24 → a ≠ b → (F_Mo a).2.1 ≠ (F_Mo b).2.1 := by decide +kernel
theorem t_Mo_ok : ∀ k, k < 24 → parseFieldDescriptor (F_Mo k).2.2.1 = some (t_Mo k) := by decide +kernel
/-- the classes whose objects the worlds hold, by their places -/
abbrev zC : List vw_C := [(R_Rv, F_Rv, 10), (R_Me, F_Me, 10), (R_By, F_By, 3), (R_Mo, F_Mo, 24)]
abbrev b_By_init : ByteArray := prog_2_method_1_code
def y_By_init : MethodName := ⟨"RvMachine$Bytes", "<init>", "(I)V"⟩
abbrev b_By_forgetAll : ByteArray := prog_2_method_2_code
def y_By_forgetAll : MethodName := ⟨"RvMachine$Bytes", "forgetAll", "()V"⟩
abbrev b_By_add : ByteArray := prog_2_method_3_code
def y_By_add : MethodName := ⟨"RvMachine$Bytes", "add", "(I)V"⟩
abbrev b_By_removeFirst : ByteArray := prog_2_method_4_code
def y_By_removeFirst : MethodName := ⟨"RvMachine$Bytes", "removeFirst", "()I"⟩
abbrev b_By_wrapped : ByteArray := prog_2_method_5_code
def y_By_wrapped : MethodName := ⟨"RvMachine$Bytes", "wrapped", "(I)I"⟩
abbrev b_Me_init : ByteArray := prog_3_method_1_code
def y_Me_init : MethodName := ⟨"RvMachine$Memory", "<init>", "()V"⟩
abbrev b_Me_forgetAll : ByteArray := prog_3_method_2_code
def y_Me_forgetAll : MethodName := ⟨"RvMachine$Memory", "forgetAll", "()V"⟩
abbrev b_Me_make : ByteArray := prog_3_method_3_code
def y_Me_make : MethodName := ⟨"RvMachine$Memory", "make", "(IZ)I"⟩
abbrev b_Me_addNumber : ByteArray := prog_3_method_4_code
def y_Me_addNumber : MethodName := ⟨"RvMachine$Memory", "addNumber", "()V"⟩
abbrev b_Me_roundedUp : ByteArray := prog_3_method_5_code
def y_Me_roundedUp : MethodName := ⟨"RvMachine$Memory", "roundedUp", "(I)I"⟩
abbrev b_Me_tidy : ByteArray := prog_3_method_6_code
def y_Me_tidy : MethodName := ⟨"RvMachine$Memory", "tidy", "(I)V"⟩
abbrev b_Me_dropLast : ByteArray := prog_3_method_7_code
def y_Me_dropLast : MethodName := ⟨"RvMachine$Memory", "dropLast", "(I)Z"⟩
abbrev b_Me_dropGiven : ByteArray := prog_3_method_8_code
def y_Me_dropGiven : MethodName := ⟨"RvMachine$Memory", "dropGiven", "(I)Z"⟩
abbrev b_Me_drop : ByteArray := prog_3_method_9_code
def y_Me_drop : MethodName := ⟨"RvMachine$Memory", "drop", "(I)V"⟩
abbrev b_Me_isThere : ByteArray := prog_3_method_10_code
def y_Me_isThere : MethodName := ⟨"RvMachine$Memory", "isThere", "(I)Z"⟩
abbrev b_Me_holds : ByteArray := prog_3_method_11_code
def y_Me_holds : MethodName := ⟨"RvMachine$Memory", "holds", "(II)Z"⟩
abbrev b_Me_holdsAligned : ByteArray := prog_3_method_12_code
def y_Me_holdsAligned : MethodName := ⟨"RvMachine$Memory", "holdsAligned", "(II)Z"⟩
abbrev b_Me_spot : ByteArray := prog_3_method_13_code
def y_Me_spot : MethodName := ⟨"RvMachine$Memory", "spot", "(I)I"⟩
abbrev b_Me_read : ByteArray := prog_3_method_14_code
def y_Me_read : MethodName := ⟨"RvMachine$Memory", "read", "(II)I"⟩
abbrev b_Me_write : ByteArray := prog_3_method_15_code
def y_Me_write : MethodName := ⟨"RvMachine$Memory", "write", "(III)V"⟩
abbrev b_Me_copy : ByteArray := prog_3_method_16_code
def y_Me_copy : MethodName := ⟨"RvMachine$Memory", "copy", "(III)V"⟩
abbrev b_Rv_init : ByteArray := prog_1_method_1_code
def y_Rv_init : MethodName := ⟨"RvMachine", "<init>", "()V"⟩
abbrev b_Rv_word : ByteArray := prog_1_method_2_code
def y_Rv_word : MethodName := ⟨"RvMachine", "word", "(I)I"⟩
abbrev b_Rv_change : ByteArray := prog_1_method_3_code
def y_Rv_change : MethodName := ⟨"RvMachine", "change", "(II)I"⟩
abbrev b_Rv_begin : ByteArray := prog_1_method_4_code
def y_Rv_begin : MethodName := ⟨"RvMachine", "begin", "(I)V"⟩
abbrev b_Rv_run : ByteArray := prog_1_method_5_code
def y_Rv_run : MethodName := ⟨"RvMachine", "run", "(I)I"⟩
abbrev b_Rv_state : ByteArray := prog_1_method_6_code
def y_Rv_state : MethodName := ⟨"RvMachine", "state", "()I"⟩
abbrev b_Rv_register : ByteArray := prog_1_method_7_code
def y_Rv_register : MethodName := ⟨"RvMachine", "register", "(I)I"⟩
abbrev b_Rv_set : ByteArray := prog_1_method_8_code
def y_Rv_set : MethodName := ⟨"RvMachine", "set", "(II)I"⟩
abbrev b_Rv_peek : ByteArray := prog_1_method_9_code
def y_Rv_peek : MethodName := ⟨"RvMachine", "peek", "(I)I"⟩
abbrev b_Rv_input : ByteArray := prog_1_method_10_code
def y_Rv_input : MethodName := ⟨"RvMachine", "input", "(JI)I"⟩
abbrev b_Rv_take : ByteArray := prog_1_method_11_code
def y_Rv_take : MethodName := ⟨"RvMachine", "take", "()J"⟩
abbrev b_Rv_count : ByteArray := prog_1_method_12_code
def y_Rv_count : MethodName := ⟨"RvMachine", "count", "(I)I"⟩
abbrev b_Rv_widened : ByteArray := prog_1_method_13_code
def y_Rv_widened : MethodName := ⟨"RvMachine", "widened", "([III)[I"⟩
abbrev b_Rv_doNext : ByteArray := prog_1_method_14_code
def y_Rv_doNext : MethodName := ⟨"RvMachine", "doNext", "()V"⟩
abbrev b_Rv_execute : ByteArray := prog_1_method_15_code
def y_Rv_execute : MethodName := ⟨"RvMachine", "execute", "(I)I"⟩
abbrev b_Rv_middle : ByteArray := prog_1_method_16_code
def y_Rv_middle : MethodName := ⟨"RvMachine", "middle", "(I)I"⟩
abbrev b_Rv_top : ByteArray := prog_1_method_17_code
def y_Rv_top : MethodName := ⟨"RvMachine", "top", "(I)I"⟩
abbrev b_Rv_firstOperand : ByteArray := prog_1_method_18_code
def y_Rv_firstOperand : MethodName := ⟨"RvMachine", "firstOperand", "(I)I"⟩
abbrev b_Rv_secondOperand : ByteArray := prog_1_method_19_code
def y_Rv_secondOperand : MethodName := ⟨"RvMachine", "secondOperand", "(I)I"⟩
abbrev b_Rv_keep : ByteArray := prog_1_method_20_code
def y_Rv_keep : MethodName := ⟨"RvMachine", "keep", "(II)I"⟩
abbrev b_Rv_jumpOffset : ByteArray := prog_1_method_21_code
def y_Rv_jumpOffset : MethodName := ⟨"RvMachine", "jumpOffset", "(I)I"⟩
abbrev b_Rv_branchOffset : ByteArray := prog_1_method_22_code
def y_Rv_branchOffset : MethodName := ⟨"RvMachine", "branchOffset", "(I)I"⟩
abbrev b_Rv_storeOffset : ByteArray := prog_1_method_23_code
def y_Rv_storeOffset : MethodName := ⟨"RvMachine", "storeOffset", "(I)I"⟩
abbrev b_Rv_goTo : ByteArray := prog_1_method_24_code
def y_Rv_goTo : MethodName := ⟨"RvMachine", "goTo", "(I)I"⟩
abbrev b_Rv_jump : ByteArray := prog_1_method_25_code
def y_Rv_jump : MethodName := ⟨"RvMachine", "jump", "(II)I"⟩
abbrev b_Rv_jumpByRegister : ByteArray := prog_1_method_26_code
def y_Rv_jumpByRegister : MethodName := ⟨"RvMachine", "jumpByRegister", "(I)I"⟩
abbrev b_Rv_branch : ByteArray := prog_1_method_27_code
def y_Rv_branch : MethodName := ⟨"RvMachine", "branch", "(I)I"⟩
abbrev b_Rv_load : ByteArray := prog_1_method_28_code
def y_Rv_load : MethodName := ⟨"RvMachine", "load", "(I)I"⟩
abbrev b_Rv_store : ByteArray := prog_1_method_29_code
def y_Rv_store : MethodName := ⟨"RvMachine", "store", "(I)I"⟩
abbrev b_Rv_operateWithConstant : ByteArray := prog_1_method_30_code
def y_Rv_operateWithConstant : MethodName := ⟨"RvMachine", "operateWithConstant", "(I)I"⟩
abbrev b_Rv_operate : ByteArray := prog_1_method_31_code
def y_Rv_operate : MethodName := ⟨"RvMachine", "operate", "(I)I"⟩
abbrev b_Rv_plainResult : ByteArray := prog_1_method_32_code
def y_Rv_plainResult : MethodName := ⟨"RvMachine", "plainResult", "(III)I"⟩
abbrev b_Rv_product : ByteArray := prog_1_method_33_code
def y_Rv_product : MethodName := ⟨"RvMachine", "product", "(III)I"⟩
abbrev b_Rv_quotient : ByteArray := prog_1_method_34_code
def y_Rv_quotient : MethodName := ⟨"RvMachine", "quotient", "(III)I"⟩
abbrev b_Rv_unsigned : ByteArray := prog_1_method_35_code
def y_Rv_unsigned : MethodName := ⟨"RvMachine", "unsigned", "(I)J"⟩
abbrev b_Rv_isBelow : ByteArray := prog_1_method_36_code
def y_Rv_isBelow : MethodName := ⟨"RvMachine", "isBelow", "(II)Z"⟩
abbrev b_Rv_serve : ByteArray := prog_1_method_37_code
def y_Rv_serve : MethodName := ⟨"RvMachine", "serve", "()I"⟩
abbrev b_Rv_doneIf : ByteArray := prog_1_method_38_code
def y_Rv_doneIf : MethodName := ⟨"RvMachine", "doneIf", "(Z)I"⟩
abbrev b_Rv_answerAddress : ByteArray := prog_1_method_39_code
def y_Rv_answerAddress : MethodName := ⟨"RvMachine", "answerAddress", "(I)I"⟩
abbrev b_Rv_copyBytes : ByteArray := prog_1_method_40_code
def y_Rv_copyBytes : MethodName := ⟨"RvMachine", "copyBytes", "(III)I"⟩
abbrev b_Mo_init : ByteArray := prog_5_method_1_code
def y_Mo_init : MethodName := ⟨"RvMachineModel", "<init>", "()V"⟩
abbrev b_Mo_kind : ByteArray := prog_5_method_2_code
def y_Mo_kind : MethodName := ⟨"RvMachineModel", "kind", "(II)V"⟩
abbrev b_Mo_thrown : ByteArray := prog_5_method_3_code
def y_Mo_thrown : MethodName := ⟨"RvMachineModel", "thrown", "()I"⟩
abbrev b_Mo_bits : ByteArray := prog_5_method_4_code
def y_Mo_bits : MethodName := ⟨"RvMachineModel", "bits", "(III)I"⟩
abbrev b_Mo_signed : ByteArray := prog_5_method_5_code
def y_Mo_signed : MethodName := ⟨"RvMachineModel", "signed", "(II)I"⟩
abbrev b_Mo_byUpper : ByteArray := prog_5_method_6_code
def y_Mo_byUpper : MethodName := ⟨"RvMachineModel", "byUpper", "(I)I"⟩
abbrev b_Mo_byStore : ByteArray := prog_5_method_7_code
def y_Mo_byStore : MethodName := ⟨"RvMachineModel", "byStore", "(I)I"⟩
abbrev b_Mo_byBranch : ByteArray := prog_5_method_8_code
def y_Mo_byBranch : MethodName := ⟨"RvMachineModel", "byBranch", "(I)I"⟩
abbrev b_Mo_byJump : ByteArray := prog_5_method_9_code
def y_Mo_byJump : MethodName := ⟨"RvMachineModel", "byJump", "(I)I"⟩
abbrev b_Mo_up : ByteArray := prog_5_method_10_code
def y_Mo_up : MethodName := ⟨"RvMachineModel", "up", "(I)I"⟩
abbrev b_Mo_place : ByteArray := prog_5_method_11_code
def y_Mo_place : MethodName := ⟨"RvMachineModel", "place", "(II)I"⟩
abbrev b_Mo_read : ByteArray := prog_5_method_12_code
def y_Mo_read : MethodName := ⟨"RvMachineModel", "read", "(II)I"⟩
abbrev b_Mo_object : ByteArray := prog_5_method_13_code
def y_Mo_object : MethodName := ⟨"RvMachineModel", "object", "(II)I"⟩
abbrev b_Mo_pack : ByteArray := prog_5_method_14_code
def y_Mo_pack : MethodName := ⟨"RvMachineModel", "pack", "()V"⟩
abbrev b_Mo_gone : ByteArray := prog_5_method_15_code
def y_Mo_gone : MethodName := ⟨"RvMachineModel", "gone", "(I)V"⟩
abbrev b_Mo_put : ByteArray := prog_5_method_16_code
def y_Mo_put : MethodName := ⟨"RvMachineModel", "put", "(II)V"⟩
abbrev b_Mo_trap : ByteArray := prog_5_method_17_code
def y_Mo_trap : MethodName := ⟨"RvMachineModel", "trap", "(I)V"⟩
abbrev b_Mo_isGone : ByteArray := prog_5_method_18_code
def y_Mo_isGone : MethodName := ⟨"RvMachineModel", "isGone", "(I)Z"⟩
abbrev b_Mo_step : ByteArray := prog_5_method_19_code
def y_Mo_step : MethodName := ⟨"RvMachineModel", "step", "()V"⟩
abbrev b_Mo_goesOn : ByteArray := prog_5_method_20_code
def y_Mo_goesOn : MethodName := ⟨"RvMachineModel", "goesOn", "(II)V"⟩
abbrev b_Mo_jumps : ByteArray := prog_5_method_21_code
def y_Mo_jumps : MethodName := ⟨"RvMachineModel", "jumps", "(II)V"⟩
abbrev b_Mo_branch : ByteArray := prog_5_method_22_code
def y_Mo_branch : MethodName := ⟨"RvMachineModel", "branch", "(II)V"⟩
abbrev b_Mo_load : ByteArray := prog_5_method_23_code
def y_Mo_load : MethodName := ⟨"RvMachineModel", "load", "(II)V"⟩
abbrev b_Mo_store : ByteArray := prog_5_method_24_code
def y_Mo_store : MethodName := ⟨"RvMachineModel", "store", "(II)V"⟩
abbrev b_Mo_plain : ByteArray := prog_5_method_25_code
def y_Mo_plain : MethodName := ⟨"RvMachineModel", "plain", "(IZII)I"⟩
abbrev b_Mo_more : ByteArray := prog_5_method_26_code
def y_Mo_more : MethodName := ⟨"RvMachineModel", "more", "(III)I"⟩
abbrev b_Mo_service : ByteArray := prog_5_method_27_code
def y_Mo_service : MethodName := ⟨"RvMachineModel", "service", "()V"⟩
abbrev b_Mo_word : ByteArray := prog_5_method_28_code
def y_Mo_word : MethodName := ⟨"RvMachineModel", "word", "(I)I"⟩
abbrev b_Mo_change : ByteArray := prog_5_method_29_code
def y_Mo_change : MethodName := ⟨"RvMachineModel", "change", "(II)I"⟩
abbrev b_Mo_begin : ByteArray := prog_5_method_30_code
def y_Mo_begin : MethodName := ⟨"RvMachineModel", "begin", "(I)V"⟩
abbrev b_Mo_run : ByteArray := prog_5_method_31_code
def y_Mo_run : MethodName := ⟨"RvMachineModel", "run", "(I)I"⟩
abbrev b_Mo_state : ByteArray := prog_5_method_32_code
def y_Mo_state : MethodName := ⟨"RvMachineModel", "state", "()I"⟩
abbrev b_Mo_register : ByteArray := prog_5_method_33_code
def y_Mo_register : MethodName := ⟨"RvMachineModel", "register", "(I)I"⟩
abbrev b_Mo_set : ByteArray := prog_5_method_34_code
def y_Mo_set : MethodName := ⟨"RvMachineModel", "set", "(II)I"⟩
abbrev b_Mo_peek : ByteArray := prog_5_method_35_code
def y_Mo_peek : MethodName := ⟨"RvMachineModel", "peek", "(I)I"⟩
abbrev b_Mo_input : ByteArray := prog_5_method_36_code
def y_Mo_input : MethodName := ⟨"RvMachineModel", "input", "(JI)I"⟩
abbrev b_Mo_take : ByteArray := prog_5_method_37_code
def y_Mo_take : MethodName := ⟨"RvMachineModel", "take", "()J"⟩
abbrev b_Mo_count : ByteArray := prog_5_method_38_code
def y_Mo_count : MethodName := ⟨"RvMachineModel", "count", "(I)I"⟩
abbrev b_Ar_copyOfI : ByteArray := prog_15_method_123_code
def y_Ar_copyOfI : MethodName := ⟨"java/util/Arrays", "copyOf", "([II)[I"⟩
abbrev b_Ar_fill : ByteArray := prog_15_method_103_code
def y_Ar_fill : MethodName := ⟨"java/util/Arrays", "fill", "([II)V"⟩
abbrev b_Ar_copyOfB : ByteArray := prog_15_method_121_code
def y_Ar_copyOfB : MethodName := ⟨"java/util/Arrays", "copyOf", "([BI)[B"⟩
end
section
/-! Base rows of this claim: one list of words for all methods (zW), contracts with the cells that were made told apart (zMet), calls over them. -/
/-- the words of the tables that stay so whatever is called: every method's contract takes them all -/
def zgood : Cond → Bool
  | .fieldLinkNest .. => true
  | .methodLinkNest .. => true
  | .castable .. => true
  | .declares .. => true
  | w => goodWord w
def zW : List Cond := lw_tbl.filter zgood
theorem zW_of {w : Cond} (h : w ∈ lw_tbl) (g : zgood w = true) : w ∈ zW := List.mem_filter.mpr ⟨h, g⟩
theorem zt_1 {w : Cond} (i : Nat) (h : tables_1_1[i]? = some w) (g : zgood w = true) : w ∈ zW := zW_of (List.mem_append_right _ (List.mem_append_left _ (List.mem_of_getElem? h))) g
theorem zt_2 {w : Cond} (i : Nat) (h : tables_1_2[i]? = some w) (g : zgood w = true) : w ∈ zW := zW_of (List.mem_append_right _ (List.mem_append_right _ (List.mem_append_left _ (List.mem_of_getElem? h)))) g
theorem zt_3 {w : Cond} (i : Nat) (h : tables_1_3[i]? = some w) (g : zgood w = true) : w ∈ zW := zW_of (List.mem_append_right _ (List.mem_append_right _ (List.mem_append_right _ (List.mem_append_left _ (List.mem_of_getElem? h))))) g
theorem zt_4 {w : Cond} (i : Nat) (h : tables_1_4[i]? = some w) (g : zgood w = true) : w ∈ zW := zW_of (List.mem_append_right _ (List.mem_append_right _ (List.mem_append_right _ (List.mem_append_right _ (List.mem_of_getElem? h))))) g
theorem zt_0 {y : MethodName} {n : Nat} (i : Nat) (h : lw_privs[i]? = some (y, n)) : Cond.selects y.cls y y ∈ zW := zW_of (List.mem_append_left _ (List.mem_map.mpr ⟨(y, n), List.mem_of_getElem? h, rfl⟩)) rfl
theorem z_good {w : Cond} (h : goodWord w = true) : (w.onTables && w.keeps) = true ∨ ∃ ty, w = .arrayClass ty := by
  cases w <;> first | exact Or.inr ⟨_, rfl⟩ | exact Or.inl h
theorem zW_move {args a' : Array Value} {s U : State} (hW : s.WarmedH U.vm) {w : Cond} (h : w ∈ zW) (hb : w.before args s = true) : w.before a' U = true := by
  have g := (List.mem_filter.mp h).2
  cases w <;> first | exact word_at hW (z_good g) hb | exact va_Nw.use rfl (va_Nw.warmF hW (va_Nw.of rfl hb)) | exact va_Nw.use rfl (va_Nw.warmM hW (va_Nw.of rfl hb)) | exact va_Nw.use rfl (va_Nw.warmC hW (va_Nw.of rfl hb)) | exact va_Nw.use rfl (va_Nw.warmD hW (va_Nw.of rfl hb))
abbrev zWs (y : MethodName) (cc : ByteArray) (n : Nat) (r : Option FieldType) : List Cond := Cond.code y cc n r :: zW
/-- a contract: what comes back may say how many cells (k) and slots (n) were made -/
def zMet (l : Launch) (y : MethodName) (ws : List Cond) (rm : Room) (Pc : Array Value → State → Prop) (Qc : Array Value → State → Outcome → State → Nat → Nat → Prop) (free : Addr → Prop) : Prop :=
  MetFree l y (headSpec ws rm) Pc (fun _ _ _ _ _ => True) (fun a st o t => ∃ L k n, Qc a st o t k n ∧ FrameEnd st o t L k n ∧ ∀ q ∈ L, free q.base)
def zMQ (below : List Frame) (Qc : Array Value → State → Outcome → State → Nat → Nat → Prop) (a : Array Value) (s : State) (free : Addr → Prop) : State → Prop := fun t =>
  ∃ o, t.status = .running ∧ Ended t below o ∧ ∃ L k n, Qc a s o t k n ∧ FrameEnd s o t L k n ∧ ∀ q ∈ L, free q.base
theorem zMet.ofW {l : Launch} {y : MethodName} {ws ws' : List Cond} {rm : Room} {Pc : Array Value → State → Prop} {Qc : Array Value → State → Outcome → State → Nat → Nat → Prop} {free : Addr → Prop} {cc : ByteArray} {maxL : Nat} {ret : Option FieldType}
    (hy : plainName y.cls = true) (hw : ws = Cond.code y cc maxL ret :: ws')
    (body : ∀ p e s m args below meth c s₁, BodyLoose p l y (headSpec ws rm) cc maxL ret e s m args below meth c s₁ → c.maxLocals = maxL → Pc args s →
      W p l e (headSpec ws rm).room s m args below meth c s.heap [] 0 0 (zMQ below Qc args s free) (entryFrame m args maxL)) : zMet l y ws rm Pc Qc free := by
  refine MetFree.of_bodyS (code := cc) (maxLocals := maxL) (ret := ret) hy ?_ ?_
  · intro args s m h hn
    obtain ⟨meth, c, h1, h2, h3, h4, h5, h6, -, -⟩ := Cond.code_spec hn (atoms_spec (ws := ws) h _ (by rw [hw]; exact List.mem_cons_self))
    exact ⟨meth, c, h1, h2, h3, h4, h5, h6⟩
  · intro p e s m args below meth c s₁ B hml hP _
    have hh0 : s₁.heap = s.heap := by rw [B.state]; rfl
    obtain ⟨t, a1, o, b1, b2, b3⟩ := body p e s m args below meth c s₁ B hml hP s₁ hh0 (Stand.of_body B)
    exact ⟨t, o, a1, b1, b2, b3⟩
/-- a contract's start: the arguments, the world, the classes -/
def zPc (D : va_G) (T : List (ClassId × FieldType)) (sz : Nat) (ws : va_W) (av : List Value) : Array Value → State → Prop :=
  va_Pc av (fun U => U.heap.size = sz ∧ va_P D zC ws U.heap ∧ va_K D zC T U ∧ va_D (fun _ => True) ws)
theorem zPc_blind {D : va_G} {T : List (ClassId × FieldType)} {sz : Nat} {ws : va_W} {av : List Value} : FrameBlind (zPc D T sz ws av) := by
  intro a U g mk q
  obtain ⟨q0, q1, qP, qK, qD⟩ := q
  exact ⟨q0, q1, qP, va_K.moved (u := U) (U := U.calling g mk a) (Vm.Alike.refl U.vm) qK, qD⟩
/-- ends: int, long, void, a reference; K u: the cells and slots that were made -/
def zQi {S : Type} (D : va_G) (A : Nat → Prop) (post : Int32 → S → Prop) (K : S → Nat × Nat) (Wd : S → va_W) : Array Value → State → Outcome → State → Nat → Nat → Prop := fun _ st oc t k n =>
  (∃ (r : Int32) (u : S), oc = .returned (some (.int r)) ∧ post r u ∧ k = (K u).1 ∧ n = (K u).2 ∧ va_P D zC (Wd u) t.heap ∧ va_D A (Wd u)) ∧ va_F A st t
def zQl {S : Type} (D : va_G) (A : Nat → Prop) (post : Int64 → S → Prop) (K : S → Nat × Nat) (Wd : S → va_W) : Array Value → State → Outcome → State → Nat → Nat → Prop := fun _ st oc t k n =>
  (∃ (r : Int64) (u : S), oc = .returned (some (.long r)) ∧ post r u ∧ k = (K u).1 ∧ n = (K u).2 ∧ va_P D zC (Wd u) t.heap ∧ va_D A (Wd u)) ∧ va_F A st t
def zQv {S : Type} (D : va_G) (A : Nat → Prop) (post : S → Prop) (K : S → Nat × Nat) (Wd : S → va_W) : Array Value → State → Outcome → State → Nat → Nat → Prop := fun _ st oc t k n =>
  (∃ (u : S), oc = .returned none ∧ post u ∧ k = (K u).1 ∧ n = (K u).2 ∧ va_P D zC (Wd u) t.heap ∧ va_D A (Wd u)) ∧ va_F A st t
def zQr {S : Type} (D : va_G) (A : Nat → Prop) (post : Nat → S → Prop) (K : S → Nat × Nat) (Wd : S → va_W) : Array Value → State → Outcome → State → Nat → Nat → Prop := fun _ st oc t k n =>
  (∃ (r : Nat) (u : S), oc = .returned (some (.ref r)) ∧ post r u ∧ k = (K u).1 ∧ n = (K u).2 ∧ va_P D zC (Wd u) t.heap ∧ va_D A (Wd u)) ∧ va_F A st t
abbrev z0 : Unit → Nat × Nat := fun _ => (0, 0)
section ZCalls
variable {p : Program} {l : Launch} {e : Env} {R : Room} {s : State} {m : MethodId} {args : Array Value} {below : List Frame} {meth : Method} {c : Code} {H : Heap} {locs : List Loc} {cells slots : Nat} {Q : State → Prop}
variable {y : MethodName} {bytes cc : ByteArray} {maxL nL n index : Nat} {ret : Option FieldType} {rm : Room} {Pc : Array Value → State → Prop} {Qc : Array Value → State → Outcome → State → Nat → Nat → Prop} {free : Addr → Prop} {own C host : String} {b : Addr} {As rest st0 : List Value} {pc : Nat} {ls : Array Slot}
theorem zW_mono {Q' : State → Prop} {g : JFrame} (h : ∀ t, Q t → Q' t) (k : W p l e R s m args below meth c H locs cells slots Q g) : W p l e R s m args below meth c H locs cells slots Q' g := by
  intro T hT X
  obtain ⟨t, a, b⟩ := k T hT X
  exact ⟨t, a, h t b⟩
def zPre (R : Room) (rm : Room) (Pc : Array Value → State → Prop) : Pt → Array Value → Prop := fun A a => A.cells + rm.cells ≤ R.cells ∧ A.slots + rm.slots ≤ R.slots ∧ Pc a A.U
def zPost (Qc : Array Value → State → Outcome → State → Nat → Nat → Prop) (free : Addr → Prop) : Pt → Array Value → Option Value → Pt → Prop := fun A a v B =>
  ∃ (g : JFrame) (mk : MethodId) (t : State) (L : List Loc) (k n : Nat), B.U.heap = t.heap ∧ B.U.vm = t.vm ∧ Qc a (A.U.calling g mk a) (.returned v) t k n ∧ B.locs = A.locs ++ L ∧ (∀ q ∈ L, free q.base) ∧ B.cells = A.cells + k ∧ B.slots = A.slots + n
theorem zback (hM : zMet l y (zWs y bytes maxL ret) rm Pc Qc free) (hblind : FrameBlind Pc) (hfr : rm.frames + 1 ≤ R.frames) (hlo : 8 + (maxL + 11) + rm.locals ≤ R.locals)
    (hw : ∀ w ∈ zW, w.before args s = true) (hcode : Cond.code y bytes maxL ret ∈ zW) (hini : Cond.initialized y.cls ∈ zW) :
    Back l R p e below s args y 3 8 (zPre R rm Pc) (zPost Qc free) := by
  refine Back.of_free (S := headSpec (zWs y bytes maxL ret) rm) (P := Pc) (K := fun _ _ _ _ _ => True) (Q := fun a st o t => ∃ L k n, Qc a st o t k n ∧ FrameEnd st o t L k n ∧ ∀ q ∈ L, free q.base) (bytes := bytes) (maxL := maxL) (ret := ret)
    (E := fun a st o t L k n => Qc a st o t k n ∧ ∀ q ∈ L, free q.base) hM hfr hlo ?_ ?_ (fun _ _ _ _ _ _ _ _ _ => trivial) ?_ ?_
  · intro m meth c A a X hp
    have ok : ∀ w ∈ zW, w.before a A.U = true := fun w h => zW_move X.warmed h (hw w h)
    refine ⟨atoms_intro fun w h => ?_, ok _ hcode, ok _ hini, hp.1, hp.2.1⟩
    rcases List.mem_cons.mp h with rfl | h
    · exact ok _ hcode
    · exact ok w h
  · intro m meth c A a g mk X hp
    exact hblind _ _ _ _ hp.2.2
  · intro a st o t ⟨L, k, n, hq, hF, hL⟩
    exact ⟨L, k, n, hF, hq, hL⟩
  · intro m meth c A a g mk v t L k n X hp _ hF ⟨hq, hL⟩
    exact ⟨g, mk, t, L, k, n, rfl, rfl, hq, rfl, hL, rfl, rfl⟩
/-- a call that comes back -/
def zRun (p : Program) (l : Launch) (e : Env) (R : Room) (s : State) (m : MethodId) (args : Array Value) (below : List Frame) (meth : Method) (c : Code) (H : Heap) (locs : List Loc) (cells slots : Nat) (g : JFrame) (rest : List Value) (Qa : State → Outcome → State → Nat → Nat → Prop) (free : Addr → Prop) : Prop :=
  ∀ T : State, T.heap = H → Stand p l e R s m args below meth c T locs cells slots → ∃ (v : Option Value) (st₀ t T' : State) (L : List Loc) (k n : Nat), st₀.heap = H ∧ Stand p l e R s m args below meth c T' (locs ++ L) (cells + k) (slots + n) ∧ (∀ q ∈ L, free q.base) ∧ T'.heap = t.heap ∧ T'.vm = t.vm ∧ Qa st₀ (.returned v) t k n ∧
    ∀ target, Steps p.tables e below (T'.setTop { g with pc := g.pc + 3, stack := v.toList ++ rest }) target → Steps p.tables e below (T.setTop g) target
/-- what a call's rows say of the callee -/
def zCb (y : MethodName) (bytes : ByteArray) (maxL : Nat) (ret : Option FieldType) (n : Nat) : Prop :=
  Cond.code y bytes maxL ret ∈ zW ∧ Cond.initialized y.cls ∈ zW ∧ (y.cls ≠ "java/lang/invoke/MethodHandle" ∧ y.cls ≠ "java/lang/invoke/VarHandle") ∧ (parseMethodDescriptor y.desc).map (fun d => d.parameters.length) = some n
theorem zCb.len (h : zCb y bytes maxL ret n) : ∀ sig, parseMethodDescriptor y.desc = some sig → n = sig.parameters.length := by
  intro sig hs
  have h2 := h.2.2.2
  rw [hs] at h2
  exact (Option.some.inj h2).symm
def zRm (R rm : Room) (maxL cells slots : Nat) : Prop := rm.frames + 1 ≤ R.frames ∧ 8 + (maxL + 11) + rm.locals ≤ R.locals ∧ cells + rm.cells ≤ R.cells ∧ slots + rm.slots ≤ R.slots
/-- how an instruction names its method: in its own class's pool, or a nest mate's -/
def zLk (own : String) (index : Nat) (y : MethodName) : Prop := Cond.methodLink own index y ∈ zW ∨ ∃ host, Cond.methodLinkNest own index y host ∈ zW
theorem zrunV (S : CallFix p m c cc nL s args zW own) (hM : zMet l y (zWs y bytes maxL ret) rm Pc Qc free) (cb : zCb y bytes maxL ret n) (lk : zLk own index y) (hin : Cond.instanceMethod y ∈ zW) (hse : Cond.selects y.cls y y ∈ zW) (hp : PreV s H y.cls b Pc As) (hR : zRm R rm maxL cells slots)
    (hn : As.length = n) (hsize : ls.size = nL) (hst : st0 = As.reverse ++ .ref b :: rest) (hW : (rest.map fun v => v.category).sum ≤ 8) (hdg : decode cc pc = .ok (.invokevirtual index, 3)) :
    zRun p l e R s m args below meth c H locs cells slots (F0 m pc ls st0) rest (Qc (Value.ref b :: As).toArray) free := by
  obtain ⟨hx, hb, hml, ho, hw⟩ := S
  have hK : Back l R p e below s args y 3 8 (zPre R rm Pc) (zPost Qc free) := zback hM hp.1 hR.1 hR.2.1 hw cb.1 cb.2.1
  obtain ⟨-, ⟨cellB, hcB, hoB, hclB⟩, hPc⟩ := hp
  subst hst
  intro T hT X
  rcases lk with lk | ⟨host, lk⟩
  · obtain ⟨v, vm₁, ⟨U', l2, c2, s2⟩, hW₁, X', ⟨g', mk, t, L, k, n', e1, e2, hq, h1, hL, h2, h3⟩, st⟩ := callV X hx (C := y.cls) (bytes := bytes) (maxL := maxL) (ret := ret) ho (hw _ lk) (hw _ hin) (hw _ hse) (hw _ cb.1) cb.2.2.1 hK (by rw [hT]; exact hcB) hoB hclB (g := F0 m pc ls (As.reverse ++ .ref b :: rest)) rfl (hsize.trans hml.symm) (argsL := As) (rest := rest) (fun sig h => hn.trans (cb.len sig h)) rfl (lv_room hW) (by rw [hb]; exact hdg)
      (fun vm₁ hW₁ => ⟨hR.2.2.1, hR.2.2.2, hPc (T.setVm vm₁) hT hW₁⟩)
    dsimp only [Pt.U, Pt.locs, Pt.cells, Pt.slots] at X' e1 e2 h1 h2 h3 st
    subst h1; subst h2; subst h3
    exact ⟨v, (T.setVm vm₁).calling g' mk (Value.ref b :: As).toArray, t, U', L, k, n', hT, X', hL, e1, e2, hq, st⟩
  · obtain ⟨v, vm₁, ⟨U', l2, c2, s2⟩, hW₁, X', ⟨g', mk, t, L, k, n', e1, e2, hq, h1, hL, h2, h3⟩, st⟩ := va_callVN X hx (C := y.cls) (bytes := bytes) (maxL := maxL) (ret := ret) ho (hw _ lk) (hw _ hin) (hw _ hse) (hw _ cb.1) cb.2.2.1 hK (by rw [hT]; exact hcB) hoB hclB (g := F0 m pc ls (As.reverse ++ .ref b :: rest)) rfl (hsize.trans hml.symm) (argsL := As) (rest := rest) (fun sig h => hn.trans (cb.len sig h)) rfl (lv_room hW) (by rw [hb]; exact hdg)
      (fun vm₁ hW₁ => ⟨hR.2.2.1, hR.2.2.2, hPc (T.setVm vm₁) hT hW₁⟩)
    dsimp only [Pt.U, Pt.locs, Pt.cells, Pt.slots] at X' e1 e2 h1 h2 h3 st
    subst h1; subst h2; subst h3
    exact ⟨v, (T.setVm vm₁).calling g' mk (Value.ref b :: As).toArray, t, U', L, k, n', hT, X', hL, e1, e2, hq, st⟩
theorem zrunS (S : CallFix p m c cc nL s args zW own) (hM : zMet l y (zWs y bytes maxL ret) rm Pc Qc free) (cb : zCb y bytes maxL ret n) (lk : zLk own index y) (hstt : Cond.static y ∈ zW) (hp : PreS s H Pc As) (hR : zRm R rm maxL cells slots)
    (hn : As.length = n) (hsize : ls.size = nL) (hst : st0 = As.reverse ++ rest) (hW : (rest.map fun v => v.category).sum ≤ 8) (hdg : decode cc pc = .ok (.invokestatic index, 3)) :
    zRun p l e R s m args below meth c H locs cells slots (F0 m pc ls st0) rest (Qc As.toArray) free := by
  obtain ⟨hx, hb, hml, ho, hw⟩ := S
  have hK : Back l R p e below s args y 3 8 (zPre R rm Pc) (zPost Qc free) := zback hM hp.1 hR.1 hR.2.1 hw cb.1 cb.2.1
  subst hst
  intro T hT X
  rcases lk with lk | ⟨host, lk⟩
  · obtain ⟨v, vm₁, ⟨U', l2, c2, s2⟩, hW₁, X', ⟨g', mk, t, L, k, n', e1, e2, hq, h1, hL, h2, h3⟩, st⟩ := callS X hx (bytes := bytes) (maxL := maxL) (ret := ret) ho (hw _ lk) (hw _ hstt) (hw _ cb.2.1) (hw _ cb.1) cb.2.2.1 hK (g := F0 m pc ls (As.reverse ++ rest)) rfl (hsize.trans hml.symm) (argsL := As) (rest := rest) (fun sig h => hn.trans (cb.len sig h)) rfl (lv_room hW) (by rw [hb]; exact hdg)
      (fun vm₁ hW₁ => ⟨hR.2.2.1, hR.2.2.2, hp.2 (T.setVm vm₁) hT hW₁⟩)
    dsimp only [Pt.U, Pt.locs, Pt.cells, Pt.slots] at X' e1 e2 h1 h2 h3 st
    subst h1; subst h2; subst h3
    exact ⟨v, (T.setVm vm₁).calling g' mk As.toArray, t, U', L, k, n', hT, X', hL, e1, e2, hq, st⟩
  · obtain ⟨v, vm₁, ⟨U', l2, c2, s2⟩, hW₁, X', ⟨g', mk, t, L, k, n', e1, e2, hq, h1, hL, h2, h3⟩, st⟩ := va_callSN X hx (bytes := bytes) (maxL := maxL) (ret := ret) ho (hw _ lk) (hw _ hstt) (hw _ cb.2.1) (hw _ cb.1) cb.2.2.1 hK (g := F0 m pc ls (As.reverse ++ rest)) rfl (hsize.trans hml.symm) (argsL := As) (rest := rest) (fun sig h => hn.trans (cb.len sig h)) rfl (lv_room hW) (by rw [hb]; exact hdg)
      (fun vm₁ hW₁ => ⟨hR.2.2.1, hR.2.2.2, hp.2 (T.setVm vm₁) hT hW₁⟩)
    dsimp only [Pt.U, Pt.locs, Pt.cells, Pt.slots] at X' e1 e2 h1 h2 h3 st
    subst h1; subst h2; subst h3
    exact ⟨v, (T.setVm vm₁).calling g' mk As.toArray, t, U', L, k, n', hT, X', hL, e1, e2, hq, st⟩
theorem zrunI (S : CallFix p m c cc nL s args zW own) (hM : zMet l y (zWs y bytes maxL none) rm Pc Qc free) (cb : zCb y bytes maxL none n) (lk : zLk own index y) (hin : Cond.instanceMethod y ∈ zW) (hy1 : y.name = "<init>") (hp : PreS s H Pc (.ref b :: As)) (hR : zRm R rm maxL cells slots)
    (hn : As.length = n) (hsize : ls.size = nL) (hst : st0 = As.reverse ++ .ref b :: rest) (hW : (rest.map fun v => v.category).sum ≤ 8) (hdg : decode cc pc = .ok (.invokespecial index, 3)) :
    zRun p l e R s m args below meth c H locs cells slots (F0 m pc ls st0) rest (Qc (Value.ref b :: As).toArray) free := by
  obtain ⟨hx, hb, hml, ho, hw⟩ := S
  have hK : Back l R p e below s args y 3 8 (zPre R rm Pc) (zPost Qc free) := zback hM hp.1 hR.1 hR.2.1 hw cb.1 cb.2.1
  subst hst
  intro T hT X
  rcases lk with lk | ⟨host, lk⟩
  · obtain ⟨v, vm₁, ⟨U', l2, c2, s2⟩, hW₁, X', ⟨g', mk, t, L, k, n', e1, e2, hq, h1, hL, h2, h3⟩, st⟩ := callI X hx (bytes := bytes) (maxL := maxL) ho hy1 (hw _ lk) (hw _ hin) (hw _ cb.1) cb.2.2.1 hK (g := F0 m pc ls (As.reverse ++ .ref b :: rest)) rfl (hsize.trans hml.symm) (a := b) (argsL := As) (rest := rest) (fun sig h => hn.trans (cb.len sig h)) rfl (lv_room hW) (by rw [hb]; exact hdg)
      (fun vm₁ hW₁ => ⟨hR.2.2.1, hR.2.2.2, hp.2 (T.setVm vm₁) hT hW₁⟩)
    dsimp only [Pt.U, Pt.locs, Pt.cells, Pt.slots] at X' e1 e2 h1 h2 h3 st
    subst h1; subst h2; subst h3
    exact ⟨v, (T.setVm vm₁).calling g' mk (Value.ref b :: As).toArray, t, U', L, k, n', hT, X', hL, e1, e2, hq, st⟩
  · obtain ⟨v, vm₁, ⟨U', l2, c2, s2⟩, hW₁, X', ⟨g', mk, t, L, k, n', e1, e2, hq, h1, hL, h2, h3⟩, st⟩ := va_callIN X hx (bytes := bytes) (maxL := maxL) ho hy1 (hw _ lk) (hw _ hin) (hw _ cb.1) cb.2.2.1 hK (g := F0 m pc ls (As.reverse ++ .ref b :: rest)) rfl (hsize.trans hml.symm) (a := b) (argsL := As) (rest := rest) (fun sig h => hn.trans (cb.len sig h)) rfl (lv_room hW) (by rw [hb]; exact hdg)
      (fun vm₁ hW₁ => ⟨hR.2.2.1, hR.2.2.2, hp.2 (T.setVm vm₁) hT hW₁⟩)
    dsimp only [Pt.U, Pt.locs, Pt.cells, Pt.slots] at X' e1 e2 h1 h2 h3 st
    subst h1; subst h2; subst h3
    exact ⟨v, (T.setVm vm₁).calling g' mk (Value.ref b :: As).toArray, t, U', L, k, n', hT, X', hL, e1, e2, hq, st⟩
variable {S : Type} {K : S → Nat × Nat} {Wd : S → va_W} {D : va_G} {T : List (ClassId × FieldType)} {A : Nat → Prop} {ws wc wr : va_W} {av : List Value} {a : Array Value}
/-- the callee's start out of the caller's world -/
theorem zpreS (hK : va_K D zC T s) (hP : va_P D zC ws H) (hD : va_D A ws) (isC : List Nat) (hC : isC.map (fun i => ws[i]?) = wc.map some) (hC2 : isC.filterMap (fun i => ws[i]?) = wc) (hnd : va_nd isC = true) : PreS s H (zPc D T H.size wc av) av :=
  ⟨zPc_blind, fun U hU hW => ⟨rfl, by rw [hU], by rw [hU]; exact hP.sub isC hC2, va_K.moved hW.alike hK, (hD.sub isC hnd hC).weaken (fun _ _ _ _ => trivial)⟩⟩
theorem zpreV {q0 ci : Nat} {fs : List Value} {q : vw_C} (hK : va_K D zC T s) (hP : va_P D zC ws H) (hD : va_D A ws) (he : ws[q0]? = some (b, .inr (ci, fs))) (hc : zC[ci]? = some q) (hq : q.1 = y.cls) (isC : List Nat) (hC : isC.map (fun i => ws[i]?) = wc.map some) (hC2 : isC.filterMap (fun i => ws[i]?) = wc) (hnd : va_nd isC = true) : PreV s H y.cls b (zPc D T H.size wc (.ref b :: As)) As := by
  obtain ⟨cell, h1, h2, h3⟩ := va_recv hK hP hc he
  exact ⟨zPc_blind, ⟨cell, h1, h2, by rw [← hq]; exact h3⟩, (zpreS hK hP hD isC hC hC2 hnd).2⟩
/-- behind a call: the callee's cells as they came back beside the rest -/
theorem zback_S {A1 free : Nat → Prop} {t : State} {T' st₀ : State} {L : List Loc} (hS : va_S A s.heap H locs) (h0 : st₀.heap = H) (e1 : T'.heap = t.heap) (hF : va_F A1 st₀ t) (hA1 : ∀ q, A1 q → A q) (hL : ∀ q ∈ L, A1 q.base) : va_S A s.heap T'.heap (locs ++ L) := by
  obtain ⟨hz, hk⟩ := hF
  rw [h0] at hz hk
  refine ⟨Nat.le_trans hS.1 (by rw [e1]; exact hz), fun q h1 h2 => ?_, fun q hq => ?_⟩
  · rw [e1, hk q (Nat.lt_of_lt_of_le h1 hS.1) (fun z => h2 (hA1 q z))]
    exact hS.2.1 q h1 h2
  · rcases List.mem_append.mp hq with h | h
    · exact hS.2.2 q h
    · exact hA1 _ (hL q h)
theorem zgoi {post : Int32 → S → Prop} (hr : zRun p l e R s m args below meth c H locs cells slots (F0 m pc ls st0) rest (zQi D (va_A wc H.size) post K Wd a) (va_A wc H.size)) (hP : va_P D zC ws H) (hD : va_D A ws) (hS : va_S A s.heap H locs) (hA : ∀ q, s.heap.size ≤ q → A q)
    (isC isR : List Nat) (hC : isC.map (fun i => ws[i]?) = wc.map some) (hR : isR.map (fun i => ws[i]?) = wr.map some) (hn : va_nd isR = true) (hdis : ∀ i ∈ isR, i ∉ isC)
    (kk : ∀ (r : Int32) (u : S) (H1 : Heap) (locs1 : List Loc), post r u → va_P D zC (wr ++ Wd u) H1 → va_D A (wr ++ Wd u) → va_S A s.heap H1 locs1 → W p l e R s m args below meth c H1 locs1 (cells + (K u).1) (slots + (K u).2) Q (F0 m (pc + 3) ls (.int r :: rest))) :
    W p l e R s m args below meth c H locs cells slots Q (F0 m pc ls st0) := by
  intro T0 hT X
  have hF := va_free hD hS hA isC hC
  obtain ⟨v, st₀, t, T', L, k, n, h0, X', hL, e1, e2, ⟨⟨r, u, hv, hp, rfl, rfl, hP1, hD1⟩, hFr⟩, st⟩ := hr T0 hT X
  cases hv
  have hk := hFr.2
  rw [h0] at hk
  obtain ⟨hP2, hD2⟩ := va_join hP hD isC isR hC hR hn hdis hk hF hP1 hD1
  rw [← e1] at hP2
  obtain ⟨t2, a1, b1⟩ := kk r u T'.heap (locs ++ L) hp hP2 hD2 (zback_S (free := A) hS h0 e1 hFr hF hL) T' rfl X'
  exact ⟨t2, st t2 a1, b1⟩
theorem zgol {post : Int64 → S → Prop} (hr : zRun p l e R s m args below meth c H locs cells slots (F0 m pc ls st0) rest (zQl D (va_A wc H.size) post K Wd a) (va_A wc H.size)) (hP : va_P D zC ws H) (hD : va_D A ws) (hS : va_S A s.heap H locs) (hA : ∀ q, s.heap.size ≤ q → A q)
    (isC isR : List Nat) (hC : isC.map (fun i => ws[i]?) = wc.map some) (hR : isR.map (fun i => ws[i]?) = wr.map some) (hn : va_nd isR = true) (hdis : ∀ i ∈ isR, i ∉ isC)
    (kk : ∀ (r : Int64) (u : S) (H1 : Heap) (locs1 : List Loc), post r u → va_P D zC (wr ++ Wd u) H1 → va_D A (wr ++ Wd u) → va_S A s.heap H1 locs1 → W p l e R s m args below meth c H1 locs1 (cells + (K u).1) (slots + (K u).2) Q (F0 m (pc + 3) ls (.long r :: rest))) :
    W p l e R s m args below meth c H locs cells slots Q (F0 m pc ls st0) := by
  intro T0 hT X
  have hF := va_free hD hS hA isC hC
  obtain ⟨v, st₀, t, T', L, k, n, h0, X', hL, e1, e2, ⟨⟨r, u, hv, hp, rfl, rfl, hP1, hD1⟩, hFr⟩, st⟩ := hr T0 hT X
  cases hv
  have hk := hFr.2
  rw [h0] at hk
  obtain ⟨hP2, hD2⟩ := va_join hP hD isC isR hC hR hn hdis hk hF hP1 hD1
  rw [← e1] at hP2
  obtain ⟨t2, a1, b1⟩ := kk r u T'.heap (locs ++ L) hp hP2 hD2 (zback_S (free := A) hS h0 e1 hFr hF hL) T' rfl X'
  exact ⟨t2, st t2 a1, b1⟩
theorem zgor {post : Nat → S → Prop} (hr : zRun p l e R s m args below meth c H locs cells slots (F0 m pc ls st0) rest (zQr D (va_A wc H.size) post K Wd a) (va_A wc H.size)) (hP : va_P D zC ws H) (hD : va_D A ws) (hS : va_S A s.heap H locs) (hA : ∀ q, s.heap.size ≤ q → A q)
    (isC isR : List Nat) (hC : isC.map (fun i => ws[i]?) = wc.map some) (hR : isR.map (fun i => ws[i]?) = wr.map some) (hn : va_nd isR = true) (hdis : ∀ i ∈ isR, i ∉ isC)
    (kk : ∀ (r : Nat) (u : S) (H1 : Heap) (locs1 : List Loc), post r u → va_P D zC (wr ++ Wd u) H1 → va_D A (wr ++ Wd u) → va_S A s.heap H1 locs1 → W p l e R s m args below meth c H1 locs1 (cells + (K u).1) (slots + (K u).2) Q (F0 m (pc + 3) ls (.ref r :: rest))) :
    W p l e R s m args below meth c H locs cells slots Q (F0 m pc ls st0) := by
  intro T0 hT X
  have hF := va_free hD hS hA isC hC
  obtain ⟨v, st₀, t, T', L, k, n, h0, X', hL, e1, e2, ⟨⟨r, u, hv, hp, rfl, rfl, hP1, hD1⟩, hFr⟩, st⟩ := hr T0 hT X
  cases hv
  have hk := hFr.2
  rw [h0] at hk
  obtain ⟨hP2, hD2⟩ := va_join hP hD isC isR hC hR hn hdis hk hF hP1 hD1
  rw [← e1] at hP2
  obtain ⟨t2, a1, b1⟩ := kk r u T'.heap (locs ++ L) hp hP2 hD2 (zback_S (free := A) hS h0 e1 hFr hF hL) T' rfl X'
  exact ⟨t2, st t2 a1, b1⟩
theorem zgov {post : S → Prop} (hr : zRun p l e R s m args below meth c H locs cells slots (F0 m pc ls st0) rest (zQv D (va_A wc H.size) post K Wd a) (va_A wc H.size)) (hP : va_P D zC ws H) (hD : va_D A ws) (hS : va_S A s.heap H locs) (hA : ∀ q, s.heap.size ≤ q → A q)
    (isC isR : List Nat) (hC : isC.map (fun i => ws[i]?) = wc.map some) (hR : isR.map (fun i => ws[i]?) = wr.map some) (hn : va_nd isR = true) (hdis : ∀ i ∈ isR, i ∉ isC)
    (kk : ∀ (u : S) (H1 : Heap) (locs1 : List Loc), post u → va_P D zC (wr ++ Wd u) H1 → va_D A (wr ++ Wd u) → va_S A s.heap H1 locs1 → W p l e R s m args below meth c H1 locs1 (cells + (K u).1) (slots + (K u).2) Q (F0 m (pc + 3) ls rest)) :
    W p l e R s m args below meth c H locs cells slots Q (F0 m pc ls st0) := by
  intro T0 hT X
  have hF := va_free hD hS hA isC hC
  obtain ⟨v, st₀, t, T', L, k, n, h0, X', hL, e1, e2, ⟨⟨u, hv, hp, rfl, rfl, hP1, hD1⟩, hFr⟩, st⟩ := hr T0 hT X
  cases hv
  have hk := hFr.2
  rw [h0] at hk
  obtain ⟨hP2, hD2⟩ := va_join hP hD isC isR hC hR hn hdis hk hF hP1 hD1
  rw [← e1] at hP2
  obtain ⟨t2, a1, b1⟩ := kk u T'.heap (locs ++ L) hp hP2 hD2 (zback_S (free := A) hS h0 e1 hFr hF hL) T' rfl X'
  exact ⟨t2, st t2 a1, b1⟩
end ZCalls
section ZEnds
variable {p : Program} {l : Launch} {e : Env} {R : Room} {s : State} {m : MethodId} {args : Array Value} {below : List Frame} {meth : Method} {c : Code} {H : Heap} {locs : List Loc} {cells slots : Nat}
variable {S : Type} {K : S → Nat × Nat} {Wd : S → va_W} {D : va_G} {A : Nat → Prop} {cc : ByteArray} {pc : Nat} {ls : Array Slot}
theorem zend {Qc : Array Value → State → Outcome → State → Nat → Nat → Prop} {free : Addr → Prop} {g : JFrame} (k : W p l e R s m args below meth c H locs cells slots (MQ below (fun a st o t => Qc a st o t cells slots) args s cells slots free) g) : W p l e R s m args below meth c H locs cells slots (zMQ below Qc args s free) g :=
  zW_mono (fun t ⟨o, h1, h2, h3, L, h4, h5⟩ => ⟨o, h1, h2, L, cells, slots, h3, h4, h5⟩) k
theorem zreti {post : Int32 → S → Prop} {v : Int32} {ty : FieldType} (hx : p.tables.exec = Jvm.exec) (hb : c.code = cc) (hr : meth.sig.returnType = some ty) (hn : narrow ty (.int v) = .int v) (hlocks : meth.locks = false) (hS : va_S A s.heap H locs) (u : S) (hp : post v u) (hk : K u = (cells, slots)) (hP : va_P D zC (Wd u) H) (hD : va_D A (Wd u)) (hdg : decode cc pc = .ok (.ireturn, 1)) :
    W p l e R s m args below meth c H locs cells slots (zMQ below (zQi D A post K Wd) args s A) (F0 m pc ls [.int v]) :=
  zend (W.zret hx hb hr hn (fun t ht _ => ⟨⟨v, u, rfl, hp, by rw [hk], by rw [hk], by rw [ht]; exact hP, hD⟩, hS.F ht⟩) hS.2.2 hdg hlocks)
theorem zretl {post : Int64 → S → Prop} {v : Int64} (hx : p.tables.exec = Jvm.exec) (hb : c.code = cc) (hr : meth.sig.returnType = some .long) (hlocks : meth.locks = false) (hS : va_S A s.heap H locs) (u : S) (hp : post v u) (hk : K u = (cells, slots)) (hP : va_P D zC (Wd u) H) (hD : va_D A (Wd u)) (hdg : decode cc pc = .ok (.lreturn, 1)) :
    W p l e R s m args below meth c H locs cells slots (zMQ below (zQl D A post K Wd) args s A) (F0 m pc ls [.long v]) :=
  zend (W.lret hx hb hr (fun t ht _ => ⟨⟨v, u, rfl, hp, by rw [hk], by rw [hk], by rw [ht]; exact hP, hD⟩, hS.F ht⟩) hS.2.2 hdg hlocks)
theorem zretv {post : S → Prop} (hx : p.tables.exec = Jvm.exec) (hb : c.code = cc) (hr : meth.sig.returnType = none) (hlocks : meth.locks = false) (hS : va_S A s.heap H locs) (u : S) (hp : post u) (hk : K u = (cells, slots)) (hP : va_P D zC (Wd u) H) (hD : va_D A (Wd u)) (hdg : decode cc pc = .ok (.return_, 1)) :
    W p l e R s m args below meth c H locs cells slots (zMQ below (zQv D A post K Wd) args s A) (F0 m pc ls []) :=
  zend (W.vret hx hb hr (fun t ht _ => ⟨⟨u, rfl, hp, by rw [hk], by rw [hk], by rw [ht]; exact hP, hD⟩, hS.F ht⟩) hS.2.2 hdg hlocks)
theorem zretr {post : Nat → S → Prop} {v : Nat} {rt : FieldType} (hx : p.tables.exec = Jvm.exec) (hb : c.code = cc) (hr : meth.sig.returnType = some rt) (hrt : (∃ n, rt = .object n) ∨ ∃ t, rt = .array t) (hlocks : meth.locks = false) (hS : va_S A s.heap H locs) (u : S) (hp : post v u) (hk : K u = (cells, slots)) (hP : va_P D zC (Wd u) H) (hD : va_D A (Wd u)) (hdg : decode cc pc = .ok (.areturn, 1)) :
    W p l e R s m args below meth c H locs cells slots (zMQ below (zQr D A post K Wd) args s A) (F0 m pc ls [.ref v]) :=
  zend (W.aret hx hb hr hrt (Or.inr ⟨v, rfl⟩) (fun t ht _ => ⟨⟨v, u, rfl, hp, by rw [hk], by rw [hk], by rw [ht]; exact hP, hD⟩, hS.F ht⟩) hS.2.2 hdg hlocks)
end ZEnds
section ZFields
variable {p : Program} {l : Launch} {e : Env} {R : Room} {s : State} {m : MethodId} {args : Array Value} {below : List Frame} {meth : Method} {c : Code} {H H0 : Heap} {locs : List Loc} {cells slots : Nat} {Q : State → Prop}
variable {D : va_G} {T : List (ClassId × FieldType)} {A : Nat → Prop} {ws : va_W} {cc : ByteArray} {nL a pc ci k idx : Nat} {own : String} {ls : Array Slot} {rest fs : List Value} {v : Value}
/-- a field that an instruction names: its place among its class's fields -/
def zFd (own : String) (idx ci k : Nat) : Prop := ∃ (C : String) (F : u_T) (N : Nat), zC[ci]? = some (C, F, N) ∧ k < N ∧ (∀ w ∈ u_ws C F N, w ∈ zW) ∧ (F k).1 = C ∧
  (Cond.fieldLink own idx C (F k).2.1 (F k).2.2.1 ∈ zW ∨ ∃ host, Cond.fieldLinkNest own idx C (F k).2.1 (F k).2.2.1 host ∈ zW)
/-- a field's type; the fields' names apart; final or not -/
def zFt (ci k : Nat) (ty : FieldType) (fin : Bool) : Prop := ∃ (C : String) (F : u_T) (N : Nat) (t : Nat → FieldType), zC[ci]? = some (C, F, N) ∧ (∀ k, k < N → parseFieldDescriptor (F k).2.2.1 = some (t k)) ∧ (∀ a, a < N → ∀ b, b < N → a ≠ b → (F a).2.1 ≠ (F b).2.1) ∧ (F k).2.2.2 = fin ∧ t k = ty
theorem zget (S : CallFix p m c cc nL s args zW own) (hK : va_K D zC T s) (hP : va_P D zC ws H) (q0 : Nat) (he : ws[q0]? = some (a, .inr (ci, fs))) (F : zFd own idx ci k) (hv : fs[k]? = some v) (hdg : decode cc pc = .ok (.getfield idx, 3))
    (kk : W p l e R s m args below meth c H locs cells slots Q (F0 m (pc + 3) ls (v :: rest))) : W p l e R s m args below meth c H locs cells slots Q (F0 m pc ls (.ref a :: rest)) := by
  obtain ⟨hx, hb, hml, ho, hw⟩ := S
  obtain ⟨C, G, N, h1, h2, h3, h4, h5 | ⟨host, h5⟩⟩ := F
  · exact va_get hx hb hw h3 ho hK hP q0 he h1 k h2 (hw _ h5) (fun x h => by rw [← h4]; exact h) hv hdg kk
  · exact va_getN hx hb hw h3 ho hK hP q0 he h1 k h2 (hw _ h5) (fun x h => by rw [← h4]; exact h) hv hdg kk
theorem zput {ty : FieldType} (S : CallFix p m c cc nL s args zW own) (hK : va_K D zC T s) (hP : va_P D zC ws H) (hD : va_D A ws) (hS : va_S A H0 H locs) (q0 : Nat) (he : ws[q0]? = some (a, .inr (ci, fs))) (F : zFd own idx ci k) (Ft : zFt ci k ty false) (hn : narrow ty v = v) (hfit : fits ty v = true) (hl : k < fs.length) (hdg : decode cc pc = .ok (.putfield idx, 3))
    (kk : ∀ (H1 : Heap) (locs1 : List Loc), va_P D zC (ws.set q0 (a, .inr (ci, fs.set k v))) H1 → va_D A (ws.set q0 (a, .inr (ci, fs.set k v))) → va_S A H0 H1 locs1 → W p l e R s m args below meth c H1 locs1 cells slots Q (F0 m (pc + 3) ls rest)) : W p l e R s m args below meth c H locs cells slots Q (F0 m pc ls (v :: .ref a :: rest)) := by
  obtain ⟨hx, hb, hml, ho, hw⟩ := S
  obtain ⟨C', G', N', t, g1, g2, g3, g4, g5⟩ := Ft
  obtain ⟨C, G, N, h1, h2, h3, h4, h5 | ⟨host, h5⟩⟩ := F <;> (cases g1.symm.trans h1)
  · exact va_put hx hb hw h3 t g2 g3 ho hK hP hD hS q0 he h1 k h2 (hw _ h5) (fun x h => by rw [← h4]; exact h) g4 (by rw [g2 k h2, g5]) hn hfit hl hdg kk
  · exact va_putN hx hb hw h3 t g2 g3 ho hK hP hD hS q0 he h1 k h2 (hw _ h5) (fun x h => by rw [← h4]; exact h) g4 (by rw [g2 k h2, g5]) hn hfit hl hdg kk
theorem zputF {ty : FieldType} (S : CallFix p m c cc nL s args zW own) (hin : meth.name = "<init>") (hK : va_K D zC T s) (hP : va_P D zC ws H) (hD : va_D A ws) (hS : va_S A H0 H locs) (q0 : Nat) (he : ws[q0]? = some (a, .inr (ci, fs))) {F' : u_T} {N' : Nat} (hc : zC[ci]? = some (own, F', N')) (F : zFd own idx ci k) (Ft : zFt ci k ty true) (hn : narrow ty v = v) (hfit : fits ty v = true) (hl : k < fs.length) (hdg : decode cc pc = .ok (.putfield idx, 3))
    (hlk : Cond.fieldLink own idx own (F' k).2.1 (F' k).2.2.1 ∈ zW)
    (kk : ∀ (H1 : Heap) (locs1 : List Loc), va_P D zC (ws.set q0 (a, .inr (ci, fs.set k v))) H1 → va_D A (ws.set q0 (a, .inr (ci, fs.set k v))) → va_S A H0 H1 locs1 → W p l e R s m args below meth c H1 locs1 cells slots Q (F0 m (pc + 3) ls rest)) : W p l e R s m args below meth c H locs cells slots Q (F0 m pc ls (v :: .ref a :: rest)) := by
  obtain ⟨hx, hb, hml, ho, hw⟩ := S
  obtain ⟨C', G', N'', t, g1, g2, g3, g4, g5⟩ := Ft
  obtain ⟨C, G, N, h1, h2, h3, h4, -⟩ := F
  cases g1.symm.trans h1
  cases hc.symm.trans h1
  exact va_putF hx hb hw h3 t g2 g3 ho hK hP hD hS q0 he h1 k h2 (hw _ hlk) (fun x h => by rw [← h4]; exact h) g4 hin h4 (by rw [g2 k h2, g5]) hn hfit hl hdg kk
end ZFields
/-- >>> of ints -/
def zushr (x y : Int32) : Int32 := (x.toUInt32 >>> (y.toUInt32 &&& Int32.toUInt32 31)).toInt32
def zlushr (x : Int64) (y : Int32) : Int64 := (x.toUInt64 >>> (y.toInt64.toUInt64 &&& Int64.toUInt64 63)).toInt64
def zlshl (x : Int64) (y : Int32) : Int64 := x <<< (y.toInt64 &&& 63)
def zlshr (x : Int64) (y : Int32) : Int64 := x >>> (y.toInt64 &&& 63)
theorem z_ne {x k : Int32} (h : ¬ x = k) {n : Int} (hk : k.toInt = n) : x.toInt ≠ n := fun e => h (Int32.toInt_inj.mp (e.trans hk.symm))
/-- the head of every contract: the machine at the method's entry -/
theorem zstart {l : Launch} {y : MethodName} {cc : ByteArray} {maxL : Nat} {ret : Option FieldType} {rm : Room} {D : va_G} {T : List (ClassId × FieldType)} {sz : Nat} {ws : va_W} {av : List Value} {Qc : (Nat → Prop) → Array Value → State → Outcome → State → Nat → Nat → Prop}
    (hy : plainName y.cls = true) (hmx : (lg_sl av).length ≤ maxL)
    (body : ∀ p e s m below meth c ls A, CallFix p m c cc maxL s av.toArray zW y.cls → meth.sig.returnType = ret → meth.locks = false → meth.name = y.name → s.heap.size = sz → va_K D zC T s → va_P D zC ws s.heap → va_D A ws → va_S A s.heap s.heap [] → (∀ q, s.heap.size ≤ q → A q) → A = va_A ws sz → lv_has ls maxL (lv_args 0 av) →
      W p l e rm s m av.toArray below meth c s.heap [] 0 0 (zMQ below (Qc A) av.toArray s A) (F0 m 0 ls [])) :
    zMet l y (zWs y cc maxL ret) rm (zPc D T sz ws av) (Qc (va_A ws sz)) (va_A ws sz) := by
  refine zMet.ofW (cc := cc) (maxL := maxL) (ret := ret) hy rfl ?_
  intro p e s m args below meth c s₁ B hml hv
  obtain ⟨rfl, hsz, hP, hK, hD0⟩ := hv
  have hts := atoms_spec (ws := zWs y cc maxL ret) B.pre
  have hA : ∀ q : Nat, s.heap.size ≤ q → va_A ws sz q := fun q h => Or.inr (by rw [← hsz]; exact h)
  have hl := lv_entry av (n := maxL) hmx
  rw [lg_entry_eq]
  exact body p e s m below meth c _ (va_A ws sz) ⟨B.exec, B.bytes, hml, findClass_of_methodNamed B.named, fun w h => hts w (List.mem_cons_of_mem _ h)⟩ B.returns B.notSynchronized (name_of_methodNamed B.named B.method).1 hsz hK hP hD0.self va_S.rf hA rfl hl
end
section
/-! the words of the tables that the walks take, each once -/
theorem cb_By_init : zCb y_By_init b_By_init 2 (none) 1 := ⟨zt_1 68 rfl rfl, zt_1 3 rfl rfl, ⟨by decide, by decide⟩, by decide +kernel⟩
theorem in_By_init : Cond.instanceMethod y_By_init ∈ zW := zt_1 67 rfl rfl
theorem cb_By_forgetAll : zCb y_By_forgetAll b_By_forgetAll 1 (none) 0 := ⟨zt_2 43 rfl rfl, zt_1 3 rfl rfl, ⟨by decide, by decide⟩, by decide +kernel⟩
theorem in_By_forgetAll : Cond.instanceMethod y_By_forgetAll ∈ zW := zt_2 41 rfl rfl
theorem se_By_forgetAll : Cond.selects y_By_forgetAll.cls y_By_forgetAll y_By_forgetAll ∈ zW := zt_2 42 rfl rfl
theorem cb_By_add : zCb y_By_add b_By_add 2 (none) 1 := ⟨zt_2 214 rfl rfl, zt_1 3 rfl rfl, ⟨by decide, by decide⟩, by decide +kernel⟩
theorem in_By_add : Cond.instanceMethod y_By_add ∈ zW := zt_2 212 rfl rfl
theorem se_By_add : Cond.selects y_By_add.cls y_By_add y_By_add ∈ zW := zt_2 213 rfl rfl
theorem cb_By_removeFirst : zCb y_By_removeFirst b_By_removeFirst 2 (some .int) 0 := ⟨zt_1 147 rfl rfl, zt_1 3 rfl rfl, ⟨by decide, by decide⟩, by decide +kernel⟩
theorem in_By_removeFirst : Cond.instanceMethod y_By_removeFirst ∈ zW := zt_1 145 rfl rfl
theorem se_By_removeFirst : Cond.selects y_By_removeFirst.cls y_By_removeFirst y_By_removeFirst ∈ zW := zt_1 146 rfl rfl
theorem cb_By_wrapped : zCb y_By_wrapped b_By_wrapped 2 (some .int) 1 := ⟨zt_1 151 rfl rfl, zt_1 3 rfl rfl, ⟨by decide, by decide⟩, by decide +kernel⟩
theorem in_By_wrapped : Cond.instanceMethod y_By_wrapped ∈ zW := zt_1 150 rfl rfl
theorem se_By_wrapped : Cond.selects y_By_wrapped.cls y_By_wrapped y_By_wrapped ∈ zW := zt_0 (n := 3) 2 rfl
theorem cb_Me_init : zCb y_Me_init b_Me_init 1 (none) 0 := ⟨zt_1 26 rfl rfl, zt_1 2 rfl rfl, ⟨by decide, by decide⟩, by decide +kernel⟩
theorem in_Me_init : Cond.instanceMethod y_Me_init ∈ zW := zt_1 25 rfl rfl
theorem cb_Me_forgetAll : zCb y_Me_forgetAll b_Me_forgetAll 1 (none) 0 := ⟨zt_2 39 rfl rfl, zt_1 2 rfl rfl, ⟨by decide, by decide⟩, by decide +kernel⟩
theorem in_Me_forgetAll : Cond.instanceMethod y_Me_forgetAll ∈ zW := zt_2 37 rfl rfl
theorem se_Me_forgetAll : Cond.selects y_Me_forgetAll.cls y_Me_forgetAll y_Me_forgetAll ∈ zW := zt_2 38 rfl rfl
theorem cb_Me_make : zCb y_Me_make b_Me_make 4 (some .int) 2 := ⟨zt_2 167 rfl rfl, zt_1 2 rfl rfl, ⟨by decide, by decide⟩, by decide +kernel⟩
theorem in_Me_make : Cond.instanceMethod y_Me_make ∈ zW := zt_2 165 rfl rfl
theorem se_Me_make : Cond.selects y_Me_make.cls y_Me_make y_Me_make ∈ zW := zt_2 166 rfl rfl
theorem cb_Me_addNumber : zCb y_Me_addNumber b_Me_addNumber 1 (none) 0 := ⟨zt_2 190 rfl rfl, zt_1 2 rfl rfl, ⟨by decide, by decide⟩, by decide +kernel⟩
theorem in_Me_addNumber : Cond.instanceMethod y_Me_addNumber ∈ zW := zt_2 189 rfl rfl
theorem se_Me_addNumber : Cond.selects y_Me_addNumber.cls y_Me_addNumber y_Me_addNumber ∈ zW := zt_0 (n := 10) 19 rfl
theorem cb_Me_roundedUp : zCb y_Me_roundedUp b_Me_roundedUp 1 (some .int) 1 := ⟨zt_2 170 rfl rfl, zt_1 2 rfl rfl, ⟨by decide, by decide⟩, by decide +kernel⟩
theorem st_Me_roundedUp : Cond.static y_Me_roundedUp ∈ zW := zt_2 169 rfl rfl
theorem cb_Me_tidy : zCb y_Me_tidy b_Me_tidy 5 (none) 1 := ⟨zt_2 175 rfl rfl, zt_1 2 rfl rfl, ⟨by decide, by decide⟩, by decide +kernel⟩
theorem in_Me_tidy : Cond.instanceMethod y_Me_tidy ∈ zW := zt_2 174 rfl rfl
theorem se_Me_tidy : Cond.selects y_Me_tidy.cls y_Me_tidy y_Me_tidy ∈ zW := zt_0 (n := 10) 18 rfl
theorem cb_Me_dropLast : zCb y_Me_dropLast b_Me_dropLast 3 (some .boolean) 1 := ⟨zt_2 199 rfl rfl, zt_1 2 rfl rfl, ⟨by decide, by decide⟩, by decide +kernel⟩
theorem in_Me_dropLast : Cond.instanceMethod y_Me_dropLast ∈ zW := zt_2 197 rfl rfl
theorem se_Me_dropLast : Cond.selects y_Me_dropLast.cls y_Me_dropLast y_Me_dropLast ∈ zW := zt_2 198 rfl rfl
theorem cb_Me_dropGiven : zCb y_Me_dropGiven b_Me_dropGiven 3 (some .boolean) 1 := ⟨zt_2 210 rfl rfl, zt_1 2 rfl rfl, ⟨by decide, by decide⟩, by decide +kernel⟩
theorem in_Me_dropGiven : Cond.instanceMethod y_Me_dropGiven ∈ zW := zt_2 208 rfl rfl
theorem se_Me_dropGiven : Cond.selects y_Me_dropGiven.cls y_Me_dropGiven y_Me_dropGiven ∈ zW := zt_2 209 rfl rfl
theorem cb_Me_drop : zCb y_Me_drop b_Me_drop 3 (none) 1 := ⟨zt_2 203 rfl rfl, zt_1 2 rfl rfl, ⟨by decide, by decide⟩, by decide +kernel⟩
theorem in_Me_drop : Cond.instanceMethod y_Me_drop ∈ zW := zt_2 202 rfl rfl
theorem se_Me_drop : Cond.selects y_Me_drop.cls y_Me_drop y_Me_drop ∈ zW := zt_0 (n := 10) 21 rfl
theorem cb_Me_isThere : zCb y_Me_isThere b_Me_isThere 2 (some .boolean) 1 := ⟨zt_1 127 rfl rfl, zt_1 2 rfl rfl, ⟨by decide, by decide⟩, by decide +kernel⟩
theorem in_Me_isThere : Cond.instanceMethod y_Me_isThere ∈ zW := zt_1 126 rfl rfl
theorem se_Me_isThere : Cond.selects y_Me_isThere.cls y_Me_isThere y_Me_isThere ∈ zW := zt_0 (n := 10) 0 rfl
theorem cb_Me_holds : zCb y_Me_holds b_Me_holds 4 (some .boolean) 2 := ⟨zt_1 123 rfl rfl, zt_1 2 rfl rfl, ⟨by decide, by decide⟩, by decide +kernel⟩
theorem in_Me_holds : Cond.instanceMethod y_Me_holds ∈ zW := zt_1 121 rfl rfl
theorem se_Me_holds : Cond.selects y_Me_holds.cls y_Me_holds y_Me_holds ∈ zW := zt_1 122 rfl rfl
theorem cb_Me_holdsAligned : zCb y_Me_holdsAligned b_Me_holdsAligned 3 (some .boolean) 2 := ⟨zt_2 127 rfl rfl, zt_1 2 rfl rfl, ⟨by decide, by decide⟩, by decide +kernel⟩
theorem in_Me_holdsAligned : Cond.instanceMethod y_Me_holdsAligned ∈ zW := zt_2 125 rfl rfl
theorem se_Me_holdsAligned : Cond.selects y_Me_holdsAligned.cls y_Me_holdsAligned y_Me_holdsAligned ∈ zW := zt_2 126 rfl rfl
theorem cb_Me_spot : zCb y_Me_spot b_Me_spot 2 (some .int) 1 := ⟨zt_1 136 rfl rfl, zt_1 2 rfl rfl, ⟨by decide, by decide⟩, by decide +kernel⟩
theorem in_Me_spot : Cond.instanceMethod y_Me_spot ∈ zW := zt_1 135 rfl rfl
theorem se_Me_spot : Cond.selects y_Me_spot.cls y_Me_spot y_Me_spot ∈ zW := zt_0 (n := 10) 1 rfl
theorem cb_Me_read : zCb y_Me_read b_Me_read 6 (some .int) 2 := ⟨zt_1 132 rfl rfl, zt_1 2 rfl rfl, ⟨by decide, by decide⟩, by decide +kernel⟩
theorem in_Me_read : Cond.instanceMethod y_Me_read ∈ zW := zt_1 130 rfl rfl
theorem se_Me_read : Cond.selects y_Me_read.cls y_Me_read y_Me_read ∈ zW := zt_1 131 rfl rfl
theorem cb_Me_write : zCb y_Me_write b_Me_write 6 (none) 3 := ⟨zt_2 139 rfl rfl, zt_1 2 rfl rfl, ⟨by decide, by decide⟩, by decide +kernel⟩
theorem in_Me_write : Cond.instanceMethod y_Me_write ∈ zW := zt_2 137 rfl rfl
theorem se_Me_write : Cond.selects y_Me_write.cls y_Me_write y_Me_write ∈ zW := zt_2 138 rfl rfl
theorem cb_Me_copy : zCb y_Me_copy b_Me_copy 4 (none) 3 := ⟨zt_2 222 rfl rfl, zt_1 2 rfl rfl, ⟨by decide, by decide⟩, by decide +kernel⟩
theorem in_Me_copy : Cond.instanceMethod y_Me_copy ∈ zW := zt_2 220 rfl rfl
theorem se_Me_copy : Cond.selects y_Me_copy.cls y_Me_copy y_Me_copy ∈ zW := zt_2 221 rfl rfl
theorem cb_Rv_init : zCb y_Rv_init b_Rv_init 1 (none) 0 := ⟨zt_1 18 rfl rfl, zt_1 1 rfl rfl, ⟨by decide, by decide⟩, by decide +kernel⟩
theorem in_Rv_init : Cond.instanceMethod y_Rv_init ∈ zW := zt_1 17 rfl rfl
theorem cb_Rv_word : zCb y_Rv_word b_Rv_word 2 (some .int) 1 := ⟨zt_1 159 rfl rfl, zt_1 1 rfl rfl, ⟨by decide, by decide⟩, by decide +kernel⟩
theorem in_Rv_word : Cond.instanceMethod y_Rv_word ∈ zW := zt_1 157 rfl rfl
theorem se_Rv_word : Cond.selects y_Rv_word.cls y_Rv_word y_Rv_word ∈ zW := zt_1 158 rfl rfl
theorem cb_Rv_change : zCb y_Rv_change b_Rv_change 4 (some .int) 2 := ⟨zt_2 10 rfl rfl, zt_1 1 rfl rfl, ⟨by decide, by decide⟩, by decide +kernel⟩
theorem in_Rv_change : Cond.instanceMethod y_Rv_change ∈ zW := zt_2 8 rfl rfl
theorem se_Rv_change : Cond.selects y_Rv_change.cls y_Rv_change y_Rv_change ∈ zW := zt_2 9 rfl rfl
theorem cb_Rv_begin : zCb y_Rv_begin b_Rv_begin 2 (none) 1 := ⟨zt_2 32 rfl rfl, zt_1 1 rfl rfl, ⟨by decide, by decide⟩, by decide +kernel⟩
theorem in_Rv_begin : Cond.instanceMethod y_Rv_begin ∈ zW := zt_2 30 rfl rfl
theorem se_Rv_begin : Cond.selects y_Rv_begin.cls y_Rv_begin y_Rv_begin ∈ zW := zt_2 31 rfl rfl
theorem cb_Rv_run : zCb y_Rv_run b_Rv_run 4 (some .int) 1 := ⟨zt_2 51 rfl rfl, zt_1 1 rfl rfl, ⟨by decide, by decide⟩, by decide +kernel⟩
theorem in_Rv_run : Cond.instanceMethod y_Rv_run ∈ zW := zt_2 49 rfl rfl
theorem se_Rv_run : Cond.selects y_Rv_run.cls y_Rv_run y_Rv_run ∈ zW := zt_2 50 rfl rfl
theorem cb_Rv_state : zCb y_Rv_state b_Rv_state 1 (some .int) 0 := ⟨zt_1 115 rfl rfl, zt_1 1 rfl rfl, ⟨by decide, by decide⟩, by decide +kernel⟩
theorem in_Rv_state : Cond.instanceMethod y_Rv_state ∈ zW := zt_1 113 rfl rfl
theorem se_Rv_state : Cond.selects y_Rv_state.cls y_Rv_state y_Rv_state ∈ zW := zt_1 114 rfl rfl
theorem cb_Rv_register : zCb y_Rv_register b_Rv_register 2 (some .int) 1 := ⟨zt_2 230 rfl rfl, zt_1 1 rfl rfl, ⟨by decide, by decide⟩, by decide +kernel⟩
theorem in_Rv_register : Cond.instanceMethod y_Rv_register ∈ zW := zt_2 228 rfl rfl
theorem se_Rv_register : Cond.selects y_Rv_register.cls y_Rv_register y_Rv_register ∈ zW := zt_2 229 rfl rfl
theorem cb_Rv_set : zCb y_Rv_set b_Rv_set 4 (some .int) 2 := ⟨zt_2 237 rfl rfl, zt_1 1 rfl rfl, ⟨by decide, by decide⟩, by decide +kernel⟩
theorem in_Rv_set : Cond.instanceMethod y_Rv_set ∈ zW := zt_2 235 rfl rfl
theorem se_Rv_set : Cond.selects y_Rv_set.cls y_Rv_set y_Rv_set ∈ zW := zt_2 236 rfl rfl
theorem cb_Rv_peek : zCb y_Rv_peek b_Rv_peek 2 (some .int) 1 := ⟨zt_1 119 rfl rfl, zt_1 1 rfl rfl, ⟨by decide, by decide⟩, by decide +kernel⟩
theorem in_Rv_peek : Cond.instanceMethod y_Rv_peek ∈ zW := zt_1 117 rfl rfl
theorem se_Rv_peek : Cond.selects y_Rv_peek.cls y_Rv_peek y_Rv_peek ∈ zW := zt_1 118 rfl rfl
theorem cb_Rv_input : zCb y_Rv_input b_Rv_input 5 (some .int) 2 := ⟨zt_3 4 rfl rfl, zt_1 1 rfl rfl, ⟨by decide, by decide⟩, by decide +kernel⟩
theorem in_Rv_input : Cond.instanceMethod y_Rv_input ∈ zW := zt_3 2 rfl rfl
theorem se_Rv_input : Cond.selects y_Rv_input.cls y_Rv_input y_Rv_input ∈ zW := zt_3 3 rfl rfl
theorem cb_Rv_take : zCb y_Rv_take b_Rv_take 5 (some .long) 0 := ⟨zt_1 140 rfl rfl, zt_1 1 rfl rfl, ⟨by decide, by decide⟩, by decide +kernel⟩
theorem in_Rv_take : Cond.instanceMethod y_Rv_take ∈ zW := zt_1 138 rfl rfl
theorem se_Rv_take : Cond.selects y_Rv_take.cls y_Rv_take y_Rv_take ∈ zW := zt_1 139 rfl rfl
theorem cb_Rv_count : zCb y_Rv_count b_Rv_count 2 (some .int) 1 := ⟨zt_3 11 rfl rfl, zt_1 1 rfl rfl, ⟨by decide, by decide⟩, by decide +kernel⟩
theorem in_Rv_count : Cond.instanceMethod y_Rv_count ∈ zW := zt_3 9 rfl rfl
theorem se_Rv_count : Cond.selects y_Rv_count.cls y_Rv_count y_Rv_count ∈ zW := zt_3 10 rfl rfl
theorem cb_Rv_widened : zCb y_Rv_widened b_Rv_widened 3 (some (.array .int)) 3 := ⟨zt_1 225 rfl rfl, zt_1 1 rfl rfl, ⟨by decide, by decide⟩, by decide +kernel⟩
theorem st_Rv_widened : Cond.static y_Rv_widened ∈ zW := zt_1 224 rfl rfl
theorem cb_Rv_doNext : zCb y_Rv_doNext b_Rv_doNext 3 (none) 0 := ⟨zt_2 70 rfl rfl, zt_1 1 rfl rfl, ⟨by decide, by decide⟩, by decide +kernel⟩
theorem in_Rv_doNext : Cond.instanceMethod y_Rv_doNext ∈ zW := zt_2 69 rfl rfl
theorem se_Rv_doNext : Cond.selects y_Rv_doNext.cls y_Rv_doNext y_Rv_doNext ∈ zW := zt_0 (n := 10) 4 rfl
theorem cb_Rv_execute : zCb y_Rv_execute b_Rv_execute 2 (some .int) 1 := ⟨zt_2 74 rfl rfl, zt_1 1 rfl rfl, ⟨by decide, by decide⟩, by decide +kernel⟩
theorem in_Rv_execute : Cond.instanceMethod y_Rv_execute ∈ zW := zt_2 73 rfl rfl
theorem se_Rv_execute : Cond.selects y_Rv_execute.cls y_Rv_execute y_Rv_execute ∈ zW := zt_0 (n := 10) 5 rfl
theorem cb_Rv_middle : zCb y_Rv_middle b_Rv_middle 1 (some .int) 1 := ⟨zt_2 97 rfl rfl, zt_1 1 rfl rfl, ⟨by decide, by decide⟩, by decide +kernel⟩
theorem st_Rv_middle : Cond.static y_Rv_middle ∈ zW := zt_2 96 rfl rfl
theorem cb_Rv_top : zCb y_Rv_top b_Rv_top 1 (some .int) 1 := ⟨zt_2 146 rfl rfl, zt_1 1 rfl rfl, ⟨by decide, by decide⟩, by decide +kernel⟩
theorem st_Rv_top : Cond.static y_Rv_top ∈ zW := zt_2 145 rfl rfl
theorem cb_Rv_firstOperand : zCb y_Rv_firstOperand b_Rv_firstOperand 2 (some .int) 1 := ⟨zt_2 101 rfl rfl, zt_1 1 rfl rfl, ⟨by decide, by decide⟩, by decide +kernel⟩
theorem in_Rv_firstOperand : Cond.instanceMethod y_Rv_firstOperand ∈ zW := zt_2 100 rfl rfl
theorem se_Rv_firstOperand : Cond.selects y_Rv_firstOperand.cls y_Rv_firstOperand y_Rv_firstOperand ∈ zW := zt_0 (n := 10) 10 rfl
theorem cb_Rv_secondOperand : zCb y_Rv_secondOperand b_Rv_secondOperand 2 (some .int) 1 := ⟨zt_2 109 rfl rfl, zt_1 1 rfl rfl, ⟨by decide, by decide⟩, by decide +kernel⟩
theorem in_Rv_secondOperand : Cond.instanceMethod y_Rv_secondOperand ∈ zW := zt_2 108 rfl rfl
theorem se_Rv_secondOperand : Cond.selects y_Rv_secondOperand.cls y_Rv_secondOperand y_Rv_secondOperand ∈ zW := zt_0 (n := 10) 12 rfl
theorem cb_Rv_keep : zCb y_Rv_keep b_Rv_keep 4 (some .int) 2 := ⟨zt_2 78 rfl rfl, zt_1 1 rfl rfl, ⟨by decide, by decide⟩, by decide +kernel⟩
theorem in_Rv_keep : Cond.instanceMethod y_Rv_keep ∈ zW := zt_2 77 rfl rfl
theorem se_Rv_keep : Cond.selects y_Rv_keep.cls y_Rv_keep y_Rv_keep ∈ zW := zt_0 (n := 10) 6 rfl
theorem cb_Rv_jumpOffset : zCb y_Rv_jumpOffset b_Rv_jumpOffset 1 (some .int) 1 := ⟨zt_2 81 rfl rfl, zt_1 1 rfl rfl, ⟨by decide, by decide⟩, by decide +kernel⟩
theorem st_Rv_jumpOffset : Cond.static y_Rv_jumpOffset ∈ zW := zt_2 80 rfl rfl
theorem cb_Rv_branchOffset : zCb y_Rv_branchOffset b_Rv_branchOffset 1 (some .int) 1 := ⟨zt_2 119 rfl rfl, zt_1 1 rfl rfl, ⟨by decide, by decide⟩, by decide +kernel⟩
theorem st_Rv_branchOffset : Cond.static y_Rv_branchOffset ∈ zW := zt_2 118 rfl rfl
theorem cb_Rv_storeOffset : zCb y_Rv_storeOffset b_Rv_storeOffset 1 (some .int) 1 := ⟨zt_2 135 rfl rfl, zt_1 1 rfl rfl, ⟨by decide, by decide⟩, by decide +kernel⟩
theorem st_Rv_storeOffset : Cond.static y_Rv_storeOffset ∈ zW := zt_2 134 rfl rfl
theorem cb_Rv_goTo : zCb y_Rv_goTo b_Rv_goTo 2 (some .int) 1 := ⟨zt_2 90 rfl rfl, zt_1 1 rfl rfl, ⟨by decide, by decide⟩, by decide +kernel⟩
theorem in_Rv_goTo : Cond.instanceMethod y_Rv_goTo ∈ zW := zt_2 89 rfl rfl
theorem se_Rv_goTo : Cond.selects y_Rv_goTo.cls y_Rv_goTo y_Rv_goTo ∈ zW := zt_0 (n := 10) 8 rfl
theorem cb_Rv_jump : zCb y_Rv_jump b_Rv_jump 4 (some .int) 2 := ⟨zt_2 86 rfl rfl, zt_1 1 rfl rfl, ⟨by decide, by decide⟩, by decide +kernel⟩
theorem in_Rv_jump : Cond.instanceMethod y_Rv_jump ∈ zW := zt_2 85 rfl rfl
theorem se_Rv_jump : Cond.selects y_Rv_jump.cls y_Rv_jump y_Rv_jump ∈ zW := zt_0 (n := 10) 7 rfl
theorem cb_Rv_jumpByRegister : zCb y_Rv_jumpByRegister b_Rv_jumpByRegister 2 (some .int) 1 := ⟨zt_2 94 rfl rfl, zt_1 1 rfl rfl, ⟨by decide, by decide⟩, by decide +kernel⟩
theorem in_Rv_jumpByRegister : Cond.instanceMethod y_Rv_jumpByRegister ∈ zW := zt_2 93 rfl rfl
theorem se_Rv_jumpByRegister : Cond.selects y_Rv_jumpByRegister.cls y_Rv_jumpByRegister y_Rv_jumpByRegister ∈ zW := zt_0 (n := 10) 9 rfl
theorem cb_Rv_branch : zCb y_Rv_branch b_Rv_branch 5 (some .int) 1 := ⟨zt_2 105 rfl rfl, zt_1 1 rfl rfl, ⟨by decide, by decide⟩, by decide +kernel⟩
theorem in_Rv_branch : Cond.instanceMethod y_Rv_branch ∈ zW := zt_2 104 rfl rfl
theorem se_Rv_branch : Cond.selects y_Rv_branch.cls y_Rv_branch y_Rv_branch ∈ zW := zt_0 (n := 10) 11 rfl
theorem cb_Rv_load : zCb y_Rv_load b_Rv_load 6 (some .int) 1 := ⟨zt_2 123 rfl rfl, zt_1 1 rfl rfl, ⟨by decide, by decide⟩, by decide +kernel⟩
theorem in_Rv_load : Cond.instanceMethod y_Rv_load ∈ zW := zt_2 122 rfl rfl
theorem se_Rv_load : Cond.selects y_Rv_load.cls y_Rv_load y_Rv_load ∈ zW := zt_0 (n := 10) 13 rfl
theorem cb_Rv_store : zCb y_Rv_store b_Rv_store 5 (some .int) 1 := ⟨zt_2 132 rfl rfl, zt_1 1 rfl rfl, ⟨by decide, by decide⟩, by decide +kernel⟩
theorem in_Rv_store : Cond.instanceMethod y_Rv_store ∈ zW := zt_2 131 rfl rfl
theorem se_Rv_store : Cond.selects y_Rv_store.cls y_Rv_store y_Rv_store ∈ zW := zt_0 (n := 10) 14 rfl
theorem cb_Rv_operateWithConstant : zCb y_Rv_operateWithConstant b_Rv_operateWithConstant 4 (some .int) 1 := ⟨zt_2 143 rfl rfl, zt_1 1 rfl rfl, ⟨by decide, by decide⟩, by decide +kernel⟩
theorem in_Rv_operateWithConstant : Cond.instanceMethod y_Rv_operateWithConstant ∈ zW := zt_2 142 rfl rfl
theorem se_Rv_operateWithConstant : Cond.selects y_Rv_operateWithConstant.cls y_Rv_operateWithConstant y_Rv_operateWithConstant ∈ zW := zt_0 (n := 10) 15 rfl
theorem cb_Rv_operate : zCb y_Rv_operate b_Rv_operate 5 (some .int) 1 := ⟨zt_2 153 rfl rfl, zt_1 1 rfl rfl, ⟨by decide, by decide⟩, by decide +kernel⟩
theorem in_Rv_operate : Cond.instanceMethod y_Rv_operate ∈ zW := zt_2 152 rfl rfl
theorem se_Rv_operate : Cond.selects y_Rv_operate.cls y_Rv_operate y_Rv_operate ∈ zW := zt_0 (n := 10) 16 rfl
theorem cb_Rv_plainResult : zCb y_Rv_plainResult b_Rv_plainResult 3 (some .int) 3 := ⟨zt_2 149 rfl rfl, zt_1 1 rfl rfl, ⟨by decide, by decide⟩, by decide +kernel⟩
theorem st_Rv_plainResult : Cond.static y_Rv_plainResult ∈ zW := zt_2 148 rfl rfl
theorem cb_Rv_product : zCb y_Rv_product b_Rv_product 3 (some .int) 3 := ⟨zt_2 156 rfl rfl, zt_1 1 rfl rfl, ⟨by decide, by decide⟩, by decide +kernel⟩
theorem st_Rv_product : Cond.static y_Rv_product ∈ zW := zt_2 155 rfl rfl
theorem cb_Rv_quotient : zCb y_Rv_quotient b_Rv_quotient 3 (some .int) 3 := ⟨zt_2 159 rfl rfl, zt_1 1 rfl rfl, ⟨by decide, by decide⟩, by decide +kernel⟩
theorem st_Rv_quotient : Cond.static y_Rv_quotient ∈ zW := zt_2 158 rfl rfl
theorem cb_Rv_unsigned : zCb y_Rv_unsigned b_Rv_unsigned 1 (some .long) 1 := ⟨zt_2 115 rfl rfl, zt_1 1 rfl rfl, ⟨by decide, by decide⟩, by decide +kernel⟩
theorem st_Rv_unsigned : Cond.static y_Rv_unsigned ∈ zW := zt_2 114 rfl rfl
theorem cb_Rv_isBelow : zCb y_Rv_isBelow b_Rv_isBelow 2 (some .boolean) 2 := ⟨zt_2 112 rfl rfl, zt_1 1 rfl rfl, ⟨by decide, by decide⟩, by decide +kernel⟩
theorem st_Rv_isBelow : Cond.static y_Rv_isBelow ∈ zW := zt_2 111 rfl rfl
theorem cb_Rv_serve : zCb y_Rv_serve b_Rv_serve 2 (some .int) 0 := ⟨zt_2 163 rfl rfl, zt_1 1 rfl rfl, ⟨by decide, by decide⟩, by decide +kernel⟩
theorem in_Rv_serve : Cond.instanceMethod y_Rv_serve ∈ zW := zt_2 162 rfl rfl
theorem se_Rv_serve : Cond.selects y_Rv_serve.cls y_Rv_serve y_Rv_serve ∈ zW := zt_0 (n := 10) 17 rfl
theorem cb_Rv_doneIf : zCb y_Rv_doneIf b_Rv_doneIf 1 (some .int) 1 := ⟨zt_2 206 rfl rfl, zt_1 1 rfl rfl, ⟨by decide, by decide⟩, by decide +kernel⟩
theorem st_Rv_doneIf : Cond.static y_Rv_doneIf ∈ zW := zt_2 205 rfl rfl
theorem cb_Rv_answerAddress : zCb y_Rv_answerAddress b_Rv_answerAddress 2 (some .int) 1 := ⟨zt_2 195 rfl rfl, zt_1 1 rfl rfl, ⟨by decide, by decide⟩, by decide +kernel⟩
theorem in_Rv_answerAddress : Cond.instanceMethod y_Rv_answerAddress ∈ zW := zt_2 194 rfl rfl
theorem se_Rv_answerAddress : Cond.selects y_Rv_answerAddress.cls y_Rv_answerAddress y_Rv_answerAddress ∈ zW := zt_0 (n := 10) 20 rfl
theorem cb_Rv_copyBytes : zCb y_Rv_copyBytes b_Rv_copyBytes 4 (some .int) 3 := ⟨zt_2 218 rfl rfl, zt_1 1 rfl rfl, ⟨by decide, by decide⟩, by decide +kernel⟩
theorem in_Rv_copyBytes : Cond.instanceMethod y_Rv_copyBytes ∈ zW := zt_2 217 rfl rfl
theorem se_Rv_copyBytes : Cond.selects y_Rv_copyBytes.cls y_Rv_copyBytes y_Rv_copyBytes ∈ zW := zt_0 (n := 10) 22 rfl
theorem cb_Mo_init : zCb y_Mo_init b_Mo_init 2 (none) 0 := ⟨zt_3 16 rfl rfl, zt_1 4 rfl rfl, ⟨by decide, by decide⟩, by decide +kernel⟩
theorem in_Mo_init : Cond.instanceMethod y_Mo_init ∈ zW := zt_3 15 rfl rfl
theorem cb_Mo_kind : zCb y_Mo_kind b_Mo_kind 3 (none) 2 := ⟨zt_3 22 rfl rfl, zt_1 4 rfl rfl, ⟨by decide, by decide⟩, by decide +kernel⟩
theorem in_Mo_kind : Cond.instanceMethod y_Mo_kind ∈ zW := zt_3 21 rfl rfl
theorem se_Mo_kind : Cond.selects y_Mo_kind.cls y_Mo_kind y_Mo_kind ∈ zW := zt_0 (n := 24) 23 rfl
theorem cb_Mo_thrown : zCb y_Mo_thrown b_Mo_thrown 1 (some .int) 0 := ⟨zt_3 105 rfl rfl, zt_1 4 rfl rfl, ⟨by decide, by decide⟩, by decide +kernel⟩
theorem in_Mo_thrown : Cond.instanceMethod y_Mo_thrown ∈ zW := zt_3 103 rfl rfl
theorem se_Mo_thrown : Cond.selects y_Mo_thrown.cls y_Mo_thrown y_Mo_thrown ∈ zW := zt_3 104 rfl rfl
theorem cb_Mo_bits : zCb y_Mo_bits b_Mo_bits 3 (some .int) 3 := ⟨zt_3 144 rfl rfl, zt_1 4 rfl rfl, ⟨by decide, by decide⟩, by decide +kernel⟩
theorem st_Mo_bits : Cond.static y_Mo_bits ∈ zW := zt_3 143 rfl rfl
theorem cb_Mo_signed : zCb y_Mo_signed b_Mo_signed 2 (some .int) 2 := ⟨zt_3 150 rfl rfl, zt_1 4 rfl rfl, ⟨by decide, by decide⟩, by decide +kernel⟩
theorem st_Mo_signed : Cond.static y_Mo_signed ∈ zW := zt_3 149 rfl rfl
theorem cb_Mo_byUpper : zCb y_Mo_byUpper b_Mo_byUpper 1 (some .int) 1 := ⟨zt_3 153 rfl rfl, zt_1 4 rfl rfl, ⟨by decide, by decide⟩, by decide +kernel⟩
theorem st_Mo_byUpper : Cond.static y_Mo_byUpper ∈ zW := zt_3 152 rfl rfl
theorem cb_Mo_byStore : zCb y_Mo_byStore b_Mo_byStore 1 (some .int) 1 := ⟨zt_3 185 rfl rfl, zt_1 4 rfl rfl, ⟨by decide, by decide⟩, by decide +kernel⟩
theorem st_Mo_byStore : Cond.static y_Mo_byStore ∈ zW := zt_3 184 rfl rfl
theorem cb_Mo_byBranch : zCb y_Mo_byBranch b_Mo_byBranch 1 (some .int) 1 := ⟨zt_3 165 rfl rfl, zt_1 4 rfl rfl, ⟨by decide, by decide⟩, by decide +kernel⟩
theorem st_Mo_byBranch : Cond.static y_Mo_byBranch ∈ zW := zt_3 164 rfl rfl
theorem cb_Mo_byJump : zCb y_Mo_byJump b_Mo_byJump 1 (some .int) 1 := ⟨zt_3 147 rfl rfl, zt_1 4 rfl rfl, ⟨by decide, by decide⟩, by decide +kernel⟩
theorem st_Mo_byJump : Cond.static y_Mo_byJump ∈ zW := zt_3 146 rfl rfl
theorem cb_Mo_up : zCb y_Mo_up b_Mo_up 1 (some .int) 1 := ⟨zt_3 202 rfl rfl, zt_1 4 rfl rfl, ⟨by decide, by decide⟩, by decide +kernel⟩
theorem st_Mo_up : Cond.static y_Mo_up ∈ zW := zt_3 201 rfl rfl
theorem cb_Mo_place : zCb y_Mo_place b_Mo_place 5 (some .int) 2 := ⟨zt_3 173 rfl rfl, zt_1 4 rfl rfl, ⟨by decide, by decide⟩, by decide +kernel⟩
theorem in_Mo_place : Cond.instanceMethod y_Mo_place ∈ zW := zt_3 172 rfl rfl
theorem se_Mo_place : Cond.selects y_Mo_place.cls y_Mo_place y_Mo_place ∈ zW := zt_0 (n := 24) 32 rfl
theorem cb_Mo_read : zCb y_Mo_read b_Mo_read 5 (some .int) 2 := ⟨zt_3 178 rfl rfl, zt_1 4 rfl rfl, ⟨by decide, by decide⟩, by decide +kernel⟩
theorem in_Mo_read : Cond.instanceMethod y_Mo_read ∈ zW := zt_3 177 rfl rfl
theorem se_Mo_read : Cond.selects y_Mo_read.cls y_Mo_read y_Mo_read ∈ zW := zt_0 (n := 24) 33 rfl
theorem cb_Mo_object : zCb y_Mo_object b_Mo_object 4 (some .int) 2 := ⟨zt_3 199 rfl rfl, zt_1 4 rfl rfl, ⟨by decide, by decide⟩, by decide +kernel⟩
theorem in_Mo_object : Cond.instanceMethod y_Mo_object ∈ zW := zt_3 198 rfl rfl
theorem se_Mo_object : Cond.selects y_Mo_object.cls y_Mo_object y_Mo_object ∈ zW := zt_0 (n := 24) 36 rfl
theorem cb_Mo_pack : zCb y_Mo_pack b_Mo_pack 2 (none) 0 := ⟨zt_3 207 rfl rfl, zt_1 4 rfl rfl, ⟨by decide, by decide⟩, by decide +kernel⟩
theorem in_Mo_pack : Cond.instanceMethod y_Mo_pack ∈ zW := zt_3 206 rfl rfl
theorem se_Mo_pack : Cond.selects y_Mo_pack.cls y_Mo_pack y_Mo_pack ∈ zW := zt_0 (n := 24) 37 rfl
theorem cb_Mo_gone : zCb y_Mo_gone b_Mo_gone 2 (none) 1 := ⟨zt_3 212 rfl rfl, zt_1 4 rfl rfl, ⟨by decide, by decide⟩, by decide +kernel⟩
theorem in_Mo_gone : Cond.instanceMethod y_Mo_gone ∈ zW := zt_3 211 rfl rfl
theorem se_Mo_gone : Cond.selects y_Mo_gone.cls y_Mo_gone y_Mo_gone ∈ zW := zt_0 (n := 24) 38 rfl
theorem cb_Mo_put : zCb y_Mo_put b_Mo_put 4 (none) 2 := ⟨zt_3 141 rfl rfl, zt_1 4 rfl rfl, ⟨by decide, by decide⟩, by decide +kernel⟩
theorem in_Mo_put : Cond.instanceMethod y_Mo_put ∈ zW := zt_3 140 rfl rfl
theorem se_Mo_put : Cond.selects y_Mo_put.cls y_Mo_put y_Mo_put ∈ zW := zt_0 (n := 24) 28 rfl
theorem cb_Mo_trap : zCb y_Mo_trap b_Mo_trap 2 (none) 1 := ⟨zt_3 129 rfl rfl, zt_1 4 rfl rfl, ⟨by decide, by decide⟩, by decide +kernel⟩
theorem in_Mo_trap : Cond.instanceMethod y_Mo_trap ∈ zW := zt_3 128 rfl rfl
theorem se_Mo_trap : Cond.selects y_Mo_trap.cls y_Mo_trap y_Mo_trap ∈ zW := zt_0 (n := 24) 25 rfl
theorem cb_Mo_isGone : zCb y_Mo_isGone b_Mo_isGone 2 (some .boolean) 1 := ⟨zt_3 157 rfl rfl, zt_1 4 rfl rfl, ⟨by decide, by decide⟩, by decide +kernel⟩
theorem in_Mo_isGone : Cond.instanceMethod y_Mo_isGone ∈ zW := zt_3 156 rfl rfl
theorem se_Mo_isGone : Cond.selects y_Mo_isGone.cls y_Mo_isGone y_Mo_isGone ∈ zW := zt_0 (n := 24) 29 rfl
theorem cb_Mo_step : zCb y_Mo_step b_Mo_step 3 (none) 0 := ⟨zt_3 125 rfl rfl, zt_1 4 rfl rfl, ⟨by decide, by decide⟩, by decide +kernel⟩
theorem in_Mo_step : Cond.instanceMethod y_Mo_step ∈ zW := zt_3 124 rfl rfl
theorem se_Mo_step : Cond.selects y_Mo_step.cls y_Mo_step y_Mo_step ∈ zW := zt_0 (n := 24) 24 rfl
theorem cb_Mo_goesOn : zCb y_Mo_goesOn b_Mo_goesOn 3 (none) 2 := ⟨zt_3 137 rfl rfl, zt_1 4 rfl rfl, ⟨by decide, by decide⟩, by decide +kernel⟩
theorem in_Mo_goesOn : Cond.instanceMethod y_Mo_goesOn ∈ zW := zt_3 136 rfl rfl
theorem se_Mo_goesOn : Cond.selects y_Mo_goesOn.cls y_Mo_goesOn y_Mo_goesOn ∈ zW := zt_0 (n := 24) 27 rfl
theorem cb_Mo_jumps : zCb y_Mo_jumps b_Mo_jumps 5 (none) 2 := ⟨zt_3 133 rfl rfl, zt_1 4 rfl rfl, ⟨by decide, by decide⟩, by decide +kernel⟩
theorem in_Mo_jumps : Cond.instanceMethod y_Mo_jumps ∈ zW := zt_3 132 rfl rfl
theorem se_Mo_jumps : Cond.selects y_Mo_jumps.cls y_Mo_jumps y_Mo_jumps ∈ zW := zt_0 (n := 24) 26 rfl
theorem cb_Mo_branch : zCb y_Mo_branch b_Mo_branch 8 (none) 2 := ⟨zt_3 161 rfl rfl, zt_1 4 rfl rfl, ⟨by decide, by decide⟩, by decide +kernel⟩
theorem in_Mo_branch : Cond.instanceMethod y_Mo_branch ∈ zW := zt_3 160 rfl rfl
theorem se_Mo_branch : Cond.selects y_Mo_branch.cls y_Mo_branch y_Mo_branch ∈ zW := zt_0 (n := 24) 30 rfl
theorem cb_Mo_load : zCb y_Mo_load b_Mo_load 6 (none) 2 := ⟨zt_3 169 rfl rfl, zt_1 4 rfl rfl, ⟨by decide, by decide⟩, by decide +kernel⟩
theorem in_Mo_load : Cond.instanceMethod y_Mo_load ∈ zW := zt_3 168 rfl rfl
theorem se_Mo_load : Cond.selects y_Mo_load.cls y_Mo_load y_Mo_load ∈ zW := zt_0 (n := 24) 31 rfl
theorem cb_Mo_store : zCb y_Mo_store b_Mo_store 7 (none) 2 := ⟨zt_3 182 rfl rfl, zt_1 4 rfl rfl, ⟨by decide, by decide⟩, by decide +kernel⟩
theorem in_Mo_store : Cond.instanceMethod y_Mo_store ∈ zW := zt_3 181 rfl rfl
theorem se_Mo_store : Cond.selects y_Mo_store.cls y_Mo_store y_Mo_store ∈ zW := zt_0 (n := 24) 34 rfl
theorem cb_Mo_plain : zCb y_Mo_plain b_Mo_plain 4 (some .int) 4 := ⟨zt_3 188 rfl rfl, zt_1 4 rfl rfl, ⟨by decide, by decide⟩, by decide +kernel⟩
theorem st_Mo_plain : Cond.static y_Mo_plain ∈ zW := zt_3 187 rfl rfl
theorem cb_Mo_more : zCb y_Mo_more b_Mo_more 11 (some .int) 3 := ⟨zt_3 191 rfl rfl, zt_1 4 rfl rfl, ⟨by decide, by decide⟩, by decide +kernel⟩
theorem st_Mo_more : Cond.static y_Mo_more ∈ zW := zt_3 190 rfl rfl
theorem cb_Mo_service : zCb y_Mo_service b_Mo_service 6 (none) 0 := ⟨zt_3 195 rfl rfl, zt_1 4 rfl rfl, ⟨by decide, by decide⟩, by decide +kernel⟩
theorem in_Mo_service : Cond.instanceMethod y_Mo_service ∈ zW := zt_3 194 rfl rfl
theorem se_Mo_service : Cond.selects y_Mo_service.cls y_Mo_service y_Mo_service ∈ zW := zt_0 (n := 24) 35 rfl
theorem cb_Mo_word : zCb y_Mo_word b_Mo_word 2 (some .int) 1 := ⟨zt_3 109 rfl rfl, zt_1 4 rfl rfl, ⟨by decide, by decide⟩, by decide +kernel⟩
theorem in_Mo_word : Cond.instanceMethod y_Mo_word ∈ zW := zt_3 107 rfl rfl
theorem se_Mo_word : Cond.selects y_Mo_word.cls y_Mo_word y_Mo_word ∈ zW := zt_3 108 rfl rfl
theorem cb_Mo_change : zCb y_Mo_change b_Mo_change 4 (some .int) 2 := ⟨zt_3 113 rfl rfl, zt_1 4 rfl rfl, ⟨by decide, by decide⟩, by decide +kernel⟩
theorem in_Mo_change : Cond.instanceMethod y_Mo_change ∈ zW := zt_3 111 rfl rfl
theorem se_Mo_change : Cond.selects y_Mo_change.cls y_Mo_change y_Mo_change ∈ zW := zt_3 112 rfl rfl
theorem cb_Mo_begin : zCb y_Mo_begin b_Mo_begin 3 (none) 1 := ⟨zt_3 117 rfl rfl, zt_1 4 rfl rfl, ⟨by decide, by decide⟩, by decide +kernel⟩
theorem in_Mo_begin : Cond.instanceMethod y_Mo_begin ∈ zW := zt_3 115 rfl rfl
theorem se_Mo_begin : Cond.selects y_Mo_begin.cls y_Mo_begin y_Mo_begin ∈ zW := zt_3 116 rfl rfl
theorem cb_Mo_run : zCb y_Mo_run b_Mo_run 3 (some .int) 1 := ⟨zt_3 121 rfl rfl, zt_1 4 rfl rfl, ⟨by decide, by decide⟩, by decide +kernel⟩
theorem in_Mo_run : Cond.instanceMethod y_Mo_run ∈ zW := zt_3 119 rfl rfl
theorem se_Mo_run : Cond.selects y_Mo_run.cls y_Mo_run y_Mo_run ∈ zW := zt_3 120 rfl rfl
theorem cb_Mo_state : zCb y_Mo_state b_Mo_state 1 (some .int) 0 := ⟨zt_3 216 rfl rfl, zt_1 4 rfl rfl, ⟨by decide, by decide⟩, by decide +kernel⟩
theorem in_Mo_state : Cond.instanceMethod y_Mo_state ∈ zW := zt_3 214 rfl rfl
theorem se_Mo_state : Cond.selects y_Mo_state.cls y_Mo_state y_Mo_state ∈ zW := zt_3 215 rfl rfl
theorem cb_Mo_register : zCb y_Mo_register b_Mo_register 2 (some .int) 1 := ⟨zt_3 220 rfl rfl, zt_1 4 rfl rfl, ⟨by decide, by decide⟩, by decide +kernel⟩
theorem in_Mo_register : Cond.instanceMethod y_Mo_register ∈ zW := zt_3 218 rfl rfl
theorem se_Mo_register : Cond.selects y_Mo_register.cls y_Mo_register y_Mo_register ∈ zW := zt_3 219 rfl rfl
theorem cb_Mo_set : zCb y_Mo_set b_Mo_set 4 (some .int) 2 := ⟨zt_3 224 rfl rfl, zt_1 4 rfl rfl, ⟨by decide, by decide⟩, by decide +kernel⟩
theorem in_Mo_set : Cond.instanceMethod y_Mo_set ∈ zW := zt_3 222 rfl rfl
theorem se_Mo_set : Cond.selects y_Mo_set.cls y_Mo_set y_Mo_set ∈ zW := zt_3 223 rfl rfl
theorem cb_Mo_peek : zCb y_Mo_peek b_Mo_peek 3 (some .int) 1 := ⟨zt_3 228 rfl rfl, zt_1 4 rfl rfl, ⟨by decide, by decide⟩, by decide +kernel⟩
theorem in_Mo_peek : Cond.instanceMethod y_Mo_peek ∈ zW := zt_3 226 rfl rfl
theorem se_Mo_peek : Cond.selects y_Mo_peek.cls y_Mo_peek y_Mo_peek ∈ zW := zt_3 227 rfl rfl
theorem cb_Mo_input : zCb y_Mo_input b_Mo_input 5 (some .int) 2 := ⟨zt_3 232 rfl rfl, zt_1 4 rfl rfl, ⟨by decide, by decide⟩, by decide +kernel⟩
theorem in_Mo_input : Cond.instanceMethod y_Mo_input ∈ zW := zt_3 230 rfl rfl
theorem se_Mo_input : Cond.selects y_Mo_input.cls y_Mo_input y_Mo_input ∈ zW := zt_3 231 rfl rfl
theorem cb_Mo_take : zCb y_Mo_take b_Mo_take 5 (some .long) 0 := ⟨zt_3 236 rfl rfl, zt_1 4 rfl rfl, ⟨by decide, by decide⟩, by decide +kernel⟩
theorem in_Mo_take : Cond.instanceMethod y_Mo_take ∈ zW := zt_3 234 rfl rfl
theorem se_Mo_take : Cond.selects y_Mo_take.cls y_Mo_take y_Mo_take ∈ zW := zt_3 235 rfl rfl
theorem cb_Mo_count : zCb y_Mo_count b_Mo_count 2 (some .int) 1 := ⟨zt_4 0 rfl rfl, zt_1 4 rfl rfl, ⟨by decide, by decide⟩, by decide +kernel⟩
theorem in_Mo_count : Cond.instanceMethod y_Mo_count ∈ zW := zt_3 238 rfl rfl
theorem se_Mo_count : Cond.selects y_Mo_count.cls y_Mo_count y_Mo_count ∈ zW := zt_3 239 rfl rfl
theorem cb_Ar_copyOfI : zCb y_Ar_copyOfI b_Ar_copyOfI 3 (some (.array .int)) 2 := ⟨zt_1 231 rfl rfl, zt_1 10 rfl rfl, ⟨by decide, by decide⟩, by decide +kernel⟩
theorem st_Ar_copyOfI : Cond.static y_Ar_copyOfI ∈ zW := zt_1 230 rfl rfl
theorem cb_Ar_fill : zCb y_Ar_fill b_Ar_fill 4 (none) 2 := ⟨zt_2 35 rfl rfl, zt_1 10 rfl rfl, ⟨by decide, by decide⟩, by decide +kernel⟩
theorem st_Ar_fill : Cond.static y_Ar_fill ∈ zW := zt_2 34 rfl rfl
theorem cb_Ar_copyOfB : zCb y_Ar_copyOfB b_Ar_copyOfB 3 (some (.array .byte)) 2 := ⟨zt_2 181 rfl rfl, zt_1 10 rfl rfl, ⟨by decide, by decide⟩, by decide +kernel⟩
theorem st_Ar_copyOfB : Cond.static y_Ar_copyOfB ∈ zW := zt_2 180 rfl rfl
theorem lk_La_43 : zLk "RvMachineLaw" 43 y_Rv_init := Or.inl (zt_1 16 rfl rfl)
theorem lk_Rv_18 : zLk "RvMachine" 18 y_Me_init := Or.inl (zt_1 24 rfl rfl)
theorem lk_Rv_25 : zLk "RvMachine" 25 y_By_init := Or.inl (zt_1 66 rfl rfl)
theorem lk_La_68 : zLk "RvMachineLaw" 68 y_Rv_state := Or.inl (zt_1 112 rfl rfl)
theorem lk_La_78 : zLk "RvMachineLaw" 78 y_Rv_peek := Or.inl (zt_1 116 rfl rfl)
theorem lk_Rv_74 : zLk "RvMachine" 74 y_Me_holds := Or.inl (zt_1 120 rfl rfl)
theorem lk_Me_83 : zLk "RvMachine$Memory" 83 y_Me_isThere := Or.inl (zt_1 124 rfl rfl)
theorem kc_Me_82 : Cond.constant "RvMachine$Memory" 82 (65535) ∈ zW := zt_1 128 rfl rfl
theorem lk_Rv_78 : zLk "RvMachine" 78 y_Me_read := Or.inl (zt_1 129 rfl rfl)
theorem lk_Me_91 : zLk "RvMachine$Memory" 91 y_Me_spot := Or.inl (zt_1 133 rfl rfl)
theorem lk_La_88 : zLk "RvMachineLaw" 88 y_Rv_take := Or.inl (zt_1 137 rfl rfl)
theorem lk_Rv_93 : zLk "RvMachine" 93 y_By_removeFirst := Or.inl (zt_1 144 rfl rfl)
theorem lk_By_20 : zLk "RvMachine$Bytes" 20 y_By_wrapped := Or.inl (zt_1 148 rfl rfl)
theorem lk_La_7 : zLk "RvMachineLaw" 7 y_Rv_word := Or.inl (zt_1 156 rfl rfl)
theorem lk_Rv_45 : zLk "RvMachine" 45 y_Rv_widened := Or.inl (zt_1 223 rfl rfl)
theorem lk_Rv_109 : zLk "RvMachine" 109 y_Ar_copyOfI := Or.inl (zt_1 229 rfl rfl)
theorem lk_La_15 : zLk "RvMachineLaw" 15 y_Rv_change := Or.inl (zt_2 7 rfl rfl)
theorem lk_La_21 : zLk "RvMachineLaw" 21 y_Rv_begin := Or.inl (zt_2 29 rfl rfl)
theorem lk_Rv_52 : zLk "RvMachine" 52 y_Ar_fill := Or.inl (zt_2 33 rfl rfl)
theorem lk_Rv_58 : zLk "RvMachine" 58 y_Me_forgetAll := Or.inl (zt_2 36 rfl rfl)
theorem lk_Rv_61 : zLk "RvMachine" 61 y_By_forgetAll := Or.inl (zt_2 40 rfl rfl)
theorem lk_La_25 : zLk "RvMachineLaw" 25 y_Rv_run := Or.inl (zt_2 48 rfl rfl)
theorem lk_Rv_71 : zLk "RvMachine" 71 y_Rv_doNext := Or.inl (zt_2 67 rfl rfl)
theorem lk_Rv_116 : zLk "RvMachine" 116 y_Rv_execute := Or.inl (zt_2 71 rfl rfl)
theorem lk_Rv_120 : zLk "RvMachine" 120 y_Rv_keep := Or.inl (zt_2 75 rfl rfl)
theorem lk_Rv_123 : zLk "RvMachine" 123 y_Rv_jumpOffset := Or.inl (zt_2 79 rfl rfl)
theorem kc_Rv_154 : Cond.constant "RvMachine" 154 (1044480) ∈ zW := zt_2 82 rfl rfl
theorem lk_Rv_126 : zLk "RvMachine" 126 y_Rv_jump := Or.inl (zt_2 83 rfl rfl)
theorem lk_Rv_155 : zLk "RvMachine" 155 y_Rv_goTo := Or.inl (zt_2 87 rfl rfl)
theorem lk_Rv_129 : zLk "RvMachine" 129 y_Rv_jumpByRegister := Or.inl (zt_2 91 rfl rfl)
theorem lk_Rv_147 : zLk "RvMachine" 147 y_Rv_middle := Or.inl (zt_2 95 rfl rfl)
theorem lk_Rv_158 : zLk "RvMachine" 158 y_Rv_firstOperand := Or.inl (zt_2 98 rfl rfl)
theorem lk_Rv_132 : zLk "RvMachine" 132 y_Rv_branch := Or.inl (zt_2 102 rfl rfl)
theorem lk_Rv_161 : zLk "RvMachine" 161 y_Rv_secondOperand := Or.inl (zt_2 106 rfl rfl)
theorem lk_Rv_164 : zLk "RvMachine" 164 y_Rv_isBelow := Or.inl (zt_2 110 rfl rfl)
theorem lk_Rv_193 : zLk "RvMachine" 193 y_Rv_unsigned := Or.inl (zt_2 113 rfl rfl)
theorem kc_Rv_197 : Cond.constantLong "RvMachine" 197 (4294967295) ∈ zW := zt_2 116 rfl rfl
theorem lk_Rv_167 : zLk "RvMachine" 167 y_Rv_branchOffset := Or.inl (zt_2 117 rfl rfl)
theorem lk_Rv_135 : zLk "RvMachine" 135 y_Rv_load := Or.inl (zt_2 120 rfl rfl)
theorem lk_Rv_170 : zLk "RvMachine" 170 y_Me_holdsAligned := Or.inl (zt_2 124 rfl rfl)
theorem lk_Me_87 : zLk "RvMachine$Memory" 87 y_Me_holds := Or.inl (zt_2 128 rfl rfl)
theorem lk_Rv_138 : zLk "RvMachine" 138 y_Rv_store := Or.inl (zt_2 129 rfl rfl)
theorem lk_Rv_173 : zLk "RvMachine" 173 y_Rv_storeOffset := Or.inl (zt_2 133 rfl rfl)
theorem lk_Rv_176 : zLk "RvMachine" 176 y_Me_write := Or.inl (zt_2 136 rfl rfl)
theorem lk_Rv_141 : zLk "RvMachine" 141 y_Rv_operateWithConstant := Or.inl (zt_2 140 rfl rfl)
theorem lk_Rv_180 : zLk "RvMachine" 180 y_Rv_top := Or.inl (zt_2 144 rfl rfl)
theorem lk_Rv_183 : zLk "RvMachine" 183 y_Rv_plainResult := Or.inl (zt_2 147 rfl rfl)
theorem lk_Rv_144 : zLk "RvMachine" 144 y_Rv_operate := Or.inl (zt_2 150 rfl rfl)
theorem lk_Rv_187 : zLk "RvMachine" 187 y_Rv_product := Or.inl (zt_2 154 rfl rfl)
theorem lk_Rv_190 : zLk "RvMachine" 190 y_Rv_quotient := Or.inl (zt_2 157 rfl rfl)
theorem lk_Rv_150 : zLk "RvMachine" 150 y_Rv_serve := Or.inl (zt_2 160 rfl rfl)
theorem lk_Rv_199 : zLk "RvMachine" 199 y_Me_make := Or.inl (zt_2 164 rfl rfl)
theorem lk_Me_42 : zLk "RvMachine$Memory" 42 y_Me_roundedUp := Or.inl (zt_2 168 rfl rfl)
theorem kc_Me_46 : Cond.constant "RvMachine$Memory" 46 (40000) ∈ zW := zt_2 171 rfl rfl
theorem lk_Me_47 : zLk "RvMachine$Memory" 47 y_Me_tidy := Or.inl (zt_2 172 rfl rfl)
theorem kc_Me_66 : Cond.constant "RvMachine$Memory" 66 (80000) ∈ zW := zt_2 177 rfl rfl
theorem lk_Me_73 : zLk "RvMachine$Memory" 73 y_Ar_copyOfB := Or.inl (zt_2 179 rfl rfl)
theorem lk_Me_51 : zLk "RvMachine$Memory" 51 y_Me_addNumber := Or.inl (zt_2 187 rfl rfl)
theorem lk_Me_60 : zLk "RvMachine$Memory" 60 y_Rv_widened := Or.inr ⟨"RvMachine", zt_2 191 rfl rfl⟩
theorem lk_Rv_203 : zLk "RvMachine" 203 y_Rv_answerAddress := Or.inl (zt_2 192 rfl rfl)
theorem lk_Rv_206 : zLk "RvMachine" 206 y_Me_dropLast := Or.inl (zt_2 196 rfl rfl)
theorem lk_Me_79 : zLk "RvMachine$Memory" 79 y_Me_drop := Or.inl (zt_2 200 rfl rfl)
theorem lk_Rv_210 : zLk "RvMachine" 210 y_Rv_doneIf := Or.inl (zt_2 204 rfl rfl)
theorem lk_Rv_214 : zLk "RvMachine" 214 y_Me_dropGiven := Or.inl (zt_2 207 rfl rfl)
theorem lk_Rv_85 : zLk "RvMachine" 85 y_By_add := Or.inl (zt_2 211 rfl rfl)
theorem lk_Rv_217 : zLk "RvMachine" 217 y_Rv_copyBytes := Or.inl (zt_2 215 rfl rfl)
theorem lk_Rv_220 : zLk "RvMachine" 220 y_Me_copy := Or.inl (zt_2 219 rfl rfl)
theorem kc_Rv_153 : Cond.constant "RvMachine" 153 (1048691) ∈ zW := zt_2 223 rfl rfl
theorem lk_La_30 : zLk "RvMachineLaw" 30 y_Rv_register := Or.inl (zt_2 227 rfl rfl)
theorem lk_La_33 : zLk "RvMachineLaw" 33 y_Rv_set := Or.inl (zt_2 234 rfl rfl)
theorem lk_La_36 : zLk "RvMachineLaw" 36 y_Rv_input := Or.inl (zt_3 1 rfl rfl)
theorem lk_La_40 : zLk "RvMachineLaw" 40 y_Rv_count := Or.inl (zt_3 8 rfl rfl)
theorem lk_La_46 : zLk "RvMachineLaw" 46 y_Mo_init := Or.inl (zt_3 14 rfl rfl)
theorem kc_Mo_22 : Cond.constant "RvMachineModel" 22 (90000) ∈ zW := zt_3 18 rfl rfl
theorem lk_Mo_48 : zLk "RvMachineModel" 48 y_Mo_kind := Or.inl (zt_3 19 rfl rfl)
theorem kc_Mo_52 : Cond.constant "RvMachineModel" 52 (-33525633) ∈ zW := zt_3 23 rfl rfl
theorem kc_Mo_53 : Cond.constant "RvMachineModel" 53 (1073762323) ∈ zW := zt_3 24 rfl rfl
theorem kc_Mo_54 : Cond.constant "RvMachineModel" 54 (1073741875) ∈ zW := zt_3 25 rfl rfl
theorem kc_Mo_55 : Cond.constant "RvMachineModel" 55 (1073762355) ∈ zW := zt_3 26 rfl rfl
theorem kc_Mo_56 : Cond.constant "RvMachineModel" 56 (33554432) ∈ zW := zt_3 27 rfl rfl
theorem kc_Mo_57 : Cond.constant "RvMachineModel" 57 (1048691) ∈ zW := zt_3 28 rfl rfl
theorem lk_La_53 : zLk "RvMachineLaw" 53 y_Mo_thrown := Or.inl (zt_3 102 rfl rfl)
theorem lk_La_52 : zLk "RvMachineLaw" 52 y_Mo_word := Or.inl (zt_3 106 rfl rfl)
theorem lk_La_60 : zLk "RvMachineLaw" 60 y_Mo_change := Or.inl (zt_3 110 rfl rfl)
theorem lk_La_64 : zLk "RvMachineLaw" 64 y_Mo_begin := Or.inl (zt_3 114 rfl rfl)
theorem lk_La_67 : zLk "RvMachineLaw" 67 y_Mo_run := Or.inl (zt_3 118 rfl rfl)
theorem lk_Mo_180 : zLk "RvMachineModel" 180 y_Mo_step := Or.inl (zt_3 122 rfl rfl)
theorem lk_Mo_100 : zLk "RvMachineModel" 100 y_Mo_trap := Or.inl (zt_3 126 rfl rfl)
theorem lk_Mo_110 : zLk "RvMachineModel" 110 y_Mo_jumps := Or.inl (zt_3 130 rfl rfl)
theorem lk_Mo_129 : zLk "RvMachineModel" 129 y_Mo_goesOn := Or.inl (zt_3 134 rfl rfl)
theorem lk_Mo_138 : zLk "RvMachineModel" 138 y_Mo_put := Or.inl (zt_3 138 rfl rfl)
theorem lk_Mo_65 : zLk "RvMachineModel" 65 y_Mo_bits := Or.inl (zt_3 142 rfl rfl)
theorem lk_Mo_141 : zLk "RvMachineModel" 141 y_Mo_byJump := Or.inl (zt_3 145 rfl rfl)
theorem lk_Mo_69 : zLk "RvMachineModel" 69 y_Mo_signed := Or.inl (zt_3 148 rfl rfl)
theorem lk_Mo_122 : zLk "RvMachineModel" 122 y_Mo_byUpper := Or.inl (zt_3 151 rfl rfl)
theorem lk_Mo_144 : zLk "RvMachineModel" 144 y_Mo_isGone := Or.inl (zt_3 154 rfl rfl)
theorem lk_Mo_113 : zLk "RvMachineModel" 113 y_Mo_branch := Or.inl (zt_3 158 rfl rfl)
theorem kc_Mo_148 : Cond.constantLong "RvMachineModel" 148 (4294967295) ∈ zW := zt_3 162 rfl rfl
theorem lk_Mo_150 : zLk "RvMachineModel" 150 y_Mo_byBranch := Or.inl (zt_3 163 rfl rfl)
theorem lk_Mo_116 : zLk "RvMachineModel" 116 y_Mo_load := Or.inl (zt_3 166 rfl rfl)
theorem lk_Mo_153 : zLk "RvMachineModel" 153 y_Mo_place := Or.inl (zt_3 170 rfl rfl)
theorem kc_Mo_73 : Cond.constant "RvMachineModel" 73 (65535) ∈ zW := zt_3 174 rfl rfl
theorem lk_Mo_156 : zLk "RvMachineModel" 156 y_Mo_read := Or.inl (zt_3 175 rfl rfl)
theorem lk_Mo_119 : zLk "RvMachineModel" 119 y_Mo_store := Or.inl (zt_3 179 rfl rfl)
theorem lk_Mo_159 : zLk "RvMachineModel" 159 y_Mo_byStore := Or.inl (zt_3 183 rfl rfl)
theorem lk_Mo_125 : zLk "RvMachineModel" 125 y_Mo_plain := Or.inl (zt_3 186 rfl rfl)
theorem lk_Mo_132 : zLk "RvMachineModel" 132 y_Mo_more := Or.inl (zt_3 189 rfl rfl)
theorem lk_Mo_135 : zLk "RvMachineModel" 135 y_Mo_service := Or.inl (zt_3 192 rfl rfl)
theorem lk_Mo_162 : zLk "RvMachineModel" 162 y_Mo_object := Or.inl (zt_3 196 rfl rfl)
theorem lk_Mo_80 : zLk "RvMachineModel" 80 y_Mo_up := Or.inl (zt_3 200 rfl rfl)
theorem kc_Mo_84 : Cond.constant "RvMachineModel" 84 (40000) ∈ zW := zt_3 203 rfl rfl
theorem lk_Mo_88 : zLk "RvMachineModel" 88 y_Mo_pack := Or.inl (zt_3 204 rfl rfl)
theorem lk_Mo_168 : zLk "RvMachineModel" 168 y_Mo_gone := Or.inl (zt_3 209 rfl rfl)
theorem lk_La_71 : zLk "RvMachineLaw" 71 y_Mo_state := Or.inl (zt_3 213 rfl rfl)
theorem lk_La_74 : zLk "RvMachineLaw" 74 y_Mo_register := Or.inl (zt_3 217 rfl rfl)
theorem lk_La_77 : zLk "RvMachineLaw" 77 y_Mo_set := Or.inl (zt_3 221 rfl rfl)
theorem lk_La_81 : zLk "RvMachineLaw" 81 y_Mo_peek := Or.inl (zt_3 225 rfl rfl)
theorem lk_La_87 : zLk "RvMachineLaw" 87 y_Mo_input := Or.inl (zt_3 229 rfl rfl)
theorem lk_La_92 : zLk "RvMachineLaw" 92 y_Mo_take := Or.inl (zt_3 233 rfl rfl)
theorem lk_La_95 : zLk "RvMachineLaw" 95 y_Mo_count := Or.inl (zt_3 237 rfl rfl)
theorem kc_La_82 : Cond.constantLong "RvMachineLaw" 82 (4294967295) ∈ zW := zt_4 1 rfl rfl
theorem aw_int : Cond.arrayClass (newarray.typeOf .int) ∈ zW := zt_1 62 rfl rfl
theorem aw_byte : Cond.arrayClass (newarray.typeOf .byte) ∈ zW := zt_1 63 rfl rfl
theorem aw_long : Cond.arrayClass (newarray.typeOf .long) ∈ zW := zt_4 2 rfl rfl
theorem oi_in : Cond.instanceMethod objectInit ∈ zW := zt_1 20 rfl rfl
theorem oi_code : Cond.code objectInit ⟨#[0xb1]⟩ 1 none ∈ zW := zt_1 21 rfl rfl
theorem mm_min_st : Cond.static Lib.Math.min.name ∈ zW := zt_1 142 rfl rfl
theorem mm_min_code : Cond.code Lib.Math.min.name Lib.Math.min.code 2 (some .int) ∈ zW := zt_1 143 rfl rfl
theorem ml_Rv_88 : Cond.methodLink "RvMachine" 88 Lib.Math.min.name ∈ zW := zt_1 141 rfl rfl
theorem ml_Ar_304 : Cond.methodLink "java/util/Arrays" 304 Lib.Math.min.name ∈ zW := zt_1 239 rfl rfl
theorem ml_Me_67 : Cond.methodLink "RvMachine$Memory" 67 Lib.Math.min.name ∈ zW := zt_2 178 rfl rfl
theorem mm_max_st : Cond.static Lib.Math.max.name ∈ zW := zt_1 227 rfl rfl
theorem mm_max_code : Cond.code Lib.Math.max.name Lib.Math.max.code 2 (some .int) ∈ zW := zt_1 228 rfl rfl
theorem ml_Rv_106 : Cond.methodLink "RvMachine" 106 Lib.Math.max.name ∈ zW := zt_1 226 rfl rfl
theorem mm_ini : Cond.initialized "java/lang/Math" ∈ zW := zt_1 9 rfl rfl
theorem sy_nat : Cond.native arraycopyName ∈ zW := zt_2 2 rfl rfl
theorem sy_st : Cond.static arraycopyName ∈ zW := zt_2 1 rfl rfl
theorem sy_ini : Cond.initialized "java/lang/System" ∈ zW := zt_1 11 rfl rfl
theorem sl_Me : Cond.methodLink "RvMachine$Memory" 54 arraycopyName ∈ zW := zt_2 176 rfl rfl
theorem sl_Mo : Cond.methodLink "RvMachineModel" 91 arraycopyName ∈ zW := zt_3 208 rfl rfl
theorem sl_Ar : Cond.methodLink "java/util/Arrays" 150 arraycopyName ∈ zW := zt_2 0 rfl rfl
theorem ol_Rv : Cond.methodLink "RvMachine" 1 objectInit ∈ zW := zt_1 19 rfl rfl
theorem ib_0 : Cond.instantiable R_Rv 10 ∈ zW := zt_1 15 rfl rfl
theorem ii_0 : Cond.initialized R_Rv ∈ zW := zt_1 1 rfl rfl
theorem ol_Me : Cond.methodLink "RvMachine$Memory" 3 objectInit ∈ zW := zt_1 27 rfl rfl
theorem ib_1 : Cond.instantiable R_Me 10 ∈ zW := zt_1 23 rfl rfl
theorem ii_1 : Cond.initialized R_Me ∈ zW := zt_1 2 rfl rfl
theorem ol_By : Cond.methodLink "RvMachine$Bytes" 1 objectInit ∈ zW := zt_1 69 rfl rfl
theorem ib_2 : Cond.instantiable R_By 3 ∈ zW := zt_1 65 rfl rfl
theorem ii_2 : Cond.initialized R_By ∈ zW := zt_1 3 rfl rfl
theorem ol_Mo : Cond.methodLink "RvMachineModel" 1 objectInit ∈ zW := zt_3 17 rfl rfl
theorem ib_3 : Cond.instantiable R_Mo 24 ∈ zW := zt_3 13 rfl rfl
theorem ii_3 : Cond.initialized R_Mo ∈ zW := zt_1 4 rfl rfl
theorem cl_La_8 : Cond.classLink "RvMachineLaw" 8 "RvMachine" ∈ zW := zt_1 14 rfl rfl
theorem cl_Rv_16 : Cond.classLink "RvMachine" 16 "RvMachine$Memory" ∈ zW := zt_1 22 rfl rfl
theorem cl_Rv_23 : Cond.classLink "RvMachine" 23 "RvMachine$Bytes" ∈ zW := zt_1 64 rfl rfl
theorem cl_La_13 : Cond.classLink "RvMachineLaw" 13 "java/lang/IllegalStateException" ∈ zW := zt_1 155 rfl rfl
theorem cl_Rv_42 : Cond.classLink "RvMachine" 42 "java/lang/IllegalStateException" ∈ zW := zt_1 160 rfl rfl
theorem cl_Ar_317 : Cond.classLink "java/util/Arrays" 317 "[I" ∈ zW := zt_1 238 rfl rfl
theorem cl_La_19 : Cond.classLink "RvMachineLaw" 19 "java/lang/IndexOutOfBoundsException" ∈ zW := zt_2 6 rfl rfl
theorem cl_Rv_49 : Cond.classLink "RvMachine" 49 "java/lang/IndexOutOfBoundsException" ∈ zW := zt_2 11 rfl rfl
theorem cl_La_28 : Cond.classLink "RvMachineLaw" 28 "java/lang/IllegalArgumentException" ∈ zW := zt_2 47 rfl rfl
theorem cl_Rv_68 : Cond.classLink "RvMachine" 68 "java/lang/IllegalArgumentException" ∈ zW := zt_2 52 rfl rfl
theorem cl_Ar_311 : Cond.classLink "java/util/Arrays" 311 "[B" ∈ zW := zt_2 186 rfl rfl
theorem cl_La_44 : Cond.classLink "RvMachineLaw" 44 "RvMachineModel" ∈ zW := zt_3 12 rfl rfl

theorem ly_Rv : ∀ w ∈ u_ws R_Rv F_Rv 10, w ∈ zW := List.forall_mem_cons.mpr ⟨zt_1 91 rfl rfl, List.forall_mem_cons.mpr ⟨zt_1 93 rfl rfl, List.forall_mem_cons.mpr ⟨zt_1 95 rfl rfl, List.forall_mem_cons.mpr ⟨zt_1 97 rfl rfl, List.forall_mem_cons.mpr ⟨zt_1 99 rfl rfl, List.forall_mem_cons.mpr ⟨zt_1 101 rfl rfl, List.forall_mem_cons.mpr ⟨zt_1 103 rfl rfl, List.forall_mem_cons.mpr ⟨zt_1 105 rfl rfl, List.forall_mem_cons.mpr ⟨zt_1 107 rfl rfl, List.forall_mem_cons.mpr ⟨zt_1 109 rfl rfl, fun _ h => absurd h List.not_mem_nil⟩⟩⟩⟩⟩⟩⟩⟩⟩⟩
theorem ft_Rv_0 : zFt 0 0 (.array .int) false := ⟨R_Rv, F_Rv, 10, t_Rv, rfl, t_Rv_ok, n_Rv, rfl, rfl⟩
theorem ft_Rv_1 : zFt 0 1 (.int) false := ⟨R_Rv, F_Rv, 10, t_Rv, rfl, t_Rv_ok, n_Rv, rfl, rfl⟩
theorem ft_Rv_2 : zFt 0 2 (.array .int) true := ⟨R_Rv, F_Rv, 10, t_Rv, rfl, t_Rv_ok, n_Rv, rfl, rfl⟩
theorem ft_Rv_3 : zFt 0 3 (.object "RvMachine$Memory") true := ⟨R_Rv, F_Rv, 10, t_Rv, rfl, t_Rv_ok, n_Rv, rfl, rfl⟩
theorem ft_Rv_4 : zFt 0 4 (.object "RvMachine$Bytes") true := ⟨R_Rv, F_Rv, 10, t_Rv, rfl, t_Rv_ok, n_Rv, rfl, rfl⟩
theorem ft_Rv_5 : zFt 0 5 (.object "RvMachine$Bytes") true := ⟨R_Rv, F_Rv, 10, t_Rv, rfl, t_Rv_ok, n_Rv, rfl, rfl⟩
theorem ft_Rv_6 : zFt 0 6 (.int) false := ⟨R_Rv, F_Rv, 10, t_Rv, rfl, t_Rv_ok, n_Rv, rfl, rfl⟩
theorem ft_Rv_7 : zFt 0 7 (.int) false := ⟨R_Rv, F_Rv, 10, t_Rv, rfl, t_Rv_ok, n_Rv, rfl, rfl⟩
theorem ft_Rv_8 : zFt 0 8 (.int) false := ⟨R_Rv, F_Rv, 10, t_Rv, rfl, t_Rv_ok, n_Rv, rfl, rfl⟩
theorem ft_Rv_9 : zFt 0 9 (.int) false := ⟨R_Rv, F_Rv, 10, t_Rv, rfl, t_Rv_ok, n_Rv, rfl, rfl⟩

theorem ly_Me : ∀ w ∈ u_ws R_Me F_Me 10, w ∈ zW := List.forall_mem_cons.mpr ⟨zt_1 41 rfl rfl, List.forall_mem_cons.mpr ⟨zt_1 43 rfl rfl, List.forall_mem_cons.mpr ⟨zt_1 45 rfl rfl, List.forall_mem_cons.mpr ⟨zt_1 47 rfl rfl, List.forall_mem_cons.mpr ⟨zt_1 49 rfl rfl, List.forall_mem_cons.mpr ⟨zt_1 51 rfl rfl, List.forall_mem_cons.mpr ⟨zt_1 53 rfl rfl, List.forall_mem_cons.mpr ⟨zt_1 55 rfl rfl, List.forall_mem_cons.mpr ⟨zt_1 57 rfl rfl, List.forall_mem_cons.mpr ⟨zt_1 59 rfl rfl, fun _ h => absurd h List.not_mem_nil⟩⟩⟩⟩⟩⟩⟩⟩⟩⟩
theorem ft_Me_0 : zFt 1 0 (.int) false := ⟨R_Me, F_Me, 10, t_Me, rfl, t_Me_ok, n_Me, rfl, rfl⟩
theorem ft_Me_1 : zFt 1 1 (.int) false := ⟨R_Me, F_Me, 10, t_Me, rfl, t_Me_ok, n_Me, rfl, rfl⟩
theorem ft_Me_2 : zFt 1 2 (.int) false := ⟨R_Me, F_Me, 10, t_Me, rfl, t_Me_ok, n_Me, rfl, rfl⟩
theorem ft_Me_3 : zFt 1 3 (.int) false := ⟨R_Me, F_Me, 10, t_Me, rfl, t_Me_ok, n_Me, rfl, rfl⟩
theorem ft_Me_4 : zFt 1 4 (.array .int) false := ⟨R_Me, F_Me, 10, t_Me, rfl, t_Me_ok, n_Me, rfl, rfl⟩
theorem ft_Me_5 : zFt 1 5 (.array .int) false := ⟨R_Me, F_Me, 10, t_Me, rfl, t_Me_ok, n_Me, rfl, rfl⟩
theorem ft_Me_6 : zFt 1 6 (.array .int) false := ⟨R_Me, F_Me, 10, t_Me, rfl, t_Me_ok, n_Me, rfl, rfl⟩
theorem ft_Me_7 : zFt 1 7 (.array .byte) false := ⟨R_Me, F_Me, 10, t_Me, rfl, t_Me_ok, n_Me, rfl, rfl⟩
theorem ft_Me_8 : zFt 1 8 (.int) false := ⟨R_Me, F_Me, 10, t_Me, rfl, t_Me_ok, n_Me, rfl, rfl⟩
theorem ft_Me_9 : zFt 1 9 (.array .byte) true := ⟨R_Me, F_Me, 10, t_Me, rfl, t_Me_ok, n_Me, rfl, rfl⟩

theorem ly_By : ∀ w ∈ u_ws R_By F_By 3, w ∈ zW := List.forall_mem_cons.mpr ⟨zt_1 74 rfl rfl, List.forall_mem_cons.mpr ⟨zt_1 76 rfl rfl, List.forall_mem_cons.mpr ⟨zt_1 78 rfl rfl, fun _ h => absurd h List.not_mem_nil⟩⟩⟩
theorem ft_By_0 : zFt 2 0 (.array .byte) true := ⟨R_By, F_By, 3, t_By, rfl, t_By_ok, n_By, rfl, rfl⟩
theorem ft_By_1 : zFt 2 1 (.int) false := ⟨R_By, F_By, 3, t_By, rfl, t_By_ok, n_By, rfl, rfl⟩
theorem ft_By_2 : zFt 2 2 (.int) false := ⟨R_By, F_By, 3, t_By, rfl, t_By_ok, n_By, rfl, rfl⟩

theorem ly_Mo : ∀ w ∈ u_ws R_Mo F_Mo 24, w ∈ zW := List.forall_mem_cons.mpr ⟨zt_3 53 rfl rfl, List.forall_mem_cons.mpr ⟨zt_3 55 rfl rfl, List.forall_mem_cons.mpr ⟨zt_3 57 rfl rfl, List.forall_mem_cons.mpr ⟨zt_3 59 rfl rfl, List.forall_mem_cons.mpr ⟨zt_3 61 rfl rfl, List.forall_mem_cons.mpr ⟨zt_3 63 rfl rfl, List.forall_mem_cons.mpr ⟨zt_3 65 rfl rfl, List.forall_mem_cons.mpr ⟨zt_3 67 rfl rfl, List.forall_mem_cons.mpr ⟨zt_3 69 rfl rfl, List.forall_mem_cons.mpr ⟨zt_3 71 rfl rfl, List.forall_mem_cons.mpr ⟨zt_3 73 rfl rfl, List.forall_mem_cons.mpr ⟨zt_3 75 rfl rfl, List.forall_mem_cons.mpr ⟨zt_3 77 rfl rfl, List.forall_mem_cons.mpr ⟨zt_3 79 rfl rfl, List.forall_mem_cons.mpr ⟨zt_3 81 rfl rfl, List.forall_mem_cons.mpr ⟨zt_3 83 rfl rfl, List.forall_mem_cons.mpr ⟨zt_3 85 rfl rfl, List.forall_mem_cons.mpr ⟨zt_3 87 rfl rfl, List.forall_mem_cons.mpr ⟨zt_3 89 rfl rfl, List.forall_mem_cons.mpr ⟨zt_3 91 rfl rfl, List.forall_mem_cons.mpr ⟨zt_3 93 rfl rfl, List.forall_mem_cons.mpr ⟨zt_3 95 rfl rfl, List.forall_mem_cons.mpr ⟨zt_3 97 rfl rfl, List.forall_mem_cons.mpr ⟨zt_3 99 rfl rfl, fun _ h => absurd h List.not_mem_nil⟩⟩⟩⟩⟩⟩⟩⟩⟩⟩⟩⟩⟩⟩⟩⟩⟩⟩⟩⟩⟩⟩⟩⟩
theorem ft_Mo_0 : zFt 3 0 (.array .int) true := ⟨R_Mo, F_Mo, 24, t_Mo, rfl, t_Mo_ok, n_Mo, rfl, rfl⟩
theorem ft_Mo_1 : zFt 3 1 (.array .int) true := ⟨R_Mo, F_Mo, 24, t_Mo, rfl, t_Mo_ok, n_Mo, rfl, rfl⟩
theorem ft_Mo_2 : zFt 3 2 (.int) false := ⟨R_Mo, F_Mo, 24, t_Mo, rfl, t_Mo_ok, n_Mo, rfl, rfl⟩
theorem ft_Mo_3 : zFt 3 3 (.array .int) true := ⟨R_Mo, F_Mo, 24, t_Mo, rfl, t_Mo_ok, n_Mo, rfl, rfl⟩
theorem ft_Mo_4 : zFt 3 4 (.int) false := ⟨R_Mo, F_Mo, 24, t_Mo, rfl, t_Mo_ok, n_Mo, rfl, rfl⟩
theorem ft_Mo_5 : zFt 3 5 (.array .int) true := ⟨R_Mo, F_Mo, 24, t_Mo, rfl, t_Mo_ok, n_Mo, rfl, rfl⟩
theorem ft_Mo_6 : zFt 3 6 (.int) false := ⟨R_Mo, F_Mo, 24, t_Mo, rfl, t_Mo_ok, n_Mo, rfl, rfl⟩
theorem ft_Mo_7 : zFt 3 7 (.int) false := ⟨R_Mo, F_Mo, 24, t_Mo, rfl, t_Mo_ok, n_Mo, rfl, rfl⟩
theorem ft_Mo_8 : zFt 3 8 (.int) false := ⟨R_Mo, F_Mo, 24, t_Mo, rfl, t_Mo_ok, n_Mo, rfl, rfl⟩
theorem ft_Mo_9 : zFt 3 9 (.int) false := ⟨R_Mo, F_Mo, 24, t_Mo, rfl, t_Mo_ok, n_Mo, rfl, rfl⟩
theorem ft_Mo_10 : zFt 3 10 (.array .byte) true := ⟨R_Mo, F_Mo, 24, t_Mo, rfl, t_Mo_ok, n_Mo, rfl, rfl⟩
theorem ft_Mo_11 : zFt 3 11 (.array .int) true := ⟨R_Mo, F_Mo, 24, t_Mo, rfl, t_Mo_ok, n_Mo, rfl, rfl⟩
theorem ft_Mo_12 : zFt 3 12 (.array .int) true := ⟨R_Mo, F_Mo, 24, t_Mo, rfl, t_Mo_ok, n_Mo, rfl, rfl⟩
theorem ft_Mo_13 : zFt 3 13 (.array .int) true := ⟨R_Mo, F_Mo, 24, t_Mo, rfl, t_Mo_ok, n_Mo, rfl, rfl⟩
theorem ft_Mo_14 : zFt 3 14 (.array .int) true := ⟨R_Mo, F_Mo, 24, t_Mo, rfl, t_Mo_ok, n_Mo, rfl, rfl⟩
theorem ft_Mo_15 : zFt 3 15 (.int) false := ⟨R_Mo, F_Mo, 24, t_Mo, rfl, t_Mo_ok, n_Mo, rfl, rfl⟩
theorem ft_Mo_16 : zFt 3 16 (.int) false := ⟨R_Mo, F_Mo, 24, t_Mo, rfl, t_Mo_ok, n_Mo, rfl, rfl⟩
theorem ft_Mo_17 : zFt 3 17 (.int) false := ⟨R_Mo, F_Mo, 24, t_Mo, rfl, t_Mo_ok, n_Mo, rfl, rfl⟩
theorem ft_Mo_18 : zFt 3 18 (.int) false := ⟨R_Mo, F_Mo, 24, t_Mo, rfl, t_Mo_ok, n_Mo, rfl, rfl⟩
theorem ft_Mo_19 : zFt 3 19 (.array .byte) true := ⟨R_Mo, F_Mo, 24, t_Mo, rfl, t_Mo_ok, n_Mo, rfl, rfl⟩
theorem ft_Mo_20 : zFt 3 20 (.array .byte) true := ⟨R_Mo, F_Mo, 24, t_Mo, rfl, t_Mo_ok, n_Mo, rfl, rfl⟩
theorem ft_Mo_21 : zFt 3 21 (.array .byte) true := ⟨R_Mo, F_Mo, 24, t_Mo, rfl, t_Mo_ok, n_Mo, rfl, rfl⟩
theorem ft_Mo_22 : zFt 3 22 (.int) false := ⟨R_Mo, F_Mo, 24, t_Mo, rfl, t_Mo_ok, n_Mo, rfl, rfl⟩
theorem ft_Mo_23 : zFt 3 23 (.int) false := ⟨R_Mo, F_Mo, 24, t_Mo, rfl, t_Mo_ok, n_Mo, rfl, rfl⟩
theorem fd_Me_26 : zFd "RvMachine$Memory" 26 1 0 := ⟨R_Me, F_Me, 10, rfl, by decide, ly_Me, rfl, Or.inl (zt_1 28 rfl rfl)⟩
theorem fl_Me_26 : Cond.fieldLink R_Me 26 R_Me (F_Me 0).2.1 (F_Me 0).2.2.1 ∈ zW := zt_1 28 rfl rfl
theorem fd_Rv_97 : zFd "RvMachine" 97 1 0 := ⟨R_Me, F_Me, 10, rfl, by decide, ly_Me, rfl, Or.inr ⟨"RvMachine", zt_1 29 rfl rfl⟩⟩
theorem fd_Me_30 : zFd "RvMachine$Memory" 30 1 1 := ⟨R_Me, F_Me, 10, rfl, by decide, ly_Me, rfl, Or.inl (zt_1 30 rfl rfl)⟩
theorem fl_Me_30 : Cond.fieldLink R_Me 30 R_Me (F_Me 1).2.1 (F_Me 1).2.2.1 ∈ zW := zt_1 30 rfl rfl
theorem fd_Rv_100 : zFd "RvMachine" 100 1 1 := ⟨R_Me, F_Me, 10, rfl, by decide, ly_Me, rfl, Or.inr ⟨"RvMachine", zt_1 31 rfl rfl⟩⟩
theorem fd_Me_33 : zFd "RvMachine$Memory" 33 1 2 := ⟨R_Me, F_Me, 10, rfl, by decide, ly_Me, rfl, Or.inl (zt_1 32 rfl rfl)⟩
theorem fl_Me_33 : Cond.fieldLink R_Me 33 R_Me (F_Me 2).2.1 (F_Me 2).2.2.1 ∈ zW := zt_1 32 rfl rfl
theorem fd_Rv_103 : zFd "RvMachine" 103 1 2 := ⟨R_Me, F_Me, 10, rfl, by decide, ly_Me, rfl, Or.inr ⟨"RvMachine", zt_1 33 rfl rfl⟩⟩
theorem fd_Me_36 : zFd "RvMachine$Memory" 36 1 3 := ⟨R_Me, F_Me, 10, rfl, by decide, ly_Me, rfl, Or.inl (zt_1 34 rfl rfl)⟩
theorem fl_Me_36 : Cond.fieldLink R_Me 36 R_Me (F_Me 3).2.1 (F_Me 3).2.2.1 ∈ zW := zt_1 34 rfl rfl
theorem fd_Me_9 : zFd "RvMachine$Memory" 9 1 4 := ⟨R_Me, F_Me, 10, rfl, by decide, ly_Me, rfl, Or.inl (zt_1 35 rfl rfl)⟩
theorem fl_Me_9 : Cond.fieldLink R_Me 9 R_Me (F_Me 4).2.1 (F_Me 4).2.2.1 ∈ zW := zt_1 35 rfl rfl
theorem fd_Me_13 : zFd "RvMachine$Memory" 13 1 5 := ⟨R_Me, F_Me, 10, rfl, by decide, ly_Me, rfl, Or.inl (zt_1 36 rfl rfl)⟩
theorem fl_Me_13 : Cond.fieldLink R_Me 13 R_Me (F_Me 5).2.1 (F_Me 5).2.2.1 ∈ zW := zt_1 36 rfl rfl
theorem fd_Me_16 : zFd "RvMachine$Memory" 16 1 6 := ⟨R_Me, F_Me, 10, rfl, by decide, ly_Me, rfl, Or.inl (zt_1 37 rfl rfl)⟩
theorem fl_Me_16 : Cond.fieldLink R_Me 16 R_Me (F_Me 6).2.1 (F_Me 6).2.2.1 ∈ zW := zt_1 37 rfl rfl
theorem fd_Me_19 : zFd "RvMachine$Memory" 19 1 7 := ⟨R_Me, F_Me, 10, rfl, by decide, ly_Me, rfl, Or.inl (zt_1 38 rfl rfl)⟩
theorem fl_Me_19 : Cond.fieldLink R_Me 19 R_Me (F_Me 7).2.1 (F_Me 7).2.2.1 ∈ zW := zt_1 38 rfl rfl
theorem fd_Me_39 : zFd "RvMachine$Memory" 39 1 8 := ⟨R_Me, F_Me, 10, rfl, by decide, ly_Me, rfl, Or.inl (zt_1 39 rfl rfl)⟩
theorem fl_Me_39 : Cond.fieldLink R_Me 39 R_Me (F_Me 8).2.1 (F_Me 8).2.2.1 ∈ zW := zt_1 39 rfl rfl
theorem fd_Me_23 : zFd "RvMachine$Memory" 23 1 9 := ⟨R_Me, F_Me, 10, rfl, by decide, ly_Me, rfl, Or.inl (zt_1 40 rfl rfl)⟩
theorem fl_Me_23 : Cond.fieldLink R_Me 23 R_Me (F_Me 9).2.1 (F_Me 9).2.2.1 ∈ zW := zt_1 40 rfl rfl
theorem fd_By_7 : zFd "RvMachine$Bytes" 7 2 0 := ⟨R_By, F_By, 3, rfl, by decide, ly_By, rfl, Or.inl (zt_1 70 rfl rfl)⟩
theorem fl_By_7 : Cond.fieldLink R_By 7 R_By (F_By 0).2.1 (F_By 0).2.2.1 ∈ zW := zt_1 70 rfl rfl
theorem fd_By_13 : zFd "RvMachine$Bytes" 13 2 1 := ⟨R_By, F_By, 3, rfl, by decide, ly_By, rfl, Or.inl (zt_1 71 rfl rfl)⟩
theorem fl_By_13 : Cond.fieldLink R_By 13 R_By (F_By 1).2.1 (F_By 1).2.2.1 ∈ zW := zt_1 71 rfl rfl
theorem fd_By_17 : zFd "RvMachine$Bytes" 17 2 2 := ⟨R_By, F_By, 3, rfl, by decide, ly_By, rfl, Or.inl (zt_1 72 rfl rfl)⟩
theorem fl_By_17 : Cond.fieldLink R_By 17 R_By (F_By 2).2.1 (F_By 2).2.2.1 ∈ zW := zt_1 72 rfl rfl
theorem fd_Rv_82 : zFd "RvMachine" 82 2 2 := ⟨R_By, F_By, 3, rfl, by decide, ly_By, rfl, Or.inr ⟨"RvMachine", zt_1 73 rfl rfl⟩⟩
theorem fd_Rv_7 : zFd "RvMachine" 7 0 0 := ⟨R_Rv, F_Rv, 10, rfl, by decide, ly_Rv, rfl, Or.inl (zt_1 81 rfl rfl)⟩
theorem fl_Rv_7 : Cond.fieldLink R_Rv 7 R_Rv (F_Rv 0).2.1 (F_Rv 0).2.2.1 ∈ zW := zt_1 81 rfl rfl
theorem fd_Rv_39 : zFd "RvMachine" 39 0 1 := ⟨R_Rv, F_Rv, 10, rfl, by decide, ly_Rv, rfl, Or.inl (zt_1 82 rfl rfl)⟩
theorem fl_Rv_39 : Cond.fieldLink R_Rv 39 R_Rv (F_Rv 1).2.1 (F_Rv 1).2.2.1 ∈ zW := zt_1 82 rfl rfl
theorem fd_Rv_13 : zFd "RvMachine" 13 0 2 := ⟨R_Rv, F_Rv, 10, rfl, by decide, ly_Rv, rfl, Or.inl (zt_1 83 rfl rfl)⟩
theorem fl_Rv_13 : Cond.fieldLink R_Rv 13 R_Rv (F_Rv 2).2.1 (F_Rv 2).2.2.1 ∈ zW := zt_1 83 rfl rfl
theorem fd_Rv_19 : zFd "RvMachine" 19 0 3 := ⟨R_Rv, F_Rv, 10, rfl, by decide, ly_Rv, rfl, Or.inl (zt_1 84 rfl rfl)⟩
theorem fl_Rv_19 : Cond.fieldLink R_Rv 19 R_Rv (F_Rv 3).2.1 (F_Rv 3).2.2.1 ∈ zW := zt_1 84 rfl rfl
theorem fd_Rv_28 : zFd "RvMachine" 28 0 4 := ⟨R_Rv, F_Rv, 10, rfl, by decide, ly_Rv, rfl, Or.inl (zt_1 85 rfl rfl)⟩
theorem fl_Rv_28 : Cond.fieldLink R_Rv 28 R_Rv (F_Rv 4).2.1 (F_Rv 4).2.2.1 ∈ zW := zt_1 85 rfl rfl
theorem fd_Rv_32 : zFd "RvMachine" 32 0 5 := ⟨R_Rv, F_Rv, 10, rfl, by decide, ly_Rv, rfl, Or.inl (zt_1 86 rfl rfl)⟩
theorem fl_Rv_32 : Cond.fieldLink R_Rv 32 R_Rv (F_Rv 5).2.1 (F_Rv 5).2.2.1 ∈ zW := zt_1 86 rfl rfl
theorem fd_Rv_35 : zFd "RvMachine" 35 0 6 := ⟨R_Rv, F_Rv, 10, rfl, by decide, ly_Rv, rfl, Or.inl (zt_1 87 rfl rfl)⟩
theorem fl_Rv_35 : Cond.fieldLink R_Rv 35 R_Rv (F_Rv 6).2.1 (F_Rv 6).2.2.1 ∈ zW := zt_1 87 rfl rfl
theorem fd_Rv_62 : zFd "RvMachine" 62 0 7 := ⟨R_Rv, F_Rv, 10, rfl, by decide, ly_Rv, rfl, Or.inl (zt_1 88 rfl rfl)⟩
theorem fl_Rv_62 : Cond.fieldLink R_Rv 62 R_Rv (F_Rv 7).2.1 (F_Rv 7).2.2.1 ∈ zW := zt_1 88 rfl rfl
theorem fd_Rv_65 : zFd "RvMachine" 65 0 8 := ⟨R_Rv, F_Rv, 10, rfl, by decide, ly_Rv, rfl, Or.inl (zt_1 89 rfl rfl)⟩
theorem fl_Rv_65 : Cond.fieldLink R_Rv 65 R_Rv (F_Rv 8).2.1 (F_Rv 8).2.2.1 ∈ zW := zt_1 89 rfl rfl
theorem fd_Rv_113 : zFd "RvMachine" 113 0 9 := ⟨R_Rv, F_Rv, 10, rfl, by decide, ly_Rv, rfl, Or.inl (zt_1 90 rfl rfl)⟩
theorem fl_Rv_113 : Cond.fieldLink R_Rv 113 R_Rv (F_Rv 9).2.1 (F_Rv 9).2.2.1 ∈ zW := zt_1 90 rfl rfl
theorem fd_Mo_7 : zFd "RvMachineModel" 7 3 0 := ⟨R_Mo, F_Mo, 24, rfl, by decide, ly_Mo, rfl, Or.inl (zt_3 29 rfl rfl)⟩
theorem fl_Mo_7 : Cond.fieldLink R_Mo 7 R_Mo (F_Mo 0).2.1 (F_Mo 0).2.2.1 ∈ zW := zt_3 29 rfl rfl
theorem fd_Mo_13 : zFd "RvMachineModel" 13 3 1 := ⟨R_Mo, F_Mo, 24, rfl, by decide, ly_Mo, rfl, Or.inl (zt_3 30 rfl rfl)⟩
theorem fl_Mo_13 : Cond.fieldLink R_Mo 13 R_Mo (F_Mo 1).2.1 (F_Mo 1).2.2.1 ∈ zW := zt_3 30 rfl rfl
theorem fd_Mo_58 : zFd "RvMachineModel" 58 3 2 := ⟨R_Mo, F_Mo, 24, rfl, by decide, ly_Mo, rfl, Or.inl (zt_3 31 rfl rfl)⟩
theorem fl_Mo_58 : Cond.fieldLink R_Mo 58 R_Mo (F_Mo 2).2.1 (F_Mo 2).2.2.1 ∈ zW := zt_3 31 rfl rfl
theorem fd_Mo_16 : zFd "RvMachineModel" 16 3 3 := ⟨R_Mo, F_Mo, 24, rfl, by decide, ly_Mo, rfl, Or.inl (zt_3 32 rfl rfl)⟩
theorem fl_Mo_16 : Cond.fieldLink R_Mo 16 R_Mo (F_Mo 3).2.1 (F_Mo 3).2.2.1 ∈ zW := zt_3 32 rfl rfl
theorem fd_Mo_107 : zFd "RvMachineModel" 107 3 4 := ⟨R_Mo, F_Mo, 24, rfl, by decide, ly_Mo, rfl, Or.inl (zt_3 33 rfl rfl)⟩
theorem fl_Mo_107 : Cond.fieldLink R_Mo 107 R_Mo (F_Mo 4).2.1 (F_Mo 4).2.2.1 ∈ zW := zt_3 33 rfl rfl
theorem fd_Mo_19 : zFd "RvMachineModel" 19 3 5 := ⟨R_Mo, F_Mo, 24, rfl, by decide, ly_Mo, rfl, Or.inl (zt_3 34 rfl rfl)⟩
theorem fl_Mo_19 : Cond.fieldLink R_Mo 19 R_Mo (F_Mo 5).2.1 (F_Mo 5).2.2.1 ∈ zW := zt_3 34 rfl rfl
theorem fd_Mo_104 : zFd "RvMachineModel" 104 3 6 := ⟨R_Mo, F_Mo, 24, rfl, by decide, ly_Mo, rfl, Or.inl (zt_3 35 rfl rfl)⟩
theorem fl_Mo_104 : Cond.fieldLink R_Mo 104 R_Mo (F_Mo 6).2.1 (F_Mo 6).2.2.1 ∈ zW := zt_3 35 rfl rfl
theorem fd_Mo_97 : zFd "RvMachineModel" 97 3 7 := ⟨R_Mo, F_Mo, 24, rfl, by decide, ly_Mo, rfl, Or.inl (zt_3 36 rfl rfl)⟩
theorem fl_Mo_97 : Cond.fieldLink R_Mo 97 R_Mo (F_Mo 7).2.1 (F_Mo 7).2.2.1 ∈ zW := zt_3 36 rfl rfl
theorem fd_Mo_177 : zFd "RvMachineModel" 177 3 8 := ⟨R_Mo, F_Mo, 24, rfl, by decide, ly_Mo, rfl, Or.inl (zt_3 37 rfl rfl)⟩
theorem fl_Mo_177 : Cond.fieldLink R_Mo 177 R_Mo (F_Mo 8).2.1 (F_Mo 8).2.2.1 ∈ zW := zt_3 37 rfl rfl
theorem fd_Mo_62 : zFd "RvMachineModel" 62 3 9 := ⟨R_Mo, F_Mo, 24, rfl, by decide, ly_Mo, rfl, Or.inl (zt_3 38 rfl rfl)⟩
theorem fl_Mo_62 : Cond.fieldLink R_Mo 62 R_Mo (F_Mo 9).2.1 (F_Mo 9).2.2.1 ∈ zW := zt_3 38 rfl rfl
theorem fd_Mo_23 : zFd "RvMachineModel" 23 3 10 := ⟨R_Mo, F_Mo, 24, rfl, by decide, ly_Mo, rfl, Or.inl (zt_3 39 rfl rfl)⟩
theorem fl_Mo_23 : Cond.fieldLink R_Mo 23 R_Mo (F_Mo 10).2.1 (F_Mo 10).2.2.1 ∈ zW := zt_3 39 rfl rfl
theorem fd_Mo_27 : zFd "RvMachineModel" 27 3 11 := ⟨R_Mo, F_Mo, 24, rfl, by decide, ly_Mo, rfl, Or.inl (zt_3 40 rfl rfl)⟩
theorem fl_Mo_27 : Cond.fieldLink R_Mo 27 R_Mo (F_Mo 11).2.1 (F_Mo 11).2.2.1 ∈ zW := zt_3 40 rfl rfl
theorem fd_Mo_30 : zFd "RvMachineModel" 30 3 12 := ⟨R_Mo, F_Mo, 24, rfl, by decide, ly_Mo, rfl, Or.inl (zt_3 41 rfl rfl)⟩
theorem fl_Mo_30 : Cond.fieldLink R_Mo 30 R_Mo (F_Mo 12).2.1 (F_Mo 12).2.2.1 ∈ zW := zt_3 41 rfl rfl
theorem fd_Mo_33 : zFd "RvMachineModel" 33 3 13 := ⟨R_Mo, F_Mo, 24, rfl, by decide, ly_Mo, rfl, Or.inl (zt_3 42 rfl rfl)⟩
theorem fl_Mo_33 : Cond.fieldLink R_Mo 33 R_Mo (F_Mo 13).2.1 (F_Mo 13).2.2.1 ∈ zW := zt_3 42 rfl rfl
theorem fd_Mo_36 : zFd "RvMachineModel" 36 3 14 := ⟨R_Mo, F_Mo, 24, rfl, by decide, ly_Mo, rfl, Or.inl (zt_3 43 rfl rfl)⟩
theorem fl_Mo_36 : Cond.fieldLink R_Mo 36 R_Mo (F_Mo 14).2.1 (F_Mo 14).2.2.1 ∈ zW := zt_3 43 rfl rfl
theorem fd_Mo_74 : zFd "RvMachineModel" 74 3 15 := ⟨R_Mo, F_Mo, 24, rfl, by decide, ly_Mo, rfl, Or.inl (zt_3 44 rfl rfl)⟩
theorem fl_Mo_74 : Cond.fieldLink R_Mo 74 R_Mo (F_Mo 15).2.1 (F_Mo 15).2.2.1 ∈ zW := zt_3 44 rfl rfl
theorem fd_Mo_165 : zFd "RvMachineModel" 165 3 16 := ⟨R_Mo, F_Mo, 24, rfl, by decide, ly_Mo, rfl, Or.inl (zt_3 45 rfl rfl)⟩
theorem fl_Mo_165 : Cond.fieldLink R_Mo 165 R_Mo (F_Mo 16).2.1 (F_Mo 16).2.2.1 ∈ zW := zt_3 45 rfl rfl
theorem fd_Mo_85 : zFd "RvMachineModel" 85 3 17 := ⟨R_Mo, F_Mo, 24, rfl, by decide, ly_Mo, rfl, Or.inl (zt_3 46 rfl rfl)⟩
theorem fl_Mo_85 : Cond.fieldLink R_Mo 85 R_Mo (F_Mo 17).2.1 (F_Mo 17).2.2.1 ∈ zW := zt_3 46 rfl rfl
theorem fd_Mo_77 : zFd "RvMachineModel" 77 3 18 := ⟨R_Mo, F_Mo, 24, rfl, by decide, ly_Mo, rfl, Or.inl (zt_3 47 rfl rfl)⟩
theorem fl_Mo_77 : Cond.fieldLink R_Mo 77 R_Mo (F_Mo 18).2.1 (F_Mo 18).2.2.1 ∈ zW := zt_3 47 rfl rfl
theorem fd_Mo_39 : zFd "RvMachineModel" 39 3 19 := ⟨R_Mo, F_Mo, 24, rfl, by decide, ly_Mo, rfl, Or.inl (zt_3 48 rfl rfl)⟩
theorem fl_Mo_39 : Cond.fieldLink R_Mo 39 R_Mo (F_Mo 19).2.1 (F_Mo 19).2.2.1 ∈ zW := zt_3 48 rfl rfl
theorem fd_Mo_42 : zFd "RvMachineModel" 42 3 20 := ⟨R_Mo, F_Mo, 24, rfl, by decide, ly_Mo, rfl, Or.inl (zt_3 49 rfl rfl)⟩
theorem fl_Mo_42 : Cond.fieldLink R_Mo 42 R_Mo (F_Mo 20).2.1 (F_Mo 20).2.2.1 ∈ zW := zt_3 49 rfl rfl
theorem fd_Mo_45 : zFd "RvMachineModel" 45 3 21 := ⟨R_Mo, F_Mo, 24, rfl, by decide, ly_Mo, rfl, Or.inl (zt_3 50 rfl rfl)⟩
theorem fl_Mo_45 : Cond.fieldLink R_Mo 45 R_Mo (F_Mo 21).2.1 (F_Mo 21).2.2.1 ∈ zW := zt_3 50 rfl rfl
theorem fd_Mo_174 : zFd "RvMachineModel" 174 3 22 := ⟨R_Mo, F_Mo, 24, rfl, by decide, ly_Mo, rfl, Or.inl (zt_3 51 rfl rfl)⟩
theorem fl_Mo_174 : Cond.fieldLink R_Mo 174 R_Mo (F_Mo 22).2.1 (F_Mo 22).2.2.1 ∈ zW := zt_3 51 rfl rfl
theorem fd_Mo_171 : zFd "RvMachineModel" 171 3 23 := ⟨R_Mo, F_Mo, 24, rfl, by decide, ly_Mo, rfl, Or.inl (zt_3 52 rfl rfl)⟩
theorem fl_Mo_171 : Cond.fieldLink R_Mo 171 R_Mo (F_Mo 23).2.1 (F_Mo 23).2.2.1 ∈ zW := zt_3 52 rfl rfl
end
section
/-! small rows on ints and longs -/
theorem z_nz1 {y : Int32} (h : ¬ y = 0) : ¬ y.toInt64 = 0 := by
  intro q
  have q1 := congrArg Int64.toInt q
  rw [Int32.toInt_toInt64] at q1
  exact h (Int32.toInt_inj.mp (q1.trans (by decide)))
theorem z_m32 : ∀ i, i < 32 → ((4294967295 : Int64).toBitVec).getLsbD i = true := by decide
theorem z_lo32 (y : Int32) : (y.toInt64 &&& 4294967295).toBitVec.setWidth 32 = y.toBitVec := by
  apply BitVec.eq_of_getLsbD_eq
  intro i hi
  have h1 := z_m32 i hi
  have h2 : i < 64 := by omega
  simp only [Int64.toBitVec_and, Int32.toBitVec_toInt64, BitVec.getLsbD_setWidth, BitVec.getLsbD_and, BitVec.getLsbD_signExtend, h1, hi, h2, decide_true, Bool.true_and, Bool.and_true, if_true]
theorem z_nz2 {y : Int32} (h : ¬ y = 0) : ¬ (y.toInt64 &&& 4294967295) = 0 := by
  intro q
  have q1 := z_lo32 y
  rw [q] at q1
  exact h (Int32.toBitVec_inj.mp (q1.symm.trans (by decide)))
theorem z_lt {x y : Int32} (h : x < y) : x.toInt < y.toInt := Int32.lt_iff_toInt_lt.mp h
theorem z_le {x y : Int32} (h : x ≤ y) : x.toInt ≤ y.toInt := Int32.le_iff_toInt_le.mp h
theorem z_nlt {x y : Int32} (h : ¬ x < y) : y.toInt ≤ x.toInt := Int.not_lt.mp (fun q => h (Int32.lt_iff_toInt_lt.mpr q))
theorem z_nle {x y : Int32} (h : ¬ x ≤ y) : y.toInt < x.toInt := Int.not_le.mp (fun q => h (Int32.le_iff_toInt_le.mpr q))
theorem z_eq {x y : Int32} (h : x = y) : x.toInt = y.toInt := congrArg Int32.toInt h
theorem z_neq {x y : Int32} (h : ¬ x = y) : x.toInt ≠ y.toInt := fun q => h (Int32.toInt_inj.mp q)
theorem z_in {x : Int32} {n : Nat} (h : 0 ≤ x.toInt ∧ x.toInt < n) : vp_in x n := vp_in_iff.mpr h
abbrev zT (cI cB cJ : ClassId) : List (ClassId × FieldType) := [(cI, .int), (cB, .byte), (cJ, .long)]
/-- an int by its bits -/
def zN (x : Int32) : Nat := x.toBitVec.toNat
theorem zN_lt (x : Int32) : zN x < 2 ^ 32 := x.toBitVec.isLt
theorem z_of (x : Int32) : x = nI (zN x) := Int32.toBitVec_inj.mp (by simp [nI, zN])
theorem z_ushr (x s : Int32) (k : Nat) (hs : ((s.toUInt32 &&& Int32.toUInt32 31).toBitVec % 32).toNat = k) : zushr x s = nI (zN x / 2 ^ k) := by
  have h := pk_ushrN (zN_lt x) s k hs
  rw [← z_of x] at h
  exact h
theorem z_u16 (x : Int32) : zushr x 16 = nI (zN x / 65536) := z_ushr x 16 16 (by decide)
theorem zus16 (x : Int32) : 0 ≤ (zushr x 16).toInt ∧ (zushr x 16).toInt < 65536 := by
  have h := zN_lt x
  rw [z_u16, nI_toInt (by omega)]
  omega
theorem z_add {x y : Int32} (h : -2147483648 ≤ x.toInt + y.toInt ∧ x.toInt + y.toInt < 2147483648) : (x + y).toInt = x.toInt + y.toInt := by
  rw [Int32.toInt_add]
  exact Int.bmod_eq_of_le (by omega) (by omega)
theorem z_sub {x y : Int32} (h : -2147483648 ≤ x.toInt - y.toInt ∧ x.toInt - y.toInt < 2147483648) : (x - y).toInt = x.toInt - y.toInt := by
  rw [Int32.toInt_sub]
  exact Int.bmod_eq_of_le (by omega) (by omega)
theorem zK_int {D : va_G} {s : State} {cI cB cJ cA : ClassId} (h : va_K D zC (zT cI cB cJ ++ [(cA, .int)]) s) : cI = cA := Option.some.inj (((h.2 0 (cI, .int) rfl).2).symm.trans (h.2 3 (cA, .int) rfl).2)
theorem zK_byte {D : va_G} {s : State} {cI cB cJ cA : ClassId} (h : va_K D zC (zT cI cB cJ ++ [(cA, .byte)]) s) : cB = cA := Option.some.inj (((h.2 1 (cB, .byte) rfl).2).symm.trans (h.2 3 (cA, .byte) rfl).2)
theorem zK_long {D : va_G} {s : State} {cI cB cJ cA : ClassId} (h : va_K D zC (zT cI cB cJ ++ [(cA, .long)]) s) : cJ = cA := Option.some.inj (((h.2 2 (cJ, .long) rfl).2).symm.trans (h.2 3 (cA, .long) rfl).2)
theorem z_nle' {a b : Nat} (hb : b < 2 ^ 31) (h : ¬ nI a ≤ nI b) : b < a := Nat.not_le.mp (fun q => h (nI_le q hb))
theorem z_le' {a b : Nat} (ha : a < 2 ^ 31) (h : nI a ≤ nI b) : ¬ b < a := fun q => nI_ge q ha h
theorem z_e0 {a : Nat} (ha : a < 2 ^ 31) (h : nI a = 0) : a = 0 := (nI_eq ha (by decide)).mp (h.trans nI_0.symm)
theorem z_n0 {a : Nat} (h : ¬ nI a = 0) : a ≠ 0 := fun q => h (by rw [q]; exact nI_0)
theorem z_st {p : Program} {l : Launch} {e : Env} {R : Room} {s : State} {m : MethodId} {args : Array Value} {below : List Frame} {meth : Method} {c : Code} {H : Heap} {locs : List Loc} {cells slots : Nat} {Q : State → Prop} {pc : Nat} {ls : Array Slot} {st st' : List Value} (e1 : st = st') (k : W p l e R s m args below meth c H locs cells slots Q (F0 m pc ls st')) : W p l e R s m args below meth c H locs cells slots Q (F0 m pc ls st) := e1 ▸ k
end
section
/-! decode rows -/
theorem d_Rv_middle_0 : decode b_Rv_middle 0 = .ok (.iload_n 0, 1) := by decide +kernel
theorem d_Rv_middle_1 : decode b_Rv_middle 1 = .ok (.bipush 12, 2) := by decide +kernel
theorem d_Rv_middle_3 : decode b_Rv_middle 3 = .ok (.iushr, 1) := by decide +kernel
theorem d_Rv_middle_4 : decode b_Rv_middle 4 = .ok (.bipush 7, 2) := by decide +kernel
theorem d_Rv_middle_6 : decode b_Rv_middle 6 = .ok (.iand, 1) := by decide +kernel
theorem d_Rv_middle_7 : decode b_Rv_middle 7 = .ok (.ireturn, 1) := by decide +kernel
theorem d_Rv_top_0 : decode b_Rv_top 0 = .ok (.iload_n 0, 1) := by decide +kernel
theorem d_Rv_top_1 : decode b_Rv_top 1 = .ok (.bipush 25, 2) := by decide +kernel
theorem d_Rv_top_3 : decode b_Rv_top 3 = .ok (.iushr, 1) := by decide +kernel
theorem d_Rv_top_4 : decode b_Rv_top 4 = .ok (.ireturn, 1) := by decide +kernel
theorem d_Rv_jumpOffset_0 : decode b_Rv_jumpOffset 0 = .ok (.iload_n 0, 1) := by decide +kernel
theorem d_Rv_jumpOffset_1 : decode b_Rv_jumpOffset 1 = .ok (.bipush 31, 2) := by decide +kernel
theorem d_Rv_jumpOffset_3 : decode b_Rv_jumpOffset 3 = .ok (.ishr, 1) := by decide +kernel
theorem d_Rv_jumpOffset_4 : decode b_Rv_jumpOffset 4 = .ok (.bipush 20, 2) := by decide +kernel
theorem d_Rv_jumpOffset_6 : decode b_Rv_jumpOffset 6 = .ok (.ishl, 1) := by decide +kernel
theorem d_Rv_jumpOffset_7 : decode b_Rv_jumpOffset 7 = .ok (.iload_n 0, 1) := by decide +kernel
theorem d_Rv_jumpOffset_8 : decode b_Rv_jumpOffset 8 = .ok (.ldc 154, 2) := by decide +kernel
theorem d_Rv_jumpOffset_10 : decode b_Rv_jumpOffset 10 = .ok (.iand, 1) := by decide +kernel
theorem d_Rv_jumpOffset_11 : decode b_Rv_jumpOffset 11 = .ok (.ior, 1) := by decide +kernel
theorem d_Rv_jumpOffset_12 : decode b_Rv_jumpOffset 12 = .ok (.iload_n 0, 1) := by decide +kernel
theorem d_Rv_jumpOffset_13 : decode b_Rv_jumpOffset 13 = .ok (.bipush 9, 2) := by decide +kernel
theorem d_Rv_jumpOffset_15 : decode b_Rv_jumpOffset 15 = .ok (.ishr, 1) := by decide +kernel
theorem d_Rv_jumpOffset_16 : decode b_Rv_jumpOffset 16 = .ok (.sipush 2048, 3) := by decide +kernel
theorem d_Rv_jumpOffset_19 : decode b_Rv_jumpOffset 19 = .ok (.iand, 1) := by decide +kernel
theorem d_Rv_jumpOffset_20 : decode b_Rv_jumpOffset 20 = .ok (.ior, 1) := by decide +kernel
theorem d_Rv_jumpOffset_21 : decode b_Rv_jumpOffset 21 = .ok (.iload_n 0, 1) := by decide +kernel
theorem d_Rv_jumpOffset_22 : decode b_Rv_jumpOffset 22 = .ok (.bipush 20, 2) := by decide +kernel
theorem d_Rv_jumpOffset_24 : decode b_Rv_jumpOffset 24 = .ok (.ishr, 1) := by decide +kernel
theorem d_Rv_jumpOffset_25 : decode b_Rv_jumpOffset 25 = .ok (.sipush 2046, 3) := by decide +kernel
theorem d_Rv_jumpOffset_28 : decode b_Rv_jumpOffset 28 = .ok (.iand, 1) := by decide +kernel
theorem d_Rv_jumpOffset_29 : decode b_Rv_jumpOffset 29 = .ok (.ior, 1) := by decide +kernel
theorem d_Rv_jumpOffset_30 : decode b_Rv_jumpOffset 30 = .ok (.ireturn, 1) := by decide +kernel
theorem d_Rv_branchOffset_0 : decode b_Rv_branchOffset 0 = .ok (.iload_n 0, 1) := by decide +kernel
theorem d_Rv_branchOffset_1 : decode b_Rv_branchOffset 1 = .ok (.bipush 31, 2) := by decide +kernel
theorem d_Rv_branchOffset_3 : decode b_Rv_branchOffset 3 = .ok (.ishr, 1) := by decide +kernel
theorem d_Rv_branchOffset_4 : decode b_Rv_branchOffset 4 = .ok (.bipush 12, 2) := by decide +kernel
theorem d_Rv_branchOffset_6 : decode b_Rv_branchOffset 6 = .ok (.ishl, 1) := by decide +kernel
theorem d_Rv_branchOffset_7 : decode b_Rv_branchOffset 7 = .ok (.iload_n 0, 1) := by decide +kernel
theorem d_Rv_branchOffset_8 : decode b_Rv_branchOffset 8 = .ok (.iconst 4, 1) := by decide +kernel
theorem d_Rv_branchOffset_9 : decode b_Rv_branchOffset 9 = .ok (.ishl, 1) := by decide +kernel
theorem d_Rv_branchOffset_10 : decode b_Rv_branchOffset 10 = .ok (.sipush 2048, 3) := by decide +kernel
theorem d_Rv_branchOffset_13 : decode b_Rv_branchOffset 13 = .ok (.iand, 1) := by decide +kernel
theorem d_Rv_branchOffset_14 : decode b_Rv_branchOffset 14 = .ok (.ior, 1) := by decide +kernel
theorem d_Rv_branchOffset_15 : decode b_Rv_branchOffset 15 = .ok (.iload_n 0, 1) := by decide +kernel
theorem d_Rv_branchOffset_16 : decode b_Rv_branchOffset 16 = .ok (.bipush 20, 2) := by decide +kernel
theorem d_Rv_branchOffset_18 : decode b_Rv_branchOffset 18 = .ok (.ishr, 1) := by decide +kernel
theorem d_Rv_branchOffset_19 : decode b_Rv_branchOffset 19 = .ok (.sipush 2016, 3) := by decide +kernel
theorem d_Rv_branchOffset_22 : decode b_Rv_branchOffset 22 = .ok (.iand, 1) := by decide +kernel
theorem d_Rv_branchOffset_23 : decode b_Rv_branchOffset 23 = .ok (.ior, 1) := by decide +kernel
theorem d_Rv_branchOffset_24 : decode b_Rv_branchOffset 24 = .ok (.iload_n 0, 1) := by decide +kernel
theorem d_Rv_branchOffset_25 : decode b_Rv_branchOffset 25 = .ok (.bipush 7, 2) := by decide +kernel
theorem d_Rv_branchOffset_27 : decode b_Rv_branchOffset 27 = .ok (.ishr, 1) := by decide +kernel
theorem d_Rv_branchOffset_28 : decode b_Rv_branchOffset 28 = .ok (.bipush 30, 2) := by decide +kernel
theorem d_Rv_branchOffset_30 : decode b_Rv_branchOffset 30 = .ok (.iand, 1) := by decide +kernel
theorem d_Rv_branchOffset_31 : decode b_Rv_branchOffset 31 = .ok (.ior, 1) := by decide +kernel
theorem d_Rv_branchOffset_32 : decode b_Rv_branchOffset 32 = .ok (.ireturn, 1) := by decide +kernel
theorem d_Rv_storeOffset_0 : decode b_Rv_storeOffset 0 = .ok (.iload_n 0, 1) := by decide +kernel
theorem d_Rv_storeOffset_1 : decode b_Rv_storeOffset 1 = .ok (.bipush 25, 2) := by decide +kernel
theorem d_Rv_storeOffset_3 : decode b_Rv_storeOffset 3 = .ok (.ishr, 1) := by decide +kernel
theorem d_Rv_storeOffset_4 : decode b_Rv_storeOffset 4 = .ok (.iconst 5, 1) := by decide +kernel
theorem d_Rv_storeOffset_5 : decode b_Rv_storeOffset 5 = .ok (.ishl, 1) := by decide +kernel
theorem d_Rv_storeOffset_6 : decode b_Rv_storeOffset 6 = .ok (.iload_n 0, 1) := by decide +kernel
theorem d_Rv_storeOffset_7 : decode b_Rv_storeOffset 7 = .ok (.bipush 7, 2) := by decide +kernel
theorem d_Rv_storeOffset_9 : decode b_Rv_storeOffset 9 = .ok (.ishr, 1) := by decide +kernel
theorem d_Rv_storeOffset_10 : decode b_Rv_storeOffset 10 = .ok (.bipush 31, 2) := by decide +kernel
theorem d_Rv_storeOffset_12 : decode b_Rv_storeOffset 12 = .ok (.iand, 1) := by decide +kernel
theorem d_Rv_storeOffset_13 : decode b_Rv_storeOffset 13 = .ok (.ior, 1) := by decide +kernel
theorem d_Rv_storeOffset_14 : decode b_Rv_storeOffset 14 = .ok (.ireturn, 1) := by decide +kernel
theorem d_Rv_unsigned_0 : decode b_Rv_unsigned 0 = .ok (.iload_n 0, 1) := by decide +kernel
theorem d_Rv_unsigned_1 : decode b_Rv_unsigned 1 = .ok (.i2l, 1) := by decide +kernel
theorem d_Rv_unsigned_2 : decode b_Rv_unsigned 2 = .ok (.ldc2_w 197, 3) := by decide +kernel
theorem d_Rv_unsigned_5 : decode b_Rv_unsigned 5 = .ok (.land, 1) := by decide +kernel
theorem d_Rv_unsigned_6 : decode b_Rv_unsigned 6 = .ok (.lreturn, 1) := by decide +kernel
theorem d_Rv_isBelow_0 : decode b_Rv_isBelow 0 = .ok (.iload_n 0, 1) := by decide +kernel
theorem d_Rv_isBelow_1 : decode b_Rv_isBelow 1 = .ok (.invokestatic 193, 3) := by decide +kernel
theorem d_Rv_isBelow_4 : decode b_Rv_isBelow 4 = .ok (.iload_n 1, 1) := by decide +kernel
theorem d_Rv_isBelow_5 : decode b_Rv_isBelow 5 = .ok (.invokestatic 193, 3) := by decide +kernel
theorem d_Rv_isBelow_8 : decode b_Rv_isBelow 8 = .ok (.lcmp, 1) := by decide +kernel
theorem d_Rv_isBelow_9 : decode b_Rv_isBelow 9 = .ok (.ifCond .ge 7, 3) := by decide +kernel
theorem d_Rv_isBelow_12 : decode b_Rv_isBelow 12 = .ok (.iconst 1, 1) := by decide +kernel
theorem d_Rv_isBelow_13 : decode b_Rv_isBelow 13 = .ok (.goto 4, 3) := by decide +kernel
theorem d_Rv_isBelow_16 : decode b_Rv_isBelow 16 = .ok (.iconst 0, 1) := by decide +kernel
theorem d_Rv_isBelow_17 : decode b_Rv_isBelow 17 = .ok (.ireturn, 1) := by decide +kernel
theorem d_Rv_plainResult_0 : decode b_Rv_plainResult 0 = .ok (.iload_n 0, 1) := by decide +kernel
theorem d_Rv_plainResult_1 : decode b_Rv_plainResult 1 = .ok (.tableswitch 94 0 6 #[43, 47, 54, 65, 79, 83, 90], 43) := by decide +kernel
theorem d_Rv_plainResult_44 : decode b_Rv_plainResult 44 = .ok (.iload_n 1, 1) := by decide +kernel
theorem d_Rv_plainResult_45 : decode b_Rv_plainResult 45 = .ok (.iload_n 2, 1) := by decide +kernel
theorem d_Rv_plainResult_46 : decode b_Rv_plainResult 46 = .ok (.iadd, 1) := by decide +kernel
theorem d_Rv_plainResult_47 : decode b_Rv_plainResult 47 = .ok (.ireturn, 1) := by decide +kernel
theorem d_Rv_plainResult_48 : decode b_Rv_plainResult 48 = .ok (.iload_n 1, 1) := by decide +kernel
theorem d_Rv_plainResult_49 : decode b_Rv_plainResult 49 = .ok (.iload_n 2, 1) := by decide +kernel
theorem d_Rv_plainResult_50 : decode b_Rv_plainResult 50 = .ok (.bipush 31, 2) := by decide +kernel
theorem d_Rv_plainResult_52 : decode b_Rv_plainResult 52 = .ok (.iand, 1) := by decide +kernel
theorem d_Rv_plainResult_53 : decode b_Rv_plainResult 53 = .ok (.ishl, 1) := by decide +kernel
theorem d_Rv_plainResult_54 : decode b_Rv_plainResult 54 = .ok (.ireturn, 1) := by decide +kernel
theorem d_Rv_plainResult_55 : decode b_Rv_plainResult 55 = .ok (.iload_n 1, 1) := by decide +kernel
theorem d_Rv_plainResult_56 : decode b_Rv_plainResult 56 = .ok (.iload_n 2, 1) := by decide +kernel
theorem d_Rv_plainResult_57 : decode b_Rv_plainResult 57 = .ok (.if_icmp .ge 7, 3) := by decide +kernel
theorem d_Rv_plainResult_60 : decode b_Rv_plainResult 60 = .ok (.iconst 1, 1) := by decide +kernel
theorem d_Rv_plainResult_61 : decode b_Rv_plainResult 61 = .ok (.goto 4, 3) := by decide +kernel
theorem d_Rv_plainResult_64 : decode b_Rv_plainResult 64 = .ok (.iconst 0, 1) := by decide +kernel
theorem d_Rv_plainResult_65 : decode b_Rv_plainResult 65 = .ok (.ireturn, 1) := by decide +kernel
theorem d_Rv_plainResult_66 : decode b_Rv_plainResult 66 = .ok (.iload_n 1, 1) := by decide +kernel
theorem d_Rv_plainResult_67 : decode b_Rv_plainResult 67 = .ok (.iload_n 2, 1) := by decide +kernel
theorem d_Rv_plainResult_68 : decode b_Rv_plainResult 68 = .ok (.invokestatic 164, 3) := by decide +kernel
theorem d_Rv_plainResult_71 : decode b_Rv_plainResult 71 = .ok (.ifCond .eq 7, 3) := by decide +kernel
theorem d_Rv_plainResult_74 : decode b_Rv_plainResult 74 = .ok (.iconst 1, 1) := by decide +kernel
theorem d_Rv_plainResult_75 : decode b_Rv_plainResult 75 = .ok (.goto 4, 3) := by decide +kernel
theorem d_Rv_plainResult_78 : decode b_Rv_plainResult 78 = .ok (.iconst 0, 1) := by decide +kernel
theorem d_Rv_plainResult_79 : decode b_Rv_plainResult 79 = .ok (.ireturn, 1) := by decide +kernel
theorem d_Rv_plainResult_80 : decode b_Rv_plainResult 80 = .ok (.iload_n 1, 1) := by decide +kernel
theorem d_Rv_plainResult_81 : decode b_Rv_plainResult 81 = .ok (.iload_n 2, 1) := by decide +kernel
theorem d_Rv_plainResult_82 : decode b_Rv_plainResult 82 = .ok (.ixor, 1) := by decide +kernel
theorem d_Rv_plainResult_83 : decode b_Rv_plainResult 83 = .ok (.ireturn, 1) := by decide +kernel
theorem d_Rv_plainResult_84 : decode b_Rv_plainResult 84 = .ok (.iload_n 1, 1) := by decide +kernel
theorem d_Rv_plainResult_85 : decode b_Rv_plainResult 85 = .ok (.iload_n 2, 1) := by decide +kernel
theorem d_Rv_plainResult_86 : decode b_Rv_plainResult 86 = .ok (.bipush 31, 2) := by decide +kernel
theorem d_Rv_plainResult_88 : decode b_Rv_plainResult 88 = .ok (.iand, 1) := by decide +kernel
theorem d_Rv_plainResult_89 : decode b_Rv_plainResult 89 = .ok (.iushr, 1) := by decide +kernel
theorem d_Rv_plainResult_90 : decode b_Rv_plainResult 90 = .ok (.ireturn, 1) := by decide +kernel
theorem d_Rv_plainResult_91 : decode b_Rv_plainResult 91 = .ok (.iload_n 1, 1) := by decide +kernel
theorem d_Rv_plainResult_92 : decode b_Rv_plainResult 92 = .ok (.iload_n 2, 1) := by decide +kernel
theorem d_Rv_plainResult_93 : decode b_Rv_plainResult 93 = .ok (.ior, 1) := by decide +kernel
theorem d_Rv_plainResult_94 : decode b_Rv_plainResult 94 = .ok (.ireturn, 1) := by decide +kernel
theorem d_Rv_plainResult_95 : decode b_Rv_plainResult 95 = .ok (.iload_n 1, 1) := by decide +kernel
theorem d_Rv_plainResult_96 : decode b_Rv_plainResult 96 = .ok (.iload_n 2, 1) := by decide +kernel
theorem d_Rv_plainResult_97 : decode b_Rv_plainResult 97 = .ok (.iand, 1) := by decide +kernel
theorem d_Rv_plainResult_98 : decode b_Rv_plainResult 98 = .ok (.ireturn, 1) := by decide +kernel
theorem d_Rv_product_0 : decode b_Rv_product 0 = .ok (.iload_n 0, 1) := by decide +kernel
theorem d_Rv_product_1 : decode b_Rv_product 1 = .ok (.tableswitch 53 0 2 #[27, 31, 41], 27) := by decide +kernel
theorem d_Rv_product_28 : decode b_Rv_product 28 = .ok (.iload_n 1, 1) := by decide +kernel
theorem d_Rv_product_29 : decode b_Rv_product 29 = .ok (.iload_n 2, 1) := by decide +kernel
theorem d_Rv_product_30 : decode b_Rv_product 30 = .ok (.imul, 1) := by decide +kernel
theorem d_Rv_product_31 : decode b_Rv_product 31 = .ok (.ireturn, 1) := by decide +kernel
theorem d_Rv_product_32 : decode b_Rv_product 32 = .ok (.iload_n 1, 1) := by decide +kernel
theorem d_Rv_product_33 : decode b_Rv_product 33 = .ok (.i2l, 1) := by decide +kernel
theorem d_Rv_product_34 : decode b_Rv_product 34 = .ok (.iload_n 2, 1) := by decide +kernel
theorem d_Rv_product_35 : decode b_Rv_product 35 = .ok (.i2l, 1) := by decide +kernel
theorem d_Rv_product_36 : decode b_Rv_product 36 = .ok (.lmul, 1) := by decide +kernel
theorem d_Rv_product_37 : decode b_Rv_product 37 = .ok (.bipush 32, 2) := by decide +kernel
theorem d_Rv_product_39 : decode b_Rv_product 39 = .ok (.lshr, 1) := by decide +kernel
theorem d_Rv_product_40 : decode b_Rv_product 40 = .ok (.l2i, 1) := by decide +kernel
theorem d_Rv_product_41 : decode b_Rv_product 41 = .ok (.ireturn, 1) := by decide +kernel
theorem d_Rv_product_42 : decode b_Rv_product 42 = .ok (.iload_n 1, 1) := by decide +kernel
theorem d_Rv_product_43 : decode b_Rv_product 43 = .ok (.i2l, 1) := by decide +kernel
theorem d_Rv_product_44 : decode b_Rv_product 44 = .ok (.iload_n 2, 1) := by decide +kernel
theorem d_Rv_product_45 : decode b_Rv_product 45 = .ok (.invokestatic 193, 3) := by decide +kernel
theorem d_Rv_product_48 : decode b_Rv_product 48 = .ok (.lmul, 1) := by decide +kernel
theorem d_Rv_product_49 : decode b_Rv_product 49 = .ok (.bipush 32, 2) := by decide +kernel
theorem d_Rv_product_51 : decode b_Rv_product 51 = .ok (.lshr, 1) := by decide +kernel
theorem d_Rv_product_52 : decode b_Rv_product 52 = .ok (.l2i, 1) := by decide +kernel
theorem d_Rv_product_53 : decode b_Rv_product 53 = .ok (.ireturn, 1) := by decide +kernel
theorem d_Rv_product_54 : decode b_Rv_product 54 = .ok (.iload_n 1, 1) := by decide +kernel
theorem d_Rv_product_55 : decode b_Rv_product 55 = .ok (.invokestatic 193, 3) := by decide +kernel
theorem d_Rv_product_58 : decode b_Rv_product 58 = .ok (.iload_n 2, 1) := by decide +kernel
theorem d_Rv_product_59 : decode b_Rv_product 59 = .ok (.invokestatic 193, 3) := by decide +kernel
theorem d_Rv_product_62 : decode b_Rv_product 62 = .ok (.lmul, 1) := by decide +kernel
theorem d_Rv_product_63 : decode b_Rv_product 63 = .ok (.bipush 32, 2) := by decide +kernel
theorem d_Rv_product_65 : decode b_Rv_product 65 = .ok (.lushr, 1) := by decide +kernel
theorem d_Rv_product_66 : decode b_Rv_product 66 = .ok (.l2i, 1) := by decide +kernel
theorem d_Rv_product_67 : decode b_Rv_product 67 = .ok (.ireturn, 1) := by decide +kernel
theorem d_Rv_quotient_0 : decode b_Rv_quotient 0 = .ok (.iload_n 2, 1) := by decide +kernel
theorem d_Rv_quotient_1 : decode b_Rv_quotient 1 = .ok (.ifCond .ne 15, 3) := by decide +kernel
theorem d_Rv_quotient_4 : decode b_Rv_quotient 4 = .ok (.iload_n 0, 1) := by decide +kernel
theorem d_Rv_quotient_5 : decode b_Rv_quotient 5 = .ok (.bipush 6, 2) := by decide +kernel
theorem d_Rv_quotient_7 : decode b_Rv_quotient 7 = .ok (.if_icmp .ge 7, 3) := by decide +kernel
theorem d_Rv_quotient_10 : decode b_Rv_quotient 10 = .ok (.iconst (-1), 1) := by decide +kernel
theorem d_Rv_quotient_11 : decode b_Rv_quotient 11 = .ok (.goto 4, 3) := by decide +kernel
theorem d_Rv_quotient_14 : decode b_Rv_quotient 14 = .ok (.iload_n 1, 1) := by decide +kernel
theorem d_Rv_quotient_15 : decode b_Rv_quotient 15 = .ok (.ireturn, 1) := by decide +kernel
theorem d_Rv_quotient_16 : decode b_Rv_quotient 16 = .ok (.iload_n 0, 1) := by decide +kernel
theorem d_Rv_quotient_17 : decode b_Rv_quotient 17 = .ok (.tableswitch 52 4 6 #[27, 34, 45], 27) := by decide +kernel
theorem d_Rv_quotient_44 : decode b_Rv_quotient 44 = .ok (.iload_n 1, 1) := by decide +kernel
theorem d_Rv_quotient_45 : decode b_Rv_quotient 45 = .ok (.i2l, 1) := by decide +kernel
theorem d_Rv_quotient_46 : decode b_Rv_quotient 46 = .ok (.iload_n 2, 1) := by decide +kernel
theorem d_Rv_quotient_47 : decode b_Rv_quotient 47 = .ok (.i2l, 1) := by decide +kernel
theorem d_Rv_quotient_48 : decode b_Rv_quotient 48 = .ok (.ldiv, 1) := by decide +kernel
theorem d_Rv_quotient_49 : decode b_Rv_quotient 49 = .ok (.l2i, 1) := by decide +kernel
theorem d_Rv_quotient_50 : decode b_Rv_quotient 50 = .ok (.ireturn, 1) := by decide +kernel
theorem d_Rv_quotient_51 : decode b_Rv_quotient 51 = .ok (.iload_n 1, 1) := by decide +kernel
theorem d_Rv_quotient_52 : decode b_Rv_quotient 52 = .ok (.invokestatic 193, 3) := by decide +kernel
theorem d_Rv_quotient_55 : decode b_Rv_quotient 55 = .ok (.iload_n 2, 1) := by decide +kernel
theorem d_Rv_quotient_56 : decode b_Rv_quotient 56 = .ok (.invokestatic 193, 3) := by decide +kernel
theorem d_Rv_quotient_59 : decode b_Rv_quotient 59 = .ok (.ldiv, 1) := by decide +kernel
theorem d_Rv_quotient_60 : decode b_Rv_quotient 60 = .ok (.l2i, 1) := by decide +kernel
theorem d_Rv_quotient_61 : decode b_Rv_quotient 61 = .ok (.ireturn, 1) := by decide +kernel
theorem d_Rv_quotient_62 : decode b_Rv_quotient 62 = .ok (.iload_n 1, 1) := by decide +kernel
theorem d_Rv_quotient_63 : decode b_Rv_quotient 63 = .ok (.i2l, 1) := by decide +kernel
theorem d_Rv_quotient_64 : decode b_Rv_quotient 64 = .ok (.iload_n 2, 1) := by decide +kernel
theorem d_Rv_quotient_65 : decode b_Rv_quotient 65 = .ok (.i2l, 1) := by decide +kernel
theorem d_Rv_quotient_66 : decode b_Rv_quotient 66 = .ok (.lrem, 1) := by decide +kernel
theorem d_Rv_quotient_67 : decode b_Rv_quotient 67 = .ok (.l2i, 1) := by decide +kernel
theorem d_Rv_quotient_68 : decode b_Rv_quotient 68 = .ok (.ireturn, 1) := by decide +kernel
theorem d_Rv_quotient_69 : decode b_Rv_quotient 69 = .ok (.iload_n 1, 1) := by decide +kernel
theorem d_Rv_quotient_70 : decode b_Rv_quotient 70 = .ok (.invokestatic 193, 3) := by decide +kernel
theorem d_Rv_quotient_73 : decode b_Rv_quotient 73 = .ok (.iload_n 2, 1) := by decide +kernel
theorem d_Rv_quotient_74 : decode b_Rv_quotient 74 = .ok (.invokestatic 193, 3) := by decide +kernel
theorem d_Rv_quotient_77 : decode b_Rv_quotient 77 = .ok (.lrem, 1) := by decide +kernel
theorem d_Rv_quotient_78 : decode b_Rv_quotient 78 = .ok (.l2i, 1) := by decide +kernel
theorem d_Rv_quotient_79 : decode b_Rv_quotient 79 = .ok (.ireturn, 1) := by decide +kernel
theorem d_Rv_doneIf_0 : decode b_Rv_doneIf 0 = .ok (.iload_n 0, 1) := by decide +kernel
theorem d_Rv_doneIf_1 : decode b_Rv_doneIf 1 = .ok (.ifCond .eq 7, 3) := by decide +kernel
theorem d_Rv_doneIf_4 : decode b_Rv_doneIf 4 = .ok (.iconst 0, 1) := by decide +kernel
theorem d_Rv_doneIf_5 : decode b_Rv_doneIf 5 = .ok (.goto 4, 3) := by decide +kernel
theorem d_Rv_doneIf_8 : decode b_Rv_doneIf 8 = .ok (.iconst 4, 1) := by decide +kernel
theorem d_Rv_doneIf_9 : decode b_Rv_doneIf 9 = .ok (.ireturn, 1) := by decide +kernel
theorem d_Me_roundedUp_0 : decode b_Me_roundedUp 0 = .ok (.iload_n 0, 1) := by decide +kernel
theorem d_Me_roundedUp_1 : decode b_Me_roundedUp 1 = .ok (.iconst 3, 1) := by decide +kernel
theorem d_Me_roundedUp_2 : decode b_Me_roundedUp 2 = .ok (.iadd, 1) := by decide +kernel
theorem d_Me_roundedUp_3 : decode b_Me_roundedUp 3 = .ok (.bipush (-4), 2) := by decide +kernel
theorem d_Me_roundedUp_5 : decode b_Me_roundedUp 5 = .ok (.iand, 1) := by decide +kernel
theorem d_Me_roundedUp_6 : decode b_Me_roundedUp 6 = .ok (.ireturn, 1) := by decide +kernel
def sp_Rv_middle (w : Int32) : Int32 := (zushr w 12) &&& 7
set_option maxHeartbeats 4000000 in
theorem c_Rv_middle (l : Launch) (D : va_G) (T : List (ClassId × FieldType)) (sz : Nat) (w : Int32) : zMet l y_Rv_middle (zWs y_Rv_middle b_Rv_middle 1 (some .int)) { frames := 0, cells := 0, slots := 0, locals := 0 } (zPc D T sz [] [.int w]) (zQi D (va_A [] sz) (fun r (_ : Unit) => r = sp_Rv_middle w) (z0) (fun _ => [])) (va_A [] sz) := by
  refine zstart (Qc := fun A => zQi D A (fun r (_ : Unit) => r = sp_Rv_middle w) (z0) (fun _ => [])) (by decide) (Nat.le_of_ble_eq_true rfl) ?_
  intro p e s m below meth c ls A hE hr hlocks hin hsz hK hP hD hS hA hAe hl
  have hx := hE.1
  have hb := hE.2.1
  have hown := hE.2.2.2.1
  have hw := hE.2.2.2.2
  have hl : lv_has ls 1 [(0, .int w)] := hl
  refine lv_iload_n hx hb d_Rv_middle_0 rfl (lv_at hl 0 rfl) ?_
  refine lv_bipush (v := 12) hx hb d_Rv_middle_1 (by decide) ?_
  refine lv_iushr (v := zushr w 12) hx hb d_Rv_middle_3 rfl ?_
  refine lv_bipush (v := 7) hx hb d_Rv_middle_4 (by decide) ?_
  refine lv_iand hx hb d_Rv_middle_6 ?_
  exact zreti hx hb hr rfl hlocks hS () rfl rfl hP hD d_Rv_middle_7

def sp_Rv_top (w : Int32) : Int32 := zushr w 25
set_option maxHeartbeats 4000000 in
theorem c_Rv_top (l : Launch) (D : va_G) (T : List (ClassId × FieldType)) (sz : Nat) (w : Int32) : zMet l y_Rv_top (zWs y_Rv_top b_Rv_top 1 (some .int)) { frames := 0, cells := 0, slots := 0, locals := 0 } (zPc D T sz [] [.int w]) (zQi D (va_A [] sz) (fun r (_ : Unit) => r = sp_Rv_top w) (z0) (fun _ => [])) (va_A [] sz) := by
  refine zstart (Qc := fun A => zQi D A (fun r (_ : Unit) => r = sp_Rv_top w) (z0) (fun _ => [])) (by decide) (Nat.le_of_ble_eq_true rfl) ?_
  intro p e s m below meth c ls A hE hr hlocks hin hsz hK hP hD hS hA hAe hl
  have hx := hE.1
  have hb := hE.2.1
  have hown := hE.2.2.2.1
  have hw := hE.2.2.2.2
  have hl : lv_has ls 1 [(0, .int w)] := hl
  refine lv_iload_n hx hb d_Rv_top_0 rfl (lv_at hl 0 rfl) ?_
  refine lv_bipush (v := 25) hx hb d_Rv_top_1 (by decide) ?_
  refine lv_iushr (v := zushr w 25) hx hb d_Rv_top_3 rfl ?_
  exact zreti hx hb hr rfl hlocks hS () rfl rfl hP hD d_Rv_top_4

def sp_Rv_jumpOffset (w : Int32) : Int32 := (((((w : Int32) >>> ((31 : Int32) &&& 31) : Int32) <<< ((20 : Int32) &&& 31)) ||| (w &&& 1044480)) ||| (((w : Int32) >>> ((9 : Int32) &&& 31)) &&& 2048)) ||| (((w : Int32) >>> ((20 : Int32) &&& 31)) &&& 2046)
set_option maxHeartbeats 4000000 in
theorem c_Rv_jumpOffset (l : Launch) (D : va_G) (T : List (ClassId × FieldType)) (sz : Nat) (w : Int32) : zMet l y_Rv_jumpOffset (zWs y_Rv_jumpOffset b_Rv_jumpOffset 1 (some .int)) { frames := 0, cells := 0, slots := 0, locals := 0 } (zPc D T sz [] [.int w]) (zQi D (va_A [] sz) (fun r (_ : Unit) => r = sp_Rv_jumpOffset w) (z0) (fun _ => [])) (va_A [] sz) := by
  refine zstart (Qc := fun A => zQi D A (fun r (_ : Unit) => r = sp_Rv_jumpOffset w) (z0) (fun _ => [])) (by decide) (Nat.le_of_ble_eq_true rfl) ?_
  intro p e s m below meth c ls A hE hr hlocks hin hsz hK hP hD hS hA hAe hl
  have hx := hE.1
  have hb := hE.2.1
  have hown := hE.2.2.2.1
  have hw := hE.2.2.2.2
  have hl : lv_has ls 1 [(0, .int w)] := hl
  refine lv_iload_n hx hb d_Rv_jumpOffset_0 rfl (lv_at hl 0 rfl) ?_
  refine lv_bipush (v := 31) hx hb d_Rv_jumpOffset_1 (by decide) ?_
  refine lv_ishr hx hb d_Rv_jumpOffset_3 ?_
  refine lv_bipush (v := 20) hx hb d_Rv_jumpOffset_4 (by decide) ?_
  refine lv_ishl hx hb d_Rv_jumpOffset_6 ?_
  refine lv_iload_n hx hb d_Rv_jumpOffset_7 rfl (lv_at hl 0 rfl) ?_
  refine lv_ldc (v := 1044480) hx hb hown (hw _ kc_Rv_154) d_Rv_jumpOffset_8 ?_
  refine lv_iand hx hb d_Rv_jumpOffset_10 ?_
  refine lv_ior hx hb d_Rv_jumpOffset_11 ?_
  refine lv_iload_n hx hb d_Rv_jumpOffset_12 rfl (lv_at hl 0 rfl) ?_
  refine lv_bipush (v := 9) hx hb d_Rv_jumpOffset_13 (by decide) ?_
  refine lv_ishr hx hb d_Rv_jumpOffset_15 ?_
  refine lv_sipush (v := 2048) hx hb d_Rv_jumpOffset_16 (by decide) ?_
  refine lv_iand hx hb d_Rv_jumpOffset_19 ?_
  refine lv_ior hx hb d_Rv_jumpOffset_20 ?_
  refine lv_iload_n hx hb d_Rv_jumpOffset_21 rfl (lv_at hl 0 rfl) ?_
  refine lv_bipush (v := 20) hx hb d_Rv_jumpOffset_22 (by decide) ?_
  refine lv_ishr hx hb d_Rv_jumpOffset_24 ?_
  refine lv_sipush (v := 2046) hx hb d_Rv_jumpOffset_25 (by decide) ?_
  refine lv_iand hx hb d_Rv_jumpOffset_28 ?_
  refine lv_ior hx hb d_Rv_jumpOffset_29 ?_
  exact zreti hx hb hr rfl hlocks hS () rfl rfl hP hD d_Rv_jumpOffset_30

def sp_Rv_branchOffset (w : Int32) : Int32 := (((((w : Int32) >>> ((31 : Int32) &&& 31) : Int32) <<< ((12 : Int32) &&& 31)) ||| (((w : Int32) <<< ((4 : Int32) &&& 31)) &&& 2048)) ||| (((w : Int32) >>> ((20 : Int32) &&& 31)) &&& 2016)) ||| (((w : Int32) >>> ((7 : Int32) &&& 31)) &&& 30)
set_option maxHeartbeats 4000000 in
theorem c_Rv_branchOffset (l : Launch) (D : va_G) (T : List (ClassId × FieldType)) (sz : Nat) (w : Int32) : zMet l y_Rv_branchOffset (zWs y_Rv_branchOffset b_Rv_branchOffset 1 (some .int)) { frames := 0, cells := 0, slots := 0, locals := 0 } (zPc D T sz [] [.int w]) (zQi D (va_A [] sz) (fun r (_ : Unit) => r = sp_Rv_branchOffset w) (z0) (fun _ => [])) (va_A [] sz) := by
  refine zstart (Qc := fun A => zQi D A (fun r (_ : Unit) => r = sp_Rv_branchOffset w) (z0) (fun _ => [])) (by decide) (Nat.le_of_ble_eq_true rfl) ?_
  intro p e s m below meth c ls A hE hr hlocks hin hsz hK hP hD hS hA hAe hl
  have hx := hE.1
  have hb := hE.2.1
  have hown := hE.2.2.2.1
  have hw := hE.2.2.2.2
  have hl : lv_has ls 1 [(0, .int w)] := hl
  refine lv_iload_n hx hb d_Rv_branchOffset_0 rfl (lv_at hl 0 rfl) ?_
  refine lv_bipush (v := 31) hx hb d_Rv_branchOffset_1 (by decide) ?_
  refine lv_ishr hx hb d_Rv_branchOffset_3 ?_
  refine lv_bipush (v := 12) hx hb d_Rv_branchOffset_4 (by decide) ?_
  refine lv_ishl hx hb d_Rv_branchOffset_6 ?_
  refine lv_iload_n hx hb d_Rv_branchOffset_7 rfl (lv_at hl 0 rfl) ?_
  refine lv_iconst (v := 4) hx hb d_Rv_branchOffset_8 (by decide) ?_
  refine lv_ishl hx hb d_Rv_branchOffset_9 ?_
  refine lv_sipush (v := 2048) hx hb d_Rv_branchOffset_10 (by decide) ?_
  refine lv_iand hx hb d_Rv_branchOffset_13 ?_
  refine lv_ior hx hb d_Rv_branchOffset_14 ?_
  refine lv_iload_n hx hb d_Rv_branchOffset_15 rfl (lv_at hl 0 rfl) ?_
  refine lv_bipush (v := 20) hx hb d_Rv_branchOffset_16 (by decide) ?_
  refine lv_ishr hx hb d_Rv_branchOffset_18 ?_
  refine lv_sipush (v := 2016) hx hb d_Rv_branchOffset_19 (by decide) ?_
  refine lv_iand hx hb d_Rv_branchOffset_22 ?_
  refine lv_ior hx hb d_Rv_branchOffset_23 ?_
  refine lv_iload_n hx hb d_Rv_branchOffset_24 rfl (lv_at hl 0 rfl) ?_
  refine lv_bipush (v := 7) hx hb d_Rv_branchOffset_25 (by decide) ?_
  refine lv_ishr hx hb d_Rv_branchOffset_27 ?_
  refine lv_bipush (v := 30) hx hb d_Rv_branchOffset_28 (by decide) ?_
  refine lv_iand hx hb d_Rv_branchOffset_30 ?_
  refine lv_ior hx hb d_Rv_branchOffset_31 ?_
  exact zreti hx hb hr rfl hlocks hS () rfl rfl hP hD d_Rv_branchOffset_32

def sp_Rv_storeOffset (w : Int32) : Int32 := (((w : Int32) >>> ((25 : Int32) &&& 31) : Int32) <<< ((5 : Int32) &&& 31)) ||| (((w : Int32) >>> ((7 : Int32) &&& 31)) &&& 31)
set_option maxHeartbeats 4000000 in
theorem c_Rv_storeOffset (l : Launch) (D : va_G) (T : List (ClassId × FieldType)) (sz : Nat) (w : Int32) : zMet l y_Rv_storeOffset (zWs y_Rv_storeOffset b_Rv_storeOffset 1 (some .int)) { frames := 0, cells := 0, slots := 0, locals := 0 } (zPc D T sz [] [.int w]) (zQi D (va_A [] sz) (fun r (_ : Unit) => r = sp_Rv_storeOffset w) (z0) (fun _ => [])) (va_A [] sz) := by
  refine zstart (Qc := fun A => zQi D A (fun r (_ : Unit) => r = sp_Rv_storeOffset w) (z0) (fun _ => [])) (by decide) (Nat.le_of_ble_eq_true rfl) ?_
  intro p e s m below meth c ls A hE hr hlocks hin hsz hK hP hD hS hA hAe hl
  have hx := hE.1
  have hb := hE.2.1
  have hown := hE.2.2.2.1
  have hw := hE.2.2.2.2
  have hl : lv_has ls 1 [(0, .int w)] := hl
  refine lv_iload_n hx hb d_Rv_storeOffset_0 rfl (lv_at hl 0 rfl) ?_
  refine lv_bipush (v := 25) hx hb d_Rv_storeOffset_1 (by decide) ?_
  refine lv_ishr hx hb d_Rv_storeOffset_3 ?_
  refine lv_iconst (v := 5) hx hb d_Rv_storeOffset_4 (by decide) ?_
  refine lv_ishl hx hb d_Rv_storeOffset_5 ?_
  refine lv_iload_n hx hb d_Rv_storeOffset_6 rfl (lv_at hl 0 rfl) ?_
  refine lv_bipush (v := 7) hx hb d_Rv_storeOffset_7 (by decide) ?_
  refine lv_ishr hx hb d_Rv_storeOffset_9 ?_
  refine lv_bipush (v := 31) hx hb d_Rv_storeOffset_10 (by decide) ?_
  refine lv_iand hx hb d_Rv_storeOffset_12 ?_
  refine lv_ior hx hb d_Rv_storeOffset_13 ?_
  exact zreti hx hb hr rfl hlocks hS () rfl rfl hP hD d_Rv_storeOffset_14

def sp_Rv_unsigned (x : Int32) : Int64 := ((x : Int32).toInt64) &&& 4294967295
set_option maxHeartbeats 4000000 in
theorem c_Rv_unsigned (l : Launch) (D : va_G) (T : List (ClassId × FieldType)) (sz : Nat) (x : Int32) : zMet l y_Rv_unsigned (zWs y_Rv_unsigned b_Rv_unsigned 1 (some .long)) { frames := 0, cells := 0, slots := 0, locals := 0 } (zPc D T sz [] [.int x]) (zQl D (va_A [] sz) (fun r (_ : Unit) => r = sp_Rv_unsigned x) (z0) (fun _ => [])) (va_A [] sz) := by
  refine zstart (Qc := fun A => zQl D A (fun r (_ : Unit) => r = sp_Rv_unsigned x) (z0) (fun _ => [])) (by decide) (Nat.le_of_ble_eq_true rfl) ?_
  intro p e s m below meth c ls A hE hr hlocks hin hsz hK hP hD hS hA hAe hl
  have hx := hE.1
  have hb := hE.2.1
  have hown := hE.2.2.2.1
  have hw := hE.2.2.2.2
  have hl : lv_has ls 1 [(0, .int x)] := hl
  refine lv_iload_n hx hb d_Rv_unsigned_0 rfl (lv_at hl 0 rfl) ?_
  refine lv_i2l (v := (x : Int32).toInt64) hx hb d_Rv_unsigned_1 rfl ?_
  refine lv_ldc2 (v := 4294967295) hx hb hown (hw _ kc_Rv_197) d_Rv_unsigned_2 ?_
  refine lv_land hx hb d_Rv_unsigned_5 ?_
  exact zretl hx hb hr hlocks hS () rfl rfl hP hD d_Rv_unsigned_6

def sp_Rv_isBelow (x : Int32) (y : Int32) : Int32 := if 0 ≤ (lg_cmp (sp_Rv_unsigned x) (sp_Rv_unsigned y)) then 0 else 1
set_option maxHeartbeats 4000000 in
theorem c_Rv_isBelow (l : Launch) (D : va_G) (T : List (ClassId × FieldType)) (sz : Nat) (x : Int32) (y : Int32) : zMet l y_Rv_isBelow (zWs y_Rv_isBelow b_Rv_isBelow 2 (some .boolean)) { frames := 1, cells := 0, slots := 0, locals := 20 } (zPc D T sz [] [.int x, .int y]) (zQi D (va_A [] sz) (fun r (_ : Unit) => r = sp_Rv_isBelow x y) (z0) (fun _ => [])) (va_A [] sz) := by
  refine zstart (Qc := fun A => zQi D A (fun r (_ : Unit) => r = sp_Rv_isBelow x y) (z0) (fun _ => [])) (by decide) (Nat.le_of_ble_eq_true rfl) ?_
  intro p e s m below meth c ls A hE hr hlocks hin hsz hK hP hD hS hA hAe hl
  have hx := hE.1
  have hb := hE.2.1
  have hown := hE.2.2.2.1
  have hw := hE.2.2.2.2
  have hl : lv_has ls 2 [(0, .int x), (1, .int y)] := hl
  refine lv_iload_n hx hb d_Rv_isBelow_0 rfl (lv_at hl 0 rfl) ?_
  refine zgol (wr := []) (zrunS (n := 1) (As := [.int x]) (rest := []) hE (c_Rv_unsigned l D _ _ x) cb_Rv_unsigned lk_Rv_193 st_Rv_unsigned (zpreS hK hP hD [] rfl rfl rfl) ⟨Nat.le_of_ble_eq_true rfl, Nat.le_of_ble_eq_true rfl, Nat.le_of_ble_eq_true rfl, Nat.le_of_ble_eq_true rfl⟩ rfl hl.1 rfl (Nat.le_of_ble_eq_true rfl) d_Rv_isBelow_1) hP hD hS hA [] [] rfl rfl rfl (by decide) (fun r u H locs hq1 hP hD hS => ?_)
  subst hq1
  have hP : va_P D zC [] H := hP
  have hD : va_D A [] := hD
  refine lv_iload_n hx hb d_Rv_isBelow_4 rfl (lv_at hl 1 rfl) ?_
  refine zgol (wr := []) (zrunS (n := 1) (As := [.int y]) (rest := [.long (sp_Rv_unsigned x)]) hE (c_Rv_unsigned l D _ _ y) cb_Rv_unsigned lk_Rv_193 st_Rv_unsigned (zpreS hK hP hD [] rfl rfl rfl) ⟨Nat.le_of_ble_eq_true rfl, Nat.le_of_ble_eq_true rfl, Nat.le_of_ble_eq_true rfl, Nat.le_of_ble_eq_true rfl⟩ rfl hl.1 rfl (Nat.le_of_ble_eq_true rfl) d_Rv_isBelow_5) hP hD hS hA [] [] rfl rfl rfl (by decide) (fun r u H locs hq2 hP hD hS => ?_)
  subst hq2
  have hP : va_P D zC [] H := hP
  have hD : va_D A [] := hD
  refine W.lcmp hx hb d_Rv_isBelow_8 ?_
  refine lv_if_ge (tgt := 16) hx hb d_Rv_isBelow_9 (by decide) (fun h3 => ?_) (fun h3 => ?_)
  · refine lv_iconst (v := 0) hx hb d_Rv_isBelow_16 (by decide) ?_
    exact zreti hx hb hr rfl hlocks hS () (by rw [sp_Rv_isBelow, if_pos h3]) rfl hP hD d_Rv_isBelow_17
  · refine lv_iconst (v := 1) hx hb d_Rv_isBelow_12 (by decide) ?_
    refine lv_goto (tgt := 17) hx hb d_Rv_isBelow_13 (by decide) ?_
    exact zreti hx hb hr rfl hlocks hS () (by rw [sp_Rv_isBelow, if_neg h3]) rfl hP hD d_Rv_isBelow_17

def sp_Rv_plainResult (f : Int32) (x : Int32) (y : Int32) : Int32 := if f = 0 then x + y else if f = 1 then (x : Int32) <<< ((y &&& 31 : Int32) &&& 31) else if f = 2 then
  if y ≤ x then 0 else 1
else if f = 3 then
  if (sp_Rv_isBelow x y) = 0 then 0 else 1
else if f = 4 then x ^^^ y else if f = 5 then zushr x (y &&& 31) else if f = 6 then x ||| y else x &&& y
set_option maxHeartbeats 4000000 in
theorem c_Rv_plainResult (l : Launch) (D : va_G) (T : List (ClassId × FieldType)) (sz : Nat) (f : Int32) (x : Int32) (y : Int32) : zMet l y_Rv_plainResult (zWs y_Rv_plainResult b_Rv_plainResult 3 (some .int)) { frames := 2, cells := 0, slots := 0, locals := 41 } (zPc D T sz [] [.int f, .int x, .int y]) (zQi D (va_A [] sz) (fun r (_ : Unit) => r = sp_Rv_plainResult f x y) (z0) (fun _ => [])) (va_A [] sz) := by
  refine zstart (Qc := fun A => zQi D A (fun r (_ : Unit) => r = sp_Rv_plainResult f x y) (z0) (fun _ => [])) (by decide) (Nat.le_of_ble_eq_true rfl) ?_
  intro p e s m below meth c ls A hE hr hlocks hin hsz hK hP hD hS hA hAe hl
  have hx := hE.1
  have hb := hE.2.1
  have hown := hE.2.2.2.1
  have hw := hE.2.2.2.2
  have hl : lv_has ls 3 [(0, .int f), (1, .int x), (2, .int y)] := hl
  refine lv_iload_n hx hb d_Rv_plainResult_0 rfl (lv_at hl 0 rfl) ?_
  rcases Decidable.em (f = 0) with h1 | h1
  · refine lv_tableIn (tgt := 44) hx hb d_Rv_plainResult_1 (by rw [h1]; decide) (by rw [h1]; decide) (by rw [h1]; rfl) (by decide) ?_
    refine lv_iload_n hx hb d_Rv_plainResult_44 rfl (lv_at hl 1 rfl) ?_
    refine lv_iload_n hx hb d_Rv_plainResult_45 rfl (lv_at hl 2 rfl) ?_
    refine lv_iadd hx hb d_Rv_plainResult_46 ?_
    exact zreti hx hb hr rfl hlocks hS () (by rw [sp_Rv_plainResult, if_pos h1]) rfl hP hD d_Rv_plainResult_47
  · rcases Decidable.em (f = 1) with h2 | h2
    · refine lv_tableIn (tgt := 48) hx hb d_Rv_plainResult_1 (by rw [h2]; decide) (by rw [h2]; decide) (by rw [h2]; rfl) (by decide) ?_
      refine lv_iload_n hx hb d_Rv_plainResult_48 rfl (lv_at hl 1 rfl) ?_
      refine lv_iload_n hx hb d_Rv_plainResult_49 rfl (lv_at hl 2 rfl) ?_
      refine lv_bipush (v := 31) hx hb d_Rv_plainResult_50 (by decide) ?_
      refine lv_iand hx hb d_Rv_plainResult_52 ?_
      refine lv_ishl hx hb d_Rv_plainResult_53 ?_
      exact zreti hx hb hr rfl hlocks hS () (by rw [sp_Rv_plainResult, if_neg h1, if_pos h2]) rfl hP hD d_Rv_plainResult_54
    · rcases Decidable.em (f = 2) with h3 | h3
      · refine lv_tableIn (tgt := 55) hx hb d_Rv_plainResult_1 (by rw [h3]; decide) (by rw [h3]; decide) (by rw [h3]; rfl) (by decide) ?_
        refine lv_iload_n hx hb d_Rv_plainResult_55 rfl (lv_at hl 1 rfl) ?_
        refine lv_iload_n hx hb d_Rv_plainResult_56 rfl (lv_at hl 2 rfl) ?_
        refine lv_icmp_ge (tgt := 64) hx hb d_Rv_plainResult_57 (by decide) (fun h4 => ?_) (fun h4 => ?_)
        · refine lv_iconst (v := 0) hx hb d_Rv_plainResult_64 (by decide) ?_
          exact zreti hx hb hr rfl hlocks hS () (by rw [sp_Rv_plainResult, if_neg h1, if_neg h2, if_pos h3, if_pos h4]) rfl hP hD d_Rv_plainResult_65
        · refine lv_iconst (v := 1) hx hb d_Rv_plainResult_60 (by decide) ?_
          refine lv_goto (tgt := 65) hx hb d_Rv_plainResult_61 (by decide) ?_
          exact zreti hx hb hr rfl hlocks hS () (by rw [sp_Rv_plainResult, if_neg h1, if_neg h2, if_pos h3, if_neg h4]) rfl hP hD d_Rv_plainResult_65
      · rcases Decidable.em (f = 3) with h5 | h5
        · refine lv_tableIn (tgt := 66) hx hb d_Rv_plainResult_1 (by rw [h5]; decide) (by rw [h5]; decide) (by rw [h5]; rfl) (by decide) ?_
          refine lv_iload_n hx hb d_Rv_plainResult_66 rfl (lv_at hl 1 rfl) ?_
          refine lv_iload_n hx hb d_Rv_plainResult_67 rfl (lv_at hl 2 rfl) ?_
          refine zgoi (wr := []) (zrunS (n := 2) (As := [.int x, .int y]) (rest := []) hE (c_Rv_isBelow l D _ _ x y) cb_Rv_isBelow lk_Rv_164 st_Rv_isBelow (zpreS hK hP hD [] rfl rfl rfl) ⟨Nat.le_of_ble_eq_true rfl, Nat.le_of_ble_eq_true rfl, Nat.le_of_ble_eq_true rfl, Nat.le_of_ble_eq_true rfl⟩ rfl hl.1 rfl (Nat.le_of_ble_eq_true rfl) d_Rv_plainResult_68) hP hD hS hA [] [] rfl rfl rfl (by decide) (fun r u H locs hq6 hP hD hS => ?_)
          subst hq6
          have hP : va_P D zC [] H := hP
          have hD : va_D A [] := hD
          refine lv_if_eq (tgt := 78) hx hb d_Rv_plainResult_71 (by decide) (fun h7 => ?_) (fun h7 => ?_)
          · refine lv_iconst (v := 0) hx hb d_Rv_plainResult_78 (by decide) ?_
            exact zreti hx hb hr rfl hlocks hS () (by rw [sp_Rv_plainResult, if_neg h1, if_neg h2, if_neg h3, if_pos h5, if_pos h7]) rfl hP hD d_Rv_plainResult_79
          · refine lv_iconst (v := 1) hx hb d_Rv_plainResult_74 (by decide) ?_
            refine lv_goto (tgt := 79) hx hb d_Rv_plainResult_75 (by decide) ?_
            exact zreti hx hb hr rfl hlocks hS () (by rw [sp_Rv_plainResult, if_neg h1, if_neg h2, if_neg h3, if_pos h5, if_neg h7]) rfl hP hD d_Rv_plainResult_79
        · rcases Decidable.em (f = 4) with h8 | h8
          · refine lv_tableIn (tgt := 80) hx hb d_Rv_plainResult_1 (by rw [h8]; decide) (by rw [h8]; decide) (by rw [h8]; rfl) (by decide) ?_
            refine lv_iload_n hx hb d_Rv_plainResult_80 rfl (lv_at hl 1 rfl) ?_
            refine lv_iload_n hx hb d_Rv_plainResult_81 rfl (lv_at hl 2 rfl) ?_
            refine lv_ixor hx hb d_Rv_plainResult_82 ?_
            exact zreti hx hb hr rfl hlocks hS () (by rw [sp_Rv_plainResult, if_neg h1, if_neg h2, if_neg h3, if_neg h5, if_pos h8]) rfl hP hD d_Rv_plainResult_83
          · rcases Decidable.em (f = 5) with h9 | h9
            · refine lv_tableIn (tgt := 84) hx hb d_Rv_plainResult_1 (by rw [h9]; decide) (by rw [h9]; decide) (by rw [h9]; rfl) (by decide) ?_
              refine lv_iload_n hx hb d_Rv_plainResult_84 rfl (lv_at hl 1 rfl) ?_
              refine lv_iload_n hx hb d_Rv_plainResult_85 rfl (lv_at hl 2 rfl) ?_
              refine lv_bipush (v := 31) hx hb d_Rv_plainResult_86 (by decide) ?_
              refine lv_iand hx hb d_Rv_plainResult_88 ?_
              refine lv_iushr (v := zushr x (y &&& 31)) hx hb d_Rv_plainResult_89 rfl ?_
              exact zreti hx hb hr rfl hlocks hS () (by rw [sp_Rv_plainResult, if_neg h1, if_neg h2, if_neg h3, if_neg h5, if_neg h8, if_pos h9]) rfl hP hD d_Rv_plainResult_90
            · rcases Decidable.em (f = 6) with h10 | h10
              · refine lv_tableIn (tgt := 91) hx hb d_Rv_plainResult_1 (by rw [h10]; decide) (by rw [h10]; decide) (by rw [h10]; rfl) (by decide) ?_
                refine lv_iload_n hx hb d_Rv_plainResult_91 rfl (lv_at hl 1 rfl) ?_
                refine lv_iload_n hx hb d_Rv_plainResult_92 rfl (lv_at hl 2 rfl) ?_
                refine lv_ior hx hb d_Rv_plainResult_93 ?_
                exact zreti hx hb hr rfl hlocks hS () (by rw [sp_Rv_plainResult, if_neg h1, if_neg h2, if_neg h3, if_neg h5, if_neg h8, if_neg h9, if_pos h10]) rfl hP hD d_Rv_plainResult_94
              · refine lv_tableOut (tgt := 95) hx hb d_Rv_plainResult_1 (by have q0 := z_ne h1 (n := 0) (by decide); have q1 := z_ne h2 (n := 1) (by decide); have q2 := z_ne h3 (n := 2) (by decide); have q3 := z_ne h5 (n := 3) (by decide); have q4 := z_ne h8 (n := 4) (by decide); have q5 := z_ne h9 (n := 5) (by decide); have q6 := z_ne h10 (n := 6) (by decide); omega) (by decide) ?_
                refine lv_iload_n hx hb d_Rv_plainResult_95 rfl (lv_at hl 1 rfl) ?_
                refine lv_iload_n hx hb d_Rv_plainResult_96 rfl (lv_at hl 2 rfl) ?_
                refine lv_iand hx hb d_Rv_plainResult_97 ?_
                exact zreti hx hb hr rfl hlocks hS () (by rw [sp_Rv_plainResult, if_neg h1, if_neg h2, if_neg h3, if_neg h5, if_neg h8, if_neg h9, if_neg h10]) rfl hP hD d_Rv_plainResult_98

def sp_Rv_product (f : Int32) (x : Int32) (y : Int32) : Int32 := if f = 0 then x * y else if f = 1 then (zlshr (((x : Int32).toInt64) * ((y : Int32).toInt64)) 32 : Int64).toInt32 else if f = 2 then (zlshr (((x : Int32).toInt64) * (sp_Rv_unsigned y)) 32 : Int64).toInt32 else (zlushr ((sp_Rv_unsigned x) * (sp_Rv_unsigned y)) 32 : Int64).toInt32
set_option maxHeartbeats 4000000 in
theorem c_Rv_product (l : Launch) (D : va_G) (T : List (ClassId × FieldType)) (sz : Nat) (f : Int32) (x : Int32) (y : Int32) : zMet l y_Rv_product (zWs y_Rv_product b_Rv_product 3 (some .int)) { frames := 1, cells := 0, slots := 0, locals := 20 } (zPc D T sz [] [.int f, .int x, .int y]) (zQi D (va_A [] sz) (fun r (_ : Unit) => r = sp_Rv_product f x y) (z0) (fun _ => [])) (va_A [] sz) := by
  refine zstart (Qc := fun A => zQi D A (fun r (_ : Unit) => r = sp_Rv_product f x y) (z0) (fun _ => [])) (by decide) (Nat.le_of_ble_eq_true rfl) ?_
  intro p e s m below meth c ls A hE hr hlocks hin hsz hK hP hD hS hA hAe hl
  have hx := hE.1
  have hb := hE.2.1
  have hown := hE.2.2.2.1
  have hw := hE.2.2.2.2
  have hl : lv_has ls 3 [(0, .int f), (1, .int x), (2, .int y)] := hl
  refine lv_iload_n hx hb d_Rv_product_0 rfl (lv_at hl 0 rfl) ?_
  rcases Decidable.em (f = 0) with h1 | h1
  · refine lv_tableIn (tgt := 28) hx hb d_Rv_product_1 (by rw [h1]; decide) (by rw [h1]; decide) (by rw [h1]; rfl) (by decide) ?_
    refine lv_iload_n hx hb d_Rv_product_28 rfl (lv_at hl 1 rfl) ?_
    refine lv_iload_n hx hb d_Rv_product_29 rfl (lv_at hl 2 rfl) ?_
    refine lv_imul hx hb d_Rv_product_30 ?_
    exact zreti hx hb hr rfl hlocks hS () (by rw [sp_Rv_product, if_pos h1]) rfl hP hD d_Rv_product_31
  · rcases Decidable.em (f = 1) with h2 | h2
    · refine lv_tableIn (tgt := 32) hx hb d_Rv_product_1 (by rw [h2]; decide) (by rw [h2]; decide) (by rw [h2]; rfl) (by decide) ?_
      refine lv_iload_n hx hb d_Rv_product_32 rfl (lv_at hl 1 rfl) ?_
      refine lv_i2l (v := (x : Int32).toInt64) hx hb d_Rv_product_33 rfl ?_
      refine lv_iload_n hx hb d_Rv_product_34 rfl (lv_at hl 2 rfl) ?_
      refine lv_i2l (v := (y : Int32).toInt64) hx hb d_Rv_product_35 rfl ?_
      refine lv_lmul hx hb d_Rv_product_36 ?_
      refine lv_bipush (v := 32) hx hb d_Rv_product_37 (by decide) ?_
      refine lv_lshr (v := zlshr (((x : Int32).toInt64) * ((y : Int32).toInt64)) 32) hx hb d_Rv_product_39 rfl ?_
      refine lv_l2i (v := (zlshr (((x : Int32).toInt64) * ((y : Int32).toInt64)) 32 : Int64).toInt32) hx hb d_Rv_product_40 rfl ?_
      exact zreti hx hb hr rfl hlocks hS () (by rw [sp_Rv_product, if_neg h1, if_pos h2]) rfl hP hD d_Rv_product_41
    · rcases Decidable.em (f = 2) with h3 | h3
      · refine lv_tableIn (tgt := 42) hx hb d_Rv_product_1 (by rw [h3]; decide) (by rw [h3]; decide) (by rw [h3]; rfl) (by decide) ?_
        refine lv_iload_n hx hb d_Rv_product_42 rfl (lv_at hl 1 rfl) ?_
        refine lv_i2l (v := (x : Int32).toInt64) hx hb d_Rv_product_43 rfl ?_
        refine lv_iload_n hx hb d_Rv_product_44 rfl (lv_at hl 2 rfl) ?_
        refine zgol (wr := []) (zrunS (n := 1) (As := [.int y]) (rest := [.long ((x : Int32).toInt64)]) hE (c_Rv_unsigned l D _ _ y) cb_Rv_unsigned lk_Rv_193 st_Rv_unsigned (zpreS hK hP hD [] rfl rfl rfl) ⟨Nat.le_of_ble_eq_true rfl, Nat.le_of_ble_eq_true rfl, Nat.le_of_ble_eq_true rfl, Nat.le_of_ble_eq_true rfl⟩ rfl hl.1 rfl (Nat.le_of_ble_eq_true rfl) d_Rv_product_45) hP hD hS hA [] [] rfl rfl rfl (by decide) (fun r u H locs hq4 hP hD hS => ?_)
        subst hq4
        have hP : va_P D zC [] H := hP
        have hD : va_D A [] := hD
        refine lv_lmul hx hb d_Rv_product_48 ?_
        refine lv_bipush (v := 32) hx hb d_Rv_product_49 (by decide) ?_
        refine lv_lshr (v := zlshr (((x : Int32).toInt64) * (sp_Rv_unsigned y)) 32) hx hb d_Rv_product_51 rfl ?_
        refine lv_l2i (v := (zlshr (((x : Int32).toInt64) * (sp_Rv_unsigned y)) 32 : Int64).toInt32) hx hb d_Rv_product_52 rfl ?_
        exact zreti hx hb hr rfl hlocks hS () (by rw [sp_Rv_product, if_neg h1, if_neg h2, if_pos h3]) rfl hP hD d_Rv_product_53
      · refine lv_tableOut (tgt := 54) hx hb d_Rv_product_1 (by have q0 := z_ne h1 (n := 0) (by decide); have q1 := z_ne h2 (n := 1) (by decide); have q2 := z_ne h3 (n := 2) (by decide); omega) (by decide) ?_
        refine lv_iload_n hx hb d_Rv_product_54 rfl (lv_at hl 1 rfl) ?_
        refine zgol (wr := []) (zrunS (n := 1) (As := [.int x]) (rest := []) hE (c_Rv_unsigned l D _ _ x) cb_Rv_unsigned lk_Rv_193 st_Rv_unsigned (zpreS hK hP hD [] rfl rfl rfl) ⟨Nat.le_of_ble_eq_true rfl, Nat.le_of_ble_eq_true rfl, Nat.le_of_ble_eq_true rfl, Nat.le_of_ble_eq_true rfl⟩ rfl hl.1 rfl (Nat.le_of_ble_eq_true rfl) d_Rv_product_55) hP hD hS hA [] [] rfl rfl rfl (by decide) (fun r u H locs hq5 hP hD hS => ?_)
        subst hq5
        have hP : va_P D zC [] H := hP
        have hD : va_D A [] := hD
        refine lv_iload_n hx hb d_Rv_product_58 rfl (lv_at hl 2 rfl) ?_
        refine zgol (wr := []) (zrunS (n := 1) (As := [.int y]) (rest := [.long (sp_Rv_unsigned x)]) hE (c_Rv_unsigned l D _ _ y) cb_Rv_unsigned lk_Rv_193 st_Rv_unsigned (zpreS hK hP hD [] rfl rfl rfl) ⟨Nat.le_of_ble_eq_true rfl, Nat.le_of_ble_eq_true rfl, Nat.le_of_ble_eq_true rfl, Nat.le_of_ble_eq_true rfl⟩ rfl hl.1 rfl (Nat.le_of_ble_eq_true rfl) d_Rv_product_59) hP hD hS hA [] [] rfl rfl rfl (by decide) (fun r u H locs hq6 hP hD hS => ?_)
        subst hq6
        have hP : va_P D zC [] H := hP
        have hD : va_D A [] := hD
        refine lv_lmul hx hb d_Rv_product_62 ?_
        refine lv_bipush (v := 32) hx hb d_Rv_product_63 (by decide) ?_
        refine lv_lushr (v := zlushr ((sp_Rv_unsigned x) * (sp_Rv_unsigned y)) 32) hx hb d_Rv_product_65 rfl ?_
        refine lv_l2i (v := (zlushr ((sp_Rv_unsigned x) * (sp_Rv_unsigned y)) 32 : Int64).toInt32) hx hb d_Rv_product_66 rfl ?_
        exact zreti hx hb hr rfl hlocks hS () (by rw [sp_Rv_product, if_neg h1, if_neg h2, if_neg h3]) rfl hP hD d_Rv_product_67

def sp_Rv_quotient (f : Int32) (x : Int32) (y : Int32) : Int32 := if y = 0 then
  if 6 ≤ f then x else (-1)
else if f = 4 then (((x : Int32).toInt64) / ((y : Int32).toInt64) : Int64).toInt32 else if f = 5 then ((sp_Rv_unsigned x) / (sp_Rv_unsigned y) : Int64).toInt32 else if f = 6 then (((x : Int32).toInt64) - ((x : Int32).toInt64) / ((y : Int32).toInt64) * ((y : Int32).toInt64) : Int64).toInt32 else ((sp_Rv_unsigned x) - (sp_Rv_unsigned x) / (sp_Rv_unsigned y) * (sp_Rv_unsigned y) : Int64).toInt32
set_option maxHeartbeats 4000000 in
theorem c_Rv_quotient (l : Launch) (D : va_G) (T : List (ClassId × FieldType)) (sz : Nat) (f : Int32) (x : Int32) (y : Int32) : zMet l y_Rv_quotient (zWs y_Rv_quotient b_Rv_quotient 3 (some .int)) { frames := 1, cells := 0, slots := 0, locals := 20 } (zPc D T sz [] [.int f, .int x, .int y]) (zQi D (va_A [] sz) (fun r (_ : Unit) => r = sp_Rv_quotient f x y) (z0) (fun _ => [])) (va_A [] sz) := by
  refine zstart (Qc := fun A => zQi D A (fun r (_ : Unit) => r = sp_Rv_quotient f x y) (z0) (fun _ => [])) (by decide) (Nat.le_of_ble_eq_true rfl) ?_
  intro p e s m below meth c ls A hE hr hlocks hin hsz hK hP hD hS hA hAe hl
  have hx := hE.1
  have hb := hE.2.1
  have hown := hE.2.2.2.1
  have hw := hE.2.2.2.2
  have hl : lv_has ls 3 [(0, .int f), (1, .int x), (2, .int y)] := hl
  refine lv_iload_n hx hb d_Rv_quotient_0 rfl (lv_at hl 2 rfl) ?_
  refine lv_if_ne (tgt := 16) hx hb d_Rv_quotient_1 (by decide) (fun h1 => ?_) (fun h1 => ?_)
  · refine lv_iload_n hx hb d_Rv_quotient_16 rfl (lv_at hl 0 rfl) ?_
    rcases Decidable.em (f = 4) with h2 | h2
    · refine lv_tableIn (tgt := 44) hx hb d_Rv_quotient_17 (by rw [h2]; decide) (by rw [h2]; decide) (by rw [h2]; rfl) (by decide) ?_
      refine lv_iload_n hx hb d_Rv_quotient_44 rfl (lv_at hl 1 rfl) ?_
      refine lv_i2l (v := (x : Int32).toInt64) hx hb d_Rv_quotient_45 rfl ?_
      refine lv_iload_n hx hb d_Rv_quotient_46 rfl (lv_at hl 2 rfl) ?_
      refine lv_i2l (v := (y : Int32).toInt64) hx hb d_Rv_quotient_47 rfl ?_
      refine lv_ldiv hx hb d_Rv_quotient_48 (z_nz1 h1) ?_
      refine lv_l2i (v := (((x : Int32).toInt64) / ((y : Int32).toInt64) : Int64).toInt32) hx hb d_Rv_quotient_49 rfl ?_
      exact zreti hx hb hr rfl hlocks hS () (by rw [sp_Rv_quotient, if_neg h1, if_pos h2]) rfl hP hD d_Rv_quotient_50
    · rcases Decidable.em (f = 5) with h3 | h3
      · refine lv_tableIn (tgt := 51) hx hb d_Rv_quotient_17 (by rw [h3]; decide) (by rw [h3]; decide) (by rw [h3]; rfl) (by decide) ?_
        refine lv_iload_n hx hb d_Rv_quotient_51 rfl (lv_at hl 1 rfl) ?_
        refine zgol (wr := []) (zrunS (n := 1) (As := [.int x]) (rest := []) hE (c_Rv_unsigned l D _ _ x) cb_Rv_unsigned lk_Rv_193 st_Rv_unsigned (zpreS hK hP hD [] rfl rfl rfl) ⟨Nat.le_of_ble_eq_true rfl, Nat.le_of_ble_eq_true rfl, Nat.le_of_ble_eq_true rfl, Nat.le_of_ble_eq_true rfl⟩ rfl hl.1 rfl (Nat.le_of_ble_eq_true rfl) d_Rv_quotient_52) hP hD hS hA [] [] rfl rfl rfl (by decide) (fun r u H locs hq4 hP hD hS => ?_)
        subst hq4
        have hP : va_P D zC [] H := hP
        have hD : va_D A [] := hD
        refine lv_iload_n hx hb d_Rv_quotient_55 rfl (lv_at hl 2 rfl) ?_
        refine zgol (wr := []) (zrunS (n := 1) (As := [.int y]) (rest := [.long (sp_Rv_unsigned x)]) hE (c_Rv_unsigned l D _ _ y) cb_Rv_unsigned lk_Rv_193 st_Rv_unsigned (zpreS hK hP hD [] rfl rfl rfl) ⟨Nat.le_of_ble_eq_true rfl, Nat.le_of_ble_eq_true rfl, Nat.le_of_ble_eq_true rfl, Nat.le_of_ble_eq_true rfl⟩ rfl hl.1 rfl (Nat.le_of_ble_eq_true rfl) d_Rv_quotient_56) hP hD hS hA [] [] rfl rfl rfl (by decide) (fun r u H locs hq5 hP hD hS => ?_)
        subst hq5
        have hP : va_P D zC [] H := hP
        have hD : va_D A [] := hD
        refine lv_ldiv hx hb d_Rv_quotient_59 (z_nz2 h1) ?_
        refine lv_l2i (v := ((sp_Rv_unsigned x) / (sp_Rv_unsigned y) : Int64).toInt32) hx hb d_Rv_quotient_60 rfl ?_
        exact zreti hx hb hr rfl hlocks hS () (by rw [sp_Rv_quotient, if_neg h1, if_neg h2, if_pos h3]) rfl hP hD d_Rv_quotient_61
      · rcases Decidable.em (f = 6) with h6 | h6
        · refine lv_tableIn (tgt := 62) hx hb d_Rv_quotient_17 (by rw [h6]; decide) (by rw [h6]; decide) (by rw [h6]; rfl) (by decide) ?_
          refine lv_iload_n hx hb d_Rv_quotient_62 rfl (lv_at hl 1 rfl) ?_
          refine lv_i2l (v := (x : Int32).toInt64) hx hb d_Rv_quotient_63 rfl ?_
          refine lv_iload_n hx hb d_Rv_quotient_64 rfl (lv_at hl 2 rfl) ?_
          refine lv_i2l (v := (y : Int32).toInt64) hx hb d_Rv_quotient_65 rfl ?_
          refine lv_lrem hx hb d_Rv_quotient_66 (z_nz1 h1) ?_
          refine lv_l2i (v := (((x : Int32).toInt64) - ((x : Int32).toInt64) / ((y : Int32).toInt64) * ((y : Int32).toInt64) : Int64).toInt32) hx hb d_Rv_quotient_67 rfl ?_
          exact zreti hx hb hr rfl hlocks hS () (by rw [sp_Rv_quotient, if_neg h1, if_neg h2, if_neg h3, if_pos h6]) rfl hP hD d_Rv_quotient_68
        · refine lv_tableOut (tgt := 69) hx hb d_Rv_quotient_17 (by have q0 := z_ne h2 (n := 4) (by decide); have q1 := z_ne h3 (n := 5) (by decide); have q2 := z_ne h6 (n := 6) (by decide); omega) (by decide) ?_
          refine lv_iload_n hx hb d_Rv_quotient_69 rfl (lv_at hl 1 rfl) ?_
          refine zgol (wr := []) (zrunS (n := 1) (As := [.int x]) (rest := []) hE (c_Rv_unsigned l D _ _ x) cb_Rv_unsigned lk_Rv_193 st_Rv_unsigned (zpreS hK hP hD [] rfl rfl rfl) ⟨Nat.le_of_ble_eq_true rfl, Nat.le_of_ble_eq_true rfl, Nat.le_of_ble_eq_true rfl, Nat.le_of_ble_eq_true rfl⟩ rfl hl.1 rfl (Nat.le_of_ble_eq_true rfl) d_Rv_quotient_70) hP hD hS hA [] [] rfl rfl rfl (by decide) (fun r u H locs hq7 hP hD hS => ?_)
          subst hq7
          have hP : va_P D zC [] H := hP
          have hD : va_D A [] := hD
          refine lv_iload_n hx hb d_Rv_quotient_73 rfl (lv_at hl 2 rfl) ?_
          refine zgol (wr := []) (zrunS (n := 1) (As := [.int y]) (rest := [.long (sp_Rv_unsigned x)]) hE (c_Rv_unsigned l D _ _ y) cb_Rv_unsigned lk_Rv_193 st_Rv_unsigned (zpreS hK hP hD [] rfl rfl rfl) ⟨Nat.le_of_ble_eq_true rfl, Nat.le_of_ble_eq_true rfl, Nat.le_of_ble_eq_true rfl, Nat.le_of_ble_eq_true rfl⟩ rfl hl.1 rfl (Nat.le_of_ble_eq_true rfl) d_Rv_quotient_74) hP hD hS hA [] [] rfl rfl rfl (by decide) (fun r u H locs hq8 hP hD hS => ?_)
          subst hq8
          have hP : va_P D zC [] H := hP
          have hD : va_D A [] := hD
          refine lv_lrem hx hb d_Rv_quotient_77 (z_nz2 h1) ?_
          refine lv_l2i (v := ((sp_Rv_unsigned x) - (sp_Rv_unsigned x) / (sp_Rv_unsigned y) * (sp_Rv_unsigned y) : Int64).toInt32) hx hb d_Rv_quotient_78 rfl ?_
          exact zreti hx hb hr rfl hlocks hS () (by rw [sp_Rv_quotient, if_neg h1, if_neg h2, if_neg h3, if_neg h6]) rfl hP hD d_Rv_quotient_79
  · refine lv_iload_n hx hb d_Rv_quotient_4 rfl (lv_at hl 0 rfl) ?_
    refine lv_bipush (v := 6) hx hb d_Rv_quotient_5 (by decide) ?_
    refine lv_icmp_ge (tgt := 14) hx hb d_Rv_quotient_7 (by decide) (fun h9 => ?_) (fun h9 => ?_)
    · refine lv_iload_n hx hb d_Rv_quotient_14 rfl (lv_at hl 1 rfl) ?_
      exact zreti hx hb hr rfl hlocks hS () (by rw [sp_Rv_quotient, if_pos h1, if_pos h9]) rfl hP hD d_Rv_quotient_15
    · refine lv_iconst (v := (-1)) hx hb d_Rv_quotient_10 (by decide) ?_
      refine lv_goto (tgt := 15) hx hb d_Rv_quotient_11 (by decide) ?_
      exact zreti hx hb hr rfl hlocks hS () (by rw [sp_Rv_quotient, if_pos h1, if_neg h9]) rfl hP hD d_Rv_quotient_15

def sp_Rv_doneIf (b : Int32) : Int32 := if b = 0 then 4 else 0
set_option maxHeartbeats 4000000 in
theorem c_Rv_doneIf (l : Launch) (D : va_G) (T : List (ClassId × FieldType)) (sz : Nat) (b : Int32) : zMet l y_Rv_doneIf (zWs y_Rv_doneIf b_Rv_doneIf 1 (some .int)) { frames := 0, cells := 0, slots := 0, locals := 0 } (zPc D T sz [] [.int b]) (zQi D (va_A [] sz) (fun r (_ : Unit) => r = sp_Rv_doneIf b) (z0) (fun _ => [])) (va_A [] sz) := by
  refine zstart (Qc := fun A => zQi D A (fun r (_ : Unit) => r = sp_Rv_doneIf b) (z0) (fun _ => [])) (by decide) (Nat.le_of_ble_eq_true rfl) ?_
  intro p e s m below meth c ls A hE hr hlocks hin hsz hK hP hD hS hA hAe hl
  have hx := hE.1
  have hb := hE.2.1
  have hown := hE.2.2.2.1
  have hw := hE.2.2.2.2
  have hl : lv_has ls 1 [(0, .int b)] := hl
  refine lv_iload_n hx hb d_Rv_doneIf_0 rfl (lv_at hl 0 rfl) ?_
  refine lv_if_eq (tgt := 8) hx hb d_Rv_doneIf_1 (by decide) (fun h1 => ?_) (fun h1 => ?_)
  · refine lv_iconst (v := 4) hx hb d_Rv_doneIf_8 (by decide) ?_
    exact zreti hx hb hr rfl hlocks hS () (by rw [sp_Rv_doneIf, if_pos h1]) rfl hP hD d_Rv_doneIf_9
  · refine lv_iconst (v := 0) hx hb d_Rv_doneIf_4 (by decide) ?_
    refine lv_goto (tgt := 9) hx hb d_Rv_doneIf_5 (by decide) ?_
    exact zreti hx hb hr rfl hlocks hS () (by rw [sp_Rv_doneIf, if_neg h1]) rfl hP hD d_Rv_doneIf_9

def sp_Me_roundedUp (x : Int32) : Int32 := (x + 3) &&& (-4)
set_option maxHeartbeats 4000000 in
theorem c_Me_roundedUp (l : Launch) (D : va_G) (T : List (ClassId × FieldType)) (sz : Nat) (x : Int32) : zMet l y_Me_roundedUp (zWs y_Me_roundedUp b_Me_roundedUp 1 (some .int)) { frames := 0, cells := 0, slots := 0, locals := 0 } (zPc D T sz [] [.int x]) (zQi D (va_A [] sz) (fun r (_ : Unit) => r = sp_Me_roundedUp x) (z0) (fun _ => [])) (va_A [] sz) := by
  refine zstart (Qc := fun A => zQi D A (fun r (_ : Unit) => r = sp_Me_roundedUp x) (z0) (fun _ => [])) (by decide) (Nat.le_of_ble_eq_true rfl) ?_
  intro p e s m below meth c ls A hE hr hlocks hin hsz hK hP hD hS hA hAe hl
  have hx := hE.1
  have hb := hE.2.1
  have hown := hE.2.2.2.1
  have hw := hE.2.2.2.2
  have hl : lv_has ls 1 [(0, .int x)] := hl
  refine lv_iload_n hx hb d_Me_roundedUp_0 rfl (lv_at hl 0 rfl) ?_
  refine lv_iconst (v := 3) hx hb d_Me_roundedUp_1 (by decide) ?_
  refine lv_iadd hx hb d_Me_roundedUp_2 ?_
  refine lv_bipush (v := (-4)) hx hb d_Me_roundedUp_3 (by decide) ?_
  refine lv_iand hx hb d_Me_roundedUp_5 ?_
  exact zreti hx hb hr rfl hlocks hS () rfl rfl hP hD d_Me_roundedUp_6
end
section
/-! decode rows -/
theorem d_Rv_firstOperand_0 : decode b_Rv_firstOperand 0 = .ok (.aload_n 0, 1) := by decide +kernel
theorem d_Rv_firstOperand_1 : decode b_Rv_firstOperand 1 = .ok (.getfield 13, 3) := by decide +kernel
theorem d_Rv_firstOperand_4 : decode b_Rv_firstOperand 4 = .ok (.iload_n 1, 1) := by decide +kernel
theorem d_Rv_firstOperand_5 : decode b_Rv_firstOperand 5 = .ok (.bipush 15, 2) := by decide +kernel
theorem d_Rv_firstOperand_7 : decode b_Rv_firstOperand 7 = .ok (.iushr, 1) := by decide +kernel
theorem d_Rv_firstOperand_8 : decode b_Rv_firstOperand 8 = .ok (.bipush 31, 2) := by decide +kernel
theorem d_Rv_firstOperand_10 : decode b_Rv_firstOperand 10 = .ok (.iand, 1) := by decide +kernel
theorem d_Rv_firstOperand_11 : decode b_Rv_firstOperand 11 = .ok (.iaload, 1) := by decide +kernel
theorem d_Rv_firstOperand_12 : decode b_Rv_firstOperand 12 = .ok (.ireturn, 1) := by decide +kernel
theorem d_Rv_secondOperand_0 : decode b_Rv_secondOperand 0 = .ok (.aload_n 0, 1) := by decide +kernel
theorem d_Rv_secondOperand_1 : decode b_Rv_secondOperand 1 = .ok (.getfield 13, 3) := by decide +kernel
theorem d_Rv_secondOperand_4 : decode b_Rv_secondOperand 4 = .ok (.iload_n 1, 1) := by decide +kernel
theorem d_Rv_secondOperand_5 : decode b_Rv_secondOperand 5 = .ok (.bipush 20, 2) := by decide +kernel
theorem d_Rv_secondOperand_7 : decode b_Rv_secondOperand 7 = .ok (.iushr, 1) := by decide +kernel
theorem d_Rv_secondOperand_8 : decode b_Rv_secondOperand 8 = .ok (.bipush 31, 2) := by decide +kernel
theorem d_Rv_secondOperand_10 : decode b_Rv_secondOperand 10 = .ok (.iand, 1) := by decide +kernel
theorem d_Rv_secondOperand_11 : decode b_Rv_secondOperand 11 = .ok (.iaload, 1) := by decide +kernel
theorem d_Rv_secondOperand_12 : decode b_Rv_secondOperand 12 = .ok (.ireturn, 1) := by decide +kernel
theorem d_Rv_keep_0 : decode b_Rv_keep 0 = .ok (.iload_n 1, 1) := by decide +kernel
theorem d_Rv_keep_1 : decode b_Rv_keep 1 = .ok (.bipush 7, 2) := by decide +kernel
theorem d_Rv_keep_3 : decode b_Rv_keep 3 = .ok (.iushr, 1) := by decide +kernel
theorem d_Rv_keep_4 : decode b_Rv_keep 4 = .ok (.bipush 31, 2) := by decide +kernel
theorem d_Rv_keep_6 : decode b_Rv_keep 6 = .ok (.iand, 1) := by decide +kernel
theorem d_Rv_keep_7 : decode b_Rv_keep 7 = .ok (.istore_n 3, 1) := by decide +kernel
theorem d_Rv_keep_8 : decode b_Rv_keep 8 = .ok (.iload_n 3, 1) := by decide +kernel
theorem d_Rv_keep_9 : decode b_Rv_keep 9 = .ok (.ifCond .eq 10, 3) := by decide +kernel
theorem d_Rv_keep_12 : decode b_Rv_keep 12 = .ok (.aload_n 0, 1) := by decide +kernel
theorem d_Rv_keep_13 : decode b_Rv_keep 13 = .ok (.getfield 13, 3) := by decide +kernel
theorem d_Rv_keep_16 : decode b_Rv_keep 16 = .ok (.iload_n 3, 1) := by decide +kernel
theorem d_Rv_keep_17 : decode b_Rv_keep 17 = .ok (.iload_n 2, 1) := by decide +kernel
theorem d_Rv_keep_18 : decode b_Rv_keep 18 = .ok (.iastore, 1) := by decide +kernel
theorem d_Rv_keep_19 : decode b_Rv_keep 19 = .ok (.iconst 0, 1) := by decide +kernel
theorem d_Rv_keep_20 : decode b_Rv_keep 20 = .ok (.ireturn, 1) := by decide +kernel
theorem d_Rv_goTo_0 : decode b_Rv_goTo 0 = .ok (.iload_n 1, 1) := by decide +kernel
theorem d_Rv_goTo_1 : decode b_Rv_goTo 1 = .ok (.iconst 3, 1) := by decide +kernel
theorem d_Rv_goTo_2 : decode b_Rv_goTo 2 = .ok (.iand, 1) := by decide +kernel
theorem d_Rv_goTo_3 : decode b_Rv_goTo 3 = .ok (.ifCond .eq 5, 3) := by decide +kernel
theorem d_Rv_goTo_6 : decode b_Rv_goTo 6 = .ok (.iconst 3, 1) := by decide +kernel
theorem d_Rv_goTo_7 : decode b_Rv_goTo 7 = .ok (.ireturn, 1) := by decide +kernel
theorem d_Rv_goTo_8 : decode b_Rv_goTo 8 = .ok (.aload_n 0, 1) := by decide +kernel
theorem d_Rv_goTo_9 : decode b_Rv_goTo 9 = .ok (.iload_n 1, 1) := by decide +kernel
theorem d_Rv_goTo_10 : decode b_Rv_goTo 10 = .ok (.putfield 113, 3) := by decide +kernel
theorem d_Rv_goTo_13 : decode b_Rv_goTo 13 = .ok (.iconst 0, 1) := by decide +kernel
theorem d_Rv_goTo_14 : decode b_Rv_goTo 14 = .ok (.ireturn, 1) := by decide +kernel
theorem d_Rv_jump_0 : decode b_Rv_jump 0 = .ok (.aload_n 0, 1) := by decide +kernel
theorem d_Rv_jump_1 : decode b_Rv_jump 1 = .ok (.iload_n 2, 1) := by decide +kernel
theorem d_Rv_jump_2 : decode b_Rv_jump 2 = .ok (.invokevirtual 155, 3) := by decide +kernel
theorem d_Rv_jump_5 : decode b_Rv_jump 5 = .ok (.istore_n 3, 1) := by decide +kernel
theorem d_Rv_jump_6 : decode b_Rv_jump 6 = .ok (.iload_n 3, 1) := by decide +kernel
theorem d_Rv_jump_7 : decode b_Rv_jump 7 = .ok (.ifCond .ne 17, 3) := by decide +kernel
theorem d_Rv_jump_10 : decode b_Rv_jump 10 = .ok (.aload_n 0, 1) := by decide +kernel
theorem d_Rv_jump_11 : decode b_Rv_jump 11 = .ok (.iload_n 1, 1) := by decide +kernel
theorem d_Rv_jump_12 : decode b_Rv_jump 12 = .ok (.aload_n 0, 1) := by decide +kernel
theorem d_Rv_jump_13 : decode b_Rv_jump 13 = .ok (.getfield 65, 3) := by decide +kernel
theorem d_Rv_jump_16 : decode b_Rv_jump 16 = .ok (.iconst 4, 1) := by decide +kernel
theorem d_Rv_jump_17 : decode b_Rv_jump 17 = .ok (.iadd, 1) := by decide +kernel
theorem d_Rv_jump_18 : decode b_Rv_jump 18 = .ok (.invokevirtual 120, 3) := by decide +kernel
theorem d_Rv_jump_21 : decode b_Rv_jump 21 = .ok (.goto 4, 3) := by decide +kernel
theorem d_Rv_jump_24 : decode b_Rv_jump 24 = .ok (.iload_n 3, 1) := by decide +kernel
theorem d_Rv_jump_25 : decode b_Rv_jump 25 = .ok (.ireturn, 1) := by decide +kernel
theorem d_Rv_jumpByRegister_0 : decode b_Rv_jumpByRegister 0 = .ok (.iload_n 1, 1) := by decide +kernel
theorem d_Rv_jumpByRegister_1 : decode b_Rv_jumpByRegister 1 = .ok (.invokestatic 147, 3) := by decide +kernel
theorem d_Rv_jumpByRegister_4 : decode b_Rv_jumpByRegister 4 = .ok (.ifCond .eq 5, 3) := by decide +kernel
theorem d_Rv_jumpByRegister_7 : decode b_Rv_jumpByRegister 7 = .ok (.iconst 1, 1) := by decide +kernel
theorem d_Rv_jumpByRegister_8 : decode b_Rv_jumpByRegister 8 = .ok (.ireturn, 1) := by decide +kernel
theorem d_Rv_jumpByRegister_9 : decode b_Rv_jumpByRegister 9 = .ok (.aload_n 0, 1) := by decide +kernel
theorem d_Rv_jumpByRegister_10 : decode b_Rv_jumpByRegister 10 = .ok (.iload_n 1, 1) := by decide +kernel
theorem d_Rv_jumpByRegister_11 : decode b_Rv_jumpByRegister 11 = .ok (.aload_n 0, 1) := by decide +kernel
theorem d_Rv_jumpByRegister_12 : decode b_Rv_jumpByRegister 12 = .ok (.iload_n 1, 1) := by decide +kernel
theorem d_Rv_jumpByRegister_13 : decode b_Rv_jumpByRegister 13 = .ok (.invokevirtual 158, 3) := by decide +kernel
theorem d_Rv_jumpByRegister_16 : decode b_Rv_jumpByRegister 16 = .ok (.iload_n 1, 1) := by decide +kernel
theorem d_Rv_jumpByRegister_17 : decode b_Rv_jumpByRegister 17 = .ok (.bipush 20, 2) := by decide +kernel
theorem d_Rv_jumpByRegister_19 : decode b_Rv_jumpByRegister 19 = .ok (.ishr, 1) := by decide +kernel
theorem d_Rv_jumpByRegister_20 : decode b_Rv_jumpByRegister 20 = .ok (.iadd, 1) := by decide +kernel
theorem d_Rv_jumpByRegister_21 : decode b_Rv_jumpByRegister 21 = .ok (.bipush (-2), 2) := by decide +kernel
theorem d_Rv_jumpByRegister_23 : decode b_Rv_jumpByRegister 23 = .ok (.iand, 1) := by decide +kernel
theorem d_Rv_jumpByRegister_24 : decode b_Rv_jumpByRegister 24 = .ok (.invokevirtual 126, 3) := by decide +kernel
theorem d_Rv_jumpByRegister_27 : decode b_Rv_jumpByRegister 27 = .ok (.ireturn, 1) := by decide +kernel
theorem d_Rv_branch_0 : decode b_Rv_branch 0 = .ok (.aload_n 0, 1) := by decide +kernel
theorem d_Rv_branch_1 : decode b_Rv_branch 1 = .ok (.iload_n 1, 1) := by decide +kernel
theorem d_Rv_branch_2 : decode b_Rv_branch 2 = .ok (.invokevirtual 158, 3) := by decide +kernel
theorem d_Rv_branch_5 : decode b_Rv_branch 5 = .ok (.istore_n 2, 1) := by decide +kernel
theorem d_Rv_branch_6 : decode b_Rv_branch 6 = .ok (.aload_n 0, 1) := by decide +kernel
theorem d_Rv_branch_7 : decode b_Rv_branch 7 = .ok (.iload_n 1, 1) := by decide +kernel
theorem d_Rv_branch_8 : decode b_Rv_branch 8 = .ok (.invokevirtual 161, 3) := by decide +kernel
theorem d_Rv_branch_11 : decode b_Rv_branch 11 = .ok (.istore_n 3, 1) := by decide +kernel
theorem d_Rv_branch_12 : decode b_Rv_branch 12 = .ok (.iload_n 1, 1) := by decide +kernel
theorem d_Rv_branch_13 : decode b_Rv_branch 13 = .ok (.invokestatic 147, 3) := by decide +kernel
theorem d_Rv_branch_16 : decode b_Rv_branch 16 = .ok (.tableswitch 136 0 7 #[48, 63, 136, 136, 78, 93, 108, 118], 48) := by decide +kernel
theorem d_Rv_branch_64 : decode b_Rv_branch 64 = .ok (.iload_n 2, 1) := by decide +kernel
theorem d_Rv_branch_65 : decode b_Rv_branch 65 = .ok (.iload_n 3, 1) := by decide +kernel
theorem d_Rv_branch_66 : decode b_Rv_branch 66 = .ok (.if_icmp .ne 7, 3) := by decide +kernel
theorem d_Rv_branch_69 : decode b_Rv_branch 69 = .ok (.iconst 1, 1) := by decide +kernel
theorem d_Rv_branch_70 : decode b_Rv_branch 70 = .ok (.goto 4, 3) := by decide +kernel
theorem d_Rv_branch_73 : decode b_Rv_branch 73 = .ok (.iconst 0, 1) := by decide +kernel
theorem d_Rv_branch_74 : decode b_Rv_branch 74 = .ok (.istore 4, 2) := by decide +kernel
theorem d_Rv_branch_76 : decode b_Rv_branch 76 = .ok (.goto 78, 3) := by decide +kernel
theorem d_Rv_branch_79 : decode b_Rv_branch 79 = .ok (.iload_n 2, 1) := by decide +kernel
theorem d_Rv_branch_80 : decode b_Rv_branch 80 = .ok (.iload_n 3, 1) := by decide +kernel
theorem d_Rv_branch_81 : decode b_Rv_branch 81 = .ok (.if_icmp .eq 7, 3) := by decide +kernel
theorem d_Rv_branch_84 : decode b_Rv_branch 84 = .ok (.iconst 1, 1) := by decide +kernel
theorem d_Rv_branch_85 : decode b_Rv_branch 85 = .ok (.goto 4, 3) := by decide +kernel
theorem d_Rv_branch_88 : decode b_Rv_branch 88 = .ok (.iconst 0, 1) := by decide +kernel
theorem d_Rv_branch_89 : decode b_Rv_branch 89 = .ok (.istore 4, 2) := by decide +kernel
theorem d_Rv_branch_91 : decode b_Rv_branch 91 = .ok (.goto 63, 3) := by decide +kernel
theorem d_Rv_branch_94 : decode b_Rv_branch 94 = .ok (.iload_n 2, 1) := by decide +kernel
theorem d_Rv_branch_95 : decode b_Rv_branch 95 = .ok (.iload_n 3, 1) := by decide +kernel
theorem d_Rv_branch_96 : decode b_Rv_branch 96 = .ok (.if_icmp .ge 7, 3) := by decide +kernel
theorem d_Rv_branch_99 : decode b_Rv_branch 99 = .ok (.iconst 1, 1) := by decide +kernel
theorem d_Rv_branch_100 : decode b_Rv_branch 100 = .ok (.goto 4, 3) := by decide +kernel
theorem d_Rv_branch_103 : decode b_Rv_branch 103 = .ok (.iconst 0, 1) := by decide +kernel
theorem d_Rv_branch_104 : decode b_Rv_branch 104 = .ok (.istore 4, 2) := by decide +kernel
theorem d_Rv_branch_106 : decode b_Rv_branch 106 = .ok (.goto 48, 3) := by decide +kernel
theorem d_Rv_branch_109 : decode b_Rv_branch 109 = .ok (.iload_n 2, 1) := by decide +kernel
theorem d_Rv_branch_110 : decode b_Rv_branch 110 = .ok (.iload_n 3, 1) := by decide +kernel
theorem d_Rv_branch_111 : decode b_Rv_branch 111 = .ok (.if_icmp .lt 7, 3) := by decide +kernel
theorem d_Rv_branch_114 : decode b_Rv_branch 114 = .ok (.iconst 1, 1) := by decide +kernel
theorem d_Rv_branch_115 : decode b_Rv_branch 115 = .ok (.goto 4, 3) := by decide +kernel
theorem d_Rv_branch_118 : decode b_Rv_branch 118 = .ok (.iconst 0, 1) := by decide +kernel
theorem d_Rv_branch_119 : decode b_Rv_branch 119 = .ok (.istore 4, 2) := by decide +kernel
theorem d_Rv_branch_121 : decode b_Rv_branch 121 = .ok (.goto 33, 3) := by decide +kernel
theorem d_Rv_branch_124 : decode b_Rv_branch 124 = .ok (.iload_n 2, 1) := by decide +kernel
theorem d_Rv_branch_125 : decode b_Rv_branch 125 = .ok (.iload_n 3, 1) := by decide +kernel
theorem d_Rv_branch_126 : decode b_Rv_branch 126 = .ok (.invokestatic 164, 3) := by decide +kernel
theorem d_Rv_branch_129 : decode b_Rv_branch 129 = .ok (.istore 4, 2) := by decide +kernel
theorem d_Rv_branch_131 : decode b_Rv_branch 131 = .ok (.goto 23, 3) := by decide +kernel
theorem d_Rv_branch_134 : decode b_Rv_branch 134 = .ok (.iload_n 2, 1) := by decide +kernel
theorem d_Rv_branch_135 : decode b_Rv_branch 135 = .ok (.iload_n 3, 1) := by decide +kernel
theorem d_Rv_branch_136 : decode b_Rv_branch 136 = .ok (.invokestatic 164, 3) := by decide +kernel
theorem d_Rv_branch_139 : decode b_Rv_branch 139 = .ok (.ifCond .ne 7, 3) := by decide +kernel
theorem d_Rv_branch_142 : decode b_Rv_branch 142 = .ok (.iconst 1, 1) := by decide +kernel
theorem d_Rv_branch_143 : decode b_Rv_branch 143 = .ok (.goto 4, 3) := by decide +kernel
theorem d_Rv_branch_146 : decode b_Rv_branch 146 = .ok (.iconst 0, 1) := by decide +kernel
theorem d_Rv_branch_147 : decode b_Rv_branch 147 = .ok (.istore 4, 2) := by decide +kernel
theorem d_Rv_branch_149 : decode b_Rv_branch 149 = .ok (.goto 5, 3) := by decide +kernel
theorem d_Rv_branch_152 : decode b_Rv_branch 152 = .ok (.iconst 1, 1) := by decide +kernel
theorem d_Rv_branch_153 : decode b_Rv_branch 153 = .ok (.ireturn, 1) := by decide +kernel
theorem d_Rv_branch_154 : decode b_Rv_branch 154 = .ok (.iload 4, 2) := by decide +kernel
theorem d_Rv_branch_156 : decode b_Rv_branch 156 = .ok (.ifCond .eq 19, 3) := by decide +kernel
theorem d_Rv_branch_159 : decode b_Rv_branch 159 = .ok (.aload_n 0, 1) := by decide +kernel
theorem d_Rv_branch_160 : decode b_Rv_branch 160 = .ok (.aload_n 0, 1) := by decide +kernel
theorem d_Rv_branch_161 : decode b_Rv_branch 161 = .ok (.getfield 65, 3) := by decide +kernel
theorem d_Rv_branch_164 : decode b_Rv_branch 164 = .ok (.iload_n 1, 1) := by decide +kernel
theorem d_Rv_branch_165 : decode b_Rv_branch 165 = .ok (.invokestatic 167, 3) := by decide +kernel
theorem d_Rv_branch_168 : decode b_Rv_branch 168 = .ok (.iadd, 1) := by decide +kernel
theorem d_Rv_branch_169 : decode b_Rv_branch 169 = .ok (.invokevirtual 155, 3) := by decide +kernel
theorem d_Rv_branch_172 : decode b_Rv_branch 172 = .ok (.goto 4, 3) := by decide +kernel
theorem d_Rv_branch_175 : decode b_Rv_branch 175 = .ok (.iconst 0, 1) := by decide +kernel
theorem d_Rv_branch_176 : decode b_Rv_branch 176 = .ok (.ireturn, 1) := by decide +kernel
theorem d_Rv_operateWithConstant_0 : decode b_Rv_operateWithConstant 0 = .ok (.aload_n 0, 1) := by decide +kernel
theorem d_Rv_operateWithConstant_1 : decode b_Rv_operateWithConstant 1 = .ok (.iload_n 1, 1) := by decide +kernel
theorem d_Rv_operateWithConstant_2 : decode b_Rv_operateWithConstant 2 = .ok (.invokevirtual 158, 3) := by decide +kernel
theorem d_Rv_operateWithConstant_5 : decode b_Rv_operateWithConstant 5 = .ok (.istore_n 2, 1) := by decide +kernel
theorem d_Rv_operateWithConstant_6 : decode b_Rv_operateWithConstant 6 = .ok (.iload_n 1, 1) := by decide +kernel
theorem d_Rv_operateWithConstant_7 : decode b_Rv_operateWithConstant 7 = .ok (.bipush 20, 2) := by decide +kernel
theorem d_Rv_operateWithConstant_9 : decode b_Rv_operateWithConstant 9 = .ok (.ishr, 1) := by decide +kernel
theorem d_Rv_operateWithConstant_10 : decode b_Rv_operateWithConstant 10 = .ok (.istore_n 3, 1) := by decide +kernel
theorem d_Rv_operateWithConstant_11 : decode b_Rv_operateWithConstant 11 = .ok (.iload_n 1, 1) := by decide +kernel
theorem d_Rv_operateWithConstant_12 : decode b_Rv_operateWithConstant 12 = .ok (.invokestatic 147, 3) := by decide +kernel
theorem d_Rv_operateWithConstant_15 : decode b_Rv_operateWithConstant 15 = .ok (.lookupswitch 92 #[(1, 25), (5, 48)], 25) := by decide +kernel
theorem d_Rv_operateWithConstant_40 : decode b_Rv_operateWithConstant 40 = .ok (.iload_n 1, 1) := by decide +kernel
theorem d_Rv_operateWithConstant_41 : decode b_Rv_operateWithConstant 41 = .ok (.invokestatic 180, 3) := by decide +kernel
theorem d_Rv_operateWithConstant_44 : decode b_Rv_operateWithConstant 44 = .ok (.ifCond .ne 17, 3) := by decide +kernel
theorem d_Rv_operateWithConstant_47 : decode b_Rv_operateWithConstant 47 = .ok (.aload_n 0, 1) := by decide +kernel
theorem d_Rv_operateWithConstant_48 : decode b_Rv_operateWithConstant 48 = .ok (.iload_n 1, 1) := by decide +kernel
theorem d_Rv_operateWithConstant_49 : decode b_Rv_operateWithConstant 49 = .ok (.iload_n 2, 1) := by decide +kernel
theorem d_Rv_operateWithConstant_50 : decode b_Rv_operateWithConstant 50 = .ok (.iload_n 3, 1) := by decide +kernel
theorem d_Rv_operateWithConstant_51 : decode b_Rv_operateWithConstant 51 = .ok (.bipush 31, 2) := by decide +kernel
theorem d_Rv_operateWithConstant_53 : decode b_Rv_operateWithConstant 53 = .ok (.iand, 1) := by decide +kernel
theorem d_Rv_operateWithConstant_54 : decode b_Rv_operateWithConstant 54 = .ok (.ishl, 1) := by decide +kernel
theorem d_Rv_operateWithConstant_55 : decode b_Rv_operateWithConstant 55 = .ok (.invokevirtual 120, 3) := by decide +kernel
theorem d_Rv_operateWithConstant_58 : decode b_Rv_operateWithConstant 58 = .ok (.goto 4, 3) := by decide +kernel
theorem d_Rv_operateWithConstant_61 : decode b_Rv_operateWithConstant 61 = .ok (.iconst 1, 1) := by decide +kernel
theorem d_Rv_operateWithConstant_62 : decode b_Rv_operateWithConstant 62 = .ok (.ireturn, 1) := by decide +kernel
theorem d_Rv_operateWithConstant_63 : decode b_Rv_operateWithConstant 63 = .ok (.iload_n 1, 1) := by decide +kernel
theorem d_Rv_operateWithConstant_64 : decode b_Rv_operateWithConstant 64 = .ok (.invokestatic 180, 3) := by decide +kernel
theorem d_Rv_operateWithConstant_67 : decode b_Rv_operateWithConstant 67 = .ok (.bipush 32, 2) := by decide +kernel
theorem d_Rv_operateWithConstant_69 : decode b_Rv_operateWithConstant 69 = .ok (.if_icmp .ne 15, 3) := by decide +kernel
theorem d_Rv_operateWithConstant_72 : decode b_Rv_operateWithConstant 72 = .ok (.aload_n 0, 1) := by decide +kernel
theorem d_Rv_operateWithConstant_73 : decode b_Rv_operateWithConstant 73 = .ok (.iload_n 1, 1) := by decide +kernel
theorem d_Rv_operateWithConstant_74 : decode b_Rv_operateWithConstant 74 = .ok (.iload_n 2, 1) := by decide +kernel
theorem d_Rv_operateWithConstant_75 : decode b_Rv_operateWithConstant 75 = .ok (.iload_n 3, 1) := by decide +kernel
theorem d_Rv_operateWithConstant_76 : decode b_Rv_operateWithConstant 76 = .ok (.bipush 31, 2) := by decide +kernel
theorem d_Rv_operateWithConstant_78 : decode b_Rv_operateWithConstant 78 = .ok (.iand, 1) := by decide +kernel
theorem d_Rv_operateWithConstant_79 : decode b_Rv_operateWithConstant 79 = .ok (.ishr, 1) := by decide +kernel
theorem d_Rv_operateWithConstant_80 : decode b_Rv_operateWithConstant 80 = .ok (.invokevirtual 120, 3) := by decide +kernel
theorem d_Rv_operateWithConstant_83 : decode b_Rv_operateWithConstant 83 = .ok (.ireturn, 1) := by decide +kernel
theorem d_Rv_operateWithConstant_84 : decode b_Rv_operateWithConstant 84 = .ok (.iload_n 1, 1) := by decide +kernel
theorem d_Rv_operateWithConstant_85 : decode b_Rv_operateWithConstant 85 = .ok (.invokestatic 180, 3) := by decide +kernel
theorem d_Rv_operateWithConstant_88 : decode b_Rv_operateWithConstant 88 = .ok (.ifCond .ne 17, 3) := by decide +kernel
theorem d_Rv_operateWithConstant_91 : decode b_Rv_operateWithConstant 91 = .ok (.aload_n 0, 1) := by decide +kernel
theorem d_Rv_operateWithConstant_92 : decode b_Rv_operateWithConstant 92 = .ok (.iload_n 1, 1) := by decide +kernel
theorem d_Rv_operateWithConstant_93 : decode b_Rv_operateWithConstant 93 = .ok (.iload_n 2, 1) := by decide +kernel
theorem d_Rv_operateWithConstant_94 : decode b_Rv_operateWithConstant 94 = .ok (.iload_n 3, 1) := by decide +kernel
theorem d_Rv_operateWithConstant_95 : decode b_Rv_operateWithConstant 95 = .ok (.bipush 31, 2) := by decide +kernel
theorem d_Rv_operateWithConstant_97 : decode b_Rv_operateWithConstant 97 = .ok (.iand, 1) := by decide +kernel
theorem d_Rv_operateWithConstant_98 : decode b_Rv_operateWithConstant 98 = .ok (.iushr, 1) := by decide +kernel
theorem d_Rv_operateWithConstant_99 : decode b_Rv_operateWithConstant 99 = .ok (.invokevirtual 120, 3) := by decide +kernel
theorem d_Rv_operateWithConstant_102 : decode b_Rv_operateWithConstant 102 = .ok (.goto 4, 3) := by decide +kernel
theorem d_Rv_operateWithConstant_105 : decode b_Rv_operateWithConstant 105 = .ok (.iconst 1, 1) := by decide +kernel
theorem d_Rv_operateWithConstant_106 : decode b_Rv_operateWithConstant 106 = .ok (.ireturn, 1) := by decide +kernel
theorem d_Rv_operateWithConstant_107 : decode b_Rv_operateWithConstant 107 = .ok (.aload_n 0, 1) := by decide +kernel
theorem d_Rv_operateWithConstant_108 : decode b_Rv_operateWithConstant 108 = .ok (.iload_n 1, 1) := by decide +kernel
theorem d_Rv_operateWithConstant_109 : decode b_Rv_operateWithConstant 109 = .ok (.iload_n 1, 1) := by decide +kernel
theorem d_Rv_operateWithConstant_110 : decode b_Rv_operateWithConstant 110 = .ok (.invokestatic 147, 3) := by decide +kernel
theorem d_Rv_operateWithConstant_113 : decode b_Rv_operateWithConstant 113 = .ok (.iload_n 2, 1) := by decide +kernel
theorem d_Rv_operateWithConstant_114 : decode b_Rv_operateWithConstant 114 = .ok (.iload_n 3, 1) := by decide +kernel
theorem d_Rv_operateWithConstant_115 : decode b_Rv_operateWithConstant 115 = .ok (.invokestatic 183, 3) := by decide +kernel
theorem d_Rv_operateWithConstant_118 : decode b_Rv_operateWithConstant 118 = .ok (.invokevirtual 120, 3) := by decide +kernel
theorem d_Rv_operateWithConstant_121 : decode b_Rv_operateWithConstant 121 = .ok (.ireturn, 1) := by decide +kernel
theorem d_Rv_operate_0 : decode b_Rv_operate 0 = .ok (.aload_n 0, 1) := by decide +kernel
theorem d_Rv_operate_1 : decode b_Rv_operate 1 = .ok (.iload_n 1, 1) := by decide +kernel
theorem d_Rv_operate_2 : decode b_Rv_operate 2 = .ok (.invokevirtual 158, 3) := by decide +kernel
theorem d_Rv_operate_5 : decode b_Rv_operate 5 = .ok (.istore_n 2, 1) := by decide +kernel
theorem d_Rv_operate_6 : decode b_Rv_operate 6 = .ok (.aload_n 0, 1) := by decide +kernel
theorem d_Rv_operate_7 : decode b_Rv_operate 7 = .ok (.iload_n 1, 1) := by decide +kernel
theorem d_Rv_operate_8 : decode b_Rv_operate 8 = .ok (.invokevirtual 161, 3) := by decide +kernel
theorem d_Rv_operate_11 : decode b_Rv_operate 11 = .ok (.istore_n 3, 1) := by decide +kernel
theorem d_Rv_operate_12 : decode b_Rv_operate 12 = .ok (.iload_n 1, 1) := by decide +kernel
theorem d_Rv_operate_13 : decode b_Rv_operate 13 = .ok (.invokestatic 147, 3) := by decide +kernel
theorem d_Rv_operate_16 : decode b_Rv_operate 16 = .ok (.istore 4, 2) := by decide +kernel
theorem d_Rv_operate_18 : decode b_Rv_operate 18 = .ok (.iload_n 1, 1) := by decide +kernel
theorem d_Rv_operate_19 : decode b_Rv_operate 19 = .ok (.invokestatic 180, 3) := by decide +kernel
theorem d_Rv_operate_22 : decode b_Rv_operate 22 = .ok (.lookupswitch 112 #[(0, 34), (1, 47), (32, 76)], 34) := by decide +kernel
theorem d_Rv_operate_56 : decode b_Rv_operate 56 = .ok (.aload_n 0, 1) := by decide +kernel
theorem d_Rv_operate_57 : decode b_Rv_operate 57 = .ok (.iload_n 1, 1) := by decide +kernel
theorem d_Rv_operate_58 : decode b_Rv_operate 58 = .ok (.iload 4, 2) := by decide +kernel
theorem d_Rv_operate_60 : decode b_Rv_operate 60 = .ok (.iload_n 2, 1) := by decide +kernel
theorem d_Rv_operate_61 : decode b_Rv_operate 61 = .ok (.iload_n 3, 1) := by decide +kernel
theorem d_Rv_operate_62 : decode b_Rv_operate 62 = .ok (.invokestatic 183, 3) := by decide +kernel
theorem d_Rv_operate_65 : decode b_Rv_operate 65 = .ok (.invokevirtual 120, 3) := by decide +kernel
theorem d_Rv_operate_68 : decode b_Rv_operate 68 = .ok (.ireturn, 1) := by decide +kernel
theorem d_Rv_operate_69 : decode b_Rv_operate 69 = .ok (.aload_n 0, 1) := by decide +kernel
theorem d_Rv_operate_70 : decode b_Rv_operate 70 = .ok (.iload_n 1, 1) := by decide +kernel
theorem d_Rv_operate_71 : decode b_Rv_operate 71 = .ok (.iload 4, 2) := by decide +kernel
theorem d_Rv_operate_73 : decode b_Rv_operate 73 = .ok (.iconst 4, 1) := by decide +kernel
theorem d_Rv_operate_74 : decode b_Rv_operate 74 = .ok (.if_icmp .ge 13, 3) := by decide +kernel
theorem d_Rv_operate_77 : decode b_Rv_operate 77 = .ok (.iload 4, 2) := by decide +kernel
theorem d_Rv_operate_79 : decode b_Rv_operate 79 = .ok (.iload_n 2, 1) := by decide +kernel
theorem d_Rv_operate_80 : decode b_Rv_operate 80 = .ok (.iload_n 3, 1) := by decide +kernel
theorem d_Rv_operate_81 : decode b_Rv_operate 81 = .ok (.invokestatic 187, 3) := by decide +kernel
theorem d_Rv_operate_84 : decode b_Rv_operate 84 = .ok (.goto 10, 3) := by decide +kernel
theorem d_Rv_operate_87 : decode b_Rv_operate 87 = .ok (.iload 4, 2) := by decide +kernel
theorem d_Rv_operate_89 : decode b_Rv_operate 89 = .ok (.iload_n 2, 1) := by decide +kernel
theorem d_Rv_operate_90 : decode b_Rv_operate 90 = .ok (.iload_n 3, 1) := by decide +kernel
theorem d_Rv_operate_91 : decode b_Rv_operate 91 = .ok (.invokestatic 190, 3) := by decide +kernel
theorem d_Rv_operate_94 : decode b_Rv_operate 94 = .ok (.invokevirtual 120, 3) := by decide +kernel
theorem d_Rv_operate_97 : decode b_Rv_operate 97 = .ok (.ireturn, 1) := by decide +kernel
theorem d_Rv_operate_98 : decode b_Rv_operate 98 = .ok (.iload 4, 2) := by decide +kernel
theorem d_Rv_operate_100 : decode b_Rv_operate 100 = .ok (.ifCond .ne 12, 3) := by decide +kernel
theorem d_Rv_operate_103 : decode b_Rv_operate 103 = .ok (.aload_n 0, 1) := by decide +kernel
theorem d_Rv_operate_104 : decode b_Rv_operate 104 = .ok (.iload_n 1, 1) := by decide +kernel
theorem d_Rv_operate_105 : decode b_Rv_operate 105 = .ok (.iload_n 2, 1) := by decide +kernel
theorem d_Rv_operate_106 : decode b_Rv_operate 106 = .ok (.iload_n 3, 1) := by decide +kernel
theorem d_Rv_operate_107 : decode b_Rv_operate 107 = .ok (.isub, 1) := by decide +kernel
theorem d_Rv_operate_108 : decode b_Rv_operate 108 = .ok (.invokevirtual 120, 3) := by decide +kernel
theorem d_Rv_operate_111 : decode b_Rv_operate 111 = .ok (.ireturn, 1) := by decide +kernel
theorem d_Rv_operate_112 : decode b_Rv_operate 112 = .ok (.iload 4, 2) := by decide +kernel
theorem d_Rv_operate_114 : decode b_Rv_operate 114 = .ok (.iconst 5, 1) := by decide +kernel
theorem d_Rv_operate_115 : decode b_Rv_operate 115 = .ok (.if_icmp .ne 17, 3) := by decide +kernel
theorem d_Rv_operate_118 : decode b_Rv_operate 118 = .ok (.aload_n 0, 1) := by decide +kernel
theorem d_Rv_operate_119 : decode b_Rv_operate 119 = .ok (.iload_n 1, 1) := by decide +kernel
theorem d_Rv_operate_120 : decode b_Rv_operate 120 = .ok (.iload_n 2, 1) := by decide +kernel
theorem d_Rv_operate_121 : decode b_Rv_operate 121 = .ok (.iload_n 3, 1) := by decide +kernel
theorem d_Rv_operate_122 : decode b_Rv_operate 122 = .ok (.bipush 31, 2) := by decide +kernel
theorem d_Rv_operate_124 : decode b_Rv_operate 124 = .ok (.iand, 1) := by decide +kernel
theorem d_Rv_operate_125 : decode b_Rv_operate 125 = .ok (.ishr, 1) := by decide +kernel
theorem d_Rv_operate_126 : decode b_Rv_operate 126 = .ok (.invokevirtual 120, 3) := by decide +kernel
theorem d_Rv_operate_129 : decode b_Rv_operate 129 = .ok (.goto 4, 3) := by decide +kernel
theorem d_Rv_operate_132 : decode b_Rv_operate 132 = .ok (.iconst 1, 1) := by decide +kernel
theorem d_Rv_operate_133 : decode b_Rv_operate 133 = .ok (.ireturn, 1) := by decide +kernel
theorem d_Rv_operate_134 : decode b_Rv_operate 134 = .ok (.iconst 1, 1) := by decide +kernel
theorem d_Rv_operate_135 : decode b_Rv_operate 135 = .ok (.ireturn, 1) := by decide +kernel
theorem d_Rv_answerAddress_0 : decode b_Rv_answerAddress 0 = .ok (.iload_n 1, 1) := by decide +kernel
theorem d_Rv_answerAddress_1 : decode b_Rv_answerAddress 1 = .ok (.ifCond .ne 5, 3) := by decide +kernel
theorem d_Rv_answerAddress_4 : decode b_Rv_answerAddress 4 = .ok (.iconst 4, 1) := by decide +kernel
theorem d_Rv_answerAddress_5 : decode b_Rv_answerAddress 5 = .ok (.ireturn, 1) := by decide +kernel
theorem d_Rv_answerAddress_6 : decode b_Rv_answerAddress 6 = .ok (.aload_n 0, 1) := by decide +kernel
theorem d_Rv_answerAddress_7 : decode b_Rv_answerAddress 7 = .ok (.getfield 13, 3) := by decide +kernel
theorem d_Rv_answerAddress_10 : decode b_Rv_answerAddress 10 = .ok (.bipush 10, 2) := by decide +kernel
theorem d_Rv_answerAddress_12 : decode b_Rv_answerAddress 12 = .ok (.iload_n 1, 1) := by decide +kernel
theorem d_Rv_answerAddress_13 : decode b_Rv_answerAddress 13 = .ok (.iastore, 1) := by decide +kernel
theorem d_Rv_answerAddress_14 : decode b_Rv_answerAddress 14 = .ok (.iconst 0, 1) := by decide +kernel
theorem d_Rv_answerAddress_15 : decode b_Rv_answerAddress 15 = .ok (.ireturn, 1) := by decide +kernel
def sp_Rv_firstOperand (w : Int32) (rg : Nat → Int32) : Int32 := rg ((zushr w 15) &&& 31).toNatClampNeg
set_option maxHeartbeats 4000000 in
theorem c_Rv_firstOperand (l : Launch) (D : va_G) (cI cB cJ : ClassId) (sz : Nat) (w : Int32) (x : Nat) (wa : Nat) (wc : Int32) (ra : Nat) (ma : Nat) (ua : Nat) (oa : Nat) (ph : Int32) (dn : Int32) (nx : Int32) (fo : Int32) (rg : Nat → Int32) : zMet l y_Rv_firstOperand (zWs y_Rv_firstOperand b_Rv_firstOperand 2 (some .int)) { frames := 0, cells := 0, slots := 0, locals := 0 } (zPc D (zT cI cB cJ) sz [(x, .inr (0, [.ref wa, .int wc, .ref ra, .ref ma, .ref ua, .ref oa, .int ph, .int dn, .int nx, .int fo])), (ra, .inl (cI, 32, .inl (rg)))] [.ref x, .int w]) (zQi D (va_A [(x, .inr (0, [.ref wa, .int wc, .ref ra, .ref ma, .ref ua, .ref oa, .int ph, .int dn, .int nx, .int fo])), (ra, .inl (cI, 32, .inl (rg)))] sz) (fun r (_ : Unit) => r = (sp_Rv_firstOperand w rg)) (z0) (fun _ => [(x, .inr (0, [.ref wa, .int wc, .ref ra, .ref ma, .ref ua, .ref oa, .int ph, .int dn, .int nx, .int fo])), (ra, .inl (cI, 32, .inl (rg)))])) (va_A [(x, .inr (0, [.ref wa, .int wc, .ref ra, .ref ma, .ref ua, .ref oa, .int ph, .int dn, .int nx, .int fo])), (ra, .inl (cI, 32, .inl (rg)))] sz) := by
  refine zstart (Qc := fun A => zQi D A (fun r (_ : Unit) => r = (sp_Rv_firstOperand w rg)) (z0) (fun _ => [(x, .inr (0, [.ref wa, .int wc, .ref ra, .ref ma, .ref ua, .ref oa, .int ph, .int dn, .int nx, .int fo])), (ra, .inl (cI, 32, .inl (rg)))])) (by decide) (Nat.le_of_ble_eq_true rfl) ?_
  intro p e s m below meth c ls A hE hr hlocks hin hsz hK hP hD hS hA hAe hl
  have hx := hE.1
  have hb := hE.2.1
  have hown := hE.2.2.2.1
  have hw := hE.2.2.2.2
  have hl : lv_has ls 2 [(0, .ref x), (1, .int w)] := hl
  refine lv_aload_n hx hb d_Rv_firstOperand_0 rfl (lv_at hl 0 rfl) ?_
  refine zget hE hK hP 0 rfl fd_Rv_13 rfl d_Rv_firstOperand_1 ?_
  refine lv_iload_n hx hb d_Rv_firstOperand_4 rfl (lv_at hl 1 rfl) ?_
  refine lv_bipush (v := 15) hx hb d_Rv_firstOperand_5 (by decide) ?_
  refine lv_iushr (v := zushr w 15) hx hb d_Rv_firstOperand_7 rfl ?_
  refine lv_bipush (v := 31) hx hb d_Rv_firstOperand_8 (by decide) ?_
  refine lv_iand hx hb d_Rv_firstOperand_10 ?_
  refine va_iald hx hb hK hP 1 0 rfl rfl (pk_andIn _ 5 rfl (by decide)) d_Rv_firstOperand_11 ?_
  have hs : (sp_Rv_firstOperand w rg) = rg ((zushr w 15) &&& 31).toNatClampNeg := rfl
  have hP9 := hP.sub (ws' := [(x, .inr (0, [.ref wa, .int wc, .ref ra, .ref ma, .ref ua, .ref oa, .int ph, .int dn, .int nx, .int fo])), (ra, .inl (cI, 32, .inl (rg)))]) [0, 1] rfl
  have hD9 := hD.sub (ws' := [(x, .inr (0, [.ref wa, .int wc, .ref ra, .ref ma, .ref ua, .ref oa, .int ph, .int dn, .int nx, .int fo])), (ra, .inl (cI, 32, .inl (rg)))]) [0, 1] rfl rfl
  exact zreti hx hb hr rfl hlocks hS () (by rw [hs]) rfl (by exact hP9) (by exact hD9) d_Rv_firstOperand_12

def sp_Rv_secondOperand (w : Int32) (rg : Nat → Int32) : Int32 := rg ((zushr w 20) &&& 31).toNatClampNeg
set_option maxHeartbeats 4000000 in
theorem c_Rv_secondOperand (l : Launch) (D : va_G) (cI cB cJ : ClassId) (sz : Nat) (w : Int32) (x : Nat) (wa : Nat) (wc : Int32) (ra : Nat) (ma : Nat) (ua : Nat) (oa : Nat) (ph : Int32) (dn : Int32) (nx : Int32) (fo : Int32) (rg : Nat → Int32) : zMet l y_Rv_secondOperand (zWs y_Rv_secondOperand b_Rv_secondOperand 2 (some .int)) { frames := 0, cells := 0, slots := 0, locals := 0 } (zPc D (zT cI cB cJ) sz [(x, .inr (0, [.ref wa, .int wc, .ref ra, .ref ma, .ref ua, .ref oa, .int ph, .int dn, .int nx, .int fo])), (ra, .inl (cI, 32, .inl (rg)))] [.ref x, .int w]) (zQi D (va_A [(x, .inr (0, [.ref wa, .int wc, .ref ra, .ref ma, .ref ua, .ref oa, .int ph, .int dn, .int nx, .int fo])), (ra, .inl (cI, 32, .inl (rg)))] sz) (fun r (_ : Unit) => r = (sp_Rv_secondOperand w rg)) (z0) (fun _ => [(x, .inr (0, [.ref wa, .int wc, .ref ra, .ref ma, .ref ua, .ref oa, .int ph, .int dn, .int nx, .int fo])), (ra, .inl (cI, 32, .inl (rg)))])) (va_A [(x, .inr (0, [.ref wa, .int wc, .ref ra, .ref ma, .ref ua, .ref oa, .int ph, .int dn, .int nx, .int fo])), (ra, .inl (cI, 32, .inl (rg)))] sz) := by
  refine zstart (Qc := fun A => zQi D A (fun r (_ : Unit) => r = (sp_Rv_secondOperand w rg)) (z0) (fun _ => [(x, .inr (0, [.ref wa, .int wc, .ref ra, .ref ma, .ref ua, .ref oa, .int ph, .int dn, .int nx, .int fo])), (ra, .inl (cI, 32, .inl (rg)))])) (by decide) (Nat.le_of_ble_eq_true rfl) ?_
  intro p e s m below meth c ls A hE hr hlocks hin hsz hK hP hD hS hA hAe hl
  have hx := hE.1
  have hb := hE.2.1
  have hown := hE.2.2.2.1
  have hw := hE.2.2.2.2
  have hl : lv_has ls 2 [(0, .ref x), (1, .int w)] := hl
  refine lv_aload_n hx hb d_Rv_secondOperand_0 rfl (lv_at hl 0 rfl) ?_
  refine zget hE hK hP 0 rfl fd_Rv_13 rfl d_Rv_secondOperand_1 ?_
  refine lv_iload_n hx hb d_Rv_secondOperand_4 rfl (lv_at hl 1 rfl) ?_
  refine lv_bipush (v := 20) hx hb d_Rv_secondOperand_5 (by decide) ?_
  refine lv_iushr (v := zushr w 20) hx hb d_Rv_secondOperand_7 rfl ?_
  refine lv_bipush (v := 31) hx hb d_Rv_secondOperand_8 (by decide) ?_
  refine lv_iand hx hb d_Rv_secondOperand_10 ?_
  refine va_iald hx hb hK hP 1 0 rfl rfl (pk_andIn _ 5 rfl (by decide)) d_Rv_secondOperand_11 ?_
  have hs : (sp_Rv_secondOperand w rg) = rg ((zushr w 20) &&& 31).toNatClampNeg := rfl
  have hP9 := hP.sub (ws' := [(x, .inr (0, [.ref wa, .int wc, .ref ra, .ref ma, .ref ua, .ref oa, .int ph, .int dn, .int nx, .int fo])), (ra, .inl (cI, 32, .inl (rg)))]) [0, 1] rfl
  have hD9 := hD.sub (ws' := [(x, .inr (0, [.ref wa, .int wc, .ref ra, .ref ma, .ref ua, .ref oa, .int ph, .int dn, .int nx, .int fo])), (ra, .inl (cI, 32, .inl (rg)))]) [0, 1] rfl rfl
  exact zreti hx hb hr rfl hlocks hS () (by rw [hs]) rfl (by exact hP9) (by exact hD9) d_Rv_secondOperand_12

def sp_Rv_keep (w : Int32) (v : Int32) (rg : Nat → Int32) : Int32 × (Nat → Int32) := if ((zushr w 7) &&& 31) = 0 then (0, rg) else (0, upd rg ((zushr w 7) &&& 31).toNatClampNeg v)
set_option maxHeartbeats 4000000 in
theorem c_Rv_keep (l : Launch) (D : va_G) (cI cB cJ : ClassId) (sz : Nat) (w : Int32) (v : Int32) (x : Nat) (wa : Nat) (wc : Int32) (ra : Nat) (ma : Nat) (ua : Nat) (oa : Nat) (ph : Int32) (dn : Int32) (nx : Int32) (fo : Int32) (rg : Nat → Int32) : zMet l y_Rv_keep (zWs y_Rv_keep b_Rv_keep 4 (some .int)) { frames := 0, cells := 0, slots := 0, locals := 0 } (zPc D (zT cI cB cJ) sz [(x, .inr (0, [.ref wa, .int wc, .ref ra, .ref ma, .ref ua, .ref oa, .int ph, .int dn, .int nx, .int fo])), (ra, .inl (cI, 32, .inl (rg)))] [.ref x, .int w, .int v]) (zQi D (va_A [(x, .inr (0, [.ref wa, .int wc, .ref ra, .ref ma, .ref ua, .ref oa, .int ph, .int dn, .int nx, .int fo])), (ra, .inl (cI, 32, .inl (rg)))] sz) (fun r (_ : Unit) => r = (sp_Rv_keep w v rg).1) (z0) (fun _ => [(x, .inr (0, [.ref wa, .int wc, .ref ra, .ref ma, .ref ua, .ref oa, .int ph, .int dn, .int nx, .int fo])), (ra, .inl (cI, 32, .inl ((sp_Rv_keep w v rg).2)))])) (va_A [(x, .inr (0, [.ref wa, .int wc, .ref ra, .ref ma, .ref ua, .ref oa, .int ph, .int dn, .int nx, .int fo])), (ra, .inl (cI, 32, .inl (rg)))] sz) := by
  refine zstart (Qc := fun A => zQi D A (fun r (_ : Unit) => r = (sp_Rv_keep w v rg).1) (z0) (fun _ => [(x, .inr (0, [.ref wa, .int wc, .ref ra, .ref ma, .ref ua, .ref oa, .int ph, .int dn, .int nx, .int fo])), (ra, .inl (cI, 32, .inl ((sp_Rv_keep w v rg).2)))])) (by decide) (Nat.le_of_ble_eq_true rfl) ?_
  intro p e s m below meth c ls A hE hr hlocks hin hsz hK hP hD hS hA hAe hl
  have hx := hE.1
  have hb := hE.2.1
  have hown := hE.2.2.2.1
  have hw := hE.2.2.2.2
  have hl : lv_has ls 4 [(0, .ref x), (1, .int w), (2, .int v)] := hl
  refine lv_iload_n hx hb d_Rv_keep_0 rfl (lv_at hl 1 rfl) ?_
  refine lv_bipush (v := 7) hx hb d_Rv_keep_1 (by decide) ?_
  refine lv_iushr (v := zushr w 7) hx hb d_Rv_keep_3 rfl ?_
  refine lv_bipush (v := 31) hx hb d_Rv_keep_4 (by decide) ?_
  refine lv_iand hx hb d_Rv_keep_6 ?_
  refine lv_istore_n (lv' := [(3, .int ((zushr w 7) &&& 31)), (0, .ref x), (1, .int w), (2, .int v)]) hx hb d_Rv_keep_7 rfl hl (by decide) rfl (fun ls hl => ?_)
  refine lv_iload_n hx hb d_Rv_keep_8 rfl (lv_at hl 0 rfl) ?_
  refine lv_if_eq (tgt := 19) hx hb d_Rv_keep_9 (by decide) (fun h1 => ?_) (fun h1 => ?_)
  · refine lv_iconst (v := 0) hx hb d_Rv_keep_19 (by decide) ?_
    have hs : (sp_Rv_keep w v rg) = (0, rg) := by rw [sp_Rv_keep, if_pos h1]
    have hP9 := hP.sub (ws' := [(x, .inr (0, [.ref wa, .int wc, .ref ra, .ref ma, .ref ua, .ref oa, .int ph, .int dn, .int nx, .int fo])), (ra, .inl (cI, 32, .inl (rg)))]) [0, 1] rfl
    have hD9 := hD.sub (ws' := [(x, .inr (0, [.ref wa, .int wc, .ref ra, .ref ma, .ref ua, .ref oa, .int ph, .int dn, .int nx, .int fo])), (ra, .inl (cI, 32, .inl (rg)))]) [0, 1] rfl rfl
    exact zreti hx hb hr rfl hlocks hS () (by rw [hs]) rfl (by rw [hs]; exact hP9) (by rw [hs]; exact hD9) d_Rv_keep_20
  · refine lv_aload_n hx hb d_Rv_keep_12 rfl (lv_at hl 1 rfl) ?_
    refine zget hE hK hP 0 rfl fd_Rv_13 rfl d_Rv_keep_13 ?_
    refine lv_iload_n hx hb d_Rv_keep_16 rfl (lv_at hl 0 rfl) ?_
    refine lv_iload_n hx hb d_Rv_keep_17 rfl (lv_at hl 3 rfl) ?_
    refine va_iast hx hb hK hP hD hS 1 0 rfl rfl (pk_andIn _ 5 rfl (by decide)) d_Rv_keep_18 (fun H locs hP hD hS => ?_)
    have hP : va_P D zC [(x, .inr (0, [.ref wa, .int wc, .ref ra, .ref ma, .ref ua, .ref oa, .int ph, .int dn, .int nx, .int fo])), (ra, .inl (cI, 32, .inl (upd rg ((zushr w 7) &&& 31).toNatClampNeg v)))] H := hP
    have hD : va_D A [(x, .inr (0, [.ref wa, .int wc, .ref ra, .ref ma, .ref ua, .ref oa, .int ph, .int dn, .int nx, .int fo])), (ra, .inl (cI, 32, .inl (upd rg ((zushr w 7) &&& 31).toNatClampNeg v)))] := hD
    refine lv_iconst (v := 0) hx hb d_Rv_keep_19 (by decide) ?_
    have hs : (sp_Rv_keep w v rg) = (0, upd rg ((zushr w 7) &&& 31).toNatClampNeg v) := by rw [sp_Rv_keep, if_neg h1]
    have hP9 := hP.sub (ws' := [(x, .inr (0, [.ref wa, .int wc, .ref ra, .ref ma, .ref ua, .ref oa, .int ph, .int dn, .int nx, .int fo])), (ra, .inl (cI, 32, .inl (upd rg ((zushr w 7) &&& 31).toNatClampNeg v)))]) [0, 1] rfl
    have hD9 := hD.sub (ws' := [(x, .inr (0, [.ref wa, .int wc, .ref ra, .ref ma, .ref ua, .ref oa, .int ph, .int dn, .int nx, .int fo])), (ra, .inl (cI, 32, .inl (upd rg ((zushr w 7) &&& 31).toNatClampNeg v)))]) [0, 1] rfl rfl
    exact zreti hx hb hr rfl hlocks hS () (by rw [hs]) rfl (by rw [hs]; exact hP9) (by rw [hs]; exact hD9) d_Rv_keep_20

def sp_Rv_goTo (ad : Int32) (fo : Int32) : Int32 × Int32 := if (ad &&& 3) = 0 then (0, ad) else (3, fo)
set_option maxHeartbeats 4000000 in
theorem c_Rv_goTo (l : Launch) (D : va_G) (cI cB cJ : ClassId) (sz : Nat) (ad : Int32) (x : Nat) (wa : Nat) (wc : Int32) (ra : Nat) (ma : Nat) (ua : Nat) (oa : Nat) (ph : Int32) (dn : Int32) (nx : Int32) (fo : Int32) : zMet l y_Rv_goTo (zWs y_Rv_goTo b_Rv_goTo 2 (some .int)) { frames := 0, cells := 0, slots := 0, locals := 0 } (zPc D (zT cI cB cJ) sz [(x, .inr (0, [.ref wa, .int wc, .ref ra, .ref ma, .ref ua, .ref oa, .int ph, .int dn, .int nx, .int fo]))] [.ref x, .int ad]) (zQi D (va_A [(x, .inr (0, [.ref wa, .int wc, .ref ra, .ref ma, .ref ua, .ref oa, .int ph, .int dn, .int nx, .int fo]))] sz) (fun r (_ : Unit) => r = (sp_Rv_goTo ad fo).1) (z0) (fun _ => [(x, .inr (0, [.ref wa, .int wc, .ref ra, .ref ma, .ref ua, .ref oa, .int ph, .int dn, .int nx, .int ((sp_Rv_goTo ad fo).2)]))])) (va_A [(x, .inr (0, [.ref wa, .int wc, .ref ra, .ref ma, .ref ua, .ref oa, .int ph, .int dn, .int nx, .int fo]))] sz) := by
  refine zstart (Qc := fun A => zQi D A (fun r (_ : Unit) => r = (sp_Rv_goTo ad fo).1) (z0) (fun _ => [(x, .inr (0, [.ref wa, .int wc, .ref ra, .ref ma, .ref ua, .ref oa, .int ph, .int dn, .int nx, .int ((sp_Rv_goTo ad fo).2)]))])) (by decide) (Nat.le_of_ble_eq_true rfl) ?_
  intro p e s m below meth c ls A hE hr hlocks hin hsz hK hP hD hS hA hAe hl
  have hx := hE.1
  have hb := hE.2.1
  have hown := hE.2.2.2.1
  have hw := hE.2.2.2.2
  have hl : lv_has ls 2 [(0, .ref x), (1, .int ad)] := hl
  refine lv_iload_n hx hb d_Rv_goTo_0 rfl (lv_at hl 1 rfl) ?_
  refine lv_iconst (v := 3) hx hb d_Rv_goTo_1 (by decide) ?_
  refine lv_iand hx hb d_Rv_goTo_2 ?_
  refine lv_if_eq (tgt := 8) hx hb d_Rv_goTo_3 (by decide) (fun h1 => ?_) (fun h1 => ?_)
  · refine lv_aload_n hx hb d_Rv_goTo_8 rfl (lv_at hl 0 rfl) ?_
    refine lv_iload_n hx hb d_Rv_goTo_9 rfl (lv_at hl 1 rfl) ?_
    refine zput (v := .int ad) hE hK hP hD hS 0 rfl fd_Rv_113 ft_Rv_9 rfl rfl (Nat.le_of_ble_eq_true rfl) d_Rv_goTo_10 (fun H locs hP hD hS => ?_)
    have hP : va_P D zC [(x, .inr (0, [.ref wa, .int wc, .ref ra, .ref ma, .ref ua, .ref oa, .int ph, .int dn, .int nx, .int ad]))] H := hP
    have hD : va_D A [(x, .inr (0, [.ref wa, .int wc, .ref ra, .ref ma, .ref ua, .ref oa, .int ph, .int dn, .int nx, .int ad]))] := hD
    refine lv_iconst (v := 0) hx hb d_Rv_goTo_13 (by decide) ?_
    have hs : (sp_Rv_goTo ad fo) = (0, ad) := by rw [sp_Rv_goTo, if_pos h1]
    have hP9 := hP.sub (ws' := [(x, .inr (0, [.ref wa, .int wc, .ref ra, .ref ma, .ref ua, .ref oa, .int ph, .int dn, .int nx, .int ad]))]) [0] rfl
    have hD9 := hD.sub (ws' := [(x, .inr (0, [.ref wa, .int wc, .ref ra, .ref ma, .ref ua, .ref oa, .int ph, .int dn, .int nx, .int ad]))]) [0] rfl rfl
    exact zreti hx hb hr rfl hlocks hS () (by rw [hs]) rfl (by rw [hs]; exact hP9) (by rw [hs]; exact hD9) d_Rv_goTo_14
  · refine lv_iconst (v := 3) hx hb d_Rv_goTo_6 (by decide) ?_
    have hs : (sp_Rv_goTo ad fo) = (3, fo) := by rw [sp_Rv_goTo, if_neg h1]
    have hP9 := hP.sub (ws' := [(x, .inr (0, [.ref wa, .int wc, .ref ra, .ref ma, .ref ua, .ref oa, .int ph, .int dn, .int nx, .int fo]))]) [0] rfl
    have hD9 := hD.sub (ws' := [(x, .inr (0, [.ref wa, .int wc, .ref ra, .ref ma, .ref ua, .ref oa, .int ph, .int dn, .int nx, .int fo]))]) [0] rfl rfl
    exact zreti hx hb hr rfl hlocks hS () (by rw [hs]) rfl (by rw [hs]; exact hP9) (by rw [hs]; exact hD9) d_Rv_goTo_7

def sp_Rv_jump (w : Int32) (ad : Int32) (nx : Int32) (fo : Int32) (rg : Nat → Int32) : Int32 × Int32 × (Nat → Int32) := if ((sp_Rv_goTo ad fo).1) = 0 then ((sp_Rv_keep w (nx + 4) rg).1, (sp_Rv_goTo ad fo).2, (sp_Rv_keep w (nx + 4) rg).2) else ((sp_Rv_goTo ad fo).1, (sp_Rv_goTo ad fo).2, rg)
set_option maxHeartbeats 4000000 in
theorem c_Rv_jump (l : Launch) (D : va_G) (cI cB cJ : ClassId) (sz : Nat) (w : Int32) (ad : Int32) (x : Nat) (wa : Nat) (wc : Int32) (ra : Nat) (ma : Nat) (ua : Nat) (oa : Nat) (ph : Int32) (dn : Int32) (nx : Int32) (fo : Int32) (rg : Nat → Int32) : zMet l y_Rv_jump (zWs y_Rv_jump b_Rv_jump 4 (some .int)) { frames := 1, cells := 0, slots := 0, locals := 23 } (zPc D (zT cI cB cJ) sz [(x, .inr (0, [.ref wa, .int wc, .ref ra, .ref ma, .ref ua, .ref oa, .int ph, .int dn, .int nx, .int fo])), (ra, .inl (cI, 32, .inl (rg)))] [.ref x, .int w, .int ad]) (zQi D (va_A [(x, .inr (0, [.ref wa, .int wc, .ref ra, .ref ma, .ref ua, .ref oa, .int ph, .int dn, .int nx, .int fo])), (ra, .inl (cI, 32, .inl (rg)))] sz) (fun r (_ : Unit) => r = (sp_Rv_jump w ad nx fo rg).1) (z0) (fun _ => [(x, .inr (0, [.ref wa, .int wc, .ref ra, .ref ma, .ref ua, .ref oa, .int ph, .int dn, .int nx, .int ((sp_Rv_jump w ad nx fo rg).2.1)])), (ra, .inl (cI, 32, .inl ((sp_Rv_jump w ad nx fo rg).2.2)))])) (va_A [(x, .inr (0, [.ref wa, .int wc, .ref ra, .ref ma, .ref ua, .ref oa, .int ph, .int dn, .int nx, .int fo])), (ra, .inl (cI, 32, .inl (rg)))] sz) := by
  refine zstart (Qc := fun A => zQi D A (fun r (_ : Unit) => r = (sp_Rv_jump w ad nx fo rg).1) (z0) (fun _ => [(x, .inr (0, [.ref wa, .int wc, .ref ra, .ref ma, .ref ua, .ref oa, .int ph, .int dn, .int nx, .int ((sp_Rv_jump w ad nx fo rg).2.1)])), (ra, .inl (cI, 32, .inl ((sp_Rv_jump w ad nx fo rg).2.2)))])) (by decide) (Nat.le_of_ble_eq_true rfl) ?_
  intro p e s m below meth c ls A hE hr hlocks hin hsz hK hP hD hS hA hAe hl
  have hx := hE.1
  have hb := hE.2.1
  have hown := hE.2.2.2.1
  have hw := hE.2.2.2.2
  have hl : lv_has ls 4 [(0, .ref x), (1, .int w), (2, .int ad)] := hl
  refine lv_aload_n hx hb d_Rv_jump_0 rfl (lv_at hl 0 rfl) ?_
  refine lv_iload_n hx hb d_Rv_jump_1 rfl (lv_at hl 2 rfl) ?_
  refine zgoi (wr := [(ra, .inl (cI, 32, .inl (rg)))]) (zrunV (n := 1) (As := [.int ad]) (rest := []) hE (c_Rv_goTo l D cI cB cJ _ ad x wa wc ra ma ua oa ph dn nx fo) cb_Rv_goTo lk_Rv_155 in_Rv_goTo se_Rv_goTo (zpreV (q0 := 0) hK hP hD rfl rfl rfl [0] rfl rfl rfl) ⟨Nat.le_of_ble_eq_true rfl, Nat.le_of_ble_eq_true rfl, Nat.le_of_ble_eq_true rfl, Nat.le_of_ble_eq_true rfl⟩ rfl hl.1 rfl (Nat.le_of_ble_eq_true rfl) d_Rv_jump_2) hP hD hS hA [0] [1] rfl rfl rfl (by decide) (fun r u H locs hq1 hP hD hS => ?_)
  subst hq1
  have hP : va_P D zC [(ra, .inl (cI, 32, .inl (rg))), (x, .inr (0, [.ref wa, .int wc, .ref ra, .ref ma, .ref ua, .ref oa, .int ph, .int dn, .int nx, .int ((sp_Rv_goTo ad fo).2)]))] H := hP
  have hD : va_D A [(ra, .inl (cI, 32, .inl (rg))), (x, .inr (0, [.ref wa, .int wc, .ref ra, .ref ma, .ref ua, .ref oa, .int ph, .int dn, .int nx, .int ((sp_Rv_goTo ad fo).2)]))] := hD
  refine lv_istore_n (lv' := [(3, .int ((sp_Rv_goTo ad fo).1)), (0, .ref x), (1, .int w), (2, .int ad)]) hx hb d_Rv_jump_5 rfl hl (by decide) rfl (fun ls hl => ?_)
  refine lv_iload_n hx hb d_Rv_jump_6 rfl (lv_at hl 0 rfl) ?_
  refine lv_if_ne (tgt := 24) hx hb d_Rv_jump_7 (by decide) (fun h2 => ?_) (fun h2 => ?_)
  · refine lv_iload_n hx hb d_Rv_jump_24 rfl (lv_at hl 0 rfl) ?_
    have hs : (sp_Rv_jump w ad nx fo rg) = ((sp_Rv_goTo ad fo).1, (sp_Rv_goTo ad fo).2, rg) := by rw [sp_Rv_jump, if_neg h2]
    have hP9 := hP.sub (ws' := [(x, .inr (0, [.ref wa, .int wc, .ref ra, .ref ma, .ref ua, .ref oa, .int ph, .int dn, .int nx, .int ((sp_Rv_goTo ad fo).2)])), (ra, .inl (cI, 32, .inl (rg)))]) [1, 0] rfl
    have hD9 := hD.sub (ws' := [(x, .inr (0, [.ref wa, .int wc, .ref ra, .ref ma, .ref ua, .ref oa, .int ph, .int dn, .int nx, .int ((sp_Rv_goTo ad fo).2)])), (ra, .inl (cI, 32, .inl (rg)))]) [1, 0] rfl rfl
    exact zreti hx hb hr rfl hlocks hS () (by rw [hs]) rfl (by rw [hs]; exact hP9) (by rw [hs]; exact hD9) d_Rv_jump_25
  · refine lv_aload_n hx hb d_Rv_jump_10 rfl (lv_at hl 1 rfl) ?_
    refine lv_iload_n hx hb d_Rv_jump_11 rfl (lv_at hl 2 rfl) ?_
    refine lv_aload_n hx hb d_Rv_jump_12 rfl (lv_at hl 1 rfl) ?_
    refine zget hE hK hP 1 rfl fd_Rv_65 rfl d_Rv_jump_13 ?_
    refine lv_iconst (v := 4) hx hb d_Rv_jump_16 (by decide) ?_
    refine lv_iadd hx hb d_Rv_jump_17 ?_
    refine zgoi (wr := []) (zrunV (n := 2) (As := [.int w, .int (nx + 4)]) (rest := []) hE (c_Rv_keep l D cI cB cJ _ w (nx + 4) x wa wc ra ma ua oa ph dn nx ((sp_Rv_goTo ad fo).2) rg) cb_Rv_keep lk_Rv_120 in_Rv_keep se_Rv_keep (zpreV (q0 := 1) hK hP hD rfl rfl rfl [1, 0] rfl rfl rfl) ⟨Nat.le_of_ble_eq_true rfl, Nat.le_of_ble_eq_true rfl, Nat.le_of_ble_eq_true rfl, Nat.le_of_ble_eq_true rfl⟩ rfl hl.1 rfl (Nat.le_of_ble_eq_true rfl) d_Rv_jump_18) hP hD hS hA [1, 0] [] rfl rfl rfl (by decide) (fun r u H locs hq3 hP hD hS => ?_)
    subst hq3
    have hP : va_P D zC [(x, .inr (0, [.ref wa, .int wc, .ref ra, .ref ma, .ref ua, .ref oa, .int ph, .int dn, .int nx, .int ((sp_Rv_goTo ad fo).2)])), (ra, .inl (cI, 32, .inl ((sp_Rv_keep w (nx + 4) rg).2)))] H := hP
    have hD : va_D A [(x, .inr (0, [.ref wa, .int wc, .ref ra, .ref ma, .ref ua, .ref oa, .int ph, .int dn, .int nx, .int ((sp_Rv_goTo ad fo).2)])), (ra, .inl (cI, 32, .inl ((sp_Rv_keep w (nx + 4) rg).2)))] := hD
    refine lv_goto (tgt := 25) hx hb d_Rv_jump_21 (by decide) ?_
    have hs : (sp_Rv_jump w ad nx fo rg) = ((sp_Rv_keep w (nx + 4) rg).1, (sp_Rv_goTo ad fo).2, (sp_Rv_keep w (nx + 4) rg).2) := by rw [sp_Rv_jump, if_pos h2]
    have hP9 := hP.sub (ws' := [(x, .inr (0, [.ref wa, .int wc, .ref ra, .ref ma, .ref ua, .ref oa, .int ph, .int dn, .int nx, .int ((sp_Rv_goTo ad fo).2)])), (ra, .inl (cI, 32, .inl ((sp_Rv_keep w (nx + 4) rg).2)))]) [0, 1] rfl
    have hD9 := hD.sub (ws' := [(x, .inr (0, [.ref wa, .int wc, .ref ra, .ref ma, .ref ua, .ref oa, .int ph, .int dn, .int nx, .int ((sp_Rv_goTo ad fo).2)])), (ra, .inl (cI, 32, .inl ((sp_Rv_keep w (nx + 4) rg).2)))]) [0, 1] rfl rfl
    exact zreti hx hb hr rfl hlocks hS () (by rw [hs]) rfl (by rw [hs]; exact hP9) (by rw [hs]; exact hD9) d_Rv_jump_25

def sp_Rv_jumpByRegister (w : Int32) (nx : Int32) (fo : Int32) (rg : Nat → Int32) : Int32 × Int32 × (Nat → Int32) := if (sp_Rv_middle w) = 0 then ((sp_Rv_jump w (((sp_Rv_firstOperand w rg) + ((w : Int32) >>> ((20 : Int32) &&& 31))) &&& (-2)) nx fo rg).1, (sp_Rv_jump w (((sp_Rv_firstOperand w rg) + ((w : Int32) >>> ((20 : Int32) &&& 31))) &&& (-2)) nx fo rg).2.1, (sp_Rv_jump w (((sp_Rv_firstOperand w rg) + ((w : Int32) >>> ((20 : Int32) &&& 31))) &&& (-2)) nx fo rg).2.2) else (1, fo, rg)
set_option maxHeartbeats 4000000 in
theorem c_Rv_jumpByRegister (l : Launch) (D : va_G) (cI cB cJ : ClassId) (sz : Nat) (w : Int32) (x : Nat) (wa : Nat) (wc : Int32) (ra : Nat) (ma : Nat) (ua : Nat) (oa : Nat) (ph : Int32) (dn : Int32) (nx : Int32) (fo : Int32) (rg : Nat → Int32) : zMet l y_Rv_jumpByRegister (zWs y_Rv_jumpByRegister b_Rv_jumpByRegister 2 (some .int)) { frames := 2, cells := 0, slots := 0, locals := 46 } (zPc D (zT cI cB cJ) sz [(x, .inr (0, [.ref wa, .int wc, .ref ra, .ref ma, .ref ua, .ref oa, .int ph, .int dn, .int nx, .int fo])), (ra, .inl (cI, 32, .inl (rg)))] [.ref x, .int w]) (zQi D (va_A [(x, .inr (0, [.ref wa, .int wc, .ref ra, .ref ma, .ref ua, .ref oa, .int ph, .int dn, .int nx, .int fo])), (ra, .inl (cI, 32, .inl (rg)))] sz) (fun r (_ : Unit) => r = (sp_Rv_jumpByRegister w nx fo rg).1) (z0) (fun _ => [(x, .inr (0, [.ref wa, .int wc, .ref ra, .ref ma, .ref ua, .ref oa, .int ph, .int dn, .int nx, .int ((sp_Rv_jumpByRegister w nx fo rg).2.1)])), (ra, .inl (cI, 32, .inl ((sp_Rv_jumpByRegister w nx fo rg).2.2)))])) (va_A [(x, .inr (0, [.ref wa, .int wc, .ref ra, .ref ma, .ref ua, .ref oa, .int ph, .int dn, .int nx, .int fo])), (ra, .inl (cI, 32, .inl (rg)))] sz) := by
  refine zstart (Qc := fun A => zQi D A (fun r (_ : Unit) => r = (sp_Rv_jumpByRegister w nx fo rg).1) (z0) (fun _ => [(x, .inr (0, [.ref wa, .int wc, .ref ra, .ref ma, .ref ua, .ref oa, .int ph, .int dn, .int nx, .int ((sp_Rv_jumpByRegister w nx fo rg).2.1)])), (ra, .inl (cI, 32, .inl ((sp_Rv_jumpByRegister w nx fo rg).2.2)))])) (by decide) (Nat.le_of_ble_eq_true rfl) ?_
  intro p e s m below meth c ls A hE hr hlocks hin hsz hK hP hD hS hA hAe hl
  have hx := hE.1
  have hb := hE.2.1
  have hown := hE.2.2.2.1
  have hw := hE.2.2.2.2
  have hl : lv_has ls 2 [(0, .ref x), (1, .int w)] := hl
  refine lv_iload_n hx hb d_Rv_jumpByRegister_0 rfl (lv_at hl 1 rfl) ?_
  refine zgoi (wr := [(x, .inr (0, [.ref wa, .int wc, .ref ra, .ref ma, .ref ua, .ref oa, .int ph, .int dn, .int nx, .int fo])), (ra, .inl (cI, 32, .inl (rg)))]) (zrunS (n := 1) (As := [.int w]) (rest := []) hE (c_Rv_middle l D _ _ w) cb_Rv_middle lk_Rv_147 st_Rv_middle (zpreS hK hP hD [] rfl rfl rfl) ⟨Nat.le_of_ble_eq_true rfl, Nat.le_of_ble_eq_true rfl, Nat.le_of_ble_eq_true rfl, Nat.le_of_ble_eq_true rfl⟩ rfl hl.1 rfl (Nat.le_of_ble_eq_true rfl) d_Rv_jumpByRegister_1) hP hD hS hA [] [0, 1] rfl rfl rfl (by decide) (fun r u H locs hq1 hP hD hS => ?_)
  subst hq1
  have hP : va_P D zC [(x, .inr (0, [.ref wa, .int wc, .ref ra, .ref ma, .ref ua, .ref oa, .int ph, .int dn, .int nx, .int fo])), (ra, .inl (cI, 32, .inl (rg)))] H := hP
  have hD : va_D A [(x, .inr (0, [.ref wa, .int wc, .ref ra, .ref ma, .ref ua, .ref oa, .int ph, .int dn, .int nx, .int fo])), (ra, .inl (cI, 32, .inl (rg)))] := hD
  refine lv_if_eq (tgt := 9) hx hb d_Rv_jumpByRegister_4 (by decide) (fun h2 => ?_) (fun h2 => ?_)
  · refine lv_aload_n hx hb d_Rv_jumpByRegister_9 rfl (lv_at hl 0 rfl) ?_
    refine lv_iload_n hx hb d_Rv_jumpByRegister_10 rfl (lv_at hl 1 rfl) ?_
    refine lv_aload_n hx hb d_Rv_jumpByRegister_11 rfl (lv_at hl 0 rfl) ?_
    refine lv_iload_n hx hb d_Rv_jumpByRegister_12 rfl (lv_at hl 1 rfl) ?_
    refine zgoi (wr := []) (zrunV (n := 1) (As := [.int w]) (rest := [.int w, .ref x]) hE (c_Rv_firstOperand l D cI cB cJ _ w x wa wc ra ma ua oa ph dn nx fo rg) cb_Rv_firstOperand lk_Rv_158 in_Rv_firstOperand se_Rv_firstOperand (zpreV (q0 := 0) hK hP hD rfl rfl rfl [0, 1] rfl rfl rfl) ⟨Nat.le_of_ble_eq_true rfl, Nat.le_of_ble_eq_true rfl, Nat.le_of_ble_eq_true rfl, Nat.le_of_ble_eq_true rfl⟩ rfl hl.1 rfl (Nat.le_of_ble_eq_true rfl) d_Rv_jumpByRegister_13) hP hD hS hA [0, 1] [] rfl rfl rfl (by decide) (fun r u H locs hq3 hP hD hS => ?_)
    subst hq3
    have hP : va_P D zC [(x, .inr (0, [.ref wa, .int wc, .ref ra, .ref ma, .ref ua, .ref oa, .int ph, .int dn, .int nx, .int fo])), (ra, .inl (cI, 32, .inl (rg)))] H := hP
    have hD : va_D A [(x, .inr (0, [.ref wa, .int wc, .ref ra, .ref ma, .ref ua, .ref oa, .int ph, .int dn, .int nx, .int fo])), (ra, .inl (cI, 32, .inl (rg)))] := hD
    refine lv_iload_n hx hb d_Rv_jumpByRegister_16 rfl (lv_at hl 1 rfl) ?_
    refine lv_bipush (v := 20) hx hb d_Rv_jumpByRegister_17 (by decide) ?_
    refine lv_ishr hx hb d_Rv_jumpByRegister_19 ?_
    refine lv_iadd hx hb d_Rv_jumpByRegister_20 ?_
    refine lv_bipush (v := (-2)) hx hb d_Rv_jumpByRegister_21 (by decide) ?_
    refine lv_iand hx hb d_Rv_jumpByRegister_23 ?_
    refine zgoi (wr := []) (zrunV (n := 2) (As := [.int w, .int (((sp_Rv_firstOperand w rg) + ((w : Int32) >>> ((20 : Int32) &&& 31))) &&& (-2))]) (rest := []) hE (c_Rv_jump l D cI cB cJ _ w (((sp_Rv_firstOperand w rg) + ((w : Int32) >>> ((20 : Int32) &&& 31))) &&& (-2)) x wa wc ra ma ua oa ph dn nx fo rg) cb_Rv_jump lk_Rv_126 in_Rv_jump se_Rv_jump (zpreV (q0 := 0) hK hP hD rfl rfl rfl [0, 1] rfl rfl rfl) ⟨Nat.le_of_ble_eq_true rfl, Nat.le_of_ble_eq_true rfl, Nat.le_of_ble_eq_true rfl, Nat.le_of_ble_eq_true rfl⟩ rfl hl.1 rfl (Nat.le_of_ble_eq_true rfl) d_Rv_jumpByRegister_24) hP hD hS hA [0, 1] [] rfl rfl rfl (by decide) (fun r u H locs hq4 hP hD hS => ?_)
    subst hq4
    have hP : va_P D zC [(x, .inr (0, [.ref wa, .int wc, .ref ra, .ref ma, .ref ua, .ref oa, .int ph, .int dn, .int nx, .int ((sp_Rv_jump w (((sp_Rv_firstOperand w rg) + ((w : Int32) >>> ((20 : Int32) &&& 31))) &&& (-2)) nx fo rg).2.1)])), (ra, .inl (cI, 32, .inl ((sp_Rv_jump w (((sp_Rv_firstOperand w rg) + ((w : Int32) >>> ((20 : Int32) &&& 31))) &&& (-2)) nx fo rg).2.2)))] H := hP
    have hD : va_D A [(x, .inr (0, [.ref wa, .int wc, .ref ra, .ref ma, .ref ua, .ref oa, .int ph, .int dn, .int nx, .int ((sp_Rv_jump w (((sp_Rv_firstOperand w rg) + ((w : Int32) >>> ((20 : Int32) &&& 31))) &&& (-2)) nx fo rg).2.1)])), (ra, .inl (cI, 32, .inl ((sp_Rv_jump w (((sp_Rv_firstOperand w rg) + ((w : Int32) >>> ((20 : Int32) &&& 31))) &&& (-2)) nx fo rg).2.2)))] := hD
    have hs : (sp_Rv_jumpByRegister w nx fo rg) = ((sp_Rv_jump w (((sp_Rv_firstOperand w rg) + ((w : Int32) >>> ((20 : Int32) &&& 31))) &&& (-2)) nx fo rg).1, (sp_Rv_jump w (((sp_Rv_firstOperand w rg) + ((w : Int32) >>> ((20 : Int32) &&& 31))) &&& (-2)) nx fo rg).2.1, (sp_Rv_jump w (((sp_Rv_firstOperand w rg) + ((w : Int32) >>> ((20 : Int32) &&& 31))) &&& (-2)) nx fo rg).2.2) := by rw [sp_Rv_jumpByRegister, if_pos h2]
    have hP9 := hP.sub (ws' := [(x, .inr (0, [.ref wa, .int wc, .ref ra, .ref ma, .ref ua, .ref oa, .int ph, .int dn, .int nx, .int ((sp_Rv_jump w (((sp_Rv_firstOperand w rg) + ((w : Int32) >>> ((20 : Int32) &&& 31))) &&& (-2)) nx fo rg).2.1)])), (ra, .inl (cI, 32, .inl ((sp_Rv_jump w (((sp_Rv_firstOperand w rg) + ((w : Int32) >>> ((20 : Int32) &&& 31))) &&& (-2)) nx fo rg).2.2)))]) [0, 1] rfl
    have hD9 := hD.sub (ws' := [(x, .inr (0, [.ref wa, .int wc, .ref ra, .ref ma, .ref ua, .ref oa, .int ph, .int dn, .int nx, .int ((sp_Rv_jump w (((sp_Rv_firstOperand w rg) + ((w : Int32) >>> ((20 : Int32) &&& 31))) &&& (-2)) nx fo rg).2.1)])), (ra, .inl (cI, 32, .inl ((sp_Rv_jump w (((sp_Rv_firstOperand w rg) + ((w : Int32) >>> ((20 : Int32) &&& 31))) &&& (-2)) nx fo rg).2.2)))]) [0, 1] rfl rfl
    exact zreti hx hb hr rfl hlocks hS () (by rw [hs]) rfl (by rw [hs]; exact hP9) (by rw [hs]; exact hD9) d_Rv_jumpByRegister_27
  · refine lv_iconst (v := 1) hx hb d_Rv_jumpByRegister_7 (by decide) ?_
    have hs : (sp_Rv_jumpByRegister w nx fo rg) = (1, fo, rg) := by rw [sp_Rv_jumpByRegister, if_neg h2]
    have hP9 := hP.sub (ws' := [(x, .inr (0, [.ref wa, .int wc, .ref ra, .ref ma, .ref ua, .ref oa, .int ph, .int dn, .int nx, .int fo])), (ra, .inl (cI, 32, .inl (rg)))]) [0, 1] rfl
    have hD9 := hD.sub (ws' := [(x, .inr (0, [.ref wa, .int wc, .ref ra, .ref ma, .ref ua, .ref oa, .int ph, .int dn, .int nx, .int fo])), (ra, .inl (cI, 32, .inl (rg)))]) [0, 1] rfl rfl
    exact zreti hx hb hr rfl hlocks hS () (by rw [hs]) rfl (by rw [hs]; exact hP9) (by rw [hs]; exact hD9) d_Rv_jumpByRegister_8

def sp_Rv_branch (w : Int32) (nx : Int32) (fo : Int32) (rg : Nat → Int32) : Int32 × Int32 := if (sp_Rv_middle w) = 0 then
  if (sp_Rv_firstOperand w rg) = (sp_Rv_secondOperand w rg) then ((sp_Rv_goTo (nx + (sp_Rv_branchOffset w)) fo).1, (sp_Rv_goTo (nx + (sp_Rv_branchOffset w)) fo).2) else (0, fo)
else if (sp_Rv_middle w) = 1 then
  if (sp_Rv_firstOperand w rg) = (sp_Rv_secondOperand w rg) then (0, fo) else ((sp_Rv_goTo (nx + (sp_Rv_branchOffset w)) fo).1, (sp_Rv_goTo (nx + (sp_Rv_branchOffset w)) fo).2)
else if (sp_Rv_middle w) = 2 then (1, fo) else if (sp_Rv_middle w) = 3 then (1, fo) else if (sp_Rv_middle w) = 4 then
  if (sp_Rv_secondOperand w rg) ≤ (sp_Rv_firstOperand w rg) then (0, fo) else ((sp_Rv_goTo (nx + (sp_Rv_branchOffset w)) fo).1, (sp_Rv_goTo (nx + (sp_Rv_branchOffset w)) fo).2)
else if (sp_Rv_middle w) = 5 then
  if (sp_Rv_firstOperand w rg) < (sp_Rv_secondOperand w rg) then (0, fo) else ((sp_Rv_goTo (nx + (sp_Rv_branchOffset w)) fo).1, (sp_Rv_goTo (nx + (sp_Rv_branchOffset w)) fo).2)
else if (sp_Rv_middle w) = 6 then
  if (sp_Rv_isBelow (sp_Rv_firstOperand w rg) (sp_Rv_secondOperand w rg)) = 0 then (0, fo) else ((sp_Rv_goTo (nx + (sp_Rv_branchOffset w)) fo).1, (sp_Rv_goTo (nx + (sp_Rv_branchOffset w)) fo).2)
else if (sp_Rv_middle w) = 7 then
  if (sp_Rv_isBelow (sp_Rv_firstOperand w rg) (sp_Rv_secondOperand w rg)) = 0 then ((sp_Rv_goTo (nx + (sp_Rv_branchOffset w)) fo).1, (sp_Rv_goTo (nx + (sp_Rv_branchOffset w)) fo).2) else (0, fo)
else (1, fo)
set_option maxHeartbeats 4000000 in
theorem c_Rv_branch (l : Launch) (D : va_G) (cI cB cJ : ClassId) (sz : Nat) (w : Int32) (x : Nat) (wa : Nat) (wc : Int32) (ra : Nat) (ma : Nat) (ua : Nat) (oa : Nat) (ph : Int32) (dn : Int32) (nx : Int32) (fo : Int32) (rg : Nat → Int32) : zMet l y_Rv_branch (zWs y_Rv_branch b_Rv_branch 5 (some .int)) { frames := 2, cells := 0, slots := 0, locals := 41 } (zPc D (zT cI cB cJ) sz [(x, .inr (0, [.ref wa, .int wc, .ref ra, .ref ma, .ref ua, .ref oa, .int ph, .int dn, .int nx, .int fo])), (ra, .inl (cI, 32, .inl (rg)))] [.ref x, .int w]) (zQi D (va_A [(x, .inr (0, [.ref wa, .int wc, .ref ra, .ref ma, .ref ua, .ref oa, .int ph, .int dn, .int nx, .int fo])), (ra, .inl (cI, 32, .inl (rg)))] sz) (fun r (_ : Unit) => r = (sp_Rv_branch w nx fo rg).1) (z0) (fun _ => [(x, .inr (0, [.ref wa, .int wc, .ref ra, .ref ma, .ref ua, .ref oa, .int ph, .int dn, .int nx, .int ((sp_Rv_branch w nx fo rg).2)])), (ra, .inl (cI, 32, .inl (rg)))])) (va_A [(x, .inr (0, [.ref wa, .int wc, .ref ra, .ref ma, .ref ua, .ref oa, .int ph, .int dn, .int nx, .int fo])), (ra, .inl (cI, 32, .inl (rg)))] sz) := by
  refine zstart (Qc := fun A => zQi D A (fun r (_ : Unit) => r = (sp_Rv_branch w nx fo rg).1) (z0) (fun _ => [(x, .inr (0, [.ref wa, .int wc, .ref ra, .ref ma, .ref ua, .ref oa, .int ph, .int dn, .int nx, .int ((sp_Rv_branch w nx fo rg).2)])), (ra, .inl (cI, 32, .inl (rg)))])) (by decide) (Nat.le_of_ble_eq_true rfl) ?_
  intro p e s m below meth c ls A hE hr hlocks hin hsz hK hP hD hS hA hAe hl
  have hx := hE.1
  have hb := hE.2.1
  have hown := hE.2.2.2.1
  have hw := hE.2.2.2.2
  have hl : lv_has ls 5 [(0, .ref x), (1, .int w)] := hl
  refine lv_aload_n hx hb d_Rv_branch_0 rfl (lv_at hl 0 rfl) ?_
  refine lv_iload_n hx hb d_Rv_branch_1 rfl (lv_at hl 1 rfl) ?_
  refine zgoi (wr := []) (zrunV (n := 1) (As := [.int w]) (rest := []) hE (c_Rv_firstOperand l D cI cB cJ _ w x wa wc ra ma ua oa ph dn nx fo rg) cb_Rv_firstOperand lk_Rv_158 in_Rv_firstOperand se_Rv_firstOperand (zpreV (q0 := 0) hK hP hD rfl rfl rfl [0, 1] rfl rfl rfl) ⟨Nat.le_of_ble_eq_true rfl, Nat.le_of_ble_eq_true rfl, Nat.le_of_ble_eq_true rfl, Nat.le_of_ble_eq_true rfl⟩ rfl hl.1 rfl (Nat.le_of_ble_eq_true rfl) d_Rv_branch_2) hP hD hS hA [0, 1] [] rfl rfl rfl (by decide) (fun r u H locs hq1 hP hD hS => ?_)
  subst hq1
  have hP : va_P D zC [(x, .inr (0, [.ref wa, .int wc, .ref ra, .ref ma, .ref ua, .ref oa, .int ph, .int dn, .int nx, .int fo])), (ra, .inl (cI, 32, .inl (rg)))] H := hP
  have hD : va_D A [(x, .inr (0, [.ref wa, .int wc, .ref ra, .ref ma, .ref ua, .ref oa, .int ph, .int dn, .int nx, .int fo])), (ra, .inl (cI, 32, .inl (rg)))] := hD
  refine lv_istore_n (lv' := [(2, .int ((sp_Rv_firstOperand w rg))), (0, .ref x), (1, .int w)]) hx hb d_Rv_branch_5 rfl hl (by decide) rfl (fun ls hl => ?_)
  refine lv_aload_n hx hb d_Rv_branch_6 rfl (lv_at hl 1 rfl) ?_
  refine lv_iload_n hx hb d_Rv_branch_7 rfl (lv_at hl 2 rfl) ?_
  refine zgoi (wr := []) (zrunV (n := 1) (As := [.int w]) (rest := []) hE (c_Rv_secondOperand l D cI cB cJ _ w x wa wc ra ma ua oa ph dn nx fo rg) cb_Rv_secondOperand lk_Rv_161 in_Rv_secondOperand se_Rv_secondOperand (zpreV (q0 := 0) hK hP hD rfl rfl rfl [0, 1] rfl rfl rfl) ⟨Nat.le_of_ble_eq_true rfl, Nat.le_of_ble_eq_true rfl, Nat.le_of_ble_eq_true rfl, Nat.le_of_ble_eq_true rfl⟩ rfl hl.1 rfl (Nat.le_of_ble_eq_true rfl) d_Rv_branch_8) hP hD hS hA [0, 1] [] rfl rfl rfl (by decide) (fun r u H locs hq2 hP hD hS => ?_)
  subst hq2
  have hP : va_P D zC [(x, .inr (0, [.ref wa, .int wc, .ref ra, .ref ma, .ref ua, .ref oa, .int ph, .int dn, .int nx, .int fo])), (ra, .inl (cI, 32, .inl (rg)))] H := hP
  have hD : va_D A [(x, .inr (0, [.ref wa, .int wc, .ref ra, .ref ma, .ref ua, .ref oa, .int ph, .int dn, .int nx, .int fo])), (ra, .inl (cI, 32, .inl (rg)))] := hD
  refine lv_istore_n (lv' := [(3, .int ((sp_Rv_secondOperand w rg))), (2, .int ((sp_Rv_firstOperand w rg))), (0, .ref x), (1, .int w)]) hx hb d_Rv_branch_11 rfl hl (by decide) rfl (fun ls hl => ?_)
  refine lv_iload_n hx hb d_Rv_branch_12 rfl (lv_at hl 3 rfl) ?_
  refine zgoi (wr := [(x, .inr (0, [.ref wa, .int wc, .ref ra, .ref ma, .ref ua, .ref oa, .int ph, .int dn, .int nx, .int fo])), (ra, .inl (cI, 32, .inl (rg)))]) (zrunS (n := 1) (As := [.int w]) (rest := []) hE (c_Rv_middle l D _ _ w) cb_Rv_middle lk_Rv_147 st_Rv_middle (zpreS hK hP hD [] rfl rfl rfl) ⟨Nat.le_of_ble_eq_true rfl, Nat.le_of_ble_eq_true rfl, Nat.le_of_ble_eq_true rfl, Nat.le_of_ble_eq_true rfl⟩ rfl hl.1 rfl (Nat.le_of_ble_eq_true rfl) d_Rv_branch_13) hP hD hS hA [] [0, 1] rfl rfl rfl (by decide) (fun r u H locs hq3 hP hD hS => ?_)
  subst hq3
  have hP : va_P D zC [(x, .inr (0, [.ref wa, .int wc, .ref ra, .ref ma, .ref ua, .ref oa, .int ph, .int dn, .int nx, .int fo])), (ra, .inl (cI, 32, .inl (rg)))] H := hP
  have hD : va_D A [(x, .inr (0, [.ref wa, .int wc, .ref ra, .ref ma, .ref ua, .ref oa, .int ph, .int dn, .int nx, .int fo])), (ra, .inl (cI, 32, .inl (rg)))] := hD
  rcases Decidable.em ((sp_Rv_middle w) = 0) with h4 | h4
  · refine lv_tableIn (tgt := 64) hx hb d_Rv_branch_16 (by rw [h4]; decide) (by rw [h4]; decide) (by rw [h4]; rfl) (by decide) ?_
    refine lv_iload_n hx hb d_Rv_branch_64 rfl (lv_at hl 1 rfl) ?_
    refine lv_iload_n hx hb d_Rv_branch_65 rfl (lv_at hl 0 rfl) ?_
    refine lv_icmp_ne (tgt := 73) hx hb d_Rv_branch_66 (by decide) (fun h5 => ?_) (fun h5 => ?_)
    · refine lv_iconst (v := 0) hx hb d_Rv_branch_73 (by decide) ?_
      refine lv_istore (lv' := [(4, .int 0), (3, .int ((sp_Rv_secondOperand w rg))), (2, .int ((sp_Rv_firstOperand w rg))), (0, .ref x), (1, .int w)]) hx hb d_Rv_branch_74 hl (by decide) rfl (fun ls hl => ?_)
      refine lv_goto (tgt := 154) hx hb d_Rv_branch_76 (by decide) ?_
      refine lv_iload hx hb d_Rv_branch_154 (lv_at hl 0 rfl) ?_
      refine lv_if_eq (tgt := 175) hx hb d_Rv_branch_156 (by decide) (fun h6 => ?_) (fun h6 => (show False by revert h6; decide).elim)
      refine lv_iconst (v := 0) hx hb d_Rv_branch_175 (by decide) ?_
      have hs : (sp_Rv_branch w nx fo rg) = (0, fo) := by rw [sp_Rv_branch, if_pos h4, if_neg h5]
      have hP9 := hP.sub (ws' := [(x, .inr (0, [.ref wa, .int wc, .ref ra, .ref ma, .ref ua, .ref oa, .int ph, .int dn, .int nx, .int fo])), (ra, .inl (cI, 32, .inl (rg)))]) [0, 1] rfl
      have hD9 := hD.sub (ws' := [(x, .inr (0, [.ref wa, .int wc, .ref ra, .ref ma, .ref ua, .ref oa, .int ph, .int dn, .int nx, .int fo])), (ra, .inl (cI, 32, .inl (rg)))]) [0, 1] rfl rfl
      exact zreti hx hb hr rfl hlocks hS () (by rw [hs]) rfl (by rw [hs]; exact hP9) (by rw [hs]; exact hD9) d_Rv_branch_176
    · refine lv_iconst (v := 1) hx hb d_Rv_branch_69 (by decide) ?_
      refine lv_goto (tgt := 74) hx hb d_Rv_branch_70 (by decide) ?_
      refine lv_istore (lv' := [(4, .int 1), (3, .int ((sp_Rv_secondOperand w rg))), (2, .int ((sp_Rv_firstOperand w rg))), (0, .ref x), (1, .int w)]) hx hb d_Rv_branch_74 hl (by decide) rfl (fun ls hl => ?_)
      refine lv_goto (tgt := 154) hx hb d_Rv_branch_76 (by decide) ?_
      refine lv_iload hx hb d_Rv_branch_154 (lv_at hl 0 rfl) ?_
      refine lv_if_eq (tgt := 175) hx hb d_Rv_branch_156 (by decide) (fun h7 => (show False by revert h7; decide).elim) (fun h7 => ?_)
      refine lv_aload_n hx hb d_Rv_branch_159 rfl (lv_at hl 3 rfl) ?_
      refine lv_aload_n hx hb d_Rv_branch_160 rfl (lv_at hl 3 rfl) ?_
      refine zget hE hK hP 0 rfl fd_Rv_65 rfl d_Rv_branch_161 ?_
      refine lv_iload_n hx hb d_Rv_branch_164 rfl (lv_at hl 4 rfl) ?_
      refine zgoi (wr := [(x, .inr (0, [.ref wa, .int wc, .ref ra, .ref ma, .ref ua, .ref oa, .int ph, .int dn, .int nx, .int fo])), (ra, .inl (cI, 32, .inl (rg)))]) (zrunS (n := 1) (As := [.int w]) (rest := [.int nx, .ref x]) hE (c_Rv_branchOffset l D _ _ w) cb_Rv_branchOffset lk_Rv_167 st_Rv_branchOffset (zpreS hK hP hD [] rfl rfl rfl) ⟨Nat.le_of_ble_eq_true rfl, Nat.le_of_ble_eq_true rfl, Nat.le_of_ble_eq_true rfl, Nat.le_of_ble_eq_true rfl⟩ rfl hl.1 rfl (Nat.le_of_ble_eq_true rfl) d_Rv_branch_165) hP hD hS hA [] [0, 1] rfl rfl rfl (by decide) (fun r u H locs hq8 hP hD hS => ?_)
      subst hq8
      have hP : va_P D zC [(x, .inr (0, [.ref wa, .int wc, .ref ra, .ref ma, .ref ua, .ref oa, .int ph, .int dn, .int nx, .int fo])), (ra, .inl (cI, 32, .inl (rg)))] H := hP
      have hD : va_D A [(x, .inr (0, [.ref wa, .int wc, .ref ra, .ref ma, .ref ua, .ref oa, .int ph, .int dn, .int nx, .int fo])), (ra, .inl (cI, 32, .inl (rg)))] := hD
      refine lv_iadd hx hb d_Rv_branch_168 ?_
      refine zgoi (wr := [(ra, .inl (cI, 32, .inl (rg)))]) (zrunV (n := 1) (As := [.int (nx + (sp_Rv_branchOffset w))]) (rest := []) hE (c_Rv_goTo l D cI cB cJ _ (nx + (sp_Rv_branchOffset w)) x wa wc ra ma ua oa ph dn nx fo) cb_Rv_goTo lk_Rv_155 in_Rv_goTo se_Rv_goTo (zpreV (q0 := 0) hK hP hD rfl rfl rfl [0] rfl rfl rfl) ⟨Nat.le_of_ble_eq_true rfl, Nat.le_of_ble_eq_true rfl, Nat.le_of_ble_eq_true rfl, Nat.le_of_ble_eq_true rfl⟩ rfl hl.1 rfl (Nat.le_of_ble_eq_true rfl) d_Rv_branch_169) hP hD hS hA [0] [1] rfl rfl rfl (by decide) (fun r u H locs hq9 hP hD hS => ?_)
      subst hq9
      have hP : va_P D zC [(ra, .inl (cI, 32, .inl (rg))), (x, .inr (0, [.ref wa, .int wc, .ref ra, .ref ma, .ref ua, .ref oa, .int ph, .int dn, .int nx, .int ((sp_Rv_goTo (nx + (sp_Rv_branchOffset w)) fo).2)]))] H := hP
      have hD : va_D A [(ra, .inl (cI, 32, .inl (rg))), (x, .inr (0, [.ref wa, .int wc, .ref ra, .ref ma, .ref ua, .ref oa, .int ph, .int dn, .int nx, .int ((sp_Rv_goTo (nx + (sp_Rv_branchOffset w)) fo).2)]))] := hD
      refine lv_goto (tgt := 176) hx hb d_Rv_branch_172 (by decide) ?_
      have hs : (sp_Rv_branch w nx fo rg) = ((sp_Rv_goTo (nx + (sp_Rv_branchOffset w)) fo).1, (sp_Rv_goTo (nx + (sp_Rv_branchOffset w)) fo).2) := by rw [sp_Rv_branch, if_pos h4, if_pos h5]
      have hP9 := hP.sub (ws' := [(x, .inr (0, [.ref wa, .int wc, .ref ra, .ref ma, .ref ua, .ref oa, .int ph, .int dn, .int nx, .int ((sp_Rv_goTo (nx + (sp_Rv_branchOffset w)) fo).2)])), (ra, .inl (cI, 32, .inl (rg)))]) [1, 0] rfl
      have hD9 := hD.sub (ws' := [(x, .inr (0, [.ref wa, .int wc, .ref ra, .ref ma, .ref ua, .ref oa, .int ph, .int dn, .int nx, .int ((sp_Rv_goTo (nx + (sp_Rv_branchOffset w)) fo).2)])), (ra, .inl (cI, 32, .inl (rg)))]) [1, 0] rfl rfl
      exact zreti hx hb hr rfl hlocks hS () (by rw [hs]) rfl (by rw [hs]; exact hP9) (by rw [hs]; exact hD9) d_Rv_branch_176
  · rcases Decidable.em ((sp_Rv_middle w) = 1) with h10 | h10
    · refine lv_tableIn (tgt := 79) hx hb d_Rv_branch_16 (by rw [h10]; decide) (by rw [h10]; decide) (by rw [h10]; rfl) (by decide) ?_
      refine lv_iload_n hx hb d_Rv_branch_79 rfl (lv_at hl 1 rfl) ?_
      refine lv_iload_n hx hb d_Rv_branch_80 rfl (lv_at hl 0 rfl) ?_
      refine lv_icmp_eq (tgt := 88) hx hb d_Rv_branch_81 (by decide) (fun h11 => ?_) (fun h11 => ?_)
      · refine lv_iconst (v := 0) hx hb d_Rv_branch_88 (by decide) ?_
        refine lv_istore (lv' := [(4, .int 0), (3, .int ((sp_Rv_secondOperand w rg))), (2, .int ((sp_Rv_firstOperand w rg))), (0, .ref x), (1, .int w)]) hx hb d_Rv_branch_89 hl (by decide) rfl (fun ls hl => ?_)
        refine lv_goto (tgt := 154) hx hb d_Rv_branch_91 (by decide) ?_
        refine lv_iload hx hb d_Rv_branch_154 (lv_at hl 0 rfl) ?_
        refine lv_if_eq (tgt := 175) hx hb d_Rv_branch_156 (by decide) (fun h12 => ?_) (fun h12 => (show False by revert h12; decide).elim)
        refine lv_iconst (v := 0) hx hb d_Rv_branch_175 (by decide) ?_
        have hs : (sp_Rv_branch w nx fo rg) = (0, fo) := by rw [sp_Rv_branch, if_neg h4, if_pos h10, if_pos h11]
        have hP9 := hP.sub (ws' := [(x, .inr (0, [.ref wa, .int wc, .ref ra, .ref ma, .ref ua, .ref oa, .int ph, .int dn, .int nx, .int fo])), (ra, .inl (cI, 32, .inl (rg)))]) [0, 1] rfl
        have hD9 := hD.sub (ws' := [(x, .inr (0, [.ref wa, .int wc, .ref ra, .ref ma, .ref ua, .ref oa, .int ph, .int dn, .int nx, .int fo])), (ra, .inl (cI, 32, .inl (rg)))]) [0, 1] rfl rfl
        exact zreti hx hb hr rfl hlocks hS () (by rw [hs]) rfl (by rw [hs]; exact hP9) (by rw [hs]; exact hD9) d_Rv_branch_176
      · refine lv_iconst (v := 1) hx hb d_Rv_branch_84 (by decide) ?_
        refine lv_goto (tgt := 89) hx hb d_Rv_branch_85 (by decide) ?_
        refine lv_istore (lv' := [(4, .int 1), (3, .int ((sp_Rv_secondOperand w rg))), (2, .int ((sp_Rv_firstOperand w rg))), (0, .ref x), (1, .int w)]) hx hb d_Rv_branch_89 hl (by decide) rfl (fun ls hl => ?_)
        refine lv_goto (tgt := 154) hx hb d_Rv_branch_91 (by decide) ?_
        refine lv_iload hx hb d_Rv_branch_154 (lv_at hl 0 rfl) ?_
        refine lv_if_eq (tgt := 175) hx hb d_Rv_branch_156 (by decide) (fun h13 => (show False by revert h13; decide).elim) (fun h13 => ?_)
        refine lv_aload_n hx hb d_Rv_branch_159 rfl (lv_at hl 3 rfl) ?_
        refine lv_aload_n hx hb d_Rv_branch_160 rfl (lv_at hl 3 rfl) ?_
        refine zget hE hK hP 0 rfl fd_Rv_65 rfl d_Rv_branch_161 ?_
        refine lv_iload_n hx hb d_Rv_branch_164 rfl (lv_at hl 4 rfl) ?_
        refine zgoi (wr := [(x, .inr (0, [.ref wa, .int wc, .ref ra, .ref ma, .ref ua, .ref oa, .int ph, .int dn, .int nx, .int fo])), (ra, .inl (cI, 32, .inl (rg)))]) (zrunS (n := 1) (As := [.int w]) (rest := [.int nx, .ref x]) hE (c_Rv_branchOffset l D _ _ w) cb_Rv_branchOffset lk_Rv_167 st_Rv_branchOffset (zpreS hK hP hD [] rfl rfl rfl) ⟨Nat.le_of_ble_eq_true rfl, Nat.le_of_ble_eq_true rfl, Nat.le_of_ble_eq_true rfl, Nat.le_of_ble_eq_true rfl⟩ rfl hl.1 rfl (Nat.le_of_ble_eq_true rfl) d_Rv_branch_165) hP hD hS hA [] [0, 1] rfl rfl rfl (by decide) (fun r u H locs hq14 hP hD hS => ?_)
        subst hq14
        have hP : va_P D zC [(x, .inr (0, [.ref wa, .int wc, .ref ra, .ref ma, .ref ua, .ref oa, .int ph, .int dn, .int nx, .int fo])), (ra, .inl (cI, 32, .inl (rg)))] H := hP
        have hD : va_D A [(x, .inr (0, [.ref wa, .int wc, .ref ra, .ref ma, .ref ua, .ref oa, .int ph, .int dn, .int nx, .int fo])), (ra, .inl (cI, 32, .inl (rg)))] := hD
        refine lv_iadd hx hb d_Rv_branch_168 ?_
        refine zgoi (wr := [(ra, .inl (cI, 32, .inl (rg)))]) (zrunV (n := 1) (As := [.int (nx + (sp_Rv_branchOffset w))]) (rest := []) hE (c_Rv_goTo l D cI cB cJ _ (nx + (sp_Rv_branchOffset w)) x wa wc ra ma ua oa ph dn nx fo) cb_Rv_goTo lk_Rv_155 in_Rv_goTo se_Rv_goTo (zpreV (q0 := 0) hK hP hD rfl rfl rfl [0] rfl rfl rfl) ⟨Nat.le_of_ble_eq_true rfl, Nat.le_of_ble_eq_true rfl, Nat.le_of_ble_eq_true rfl, Nat.le_of_ble_eq_true rfl⟩ rfl hl.1 rfl (Nat.le_of_ble_eq_true rfl) d_Rv_branch_169) hP hD hS hA [0] [1] rfl rfl rfl (by decide) (fun r u H locs hq15 hP hD hS => ?_)
        subst hq15
        have hP : va_P D zC [(ra, .inl (cI, 32, .inl (rg))), (x, .inr (0, [.ref wa, .int wc, .ref ra, .ref ma, .ref ua, .ref oa, .int ph, .int dn, .int nx, .int ((sp_Rv_goTo (nx + (sp_Rv_branchOffset w)) fo).2)]))] H := hP
        have hD : va_D A [(ra, .inl (cI, 32, .inl (rg))), (x, .inr (0, [.ref wa, .int wc, .ref ra, .ref ma, .ref ua, .ref oa, .int ph, .int dn, .int nx, .int ((sp_Rv_goTo (nx + (sp_Rv_branchOffset w)) fo).2)]))] := hD
        refine lv_goto (tgt := 176) hx hb d_Rv_branch_172 (by decide) ?_
        have hs : (sp_Rv_branch w nx fo rg) = ((sp_Rv_goTo (nx + (sp_Rv_branchOffset w)) fo).1, (sp_Rv_goTo (nx + (sp_Rv_branchOffset w)) fo).2) := by rw [sp_Rv_branch, if_neg h4, if_pos h10, if_neg h11]
        have hP9 := hP.sub (ws' := [(x, .inr (0, [.ref wa, .int wc, .ref ra, .ref ma, .ref ua, .ref oa, .int ph, .int dn, .int nx, .int ((sp_Rv_goTo (nx + (sp_Rv_branchOffset w)) fo).2)])), (ra, .inl (cI, 32, .inl (rg)))]) [1, 0] rfl
        have hD9 := hD.sub (ws' := [(x, .inr (0, [.ref wa, .int wc, .ref ra, .ref ma, .ref ua, .ref oa, .int ph, .int dn, .int nx, .int ((sp_Rv_goTo (nx + (sp_Rv_branchOffset w)) fo).2)])), (ra, .inl (cI, 32, .inl (rg)))]) [1, 0] rfl rfl
        exact zreti hx hb hr rfl hlocks hS () (by rw [hs]) rfl (by rw [hs]; exact hP9) (by rw [hs]; exact hD9) d_Rv_branch_176
    · rcases Decidable.em ((sp_Rv_middle w) = 2) with h16 | h16
      · refine lv_tableIn (tgt := 152) hx hb d_Rv_branch_16 (by rw [h16]; decide) (by rw [h16]; decide) (by rw [h16]; rfl) (by decide) ?_
        refine lv_iconst (v := 1) hx hb d_Rv_branch_152 (by decide) ?_
        have hs : (sp_Rv_branch w nx fo rg) = (1, fo) := by rw [sp_Rv_branch, if_neg h4, if_neg h10, if_pos h16]
        have hP9 := hP.sub (ws' := [(x, .inr (0, [.ref wa, .int wc, .ref ra, .ref ma, .ref ua, .ref oa, .int ph, .int dn, .int nx, .int fo])), (ra, .inl (cI, 32, .inl (rg)))]) [0, 1] rfl
        have hD9 := hD.sub (ws' := [(x, .inr (0, [.ref wa, .int wc, .ref ra, .ref ma, .ref ua, .ref oa, .int ph, .int dn, .int nx, .int fo])), (ra, .inl (cI, 32, .inl (rg)))]) [0, 1] rfl rfl
        exact zreti hx hb hr rfl hlocks hS () (by rw [hs]) rfl (by rw [hs]; exact hP9) (by rw [hs]; exact hD9) d_Rv_branch_153
      · rcases Decidable.em ((sp_Rv_middle w) = 3) with h17 | h17
        · refine lv_tableIn (tgt := 152) hx hb d_Rv_branch_16 (by rw [h17]; decide) (by rw [h17]; decide) (by rw [h17]; rfl) (by decide) ?_
          refine lv_iconst (v := 1) hx hb d_Rv_branch_152 (by decide) ?_
          have hs : (sp_Rv_branch w nx fo rg) = (1, fo) := by rw [sp_Rv_branch, if_neg h4, if_neg h10, if_neg h16, if_pos h17]
          have hP9 := hP.sub (ws' := [(x, .inr (0, [.ref wa, .int wc, .ref ra, .ref ma, .ref ua, .ref oa, .int ph, .int dn, .int nx, .int fo])), (ra, .inl (cI, 32, .inl (rg)))]) [0, 1] rfl
          have hD9 := hD.sub (ws' := [(x, .inr (0, [.ref wa, .int wc, .ref ra, .ref ma, .ref ua, .ref oa, .int ph, .int dn, .int nx, .int fo])), (ra, .inl (cI, 32, .inl (rg)))]) [0, 1] rfl rfl
          exact zreti hx hb hr rfl hlocks hS () (by rw [hs]) rfl (by rw [hs]; exact hP9) (by rw [hs]; exact hD9) d_Rv_branch_153
        · rcases Decidable.em ((sp_Rv_middle w) = 4) with h18 | h18
          · refine lv_tableIn (tgt := 94) hx hb d_Rv_branch_16 (by rw [h18]; decide) (by rw [h18]; decide) (by rw [h18]; rfl) (by decide) ?_
            refine lv_iload_n hx hb d_Rv_branch_94 rfl (lv_at hl 1 rfl) ?_
            refine lv_iload_n hx hb d_Rv_branch_95 rfl (lv_at hl 0 rfl) ?_
            refine lv_icmp_ge (tgt := 103) hx hb d_Rv_branch_96 (by decide) (fun h19 => ?_) (fun h19 => ?_)
            · refine lv_iconst (v := 0) hx hb d_Rv_branch_103 (by decide) ?_
              refine lv_istore (lv' := [(4, .int 0), (3, .int ((sp_Rv_secondOperand w rg))), (2, .int ((sp_Rv_firstOperand w rg))), (0, .ref x), (1, .int w)]) hx hb d_Rv_branch_104 hl (by decide) rfl (fun ls hl => ?_)
              refine lv_goto (tgt := 154) hx hb d_Rv_branch_106 (by decide) ?_
              refine lv_iload hx hb d_Rv_branch_154 (lv_at hl 0 rfl) ?_
              refine lv_if_eq (tgt := 175) hx hb d_Rv_branch_156 (by decide) (fun h20 => ?_) (fun h20 => (show False by revert h20; decide).elim)
              refine lv_iconst (v := 0) hx hb d_Rv_branch_175 (by decide) ?_
              have hs : (sp_Rv_branch w nx fo rg) = (0, fo) := by rw [sp_Rv_branch, if_neg h4, if_neg h10, if_neg h16, if_neg h17, if_pos h18, if_pos h19]
              have hP9 := hP.sub (ws' := [(x, .inr (0, [.ref wa, .int wc, .ref ra, .ref ma, .ref ua, .ref oa, .int ph, .int dn, .int nx, .int fo])), (ra, .inl (cI, 32, .inl (rg)))]) [0, 1] rfl
              have hD9 := hD.sub (ws' := [(x, .inr (0, [.ref wa, .int wc, .ref ra, .ref ma, .ref ua, .ref oa, .int ph, .int dn, .int nx, .int fo])), (ra, .inl (cI, 32, .inl (rg)))]) [0, 1] rfl rfl
              exact zreti hx hb hr rfl hlocks hS () (by rw [hs]) rfl (by rw [hs]; exact hP9) (by rw [hs]; exact hD9) d_Rv_branch_176
            · refine lv_iconst (v := 1) hx hb d_Rv_branch_99 (by decide) ?_
              refine lv_goto (tgt := 104) hx hb d_Rv_branch_100 (by decide) ?_
              refine lv_istore (lv' := [(4, .int 1), (3, .int ((sp_Rv_secondOperand w rg))), (2, .int ((sp_Rv_firstOperand w rg))), (0, .ref x), (1, .int w)]) hx hb d_Rv_branch_104 hl (by decide) rfl (fun ls hl => ?_)
              refine lv_goto (tgt := 154) hx hb d_Rv_branch_106 (by decide) ?_
              refine lv_iload hx hb d_Rv_branch_154 (lv_at hl 0 rfl) ?_
              refine lv_if_eq (tgt := 175) hx hb d_Rv_branch_156 (by decide) (fun h21 => (show False by revert h21; decide).elim) (fun h21 => ?_)
              refine lv_aload_n hx hb d_Rv_branch_159 rfl (lv_at hl 3 rfl) ?_
              refine lv_aload_n hx hb d_Rv_branch_160 rfl (lv_at hl 3 rfl) ?_
              refine zget hE hK hP 0 rfl fd_Rv_65 rfl d_Rv_branch_161 ?_
              refine lv_iload_n hx hb d_Rv_branch_164 rfl (lv_at hl 4 rfl) ?_
              refine zgoi (wr := [(x, .inr (0, [.ref wa, .int wc, .ref ra, .ref ma, .ref ua, .ref oa, .int ph, .int dn, .int nx, .int fo])), (ra, .inl (cI, 32, .inl (rg)))]) (zrunS (n := 1) (As := [.int w]) (rest := [.int nx, .ref x]) hE (c_Rv_branchOffset l D _ _ w) cb_Rv_branchOffset lk_Rv_167 st_Rv_branchOffset (zpreS hK hP hD [] rfl rfl rfl) ⟨Nat.le_of_ble_eq_true rfl, Nat.le_of_ble_eq_true rfl, Nat.le_of_ble_eq_true rfl, Nat.le_of_ble_eq_true rfl⟩ rfl hl.1 rfl (Nat.le_of_ble_eq_true rfl) d_Rv_branch_165) hP hD hS hA [] [0, 1] rfl rfl rfl (by decide) (fun r u H locs hq22 hP hD hS => ?_)
              subst hq22
              have hP : va_P D zC [(x, .inr (0, [.ref wa, .int wc, .ref ra, .ref ma, .ref ua, .ref oa, .int ph, .int dn, .int nx, .int fo])), (ra, .inl (cI, 32, .inl (rg)))] H := hP
              have hD : va_D A [(x, .inr (0, [.ref wa, .int wc, .ref ra, .ref ma, .ref ua, .ref oa, .int ph, .int dn, .int nx, .int fo])), (ra, .inl (cI, 32, .inl (rg)))] := hD
              refine lv_iadd hx hb d_Rv_branch_168 ?_
              refine zgoi (wr := [(ra, .inl (cI, 32, .inl (rg)))]) (zrunV (n := 1) (As := [.int (nx + (sp_Rv_branchOffset w))]) (rest := []) hE (c_Rv_goTo l D cI cB cJ _ (nx + (sp_Rv_branchOffset w)) x wa wc ra ma ua oa ph dn nx fo) cb_Rv_goTo lk_Rv_155 in_Rv_goTo se_Rv_goTo (zpreV (q0 := 0) hK hP hD rfl rfl rfl [0] rfl rfl rfl) ⟨Nat.le_of_ble_eq_true rfl, Nat.le_of_ble_eq_true rfl, Nat.le_of_ble_eq_true rfl, Nat.le_of_ble_eq_true rfl⟩ rfl hl.1 rfl (Nat.le_of_ble_eq_true rfl) d_Rv_branch_169) hP hD hS hA [0] [1] rfl rfl rfl (by decide) (fun r u H locs hq23 hP hD hS => ?_)
              subst hq23
              have hP : va_P D zC [(ra, .inl (cI, 32, .inl (rg))), (x, .inr (0, [.ref wa, .int wc, .ref ra, .ref ma, .ref ua, .ref oa, .int ph, .int dn, .int nx, .int ((sp_Rv_goTo (nx + (sp_Rv_branchOffset w)) fo).2)]))] H := hP
              have hD : va_D A [(ra, .inl (cI, 32, .inl (rg))), (x, .inr (0, [.ref wa, .int wc, .ref ra, .ref ma, .ref ua, .ref oa, .int ph, .int dn, .int nx, .int ((sp_Rv_goTo (nx + (sp_Rv_branchOffset w)) fo).2)]))] := hD
              refine lv_goto (tgt := 176) hx hb d_Rv_branch_172 (by decide) ?_
              have hs : (sp_Rv_branch w nx fo rg) = ((sp_Rv_goTo (nx + (sp_Rv_branchOffset w)) fo).1, (sp_Rv_goTo (nx + (sp_Rv_branchOffset w)) fo).2) := by rw [sp_Rv_branch, if_neg h4, if_neg h10, if_neg h16, if_neg h17, if_pos h18, if_neg h19]
              have hP9 := hP.sub (ws' := [(x, .inr (0, [.ref wa, .int wc, .ref ra, .ref ma, .ref ua, .ref oa, .int ph, .int dn, .int nx, .int ((sp_Rv_goTo (nx + (sp_Rv_branchOffset w)) fo).2)])), (ra, .inl (cI, 32, .inl (rg)))]) [1, 0] rfl
              have hD9 := hD.sub (ws' := [(x, .inr (0, [.ref wa, .int wc, .ref ra, .ref ma, .ref ua, .ref oa, .int ph, .int dn, .int nx, .int ((sp_Rv_goTo (nx + (sp_Rv_branchOffset w)) fo).2)])), (ra, .inl (cI, 32, .inl (rg)))]) [1, 0] rfl rfl
              exact zreti hx hb hr rfl hlocks hS () (by rw [hs]) rfl (by rw [hs]; exact hP9) (by rw [hs]; exact hD9) d_Rv_branch_176
          · rcases Decidable.em ((sp_Rv_middle w) = 5) with h24 | h24
            · refine lv_tableIn (tgt := 109) hx hb d_Rv_branch_16 (by rw [h24]; decide) (by rw [h24]; decide) (by rw [h24]; rfl) (by decide) ?_
              refine lv_iload_n hx hb d_Rv_branch_109 rfl (lv_at hl 1 rfl) ?_
              refine lv_iload_n hx hb d_Rv_branch_110 rfl (lv_at hl 0 rfl) ?_
              refine lv_icmp_lt (tgt := 118) hx hb d_Rv_branch_111 (by decide) (fun h25 => ?_) (fun h25 => ?_)
              · refine lv_iconst (v := 0) hx hb d_Rv_branch_118 (by decide) ?_
                refine lv_istore (lv' := [(4, .int 0), (3, .int ((sp_Rv_secondOperand w rg))), (2, .int ((sp_Rv_firstOperand w rg))), (0, .ref x), (1, .int w)]) hx hb d_Rv_branch_119 hl (by decide) rfl (fun ls hl => ?_)
                refine lv_goto (tgt := 154) hx hb d_Rv_branch_121 (by decide) ?_
                refine lv_iload hx hb d_Rv_branch_154 (lv_at hl 0 rfl) ?_
                refine lv_if_eq (tgt := 175) hx hb d_Rv_branch_156 (by decide) (fun h26 => ?_) (fun h26 => (show False by revert h26; decide).elim)
                refine lv_iconst (v := 0) hx hb d_Rv_branch_175 (by decide) ?_
                have hs : (sp_Rv_branch w nx fo rg) = (0, fo) := by rw [sp_Rv_branch, if_neg h4, if_neg h10, if_neg h16, if_neg h17, if_neg h18, if_pos h24, if_pos h25]
                have hP9 := hP.sub (ws' := [(x, .inr (0, [.ref wa, .int wc, .ref ra, .ref ma, .ref ua, .ref oa, .int ph, .int dn, .int nx, .int fo])), (ra, .inl (cI, 32, .inl (rg)))]) [0, 1] rfl
                have hD9 := hD.sub (ws' := [(x, .inr (0, [.ref wa, .int wc, .ref ra, .ref ma, .ref ua, .ref oa, .int ph, .int dn, .int nx, .int fo])), (ra, .inl (cI, 32, .inl (rg)))]) [0, 1] rfl rfl
                exact zreti hx hb hr rfl hlocks hS () (by rw [hs]) rfl (by rw [hs]; exact hP9) (by rw [hs]; exact hD9) d_Rv_branch_176
              · refine lv_iconst (v := 1) hx hb d_Rv_branch_114 (by decide) ?_
                refine lv_goto (tgt := 119) hx hb d_Rv_branch_115 (by decide) ?_
                refine lv_istore (lv' := [(4, .int 1), (3, .int ((sp_Rv_secondOperand w rg))), (2, .int ((sp_Rv_firstOperand w rg))), (0, .ref x), (1, .int w)]) hx hb d_Rv_branch_119 hl (by decide) rfl (fun ls hl => ?_)
                refine lv_goto (tgt := 154) hx hb d_Rv_branch_121 (by decide) ?_
                refine lv_iload hx hb d_Rv_branch_154 (lv_at hl 0 rfl) ?_
                refine lv_if_eq (tgt := 175) hx hb d_Rv_branch_156 (by decide) (fun h27 => (show False by revert h27; decide).elim) (fun h27 => ?_)
                refine lv_aload_n hx hb d_Rv_branch_159 rfl (lv_at hl 3 rfl) ?_
                refine lv_aload_n hx hb d_Rv_branch_160 rfl (lv_at hl 3 rfl) ?_
                refine zget hE hK hP 0 rfl fd_Rv_65 rfl d_Rv_branch_161 ?_
                refine lv_iload_n hx hb d_Rv_branch_164 rfl (lv_at hl 4 rfl) ?_
                refine zgoi (wr := [(x, .inr (0, [.ref wa, .int wc, .ref ra, .ref ma, .ref ua, .ref oa, .int ph, .int dn, .int nx, .int fo])), (ra, .inl (cI, 32, .inl (rg)))]) (zrunS (n := 1) (As := [.int w]) (rest := [.int nx, .ref x]) hE (c_Rv_branchOffset l D _ _ w) cb_Rv_branchOffset lk_Rv_167 st_Rv_branchOffset (zpreS hK hP hD [] rfl rfl rfl) ⟨Nat.le_of_ble_eq_true rfl, Nat.le_of_ble_eq_true rfl, Nat.le_of_ble_eq_true rfl, Nat.le_of_ble_eq_true rfl⟩ rfl hl.1 rfl (Nat.le_of_ble_eq_true rfl) d_Rv_branch_165) hP hD hS hA [] [0, 1] rfl rfl rfl (by decide) (fun r u H locs hq28 hP hD hS => ?_)
                subst hq28
                have hP : va_P D zC [(x, .inr (0, [.ref wa, .int wc, .ref ra, .ref ma, .ref ua, .ref oa, .int ph, .int dn, .int nx, .int fo])), (ra, .inl (cI, 32, .inl (rg)))] H := hP
                have hD : va_D A [(x, .inr (0, [.ref wa, .int wc, .ref ra, .ref ma, .ref ua, .ref oa, .int ph, .int dn, .int nx, .int fo])), (ra, .inl (cI, 32, .inl (rg)))] := hD
                refine lv_iadd hx hb d_Rv_branch_168 ?_
                refine zgoi (wr := [(ra, .inl (cI, 32, .inl (rg)))]) (zrunV (n := 1) (As := [.int (nx + (sp_Rv_branchOffset w))]) (rest := []) hE (c_Rv_goTo l D cI cB cJ _ (nx + (sp_Rv_branchOffset w)) x wa wc ra ma ua oa ph dn nx fo) cb_Rv_goTo lk_Rv_155 in_Rv_goTo se_Rv_goTo (zpreV (q0 := 0) hK hP hD rfl rfl rfl [0] rfl rfl rfl) ⟨Nat.le_of_ble_eq_true rfl, Nat.le_of_ble_eq_true rfl, Nat.le_of_ble_eq_true rfl, Nat.le_of_ble_eq_true rfl⟩ rfl hl.1 rfl (Nat.le_of_ble_eq_true rfl) d_Rv_branch_169) hP hD hS hA [0] [1] rfl rfl rfl (by decide) (fun r u H locs hq29 hP hD hS => ?_)
                subst hq29
                have hP : va_P D zC [(ra, .inl (cI, 32, .inl (rg))), (x, .inr (0, [.ref wa, .int wc, .ref ra, .ref ma, .ref ua, .ref oa, .int ph, .int dn, .int nx, .int ((sp_Rv_goTo (nx + (sp_Rv_branchOffset w)) fo).2)]))] H := hP
                have hD : va_D A [(ra, .inl (cI, 32, .inl (rg))), (x, .inr (0, [.ref wa, .int wc, .ref ra, .ref ma, .ref ua, .ref oa, .int ph, .int dn, .int nx, .int ((sp_Rv_goTo (nx + (sp_Rv_branchOffset w)) fo).2)]))] := hD
                refine lv_goto (tgt := 176) hx hb d_Rv_branch_172 (by decide) ?_
                have hs : (sp_Rv_branch w nx fo rg) = ((sp_Rv_goTo (nx + (sp_Rv_branchOffset w)) fo).1, (sp_Rv_goTo (nx + (sp_Rv_branchOffset w)) fo).2) := by rw [sp_Rv_branch, if_neg h4, if_neg h10, if_neg h16, if_neg h17, if_neg h18, if_pos h24, if_neg h25]
                have hP9 := hP.sub (ws' := [(x, .inr (0, [.ref wa, .int wc, .ref ra, .ref ma, .ref ua, .ref oa, .int ph, .int dn, .int nx, .int ((sp_Rv_goTo (nx + (sp_Rv_branchOffset w)) fo).2)])), (ra, .inl (cI, 32, .inl (rg)))]) [1, 0] rfl
                have hD9 := hD.sub (ws' := [(x, .inr (0, [.ref wa, .int wc, .ref ra, .ref ma, .ref ua, .ref oa, .int ph, .int dn, .int nx, .int ((sp_Rv_goTo (nx + (sp_Rv_branchOffset w)) fo).2)])), (ra, .inl (cI, 32, .inl (rg)))]) [1, 0] rfl rfl
                exact zreti hx hb hr rfl hlocks hS () (by rw [hs]) rfl (by rw [hs]; exact hP9) (by rw [hs]; exact hD9) d_Rv_branch_176
            · rcases Decidable.em ((sp_Rv_middle w) = 6) with h30 | h30
              · refine lv_tableIn (tgt := 124) hx hb d_Rv_branch_16 (by rw [h30]; decide) (by rw [h30]; decide) (by rw [h30]; rfl) (by decide) ?_
                refine lv_iload_n hx hb d_Rv_branch_124 rfl (lv_at hl 1 rfl) ?_
                refine lv_iload_n hx hb d_Rv_branch_125 rfl (lv_at hl 0 rfl) ?_
                refine zgoi (wr := [(x, .inr (0, [.ref wa, .int wc, .ref ra, .ref ma, .ref ua, .ref oa, .int ph, .int dn, .int nx, .int fo])), (ra, .inl (cI, 32, .inl (rg)))]) (zrunS (n := 2) (As := [.int ((sp_Rv_firstOperand w rg)), .int ((sp_Rv_secondOperand w rg))]) (rest := []) hE (c_Rv_isBelow l D _ _ (sp_Rv_firstOperand w rg) (sp_Rv_secondOperand w rg)) cb_Rv_isBelow lk_Rv_164 st_Rv_isBelow (zpreS hK hP hD [] rfl rfl rfl) ⟨Nat.le_of_ble_eq_true rfl, Nat.le_of_ble_eq_true rfl, Nat.le_of_ble_eq_true rfl, Nat.le_of_ble_eq_true rfl⟩ rfl hl.1 rfl (Nat.le_of_ble_eq_true rfl) d_Rv_branch_126) hP hD hS hA [] [0, 1] rfl rfl rfl (by decide) (fun r u H locs hq31 hP hD hS => ?_)
                subst hq31
                have hP : va_P D zC [(x, .inr (0, [.ref wa, .int wc, .ref ra, .ref ma, .ref ua, .ref oa, .int ph, .int dn, .int nx, .int fo])), (ra, .inl (cI, 32, .inl (rg)))] H := hP
                have hD : va_D A [(x, .inr (0, [.ref wa, .int wc, .ref ra, .ref ma, .ref ua, .ref oa, .int ph, .int dn, .int nx, .int fo])), (ra, .inl (cI, 32, .inl (rg)))] := hD
                refine lv_istore (lv' := [(4, .int (sp_Rv_isBelow (sp_Rv_firstOperand w rg) (sp_Rv_secondOperand w rg))), (3, .int ((sp_Rv_secondOperand w rg))), (2, .int ((sp_Rv_firstOperand w rg))), (0, .ref x), (1, .int w)]) hx hb d_Rv_branch_129 hl (by decide) rfl (fun ls hl => ?_)
                refine lv_goto (tgt := 154) hx hb d_Rv_branch_131 (by decide) ?_
                refine lv_iload hx hb d_Rv_branch_154 (lv_at hl 0 rfl) ?_
                refine lv_if_eq (tgt := 175) hx hb d_Rv_branch_156 (by decide) (fun h32 => ?_) (fun h32 => ?_)
                · refine lv_iconst (v := 0) hx hb d_Rv_branch_175 (by decide) ?_
                  have hs : (sp_Rv_branch w nx fo rg) = (0, fo) := by rw [sp_Rv_branch, if_neg h4, if_neg h10, if_neg h16, if_neg h17, if_neg h18, if_neg h24, if_pos h30, if_pos h32]
                  have hP9 := hP.sub (ws' := [(x, .inr (0, [.ref wa, .int wc, .ref ra, .ref ma, .ref ua, .ref oa, .int ph, .int dn, .int nx, .int fo])), (ra, .inl (cI, 32, .inl (rg)))]) [0, 1] rfl
                  have hD9 := hD.sub (ws' := [(x, .inr (0, [.ref wa, .int wc, .ref ra, .ref ma, .ref ua, .ref oa, .int ph, .int dn, .int nx, .int fo])), (ra, .inl (cI, 32, .inl (rg)))]) [0, 1] rfl rfl
                  exact zreti hx hb hr rfl hlocks hS () (by rw [hs]) rfl (by rw [hs]; exact hP9) (by rw [hs]; exact hD9) d_Rv_branch_176
                · refine lv_aload_n hx hb d_Rv_branch_159 rfl (lv_at hl 3 rfl) ?_
                  refine lv_aload_n hx hb d_Rv_branch_160 rfl (lv_at hl 3 rfl) ?_
                  refine zget hE hK hP 0 rfl fd_Rv_65 rfl d_Rv_branch_161 ?_
                  refine lv_iload_n hx hb d_Rv_branch_164 rfl (lv_at hl 4 rfl) ?_
                  refine zgoi (wr := [(x, .inr (0, [.ref wa, .int wc, .ref ra, .ref ma, .ref ua, .ref oa, .int ph, .int dn, .int nx, .int fo])), (ra, .inl (cI, 32, .inl (rg)))]) (zrunS (n := 1) (As := [.int w]) (rest := [.int nx, .ref x]) hE (c_Rv_branchOffset l D _ _ w) cb_Rv_branchOffset lk_Rv_167 st_Rv_branchOffset (zpreS hK hP hD [] rfl rfl rfl) ⟨Nat.le_of_ble_eq_true rfl, Nat.le_of_ble_eq_true rfl, Nat.le_of_ble_eq_true rfl, Nat.le_of_ble_eq_true rfl⟩ rfl hl.1 rfl (Nat.le_of_ble_eq_true rfl) d_Rv_branch_165) hP hD hS hA [] [0, 1] rfl rfl rfl (by decide) (fun r u H locs hq33 hP hD hS => ?_)
                  subst hq33
                  have hP : va_P D zC [(x, .inr (0, [.ref wa, .int wc, .ref ra, .ref ma, .ref ua, .ref oa, .int ph, .int dn, .int nx, .int fo])), (ra, .inl (cI, 32, .inl (rg)))] H := hP
                  have hD : va_D A [(x, .inr (0, [.ref wa, .int wc, .ref ra, .ref ma, .ref ua, .ref oa, .int ph, .int dn, .int nx, .int fo])), (ra, .inl (cI, 32, .inl (rg)))] := hD
                  refine lv_iadd hx hb d_Rv_branch_168 ?_
                  refine zgoi (wr := [(ra, .inl (cI, 32, .inl (rg)))]) (zrunV (n := 1) (As := [.int (nx + (sp_Rv_branchOffset w))]) (rest := []) hE (c_Rv_goTo l D cI cB cJ _ (nx + (sp_Rv_branchOffset w)) x wa wc ra ma ua oa ph dn nx fo) cb_Rv_goTo lk_Rv_155 in_Rv_goTo se_Rv_goTo (zpreV (q0 := 0) hK hP hD rfl rfl rfl [0] rfl rfl rfl) ⟨Nat.le_of_ble_eq_true rfl, Nat.le_of_ble_eq_true rfl, Nat.le_of_ble_eq_true rfl, Nat.le_of_ble_eq_true rfl⟩ rfl hl.1 rfl (Nat.le_of_ble_eq_true rfl) d_Rv_branch_169) hP hD hS hA [0] [1] rfl rfl rfl (by decide) (fun r u H locs hq34 hP hD hS => ?_)
                  subst hq34
                  have hP : va_P D zC [(ra, .inl (cI, 32, .inl (rg))), (x, .inr (0, [.ref wa, .int wc, .ref ra, .ref ma, .ref ua, .ref oa, .int ph, .int dn, .int nx, .int ((sp_Rv_goTo (nx + (sp_Rv_branchOffset w)) fo).2)]))] H := hP
                  have hD : va_D A [(ra, .inl (cI, 32, .inl (rg))), (x, .inr (0, [.ref wa, .int wc, .ref ra, .ref ma, .ref ua, .ref oa, .int ph, .int dn, .int nx, .int ((sp_Rv_goTo (nx + (sp_Rv_branchOffset w)) fo).2)]))] := hD
                  refine lv_goto (tgt := 176) hx hb d_Rv_branch_172 (by decide) ?_
                  have hs : (sp_Rv_branch w nx fo rg) = ((sp_Rv_goTo (nx + (sp_Rv_branchOffset w)) fo).1, (sp_Rv_goTo (nx + (sp_Rv_branchOffset w)) fo).2) := by rw [sp_Rv_branch, if_neg h4, if_neg h10, if_neg h16, if_neg h17, if_neg h18, if_neg h24, if_pos h30, if_neg h32]
                  have hP9 := hP.sub (ws' := [(x, .inr (0, [.ref wa, .int wc, .ref ra, .ref ma, .ref ua, .ref oa, .int ph, .int dn, .int nx, .int ((sp_Rv_goTo (nx + (sp_Rv_branchOffset w)) fo).2)])), (ra, .inl (cI, 32, .inl (rg)))]) [1, 0] rfl
                  have hD9 := hD.sub (ws' := [(x, .inr (0, [.ref wa, .int wc, .ref ra, .ref ma, .ref ua, .ref oa, .int ph, .int dn, .int nx, .int ((sp_Rv_goTo (nx + (sp_Rv_branchOffset w)) fo).2)])), (ra, .inl (cI, 32, .inl (rg)))]) [1, 0] rfl rfl
                  exact zreti hx hb hr rfl hlocks hS () (by rw [hs]) rfl (by rw [hs]; exact hP9) (by rw [hs]; exact hD9) d_Rv_branch_176
              · rcases Decidable.em ((sp_Rv_middle w) = 7) with h35 | h35
                · refine lv_tableIn (tgt := 134) hx hb d_Rv_branch_16 (by rw [h35]; decide) (by rw [h35]; decide) (by rw [h35]; rfl) (by decide) ?_
                  refine lv_iload_n hx hb d_Rv_branch_134 rfl (lv_at hl 1 rfl) ?_
                  refine lv_iload_n hx hb d_Rv_branch_135 rfl (lv_at hl 0 rfl) ?_
                  refine zgoi (wr := [(x, .inr (0, [.ref wa, .int wc, .ref ra, .ref ma, .ref ua, .ref oa, .int ph, .int dn, .int nx, .int fo])), (ra, .inl (cI, 32, .inl (rg)))]) (zrunS (n := 2) (As := [.int ((sp_Rv_firstOperand w rg)), .int ((sp_Rv_secondOperand w rg))]) (rest := []) hE (c_Rv_isBelow l D _ _ (sp_Rv_firstOperand w rg) (sp_Rv_secondOperand w rg)) cb_Rv_isBelow lk_Rv_164 st_Rv_isBelow (zpreS hK hP hD [] rfl rfl rfl) ⟨Nat.le_of_ble_eq_true rfl, Nat.le_of_ble_eq_true rfl, Nat.le_of_ble_eq_true rfl, Nat.le_of_ble_eq_true rfl⟩ rfl hl.1 rfl (Nat.le_of_ble_eq_true rfl) d_Rv_branch_136) hP hD hS hA [] [0, 1] rfl rfl rfl (by decide) (fun r u H locs hq36 hP hD hS => ?_)
                  subst hq36
                  have hP : va_P D zC [(x, .inr (0, [.ref wa, .int wc, .ref ra, .ref ma, .ref ua, .ref oa, .int ph, .int dn, .int nx, .int fo])), (ra, .inl (cI, 32, .inl (rg)))] H := hP
                  have hD : va_D A [(x, .inr (0, [.ref wa, .int wc, .ref ra, .ref ma, .ref ua, .ref oa, .int ph, .int dn, .int nx, .int fo])), (ra, .inl (cI, 32, .inl (rg)))] := hD
                  refine lv_if_ne (tgt := 146) hx hb d_Rv_branch_139 (by decide) (fun h37 => ?_) (fun h37 => ?_)
                  · refine lv_iconst (v := 0) hx hb d_Rv_branch_146 (by decide) ?_
                    refine lv_istore (lv' := [(4, .int 0), (3, .int ((sp_Rv_secondOperand w rg))), (2, .int ((sp_Rv_firstOperand w rg))), (0, .ref x), (1, .int w)]) hx hb d_Rv_branch_147 hl (by decide) rfl (fun ls hl => ?_)
                    refine lv_goto (tgt := 154) hx hb d_Rv_branch_149 (by decide) ?_
                    refine lv_iload hx hb d_Rv_branch_154 (lv_at hl 0 rfl) ?_
                    refine lv_if_eq (tgt := 175) hx hb d_Rv_branch_156 (by decide) (fun h38 => ?_) (fun h38 => (show False by revert h38; decide).elim)
                    refine lv_iconst (v := 0) hx hb d_Rv_branch_175 (by decide) ?_
                    have hs : (sp_Rv_branch w nx fo rg) = (0, fo) := by rw [sp_Rv_branch, if_neg h4, if_neg h10, if_neg h16, if_neg h17, if_neg h18, if_neg h24, if_neg h30, if_pos h35, if_neg h37]
                    have hP9 := hP.sub (ws' := [(x, .inr (0, [.ref wa, .int wc, .ref ra, .ref ma, .ref ua, .ref oa, .int ph, .int dn, .int nx, .int fo])), (ra, .inl (cI, 32, .inl (rg)))]) [0, 1] rfl
                    have hD9 := hD.sub (ws' := [(x, .inr (0, [.ref wa, .int wc, .ref ra, .ref ma, .ref ua, .ref oa, .int ph, .int dn, .int nx, .int fo])), (ra, .inl (cI, 32, .inl (rg)))]) [0, 1] rfl rfl
                    exact zreti hx hb hr rfl hlocks hS () (by rw [hs]) rfl (by rw [hs]; exact hP9) (by rw [hs]; exact hD9) d_Rv_branch_176
                  · refine lv_iconst (v := 1) hx hb d_Rv_branch_142 (by decide) ?_
                    refine lv_goto (tgt := 147) hx hb d_Rv_branch_143 (by decide) ?_
                    refine lv_istore (lv' := [(4, .int 1), (3, .int ((sp_Rv_secondOperand w rg))), (2, .int ((sp_Rv_firstOperand w rg))), (0, .ref x), (1, .int w)]) hx hb d_Rv_branch_147 hl (by decide) rfl (fun ls hl => ?_)
                    refine lv_goto (tgt := 154) hx hb d_Rv_branch_149 (by decide) ?_
                    refine lv_iload hx hb d_Rv_branch_154 (lv_at hl 0 rfl) ?_
                    refine lv_if_eq (tgt := 175) hx hb d_Rv_branch_156 (by decide) (fun h39 => (show False by revert h39; decide).elim) (fun h39 => ?_)
                    refine lv_aload_n hx hb d_Rv_branch_159 rfl (lv_at hl 3 rfl) ?_
                    refine lv_aload_n hx hb d_Rv_branch_160 rfl (lv_at hl 3 rfl) ?_
                    refine zget hE hK hP 0 rfl fd_Rv_65 rfl d_Rv_branch_161 ?_
                    refine lv_iload_n hx hb d_Rv_branch_164 rfl (lv_at hl 4 rfl) ?_
                    refine zgoi (wr := [(x, .inr (0, [.ref wa, .int wc, .ref ra, .ref ma, .ref ua, .ref oa, .int ph, .int dn, .int nx, .int fo])), (ra, .inl (cI, 32, .inl (rg)))]) (zrunS (n := 1) (As := [.int w]) (rest := [.int nx, .ref x]) hE (c_Rv_branchOffset l D _ _ w) cb_Rv_branchOffset lk_Rv_167 st_Rv_branchOffset (zpreS hK hP hD [] rfl rfl rfl) ⟨Nat.le_of_ble_eq_true rfl, Nat.le_of_ble_eq_true rfl, Nat.le_of_ble_eq_true rfl, Nat.le_of_ble_eq_true rfl⟩ rfl hl.1 rfl (Nat.le_of_ble_eq_true rfl) d_Rv_branch_165) hP hD hS hA [] [0, 1] rfl rfl rfl (by decide) (fun r u H locs hq40 hP hD hS => ?_)
                    subst hq40
                    have hP : va_P D zC [(x, .inr (0, [.ref wa, .int wc, .ref ra, .ref ma, .ref ua, .ref oa, .int ph, .int dn, .int nx, .int fo])), (ra, .inl (cI, 32, .inl (rg)))] H := hP
                    have hD : va_D A [(x, .inr (0, [.ref wa, .int wc, .ref ra, .ref ma, .ref ua, .ref oa, .int ph, .int dn, .int nx, .int fo])), (ra, .inl (cI, 32, .inl (rg)))] := hD
                    refine lv_iadd hx hb d_Rv_branch_168 ?_
                    refine zgoi (wr := [(ra, .inl (cI, 32, .inl (rg)))]) (zrunV (n := 1) (As := [.int (nx + (sp_Rv_branchOffset w))]) (rest := []) hE (c_Rv_goTo l D cI cB cJ _ (nx + (sp_Rv_branchOffset w)) x wa wc ra ma ua oa ph dn nx fo) cb_Rv_goTo lk_Rv_155 in_Rv_goTo se_Rv_goTo (zpreV (q0 := 0) hK hP hD rfl rfl rfl [0] rfl rfl rfl) ⟨Nat.le_of_ble_eq_true rfl, Nat.le_of_ble_eq_true rfl, Nat.le_of_ble_eq_true rfl, Nat.le_of_ble_eq_true rfl⟩ rfl hl.1 rfl (Nat.le_of_ble_eq_true rfl) d_Rv_branch_169) hP hD hS hA [0] [1] rfl rfl rfl (by decide) (fun r u H locs hq41 hP hD hS => ?_)
                    subst hq41
                    have hP : va_P D zC [(ra, .inl (cI, 32, .inl (rg))), (x, .inr (0, [.ref wa, .int wc, .ref ra, .ref ma, .ref ua, .ref oa, .int ph, .int dn, .int nx, .int ((sp_Rv_goTo (nx + (sp_Rv_branchOffset w)) fo).2)]))] H := hP
                    have hD : va_D A [(ra, .inl (cI, 32, .inl (rg))), (x, .inr (0, [.ref wa, .int wc, .ref ra, .ref ma, .ref ua, .ref oa, .int ph, .int dn, .int nx, .int ((sp_Rv_goTo (nx + (sp_Rv_branchOffset w)) fo).2)]))] := hD
                    refine lv_goto (tgt := 176) hx hb d_Rv_branch_172 (by decide) ?_
                    have hs : (sp_Rv_branch w nx fo rg) = ((sp_Rv_goTo (nx + (sp_Rv_branchOffset w)) fo).1, (sp_Rv_goTo (nx + (sp_Rv_branchOffset w)) fo).2) := by rw [sp_Rv_branch, if_neg h4, if_neg h10, if_neg h16, if_neg h17, if_neg h18, if_neg h24, if_neg h30, if_pos h35, if_pos h37]
                    have hP9 := hP.sub (ws' := [(x, .inr (0, [.ref wa, .int wc, .ref ra, .ref ma, .ref ua, .ref oa, .int ph, .int dn, .int nx, .int ((sp_Rv_goTo (nx + (sp_Rv_branchOffset w)) fo).2)])), (ra, .inl (cI, 32, .inl (rg)))]) [1, 0] rfl
                    have hD9 := hD.sub (ws' := [(x, .inr (0, [.ref wa, .int wc, .ref ra, .ref ma, .ref ua, .ref oa, .int ph, .int dn, .int nx, .int ((sp_Rv_goTo (nx + (sp_Rv_branchOffset w)) fo).2)])), (ra, .inl (cI, 32, .inl (rg)))]) [1, 0] rfl rfl
                    exact zreti hx hb hr rfl hlocks hS () (by rw [hs]) rfl (by rw [hs]; exact hP9) (by rw [hs]; exact hD9) d_Rv_branch_176
                · refine lv_tableOut (tgt := 152) hx hb d_Rv_branch_16 (by have q0 := z_ne h4 (n := 0) (by decide); have q1 := z_ne h10 (n := 1) (by decide); have q2 := z_ne h16 (n := 2) (by decide); have q3 := z_ne h17 (n := 3) (by decide); have q4 := z_ne h18 (n := 4) (by decide); have q5 := z_ne h24 (n := 5) (by decide); have q6 := z_ne h30 (n := 6) (by decide); have q7 := z_ne h35 (n := 7) (by decide); omega) (by decide) ?_
                  refine lv_iconst (v := 1) hx hb d_Rv_branch_152 (by decide) ?_
                  have hs : (sp_Rv_branch w nx fo rg) = (1, fo) := by rw [sp_Rv_branch, if_neg h4, if_neg h10, if_neg h16, if_neg h17, if_neg h18, if_neg h24, if_neg h30, if_neg h35]
                  have hP9 := hP.sub (ws' := [(x, .inr (0, [.ref wa, .int wc, .ref ra, .ref ma, .ref ua, .ref oa, .int ph, .int dn, .int nx, .int fo])), (ra, .inl (cI, 32, .inl (rg)))]) [0, 1] rfl
                  have hD9 := hD.sub (ws' := [(x, .inr (0, [.ref wa, .int wc, .ref ra, .ref ma, .ref ua, .ref oa, .int ph, .int dn, .int nx, .int fo])), (ra, .inl (cI, 32, .inl (rg)))]) [0, 1] rfl rfl
                  exact zreti hx hb hr rfl hlocks hS () (by rw [hs]) rfl (by rw [hs]; exact hP9) (by rw [hs]; exact hD9) d_Rv_branch_153

def sp_Rv_operateWithConstant (w : Int32) (rg : Nat → Int32) : Int32 × (Nat → Int32) := if (sp_Rv_middle w) = 1 then
  if (sp_Rv_top w) = 0 then ((sp_Rv_keep w (((sp_Rv_firstOperand w rg) : Int32) <<< ((((w : Int32) >>> ((20 : Int32) &&& 31)) &&& 31 : Int32) &&& 31)) rg).1, (sp_Rv_keep w (((sp_Rv_firstOperand w rg) : Int32) <<< ((((w : Int32) >>> ((20 : Int32) &&& 31)) &&& 31 : Int32) &&& 31)) rg).2) else (1, rg)
else if (sp_Rv_middle w) = 5 then
  if (sp_Rv_top w) = 32 then ((sp_Rv_keep w (((sp_Rv_firstOperand w rg) : Int32) >>> ((((w : Int32) >>> ((20 : Int32) &&& 31)) &&& 31 : Int32) &&& 31)) rg).1, (sp_Rv_keep w (((sp_Rv_firstOperand w rg) : Int32) >>> ((((w : Int32) >>> ((20 : Int32) &&& 31)) &&& 31 : Int32) &&& 31)) rg).2) else if (sp_Rv_top w) = 0 then ((sp_Rv_keep w (zushr (sp_Rv_firstOperand w rg) (((w : Int32) >>> ((20 : Int32) &&& 31)) &&& 31)) rg).1, (sp_Rv_keep w (zushr (sp_Rv_firstOperand w rg) (((w : Int32) >>> ((20 : Int32) &&& 31)) &&& 31)) rg).2) else (1, rg)
else ((sp_Rv_keep w (sp_Rv_plainResult (sp_Rv_middle w) (sp_Rv_firstOperand w rg) ((w : Int32) >>> ((20 : Int32) &&& 31))) rg).1, (sp_Rv_keep w (sp_Rv_plainResult (sp_Rv_middle w) (sp_Rv_firstOperand w rg) ((w : Int32) >>> ((20 : Int32) &&& 31))) rg).2)
set_option maxHeartbeats 4000000 in
theorem c_Rv_operateWithConstant (l : Launch) (D : va_G) (cI cB cJ : ClassId) (sz : Nat) (w : Int32) (x : Nat) (wa : Nat) (wc : Int32) (ra : Nat) (ma : Nat) (ua : Nat) (oa : Nat) (ph : Int32) (dn : Int32) (nx : Int32) (fo : Int32) (rg : Nat → Int32) : zMet l y_Rv_operateWithConstant (zWs y_Rv_operateWithConstant b_Rv_operateWithConstant 4 (some .int)) { frames := 3, cells := 0, slots := 0, locals := 63 } (zPc D (zT cI cB cJ) sz [(x, .inr (0, [.ref wa, .int wc, .ref ra, .ref ma, .ref ua, .ref oa, .int ph, .int dn, .int nx, .int fo])), (ra, .inl (cI, 32, .inl (rg)))] [.ref x, .int w]) (zQi D (va_A [(x, .inr (0, [.ref wa, .int wc, .ref ra, .ref ma, .ref ua, .ref oa, .int ph, .int dn, .int nx, .int fo])), (ra, .inl (cI, 32, .inl (rg)))] sz) (fun r (_ : Unit) => r = (sp_Rv_operateWithConstant w rg).1) (z0) (fun _ => [(x, .inr (0, [.ref wa, .int wc, .ref ra, .ref ma, .ref ua, .ref oa, .int ph, .int dn, .int nx, .int fo])), (ra, .inl (cI, 32, .inl ((sp_Rv_operateWithConstant w rg).2)))])) (va_A [(x, .inr (0, [.ref wa, .int wc, .ref ra, .ref ma, .ref ua, .ref oa, .int ph, .int dn, .int nx, .int fo])), (ra, .inl (cI, 32, .inl (rg)))] sz) := by
  refine zstart (Qc := fun A => zQi D A (fun r (_ : Unit) => r = (sp_Rv_operateWithConstant w rg).1) (z0) (fun _ => [(x, .inr (0, [.ref wa, .int wc, .ref ra, .ref ma, .ref ua, .ref oa, .int ph, .int dn, .int nx, .int fo])), (ra, .inl (cI, 32, .inl ((sp_Rv_operateWithConstant w rg).2)))])) (by decide) (Nat.le_of_ble_eq_true rfl) ?_
  intro p e s m below meth c ls A hE hr hlocks hin hsz hK hP hD hS hA hAe hl
  have hx := hE.1
  have hb := hE.2.1
  have hown := hE.2.2.2.1
  have hw := hE.2.2.2.2
  have hl : lv_has ls 4 [(0, .ref x), (1, .int w)] := hl
  refine lv_aload_n hx hb d_Rv_operateWithConstant_0 rfl (lv_at hl 0 rfl) ?_
  refine lv_iload_n hx hb d_Rv_operateWithConstant_1 rfl (lv_at hl 1 rfl) ?_
  refine zgoi (wr := []) (zrunV (n := 1) (As := [.int w]) (rest := []) hE (c_Rv_firstOperand l D cI cB cJ _ w x wa wc ra ma ua oa ph dn nx fo rg) cb_Rv_firstOperand lk_Rv_158 in_Rv_firstOperand se_Rv_firstOperand (zpreV (q0 := 0) hK hP hD rfl rfl rfl [0, 1] rfl rfl rfl) ⟨Nat.le_of_ble_eq_true rfl, Nat.le_of_ble_eq_true rfl, Nat.le_of_ble_eq_true rfl, Nat.le_of_ble_eq_true rfl⟩ rfl hl.1 rfl (Nat.le_of_ble_eq_true rfl) d_Rv_operateWithConstant_2) hP hD hS hA [0, 1] [] rfl rfl rfl (by decide) (fun r u H locs hq1 hP hD hS => ?_)
  subst hq1
  have hP : va_P D zC [(x, .inr (0, [.ref wa, .int wc, .ref ra, .ref ma, .ref ua, .ref oa, .int ph, .int dn, .int nx, .int fo])), (ra, .inl (cI, 32, .inl (rg)))] H := hP
  have hD : va_D A [(x, .inr (0, [.ref wa, .int wc, .ref ra, .ref ma, .ref ua, .ref oa, .int ph, .int dn, .int nx, .int fo])), (ra, .inl (cI, 32, .inl (rg)))] := hD
  refine lv_istore_n (lv' := [(2, .int ((sp_Rv_firstOperand w rg))), (0, .ref x), (1, .int w)]) hx hb d_Rv_operateWithConstant_5 rfl hl (by decide) rfl (fun ls hl => ?_)
  refine lv_iload_n hx hb d_Rv_operateWithConstant_6 rfl (lv_at hl 2 rfl) ?_
  refine lv_bipush (v := 20) hx hb d_Rv_operateWithConstant_7 (by decide) ?_
  refine lv_ishr hx hb d_Rv_operateWithConstant_9 ?_
  refine lv_istore_n (lv' := [(3, .int ((w : Int32) >>> ((20 : Int32) &&& 31))), (2, .int ((sp_Rv_firstOperand w rg))), (0, .ref x), (1, .int w)]) hx hb d_Rv_operateWithConstant_10 rfl hl (by decide) rfl (fun ls hl => ?_)
  refine lv_iload_n hx hb d_Rv_operateWithConstant_11 rfl (lv_at hl 3 rfl) ?_
  refine zgoi (wr := [(x, .inr (0, [.ref wa, .int wc, .ref ra, .ref ma, .ref ua, .ref oa, .int ph, .int dn, .int nx, .int fo])), (ra, .inl (cI, 32, .inl (rg)))]) (zrunS (n := 1) (As := [.int w]) (rest := []) hE (c_Rv_middle l D _ _ w) cb_Rv_middle lk_Rv_147 st_Rv_middle (zpreS hK hP hD [] rfl rfl rfl) ⟨Nat.le_of_ble_eq_true rfl, Nat.le_of_ble_eq_true rfl, Nat.le_of_ble_eq_true rfl, Nat.le_of_ble_eq_true rfl⟩ rfl hl.1 rfl (Nat.le_of_ble_eq_true rfl) d_Rv_operateWithConstant_12) hP hD hS hA [] [0, 1] rfl rfl rfl (by decide) (fun r u H locs hq2 hP hD hS => ?_)
  subst hq2
  have hP : va_P D zC [(x, .inr (0, [.ref wa, .int wc, .ref ra, .ref ma, .ref ua, .ref oa, .int ph, .int dn, .int nx, .int fo])), (ra, .inl (cI, 32, .inl (rg)))] H := hP
  have hD : va_D A [(x, .inr (0, [.ref wa, .int wc, .ref ra, .ref ma, .ref ua, .ref oa, .int ph, .int dn, .int nx, .int fo])), (ra, .inl (cI, 32, .inl (rg)))] := hD
  rcases Decidable.em ((sp_Rv_middle w) = 1) with h3 | h3
  · refine lv_lookup (tgt := 40) (off := 25) hx hb d_Rv_operateWithConstant_15 (by decide) (by rw [h3]; first | done | rfl) (by decide) ?_
    refine lv_iload_n hx hb d_Rv_operateWithConstant_40 rfl (lv_at hl 3 rfl) ?_
    refine zgoi (wr := [(x, .inr (0, [.ref wa, .int wc, .ref ra, .ref ma, .ref ua, .ref oa, .int ph, .int dn, .int nx, .int fo])), (ra, .inl (cI, 32, .inl (rg)))]) (zrunS (n := 1) (As := [.int w]) (rest := []) hE (c_Rv_top l D _ _ w) cb_Rv_top lk_Rv_180 st_Rv_top (zpreS hK hP hD [] rfl rfl rfl) ⟨Nat.le_of_ble_eq_true rfl, Nat.le_of_ble_eq_true rfl, Nat.le_of_ble_eq_true rfl, Nat.le_of_ble_eq_true rfl⟩ rfl hl.1 rfl (Nat.le_of_ble_eq_true rfl) d_Rv_operateWithConstant_41) hP hD hS hA [] [0, 1] rfl rfl rfl (by decide) (fun r u H locs hq4 hP hD hS => ?_)
    subst hq4
    have hP : va_P D zC [(x, .inr (0, [.ref wa, .int wc, .ref ra, .ref ma, .ref ua, .ref oa, .int ph, .int dn, .int nx, .int fo])), (ra, .inl (cI, 32, .inl (rg)))] H := hP
    have hD : va_D A [(x, .inr (0, [.ref wa, .int wc, .ref ra, .ref ma, .ref ua, .ref oa, .int ph, .int dn, .int nx, .int fo])), (ra, .inl (cI, 32, .inl (rg)))] := hD
    refine lv_if_ne (tgt := 61) hx hb d_Rv_operateWithConstant_44 (by decide) (fun h5 => ?_) (fun h5 => ?_)
    · refine lv_iconst (v := 1) hx hb d_Rv_operateWithConstant_61 (by decide) ?_
      have hs : (sp_Rv_operateWithConstant w rg) = (1, rg) := by rw [sp_Rv_operateWithConstant, if_pos h3, if_neg h5]
      have hP9 := hP.sub (ws' := [(x, .inr (0, [.ref wa, .int wc, .ref ra, .ref ma, .ref ua, .ref oa, .int ph, .int dn, .int nx, .int fo])), (ra, .inl (cI, 32, .inl (rg)))]) [0, 1] rfl
      have hD9 := hD.sub (ws' := [(x, .inr (0, [.ref wa, .int wc, .ref ra, .ref ma, .ref ua, .ref oa, .int ph, .int dn, .int nx, .int fo])), (ra, .inl (cI, 32, .inl (rg)))]) [0, 1] rfl rfl
      exact zreti hx hb hr rfl hlocks hS () (by rw [hs]) rfl (by rw [hs]; exact hP9) (by rw [hs]; exact hD9) d_Rv_operateWithConstant_62
    · refine lv_aload_n hx hb d_Rv_operateWithConstant_47 rfl (lv_at hl 2 rfl) ?_
      refine lv_iload_n hx hb d_Rv_operateWithConstant_48 rfl (lv_at hl 3 rfl) ?_
      refine lv_iload_n hx hb d_Rv_operateWithConstant_49 rfl (lv_at hl 1 rfl) ?_
      refine lv_iload_n hx hb d_Rv_operateWithConstant_50 rfl (lv_at hl 0 rfl) ?_
      refine lv_bipush (v := 31) hx hb d_Rv_operateWithConstant_51 (by decide) ?_
      refine lv_iand hx hb d_Rv_operateWithConstant_53 ?_
      refine lv_ishl hx hb d_Rv_operateWithConstant_54 ?_
      refine zgoi (wr := []) (zrunV (n := 2) (As := [.int w, .int (((sp_Rv_firstOperand w rg) : Int32) <<< ((((w : Int32) >>> ((20 : Int32) &&& 31)) &&& 31 : Int32) &&& 31))]) (rest := []) hE (c_Rv_keep l D cI cB cJ _ w (((sp_Rv_firstOperand w rg) : Int32) <<< ((((w : Int32) >>> ((20 : Int32) &&& 31)) &&& 31 : Int32) &&& 31)) x wa wc ra ma ua oa ph dn nx fo rg) cb_Rv_keep lk_Rv_120 in_Rv_keep se_Rv_keep (zpreV (q0 := 0) hK hP hD rfl rfl rfl [0, 1] rfl rfl rfl) ⟨Nat.le_of_ble_eq_true rfl, Nat.le_of_ble_eq_true rfl, Nat.le_of_ble_eq_true rfl, Nat.le_of_ble_eq_true rfl⟩ rfl hl.1 rfl (Nat.le_of_ble_eq_true rfl) d_Rv_operateWithConstant_55) hP hD hS hA [0, 1] [] rfl rfl rfl (by decide) (fun r u H locs hq6 hP hD hS => ?_)
      subst hq6
      have hP : va_P D zC [(x, .inr (0, [.ref wa, .int wc, .ref ra, .ref ma, .ref ua, .ref oa, .int ph, .int dn, .int nx, .int fo])), (ra, .inl (cI, 32, .inl ((sp_Rv_keep w (((sp_Rv_firstOperand w rg) : Int32) <<< ((((w : Int32) >>> ((20 : Int32) &&& 31)) &&& 31 : Int32) &&& 31)) rg).2)))] H := hP
      have hD : va_D A [(x, .inr (0, [.ref wa, .int wc, .ref ra, .ref ma, .ref ua, .ref oa, .int ph, .int dn, .int nx, .int fo])), (ra, .inl (cI, 32, .inl ((sp_Rv_keep w (((sp_Rv_firstOperand w rg) : Int32) <<< ((((w : Int32) >>> ((20 : Int32) &&& 31)) &&& 31 : Int32) &&& 31)) rg).2)))] := hD
      refine lv_goto (tgt := 62) hx hb d_Rv_operateWithConstant_58 (by decide) ?_
      have hs : (sp_Rv_operateWithConstant w rg) = ((sp_Rv_keep w (((sp_Rv_firstOperand w rg) : Int32) <<< ((((w : Int32) >>> ((20 : Int32) &&& 31)) &&& 31 : Int32) &&& 31)) rg).1, (sp_Rv_keep w (((sp_Rv_firstOperand w rg) : Int32) <<< ((((w : Int32) >>> ((20 : Int32) &&& 31)) &&& 31 : Int32) &&& 31)) rg).2) := by rw [sp_Rv_operateWithConstant, if_pos h3, if_pos h5]
      have hP9 := hP.sub (ws' := [(x, .inr (0, [.ref wa, .int wc, .ref ra, .ref ma, .ref ua, .ref oa, .int ph, .int dn, .int nx, .int fo])), (ra, .inl (cI, 32, .inl ((sp_Rv_keep w (((sp_Rv_firstOperand w rg) : Int32) <<< ((((w : Int32) >>> ((20 : Int32) &&& 31)) &&& 31 : Int32) &&& 31)) rg).2)))]) [0, 1] rfl
      have hD9 := hD.sub (ws' := [(x, .inr (0, [.ref wa, .int wc, .ref ra, .ref ma, .ref ua, .ref oa, .int ph, .int dn, .int nx, .int fo])), (ra, .inl (cI, 32, .inl ((sp_Rv_keep w (((sp_Rv_firstOperand w rg) : Int32) <<< ((((w : Int32) >>> ((20 : Int32) &&& 31)) &&& 31 : Int32) &&& 31)) rg).2)))]) [0, 1] rfl rfl
      exact zreti hx hb hr rfl hlocks hS () (by rw [hs]) rfl (by rw [hs]; exact hP9) (by rw [hs]; exact hD9) d_Rv_operateWithConstant_62
  · rcases Decidable.em ((sp_Rv_middle w) = 5) with h7 | h7
    · refine lv_lookup (tgt := 63) (off := 48) hx hb d_Rv_operateWithConstant_15 (by decide) (by rw [h7]; first | done | rfl) (by decide) ?_
      refine lv_iload_n hx hb d_Rv_operateWithConstant_63 rfl (lv_at hl 3 rfl) ?_
      refine zgoi (wr := [(x, .inr (0, [.ref wa, .int wc, .ref ra, .ref ma, .ref ua, .ref oa, .int ph, .int dn, .int nx, .int fo])), (ra, .inl (cI, 32, .inl (rg)))]) (zrunS (n := 1) (As := [.int w]) (rest := []) hE (c_Rv_top l D _ _ w) cb_Rv_top lk_Rv_180 st_Rv_top (zpreS hK hP hD [] rfl rfl rfl) ⟨Nat.le_of_ble_eq_true rfl, Nat.le_of_ble_eq_true rfl, Nat.le_of_ble_eq_true rfl, Nat.le_of_ble_eq_true rfl⟩ rfl hl.1 rfl (Nat.le_of_ble_eq_true rfl) d_Rv_operateWithConstant_64) hP hD hS hA [] [0, 1] rfl rfl rfl (by decide) (fun r u H locs hq8 hP hD hS => ?_)
      subst hq8
      have hP : va_P D zC [(x, .inr (0, [.ref wa, .int wc, .ref ra, .ref ma, .ref ua, .ref oa, .int ph, .int dn, .int nx, .int fo])), (ra, .inl (cI, 32, .inl (rg)))] H := hP
      have hD : va_D A [(x, .inr (0, [.ref wa, .int wc, .ref ra, .ref ma, .ref ua, .ref oa, .int ph, .int dn, .int nx, .int fo])), (ra, .inl (cI, 32, .inl (rg)))] := hD
      refine lv_bipush (v := 32) hx hb d_Rv_operateWithConstant_67 (by decide) ?_
      refine lv_icmp_ne (tgt := 84) hx hb d_Rv_operateWithConstant_69 (by decide) (fun h9 => ?_) (fun h9 => ?_)
      · refine lv_iload_n hx hb d_Rv_operateWithConstant_84 rfl (lv_at hl 3 rfl) ?_
        refine zgoi (wr := [(x, .inr (0, [.ref wa, .int wc, .ref ra, .ref ma, .ref ua, .ref oa, .int ph, .int dn, .int nx, .int fo])), (ra, .inl (cI, 32, .inl (rg)))]) (zrunS (n := 1) (As := [.int w]) (rest := []) hE (c_Rv_top l D _ _ w) cb_Rv_top lk_Rv_180 st_Rv_top (zpreS hK hP hD [] rfl rfl rfl) ⟨Nat.le_of_ble_eq_true rfl, Nat.le_of_ble_eq_true rfl, Nat.le_of_ble_eq_true rfl, Nat.le_of_ble_eq_true rfl⟩ rfl hl.1 rfl (Nat.le_of_ble_eq_true rfl) d_Rv_operateWithConstant_85) hP hD hS hA [] [0, 1] rfl rfl rfl (by decide) (fun r u H locs hq10 hP hD hS => ?_)
        subst hq10
        have hP : va_P D zC [(x, .inr (0, [.ref wa, .int wc, .ref ra, .ref ma, .ref ua, .ref oa, .int ph, .int dn, .int nx, .int fo])), (ra, .inl (cI, 32, .inl (rg)))] H := hP
        have hD : va_D A [(x, .inr (0, [.ref wa, .int wc, .ref ra, .ref ma, .ref ua, .ref oa, .int ph, .int dn, .int nx, .int fo])), (ra, .inl (cI, 32, .inl (rg)))] := hD
        refine lv_if_ne (tgt := 105) hx hb d_Rv_operateWithConstant_88 (by decide) (fun h11 => ?_) (fun h11 => ?_)
        · refine lv_iconst (v := 1) hx hb d_Rv_operateWithConstant_105 (by decide) ?_
          have hs : (sp_Rv_operateWithConstant w rg) = (1, rg) := by rw [sp_Rv_operateWithConstant, if_neg h3, if_pos h7, if_neg h9, if_neg h11]
          have hP9 := hP.sub (ws' := [(x, .inr (0, [.ref wa, .int wc, .ref ra, .ref ma, .ref ua, .ref oa, .int ph, .int dn, .int nx, .int fo])), (ra, .inl (cI, 32, .inl (rg)))]) [0, 1] rfl
          have hD9 := hD.sub (ws' := [(x, .inr (0, [.ref wa, .int wc, .ref ra, .ref ma, .ref ua, .ref oa, .int ph, .int dn, .int nx, .int fo])), (ra, .inl (cI, 32, .inl (rg)))]) [0, 1] rfl rfl
          exact zreti hx hb hr rfl hlocks hS () (by rw [hs]) rfl (by rw [hs]; exact hP9) (by rw [hs]; exact hD9) d_Rv_operateWithConstant_106
        · refine lv_aload_n hx hb d_Rv_operateWithConstant_91 rfl (lv_at hl 2 rfl) ?_
          refine lv_iload_n hx hb d_Rv_operateWithConstant_92 rfl (lv_at hl 3 rfl) ?_
          refine lv_iload_n hx hb d_Rv_operateWithConstant_93 rfl (lv_at hl 1 rfl) ?_
          refine lv_iload_n hx hb d_Rv_operateWithConstant_94 rfl (lv_at hl 0 rfl) ?_
          refine lv_bipush (v := 31) hx hb d_Rv_operateWithConstant_95 (by decide) ?_
          refine lv_iand hx hb d_Rv_operateWithConstant_97 ?_
          refine lv_iushr (v := zushr (sp_Rv_firstOperand w rg) (((w : Int32) >>> ((20 : Int32) &&& 31)) &&& 31)) hx hb d_Rv_operateWithConstant_98 rfl ?_
          refine zgoi (wr := []) (zrunV (n := 2) (As := [.int w, .int (zushr (sp_Rv_firstOperand w rg) (((w : Int32) >>> ((20 : Int32) &&& 31)) &&& 31))]) (rest := []) hE (c_Rv_keep l D cI cB cJ _ w (zushr (sp_Rv_firstOperand w rg) (((w : Int32) >>> ((20 : Int32) &&& 31)) &&& 31)) x wa wc ra ma ua oa ph dn nx fo rg) cb_Rv_keep lk_Rv_120 in_Rv_keep se_Rv_keep (zpreV (q0 := 0) hK hP hD rfl rfl rfl [0, 1] rfl rfl rfl) ⟨Nat.le_of_ble_eq_true rfl, Nat.le_of_ble_eq_true rfl, Nat.le_of_ble_eq_true rfl, Nat.le_of_ble_eq_true rfl⟩ rfl hl.1 rfl (Nat.le_of_ble_eq_true rfl) d_Rv_operateWithConstant_99) hP hD hS hA [0, 1] [] rfl rfl rfl (by decide) (fun r u H locs hq12 hP hD hS => ?_)
          subst hq12
          have hP : va_P D zC [(x, .inr (0, [.ref wa, .int wc, .ref ra, .ref ma, .ref ua, .ref oa, .int ph, .int dn, .int nx, .int fo])), (ra, .inl (cI, 32, .inl ((sp_Rv_keep w (zushr (sp_Rv_firstOperand w rg) (((w : Int32) >>> ((20 : Int32) &&& 31)) &&& 31)) rg).2)))] H := hP
          have hD : va_D A [(x, .inr (0, [.ref wa, .int wc, .ref ra, .ref ma, .ref ua, .ref oa, .int ph, .int dn, .int nx, .int fo])), (ra, .inl (cI, 32, .inl ((sp_Rv_keep w (zushr (sp_Rv_firstOperand w rg) (((w : Int32) >>> ((20 : Int32) &&& 31)) &&& 31)) rg).2)))] := hD
          refine lv_goto (tgt := 106) hx hb d_Rv_operateWithConstant_102 (by decide) ?_
          have hs : (sp_Rv_operateWithConstant w rg) = ((sp_Rv_keep w (zushr (sp_Rv_firstOperand w rg) (((w : Int32) >>> ((20 : Int32) &&& 31)) &&& 31)) rg).1, (sp_Rv_keep w (zushr (sp_Rv_firstOperand w rg) (((w : Int32) >>> ((20 : Int32) &&& 31)) &&& 31)) rg).2) := by rw [sp_Rv_operateWithConstant, if_neg h3, if_pos h7, if_neg h9, if_pos h11]
          have hP9 := hP.sub (ws' := [(x, .inr (0, [.ref wa, .int wc, .ref ra, .ref ma, .ref ua, .ref oa, .int ph, .int dn, .int nx, .int fo])), (ra, .inl (cI, 32, .inl ((sp_Rv_keep w (zushr (sp_Rv_firstOperand w rg) (((w : Int32) >>> ((20 : Int32) &&& 31)) &&& 31)) rg).2)))]) [0, 1] rfl
          have hD9 := hD.sub (ws' := [(x, .inr (0, [.ref wa, .int wc, .ref ra, .ref ma, .ref ua, .ref oa, .int ph, .int dn, .int nx, .int fo])), (ra, .inl (cI, 32, .inl ((sp_Rv_keep w (zushr (sp_Rv_firstOperand w rg) (((w : Int32) >>> ((20 : Int32) &&& 31)) &&& 31)) rg).2)))]) [0, 1] rfl rfl
          exact zreti hx hb hr rfl hlocks hS () (by rw [hs]) rfl (by rw [hs]; exact hP9) (by rw [hs]; exact hD9) d_Rv_operateWithConstant_106
      · refine lv_aload_n hx hb d_Rv_operateWithConstant_72 rfl (lv_at hl 2 rfl) ?_
        refine lv_iload_n hx hb d_Rv_operateWithConstant_73 rfl (lv_at hl 3 rfl) ?_
        refine lv_iload_n hx hb d_Rv_operateWithConstant_74 rfl (lv_at hl 1 rfl) ?_
        refine lv_iload_n hx hb d_Rv_operateWithConstant_75 rfl (lv_at hl 0 rfl) ?_
        refine lv_bipush (v := 31) hx hb d_Rv_operateWithConstant_76 (by decide) ?_
        refine lv_iand hx hb d_Rv_operateWithConstant_78 ?_
        refine lv_ishr hx hb d_Rv_operateWithConstant_79 ?_
        refine zgoi (wr := []) (zrunV (n := 2) (As := [.int w, .int (((sp_Rv_firstOperand w rg) : Int32) >>> ((((w : Int32) >>> ((20 : Int32) &&& 31)) &&& 31 : Int32) &&& 31))]) (rest := []) hE (c_Rv_keep l D cI cB cJ _ w (((sp_Rv_firstOperand w rg) : Int32) >>> ((((w : Int32) >>> ((20 : Int32) &&& 31)) &&& 31 : Int32) &&& 31)) x wa wc ra ma ua oa ph dn nx fo rg) cb_Rv_keep lk_Rv_120 in_Rv_keep se_Rv_keep (zpreV (q0 := 0) hK hP hD rfl rfl rfl [0, 1] rfl rfl rfl) ⟨Nat.le_of_ble_eq_true rfl, Nat.le_of_ble_eq_true rfl, Nat.le_of_ble_eq_true rfl, Nat.le_of_ble_eq_true rfl⟩ rfl hl.1 rfl (Nat.le_of_ble_eq_true rfl) d_Rv_operateWithConstant_80) hP hD hS hA [0, 1] [] rfl rfl rfl (by decide) (fun r u H locs hq13 hP hD hS => ?_)
        subst hq13
        have hP : va_P D zC [(x, .inr (0, [.ref wa, .int wc, .ref ra, .ref ma, .ref ua, .ref oa, .int ph, .int dn, .int nx, .int fo])), (ra, .inl (cI, 32, .inl ((sp_Rv_keep w (((sp_Rv_firstOperand w rg) : Int32) >>> ((((w : Int32) >>> ((20 : Int32) &&& 31)) &&& 31 : Int32) &&& 31)) rg).2)))] H := hP
        have hD : va_D A [(x, .inr (0, [.ref wa, .int wc, .ref ra, .ref ma, .ref ua, .ref oa, .int ph, .int dn, .int nx, .int fo])), (ra, .inl (cI, 32, .inl ((sp_Rv_keep w (((sp_Rv_firstOperand w rg) : Int32) >>> ((((w : Int32) >>> ((20 : Int32) &&& 31)) &&& 31 : Int32) &&& 31)) rg).2)))] := hD
        have hs : (sp_Rv_operateWithConstant w rg) = ((sp_Rv_keep w (((sp_Rv_firstOperand w rg) : Int32) >>> ((((w : Int32) >>> ((20 : Int32) &&& 31)) &&& 31 : Int32) &&& 31)) rg).1, (sp_Rv_keep w (((sp_Rv_firstOperand w rg) : Int32) >>> ((((w : Int32) >>> ((20 : Int32) &&& 31)) &&& 31 : Int32) &&& 31)) rg).2) := by rw [sp_Rv_operateWithConstant, if_neg h3, if_pos h7, if_pos h9]
        have hP9 := hP.sub (ws' := [(x, .inr (0, [.ref wa, .int wc, .ref ra, .ref ma, .ref ua, .ref oa, .int ph, .int dn, .int nx, .int fo])), (ra, .inl (cI, 32, .inl ((sp_Rv_keep w (((sp_Rv_firstOperand w rg) : Int32) >>> ((((w : Int32) >>> ((20 : Int32) &&& 31)) &&& 31 : Int32) &&& 31)) rg).2)))]) [0, 1] rfl
        have hD9 := hD.sub (ws' := [(x, .inr (0, [.ref wa, .int wc, .ref ra, .ref ma, .ref ua, .ref oa, .int ph, .int dn, .int nx, .int fo])), (ra, .inl (cI, 32, .inl ((sp_Rv_keep w (((sp_Rv_firstOperand w rg) : Int32) >>> ((((w : Int32) >>> ((20 : Int32) &&& 31)) &&& 31 : Int32) &&& 31)) rg).2)))]) [0, 1] rfl rfl
        exact zreti hx hb hr rfl hlocks hS () (by rw [hs]) rfl (by rw [hs]; exact hP9) (by rw [hs]; exact hD9) d_Rv_operateWithConstant_83
    · refine lv_lookup (tgt := 107) (off := 92) hx hb d_Rv_operateWithConstant_15 (by decide) (by rw [lv_osw h3 (show ((1 : Int32)).toInt = 1 from by decide), lv_osw h7 (show ((5 : Int32)).toInt = 5 from by decide)]; first | done | rfl) (by decide) ?_
      refine lv_aload_n hx hb d_Rv_operateWithConstant_107 rfl (lv_at hl 2 rfl) ?_
      refine lv_iload_n hx hb d_Rv_operateWithConstant_108 rfl (lv_at hl 3 rfl) ?_
      refine lv_iload_n hx hb d_Rv_operateWithConstant_109 rfl (lv_at hl 3 rfl) ?_
      refine zgoi (wr := [(x, .inr (0, [.ref wa, .int wc, .ref ra, .ref ma, .ref ua, .ref oa, .int ph, .int dn, .int nx, .int fo])), (ra, .inl (cI, 32, .inl (rg)))]) (zrunS (n := 1) (As := [.int w]) (rest := [.int w, .ref x]) hE (c_Rv_middle l D _ _ w) cb_Rv_middle lk_Rv_147 st_Rv_middle (zpreS hK hP hD [] rfl rfl rfl) ⟨Nat.le_of_ble_eq_true rfl, Nat.le_of_ble_eq_true rfl, Nat.le_of_ble_eq_true rfl, Nat.le_of_ble_eq_true rfl⟩ rfl hl.1 rfl (Nat.le_of_ble_eq_true rfl) d_Rv_operateWithConstant_110) hP hD hS hA [] [0, 1] rfl rfl rfl (by decide) (fun r u H locs hq14 hP hD hS => ?_)
      subst hq14
      have hP : va_P D zC [(x, .inr (0, [.ref wa, .int wc, .ref ra, .ref ma, .ref ua, .ref oa, .int ph, .int dn, .int nx, .int fo])), (ra, .inl (cI, 32, .inl (rg)))] H := hP
      have hD : va_D A [(x, .inr (0, [.ref wa, .int wc, .ref ra, .ref ma, .ref ua, .ref oa, .int ph, .int dn, .int nx, .int fo])), (ra, .inl (cI, 32, .inl (rg)))] := hD
      refine lv_iload_n hx hb d_Rv_operateWithConstant_113 rfl (lv_at hl 1 rfl) ?_
      refine lv_iload_n hx hb d_Rv_operateWithConstant_114 rfl (lv_at hl 0 rfl) ?_
      refine zgoi (wr := [(x, .inr (0, [.ref wa, .int wc, .ref ra, .ref ma, .ref ua, .ref oa, .int ph, .int dn, .int nx, .int fo])), (ra, .inl (cI, 32, .inl (rg)))]) (zrunS (n := 3) (As := [.int (sp_Rv_middle w), .int ((sp_Rv_firstOperand w rg)), .int ((w : Int32) >>> ((20 : Int32) &&& 31))]) (rest := [.int w, .ref x]) hE (c_Rv_plainResult l D _ _ (sp_Rv_middle w) (sp_Rv_firstOperand w rg) ((w : Int32) >>> ((20 : Int32) &&& 31))) cb_Rv_plainResult lk_Rv_183 st_Rv_plainResult (zpreS hK hP hD [] rfl rfl rfl) ⟨Nat.le_of_ble_eq_true rfl, Nat.le_of_ble_eq_true rfl, Nat.le_of_ble_eq_true rfl, Nat.le_of_ble_eq_true rfl⟩ rfl hl.1 rfl (Nat.le_of_ble_eq_true rfl) d_Rv_operateWithConstant_115) hP hD hS hA [] [0, 1] rfl rfl rfl (by decide) (fun r u H locs hq15 hP hD hS => ?_)
      subst hq15
      have hP : va_P D zC [(x, .inr (0, [.ref wa, .int wc, .ref ra, .ref ma, .ref ua, .ref oa, .int ph, .int dn, .int nx, .int fo])), (ra, .inl (cI, 32, .inl (rg)))] H := hP
      have hD : va_D A [(x, .inr (0, [.ref wa, .int wc, .ref ra, .ref ma, .ref ua, .ref oa, .int ph, .int dn, .int nx, .int fo])), (ra, .inl (cI, 32, .inl (rg)))] := hD
      refine zgoi (wr := []) (zrunV (n := 2) (As := [.int w, .int (sp_Rv_plainResult (sp_Rv_middle w) (sp_Rv_firstOperand w rg) ((w : Int32) >>> ((20 : Int32) &&& 31)))]) (rest := []) hE (c_Rv_keep l D cI cB cJ _ w (sp_Rv_plainResult (sp_Rv_middle w) (sp_Rv_firstOperand w rg) ((w : Int32) >>> ((20 : Int32) &&& 31))) x wa wc ra ma ua oa ph dn nx fo rg) cb_Rv_keep lk_Rv_120 in_Rv_keep se_Rv_keep (zpreV (q0 := 0) hK hP hD rfl rfl rfl [0, 1] rfl rfl rfl) ⟨Nat.le_of_ble_eq_true rfl, Nat.le_of_ble_eq_true rfl, Nat.le_of_ble_eq_true rfl, Nat.le_of_ble_eq_true rfl⟩ rfl hl.1 rfl (Nat.le_of_ble_eq_true rfl) d_Rv_operateWithConstant_118) hP hD hS hA [0, 1] [] rfl rfl rfl (by decide) (fun r u H locs hq16 hP hD hS => ?_)
      subst hq16
      have hP : va_P D zC [(x, .inr (0, [.ref wa, .int wc, .ref ra, .ref ma, .ref ua, .ref oa, .int ph, .int dn, .int nx, .int fo])), (ra, .inl (cI, 32, .inl ((sp_Rv_keep w (sp_Rv_plainResult (sp_Rv_middle w) (sp_Rv_firstOperand w rg) ((w : Int32) >>> ((20 : Int32) &&& 31))) rg).2)))] H := hP
      have hD : va_D A [(x, .inr (0, [.ref wa, .int wc, .ref ra, .ref ma, .ref ua, .ref oa, .int ph, .int dn, .int nx, .int fo])), (ra, .inl (cI, 32, .inl ((sp_Rv_keep w (sp_Rv_plainResult (sp_Rv_middle w) (sp_Rv_firstOperand w rg) ((w : Int32) >>> ((20 : Int32) &&& 31))) rg).2)))] := hD
      have hs : (sp_Rv_operateWithConstant w rg) = ((sp_Rv_keep w (sp_Rv_plainResult (sp_Rv_middle w) (sp_Rv_firstOperand w rg) ((w : Int32) >>> ((20 : Int32) &&& 31))) rg).1, (sp_Rv_keep w (sp_Rv_plainResult (sp_Rv_middle w) (sp_Rv_firstOperand w rg) ((w : Int32) >>> ((20 : Int32) &&& 31))) rg).2) := by rw [sp_Rv_operateWithConstant, if_neg h3, if_neg h7]
      have hP9 := hP.sub (ws' := [(x, .inr (0, [.ref wa, .int wc, .ref ra, .ref ma, .ref ua, .ref oa, .int ph, .int dn, .int nx, .int fo])), (ra, .inl (cI, 32, .inl ((sp_Rv_keep w (sp_Rv_plainResult (sp_Rv_middle w) (sp_Rv_firstOperand w rg) ((w : Int32) >>> ((20 : Int32) &&& 31))) rg).2)))]) [0, 1] rfl
      have hD9 := hD.sub (ws' := [(x, .inr (0, [.ref wa, .int wc, .ref ra, .ref ma, .ref ua, .ref oa, .int ph, .int dn, .int nx, .int fo])), (ra, .inl (cI, 32, .inl ((sp_Rv_keep w (sp_Rv_plainResult (sp_Rv_middle w) (sp_Rv_firstOperand w rg) ((w : Int32) >>> ((20 : Int32) &&& 31))) rg).2)))]) [0, 1] rfl rfl
      exact zreti hx hb hr rfl hlocks hS () (by rw [hs]) rfl (by rw [hs]; exact hP9) (by rw [hs]; exact hD9) d_Rv_operateWithConstant_121

def sp_Rv_operate (w : Int32) (rg : Nat → Int32) : Int32 × (Nat → Int32) := if (sp_Rv_top w) = 0 then ((sp_Rv_keep w (sp_Rv_plainResult (sp_Rv_middle w) (sp_Rv_firstOperand w rg) (sp_Rv_secondOperand w rg)) rg).1, (sp_Rv_keep w (sp_Rv_plainResult (sp_Rv_middle w) (sp_Rv_firstOperand w rg) (sp_Rv_secondOperand w rg)) rg).2) else if (sp_Rv_top w) = 1 then
  if 4 ≤ (sp_Rv_middle w) then ((sp_Rv_keep w (sp_Rv_quotient (sp_Rv_middle w) (sp_Rv_firstOperand w rg) (sp_Rv_secondOperand w rg)) rg).1, (sp_Rv_keep w (sp_Rv_quotient (sp_Rv_middle w) (sp_Rv_firstOperand w rg) (sp_Rv_secondOperand w rg)) rg).2) else ((sp_Rv_keep w (sp_Rv_product (sp_Rv_middle w) (sp_Rv_firstOperand w rg) (sp_Rv_secondOperand w rg)) rg).1, (sp_Rv_keep w (sp_Rv_product (sp_Rv_middle w) (sp_Rv_firstOperand w rg) (sp_Rv_secondOperand w rg)) rg).2)
else if (sp_Rv_top w) = 32 then
  if (sp_Rv_middle w) = 0 then ((sp_Rv_keep w ((sp_Rv_firstOperand w rg) - (sp_Rv_secondOperand w rg)) rg).1, (sp_Rv_keep w ((sp_Rv_firstOperand w rg) - (sp_Rv_secondOperand w rg)) rg).2) else if (sp_Rv_middle w) = 5 then ((sp_Rv_keep w (((sp_Rv_firstOperand w rg) : Int32) >>> (((sp_Rv_secondOperand w rg) &&& 31 : Int32) &&& 31)) rg).1, (sp_Rv_keep w (((sp_Rv_firstOperand w rg) : Int32) >>> (((sp_Rv_secondOperand w rg) &&& 31 : Int32) &&& 31)) rg).2) else (1, rg)
else (1, rg)
set_option maxHeartbeats 4000000 in
theorem c_Rv_operate (l : Launch) (D : va_G) (cI cB cJ : ClassId) (sz : Nat) (w : Int32) (x : Nat) (wa : Nat) (wc : Int32) (ra : Nat) (ma : Nat) (ua : Nat) (oa : Nat) (ph : Int32) (dn : Int32) (nx : Int32) (fo : Int32) (rg : Nat → Int32) : zMet l y_Rv_operate (zWs y_Rv_operate b_Rv_operate 5 (some .int)) { frames := 3, cells := 0, slots := 0, locals := 63 } (zPc D (zT cI cB cJ) sz [(x, .inr (0, [.ref wa, .int wc, .ref ra, .ref ma, .ref ua, .ref oa, .int ph, .int dn, .int nx, .int fo])), (ra, .inl (cI, 32, .inl (rg)))] [.ref x, .int w]) (zQi D (va_A [(x, .inr (0, [.ref wa, .int wc, .ref ra, .ref ma, .ref ua, .ref oa, .int ph, .int dn, .int nx, .int fo])), (ra, .inl (cI, 32, .inl (rg)))] sz) (fun r (_ : Unit) => r = (sp_Rv_operate w rg).1) (z0) (fun _ => [(x, .inr (0, [.ref wa, .int wc, .ref ra, .ref ma, .ref ua, .ref oa, .int ph, .int dn, .int nx, .int fo])), (ra, .inl (cI, 32, .inl ((sp_Rv_operate w rg).2)))])) (va_A [(x, .inr (0, [.ref wa, .int wc, .ref ra, .ref ma, .ref ua, .ref oa, .int ph, .int dn, .int nx, .int fo])), (ra, .inl (cI, 32, .inl (rg)))] sz) := by
  refine zstart (Qc := fun A => zQi D A (fun r (_ : Unit) => r = (sp_Rv_operate w rg).1) (z0) (fun _ => [(x, .inr (0, [.ref wa, .int wc, .ref ra, .ref ma, .ref ua, .ref oa, .int ph, .int dn, .int nx, .int fo])), (ra, .inl (cI, 32, .inl ((sp_Rv_operate w rg).2)))])) (by decide) (Nat.le_of_ble_eq_true rfl) ?_
  intro p e s m below meth c ls A hE hr hlocks hin hsz hK hP hD hS hA hAe hl
  have hx := hE.1
  have hb := hE.2.1
  have hown := hE.2.2.2.1
  have hw := hE.2.2.2.2
  have hl : lv_has ls 5 [(0, .ref x), (1, .int w)] := hl
  refine lv_aload_n hx hb d_Rv_operate_0 rfl (lv_at hl 0 rfl) ?_
  refine lv_iload_n hx hb d_Rv_operate_1 rfl (lv_at hl 1 rfl) ?_
  refine zgoi (wr := []) (zrunV (n := 1) (As := [.int w]) (rest := []) hE (c_Rv_firstOperand l D cI cB cJ _ w x wa wc ra ma ua oa ph dn nx fo rg) cb_Rv_firstOperand lk_Rv_158 in_Rv_firstOperand se_Rv_firstOperand (zpreV (q0 := 0) hK hP hD rfl rfl rfl [0, 1] rfl rfl rfl) ⟨Nat.le_of_ble_eq_true rfl, Nat.le_of_ble_eq_true rfl, Nat.le_of_ble_eq_true rfl, Nat.le_of_ble_eq_true rfl⟩ rfl hl.1 rfl (Nat.le_of_ble_eq_true rfl) d_Rv_operate_2) hP hD hS hA [0, 1] [] rfl rfl rfl (by decide) (fun r u H locs hq1 hP hD hS => ?_)
  subst hq1
  have hP : va_P D zC [(x, .inr (0, [.ref wa, .int wc, .ref ra, .ref ma, .ref ua, .ref oa, .int ph, .int dn, .int nx, .int fo])), (ra, .inl (cI, 32, .inl (rg)))] H := hP
  have hD : va_D A [(x, .inr (0, [.ref wa, .int wc, .ref ra, .ref ma, .ref ua, .ref oa, .int ph, .int dn, .int nx, .int fo])), (ra, .inl (cI, 32, .inl (rg)))] := hD
  refine lv_istore_n (lv' := [(2, .int ((sp_Rv_firstOperand w rg))), (0, .ref x), (1, .int w)]) hx hb d_Rv_operate_5 rfl hl (by decide) rfl (fun ls hl => ?_)
  refine lv_aload_n hx hb d_Rv_operate_6 rfl (lv_at hl 1 rfl) ?_
  refine lv_iload_n hx hb d_Rv_operate_7 rfl (lv_at hl 2 rfl) ?_
  refine zgoi (wr := []) (zrunV (n := 1) (As := [.int w]) (rest := []) hE (c_Rv_secondOperand l D cI cB cJ _ w x wa wc ra ma ua oa ph dn nx fo rg) cb_Rv_secondOperand lk_Rv_161 in_Rv_secondOperand se_Rv_secondOperand (zpreV (q0 := 0) hK hP hD rfl rfl rfl [0, 1] rfl rfl rfl) ⟨Nat.le_of_ble_eq_true rfl, Nat.le_of_ble_eq_true rfl, Nat.le_of_ble_eq_true rfl, Nat.le_of_ble_eq_true rfl⟩ rfl hl.1 rfl (Nat.le_of_ble_eq_true rfl) d_Rv_operate_8) hP hD hS hA [0, 1] [] rfl rfl rfl (by decide) (fun r u H locs hq2 hP hD hS => ?_)
  subst hq2
  have hP : va_P D zC [(x, .inr (0, [.ref wa, .int wc, .ref ra, .ref ma, .ref ua, .ref oa, .int ph, .int dn, .int nx, .int fo])), (ra, .inl (cI, 32, .inl (rg)))] H := hP
  have hD : va_D A [(x, .inr (0, [.ref wa, .int wc, .ref ra, .ref ma, .ref ua, .ref oa, .int ph, .int dn, .int nx, .int fo])), (ra, .inl (cI, 32, .inl (rg)))] := hD
  refine lv_istore_n (lv' := [(3, .int ((sp_Rv_secondOperand w rg))), (2, .int ((sp_Rv_firstOperand w rg))), (0, .ref x), (1, .int w)]) hx hb d_Rv_operate_11 rfl hl (by decide) rfl (fun ls hl => ?_)
  refine lv_iload_n hx hb d_Rv_operate_12 rfl (lv_at hl 3 rfl) ?_
  refine zgoi (wr := [(x, .inr (0, [.ref wa, .int wc, .ref ra, .ref ma, .ref ua, .ref oa, .int ph, .int dn, .int nx, .int fo])), (ra, .inl (cI, 32, .inl (rg)))]) (zrunS (n := 1) (As := [.int w]) (rest := []) hE (c_Rv_middle l D _ _ w) cb_Rv_middle lk_Rv_147 st_Rv_middle (zpreS hK hP hD [] rfl rfl rfl) ⟨Nat.le_of_ble_eq_true rfl, Nat.le_of_ble_eq_true rfl, Nat.le_of_ble_eq_true rfl, Nat.le_of_ble_eq_true rfl⟩ rfl hl.1 rfl (Nat.le_of_ble_eq_true rfl) d_Rv_operate_13) hP hD hS hA [] [0, 1] rfl rfl rfl (by decide) (fun r u H locs hq3 hP hD hS => ?_)
  subst hq3
  have hP : va_P D zC [(x, .inr (0, [.ref wa, .int wc, .ref ra, .ref ma, .ref ua, .ref oa, .int ph, .int dn, .int nx, .int fo])), (ra, .inl (cI, 32, .inl (rg)))] H := hP
  have hD : va_D A [(x, .inr (0, [.ref wa, .int wc, .ref ra, .ref ma, .ref ua, .ref oa, .int ph, .int dn, .int nx, .int fo])), (ra, .inl (cI, 32, .inl (rg)))] := hD
  refine lv_istore (lv' := [(4, .int (sp_Rv_middle w)), (3, .int ((sp_Rv_secondOperand w rg))), (2, .int ((sp_Rv_firstOperand w rg))), (0, .ref x), (1, .int w)]) hx hb d_Rv_operate_16 hl (by decide) rfl (fun ls hl => ?_)
  refine lv_iload_n hx hb d_Rv_operate_18 rfl (lv_at hl 4 rfl) ?_
  refine zgoi (wr := [(x, .inr (0, [.ref wa, .int wc, .ref ra, .ref ma, .ref ua, .ref oa, .int ph, .int dn, .int nx, .int fo])), (ra, .inl (cI, 32, .inl (rg)))]) (zrunS (n := 1) (As := [.int w]) (rest := []) hE (c_Rv_top l D _ _ w) cb_Rv_top lk_Rv_180 st_Rv_top (zpreS hK hP hD [] rfl rfl rfl) ⟨Nat.le_of_ble_eq_true rfl, Nat.le_of_ble_eq_true rfl, Nat.le_of_ble_eq_true rfl, Nat.le_of_ble_eq_true rfl⟩ rfl hl.1 rfl (Nat.le_of_ble_eq_true rfl) d_Rv_operate_19) hP hD hS hA [] [0, 1] rfl rfl rfl (by decide) (fun r u H locs hq4 hP hD hS => ?_)
  subst hq4
  have hP : va_P D zC [(x, .inr (0, [.ref wa, .int wc, .ref ra, .ref ma, .ref ua, .ref oa, .int ph, .int dn, .int nx, .int fo])), (ra, .inl (cI, 32, .inl (rg)))] H := hP
  have hD : va_D A [(x, .inr (0, [.ref wa, .int wc, .ref ra, .ref ma, .ref ua, .ref oa, .int ph, .int dn, .int nx, .int fo])), (ra, .inl (cI, 32, .inl (rg)))] := hD
  rcases Decidable.em ((sp_Rv_top w) = 0) with h5 | h5
  · refine lv_lookup (tgt := 56) (off := 34) hx hb d_Rv_operate_22 (by decide) (by rw [h5]; first | done | rfl) (by decide) ?_
    refine lv_aload_n hx hb d_Rv_operate_56 rfl (lv_at hl 3 rfl) ?_
    refine lv_iload_n hx hb d_Rv_operate_57 rfl (lv_at hl 4 rfl) ?_
    refine lv_iload hx hb d_Rv_operate_58 (lv_at hl 0 rfl) ?_
    refine lv_iload_n hx hb d_Rv_operate_60 rfl (lv_at hl 2 rfl) ?_
    refine lv_iload_n hx hb d_Rv_operate_61 rfl (lv_at hl 1 rfl) ?_
    refine zgoi (wr := [(x, .inr (0, [.ref wa, .int wc, .ref ra, .ref ma, .ref ua, .ref oa, .int ph, .int dn, .int nx, .int fo])), (ra, .inl (cI, 32, .inl (rg)))]) (zrunS (n := 3) (As := [.int (sp_Rv_middle w), .int ((sp_Rv_firstOperand w rg)), .int ((sp_Rv_secondOperand w rg))]) (rest := [.int w, .ref x]) hE (c_Rv_plainResult l D _ _ (sp_Rv_middle w) (sp_Rv_firstOperand w rg) (sp_Rv_secondOperand w rg)) cb_Rv_plainResult lk_Rv_183 st_Rv_plainResult (zpreS hK hP hD [] rfl rfl rfl) ⟨Nat.le_of_ble_eq_true rfl, Nat.le_of_ble_eq_true rfl, Nat.le_of_ble_eq_true rfl, Nat.le_of_ble_eq_true rfl⟩ rfl hl.1 rfl (Nat.le_of_ble_eq_true rfl) d_Rv_operate_62) hP hD hS hA [] [0, 1] rfl rfl rfl (by decide) (fun r u H locs hq6 hP hD hS => ?_)
    subst hq6
    have hP : va_P D zC [(x, .inr (0, [.ref wa, .int wc, .ref ra, .ref ma, .ref ua, .ref oa, .int ph, .int dn, .int nx, .int fo])), (ra, .inl (cI, 32, .inl (rg)))] H := hP
    have hD : va_D A [(x, .inr (0, [.ref wa, .int wc, .ref ra, .ref ma, .ref ua, .ref oa, .int ph, .int dn, .int nx, .int fo])), (ra, .inl (cI, 32, .inl (rg)))] := hD
    refine zgoi (wr := []) (zrunV (n := 2) (As := [.int w, .int (sp_Rv_plainResult (sp_Rv_middle w) (sp_Rv_firstOperand w rg) (sp_Rv_secondOperand w rg))]) (rest := []) hE (c_Rv_keep l D cI cB cJ _ w (sp_Rv_plainResult (sp_Rv_middle w) (sp_Rv_firstOperand w rg) (sp_Rv_secondOperand w rg)) x wa wc ra ma ua oa ph dn nx fo rg) cb_Rv_keep lk_Rv_120 in_Rv_keep se_Rv_keep (zpreV (q0 := 0) hK hP hD rfl rfl rfl [0, 1] rfl rfl rfl) ⟨Nat.le_of_ble_eq_true rfl, Nat.le_of_ble_eq_true rfl, Nat.le_of_ble_eq_true rfl, Nat.le_of_ble_eq_true rfl⟩ rfl hl.1 rfl (Nat.le_of_ble_eq_true rfl) d_Rv_operate_65) hP hD hS hA [0, 1] [] rfl rfl rfl (by decide) (fun r u H locs hq7 hP hD hS => ?_)
    subst hq7
    have hP : va_P D zC [(x, .inr (0, [.ref wa, .int wc, .ref ra, .ref ma, .ref ua, .ref oa, .int ph, .int dn, .int nx, .int fo])), (ra, .inl (cI, 32, .inl ((sp_Rv_keep w (sp_Rv_plainResult (sp_Rv_middle w) (sp_Rv_firstOperand w rg) (sp_Rv_secondOperand w rg)) rg).2)))] H := hP
    have hD : va_D A [(x, .inr (0, [.ref wa, .int wc, .ref ra, .ref ma, .ref ua, .ref oa, .int ph, .int dn, .int nx, .int fo])), (ra, .inl (cI, 32, .inl ((sp_Rv_keep w (sp_Rv_plainResult (sp_Rv_middle w) (sp_Rv_firstOperand w rg) (sp_Rv_secondOperand w rg)) rg).2)))] := hD
    have hs : (sp_Rv_operate w rg) = ((sp_Rv_keep w (sp_Rv_plainResult (sp_Rv_middle w) (sp_Rv_firstOperand w rg) (sp_Rv_secondOperand w rg)) rg).1, (sp_Rv_keep w (sp_Rv_plainResult (sp_Rv_middle w) (sp_Rv_firstOperand w rg) (sp_Rv_secondOperand w rg)) rg).2) := by rw [sp_Rv_operate, if_pos h5]
    have hP9 := hP.sub (ws' := [(x, .inr (0, [.ref wa, .int wc, .ref ra, .ref ma, .ref ua, .ref oa, .int ph, .int dn, .int nx, .int fo])), (ra, .inl (cI, 32, .inl ((sp_Rv_keep w (sp_Rv_plainResult (sp_Rv_middle w) (sp_Rv_firstOperand w rg) (sp_Rv_secondOperand w rg)) rg).2)))]) [0, 1] rfl
    have hD9 := hD.sub (ws' := [(x, .inr (0, [.ref wa, .int wc, .ref ra, .ref ma, .ref ua, .ref oa, .int ph, .int dn, .int nx, .int fo])), (ra, .inl (cI, 32, .inl ((sp_Rv_keep w (sp_Rv_plainResult (sp_Rv_middle w) (sp_Rv_firstOperand w rg) (sp_Rv_secondOperand w rg)) rg).2)))]) [0, 1] rfl rfl
    exact zreti hx hb hr rfl hlocks hS () (by rw [hs]) rfl (by rw [hs]; exact hP9) (by rw [hs]; exact hD9) d_Rv_operate_68
  · rcases Decidable.em ((sp_Rv_top w) = 1) with h8 | h8
    · refine lv_lookup (tgt := 69) (off := 47) hx hb d_Rv_operate_22 (by decide) (by rw [h8]; first | done | rfl) (by decide) ?_
      refine lv_aload_n hx hb d_Rv_operate_69 rfl (lv_at hl 3 rfl) ?_
      refine lv_iload_n hx hb d_Rv_operate_70 rfl (lv_at hl 4 rfl) ?_
      refine lv_iload hx hb d_Rv_operate_71 (lv_at hl 0 rfl) ?_
      refine lv_iconst (v := 4) hx hb d_Rv_operate_73 (by decide) ?_
      refine lv_icmp_ge (tgt := 87) hx hb d_Rv_operate_74 (by decide) (fun h9 => ?_) (fun h9 => ?_)
      · refine lv_iload hx hb d_Rv_operate_87 (lv_at hl 0 rfl) ?_
        refine lv_iload_n hx hb d_Rv_operate_89 rfl (lv_at hl 2 rfl) ?_
        refine lv_iload_n hx hb d_Rv_operate_90 rfl (lv_at hl 1 rfl) ?_
        refine zgoi (wr := [(x, .inr (0, [.ref wa, .int wc, .ref ra, .ref ma, .ref ua, .ref oa, .int ph, .int dn, .int nx, .int fo])), (ra, .inl (cI, 32, .inl (rg)))]) (zrunS (n := 3) (As := [.int (sp_Rv_middle w), .int ((sp_Rv_firstOperand w rg)), .int ((sp_Rv_secondOperand w rg))]) (rest := [.int w, .ref x]) hE (c_Rv_quotient l D _ _ (sp_Rv_middle w) (sp_Rv_firstOperand w rg) (sp_Rv_secondOperand w rg)) cb_Rv_quotient lk_Rv_190 st_Rv_quotient (zpreS hK hP hD [] rfl rfl rfl) ⟨Nat.le_of_ble_eq_true rfl, Nat.le_of_ble_eq_true rfl, Nat.le_of_ble_eq_true rfl, Nat.le_of_ble_eq_true rfl⟩ rfl hl.1 rfl (Nat.le_of_ble_eq_true rfl) d_Rv_operate_91) hP hD hS hA [] [0, 1] rfl rfl rfl (by decide) (fun r u H locs hq10 hP hD hS => ?_)
        subst hq10
        have hP : va_P D zC [(x, .inr (0, [.ref wa, .int wc, .ref ra, .ref ma, .ref ua, .ref oa, .int ph, .int dn, .int nx, .int fo])), (ra, .inl (cI, 32, .inl (rg)))] H := hP
        have hD : va_D A [(x, .inr (0, [.ref wa, .int wc, .ref ra, .ref ma, .ref ua, .ref oa, .int ph, .int dn, .int nx, .int fo])), (ra, .inl (cI, 32, .inl (rg)))] := hD
        refine zgoi (wr := []) (zrunV (n := 2) (As := [.int w, .int (sp_Rv_quotient (sp_Rv_middle w) (sp_Rv_firstOperand w rg) (sp_Rv_secondOperand w rg))]) (rest := []) hE (c_Rv_keep l D cI cB cJ _ w (sp_Rv_quotient (sp_Rv_middle w) (sp_Rv_firstOperand w rg) (sp_Rv_secondOperand w rg)) x wa wc ra ma ua oa ph dn nx fo rg) cb_Rv_keep lk_Rv_120 in_Rv_keep se_Rv_keep (zpreV (q0 := 0) hK hP hD rfl rfl rfl [0, 1] rfl rfl rfl) ⟨Nat.le_of_ble_eq_true rfl, Nat.le_of_ble_eq_true rfl, Nat.le_of_ble_eq_true rfl, Nat.le_of_ble_eq_true rfl⟩ rfl hl.1 rfl (Nat.le_of_ble_eq_true rfl) d_Rv_operate_94) hP hD hS hA [0, 1] [] rfl rfl rfl (by decide) (fun r u H locs hq11 hP hD hS => ?_)
        subst hq11
        have hP : va_P D zC [(x, .inr (0, [.ref wa, .int wc, .ref ra, .ref ma, .ref ua, .ref oa, .int ph, .int dn, .int nx, .int fo])), (ra, .inl (cI, 32, .inl ((sp_Rv_keep w (sp_Rv_quotient (sp_Rv_middle w) (sp_Rv_firstOperand w rg) (sp_Rv_secondOperand w rg)) rg).2)))] H := hP
        have hD : va_D A [(x, .inr (0, [.ref wa, .int wc, .ref ra, .ref ma, .ref ua, .ref oa, .int ph, .int dn, .int nx, .int fo])), (ra, .inl (cI, 32, .inl ((sp_Rv_keep w (sp_Rv_quotient (sp_Rv_middle w) (sp_Rv_firstOperand w rg) (sp_Rv_secondOperand w rg)) rg).2)))] := hD
        have hs : (sp_Rv_operate w rg) = ((sp_Rv_keep w (sp_Rv_quotient (sp_Rv_middle w) (sp_Rv_firstOperand w rg) (sp_Rv_secondOperand w rg)) rg).1, (sp_Rv_keep w (sp_Rv_quotient (sp_Rv_middle w) (sp_Rv_firstOperand w rg) (sp_Rv_secondOperand w rg)) rg).2) := by rw [sp_Rv_operate, if_neg h5, if_pos h8, if_pos h9]
        have hP9 := hP.sub (ws' := [(x, .inr (0, [.ref wa, .int wc, .ref ra, .ref ma, .ref ua, .ref oa, .int ph, .int dn, .int nx, .int fo])), (ra, .inl (cI, 32, .inl ((sp_Rv_keep w (sp_Rv_quotient (sp_Rv_middle w) (sp_Rv_firstOperand w rg) (sp_Rv_secondOperand w rg)) rg).2)))]) [0, 1] rfl
        have hD9 := hD.sub (ws' := [(x, .inr (0, [.ref wa, .int wc, .ref ra, .ref ma, .ref ua, .ref oa, .int ph, .int dn, .int nx, .int fo])), (ra, .inl (cI, 32, .inl ((sp_Rv_keep w (sp_Rv_quotient (sp_Rv_middle w) (sp_Rv_firstOperand w rg) (sp_Rv_secondOperand w rg)) rg).2)))]) [0, 1] rfl rfl
        exact zreti hx hb hr rfl hlocks hS () (by rw [hs]) rfl (by rw [hs]; exact hP9) (by rw [hs]; exact hD9) d_Rv_operate_97
      · refine lv_iload hx hb d_Rv_operate_77 (lv_at hl 0 rfl) ?_
        refine lv_iload_n hx hb d_Rv_operate_79 rfl (lv_at hl 2 rfl) ?_
        refine lv_iload_n hx hb d_Rv_operate_80 rfl (lv_at hl 1 rfl) ?_
        refine zgoi (wr := [(x, .inr (0, [.ref wa, .int wc, .ref ra, .ref ma, .ref ua, .ref oa, .int ph, .int dn, .int nx, .int fo])), (ra, .inl (cI, 32, .inl (rg)))]) (zrunS (n := 3) (As := [.int (sp_Rv_middle w), .int ((sp_Rv_firstOperand w rg)), .int ((sp_Rv_secondOperand w rg))]) (rest := [.int w, .ref x]) hE (c_Rv_product l D _ _ (sp_Rv_middle w) (sp_Rv_firstOperand w rg) (sp_Rv_secondOperand w rg)) cb_Rv_product lk_Rv_187 st_Rv_product (zpreS hK hP hD [] rfl rfl rfl) ⟨Nat.le_of_ble_eq_true rfl, Nat.le_of_ble_eq_true rfl, Nat.le_of_ble_eq_true rfl, Nat.le_of_ble_eq_true rfl⟩ rfl hl.1 rfl (Nat.le_of_ble_eq_true rfl) d_Rv_operate_81) hP hD hS hA [] [0, 1] rfl rfl rfl (by decide) (fun r u H locs hq12 hP hD hS => ?_)
        subst hq12
        have hP : va_P D zC [(x, .inr (0, [.ref wa, .int wc, .ref ra, .ref ma, .ref ua, .ref oa, .int ph, .int dn, .int nx, .int fo])), (ra, .inl (cI, 32, .inl (rg)))] H := hP
        have hD : va_D A [(x, .inr (0, [.ref wa, .int wc, .ref ra, .ref ma, .ref ua, .ref oa, .int ph, .int dn, .int nx, .int fo])), (ra, .inl (cI, 32, .inl (rg)))] := hD
        refine lv_goto (tgt := 94) hx hb d_Rv_operate_84 (by decide) ?_
        refine zgoi (wr := []) (zrunV (n := 2) (As := [.int w, .int (sp_Rv_product (sp_Rv_middle w) (sp_Rv_firstOperand w rg) (sp_Rv_secondOperand w rg))]) (rest := []) hE (c_Rv_keep l D cI cB cJ _ w (sp_Rv_product (sp_Rv_middle w) (sp_Rv_firstOperand w rg) (sp_Rv_secondOperand w rg)) x wa wc ra ma ua oa ph dn nx fo rg) cb_Rv_keep lk_Rv_120 in_Rv_keep se_Rv_keep (zpreV (q0 := 0) hK hP hD rfl rfl rfl [0, 1] rfl rfl rfl) ⟨Nat.le_of_ble_eq_true rfl, Nat.le_of_ble_eq_true rfl, Nat.le_of_ble_eq_true rfl, Nat.le_of_ble_eq_true rfl⟩ rfl hl.1 rfl (Nat.le_of_ble_eq_true rfl) d_Rv_operate_94) hP hD hS hA [0, 1] [] rfl rfl rfl (by decide) (fun r u H locs hq13 hP hD hS => ?_)
        subst hq13
        have hP : va_P D zC [(x, .inr (0, [.ref wa, .int wc, .ref ra, .ref ma, .ref ua, .ref oa, .int ph, .int dn, .int nx, .int fo])), (ra, .inl (cI, 32, .inl ((sp_Rv_keep w (sp_Rv_product (sp_Rv_middle w) (sp_Rv_firstOperand w rg) (sp_Rv_secondOperand w rg)) rg).2)))] H := hP
        have hD : va_D A [(x, .inr (0, [.ref wa, .int wc, .ref ra, .ref ma, .ref ua, .ref oa, .int ph, .int dn, .int nx, .int fo])), (ra, .inl (cI, 32, .inl ((sp_Rv_keep w (sp_Rv_product (sp_Rv_middle w) (sp_Rv_firstOperand w rg) (sp_Rv_secondOperand w rg)) rg).2)))] := hD
        have hs : (sp_Rv_operate w rg) = ((sp_Rv_keep w (sp_Rv_product (sp_Rv_middle w) (sp_Rv_firstOperand w rg) (sp_Rv_secondOperand w rg)) rg).1, (sp_Rv_keep w (sp_Rv_product (sp_Rv_middle w) (sp_Rv_firstOperand w rg) (sp_Rv_secondOperand w rg)) rg).2) := by rw [sp_Rv_operate, if_neg h5, if_pos h8, if_neg h9]
        have hP9 := hP.sub (ws' := [(x, .inr (0, [.ref wa, .int wc, .ref ra, .ref ma, .ref ua, .ref oa, .int ph, .int dn, .int nx, .int fo])), (ra, .inl (cI, 32, .inl ((sp_Rv_keep w (sp_Rv_product (sp_Rv_middle w) (sp_Rv_firstOperand w rg) (sp_Rv_secondOperand w rg)) rg).2)))]) [0, 1] rfl
        have hD9 := hD.sub (ws' := [(x, .inr (0, [.ref wa, .int wc, .ref ra, .ref ma, .ref ua, .ref oa, .int ph, .int dn, .int nx, .int fo])), (ra, .inl (cI, 32, .inl ((sp_Rv_keep w (sp_Rv_product (sp_Rv_middle w) (sp_Rv_firstOperand w rg) (sp_Rv_secondOperand w rg)) rg).2)))]) [0, 1] rfl rfl
        exact zreti hx hb hr rfl hlocks hS () (by rw [hs]) rfl (by rw [hs]; exact hP9) (by rw [hs]; exact hD9) d_Rv_operate_97
    · rcases Decidable.em ((sp_Rv_top w) = 32) with h14 | h14
      · refine lv_lookup (tgt := 98) (off := 76) hx hb d_Rv_operate_22 (by decide) (by rw [h14]; first | done | rfl) (by decide) ?_
        refine lv_iload hx hb d_Rv_operate_98 (lv_at hl 0 rfl) ?_
        refine lv_if_ne (tgt := 112) hx hb d_Rv_operate_100 (by decide) (fun h15 => ?_) (fun h15 => ?_)
        · refine lv_iload hx hb d_Rv_operate_112 (lv_at hl 0 rfl) ?_
          refine lv_iconst (v := 5) hx hb d_Rv_operate_114 (by decide) ?_
          refine lv_icmp_ne (tgt := 132) hx hb d_Rv_operate_115 (by decide) (fun h16 => ?_) (fun h16 => ?_)
          · refine lv_iconst (v := 1) hx hb d_Rv_operate_132 (by decide) ?_
            have hs : (sp_Rv_operate w rg) = (1, rg) := by rw [sp_Rv_operate, if_neg h5, if_neg h8, if_pos h14, if_neg h15, if_neg h16]
            have hP9 := hP.sub (ws' := [(x, .inr (0, [.ref wa, .int wc, .ref ra, .ref ma, .ref ua, .ref oa, .int ph, .int dn, .int nx, .int fo])), (ra, .inl (cI, 32, .inl (rg)))]) [0, 1] rfl
            have hD9 := hD.sub (ws' := [(x, .inr (0, [.ref wa, .int wc, .ref ra, .ref ma, .ref ua, .ref oa, .int ph, .int dn, .int nx, .int fo])), (ra, .inl (cI, 32, .inl (rg)))]) [0, 1] rfl rfl
            exact zreti hx hb hr rfl hlocks hS () (by rw [hs]) rfl (by rw [hs]; exact hP9) (by rw [hs]; exact hD9) d_Rv_operate_133
          · refine lv_aload_n hx hb d_Rv_operate_118 rfl (lv_at hl 3 rfl) ?_
            refine lv_iload_n hx hb d_Rv_operate_119 rfl (lv_at hl 4 rfl) ?_
            refine lv_iload_n hx hb d_Rv_operate_120 rfl (lv_at hl 2 rfl) ?_
            refine lv_iload_n hx hb d_Rv_operate_121 rfl (lv_at hl 1 rfl) ?_
            refine lv_bipush (v := 31) hx hb d_Rv_operate_122 (by decide) ?_
            refine lv_iand hx hb d_Rv_operate_124 ?_
            refine lv_ishr hx hb d_Rv_operate_125 ?_
            refine zgoi (wr := []) (zrunV (n := 2) (As := [.int w, .int (((sp_Rv_firstOperand w rg) : Int32) >>> (((sp_Rv_secondOperand w rg) &&& 31 : Int32) &&& 31))]) (rest := []) hE (c_Rv_keep l D cI cB cJ _ w (((sp_Rv_firstOperand w rg) : Int32) >>> (((sp_Rv_secondOperand w rg) &&& 31 : Int32) &&& 31)) x wa wc ra ma ua oa ph dn nx fo rg) cb_Rv_keep lk_Rv_120 in_Rv_keep se_Rv_keep (zpreV (q0 := 0) hK hP hD rfl rfl rfl [0, 1] rfl rfl rfl) ⟨Nat.le_of_ble_eq_true rfl, Nat.le_of_ble_eq_true rfl, Nat.le_of_ble_eq_true rfl, Nat.le_of_ble_eq_true rfl⟩ rfl hl.1 rfl (Nat.le_of_ble_eq_true rfl) d_Rv_operate_126) hP hD hS hA [0, 1] [] rfl rfl rfl (by decide) (fun r u H locs hq17 hP hD hS => ?_)
            subst hq17
            have hP : va_P D zC [(x, .inr (0, [.ref wa, .int wc, .ref ra, .ref ma, .ref ua, .ref oa, .int ph, .int dn, .int nx, .int fo])), (ra, .inl (cI, 32, .inl ((sp_Rv_keep w (((sp_Rv_firstOperand w rg) : Int32) >>> (((sp_Rv_secondOperand w rg) &&& 31 : Int32) &&& 31)) rg).2)))] H := hP
            have hD : va_D A [(x, .inr (0, [.ref wa, .int wc, .ref ra, .ref ma, .ref ua, .ref oa, .int ph, .int dn, .int nx, .int fo])), (ra, .inl (cI, 32, .inl ((sp_Rv_keep w (((sp_Rv_firstOperand w rg) : Int32) >>> (((sp_Rv_secondOperand w rg) &&& 31 : Int32) &&& 31)) rg).2)))] := hD
            refine lv_goto (tgt := 133) hx hb d_Rv_operate_129 (by decide) ?_
            have hs : (sp_Rv_operate w rg) = ((sp_Rv_keep w (((sp_Rv_firstOperand w rg) : Int32) >>> (((sp_Rv_secondOperand w rg) &&& 31 : Int32) &&& 31)) rg).1, (sp_Rv_keep w (((sp_Rv_firstOperand w rg) : Int32) >>> (((sp_Rv_secondOperand w rg) &&& 31 : Int32) &&& 31)) rg).2) := by rw [sp_Rv_operate, if_neg h5, if_neg h8, if_pos h14, if_neg h15, if_pos h16]
            have hP9 := hP.sub (ws' := [(x, .inr (0, [.ref wa, .int wc, .ref ra, .ref ma, .ref ua, .ref oa, .int ph, .int dn, .int nx, .int fo])), (ra, .inl (cI, 32, .inl ((sp_Rv_keep w (((sp_Rv_firstOperand w rg) : Int32) >>> (((sp_Rv_secondOperand w rg) &&& 31 : Int32) &&& 31)) rg).2)))]) [0, 1] rfl
            have hD9 := hD.sub (ws' := [(x, .inr (0, [.ref wa, .int wc, .ref ra, .ref ma, .ref ua, .ref oa, .int ph, .int dn, .int nx, .int fo])), (ra, .inl (cI, 32, .inl ((sp_Rv_keep w (((sp_Rv_firstOperand w rg) : Int32) >>> (((sp_Rv_secondOperand w rg) &&& 31 : Int32) &&& 31)) rg).2)))]) [0, 1] rfl rfl
            exact zreti hx hb hr rfl hlocks hS () (by rw [hs]) rfl (by rw [hs]; exact hP9) (by rw [hs]; exact hD9) d_Rv_operate_133
        · refine lv_aload_n hx hb d_Rv_operate_103 rfl (lv_at hl 3 rfl) ?_
          refine lv_iload_n hx hb d_Rv_operate_104 rfl (lv_at hl 4 rfl) ?_
          refine lv_iload_n hx hb d_Rv_operate_105 rfl (lv_at hl 2 rfl) ?_
          refine lv_iload_n hx hb d_Rv_operate_106 rfl (lv_at hl 1 rfl) ?_
          refine lv_isub hx hb d_Rv_operate_107 ?_
          refine zgoi (wr := []) (zrunV (n := 2) (As := [.int w, .int ((sp_Rv_firstOperand w rg) - (sp_Rv_secondOperand w rg))]) (rest := []) hE (c_Rv_keep l D cI cB cJ _ w ((sp_Rv_firstOperand w rg) - (sp_Rv_secondOperand w rg)) x wa wc ra ma ua oa ph dn nx fo rg) cb_Rv_keep lk_Rv_120 in_Rv_keep se_Rv_keep (zpreV (q0 := 0) hK hP hD rfl rfl rfl [0, 1] rfl rfl rfl) ⟨Nat.le_of_ble_eq_true rfl, Nat.le_of_ble_eq_true rfl, Nat.le_of_ble_eq_true rfl, Nat.le_of_ble_eq_true rfl⟩ rfl hl.1 rfl (Nat.le_of_ble_eq_true rfl) d_Rv_operate_108) hP hD hS hA [0, 1] [] rfl rfl rfl (by decide) (fun r u H locs hq18 hP hD hS => ?_)
          subst hq18
          have hP : va_P D zC [(x, .inr (0, [.ref wa, .int wc, .ref ra, .ref ma, .ref ua, .ref oa, .int ph, .int dn, .int nx, .int fo])), (ra, .inl (cI, 32, .inl ((sp_Rv_keep w ((sp_Rv_firstOperand w rg) - (sp_Rv_secondOperand w rg)) rg).2)))] H := hP
          have hD : va_D A [(x, .inr (0, [.ref wa, .int wc, .ref ra, .ref ma, .ref ua, .ref oa, .int ph, .int dn, .int nx, .int fo])), (ra, .inl (cI, 32, .inl ((sp_Rv_keep w ((sp_Rv_firstOperand w rg) - (sp_Rv_secondOperand w rg)) rg).2)))] := hD
          have hs : (sp_Rv_operate w rg) = ((sp_Rv_keep w ((sp_Rv_firstOperand w rg) - (sp_Rv_secondOperand w rg)) rg).1, (sp_Rv_keep w ((sp_Rv_firstOperand w rg) - (sp_Rv_secondOperand w rg)) rg).2) := by rw [sp_Rv_operate, if_neg h5, if_neg h8, if_pos h14, if_pos h15]
          have hP9 := hP.sub (ws' := [(x, .inr (0, [.ref wa, .int wc, .ref ra, .ref ma, .ref ua, .ref oa, .int ph, .int dn, .int nx, .int fo])), (ra, .inl (cI, 32, .inl ((sp_Rv_keep w ((sp_Rv_firstOperand w rg) - (sp_Rv_secondOperand w rg)) rg).2)))]) [0, 1] rfl
          have hD9 := hD.sub (ws' := [(x, .inr (0, [.ref wa, .int wc, .ref ra, .ref ma, .ref ua, .ref oa, .int ph, .int dn, .int nx, .int fo])), (ra, .inl (cI, 32, .inl ((sp_Rv_keep w ((sp_Rv_firstOperand w rg) - (sp_Rv_secondOperand w rg)) rg).2)))]) [0, 1] rfl rfl
          exact zreti hx hb hr rfl hlocks hS () (by rw [hs]) rfl (by rw [hs]; exact hP9) (by rw [hs]; exact hD9) d_Rv_operate_111
      · refine lv_lookup (tgt := 134) (off := 112) hx hb d_Rv_operate_22 (by decide) (by rw [lv_osw h5 (show ((0 : Int32)).toInt = 0 from by decide), lv_osw h8 (show ((1 : Int32)).toInt = 1 from by decide), lv_osw h14 (show ((32 : Int32)).toInt = 32 from by decide)]; first | done | rfl) (by decide) ?_
        refine lv_iconst (v := 1) hx hb d_Rv_operate_134 (by decide) ?_
        have hs : (sp_Rv_operate w rg) = (1, rg) := by rw [sp_Rv_operate, if_neg h5, if_neg h8, if_neg h14]
        have hP9 := hP.sub (ws' := [(x, .inr (0, [.ref wa, .int wc, .ref ra, .ref ma, .ref ua, .ref oa, .int ph, .int dn, .int nx, .int fo])), (ra, .inl (cI, 32, .inl (rg)))]) [0, 1] rfl
        have hD9 := hD.sub (ws' := [(x, .inr (0, [.ref wa, .int wc, .ref ra, .ref ma, .ref ua, .ref oa, .int ph, .int dn, .int nx, .int fo])), (ra, .inl (cI, 32, .inl (rg)))]) [0, 1] rfl rfl
        exact zreti hx hb hr rfl hlocks hS () (by rw [hs]) rfl (by rw [hs]; exact hP9) (by rw [hs]; exact hD9) d_Rv_operate_135

def sp_Rv_answerAddress (ad : Int32) (rg : Nat → Int32) : Int32 × (Nat → Int32) := if ad = 0 then (4, rg) else (0, upd rg 10 ad)
set_option maxHeartbeats 4000000 in
theorem c_Rv_answerAddress (l : Launch) (D : va_G) (cI cB cJ : ClassId) (sz : Nat) (ad : Int32) (x : Nat) (wa : Nat) (wc : Int32) (ra : Nat) (ma : Nat) (ua : Nat) (oa : Nat) (ph : Int32) (dn : Int32) (nx : Int32) (fo : Int32) (rg : Nat → Int32) : zMet l y_Rv_answerAddress (zWs y_Rv_answerAddress b_Rv_answerAddress 2 (some .int)) { frames := 0, cells := 0, slots := 0, locals := 0 } (zPc D (zT cI cB cJ) sz [(x, .inr (0, [.ref wa, .int wc, .ref ra, .ref ma, .ref ua, .ref oa, .int ph, .int dn, .int nx, .int fo])), (ra, .inl (cI, 32, .inl (rg)))] [.ref x, .int ad]) (zQi D (va_A [(x, .inr (0, [.ref wa, .int wc, .ref ra, .ref ma, .ref ua, .ref oa, .int ph, .int dn, .int nx, .int fo])), (ra, .inl (cI, 32, .inl (rg)))] sz) (fun r (_ : Unit) => r = (sp_Rv_answerAddress ad rg).1) (z0) (fun _ => [(x, .inr (0, [.ref wa, .int wc, .ref ra, .ref ma, .ref ua, .ref oa, .int ph, .int dn, .int nx, .int fo])), (ra, .inl (cI, 32, .inl ((sp_Rv_answerAddress ad rg).2)))])) (va_A [(x, .inr (0, [.ref wa, .int wc, .ref ra, .ref ma, .ref ua, .ref oa, .int ph, .int dn, .int nx, .int fo])), (ra, .inl (cI, 32, .inl (rg)))] sz) := by
  refine zstart (Qc := fun A => zQi D A (fun r (_ : Unit) => r = (sp_Rv_answerAddress ad rg).1) (z0) (fun _ => [(x, .inr (0, [.ref wa, .int wc, .ref ra, .ref ma, .ref ua, .ref oa, .int ph, .int dn, .int nx, .int fo])), (ra, .inl (cI, 32, .inl ((sp_Rv_answerAddress ad rg).2)))])) (by decide) (Nat.le_of_ble_eq_true rfl) ?_
  intro p e s m below meth c ls A hE hr hlocks hin hsz hK hP hD hS hA hAe hl
  have hx := hE.1
  have hb := hE.2.1
  have hown := hE.2.2.2.1
  have hw := hE.2.2.2.2
  have hl : lv_has ls 2 [(0, .ref x), (1, .int ad)] := hl
  refine lv_iload_n hx hb d_Rv_answerAddress_0 rfl (lv_at hl 1 rfl) ?_
  refine lv_if_ne (tgt := 6) hx hb d_Rv_answerAddress_1 (by decide) (fun h1 => ?_) (fun h1 => ?_)
  · refine lv_aload_n hx hb d_Rv_answerAddress_6 rfl (lv_at hl 0 rfl) ?_
    refine zget hE hK hP 0 rfl fd_Rv_13 rfl d_Rv_answerAddress_7 ?_
    refine lv_bipush (v := 10) hx hb d_Rv_answerAddress_10 (by decide) ?_
    refine lv_iload_n hx hb d_Rv_answerAddress_12 rfl (lv_at hl 1 rfl) ?_
    refine va_iast hx hb hK hP hD hS 1 0 rfl rfl (by unfold vp_in; decide) d_Rv_answerAddress_13 (fun H locs hP hD hS => ?_)
    have hP : va_P D zC [(x, .inr (0, [.ref wa, .int wc, .ref ra, .ref ma, .ref ua, .ref oa, .int ph, .int dn, .int nx, .int fo])), (ra, .inl (cI, 32, .inl (upd rg 10 ad)))] H := hP
    have hD : va_D A [(x, .inr (0, [.ref wa, .int wc, .ref ra, .ref ma, .ref ua, .ref oa, .int ph, .int dn, .int nx, .int fo])), (ra, .inl (cI, 32, .inl (upd rg 10 ad)))] := hD
    refine lv_iconst (v := 0) hx hb d_Rv_answerAddress_14 (by decide) ?_
    have hs : (sp_Rv_answerAddress ad rg) = (0, upd rg 10 ad) := by rw [sp_Rv_answerAddress, if_neg h1]
    have hP9 := hP.sub (ws' := [(x, .inr (0, [.ref wa, .int wc, .ref ra, .ref ma, .ref ua, .ref oa, .int ph, .int dn, .int nx, .int fo])), (ra, .inl (cI, 32, .inl (upd rg 10 ad)))]) [0, 1] rfl
    have hD9 := hD.sub (ws' := [(x, .inr (0, [.ref wa, .int wc, .ref ra, .ref ma, .ref ua, .ref oa, .int ph, .int dn, .int nx, .int fo])), (ra, .inl (cI, 32, .inl (upd rg 10 ad)))]) [0, 1] rfl rfl
    exact zreti hx hb hr rfl hlocks hS () (by rw [hs]) rfl (by rw [hs]; exact hP9) (by rw [hs]; exact hD9) d_Rv_answerAddress_15
  · refine lv_iconst (v := 4) hx hb d_Rv_answerAddress_4 (by decide) ?_
    have hs : (sp_Rv_answerAddress ad rg) = (4, rg) := by rw [sp_Rv_answerAddress, if_pos h1]
    have hP9 := hP.sub (ws' := [(x, .inr (0, [.ref wa, .int wc, .ref ra, .ref ma, .ref ua, .ref oa, .int ph, .int dn, .int nx, .int fo])), (ra, .inl (cI, 32, .inl (rg)))]) [0, 1] rfl
    have hD9 := hD.sub (ws' := [(x, .inr (0, [.ref wa, .int wc, .ref ra, .ref ma, .ref ua, .ref oa, .int ph, .int dn, .int nx, .int fo])), (ra, .inl (cI, 32, .inl (rg)))]) [0, 1] rfl rfl
    exact zreti hx hb hr rfl hlocks hS () (by rw [hs]) rfl (by rw [hs]; exact hP9) (by rw [hs]; exact hD9) d_Rv_answerAddress_5
end
section
/-! decode rows -/
theorem d_By_wrapped_0 : decode b_By_wrapped 0 = .ok (.iload_n 1, 1) := by decide +kernel
theorem d_By_wrapped_1 : decode b_By_wrapped 1 = .ok (.aload_n 0, 1) := by decide +kernel
theorem d_By_wrapped_2 : decode b_By_wrapped 2 = .ok (.getfield 7, 3) := by decide +kernel
theorem d_By_wrapped_5 : decode b_By_wrapped 5 = .ok (.arraylength, 1) := by decide +kernel
theorem d_By_wrapped_6 : decode b_By_wrapped 6 = .ok (.if_icmp .lt 13, 3) := by decide +kernel
theorem d_By_wrapped_9 : decode b_By_wrapped 9 = .ok (.iload_n 1, 1) := by decide +kernel
theorem d_By_wrapped_10 : decode b_By_wrapped 10 = .ok (.aload_n 0, 1) := by decide +kernel
theorem d_By_wrapped_11 : decode b_By_wrapped 11 = .ok (.getfield 7, 3) := by decide +kernel
theorem d_By_wrapped_14 : decode b_By_wrapped 14 = .ok (.arraylength, 1) := by decide +kernel
theorem d_By_wrapped_15 : decode b_By_wrapped 15 = .ok (.isub, 1) := by decide +kernel
theorem d_By_wrapped_16 : decode b_By_wrapped 16 = .ok (.goto 4, 3) := by decide +kernel
theorem d_By_wrapped_19 : decode b_By_wrapped 19 = .ok (.iload_n 1, 1) := by decide +kernel
theorem d_By_wrapped_20 : decode b_By_wrapped 20 = .ok (.ireturn, 1) := by decide +kernel
theorem d_By_add_0 : decode b_By_add 0 = .ok (.aload_n 0, 1) := by decide +kernel
theorem d_By_add_1 : decode b_By_add 1 = .ok (.getfield 17, 3) := by decide +kernel
theorem d_By_add_4 : decode b_By_add 4 = .ok (.aload_n 0, 1) := by decide +kernel
theorem d_By_add_5 : decode b_By_add 5 = .ok (.getfield 7, 3) := by decide +kernel
theorem d_By_add_8 : decode b_By_add 8 = .ok (.arraylength, 1) := by decide +kernel
theorem d_By_add_9 : decode b_By_add 9 = .ok (.if_icmp .ge 33, 3) := by decide +kernel
theorem d_By_add_12 : decode b_By_add 12 = .ok (.aload_n 0, 1) := by decide +kernel
theorem d_By_add_13 : decode b_By_add 13 = .ok (.getfield 7, 3) := by decide +kernel
theorem d_By_add_16 : decode b_By_add 16 = .ok (.aload_n 0, 1) := by decide +kernel
theorem d_By_add_17 : decode b_By_add 17 = .ok (.aload_n 0, 1) := by decide +kernel
theorem d_By_add_18 : decode b_By_add 18 = .ok (.getfield 13, 3) := by decide +kernel
theorem d_By_add_21 : decode b_By_add 21 = .ok (.aload_n 0, 1) := by decide +kernel
theorem d_By_add_22 : decode b_By_add 22 = .ok (.getfield 17, 3) := by decide +kernel
theorem d_By_add_25 : decode b_By_add 25 = .ok (.iadd, 1) := by decide +kernel
theorem d_By_add_26 : decode b_By_add 26 = .ok (.invokevirtual 20, 3) := by decide +kernel
theorem d_By_add_29 : decode b_By_add 29 = .ok (.iload_n 1, 1) := by decide +kernel
theorem d_By_add_30 : decode b_By_add 30 = .ok (.i2b, 1) := by decide +kernel
theorem d_By_add_31 : decode b_By_add 31 = .ok (.bastore, 1) := by decide +kernel
theorem d_By_add_32 : decode b_By_add 32 = .ok (.aload_n 0, 1) := by decide +kernel
theorem d_By_add_33 : decode b_By_add 33 = .ok (.dup, 1) := by decide +kernel
theorem d_By_add_34 : decode b_By_add 34 = .ok (.getfield 17, 3) := by decide +kernel
theorem d_By_add_37 : decode b_By_add 37 = .ok (.iconst 1, 1) := by decide +kernel
theorem d_By_add_38 : decode b_By_add 38 = .ok (.iadd, 1) := by decide +kernel
theorem d_By_add_39 : decode b_By_add 39 = .ok (.putfield 17, 3) := by decide +kernel
theorem d_By_add_42 : decode b_By_add 42 = .ok (.return_, 1) := by decide +kernel
theorem d_By_removeFirst_0 : decode b_By_removeFirst 0 = .ok (.aload_n 0, 1) := by decide +kernel
theorem d_By_removeFirst_1 : decode b_By_removeFirst 1 = .ok (.getfield 17, 3) := by decide +kernel
theorem d_By_removeFirst_4 : decode b_By_removeFirst 4 = .ok (.ifCond .ne 5, 3) := by decide +kernel
theorem d_By_removeFirst_7 : decode b_By_removeFirst 7 = .ok (.iconst (-1), 1) := by decide +kernel
theorem d_By_removeFirst_8 : decode b_By_removeFirst 8 = .ok (.ireturn, 1) := by decide +kernel
theorem d_By_removeFirst_9 : decode b_By_removeFirst 9 = .ok (.aload_n 0, 1) := by decide +kernel
theorem d_By_removeFirst_10 : decode b_By_removeFirst 10 = .ok (.getfield 7, 3) := by decide +kernel
theorem d_By_removeFirst_13 : decode b_By_removeFirst 13 = .ok (.aload_n 0, 1) := by decide +kernel
theorem d_By_removeFirst_14 : decode b_By_removeFirst 14 = .ok (.getfield 13, 3) := by decide +kernel
theorem d_By_removeFirst_17 : decode b_By_removeFirst 17 = .ok (.baload, 1) := by decide +kernel
theorem d_By_removeFirst_18 : decode b_By_removeFirst 18 = .ok (.sipush 255, 3) := by decide +kernel
theorem d_By_removeFirst_21 : decode b_By_removeFirst 21 = .ok (.iand, 1) := by decide +kernel
theorem d_By_removeFirst_22 : decode b_By_removeFirst 22 = .ok (.istore_n 1, 1) := by decide +kernel
theorem d_By_removeFirst_23 : decode b_By_removeFirst 23 = .ok (.aload_n 0, 1) := by decide +kernel
theorem d_By_removeFirst_24 : decode b_By_removeFirst 24 = .ok (.aload_n 0, 1) := by decide +kernel
theorem d_By_removeFirst_25 : decode b_By_removeFirst 25 = .ok (.aload_n 0, 1) := by decide +kernel
theorem d_By_removeFirst_26 : decode b_By_removeFirst 26 = .ok (.getfield 13, 3) := by decide +kernel
theorem d_By_removeFirst_29 : decode b_By_removeFirst 29 = .ok (.iconst 1, 1) := by decide +kernel
theorem d_By_removeFirst_30 : decode b_By_removeFirst 30 = .ok (.iadd, 1) := by decide +kernel
theorem d_By_removeFirst_31 : decode b_By_removeFirst 31 = .ok (.invokevirtual 20, 3) := by decide +kernel
theorem d_By_removeFirst_34 : decode b_By_removeFirst 34 = .ok (.putfield 13, 3) := by decide +kernel
theorem d_By_removeFirst_37 : decode b_By_removeFirst 37 = .ok (.aload_n 0, 1) := by decide +kernel
theorem d_By_removeFirst_38 : decode b_By_removeFirst 38 = .ok (.dup, 1) := by decide +kernel
theorem d_By_removeFirst_39 : decode b_By_removeFirst 39 = .ok (.getfield 17, 3) := by decide +kernel
theorem d_By_removeFirst_42 : decode b_By_removeFirst 42 = .ok (.iconst 1, 1) := by decide +kernel
theorem d_By_removeFirst_43 : decode b_By_removeFirst 43 = .ok (.isub, 1) := by decide +kernel
theorem d_By_removeFirst_44 : decode b_By_removeFirst 44 = .ok (.putfield 17, 3) := by decide +kernel
theorem d_By_removeFirst_47 : decode b_By_removeFirst 47 = .ok (.iload_n 1, 1) := by decide +kernel
theorem d_By_removeFirst_48 : decode b_By_removeFirst 48 = .ok (.ireturn, 1) := by decide +kernel
theorem d_By_forgetAll_0 : decode b_By_forgetAll 0 = .ok (.aload_n 0, 1) := by decide +kernel
theorem d_By_forgetAll_1 : decode b_By_forgetAll 1 = .ok (.iconst 0, 1) := by decide +kernel
theorem d_By_forgetAll_2 : decode b_By_forgetAll 2 = .ok (.putfield 13, 3) := by decide +kernel
theorem d_By_forgetAll_5 : decode b_By_forgetAll 5 = .ok (.aload_n 0, 1) := by decide +kernel
theorem d_By_forgetAll_6 : decode b_By_forgetAll 6 = .ok (.iconst 0, 1) := by decide +kernel
theorem d_By_forgetAll_7 : decode b_By_forgetAll 7 = .ok (.putfield 17, 3) := by decide +kernel
theorem d_By_forgetAll_10 : decode b_By_forgetAll 10 = .ok (.return_, 1) := by decide +kernel
theorem d_By_init_0 : decode b_By_init 0 = .ok (.aload_n 0, 1) := by decide +kernel
theorem d_By_init_1 : decode b_By_init 1 = .ok (.invokespecial 1, 3) := by decide +kernel
theorem d_By_init_4 : decode b_By_init 4 = .ok (.aload_n 0, 1) := by decide +kernel
theorem d_By_init_5 : decode b_By_init 5 = .ok (.iload_n 1, 1) := by decide +kernel
theorem d_By_init_6 : decode b_By_init 6 = .ok (.newarray .byte, 2) := by decide +kernel
theorem d_By_init_8 : decode b_By_init 8 = .ok (.putfield 7, 3) := by decide +kernel
theorem d_By_init_11 : decode b_By_init 11 = .ok (.return_, 1) := by decide +kernel

def sp_By_wrapped (at0 : Int32) (cap : Nat) : Int32 := if at0 < (nI cap) then at0 else at0 - (nI cap)
set_option maxHeartbeats 4000000 in
theorem c_By_wrapped (l : Launch) (D : va_G) (cI cB cJ : ClassId) (sz : Nat) (at0 : Int32) (b0 : Nat) (rb : Nat) (fi : Nat) (he : Nat) (cap : Nat) (bf : Nat → Int32) : zMet l y_By_wrapped (zWs y_By_wrapped b_By_wrapped 2 (some .int)) { frames := 0, cells := 0, slots := 0, locals := 0 } (zPc D (zT cI cB cJ) sz [(b0, .inr (2, [.ref rb, .int (nI fi), .int (nI he)])), (rb, .inl (cB, cap, .inl (bf)))] [.ref b0, .int at0]) (zQi D (va_A [(b0, .inr (2, [.ref rb, .int (nI fi), .int (nI he)])), (rb, .inl (cB, cap, .inl (bf)))] sz) (fun r (_ : Unit) => r = (sp_By_wrapped at0 cap)) (z0) (fun _ => [(b0, .inr (2, [.ref rb, .int (nI fi), .int (nI he)])), (rb, .inl (cB, cap, .inl (bf)))])) (va_A [(b0, .inr (2, [.ref rb, .int (nI fi), .int (nI he)])), (rb, .inl (cB, cap, .inl (bf)))] sz) := by
  refine zstart (Qc := fun A => zQi D A (fun r (_ : Unit) => r = (sp_By_wrapped at0 cap)) (z0) (fun _ => [(b0, .inr (2, [.ref rb, .int (nI fi), .int (nI he)])), (rb, .inl (cB, cap, .inl (bf)))])) (by decide) (Nat.le_of_ble_eq_true rfl) ?_
  intro p e s m below meth c ls A hE hr hlocks hin hsz hK hP hD hS hA hAe hl
  have hx := hE.1
  have hb := hE.2.1
  have hown := hE.2.2.2.1
  have hw := hE.2.2.2.2
  have hl : lv_has ls 2 [(0, .ref b0), (1, .int at0)] := hl
  refine lv_iload_n hx hb d_By_wrapped_0 rfl (lv_at hl 1 rfl) ?_
  refine lv_aload_n hx hb d_By_wrapped_1 rfl (lv_at hl 0 rfl) ?_
  refine zget hE hK hP 0 rfl fd_By_7 rfl d_By_wrapped_2 ?_
  refine va_alen (v := nI cap) hx hb hK hP 1 1 rfl rfl rfl d_By_wrapped_5 ?_
  refine lv_icmp_lt (tgt := 19) hx hb d_By_wrapped_6 (by decide) (fun h1 => ?_) (fun h1 => ?_)
  · refine lv_iload_n hx hb d_By_wrapped_19 rfl (lv_at hl 1 rfl) ?_
    have hs : (sp_By_wrapped at0 cap) = at0 := by rw [sp_By_wrapped, if_pos h1]
    have hP9 := hP.sub (ws' := [(b0, .inr (2, [.ref rb, .int (nI fi), .int (nI he)])), (rb, .inl (cB, cap, .inl (bf)))]) [0, 1] rfl
    have hD9 := hD.sub (ws' := [(b0, .inr (2, [.ref rb, .int (nI fi), .int (nI he)])), (rb, .inl (cB, cap, .inl (bf)))]) [0, 1] rfl rfl
    exact zreti hx hb hr rfl hlocks hS () (by rw [hs]) rfl (by exact hP9) (by exact hD9) d_By_wrapped_20
  · refine lv_iload_n hx hb d_By_wrapped_9 rfl (lv_at hl 1 rfl) ?_
    refine lv_aload_n hx hb d_By_wrapped_10 rfl (lv_at hl 0 rfl) ?_
    refine zget hE hK hP 0 rfl fd_By_7 rfl d_By_wrapped_11 ?_
    refine va_alen (v := nI cap) hx hb hK hP 1 1 rfl rfl rfl d_By_wrapped_14 ?_
    refine lv_isub hx hb d_By_wrapped_15 ?_
    refine lv_goto (tgt := 20) hx hb d_By_wrapped_16 (by decide) ?_
    have hs : (sp_By_wrapped at0 cap) = at0 - (nI cap) := by rw [sp_By_wrapped, if_neg h1]
    have hP9 := hP.sub (ws' := [(b0, .inr (2, [.ref rb, .int (nI fi), .int (nI he)])), (rb, .inl (cB, cap, .inl (bf)))]) [0, 1] rfl
    have hD9 := hD.sub (ws' := [(b0, .inr (2, [.ref rb, .int (nI fi), .int (nI he)])), (rb, .inl (cB, cap, .inl (bf)))]) [0, 1] rfl rfl
    exact zreti hx hb hr rfl hlocks hS () (by rw [hs]) rfl (by exact hP9) (by exact hD9) d_By_wrapped_20

theorem zwr {a cap : Nat} (hc : cap ≤ 4096) (ha : a < 2 * cap) : sp_By_wrapped (nI a) cap = nI (a % cap) := by
  unfold sp_By_wrapped
  by_cases h : a < cap
  · rw [if_pos (nI_lt h (by omega)), Nat.mod_eq_of_lt h]
  · rw [if_neg (nI_nlt (by omega) (by omega)), pk_sub (by omega), Nat.mod_eq_sub_mod (by omega), Nat.mod_eq_of_lt (by omega)]

set_option maxHeartbeats 4000000 in
theorem c_By_add (l : Launch) (D : va_G) (cI cB cJ : ClassId) (sz : Nat) (b : Int32) (b0 : Nat) (rb : Nat) (fi : Nat) (he : Nat) (cap : Nat) (bf : Nat → Int32) (hc : cap ≤ 4096) (hfi : fi < cap) (hhe : he ≤ cap) : zMet l y_By_add (zWs y_By_add b_By_add 2 (none)) { frames := 1, cells := 0, slots := 0, locals := 21 } (zPc D (zT cI cB cJ) sz [(b0, .inr (2, [.ref rb, .int (nI fi), .int (nI he)])), (rb, .inl (cB, cap, .inl (bf)))] [.ref b0, .int b]) (zQv D (va_A [(b0, .inr (2, [.ref rb, .int (nI fi), .int (nI he)])), (rb, .inl (cB, cap, .inl (bf)))] sz) (fun (_ : Unit) => True) (z0) (fun _ => [(b0, .inr (2, [.ref rb, .int (nI fi), .int (nI (if he < cap then he + 1 else he))])), (rb, .inl (cB, cap, .inl (if he < cap then upd bf ((fi + he) % cap) ((b : Int32).toInt8.toInt32) else bf)))])) (va_A [(b0, .inr (2, [.ref rb, .int (nI fi), .int (nI he)])), (rb, .inl (cB, cap, .inl (bf)))] sz) := by
  refine zstart (Qc := fun A => zQv D A (fun (_ : Unit) => True) (z0) (fun _ => [(b0, .inr (2, [.ref rb, .int (nI fi), .int (nI (if he < cap then he + 1 else he))])), (rb, .inl (cB, cap, .inl (if he < cap then upd bf ((fi + he) % cap) ((b : Int32).toInt8.toInt32) else bf)))])) (by decide) (Nat.le_of_ble_eq_true rfl) ?_
  intro p e s m below meth c ls A hE hr hlocks hin hsz hK hP hD hS hA hAe hl
  have hx := hE.1
  have hb := hE.2.1
  have hown := hE.2.2.2.1
  have hw := hE.2.2.2.2
  have hl : lv_has ls 2 [(0, .ref b0), (1, .int b)] := hl
  refine lv_aload_n hx hb d_By_add_0 rfl (lv_at hl 0 rfl) ?_
  refine zget hE hK hP 0 rfl fd_By_17 rfl d_By_add_1 ?_
  refine lv_aload_n hx hb d_By_add_4 rfl (lv_at hl 0 rfl) ?_
  refine zget hE hK hP 0 rfl fd_By_7 rfl d_By_add_5 ?_
  refine va_alen (v := nI cap) hx hb hK hP 1 1 rfl rfl rfl d_By_add_8 ?_
  refine lv_icmp_ge (tgt := 42) hx hb d_By_add_9 (by decide) (fun h1 => ?_) (fun h1 => ?_)
  · have hge : ¬ he < cap := z_le' (by omega) h1
    have hP9 := hP.sub (ws' := [(b0, .inr (2, [.ref rb, .int (nI fi), .int (nI he)])), (rb, .inl (cB, cap, .inl (bf)))]) [0, 1] rfl
    have hD9 := hD.sub (ws' := [(b0, .inr (2, [.ref rb, .int (nI fi), .int (nI he)])), (rb, .inl (cB, cap, .inl (bf)))]) [0, 1] rfl rfl
    exact zretv hx hb hr hlocks hS () trivial rfl (by simp only [if_neg hge]; exact hP9) (by simp only [if_neg hge]; exact hD9) d_By_add_42
  · have hlt : he < cap := z_nle' (by omega) h1
    refine lv_aload_n hx hb d_By_add_12 rfl (lv_at hl 0 rfl) ?_
    refine zget hE hK hP 0 rfl fd_By_7 rfl d_By_add_13 ?_
    refine lv_aload_n hx hb d_By_add_16 rfl (lv_at hl 0 rfl) ?_
    refine lv_aload_n hx hb d_By_add_17 rfl (lv_at hl 0 rfl) ?_
    refine zget hE hK hP 0 rfl fd_By_13 rfl d_By_add_18 ?_
    refine lv_aload_n hx hb d_By_add_21 rfl (lv_at hl 0 rfl) ?_
    refine zget hE hK hP 0 rfl fd_By_17 rfl d_By_add_22 ?_
    refine lv_iadd hx hb d_By_add_25 ?_
    refine z_st (st' := [.int (nI (fi + he)), .ref b0, .ref rb]) (by rw [show (((nI fi) + (nI he)) : Int32) = nI (fi + he) from nI_add fi he]) ?_
    refine zgoi (wr := []) (zrunV (n := 1) (As := [.int (nI (fi + he))]) (rest := [.ref rb]) hE (c_By_wrapped l D cI cB cJ _ (nI (fi + he)) b0 rb fi he cap bf) cb_By_wrapped lk_By_20 in_By_wrapped se_By_wrapped (zpreV (q0 := 0) hK hP hD rfl rfl rfl [0, 1] rfl rfl rfl) ⟨Nat.le_of_ble_eq_true rfl, Nat.le_of_ble_eq_true rfl, Nat.le_of_ble_eq_true rfl, Nat.le_of_ble_eq_true rfl⟩ rfl hl.1 rfl (Nat.le_of_ble_eq_true rfl) d_By_add_26) hP hD hS hA [0, 1] [] rfl rfl rfl (by decide) (fun r u H locs hq2 hP hD hS => ?_)
    subst hq2
    have hP : va_P D zC [(b0, .inr (2, [.ref rb, .int (nI fi), .int (nI he)])), (rb, .inl (cB, cap, .inl (bf)))] H := hP
    have hD : va_D A [(b0, .inr (2, [.ref rb, .int (nI fi), .int (nI he)])), (rb, .inl (cB, cap, .inl (bf)))] := hD
    refine z_st (st' := [.int (nI ((fi + he) % cap)), .ref rb]) (by rw [show (((sp_By_wrapped (nI (fi + he)) cap)) : Int32) = nI ((fi + he) % cap) from zwr hc (by omega)]) ?_
    refine lv_iload_n hx hb d_By_add_29 rfl (lv_at hl 1 rfl) ?_
    refine lv_i2b (v := (b : Int32).toInt8.toInt32) hx hb d_By_add_30 rfl ?_
    refine va_bast hx hb hK hP hD hS 1 1 rfl rfl (vp_in_nI (Nat.mod_lt _ (by omega)) (by omega)) d_By_add_31 (fun H locs hP hD hS => ?_)
    have hP : va_P D zC [(b0, .inr (2, [.ref rb, .int (nI fi), .int (nI he)])), (rb, .inl (cB, cap, .inl (upd bf (nI ((fi + he) % cap)).toNatClampNeg (vp_nar .byte ((b : Int32).toInt8.toInt32)))))] H := hP
    have hD : va_D A [(b0, .inr (2, [.ref rb, .int (nI fi), .int (nI he)])), (rb, .inl (cB, cap, .inl (upd bf (nI ((fi + he) % cap)).toNatClampNeg (vp_nar .byte ((b : Int32).toInt8.toInt32)))))] := hD
    rw [show ((upd bf (nI ((fi + he) % cap)).toNatClampNeg (vp_nar .byte ((b : Int32).toInt8.toInt32))) : Nat → Int32) = upd bf ((fi + he) % cap) ((b : Int32).toInt8.toInt32) from by rw [nI_clamp (Nat.lt_of_lt_of_le (Nat.mod_lt _ (by omega)) (by omega)), pk_vb]] at hP hD
    have hP : va_P D zC [(b0, .inr (2, [.ref rb, .int (nI fi), .int (nI he)])), (rb, .inl (cB, cap, .inl (upd bf ((fi + he) % cap) ((b : Int32).toInt8.toInt32))))] H := hP
    have hD : va_D A [(b0, .inr (2, [.ref rb, .int (nI fi), .int (nI he)])), (rb, .inl (cB, cap, .inl (upd bf ((fi + he) % cap) ((b : Int32).toInt8.toInt32))))] := hD
    refine lv_aload_n hx hb d_By_add_32 rfl (lv_at hl 0 rfl) ?_
    refine lv_dup hx hb d_By_add_33 rfl ?_
    refine zget hE hK hP 0 rfl fd_By_17 rfl d_By_add_34 ?_
    refine lv_iconst (v := 1) hx hb d_By_add_37 (by decide) ?_
    refine lv_iadd hx hb d_By_add_38 ?_
    refine z_st (st' := [.int (nI (he + 1)), .ref b0]) (by rw [show (((nI he) + 1) : Int32) = nI (he + 1) from nI_1 he]) ?_
    refine zput (v := .int (nI (he + 1))) hE hK hP hD hS 0 rfl fd_By_17 ft_By_2 rfl rfl (Nat.le_of_ble_eq_true rfl) d_By_add_39 (fun H locs hP hD hS => ?_)
    have hP : va_P D zC [(b0, .inr (2, [.ref rb, .int (nI fi), .int (nI (he + 1))])), (rb, .inl (cB, cap, .inl (upd bf ((fi + he) % cap) ((b : Int32).toInt8.toInt32))))] H := hP
    have hD : va_D A [(b0, .inr (2, [.ref rb, .int (nI fi), .int (nI (he + 1))])), (rb, .inl (cB, cap, .inl (upd bf ((fi + he) % cap) ((b : Int32).toInt8.toInt32))))] := hD
    have hP9 := hP.sub (ws' := [(b0, .inr (2, [.ref rb, .int (nI fi), .int (nI (he + 1))])), (rb, .inl (cB, cap, .inl (upd bf ((fi + he) % cap) ((b : Int32).toInt8.toInt32))))]) [0, 1] rfl
    have hD9 := hD.sub (ws' := [(b0, .inr (2, [.ref rb, .int (nI fi), .int (nI (he + 1))])), (rb, .inl (cB, cap, .inl (upd bf ((fi + he) % cap) ((b : Int32).toInt8.toInt32))))]) [0, 1] rfl rfl
    exact zretv hx hb hr hlocks hS () trivial rfl (by simp only [if_pos hlt]; exact hP9) (by simp only [if_pos hlt]; exact hD9) d_By_add_42

set_option maxHeartbeats 4000000 in
theorem c_By_removeFirst (l : Launch) (D : va_G) (cI cB cJ : ClassId) (sz : Nat) (b0 : Nat) (rb : Nat) (fi : Nat) (he : Nat) (cap : Nat) (bf : Nat → Int32) (hc : cap ≤ 4096) (hfi : fi < cap) (hhe : he ≤ cap) : zMet l y_By_removeFirst (zWs y_By_removeFirst b_By_removeFirst 2 (some .int)) { frames := 1, cells := 0, slots := 0, locals := 21 } (zPc D (zT cI cB cJ) sz [(b0, .inr (2, [.ref rb, .int (nI fi), .int (nI he)])), (rb, .inl (cB, cap, .inl (bf)))] [.ref b0]) (zQi D (va_A [(b0, .inr (2, [.ref rb, .int (nI fi), .int (nI he)])), (rb, .inl (cB, cap, .inl (bf)))] sz) (fun r (_ : Unit) => r = (if he = 0 then -1 else bf fi &&& 255)) (z0) (fun _ => [(b0, .inr (2, [.ref rb, .int (nI (if he = 0 then fi else (fi + 1) % cap)), .int (nI (he - 1))])), (rb, .inl (cB, cap, .inl (bf)))])) (va_A [(b0, .inr (2, [.ref rb, .int (nI fi), .int (nI he)])), (rb, .inl (cB, cap, .inl (bf)))] sz) := by
  refine zstart (Qc := fun A => zQi D A (fun r (_ : Unit) => r = (if he = 0 then -1 else bf fi &&& 255)) (z0) (fun _ => [(b0, .inr (2, [.ref rb, .int (nI (if he = 0 then fi else (fi + 1) % cap)), .int (nI (he - 1))])), (rb, .inl (cB, cap, .inl (bf)))])) (by decide) (Nat.le_of_ble_eq_true rfl) ?_
  intro p e s m below meth c ls A hE hr hlocks hin hsz hK hP hD hS hA hAe hl
  have hx := hE.1
  have hb := hE.2.1
  have hown := hE.2.2.2.1
  have hw := hE.2.2.2.2
  have hl : lv_has ls 2 [(0, .ref b0)] := hl
  refine lv_aload_n hx hb d_By_removeFirst_0 rfl (lv_at hl 0 rfl) ?_
  refine zget hE hK hP 0 rfl fd_By_17 rfl d_By_removeFirst_1 ?_
  refine lv_if_ne (tgt := 9) hx hb d_By_removeFirst_4 (by decide) (fun h1 => ?_) (fun h1 => ?_)
  · have hn0 : ¬ he = 0 := z_n0 h1
    refine lv_aload_n hx hb d_By_removeFirst_9 rfl (lv_at hl 0 rfl) ?_
    refine zget hE hK hP 0 rfl fd_By_7 rfl d_By_removeFirst_10 ?_
    refine lv_aload_n hx hb d_By_removeFirst_13 rfl (lv_at hl 0 rfl) ?_
    refine zget hE hK hP 0 rfl fd_By_13 rfl d_By_removeFirst_14 ?_
    refine va_bald hx hb hK hP 1 1 rfl rfl (vp_in_nI hfi (by omega)) d_By_removeFirst_17 ?_
    refine z_st (st' := [.int (bf fi)]) (by rw [show ((bf (nI fi).toNatClampNeg) : Int32) = bf fi from by rw [nI_clamp (by omega)]]) ?_
    refine lv_sipush (v := 255) hx hb d_By_removeFirst_18 (by decide) ?_
    refine lv_iand hx hb d_By_removeFirst_21 ?_
    refine lv_istore_n (lv' := [(1, .int ((bf fi) &&& 255)), (0, .ref b0)]) hx hb d_By_removeFirst_22 rfl hl (by decide) rfl (fun ls hl => ?_)
    refine lv_aload_n hx hb d_By_removeFirst_23 rfl (lv_at hl 1 rfl) ?_
    refine lv_aload_n hx hb d_By_removeFirst_24 rfl (lv_at hl 1 rfl) ?_
    refine lv_aload_n hx hb d_By_removeFirst_25 rfl (lv_at hl 1 rfl) ?_
    refine zget hE hK hP 0 rfl fd_By_13 rfl d_By_removeFirst_26 ?_
    refine lv_iconst (v := 1) hx hb d_By_removeFirst_29 (by decide) ?_
    refine lv_iadd hx hb d_By_removeFirst_30 ?_
    refine z_st (st' := [.int (nI (fi + 1)), .ref b0, .ref b0]) (by rw [show (((nI fi) + 1) : Int32) = nI (fi + 1) from nI_1 fi]) ?_
    refine zgoi (wr := []) (zrunV (n := 1) (As := [.int (nI (fi + 1))]) (rest := [.ref b0]) hE (c_By_wrapped l D cI cB cJ _ (nI (fi + 1)) b0 rb fi he cap bf) cb_By_wrapped lk_By_20 in_By_wrapped se_By_wrapped (zpreV (q0 := 0) hK hP hD rfl rfl rfl [0, 1] rfl rfl rfl) ⟨Nat.le_of_ble_eq_true rfl, Nat.le_of_ble_eq_true rfl, Nat.le_of_ble_eq_true rfl, Nat.le_of_ble_eq_true rfl⟩ rfl hl.1 rfl (Nat.le_of_ble_eq_true rfl) d_By_removeFirst_31) hP hD hS hA [0, 1] [] rfl rfl rfl (by decide) (fun r u H locs hq2 hP hD hS => ?_)
    subst hq2
    have hP : va_P D zC [(b0, .inr (2, [.ref rb, .int (nI fi), .int (nI he)])), (rb, .inl (cB, cap, .inl (bf)))] H := hP
    have hD : va_D A [(b0, .inr (2, [.ref rb, .int (nI fi), .int (nI he)])), (rb, .inl (cB, cap, .inl (bf)))] := hD
    refine z_st (st' := [.int (nI ((fi + 1) % cap)), .ref b0]) (by rw [show (((sp_By_wrapped (nI (fi + 1)) cap)) : Int32) = nI ((fi + 1) % cap) from zwr hc (by omega)]) ?_
    refine zput (v := .int (nI ((fi + 1) % cap))) hE hK hP hD hS 0 rfl fd_By_13 ft_By_1 rfl rfl (Nat.le_of_ble_eq_true rfl) d_By_removeFirst_34 (fun H locs hP hD hS => ?_)
    have hP : va_P D zC [(b0, .inr (2, [.ref rb, .int (nI ((fi + 1) % cap)), .int (nI he)])), (rb, .inl (cB, cap, .inl (bf)))] H := hP
    have hD : va_D A [(b0, .inr (2, [.ref rb, .int (nI ((fi + 1) % cap)), .int (nI he)])), (rb, .inl (cB, cap, .inl (bf)))] := hD
    refine lv_aload_n hx hb d_By_removeFirst_37 rfl (lv_at hl 1 rfl) ?_
    refine lv_dup hx hb d_By_removeFirst_38 rfl ?_
    refine zget hE hK hP 0 rfl fd_By_17 rfl d_By_removeFirst_39 ?_
    refine lv_iconst (v := 1) hx hb d_By_removeFirst_42 (by decide) ?_
    refine lv_isub hx hb d_By_removeFirst_43 ?_
    refine z_st (st' := [.int (nI (he - 1)), .ref b0]) (by rw [show (((nI he) - 1) : Int32) = nI (he - 1) from pk_sub (b := 1) (by omega)]) ?_
    refine zput (v := .int (nI (he - 1))) hE hK hP hD hS 0 rfl fd_By_17 ft_By_2 rfl rfl (Nat.le_of_ble_eq_true rfl) d_By_removeFirst_44 (fun H locs hP hD hS => ?_)
    have hP : va_P D zC [(b0, .inr (2, [.ref rb, .int (nI ((fi + 1) % cap)), .int (nI (he - 1))])), (rb, .inl (cB, cap, .inl (bf)))] H := hP
    have hD : va_D A [(b0, .inr (2, [.ref rb, .int (nI ((fi + 1) % cap)), .int (nI (he - 1))])), (rb, .inl (cB, cap, .inl (bf)))] := hD
    refine lv_iload_n hx hb d_By_removeFirst_47 rfl (lv_at hl 0 rfl) ?_
    have hP9 := hP.sub (ws' := [(b0, .inr (2, [.ref rb, .int (nI ((fi + 1) % cap)), .int (nI (he - 1))])), (rb, .inl (cB, cap, .inl (bf)))]) [0, 1] rfl
    have hD9 := hD.sub (ws' := [(b0, .inr (2, [.ref rb, .int (nI ((fi + 1) % cap)), .int (nI (he - 1))])), (rb, .inl (cB, cap, .inl (bf)))]) [0, 1] rfl rfl
    exact zreti hx hb hr rfl hlocks hS () (by rw [if_neg hn0]) rfl (by rw [if_neg hn0]; exact hP9) (by rw [if_neg hn0]; exact hD9) d_By_removeFirst_48
  · have h0 : he = 0 := z_e0 (by omega) h1
    refine lv_iconst (v := (-1)) hx hb d_By_removeFirst_7 (by decide) ?_
    have hP9 := hP.sub (ws' := [(b0, .inr (2, [.ref rb, .int (nI fi), .int (nI he)])), (rb, .inl (cB, cap, .inl (bf)))]) [0, 1] rfl
    have hD9 := hD.sub (ws' := [(b0, .inr (2, [.ref rb, .int (nI fi), .int (nI he)])), (rb, .inl (cB, cap, .inl (bf)))]) [0, 1] rfl rfl
    exact zreti hx hb hr rfl hlocks hS () (by rw [if_pos h0]) rfl (by rw [if_pos h0]; subst h0; exact hP9) (by rw [if_pos h0]; subst h0; exact hD9) d_By_removeFirst_8

set_option maxHeartbeats 4000000 in
theorem c_By_forgetAll (l : Launch) (D : va_G) (cI cB cJ : ClassId) (sz : Nat) (b0 : Nat) (rb : Nat) (fi : Nat) (he : Nat) : zMet l y_By_forgetAll (zWs y_By_forgetAll b_By_forgetAll 1 (none)) { frames := 0, cells := 0, slots := 0, locals := 0 } (zPc D (zT cI cB cJ) sz [(b0, .inr (2, [.ref rb, .int (nI fi), .int (nI he)]))] [.ref b0]) (zQv D (va_A [(b0, .inr (2, [.ref rb, .int (nI fi), .int (nI he)]))] sz) (fun (_ : Unit) => True) (z0) (fun _ => [(b0, .inr (2, [.ref rb, .int (nI 0), .int (nI 0)]))])) (va_A [(b0, .inr (2, [.ref rb, .int (nI fi), .int (nI he)]))] sz) := by
  refine zstart (Qc := fun A => zQv D A (fun (_ : Unit) => True) (z0) (fun _ => [(b0, .inr (2, [.ref rb, .int (nI 0), .int (nI 0)]))])) (by decide) (Nat.le_of_ble_eq_true rfl) ?_
  intro p e s m below meth c ls A hE hr hlocks hin hsz hK hP hD hS hA hAe hl
  have hx := hE.1
  have hb := hE.2.1
  have hown := hE.2.2.2.1
  have hw := hE.2.2.2.2
  have hl : lv_has ls 1 [(0, .ref b0)] := hl
  refine lv_aload_n hx hb d_By_forgetAll_0 rfl (lv_at hl 0 rfl) ?_
  refine lv_iconst (v := 0) hx hb d_By_forgetAll_1 (by decide) ?_
  refine zput (v := .int 0) hE hK hP hD hS 0 rfl fd_By_13 ft_By_1 rfl rfl (Nat.le_of_ble_eq_true rfl) d_By_forgetAll_2 (fun H locs hP hD hS => ?_)
  have hP : va_P D zC [(b0, .inr (2, [.ref rb, .int 0, .int (nI he)]))] H := hP
  have hD : va_D A [(b0, .inr (2, [.ref rb, .int 0, .int (nI he)]))] := hD
  refine lv_aload_n hx hb d_By_forgetAll_5 rfl (lv_at hl 0 rfl) ?_
  refine lv_iconst (v := 0) hx hb d_By_forgetAll_6 (by decide) ?_
  refine zput (v := .int 0) hE hK hP hD hS 0 rfl fd_By_17 ft_By_2 rfl rfl (Nat.le_of_ble_eq_true rfl) d_By_forgetAll_7 (fun H locs hP hD hS => ?_)
  have hP : va_P D zC [(b0, .inr (2, [.ref rb, .int 0, .int 0]))] H := hP
  have hD : va_D A [(b0, .inr (2, [.ref rb, .int 0, .int 0]))] := hD
  have hP9 := hP.sub (ws' := [(b0, .inr (2, [.ref rb, .int 0, .int 0]))]) [0] rfl
  have hD9 := hD.sub (ws' := [(b0, .inr (2, [.ref rb, .int 0, .int 0]))]) [0] rfl rfl
  exact zretv hx hb hr hlocks hS () trivial rfl hP9 hD9 d_By_forgetAll_10

set_option maxHeartbeats 4000000 in
theorem c_By_init (l : Launch) (D : va_G) (cI cB cJ : ClassId) (sz : Nat) (n : Int32) (b0 : Nat) (cap : Nat) (hcap : n = nI cap) (hc : cap ≤ 4096) : zMet l y_By_init (zWs y_By_init b_By_init 2 (none)) { frames := 1, cells := 1, slots := cap, locals := 20 } (zPc D (zT cI cB cJ) sz [(b0, .inr (2, [.null, .int 0, .int 0]))] [.ref b0, .int n]) (zQv D (va_A [(b0, .inr (2, [.null, .int 0, .int 0]))] sz) (fun (_ : Nat) => True) (fun _ => (1, cap)) (fun q => [(b0, .inr (2, [.ref q, .int (nI 0), .int (nI 0)])), (q, .inl (cB, cap, .inl (fun _ => 0)))])) (va_A [(b0, .inr (2, [.null, .int 0, .int 0]))] sz) := by
  refine zstart (Qc := fun A => zQv D A (fun (_ : Nat) => True) (fun _ => (1, cap)) (fun q => [(b0, .inr (2, [.ref q, .int (nI 0), .int (nI 0)])), (q, .inl (cB, cap, .inl (fun _ => 0)))])) (by decide) (Nat.le_of_ble_eq_true rfl) ?_
  intro p e s m below meth c ls A hE hr hlocks hin hsz hK hP hD hS hA hAe hl
  have hx := hE.1
  have hb := hE.2.1
  have hown := hE.2.2.2.1
  have hw := hE.2.2.2.2
  have hl : lv_has ls 2 [(0, .ref b0), (1, .int n)] := hl
  refine lv_aload_n hx hb d_By_init_0 rfl (lv_at hl 0 rfl) ?_
  refine W.objInit hx hb hown (hw _ ol_By) (hw _ oi_in) (hw _ oi_code) rfl (by rw [hE.2.2.1]; exact hl.1) rfl d_By_init_1 (Nat.le_of_ble_eq_true rfl) (Nat.le_of_ble_eq_true rfl) ?_
  refine W.eq (g2 := F0 m 4 ls []) rfl ?_
  refine lv_aload_n hx hb d_By_init_4 rfl (lv_at hl 0 rfl) ?_
  refine lv_iload_n hx hb d_By_init_5 rfl (lv_at hl 1 rfl) ?_
  refine va_newa (a0 := (cap, .inl (fun _ => 0))) (N' := cap) hx hb (hw _ aw_byte) rfl hK hP hD hS hA (fun _ => rfl) (by rw [hcap]; exact nI_pos (by omega)) (by rw [hcap]; exact nI_clamp (by omega)) (by show cap * 1 ≤ 536870912; omega) (Nat.le_of_ble_eq_true rfl) (by show 0 + cap ≤ cap; omega) d_By_init_6 (fun q1 cA0 H hK0 hP hD hS => ?_)
  obtain rfl : cB = cA0 := zK_byte hK0
  have hP : va_P D zC [(b0, .inr (2, [.null, .int 0, .int 0])), (q1, .inl (cB, cap, .inl (fun _ => 0)))] H := hP
  have hD : va_D A [(b0, .inr (2, [.null, .int 0, .int 0])), (q1, .inl (cB, cap, .inl (fun _ => 0)))] := hD
  refine zputF (v := .ref q1) hE hin hK hP hD hS 0 rfl rfl fd_By_7 ft_By_0 rfl rfl (Nat.le_of_ble_eq_true rfl) d_By_init_8 fl_By_7 (fun H locs hP hD hS => ?_)
  have hP : va_P D zC [(b0, .inr (2, [.ref q1, .int 0, .int 0])), (q1, .inl (cB, cap, .inl (fun _ => 0)))] H := hP
  have hD : va_D A [(b0, .inr (2, [.ref q1, .int 0, .int 0])), (q1, .inl (cB, cap, .inl (fun _ => 0)))] := hD
  have hP9 := hP.sub (ws' := [(b0, .inr (2, [.ref q1, .int 0, .int 0])), (q1, .inl (cB, cap, .inl (fun _ => 0)))]) [0, 1] rfl
  have hD9 := hD.sub (ws' := [(b0, .inr (2, [.ref q1, .int 0, .int 0])), (q1, .inl (cB, cap, .inl (fun _ => 0)))]) [0, 1] rfl rfl
  exact zretv hx hb hr hlocks hS q1 trivial (by show (1, cap) = (0 + 1, 0 + cap); simp) hP9 hD9 d_By_init_11
end
section
/-! loops: by a measure that falls -/
section ZLoops
variable {p : Program} {l : Launch} {e : Env} {R : Room} {s : State} {m : MethodId} {args : Array Value} {below : List Frame} {meth : Method} {c : Code} {H : Heap} {locs : List Loc} {cells slots : Nat} {Q : State → Prop} {pc : Nat} {st : List Value}
theorem zloop0 {σ : Type} (I : Nat → σ → Array Slot → Prop) (body : ∀ (j : Nat) (x : σ) (ls : Array Slot), I j x ls → (∀ (j' : Nat) (x' : σ) (ls' : Array Slot), j' < j → I j' x' ls' → W p l e R s m args below meth c H locs cells slots Q (F0 m pc ls' st)) → W p l e R s m args below meth c H locs cells slots Q (F0 m pc ls st))
    (j : Nat) (x : σ) (ls : Array Slot) (h : I j x ls) : W p l e R s m args below meth c H locs cells slots Q (F0 m pc ls st) := by
  induction j using Nat.strongRecOn generalizing x ls with
  | ind j ih => exact body j x ls h (fun j' x' ls' hj hI => ih j' hj x' ls' hI)
theorem zloopH {σ : Type} (I : Nat → σ → Array Slot → Heap → List Loc → Nat → Nat → Prop) (body : ∀ (j : Nat) (x : σ) (ls : Array Slot) (H : Heap) (locs : List Loc) (cells slots : Nat), I j x ls H locs cells slots → (∀ (j' : Nat) (x' : σ) (ls' : Array Slot) (H' : Heap) (locs' : List Loc) (cells' slots' : Nat), j' < j → I j' x' ls' H' locs' cells' slots' → W p l e R s m args below meth c H' locs' cells' slots' Q (F0 m pc ls' st)) → W p l e R s m args below meth c H locs cells slots Q (F0 m pc ls st))
    (j : Nat) (x : σ) (ls : Array Slot) (h : I j x ls H locs cells slots) : W p l e R s m args below meth c H locs cells slots Q (F0 m pc ls st) := by
  induction j using Nat.strongRecOn generalizing x ls H locs cells slots with
  | ind j ih => exact body j x ls H locs cells slots h (fun j' x' ls' H' locs' c' s' hj hI => ih j' hj x' ls' hI)
end ZLoops
theorem z_m1 (x : Int32) : x - 1 = x + (-1) := Int32.sub_eq_add_neg x 1
theorem z_pm {j : Nat} (h : ¬ nI j + (-1) < 0) : 0 < j := by
  rcases Nat.eq_zero_or_pos j with q | q
  · subst q
    exact absurd (by decide) h
  · exact q
theorem z_pm0 {j : Nat} (hj : j < 2 ^ 31) (h : nI j + (-1) < 0) : j = 0 := by
  rcases Nat.eq_zero_or_pos j with q | q
  · exact q
  · obtain ⟨k, rfl⟩ : ∃ k, j = k + 1 := ⟨j - 1, by omega⟩
    rw [pk_m1] at h
    exact absurd h (nI_pos (by omega))
/-- bytes read as one number, the last first -/
def zrd (f : Nat → Int32) : Nat → Int32 → Int32
  | 0, v => v
  | j + 1, v => zrd f j ((v <<< ((8 : Int32) &&& 31)) ||| (f j &&& 255))
/-- the low bytes of a number laid from a place on -/
def zwt (f : Nat → Int32) (a k : Nat) (v : Int32) : Nat → Int32 := fun q => if a ≤ q ∧ q < a + k then ((v >>> ((8 * nI (q - a)) &&& 31)).toInt8.toInt32) else f q
theorem zwt_0 (f : Nat → Int32) (a : Nat) (v : Int32) : zwt f a 0 v = f := by
  funext q
  unfold zwt
  rw [if_neg (by omega)]
theorem zwt_s (f : Nat → Int32) (a k : Nat) (v : Int32) : upd (zwt f a k v) (a + k) ((v >>> ((8 * nI k) &&& 31)).toInt8.toInt32) = zwt f a (k + 1) v := by
  funext q
  unfold upd zwt
  by_cases h : q = a + k
  · subst h
    rw [if_pos rfl, if_pos (by omega), show a + k - a = k by omega]
  · rw [if_neg h]
    by_cases h2 : a ≤ q ∧ q < a + k
    · rw [if_pos h2, if_pos (by omega)]
    · rw [if_neg h2, if_neg (by omega)]
end
section
/-! decode rows -/
theorem d_Me_isThere_0 : decode b_Me_isThere 0 = .ok (.iload_n 1, 1) := by decide +kernel
theorem d_Me_isThere_1 : decode b_Me_isThere 1 = .ok (.iconst 1, 1) := by decide +kernel
theorem d_Me_isThere_2 : decode b_Me_isThere 2 = .ok (.if_icmp .lt 25, 3) := by decide +kernel
theorem d_Me_isThere_5 : decode b_Me_isThere 5 = .ok (.iload_n 1, 1) := by decide +kernel
theorem d_Me_isThere_6 : decode b_Me_isThere 6 = .ok (.aload_n 0, 1) := by decide +kernel
theorem d_Me_isThere_7 : decode b_Me_isThere 7 = .ok (.getfield 26, 3) := by decide +kernel
theorem d_Me_isThere_10 : decode b_Me_isThere 10 = .ok (.if_icmp .gt 17, 3) := by decide +kernel
theorem d_Me_isThere_13 : decode b_Me_isThere 13 = .ok (.aload_n 0, 1) := by decide +kernel
theorem d_Me_isThere_14 : decode b_Me_isThere 14 = .ok (.getfield 9, 3) := by decide +kernel
theorem d_Me_isThere_17 : decode b_Me_isThere 17 = .ok (.iload_n 1, 1) := by decide +kernel
theorem d_Me_isThere_18 : decode b_Me_isThere 18 = .ok (.iaload, 1) := by decide +kernel
theorem d_Me_isThere_19 : decode b_Me_isThere 19 = .ok (.iconst (-1), 1) := by decide +kernel
theorem d_Me_isThere_20 : decode b_Me_isThere 20 = .ok (.if_icmp .eq 7, 3) := by decide +kernel
theorem d_Me_isThere_23 : decode b_Me_isThere 23 = .ok (.iconst 1, 1) := by decide +kernel
theorem d_Me_isThere_24 : decode b_Me_isThere 24 = .ok (.goto 4, 3) := by decide +kernel
theorem d_Me_isThere_27 : decode b_Me_isThere 27 = .ok (.iconst 0, 1) := by decide +kernel
theorem d_Me_isThere_28 : decode b_Me_isThere 28 = .ok (.ireturn, 1) := by decide +kernel
theorem d_Me_holds_0 : decode b_Me_holds 0 = .ok (.iload_n 1, 1) := by decide +kernel
theorem d_Me_holds_1 : decode b_Me_holds 1 = .ok (.bipush 16, 2) := by decide +kernel
theorem d_Me_holds_3 : decode b_Me_holds 3 = .ok (.iushr, 1) := by decide +kernel
theorem d_Me_holds_4 : decode b_Me_holds 4 = .ok (.istore_n 3, 1) := by decide +kernel
theorem d_Me_holds_5 : decode b_Me_holds 5 = .ok (.aload_n 0, 1) := by decide +kernel
theorem d_Me_holds_6 : decode b_Me_holds 6 = .ok (.iload_n 3, 1) := by decide +kernel
theorem d_Me_holds_7 : decode b_Me_holds 7 = .ok (.invokevirtual 83, 3) := by decide +kernel
theorem d_Me_holds_10 : decode b_Me_holds 10 = .ok (.ifCond .eq 22, 3) := by decide +kernel
theorem d_Me_holds_13 : decode b_Me_holds 13 = .ok (.iload_n 1, 1) := by decide +kernel
theorem d_Me_holds_14 : decode b_Me_holds 14 = .ok (.ldc 82, 2) := by decide +kernel
theorem d_Me_holds_16 : decode b_Me_holds 16 = .ok (.iand, 1) := by decide +kernel
theorem d_Me_holds_17 : decode b_Me_holds 17 = .ok (.iload_n 2, 1) := by decide +kernel
theorem d_Me_holds_18 : decode b_Me_holds 18 = .ok (.iadd, 1) := by decide +kernel
theorem d_Me_holds_19 : decode b_Me_holds 19 = .ok (.aload_n 0, 1) := by decide +kernel
theorem d_Me_holds_20 : decode b_Me_holds 20 = .ok (.getfield 9, 3) := by decide +kernel
theorem d_Me_holds_23 : decode b_Me_holds 23 = .ok (.iload_n 3, 1) := by decide +kernel
theorem d_Me_holds_24 : decode b_Me_holds 24 = .ok (.iaload, 1) := by decide +kernel
theorem d_Me_holds_25 : decode b_Me_holds 25 = .ok (.if_icmp .gt 7, 3) := by decide +kernel
theorem d_Me_holds_28 : decode b_Me_holds 28 = .ok (.iconst 1, 1) := by decide +kernel
theorem d_Me_holds_29 : decode b_Me_holds 29 = .ok (.goto 4, 3) := by decide +kernel
theorem d_Me_holds_32 : decode b_Me_holds 32 = .ok (.iconst 0, 1) := by decide +kernel
theorem d_Me_holds_33 : decode b_Me_holds 33 = .ok (.ireturn, 1) := by decide +kernel
theorem d_Me_holdsAligned_0 : decode b_Me_holdsAligned 0 = .ok (.iload_n 1, 1) := by decide +kernel
theorem d_Me_holdsAligned_1 : decode b_Me_holdsAligned 1 = .ok (.iload_n 2, 1) := by decide +kernel
theorem d_Me_holdsAligned_2 : decode b_Me_holdsAligned 2 = .ok (.iconst 1, 1) := by decide +kernel
theorem d_Me_holdsAligned_3 : decode b_Me_holdsAligned 3 = .ok (.isub, 1) := by decide +kernel
theorem d_Me_holdsAligned_4 : decode b_Me_holdsAligned 4 = .ok (.iand, 1) := by decide +kernel
theorem d_Me_holdsAligned_5 : decode b_Me_holdsAligned 5 = .ok (.ifCond .ne 16, 3) := by decide +kernel
theorem d_Me_holdsAligned_8 : decode b_Me_holdsAligned 8 = .ok (.aload_n 0, 1) := by decide +kernel
theorem d_Me_holdsAligned_9 : decode b_Me_holdsAligned 9 = .ok (.iload_n 1, 1) := by decide +kernel
theorem d_Me_holdsAligned_10 : decode b_Me_holdsAligned 10 = .ok (.iload_n 2, 1) := by decide +kernel
theorem d_Me_holdsAligned_11 : decode b_Me_holdsAligned 11 = .ok (.invokevirtual 87, 3) := by decide +kernel
theorem d_Me_holdsAligned_14 : decode b_Me_holdsAligned 14 = .ok (.ifCond .eq 7, 3) := by decide +kernel
theorem d_Me_holdsAligned_17 : decode b_Me_holdsAligned 17 = .ok (.iconst 1, 1) := by decide +kernel
theorem d_Me_holdsAligned_18 : decode b_Me_holdsAligned 18 = .ok (.goto 4, 3) := by decide +kernel
theorem d_Me_holdsAligned_21 : decode b_Me_holdsAligned 21 = .ok (.iconst 0, 1) := by decide +kernel
theorem d_Me_holdsAligned_22 : decode b_Me_holdsAligned 22 = .ok (.ireturn, 1) := by decide +kernel
theorem d_Me_spot_0 : decode b_Me_spot 0 = .ok (.aload_n 0, 1) := by decide +kernel
theorem d_Me_spot_1 : decode b_Me_spot 1 = .ok (.getfield 13, 3) := by decide +kernel
theorem d_Me_spot_4 : decode b_Me_spot 4 = .ok (.iload_n 1, 1) := by decide +kernel
theorem d_Me_spot_5 : decode b_Me_spot 5 = .ok (.bipush 16, 2) := by decide +kernel
theorem d_Me_spot_7 : decode b_Me_spot 7 = .ok (.iushr, 1) := by decide +kernel
theorem d_Me_spot_8 : decode b_Me_spot 8 = .ok (.iaload, 1) := by decide +kernel
theorem d_Me_spot_9 : decode b_Me_spot 9 = .ok (.iload_n 1, 1) := by decide +kernel
theorem d_Me_spot_10 : decode b_Me_spot 10 = .ok (.ldc 82, 2) := by decide +kernel
theorem d_Me_spot_12 : decode b_Me_spot 12 = .ok (.iand, 1) := by decide +kernel
theorem d_Me_spot_13 : decode b_Me_spot 13 = .ok (.iadd, 1) := by decide +kernel
theorem d_Me_spot_14 : decode b_Me_spot 14 = .ok (.ireturn, 1) := by decide +kernel
theorem d_Me_read_0 : decode b_Me_read 0 = .ok (.aload_n 0, 1) := by decide +kernel
theorem d_Me_read_1 : decode b_Me_read 1 = .ok (.iload_n 1, 1) := by decide +kernel
theorem d_Me_read_2 : decode b_Me_read 2 = .ok (.invokevirtual 91, 3) := by decide +kernel
theorem d_Me_read_5 : decode b_Me_read 5 = .ok (.istore_n 3, 1) := by decide +kernel
theorem d_Me_read_6 : decode b_Me_read 6 = .ok (.iconst 0, 1) := by decide +kernel
theorem d_Me_read_7 : decode b_Me_read 7 = .ok (.istore 4, 2) := by decide +kernel
theorem d_Me_read_9 : decode b_Me_read 9 = .ok (.iload_n 2, 1) := by decide +kernel
theorem d_Me_read_10 : decode b_Me_read 10 = .ok (.iconst 1, 1) := by decide +kernel
theorem d_Me_read_11 : decode b_Me_read 11 = .ok (.isub, 1) := by decide +kernel
theorem d_Me_read_12 : decode b_Me_read 12 = .ok (.istore 5, 2) := by decide +kernel
theorem d_Me_read_14 : decode b_Me_read 14 = .ok (.iload 5, 2) := by decide +kernel
theorem d_Me_read_16 : decode b_Me_read 16 = .ok (.ifCond .lt 30, 3) := by decide +kernel
theorem d_Me_read_19 : decode b_Me_read 19 = .ok (.iload 4, 2) := by decide +kernel
theorem d_Me_read_21 : decode b_Me_read 21 = .ok (.bipush 8, 2) := by decide +kernel
theorem d_Me_read_23 : decode b_Me_read 23 = .ok (.ishl, 1) := by decide +kernel
theorem d_Me_read_24 : decode b_Me_read 24 = .ok (.aload_n 0, 1) := by decide +kernel
theorem d_Me_read_25 : decode b_Me_read 25 = .ok (.getfield 19, 3) := by decide +kernel
theorem d_Me_read_28 : decode b_Me_read 28 = .ok (.iload_n 3, 1) := by decide +kernel
theorem d_Me_read_29 : decode b_Me_read 29 = .ok (.iload 5, 2) := by decide +kernel
theorem d_Me_read_31 : decode b_Me_read 31 = .ok (.iadd, 1) := by decide +kernel
theorem d_Me_read_32 : decode b_Me_read 32 = .ok (.baload, 1) := by decide +kernel
theorem d_Me_read_33 : decode b_Me_read 33 = .ok (.sipush 255, 3) := by decide +kernel
theorem d_Me_read_36 : decode b_Me_read 36 = .ok (.iand, 1) := by decide +kernel
theorem d_Me_read_37 : decode b_Me_read 37 = .ok (.ior, 1) := by decide +kernel
theorem d_Me_read_38 : decode b_Me_read 38 = .ok (.istore 4, 2) := by decide +kernel
theorem d_Me_read_40 : decode b_Me_read 40 = .ok (.iinc 5 (-1), 3) := by decide +kernel
theorem d_Me_read_43 : decode b_Me_read 43 = .ok (.goto (-29), 3) := by decide +kernel
theorem d_Me_read_46 : decode b_Me_read 46 = .ok (.iload 4, 2) := by decide +kernel
theorem d_Me_read_48 : decode b_Me_read 48 = .ok (.ireturn, 1) := by decide +kernel
theorem d_Me_write_0 : decode b_Me_write 0 = .ok (.aload_n 0, 1) := by decide +kernel
theorem d_Me_write_1 : decode b_Me_write 1 = .ok (.iload_n 1, 1) := by decide +kernel
theorem d_Me_write_2 : decode b_Me_write 2 = .ok (.invokevirtual 91, 3) := by decide +kernel
theorem d_Me_write_5 : decode b_Me_write 5 = .ok (.istore 4, 2) := by decide +kernel
theorem d_Me_write_7 : decode b_Me_write 7 = .ok (.iconst 0, 1) := by decide +kernel
theorem d_Me_write_8 : decode b_Me_write 8 = .ok (.istore 5, 2) := by decide +kernel
theorem d_Me_write_10 : decode b_Me_write 10 = .ok (.iload 5, 2) := by decide +kernel
theorem d_Me_write_12 : decode b_Me_write 12 = .ok (.iload_n 2, 1) := by decide +kernel
theorem d_Me_write_13 : decode b_Me_write 13 = .ok (.if_icmp .ge 27, 3) := by decide +kernel
theorem d_Me_write_16 : decode b_Me_write 16 = .ok (.aload_n 0, 1) := by decide +kernel
theorem d_Me_write_17 : decode b_Me_write 17 = .ok (.getfield 19, 3) := by decide +kernel
theorem d_Me_write_20 : decode b_Me_write 20 = .ok (.iload 4, 2) := by decide +kernel
theorem d_Me_write_22 : decode b_Me_write 22 = .ok (.iload 5, 2) := by decide +kernel
theorem d_Me_write_24 : decode b_Me_write 24 = .ok (.iadd, 1) := by decide +kernel
theorem d_Me_write_25 : decode b_Me_write 25 = .ok (.iload_n 3, 1) := by decide +kernel
theorem d_Me_write_26 : decode b_Me_write 26 = .ok (.bipush 8, 2) := by decide +kernel
theorem d_Me_write_28 : decode b_Me_write 28 = .ok (.iload 5, 2) := by decide +kernel
theorem d_Me_write_30 : decode b_Me_write 30 = .ok (.imul, 1) := by decide +kernel
theorem d_Me_write_31 : decode b_Me_write 31 = .ok (.ishr, 1) := by decide +kernel
theorem d_Me_write_32 : decode b_Me_write 32 = .ok (.i2b, 1) := by decide +kernel
theorem d_Me_write_33 : decode b_Me_write 33 = .ok (.bastore, 1) := by decide +kernel
theorem d_Me_write_34 : decode b_Me_write 34 = .ok (.iinc 5 1, 3) := by decide +kernel
theorem d_Me_write_37 : decode b_Me_write 37 = .ok (.goto (-27), 3) := by decide +kernel
theorem d_Me_write_40 : decode b_Me_write 40 = .ok (.return_, 1) := by decide +kernel
theorem d_Me_copy_0 : decode b_Me_copy 0 = .ok (.aload_n 0, 1) := by decide +kernel
theorem d_Me_copy_1 : decode b_Me_copy 1 = .ok (.getfield 19, 3) := by decide +kernel
theorem d_Me_copy_4 : decode b_Me_copy 4 = .ok (.aload_n 0, 1) := by decide +kernel
theorem d_Me_copy_5 : decode b_Me_copy 5 = .ok (.iload_n 2, 1) := by decide +kernel
theorem d_Me_copy_6 : decode b_Me_copy 6 = .ok (.invokevirtual 91, 3) := by decide +kernel
theorem d_Me_copy_9 : decode b_Me_copy 9 = .ok (.aload_n 0, 1) := by decide +kernel
theorem d_Me_copy_10 : decode b_Me_copy 10 = .ok (.getfield 19, 3) := by decide +kernel
theorem d_Me_copy_13 : decode b_Me_copy 13 = .ok (.aload_n 0, 1) := by decide +kernel
theorem d_Me_copy_14 : decode b_Me_copy 14 = .ok (.iload_n 1, 1) := by decide +kernel
theorem d_Me_copy_15 : decode b_Me_copy 15 = .ok (.invokevirtual 91, 3) := by decide +kernel
theorem d_Me_copy_18 : decode b_Me_copy 18 = .ok (.iload_n 3, 1) := by decide +kernel
theorem d_Me_copy_19 : decode b_Me_copy 19 = .ok (.invokestatic 54, 3) := by decide +kernel
theorem d_Me_copy_22 : decode b_Me_copy 22 = .ok (.return_, 1) := by decide +kernel
theorem d_Me_forgetAll_0 : decode b_Me_forgetAll 0 = .ok (.aload_n 0, 1) := by decide +kernel
theorem d_Me_forgetAll_1 : decode b_Me_forgetAll 1 = .ok (.iconst 0, 1) := by decide +kernel
theorem d_Me_forgetAll_2 : decode b_Me_forgetAll 2 = .ok (.putfield 26, 3) := by decide +kernel
theorem d_Me_forgetAll_5 : decode b_Me_forgetAll 5 = .ok (.aload_n 0, 1) := by decide +kernel
theorem d_Me_forgetAll_6 : decode b_Me_forgetAll 6 = .ok (.iconst 0, 1) := by decide +kernel
theorem d_Me_forgetAll_7 : decode b_Me_forgetAll 7 = .ok (.putfield 30, 3) := by decide +kernel
theorem d_Me_forgetAll_10 : decode b_Me_forgetAll 10 = .ok (.aload_n 0, 1) := by decide +kernel
theorem d_Me_forgetAll_11 : decode b_Me_forgetAll 11 = .ok (.iconst 0, 1) := by decide +kernel
theorem d_Me_forgetAll_12 : decode b_Me_forgetAll 12 = .ok (.putfield 33, 3) := by decide +kernel
theorem d_Me_forgetAll_15 : decode b_Me_forgetAll 15 = .ok (.aload_n 0, 1) := by decide +kernel
theorem d_Me_forgetAll_16 : decode b_Me_forgetAll 16 = .ok (.iconst 0, 1) := by decide +kernel
theorem d_Me_forgetAll_17 : decode b_Me_forgetAll 17 = .ok (.putfield 36, 3) := by decide +kernel
theorem d_Me_forgetAll_20 : decode b_Me_forgetAll 20 = .ok (.aload_n 0, 1) := by decide +kernel
theorem d_Me_forgetAll_21 : decode b_Me_forgetAll 21 = .ok (.iconst 0, 1) := by decide +kernel
theorem d_Me_forgetAll_22 : decode b_Me_forgetAll 22 = .ok (.putfield 39, 3) := by decide +kernel
theorem d_Me_forgetAll_25 : decode b_Me_forgetAll 25 = .ok (.return_, 1) := by decide +kernel

def sp_Me_isThere (n0 : Int32) (md : Nat) (sf : Nat → Int32) : Int32 := if n0 < 1 then 0 else if (nI md) < n0 then 0 else if (sf n0.toNatClampNeg) = (-1) then 0 else 1
set_option maxHeartbeats 4000000 in
theorem c_Me_isThere (l : Launch) (D : va_G) (cI cB cJ : ClassId) (sz : Nat) (n0 : Int32) (h0 : Nat) (md : Nat) (bt : Nat) (lo : Nat) (nl : Nat) (sa : Nat) (ta : Nat) (fa : Nat) (pa : Nat) (pe : Nat) (ba : Nat) (rn : Nat) (sf : Nat → Int32) (hrn : md < rn) (hrm : rn ≤ 8001) : zMet l y_Me_isThere (zWs y_Me_isThere b_Me_isThere 2 (some .boolean)) { frames := 0, cells := 0, slots := 0, locals := 0 } (zPc D (zT cI cB cJ) sz [(h0, .inr (1, [.int (nI md), .int (nI bt), .int (nI lo), .int (nI nl), .ref sa, .ref ta, .ref fa, .ref pa, .int (nI pe), .ref ba])), (sa, .inl (cI, rn, .inl (sf)))] [.ref h0, .int n0]) (zQi D (va_A [(h0, .inr (1, [.int (nI md), .int (nI bt), .int (nI lo), .int (nI nl), .ref sa, .ref ta, .ref fa, .ref pa, .int (nI pe), .ref ba])), (sa, .inl (cI, rn, .inl (sf)))] sz) (fun r (_ : Unit) => r = (sp_Me_isThere n0 md sf)) (z0) (fun _ => [(h0, .inr (1, [.int (nI md), .int (nI bt), .int (nI lo), .int (nI nl), .ref sa, .ref ta, .ref fa, .ref pa, .int (nI pe), .ref ba])), (sa, .inl (cI, rn, .inl (sf)))])) (va_A [(h0, .inr (1, [.int (nI md), .int (nI bt), .int (nI lo), .int (nI nl), .ref sa, .ref ta, .ref fa, .ref pa, .int (nI pe), .ref ba])), (sa, .inl (cI, rn, .inl (sf)))] sz) := by
  refine zstart (Qc := fun A => zQi D A (fun r (_ : Unit) => r = (sp_Me_isThere n0 md sf)) (z0) (fun _ => [(h0, .inr (1, [.int (nI md), .int (nI bt), .int (nI lo), .int (nI nl), .ref sa, .ref ta, .ref fa, .ref pa, .int (nI pe), .ref ba])), (sa, .inl (cI, rn, .inl (sf)))])) (by decide) (Nat.le_of_ble_eq_true rfl) ?_
  intro p e s m below meth c ls A hE hr hlocks hin hsz hK hP hD hS hA hAe hl
  have hx := hE.1
  have hb := hE.2.1
  have hown := hE.2.2.2.1
  have hw := hE.2.2.2.2
  have hl : lv_has ls 2 [(0, .ref h0), (1, .int n0)] := hl
  refine lv_iload_n hx hb d_Me_isThere_0 rfl (lv_at hl 1 rfl) ?_
  refine lv_iconst (v := 1) hx hb d_Me_isThere_1 (by decide) ?_
  refine lv_icmp_lt (tgt := 27) hx hb d_Me_isThere_2 (by decide) (fun h1 => ?_) (fun h1 => ?_)
  · refine lv_iconst (v := 0) hx hb d_Me_isThere_27 (by decide) ?_
    have hs : (sp_Me_isThere n0 md sf) = 0 := by rw [sp_Me_isThere, if_pos h1]
    have hP9 := hP.sub (ws' := [(h0, .inr (1, [.int (nI md), .int (nI bt), .int (nI lo), .int (nI nl), .ref sa, .ref ta, .ref fa, .ref pa, .int (nI pe), .ref ba])), (sa, .inl (cI, rn, .inl (sf)))]) [0, 1] rfl
    have hD9 := hD.sub (ws' := [(h0, .inr (1, [.int (nI md), .int (nI bt), .int (nI lo), .int (nI nl), .ref sa, .ref ta, .ref fa, .ref pa, .int (nI pe), .ref ba])), (sa, .inl (cI, rn, .inl (sf)))]) [0, 1] rfl rfl
    exact zreti hx hb hr rfl hlocks hS () (by rw [hs]) rfl (by exact hP9) (by exact hD9) d_Me_isThere_28
  · refine lv_iload_n hx hb d_Me_isThere_5 rfl (lv_at hl 1 rfl) ?_
    refine lv_aload_n hx hb d_Me_isThere_6 rfl (lv_at hl 0 rfl) ?_
    refine zget hE hK hP 0 rfl fd_Me_26 rfl d_Me_isThere_7 ?_
    refine lv_icmp_gt (tgt := 27) hx hb d_Me_isThere_10 (by decide) (fun h2 => ?_) (fun h2 => ?_)
    · refine lv_iconst (v := 0) hx hb d_Me_isThere_27 (by decide) ?_
      have hs : (sp_Me_isThere n0 md sf) = 0 := by rw [sp_Me_isThere, if_neg h1, if_pos h2]
      have hP9 := hP.sub (ws' := [(h0, .inr (1, [.int (nI md), .int (nI bt), .int (nI lo), .int (nI nl), .ref sa, .ref ta, .ref fa, .ref pa, .int (nI pe), .ref ba])), (sa, .inl (cI, rn, .inl (sf)))]) [0, 1] rfl
      have hD9 := hD.sub (ws' := [(h0, .inr (1, [.int (nI md), .int (nI bt), .int (nI lo), .int (nI nl), .ref sa, .ref ta, .ref fa, .ref pa, .int (nI pe), .ref ba])), (sa, .inl (cI, rn, .inl (sf)))]) [0, 1] rfl rfl
      exact zreti hx hb hr rfl hlocks hS () (by rw [hs]) rfl (by exact hP9) (by exact hD9) d_Me_isThere_28
    · refine lv_aload_n hx hb d_Me_isThere_13 rfl (lv_at hl 0 rfl) ?_
      refine zget hE hK hP 0 rfl fd_Me_9 rfl d_Me_isThere_14 ?_
      refine lv_iload_n hx hb d_Me_isThere_17 rfl (lv_at hl 1 rfl) ?_
      refine va_iald hx hb hK hP 1 0 rfl rfl (z_in (by have q1 := z_nlt h1; have q2 := z_nlt h2; have k1 : ((1) : Int32).toInt = 1 := (by decide); have ni0 : (nI md).toInt = ((md : Nat) : Int) := nI_toInt (by omega); omega)) d_Me_isThere_18 ?_
      refine lv_iconst (v := (-1)) hx hb d_Me_isThere_19 (by decide) ?_
      refine lv_icmp_eq (tgt := 27) hx hb d_Me_isThere_20 (by decide) (fun h3 => ?_) (fun h3 => ?_)
      · refine lv_iconst (v := 0) hx hb d_Me_isThere_27 (by decide) ?_
        have hs : (sp_Me_isThere n0 md sf) = 0 := by rw [sp_Me_isThere, if_neg h1, if_neg h2, if_pos h3]
        have hP9 := hP.sub (ws' := [(h0, .inr (1, [.int (nI md), .int (nI bt), .int (nI lo), .int (nI nl), .ref sa, .ref ta, .ref fa, .ref pa, .int (nI pe), .ref ba])), (sa, .inl (cI, rn, .inl (sf)))]) [0, 1] rfl
        have hD9 := hD.sub (ws' := [(h0, .inr (1, [.int (nI md), .int (nI bt), .int (nI lo), .int (nI nl), .ref sa, .ref ta, .ref fa, .ref pa, .int (nI pe), .ref ba])), (sa, .inl (cI, rn, .inl (sf)))]) [0, 1] rfl rfl
        exact zreti hx hb hr rfl hlocks hS () (by rw [hs]) rfl (by exact hP9) (by exact hD9) d_Me_isThere_28
      · refine lv_iconst (v := 1) hx hb d_Me_isThere_23 (by decide) ?_
        refine lv_goto (tgt := 28) hx hb d_Me_isThere_24 (by decide) ?_
        have hs : (sp_Me_isThere n0 md sf) = 1 := by rw [sp_Me_isThere, if_neg h1, if_neg h2, if_neg h3]
        have hP9 := hP.sub (ws' := [(h0, .inr (1, [.int (nI md), .int (nI bt), .int (nI lo), .int (nI nl), .ref sa, .ref ta, .ref fa, .ref pa, .int (nI pe), .ref ba])), (sa, .inl (cI, rn, .inl (sf)))]) [0, 1] rfl
        have hD9 := hD.sub (ws' := [(h0, .inr (1, [.int (nI md), .int (nI bt), .int (nI lo), .int (nI nl), .ref sa, .ref ta, .ref fa, .ref pa, .int (nI pe), .ref ba])), (sa, .inl (cI, rn, .inl (sf)))]) [0, 1] rfl rfl
        exact zreti hx hb hr rfl hlocks hS () (by rw [hs]) rfl (by exact hP9) (by exact hD9) d_Me_isThere_28

theorem zthere {n : Int32} {md rn : Nat} {sf : Nat → Int32} (h : ¬ sp_Me_isThere n md sf = 0) (hrn : md < rn) (hrm : rn ≤ 8001) : 0 ≤ n.toInt ∧ n.toInt < rn := by
  unfold sp_Me_isThere at h
  by_cases h1 : n < 1
  · rw [if_pos h1] at h
    exact absurd rfl h
  · rw [if_neg h1] at h
    by_cases h2 : nI md < n
    · rw [if_pos h2] at h
      exact absurd rfl h
    · have q1 := z_nlt h1
      have q2 := z_nlt h2
      rw [nI_toInt (by omega)] at q2
      have k1 : (1 : Int32).toInt = 1 := by decide
      omega

def sp_Me_holds (ad : Int32) (n0 : Int32) (md : Nat) (sf : Nat → Int32) : Int32 := if (sp_Me_isThere (zushr ad 16) md sf) = 0 then 0 else if (sf (zushr ad 16).toNatClampNeg) < ((ad &&& 65535) + n0) then 0 else 1
set_option maxHeartbeats 4000000 in
theorem c_Me_holds (l : Launch) (D : va_G) (cI cB cJ : ClassId) (sz : Nat) (ad : Int32) (n0 : Int32) (h0 : Nat) (md : Nat) (bt : Nat) (lo : Nat) (nl : Nat) (sa : Nat) (ta : Nat) (fa : Nat) (pa : Nat) (pe : Nat) (ba : Nat) (rn : Nat) (sf : Nat → Int32) (hrn : md < rn) (hrm : rn ≤ 8001) : zMet l y_Me_holds (zWs y_Me_holds b_Me_holds 4 (some .boolean)) { frames := 1, cells := 0, slots := 0, locals := 21 } (zPc D (zT cI cB cJ) sz [(h0, .inr (1, [.int (nI md), .int (nI bt), .int (nI lo), .int (nI nl), .ref sa, .ref ta, .ref fa, .ref pa, .int (nI pe), .ref ba])), (sa, .inl (cI, rn, .inl (sf)))] [.ref h0, .int ad, .int n0]) (zQi D (va_A [(h0, .inr (1, [.int (nI md), .int (nI bt), .int (nI lo), .int (nI nl), .ref sa, .ref ta, .ref fa, .ref pa, .int (nI pe), .ref ba])), (sa, .inl (cI, rn, .inl (sf)))] sz) (fun r (_ : Unit) => r = (sp_Me_holds ad n0 md sf)) (z0) (fun _ => [(h0, .inr (1, [.int (nI md), .int (nI bt), .int (nI lo), .int (nI nl), .ref sa, .ref ta, .ref fa, .ref pa, .int (nI pe), .ref ba])), (sa, .inl (cI, rn, .inl (sf)))])) (va_A [(h0, .inr (1, [.int (nI md), .int (nI bt), .int (nI lo), .int (nI nl), .ref sa, .ref ta, .ref fa, .ref pa, .int (nI pe), .ref ba])), (sa, .inl (cI, rn, .inl (sf)))] sz) := by
  refine zstart (Qc := fun A => zQi D A (fun r (_ : Unit) => r = (sp_Me_holds ad n0 md sf)) (z0) (fun _ => [(h0, .inr (1, [.int (nI md), .int (nI bt), .int (nI lo), .int (nI nl), .ref sa, .ref ta, .ref fa, .ref pa, .int (nI pe), .ref ba])), (sa, .inl (cI, rn, .inl (sf)))])) (by decide) (Nat.le_of_ble_eq_true rfl) ?_
  intro p e s m below meth c ls A hE hr hlocks hin hsz hK hP hD hS hA hAe hl
  have hx := hE.1
  have hb := hE.2.1
  have hown := hE.2.2.2.1
  have hw := hE.2.2.2.2
  have hl : lv_has ls 4 [(0, .ref h0), (1, .int ad), (2, .int n0)] := hl
  refine lv_iload_n hx hb d_Me_holds_0 rfl (lv_at hl 1 rfl) ?_
  refine lv_bipush (v := 16) hx hb d_Me_holds_1 (by decide) ?_
  refine lv_iushr (v := zushr ad 16) hx hb d_Me_holds_3 rfl ?_
  refine lv_istore_n (lv' := [(3, .int (zushr ad 16)), (0, .ref h0), (1, .int ad), (2, .int n0)]) hx hb d_Me_holds_4 rfl hl (by decide) rfl (fun ls hl => ?_)
  refine lv_aload_n hx hb d_Me_holds_5 rfl (lv_at hl 1 rfl) ?_
  refine lv_iload_n hx hb d_Me_holds_6 rfl (lv_at hl 0 rfl) ?_
  refine zgoi (wr := []) (zrunV (n := 1) (As := [.int (zushr ad 16)]) (rest := []) hE (c_Me_isThere l D cI cB cJ _ (zushr ad 16) h0 md bt lo nl sa ta fa pa pe ba rn sf hrn hrm) cb_Me_isThere lk_Me_83 in_Me_isThere se_Me_isThere (zpreV (q0 := 0) hK hP hD rfl rfl rfl [0, 1] rfl rfl rfl) ⟨Nat.le_of_ble_eq_true rfl, Nat.le_of_ble_eq_true rfl, Nat.le_of_ble_eq_true rfl, Nat.le_of_ble_eq_true rfl⟩ rfl hl.1 rfl (Nat.le_of_ble_eq_true rfl) d_Me_holds_7) hP hD hS hA [0, 1] [] rfl rfl rfl (by decide) (fun r u H locs hq1 hP hD hS => ?_)
  subst hq1
  have hP : va_P D zC [(h0, .inr (1, [.int (nI md), .int (nI bt), .int (nI lo), .int (nI nl), .ref sa, .ref ta, .ref fa, .ref pa, .int (nI pe), .ref ba])), (sa, .inl (cI, rn, .inl (sf)))] H := hP
  have hD : va_D A [(h0, .inr (1, [.int (nI md), .int (nI bt), .int (nI lo), .int (nI nl), .ref sa, .ref ta, .ref fa, .ref pa, .int (nI pe), .ref ba])), (sa, .inl (cI, rn, .inl (sf)))] := hD
  refine lv_if_eq (tgt := 32) hx hb d_Me_holds_10 (by decide) (fun h2 => ?_) (fun h2 => ?_)
  · refine lv_iconst (v := 0) hx hb d_Me_holds_32 (by decide) ?_
    have hs : (sp_Me_holds ad n0 md sf) = 0 := by rw [sp_Me_holds, if_pos h2]
    have hP9 := hP.sub (ws' := [(h0, .inr (1, [.int (nI md), .int (nI bt), .int (nI lo), .int (nI nl), .ref sa, .ref ta, .ref fa, .ref pa, .int (nI pe), .ref ba])), (sa, .inl (cI, rn, .inl (sf)))]) [0, 1] rfl
    have hD9 := hD.sub (ws' := [(h0, .inr (1, [.int (nI md), .int (nI bt), .int (nI lo), .int (nI nl), .ref sa, .ref ta, .ref fa, .ref pa, .int (nI pe), .ref ba])), (sa, .inl (cI, rn, .inl (sf)))]) [0, 1] rfl rfl
    exact zreti hx hb hr rfl hlocks hS () (by rw [hs]) rfl (by exact hP9) (by exact hD9) d_Me_holds_33
  · refine lv_iload_n hx hb d_Me_holds_13 rfl (lv_at hl 2 rfl) ?_
    refine lv_ldc (v := 65535) hx hb hown (hw _ kc_Me_82) d_Me_holds_14 ?_
    refine lv_iand hx hb d_Me_holds_16 ?_
    refine lv_iload_n hx hb d_Me_holds_17 rfl (lv_at hl 3 rfl) ?_
    refine lv_iadd hx hb d_Me_holds_18 ?_
    refine lv_aload_n hx hb d_Me_holds_19 rfl (lv_at hl 1 rfl) ?_
    refine zget hE hK hP 0 rfl fd_Me_9 rfl d_Me_holds_20 ?_
    refine lv_iload_n hx hb d_Me_holds_23 rfl (lv_at hl 0 rfl) ?_
    refine va_iald hx hb hK hP 1 0 rfl rfl (z_in (zthere h2 hrn hrm)) d_Me_holds_24 ?_
    refine lv_icmp_gt (tgt := 32) hx hb d_Me_holds_25 (by decide) (fun h3 => ?_) (fun h3 => ?_)
    · refine lv_iconst (v := 0) hx hb d_Me_holds_32 (by decide) ?_
      have hs : (sp_Me_holds ad n0 md sf) = 0 := by rw [sp_Me_holds, if_neg h2, if_pos h3]
      have hP9 := hP.sub (ws' := [(h0, .inr (1, [.int (nI md), .int (nI bt), .int (nI lo), .int (nI nl), .ref sa, .ref ta, .ref fa, .ref pa, .int (nI pe), .ref ba])), (sa, .inl (cI, rn, .inl (sf)))]) [0, 1] rfl
      have hD9 := hD.sub (ws' := [(h0, .inr (1, [.int (nI md), .int (nI bt), .int (nI lo), .int (nI nl), .ref sa, .ref ta, .ref fa, .ref pa, .int (nI pe), .ref ba])), (sa, .inl (cI, rn, .inl (sf)))]) [0, 1] rfl rfl
      exact zreti hx hb hr rfl hlocks hS () (by rw [hs]) rfl (by exact hP9) (by exact hD9) d_Me_holds_33
    · refine lv_iconst (v := 1) hx hb d_Me_holds_28 (by decide) ?_
      refine lv_goto (tgt := 33) hx hb d_Me_holds_29 (by decide) ?_
      have hs : (sp_Me_holds ad n0 md sf) = 1 := by rw [sp_Me_holds, if_neg h2, if_neg h3]
      have hP9 := hP.sub (ws' := [(h0, .inr (1, [.int (nI md), .int (nI bt), .int (nI lo), .int (nI nl), .ref sa, .ref ta, .ref fa, .ref pa, .int (nI pe), .ref ba])), (sa, .inl (cI, rn, .inl (sf)))]) [0, 1] rfl
      have hD9 := hD.sub (ws' := [(h0, .inr (1, [.int (nI md), .int (nI bt), .int (nI lo), .int (nI nl), .ref sa, .ref ta, .ref fa, .ref pa, .int (nI pe), .ref ba])), (sa, .inl (cI, rn, .inl (sf)))]) [0, 1] rfl rfl
      exact zreti hx hb hr rfl hlocks hS () (by rw [hs]) rfl (by exact hP9) (by exact hD9) d_Me_holds_33

def sp_Me_holdsAligned (ad : Int32) (n0 : Int32) (md : Nat) (sf : Nat → Int32) : Int32 := if (ad &&& (n0 - 1)) = 0 then
  if (sp_Me_holds ad n0 md sf) = 0 then 0 else 1
else 0
set_option maxHeartbeats 4000000 in
theorem c_Me_holdsAligned (l : Launch) (D : va_G) (cI cB cJ : ClassId) (sz : Nat) (ad : Int32) (n0 : Int32) (h0 : Nat) (md : Nat) (bt : Nat) (lo : Nat) (nl : Nat) (sa : Nat) (ta : Nat) (fa : Nat) (pa : Nat) (pe : Nat) (ba : Nat) (rn : Nat) (sf : Nat → Int32) (hrn : md < rn) (hrm : rn ≤ 8001) : zMet l y_Me_holdsAligned (zWs y_Me_holdsAligned b_Me_holdsAligned 3 (some .boolean)) { frames := 2, cells := 0, slots := 0, locals := 44 } (zPc D (zT cI cB cJ) sz [(h0, .inr (1, [.int (nI md), .int (nI bt), .int (nI lo), .int (nI nl), .ref sa, .ref ta, .ref fa, .ref pa, .int (nI pe), .ref ba])), (sa, .inl (cI, rn, .inl (sf)))] [.ref h0, .int ad, .int n0]) (zQi D (va_A [(h0, .inr (1, [.int (nI md), .int (nI bt), .int (nI lo), .int (nI nl), .ref sa, .ref ta, .ref fa, .ref pa, .int (nI pe), .ref ba])), (sa, .inl (cI, rn, .inl (sf)))] sz) (fun r (_ : Unit) => r = (sp_Me_holdsAligned ad n0 md sf)) (z0) (fun _ => [(h0, .inr (1, [.int (nI md), .int (nI bt), .int (nI lo), .int (nI nl), .ref sa, .ref ta, .ref fa, .ref pa, .int (nI pe), .ref ba])), (sa, .inl (cI, rn, .inl (sf)))])) (va_A [(h0, .inr (1, [.int (nI md), .int (nI bt), .int (nI lo), .int (nI nl), .ref sa, .ref ta, .ref fa, .ref pa, .int (nI pe), .ref ba])), (sa, .inl (cI, rn, .inl (sf)))] sz) := by
  refine zstart (Qc := fun A => zQi D A (fun r (_ : Unit) => r = (sp_Me_holdsAligned ad n0 md sf)) (z0) (fun _ => [(h0, .inr (1, [.int (nI md), .int (nI bt), .int (nI lo), .int (nI nl), .ref sa, .ref ta, .ref fa, .ref pa, .int (nI pe), .ref ba])), (sa, .inl (cI, rn, .inl (sf)))])) (by decide) (Nat.le_of_ble_eq_true rfl) ?_
  intro p e s m below meth c ls A hE hr hlocks hin hsz hK hP hD hS hA hAe hl
  have hx := hE.1
  have hb := hE.2.1
  have hown := hE.2.2.2.1
  have hw := hE.2.2.2.2
  have hl : lv_has ls 3 [(0, .ref h0), (1, .int ad), (2, .int n0)] := hl
  refine lv_iload_n hx hb d_Me_holdsAligned_0 rfl (lv_at hl 1 rfl) ?_
  refine lv_iload_n hx hb d_Me_holdsAligned_1 rfl (lv_at hl 2 rfl) ?_
  refine lv_iconst (v := 1) hx hb d_Me_holdsAligned_2 (by decide) ?_
  refine lv_isub hx hb d_Me_holdsAligned_3 ?_
  refine lv_iand hx hb d_Me_holdsAligned_4 ?_
  refine lv_if_ne (tgt := 21) hx hb d_Me_holdsAligned_5 (by decide) (fun h1 => ?_) (fun h1 => ?_)
  · refine lv_iconst (v := 0) hx hb d_Me_holdsAligned_21 (by decide) ?_
    have hs : (sp_Me_holdsAligned ad n0 md sf) = 0 := by rw [sp_Me_holdsAligned, if_neg h1]
    have hP9 := hP.sub (ws' := [(h0, .inr (1, [.int (nI md), .int (nI bt), .int (nI lo), .int (nI nl), .ref sa, .ref ta, .ref fa, .ref pa, .int (nI pe), .ref ba])), (sa, .inl (cI, rn, .inl (sf)))]) [0, 1] rfl
    have hD9 := hD.sub (ws' := [(h0, .inr (1, [.int (nI md), .int (nI bt), .int (nI lo), .int (nI nl), .ref sa, .ref ta, .ref fa, .ref pa, .int (nI pe), .ref ba])), (sa, .inl (cI, rn, .inl (sf)))]) [0, 1] rfl rfl
    exact zreti hx hb hr rfl hlocks hS () (by rw [hs]) rfl (by exact hP9) (by exact hD9) d_Me_holdsAligned_22
  · refine lv_aload_n hx hb d_Me_holdsAligned_8 rfl (lv_at hl 0 rfl) ?_
    refine lv_iload_n hx hb d_Me_holdsAligned_9 rfl (lv_at hl 1 rfl) ?_
    refine lv_iload_n hx hb d_Me_holdsAligned_10 rfl (lv_at hl 2 rfl) ?_
    refine zgoi (wr := []) (zrunV (n := 2) (As := [.int ad, .int n0]) (rest := []) hE (c_Me_holds l D cI cB cJ _ ad n0 h0 md bt lo nl sa ta fa pa pe ba rn sf hrn hrm) cb_Me_holds lk_Me_87 in_Me_holds se_Me_holds (zpreV (q0 := 0) hK hP hD rfl rfl rfl [0, 1] rfl rfl rfl) ⟨Nat.le_of_ble_eq_true rfl, Nat.le_of_ble_eq_true rfl, Nat.le_of_ble_eq_true rfl, Nat.le_of_ble_eq_true rfl⟩ rfl hl.1 rfl (Nat.le_of_ble_eq_true rfl) d_Me_holdsAligned_11) hP hD hS hA [0, 1] [] rfl rfl rfl (by decide) (fun r u H locs hq2 hP hD hS => ?_)
    subst hq2
    have hP : va_P D zC [(h0, .inr (1, [.int (nI md), .int (nI bt), .int (nI lo), .int (nI nl), .ref sa, .ref ta, .ref fa, .ref pa, .int (nI pe), .ref ba])), (sa, .inl (cI, rn, .inl (sf)))] H := hP
    have hD : va_D A [(h0, .inr (1, [.int (nI md), .int (nI bt), .int (nI lo), .int (nI nl), .ref sa, .ref ta, .ref fa, .ref pa, .int (nI pe), .ref ba])), (sa, .inl (cI, rn, .inl (sf)))] := hD
    refine lv_if_eq (tgt := 21) hx hb d_Me_holdsAligned_14 (by decide) (fun h3 => ?_) (fun h3 => ?_)
    · refine lv_iconst (v := 0) hx hb d_Me_holdsAligned_21 (by decide) ?_
      have hs : (sp_Me_holdsAligned ad n0 md sf) = 0 := by rw [sp_Me_holdsAligned, if_pos h1, if_pos h3]
      have hP9 := hP.sub (ws' := [(h0, .inr (1, [.int (nI md), .int (nI bt), .int (nI lo), .int (nI nl), .ref sa, .ref ta, .ref fa, .ref pa, .int (nI pe), .ref ba])), (sa, .inl (cI, rn, .inl (sf)))]) [0, 1] rfl
      have hD9 := hD.sub (ws' := [(h0, .inr (1, [.int (nI md), .int (nI bt), .int (nI lo), .int (nI nl), .ref sa, .ref ta, .ref fa, .ref pa, .int (nI pe), .ref ba])), (sa, .inl (cI, rn, .inl (sf)))]) [0, 1] rfl rfl
      exact zreti hx hb hr rfl hlocks hS () (by rw [hs]) rfl (by exact hP9) (by exact hD9) d_Me_holdsAligned_22
    · refine lv_iconst (v := 1) hx hb d_Me_holdsAligned_17 (by decide) ?_
      refine lv_goto (tgt := 22) hx hb d_Me_holdsAligned_18 (by decide) ?_
      have hs : (sp_Me_holdsAligned ad n0 md sf) = 1 := by rw [sp_Me_holdsAligned, if_pos h1, if_neg h3]
      have hP9 := hP.sub (ws' := [(h0, .inr (1, [.int (nI md), .int (nI bt), .int (nI lo), .int (nI nl), .ref sa, .ref ta, .ref fa, .ref pa, .int (nI pe), .ref ba])), (sa, .inl (cI, rn, .inl (sf)))]) [0, 1] rfl
      have hD9 := hD.sub (ws' := [(h0, .inr (1, [.int (nI md), .int (nI bt), .int (nI lo), .int (nI nl), .ref sa, .ref ta, .ref fa, .ref pa, .int (nI pe), .ref ba])), (sa, .inl (cI, rn, .inl (sf)))]) [0, 1] rfl rfl
      exact zreti hx hb hr rfl hlocks hS () (by rw [hs]) rfl (by exact hP9) (by exact hD9) d_Me_holdsAligned_22

def sp_Me_spot (ad : Int32) (tf : Nat → Int32) : Int32 := (tf (zushr ad 16).toNatClampNeg) + (ad &&& 65535)
set_option maxHeartbeats 4000000 in
theorem c_Me_spot (l : Launch) (D : va_G) (cI cB cJ : ClassId) (sz : Nat) (ad : Int32) (h0 : Nat) (md : Nat) (bt : Nat) (lo : Nat) (nl : Nat) (sa : Nat) (ta : Nat) (fa : Nat) (pa : Nat) (pe : Nat) (ba : Nat) (rn : Nat) (tf : Nat → Int32) (had : zN ad / 65536 < rn) (hrm : rn ≤ 8001) : zMet l y_Me_spot (zWs y_Me_spot b_Me_spot 2 (some .int)) { frames := 0, cells := 0, slots := 0, locals := 0 } (zPc D (zT cI cB cJ) sz [(h0, .inr (1, [.int (nI md), .int (nI bt), .int (nI lo), .int (nI nl), .ref sa, .ref ta, .ref fa, .ref pa, .int (nI pe), .ref ba])), (ta, .inl (cI, rn, .inl (tf)))] [.ref h0, .int ad]) (zQi D (va_A [(h0, .inr (1, [.int (nI md), .int (nI bt), .int (nI lo), .int (nI nl), .ref sa, .ref ta, .ref fa, .ref pa, .int (nI pe), .ref ba])), (ta, .inl (cI, rn, .inl (tf)))] sz) (fun r (_ : Unit) => r = (sp_Me_spot ad tf)) (z0) (fun _ => [(h0, .inr (1, [.int (nI md), .int (nI bt), .int (nI lo), .int (nI nl), .ref sa, .ref ta, .ref fa, .ref pa, .int (nI pe), .ref ba])), (ta, .inl (cI, rn, .inl (tf)))])) (va_A [(h0, .inr (1, [.int (nI md), .int (nI bt), .int (nI lo), .int (nI nl), .ref sa, .ref ta, .ref fa, .ref pa, .int (nI pe), .ref ba])), (ta, .inl (cI, rn, .inl (tf)))] sz) := by
  refine zstart (Qc := fun A => zQi D A (fun r (_ : Unit) => r = (sp_Me_spot ad tf)) (z0) (fun _ => [(h0, .inr (1, [.int (nI md), .int (nI bt), .int (nI lo), .int (nI nl), .ref sa, .ref ta, .ref fa, .ref pa, .int (nI pe), .ref ba])), (ta, .inl (cI, rn, .inl (tf)))])) (by decide) (Nat.le_of_ble_eq_true rfl) ?_
  intro p e s m below meth c ls A hE hr hlocks hin hsz hK hP hD hS hA hAe hl
  have hx := hE.1
  have hb := hE.2.1
  have hown := hE.2.2.2.1
  have hw := hE.2.2.2.2
  have hl : lv_has ls 2 [(0, .ref h0), (1, .int ad)] := hl
  refine lv_aload_n hx hb d_Me_spot_0 rfl (lv_at hl 0 rfl) ?_
  refine zget hE hK hP 0 rfl fd_Me_13 rfl d_Me_spot_1 ?_
  refine lv_iload_n hx hb d_Me_spot_4 rfl (lv_at hl 1 rfl) ?_
  refine lv_bipush (v := 16) hx hb d_Me_spot_5 (by decide) ?_
  refine lv_iushr (v := zushr ad 16) hx hb d_Me_spot_7 rfl ?_
  refine va_iald hx hb hK hP 1 0 rfl rfl (by rw [z_u16]; exact vp_in_nI had (by omega)) d_Me_spot_8 ?_
  refine lv_iload_n hx hb d_Me_spot_9 rfl (lv_at hl 1 rfl) ?_
  refine lv_ldc (v := 65535) hx hb hown (hw _ kc_Me_82) d_Me_spot_10 ?_
  refine lv_iand hx hb d_Me_spot_12 ?_
  refine lv_iadd hx hb d_Me_spot_13 ?_
  have hs : (sp_Me_spot ad tf) = (tf (zushr ad 16).toNatClampNeg) + (ad &&& 65535) := rfl
  have hP9 := hP.sub (ws' := [(h0, .inr (1, [.int (nI md), .int (nI bt), .int (nI lo), .int (nI nl), .ref sa, .ref ta, .ref fa, .ref pa, .int (nI pe), .ref ba])), (ta, .inl (cI, rn, .inl (tf)))]) [0, 1] rfl
  have hD9 := hD.sub (ws' := [(h0, .inr (1, [.int (nI md), .int (nI bt), .int (nI lo), .int (nI nl), .ref sa, .ref ta, .ref fa, .ref pa, .int (nI pe), .ref ba])), (ta, .inl (cI, rn, .inl (tf)))]) [0, 1] rfl rfl
  exact zreti hx hb hr rfl hlocks hS () (by rw [hs]) rfl (by exact hP9) (by exact hD9) d_Me_spot_14

set_option maxHeartbeats 4000000 in
theorem c_Me_read (l : Launch) (D : va_G) (cI cB cJ : ClassId) (sz : Nat) (ad : Int32) (n0 : Int32) (h0 : Nat) (md : Nat) (bt : Nat) (lo : Nat) (nl : Nat) (sa : Nat) (ta : Nat) (fa : Nat) (pa : Nat) (pe : Nat) (ba : Nat) (rn : Nat) (tf : Nat → Int32) (pn : Nat) (pf : Nat → Int32) (a0 : Nat) (k0 : Nat) (had : zN ad / 65536 < rn) (hrm : rn ≤ 8001) (hat : sp_Me_spot ad tf = nI a0) (hk : n0 = nI k0) (hak : a0 + k0 ≤ pn) (hpn : pn ≤ 80000) : zMet l y_Me_read (zWs y_Me_read b_Me_read 6 (some .int)) { frames := 1, cells := 0, slots := 0, locals := 21 } (zPc D (zT cI cB cJ) sz [(h0, .inr (1, [.int (nI md), .int (nI bt), .int (nI lo), .int (nI nl), .ref sa, .ref ta, .ref fa, .ref pa, .int (nI pe), .ref ba])), (ta, .inl (cI, rn, .inl (tf))), (pa, .inl (cB, pn, .inl (pf)))] [.ref h0, .int ad, .int n0]) (zQi D (va_A [(h0, .inr (1, [.int (nI md), .int (nI bt), .int (nI lo), .int (nI nl), .ref sa, .ref ta, .ref fa, .ref pa, .int (nI pe), .ref ba])), (ta, .inl (cI, rn, .inl (tf))), (pa, .inl (cB, pn, .inl (pf)))] sz) (fun r (_ : Unit) => r = (zrd (fun i => pf (a0 + i)) k0 0)) (z0) (fun _ => [(h0, .inr (1, [.int (nI md), .int (nI bt), .int (nI lo), .int (nI nl), .ref sa, .ref ta, .ref fa, .ref pa, .int (nI pe), .ref ba])), (ta, .inl (cI, rn, .inl (tf))), (pa, .inl (cB, pn, .inl (pf)))])) (va_A [(h0, .inr (1, [.int (nI md), .int (nI bt), .int (nI lo), .int (nI nl), .ref sa, .ref ta, .ref fa, .ref pa, .int (nI pe), .ref ba])), (ta, .inl (cI, rn, .inl (tf))), (pa, .inl (cB, pn, .inl (pf)))] sz) := by
  refine zstart (Qc := fun A => zQi D A (fun r (_ : Unit) => r = (zrd (fun i => pf (a0 + i)) k0 0)) (z0) (fun _ => [(h0, .inr (1, [.int (nI md), .int (nI bt), .int (nI lo), .int (nI nl), .ref sa, .ref ta, .ref fa, .ref pa, .int (nI pe), .ref ba])), (ta, .inl (cI, rn, .inl (tf))), (pa, .inl (cB, pn, .inl (pf)))])) (by decide) (Nat.le_of_ble_eq_true rfl) ?_
  intro p e s m below meth c ls A hE hr hlocks hin hsz hK hP hD hS hA hAe hl
  have hx := hE.1
  have hb := hE.2.1
  have hown := hE.2.2.2.1
  have hw := hE.2.2.2.2
  have hl : lv_has ls 6 [(0, .ref h0), (1, .int ad), (2, .int n0)] := hl
  refine lv_aload_n hx hb d_Me_read_0 rfl (lv_at hl 0 rfl) ?_
  refine lv_iload_n hx hb d_Me_read_1 rfl (lv_at hl 1 rfl) ?_
  refine zgoi (wr := [(pa, .inl (cB, pn, .inl (pf)))]) (zrunV (n := 1) (As := [.int ad]) (rest := []) hE (c_Me_spot l D cI cB cJ _ ad h0 md bt lo nl sa ta fa pa pe ba rn tf had hrm) cb_Me_spot lk_Me_91 in_Me_spot se_Me_spot (zpreV (q0 := 0) hK hP hD rfl rfl rfl [0, 1] rfl rfl rfl) ⟨Nat.le_of_ble_eq_true rfl, Nat.le_of_ble_eq_true rfl, Nat.le_of_ble_eq_true rfl, Nat.le_of_ble_eq_true rfl⟩ rfl hl.1 rfl (Nat.le_of_ble_eq_true rfl) d_Me_read_2) hP hD hS hA [0, 1] [2] rfl rfl rfl (by decide) (fun r u H locs hq1 hP hD hS => ?_)
  subst hq1
  have hP : va_P D zC [(pa, .inl (cB, pn, .inl (pf))), (h0, .inr (1, [.int (nI md), .int (nI bt), .int (nI lo), .int (nI nl), .ref sa, .ref ta, .ref fa, .ref pa, .int (nI pe), .ref ba])), (ta, .inl (cI, rn, .inl (tf)))] H := hP
  have hD : va_D A [(pa, .inl (cB, pn, .inl (pf))), (h0, .inr (1, [.int (nI md), .int (nI bt), .int (nI lo), .int (nI nl), .ref sa, .ref ta, .ref fa, .ref pa, .int (nI pe), .ref ba])), (ta, .inl (cI, rn, .inl (tf)))] := hD
  refine z_st (st' := [.int (nI a0)]) (by rw [show (((sp_Me_spot ad tf)) : Int32) = nI a0 from hat]) ?_
  refine lv_istore_n (lv' := [(3, .int (nI a0)), (0, .ref h0), (1, .int ad), (2, .int n0)]) hx hb d_Me_read_5 rfl hl (by decide) rfl (fun ls hl => ?_)
  refine lv_iconst (v := 0) hx hb d_Me_read_6 (by decide) ?_
  refine lv_istore (lv' := [(4, .int 0), (3, .int (nI a0)), (0, .ref h0), (1, .int ad), (2, .int n0)]) hx hb d_Me_read_7 hl (by decide) rfl (fun ls hl => ?_)
  refine lv_iload_n hx hb d_Me_read_9 rfl (lv_at hl 4 rfl) ?_
  refine lv_iconst (v := 1) hx hb d_Me_read_10 (by decide) ?_
  refine lv_isub hx hb d_Me_read_11 ?_
  refine z_st (st' := [.int (nI k0 + (-1))]) (by rw [show ((n0 - 1) : Int32) = nI k0 + (-1) from by rw [hk]; exact z_m1 _]) ?_
  refine lv_istore (lv' := [(5, .int (nI k0 + (-1))), (4, .int 0), (3, .int (nI a0)), (0, .ref h0), (1, .int ad), (2, .int n0)]) hx hb d_Me_read_12 hl (by decide) rfl (fun ls hl => ?_)
  refine zloop0 (σ := Int32) (fun j x ls => (j ≤ k0 ∧ zrd (fun i => pf (a0 + i)) j x = zrd (fun i => pf (a0 + i)) k0 0) ∧ lv_has ls 6 [(5, .int (nI j + (-1))), (4, .int x), (3, .int (nI a0)), (0, .ref h0), (1, .int ad), (2, .int n0)]) (fun j x ls hI ih => ?_) k0 0 ls ⟨⟨Nat.le_refl _, rfl⟩, hl⟩
  obtain ⟨⟨hj, hz⟩, hl⟩ := hI
  refine lv_iload hx hb d_Me_read_14 (lv_at hl 0 rfl) ?_
  refine lv_if_lt (tgt := 46) hx hb d_Me_read_16 (by decide) (fun h2 => ?_) (fun h2 => ?_)
  · refine lv_iload hx hb d_Me_read_46 (lv_at hl 1 rfl) ?_
    have j0 : j = 0 := z_pm0 (by omega) h2
    subst j0
    have hP9 := hP.sub (ws' := [(h0, .inr (1, [.int (nI md), .int (nI bt), .int (nI lo), .int (nI nl), .ref sa, .ref ta, .ref fa, .ref pa, .int (nI pe), .ref ba])), (ta, .inl (cI, rn, .inl (tf))), (pa, .inl (cB, pn, .inl (pf)))]) [1, 2, 0] rfl
    have hD9 := hD.sub (ws' := [(h0, .inr (1, [.int (nI md), .int (nI bt), .int (nI lo), .int (nI nl), .ref sa, .ref ta, .ref fa, .ref pa, .int (nI pe), .ref ba])), (ta, .inl (cI, rn, .inl (tf))), (pa, .inl (cB, pn, .inl (pf)))]) [1, 2, 0] rfl rfl
    exact zreti hx hb hr rfl hlocks hS () hz rfl hP9 hD9 d_Me_read_48
  · obtain ⟨j, rfl⟩ : ∃ q, j = q + 1 := ⟨j - 1, by have := z_pm h2; omega⟩
    rw [pk_m1] at hl
    have hl : lv_has ls 6 [(5, .int (nI j)), (4, .int x), (3, .int (nI a0)), (0, .ref h0), (1, .int ad), (2, .int n0)] := hl
    refine lv_iload hx hb d_Me_read_19 (lv_at hl 1 rfl) ?_
    refine lv_bipush (v := 8) hx hb d_Me_read_21 (by decide) ?_
    refine lv_ishl hx hb d_Me_read_23 ?_
    refine lv_aload_n hx hb d_Me_read_24 rfl (lv_at hl 3 rfl) ?_
    refine zget hE hK hP 1 rfl fd_Me_19 rfl d_Me_read_25 ?_
    refine lv_iload_n hx hb d_Me_read_28 rfl (lv_at hl 2 rfl) ?_
    refine lv_iload hx hb d_Me_read_29 (lv_at hl 0 rfl) ?_
    refine lv_iadd hx hb d_Me_read_31 ?_
    refine z_st (st' := [.int (nI (a0 + j)), .ref pa, .int ((x : Int32) <<< ((8 : Int32) &&& 31))]) (by rw [show (((nI a0) + (nI j)) : Int32) = nI (a0 + j) from nI_add a0 j]) ?_
    refine va_bald hx hb hK hP 0 1 rfl rfl (vp_in_nI (by omega) (by omega)) d_Me_read_32 ?_
    refine z_st (st' := [.int (pf (a0 + j)), .int ((x : Int32) <<< ((8 : Int32) &&& 31))]) (by rw [show ((pf (nI (a0 + j)).toNatClampNeg) : Int32) = pf (a0 + j) from by rw [nI_clamp (by omega)]]) ?_
    refine lv_sipush (v := 255) hx hb d_Me_read_33 (by decide) ?_
    refine lv_iand hx hb d_Me_read_36 ?_
    refine lv_ior hx hb d_Me_read_37 ?_
    refine lv_istore (lv' := [(4, .int (((x : Int32) <<< ((8 : Int32) &&& 31)) ||| ((pf (a0 + j)) &&& 255))), (5, .int (nI j)), (3, .int (nI a0)), (0, .ref h0), (1, .int ad), (2, .int n0)]) hx hb d_Me_read_38 hl (by decide) rfl (fun ls hl => ?_)
    refine lv_iinc (k := 1) (v := (nI j) + (-1)) (lv' := [(5, .int ((nI j) + (-1))), (4, .int (((x : Int32) <<< ((8 : Int32) &&& 31)) ||| ((pf (a0 + j)) &&& 255))), (3, .int (nI a0)), (0, .ref h0), (1, .int ad), (2, .int n0)]) hx hb d_Me_read_40 hl rfl rfl (by decide) rfl (fun ls hl => ?_)
    refine lv_goto (tgt := 14) hx hb d_Me_read_43 (by decide) ?_
    exact ih j _ ls (by omega) ⟨⟨by omega, hz⟩, hl⟩

set_option maxHeartbeats 4000000 in
theorem c_Me_write (l : Launch) (D : va_G) (cI cB cJ : ClassId) (sz : Nat) (ad : Int32) (n0 : Int32) (v : Int32) (h0 : Nat) (md : Nat) (bt : Nat) (lo : Nat) (nl : Nat) (sa : Nat) (ta : Nat) (fa : Nat) (pa : Nat) (pe : Nat) (ba : Nat) (rn : Nat) (tf : Nat → Int32) (pn : Nat) (pf : Nat → Int32) (a0 : Nat) (k0 : Nat) (had : zN ad / 65536 < rn) (hrm : rn ≤ 8001) (hat : sp_Me_spot ad tf = nI a0) (hk : n0 = nI k0) (hak : a0 + k0 ≤ pn) (hpn : pn ≤ 80000) : zMet l y_Me_write (zWs y_Me_write b_Me_write 6 (none)) { frames := 1, cells := 0, slots := 0, locals := 21 } (zPc D (zT cI cB cJ) sz [(h0, .inr (1, [.int (nI md), .int (nI bt), .int (nI lo), .int (nI nl), .ref sa, .ref ta, .ref fa, .ref pa, .int (nI pe), .ref ba])), (ta, .inl (cI, rn, .inl (tf))), (pa, .inl (cB, pn, .inl (pf)))] [.ref h0, .int ad, .int n0, .int v]) (zQv D (va_A [(h0, .inr (1, [.int (nI md), .int (nI bt), .int (nI lo), .int (nI nl), .ref sa, .ref ta, .ref fa, .ref pa, .int (nI pe), .ref ba])), (ta, .inl (cI, rn, .inl (tf))), (pa, .inl (cB, pn, .inl (pf)))] sz) (fun (_ : Unit) => True) (z0) (fun _ => [(h0, .inr (1, [.int (nI md), .int (nI bt), .int (nI lo), .int (nI nl), .ref sa, .ref ta, .ref fa, .ref pa, .int (nI pe), .ref ba])), (ta, .inl (cI, rn, .inl (tf))), (pa, .inl (cB, pn, .inl (zwt pf a0 k0 v)))])) (va_A [(h0, .inr (1, [.int (nI md), .int (nI bt), .int (nI lo), .int (nI nl), .ref sa, .ref ta, .ref fa, .ref pa, .int (nI pe), .ref ba])), (ta, .inl (cI, rn, .inl (tf))), (pa, .inl (cB, pn, .inl (pf)))] sz) := by
  refine zstart (Qc := fun A => zQv D A (fun (_ : Unit) => True) (z0) (fun _ => [(h0, .inr (1, [.int (nI md), .int (nI bt), .int (nI lo), .int (nI nl), .ref sa, .ref ta, .ref fa, .ref pa, .int (nI pe), .ref ba])), (ta, .inl (cI, rn, .inl (tf))), (pa, .inl (cB, pn, .inl (zwt pf a0 k0 v)))])) (by decide) (Nat.le_of_ble_eq_true rfl) ?_
  intro p e s m below meth c ls A hE hr hlocks hin hsz hK hP hD hS hA hAe hl
  have hx := hE.1
  have hb := hE.2.1
  have hown := hE.2.2.2.1
  have hw := hE.2.2.2.2
  have hl : lv_has ls 6 [(0, .ref h0), (1, .int ad), (2, .int n0), (3, .int v)] := hl
  refine lv_aload_n hx hb d_Me_write_0 rfl (lv_at hl 0 rfl) ?_
  refine lv_iload_n hx hb d_Me_write_1 rfl (lv_at hl 1 rfl) ?_
  refine zgoi (wr := [(pa, .inl (cB, pn, .inl (pf)))]) (zrunV (n := 1) (As := [.int ad]) (rest := []) hE (c_Me_spot l D cI cB cJ _ ad h0 md bt lo nl sa ta fa pa pe ba rn tf had hrm) cb_Me_spot lk_Me_91 in_Me_spot se_Me_spot (zpreV (q0 := 0) hK hP hD rfl rfl rfl [0, 1] rfl rfl rfl) ⟨Nat.le_of_ble_eq_true rfl, Nat.le_of_ble_eq_true rfl, Nat.le_of_ble_eq_true rfl, Nat.le_of_ble_eq_true rfl⟩ rfl hl.1 rfl (Nat.le_of_ble_eq_true rfl) d_Me_write_2) hP hD hS hA [0, 1] [2] rfl rfl rfl (by decide) (fun r u H locs hq1 hP hD hS => ?_)
  subst hq1
  have hP : va_P D zC [(pa, .inl (cB, pn, .inl (pf))), (h0, .inr (1, [.int (nI md), .int (nI bt), .int (nI lo), .int (nI nl), .ref sa, .ref ta, .ref fa, .ref pa, .int (nI pe), .ref ba])), (ta, .inl (cI, rn, .inl (tf)))] H := hP
  have hD : va_D A [(pa, .inl (cB, pn, .inl (pf))), (h0, .inr (1, [.int (nI md), .int (nI bt), .int (nI lo), .int (nI nl), .ref sa, .ref ta, .ref fa, .ref pa, .int (nI pe), .ref ba])), (ta, .inl (cI, rn, .inl (tf)))] := hD
  refine z_st (st' := [.int (nI a0)]) (by rw [show (((sp_Me_spot ad tf)) : Int32) = nI a0 from hat]) ?_
  refine lv_istore (lv' := [(4, .int (nI a0)), (0, .ref h0), (1, .int ad), (2, .int n0), (3, .int v)]) hx hb d_Me_write_5 hl (by decide) rfl (fun ls hl => ?_)
  refine lv_iconst (v := 0) hx hb d_Me_write_7 (by decide) ?_
  refine lv_istore (lv' := [(5, .int 0), (4, .int (nI a0)), (0, .ref h0), (1, .int ad), (2, .int n0), (3, .int v)]) hx hb d_Me_write_8 hl (by decide) rfl (fun ls hl => ?_)
  rw [show ((pf) : Nat → Int32) = zwt pf a0 0 v from (zwt_0 pf a0 v).symm] at hP hD
  have hP : va_P D zC [(pa, .inl (cB, pn, .inl (zwt pf a0 0 v))), (h0, .inr (1, [.int (nI md), .int (nI bt), .int (nI lo), .int (nI nl), .ref sa, .ref ta, .ref fa, .ref pa, .int (nI pe), .ref ba])), (ta, .inl (cI, rn, .inl (tf)))] H := hP
  have hD : va_D A [(pa, .inl (cB, pn, .inl (zwt pf a0 0 v))), (h0, .inr (1, [.int (nI md), .int (nI bt), .int (nI lo), .int (nI nl), .ref sa, .ref ta, .ref fa, .ref pa, .int (nI pe), .ref ba])), (ta, .inl (cI, rn, .inl (tf)))] := hD
  have hP := hP.sub (ws' := [(h0, .inr (1, [.int (nI md), .int (nI bt), .int (nI lo), .int (nI nl), .ref sa, .ref ta, .ref fa, .ref pa, .int (nI pe), .ref ba])), (ta, .inl (cI, rn, .inl (tf))), (pa, .inl (cB, pn, .inl (zwt pf a0 0 v)))]) [1, 2, 0] rfl
  have hD := hD.sub (ws' := [(h0, .inr (1, [.int (nI md), .int (nI bt), .int (nI lo), .int (nI nl), .ref sa, .ref ta, .ref fa, .ref pa, .int (nI pe), .ref ba])), (ta, .inl (cI, rn, .inl (tf))), (pa, .inl (cB, pn, .inl (zwt pf a0 0 v)))]) [1, 2, 0] rfl rfl
  refine zloopH (σ := Nat) (fun j x ls H locs cells slots => (x + j = k0 ∧ cells = 0 ∧ slots = 0) ∧ lv_has ls 6 [(5, .int (nI x)), (4, .int (nI a0)), (0, .ref h0), (1, .int ad), (2, .int n0), (3, .int v)] ∧ va_P D zC [(h0, .inr (1, [.int (nI md), .int (nI bt), .int (nI lo), .int (nI nl), .ref sa, .ref ta, .ref fa, .ref pa, .int (nI pe), .ref ba])), (ta, .inl (cI, rn, .inl (tf))), (pa, .inl (cB, pn, .inl (zwt pf a0 x v)))] H ∧ va_D A [(h0, .inr (1, [.int (nI md), .int (nI bt), .int (nI lo), .int (nI nl), .ref sa, .ref ta, .ref fa, .ref pa, .int (nI pe), .ref ba])), (ta, .inl (cI, rn, .inl (tf))), (pa, .inl (cB, pn, .inl (zwt pf a0 x v)))] ∧ va_S A s.heap H locs) (fun j x ls H locs cells slots hI ih => ?_) k0 0 ls ⟨⟨by omega, rfl, rfl⟩, hl, hP, hD, hS⟩
  obtain ⟨⟨hj, rfl, rfl⟩, hl, hP, hD, hS⟩ := hI
  refine lv_iload hx hb d_Me_write_10 (lv_at hl 0 rfl) ?_
  refine lv_iload_n hx hb d_Me_write_12 rfl (lv_at hl 4 rfl) ?_
  refine lv_icmp_ge (tgt := 40) hx hb d_Me_write_13 (by decide) (fun h2 => ?_) (fun h2 => ?_)
  · have hx0 : x = k0 := by have := z_le' (by omega) (show nI k0 ≤ nI x by rw [← hk]; exact h2); omega
    subst hx0
    have hP9 := hP.sub (ws' := [(h0, .inr (1, [.int (nI md), .int (nI bt), .int (nI lo), .int (nI nl), .ref sa, .ref ta, .ref fa, .ref pa, .int (nI pe), .ref ba])), (ta, .inl (cI, rn, .inl (tf))), (pa, .inl (cB, pn, .inl (zwt pf a0 x v)))]) [0, 1, 2] rfl
    have hD9 := hD.sub (ws' := [(h0, .inr (1, [.int (nI md), .int (nI bt), .int (nI lo), .int (nI nl), .ref sa, .ref ta, .ref fa, .ref pa, .int (nI pe), .ref ba])), (ta, .inl (cI, rn, .inl (tf))), (pa, .inl (cB, pn, .inl (zwt pf a0 x v)))]) [0, 1, 2] rfl rfl
    exact zretv hx hb hr hlocks hS () trivial rfl hP9 hD9 d_Me_write_40
  · have hlt : x < k0 := z_nle' (by omega) (by rw [← hk]; exact h2)
    refine lv_aload_n hx hb d_Me_write_16 rfl (lv_at hl 2 rfl) ?_
    refine zget hE hK hP 0 rfl fd_Me_19 rfl d_Me_write_17 ?_
    refine lv_iload hx hb d_Me_write_20 (lv_at hl 1 rfl) ?_
    refine lv_iload hx hb d_Me_write_22 (lv_at hl 0 rfl) ?_
    refine lv_iadd hx hb d_Me_write_24 ?_
    refine z_st (st' := [.int (nI (a0 + x)), .ref pa]) (by rw [show (((nI a0) + (nI x)) : Int32) = nI (a0 + x) from nI_add a0 x]) ?_
    refine lv_iload_n hx hb d_Me_write_25 rfl (lv_at hl 5 rfl) ?_
    refine lv_bipush (v := 8) hx hb d_Me_write_26 (by decide) ?_
    refine lv_iload hx hb d_Me_write_28 (lv_at hl 0 rfl) ?_
    refine lv_imul hx hb d_Me_write_30 ?_
    refine lv_ishr hx hb d_Me_write_31 ?_
    refine lv_i2b (v := ((v : Int32) >>> ((8 * (nI x) : Int32) &&& 31) : Int32).toInt8.toInt32) hx hb d_Me_write_32 rfl ?_
    refine va_bast hx hb hK hP hD hS 2 1 rfl rfl (vp_in_nI (by omega) (by omega)) d_Me_write_33 (fun H locs hP hD hS => ?_)
    have hP : va_P D zC [(h0, .inr (1, [.int (nI md), .int (nI bt), .int (nI lo), .int (nI nl), .ref sa, .ref ta, .ref fa, .ref pa, .int (nI pe), .ref ba])), (ta, .inl (cI, rn, .inl (tf))), (pa, .inl (cB, pn, .inl (upd (zwt pf a0 x v) (nI (a0 + x)).toNatClampNeg (vp_nar .byte (((v : Int32) >>> ((8 * (nI x) : Int32) &&& 31) : Int32).toInt8.toInt32)))))] H := hP
    have hD : va_D A [(h0, .inr (1, [.int (nI md), .int (nI bt), .int (nI lo), .int (nI nl), .ref sa, .ref ta, .ref fa, .ref pa, .int (nI pe), .ref ba])), (ta, .inl (cI, rn, .inl (tf))), (pa, .inl (cB, pn, .inl (upd (zwt pf a0 x v) (nI (a0 + x)).toNatClampNeg (vp_nar .byte (((v : Int32) >>> ((8 * (nI x) : Int32) &&& 31) : Int32).toInt8.toInt32)))))] := hD
    rw [show ((upd (zwt pf a0 x v) (nI (a0 + x)).toNatClampNeg (vp_nar .byte (((v : Int32) >>> ((8 * (nI x) : Int32) &&& 31) : Int32).toInt8.toInt32))) : Nat → Int32) = upd (zwt pf a0 x v) (a0 + x) ((v >>> ((8 * nI x) &&& 31)).toInt8.toInt32) from by rw [nI_clamp (by omega), pk_vb]] at hP hD
    have hP : va_P D zC [(h0, .inr (1, [.int (nI md), .int (nI bt), .int (nI lo), .int (nI nl), .ref sa, .ref ta, .ref fa, .ref pa, .int (nI pe), .ref ba])), (ta, .inl (cI, rn, .inl (tf))), (pa, .inl (cB, pn, .inl (upd (zwt pf a0 x v) (a0 + x) ((v >>> ((8 * nI x) &&& 31)).toInt8.toInt32))))] H := hP
    have hD : va_D A [(h0, .inr (1, [.int (nI md), .int (nI bt), .int (nI lo), .int (nI nl), .ref sa, .ref ta, .ref fa, .ref pa, .int (nI pe), .ref ba])), (ta, .inl (cI, rn, .inl (tf))), (pa, .inl (cB, pn, .inl (upd (zwt pf a0 x v) (a0 + x) ((v >>> ((8 * nI x) &&& 31)).toInt8.toInt32))))] := hD
    refine lv_iinc (k := 0) (v := (nI x) + 1) (lv' := [(5, .int ((nI x) + 1)), (4, .int (nI a0)), (0, .ref h0), (1, .int ad), (2, .int n0), (3, .int v)]) hx hb d_Me_write_34 hl rfl rfl (by decide) rfl (fun ls hl => ?_)
    refine lv_goto (tgt := 10) hx hb d_Me_write_37 (by decide) ?_
    rw [nI_1] at hl
    rw [show ((upd (zwt pf a0 x v) (a0 + x) ((v >>> ((8 * nI x) &&& 31)).toInt8.toInt32)) : Nat → Int32) = zwt pf a0 (x + 1) v from zwt_s pf a0 x v] at hP hD
    have hP : va_P D zC [(h0, .inr (1, [.int (nI md), .int (nI bt), .int (nI lo), .int (nI nl), .ref sa, .ref ta, .ref fa, .ref pa, .int (nI pe), .ref ba])), (ta, .inl (cI, rn, .inl (tf))), (pa, .inl (cB, pn, .inl (zwt pf a0 (x + 1) v)))] H := hP
    have hD : va_D A [(h0, .inr (1, [.int (nI md), .int (nI bt), .int (nI lo), .int (nI nl), .ref sa, .ref ta, .ref fa, .ref pa, .int (nI pe), .ref ba])), (ta, .inl (cI, rn, .inl (tf))), (pa, .inl (cB, pn, .inl (zwt pf a0 (x + 1) v)))] := hD
    exact ih (j - 1) (x + 1) ls H locs 0 0 (by omega) ⟨⟨by omega, rfl, rfl⟩, hl, hP, hD, hS⟩

set_option maxHeartbeats 4000000 in
theorem c_Me_copy (l : Launch) (D : va_G) (cI cB cJ : ClassId) (sz : Nat) (ad : Int32) (bd : Int32) (n0 : Int32) (h0 : Nat) (md : Nat) (bt : Nat) (lo : Nat) (nl : Nat) (sa : Nat) (ta : Nat) (fa : Nat) (pa : Nat) (pe : Nat) (ba : Nat) (rn : Nat) (tf : Nat → Int32) (pn : Nat) (pf : Nat → Int32) (a0 : Nat) (b0 : Nat) (k0 : Nat) (had : zN ad / 65536 < rn) (hbd : zN bd / 65536 < rn) (hrm : rn ≤ 8001) (hat : sp_Me_spot ad tf = nI a0) (hbt : sp_Me_spot bd tf = nI b0) (hk : n0 = nI k0) (hak : a0 + k0 ≤ pn) (hbk : b0 + k0 ≤ pn) (hpn : pn ≤ 80000) (hft : ∀ i, i < pn → fits .byte (.int (pf i)) = true) : zMet l y_Me_copy (zWs y_Me_copy b_Me_copy 4 (none)) { frames := 1, cells := 0, slots := 0, locals := 60 } (zPc D (zT cI cB cJ) sz [(h0, .inr (1, [.int (nI md), .int (nI bt), .int (nI lo), .int (nI nl), .ref sa, .ref ta, .ref fa, .ref pa, .int (nI pe), .ref ba])), (ta, .inl (cI, rn, .inl (tf))), (pa, .inl (cB, pn, .inl (pf)))] [.ref h0, .int ad, .int bd, .int n0]) (zQv D (va_A [(h0, .inr (1, [.int (nI md), .int (nI bt), .int (nI lo), .int (nI nl), .ref sa, .ref ta, .ref fa, .ref pa, .int (nI pe), .ref ba])), (ta, .inl (cI, rn, .inl (tf))), (pa, .inl (cB, pn, .inl (pf)))] sz) (fun (_ : Unit) => True) (z0) (fun _ => [(h0, .inr (1, [.int (nI md), .int (nI bt), .int (nI lo), .int (nI nl), .ref sa, .ref ta, .ref fa, .ref pa, .int (nI pe), .ref ba])), (ta, .inl (cI, rn, .inl (tf))), (pa, .inl (cB, pn, .inl (va_cpy pf pf b0 a0 k0)))])) (va_A [(h0, .inr (1, [.int (nI md), .int (nI bt), .int (nI lo), .int (nI nl), .ref sa, .ref ta, .ref fa, .ref pa, .int (nI pe), .ref ba])), (ta, .inl (cI, rn, .inl (tf))), (pa, .inl (cB, pn, .inl (pf)))] sz) := by
  refine zstart (Qc := fun A => zQv D A (fun (_ : Unit) => True) (z0) (fun _ => [(h0, .inr (1, [.int (nI md), .int (nI bt), .int (nI lo), .int (nI nl), .ref sa, .ref ta, .ref fa, .ref pa, .int (nI pe), .ref ba])), (ta, .inl (cI, rn, .inl (tf))), (pa, .inl (cB, pn, .inl (va_cpy pf pf b0 a0 k0)))])) (by decide) (Nat.le_of_ble_eq_true rfl) ?_
  intro p e s m below meth c ls A hE hr hlocks hin hsz hK hP hD hS hA hAe hl
  have hx := hE.1
  have hb := hE.2.1
  have hown := hE.2.2.2.1
  have hw := hE.2.2.2.2
  have hl : lv_has ls 4 [(0, .ref h0), (1, .int ad), (2, .int bd), (3, .int n0)] := hl
  refine lv_aload_n hx hb d_Me_copy_0 rfl (lv_at hl 0 rfl) ?_
  refine zget hE hK hP 0 rfl fd_Me_19 rfl d_Me_copy_1 ?_
  refine lv_aload_n hx hb d_Me_copy_4 rfl (lv_at hl 0 rfl) ?_
  refine lv_iload_n hx hb d_Me_copy_5 rfl (lv_at hl 2 rfl) ?_
  refine zgoi (wr := [(pa, .inl (cB, pn, .inl (pf)))]) (zrunV (n := 1) (As := [.int bd]) (rest := [.ref pa]) hE (c_Me_spot l D cI cB cJ _ bd h0 md bt lo nl sa ta fa pa pe ba rn tf hbd hrm) cb_Me_spot lk_Me_91 in_Me_spot se_Me_spot (zpreV (q0 := 0) hK hP hD rfl rfl rfl [0, 1] rfl rfl rfl) ⟨Nat.le_of_ble_eq_true rfl, Nat.le_of_ble_eq_true rfl, Nat.le_of_ble_eq_true rfl, Nat.le_of_ble_eq_true rfl⟩ rfl hl.1 rfl (Nat.le_of_ble_eq_true rfl) d_Me_copy_6) hP hD hS hA [0, 1] [2] rfl rfl rfl (by decide) (fun r u H locs hq1 hP hD hS => ?_)
  subst hq1
  have hP : va_P D zC [(pa, .inl (cB, pn, .inl (pf))), (h0, .inr (1, [.int (nI md), .int (nI bt), .int (nI lo), .int (nI nl), .ref sa, .ref ta, .ref fa, .ref pa, .int (nI pe), .ref ba])), (ta, .inl (cI, rn, .inl (tf)))] H := hP
  have hD : va_D A [(pa, .inl (cB, pn, .inl (pf))), (h0, .inr (1, [.int (nI md), .int (nI bt), .int (nI lo), .int (nI nl), .ref sa, .ref ta, .ref fa, .ref pa, .int (nI pe), .ref ba])), (ta, .inl (cI, rn, .inl (tf)))] := hD
  refine z_st (st' := [.int (nI b0), .ref pa]) (by rw [show (((sp_Me_spot bd tf)) : Int32) = nI b0 from hbt]) ?_
  refine lv_aload_n hx hb d_Me_copy_9 rfl (lv_at hl 0 rfl) ?_
  refine zget hE hK hP 1 rfl fd_Me_19 rfl d_Me_copy_10 ?_
  refine lv_aload_n hx hb d_Me_copy_13 rfl (lv_at hl 0 rfl) ?_
  refine lv_iload_n hx hb d_Me_copy_14 rfl (lv_at hl 1 rfl) ?_
  refine zgoi (wr := [(pa, .inl (cB, pn, .inl (pf)))]) (zrunV (n := 1) (As := [.int ad]) (rest := [.ref pa, .int (nI b0), .ref pa]) hE (c_Me_spot l D cI cB cJ _ ad h0 md bt lo nl sa ta fa pa pe ba rn tf had hrm) cb_Me_spot lk_Me_91 in_Me_spot se_Me_spot (zpreV (q0 := 1) hK hP hD rfl rfl rfl [1, 2] rfl rfl rfl) ⟨Nat.le_of_ble_eq_true rfl, Nat.le_of_ble_eq_true rfl, Nat.le_of_ble_eq_true rfl, Nat.le_of_ble_eq_true rfl⟩ rfl hl.1 rfl (Nat.le_of_ble_eq_true rfl) d_Me_copy_15) hP hD hS hA [1, 2] [0] rfl rfl rfl (by decide) (fun r u H locs hq2 hP hD hS => ?_)
  subst hq2
  have hP : va_P D zC [(pa, .inl (cB, pn, .inl (pf))), (h0, .inr (1, [.int (nI md), .int (nI bt), .int (nI lo), .int (nI nl), .ref sa, .ref ta, .ref fa, .ref pa, .int (nI pe), .ref ba])), (ta, .inl (cI, rn, .inl (tf)))] H := hP
  have hD : va_D A [(pa, .inl (cB, pn, .inl (pf))), (h0, .inr (1, [.int (nI md), .int (nI bt), .int (nI lo), .int (nI nl), .ref sa, .ref ta, .ref fa, .ref pa, .int (nI pe), .ref ba])), (ta, .inl (cI, rn, .inl (tf)))] := hD
  refine z_st (st' := [.int (nI a0), .ref pa, .int (nI b0), .ref pa]) (by rw [show (((sp_Me_spot ad tf)) : Int32) = nI a0 from hat]) ?_
  refine lv_iload_n hx hb d_Me_copy_18 rfl (lv_at hl 3 rfl) ?_
  refine z_st (st' := [.int (nI k0), .int (nI a0), .ref pa, .int (nI b0), .ref pa]) (by rw [show ((n0) : Int32) = nI k0 from hk]) ?_
  refine va_copyi (R := { frames := 1, cells := 0, slots := 0, locals := 60 }) (ty := .byte) (rest := []) hx hb (hE.2.2.1.trans hl.1.symm) hown (hw _ sl_Me) (hw _ sy_nat) (hw _ sy_st) (hw _ sy_ini) hK hP hD hS 0 0 1 1 rfl rfl rfl rfl rfl (nI_pos (n := b0) (by omega)) (nI_pos (n := a0) (by omega)) (nI_pos (n := k0) (by omega)) (by rw [nI_clamp (by omega), nI_clamp (by omega)]; omega) (by rw [nI_clamp (by omega), nI_clamp (by omega)]; omega) (fun i hi => by rw [nI_clamp (by omega)] at hi ⊢; exact hft _ (by omega)) (by exact Nat.le_of_ble_eq_true rfl) (by exact Nat.le_of_ble_eq_true rfl) d_Me_copy_19 (fun H locs hP hD hS => ?_)
  have hP : va_P D zC [(pa, .inl (cB, pn, .inl (va_cpy pf pf (nI b0).toNatClampNeg (nI a0).toNatClampNeg (nI k0).toNatClampNeg))), (h0, .inr (1, [.int (nI md), .int (nI bt), .int (nI lo), .int (nI nl), .ref sa, .ref ta, .ref fa, .ref pa, .int (nI pe), .ref ba])), (ta, .inl (cI, rn, .inl (tf)))] H := hP
  have hD : va_D A [(pa, .inl (cB, pn, .inl (va_cpy pf pf (nI b0).toNatClampNeg (nI a0).toNatClampNeg (nI k0).toNatClampNeg))), (h0, .inr (1, [.int (nI md), .int (nI bt), .int (nI lo), .int (nI nl), .ref sa, .ref ta, .ref fa, .ref pa, .int (nI pe), .ref ba])), (ta, .inl (cI, rn, .inl (tf)))] := hD
  rw [show ((va_cpy pf pf (nI b0).toNatClampNeg (nI a0).toNatClampNeg (nI k0).toNatClampNeg) : Nat → Int32) = va_cpy pf pf b0 a0 k0 from by rw [nI_clamp (by omega), nI_clamp (by omega), nI_clamp (by omega)]] at hP hD
  have hP : va_P D zC [(pa, .inl (cB, pn, .inl (va_cpy pf pf b0 a0 k0))), (h0, .inr (1, [.int (nI md), .int (nI bt), .int (nI lo), .int (nI nl), .ref sa, .ref ta, .ref fa, .ref pa, .int (nI pe), .ref ba])), (ta, .inl (cI, rn, .inl (tf)))] H := hP
  have hD : va_D A [(pa, .inl (cB, pn, .inl (va_cpy pf pf b0 a0 k0))), (h0, .inr (1, [.int (nI md), .int (nI bt), .int (nI lo), .int (nI nl), .ref sa, .ref ta, .ref fa, .ref pa, .int (nI pe), .ref ba])), (ta, .inl (cI, rn, .inl (tf)))] := hD
  have hP9 := hP.sub (ws' := [(h0, .inr (1, [.int (nI md), .int (nI bt), .int (nI lo), .int (nI nl), .ref sa, .ref ta, .ref fa, .ref pa, .int (nI pe), .ref ba])), (ta, .inl (cI, rn, .inl (tf))), (pa, .inl (cB, pn, .inl (va_cpy pf pf b0 a0 k0)))]) [1, 2, 0] rfl
  have hD9 := hD.sub (ws' := [(h0, .inr (1, [.int (nI md), .int (nI bt), .int (nI lo), .int (nI nl), .ref sa, .ref ta, .ref fa, .ref pa, .int (nI pe), .ref ba])), (ta, .inl (cI, rn, .inl (tf))), (pa, .inl (cB, pn, .inl (va_cpy pf pf b0 a0 k0)))]) [1, 2, 0] rfl rfl
  exact zretv hx hb hr hlocks hS () trivial rfl hP9 hD9 d_Me_copy_22

set_option maxHeartbeats 4000000 in
theorem c_Me_forgetAll (l : Launch) (D : va_G) (cI cB cJ : ClassId) (sz : Nat) (h0 : Nat) (md : Nat) (bt : Nat) (lo : Nat) (nl : Nat) (sa : Nat) (ta : Nat) (fa : Nat) (pa : Nat) (pe : Nat) (ba : Nat) : zMet l y_Me_forgetAll (zWs y_Me_forgetAll b_Me_forgetAll 1 (none)) { frames := 0, cells := 0, slots := 0, locals := 0 } (zPc D (zT cI cB cJ) sz [(h0, .inr (1, [.int (nI md), .int (nI bt), .int (nI lo), .int (nI nl), .ref sa, .ref ta, .ref fa, .ref pa, .int (nI pe), .ref ba]))] [.ref h0]) (zQv D (va_A [(h0, .inr (1, [.int (nI md), .int (nI bt), .int (nI lo), .int (nI nl), .ref sa, .ref ta, .ref fa, .ref pa, .int (nI pe), .ref ba]))] sz) (fun (_ : Unit) => True) (z0) (fun _ => [(h0, .inr (1, [.int (nI 0), .int (nI 0), .int (nI 0), .int (nI 0), .ref sa, .ref ta, .ref fa, .ref pa, .int (nI 0), .ref ba]))])) (va_A [(h0, .inr (1, [.int (nI md), .int (nI bt), .int (nI lo), .int (nI nl), .ref sa, .ref ta, .ref fa, .ref pa, .int (nI pe), .ref ba]))] sz) := by
  refine zstart (Qc := fun A => zQv D A (fun (_ : Unit) => True) (z0) (fun _ => [(h0, .inr (1, [.int (nI 0), .int (nI 0), .int (nI 0), .int (nI 0), .ref sa, .ref ta, .ref fa, .ref pa, .int (nI 0), .ref ba]))])) (by decide) (Nat.le_of_ble_eq_true rfl) ?_
  intro p e s m below meth c ls A hE hr hlocks hin hsz hK hP hD hS hA hAe hl
  have hx := hE.1
  have hb := hE.2.1
  have hown := hE.2.2.2.1
  have hw := hE.2.2.2.2
  have hl : lv_has ls 1 [(0, .ref h0)] := hl
  refine lv_aload_n hx hb d_Me_forgetAll_0 rfl (lv_at hl 0 rfl) ?_
  refine lv_iconst (v := 0) hx hb d_Me_forgetAll_1 (by decide) ?_
  refine zput (v := .int 0) hE hK hP hD hS 0 rfl fd_Me_26 ft_Me_0 rfl rfl (Nat.le_of_ble_eq_true rfl) d_Me_forgetAll_2 (fun H locs hP hD hS => ?_)
  have hP : va_P D zC [(h0, .inr (1, [.int 0, .int (nI bt), .int (nI lo), .int (nI nl), .ref sa, .ref ta, .ref fa, .ref pa, .int (nI pe), .ref ba]))] H := hP
  have hD : va_D A [(h0, .inr (1, [.int 0, .int (nI bt), .int (nI lo), .int (nI nl), .ref sa, .ref ta, .ref fa, .ref pa, .int (nI pe), .ref ba]))] := hD
  refine lv_aload_n hx hb d_Me_forgetAll_5 rfl (lv_at hl 0 rfl) ?_
  refine lv_iconst (v := 0) hx hb d_Me_forgetAll_6 (by decide) ?_
  refine zput (v := .int 0) hE hK hP hD hS 0 rfl fd_Me_30 ft_Me_1 rfl rfl (Nat.le_of_ble_eq_true rfl) d_Me_forgetAll_7 (fun H locs hP hD hS => ?_)
  have hP : va_P D zC [(h0, .inr (1, [.int 0, .int 0, .int (nI lo), .int (nI nl), .ref sa, .ref ta, .ref fa, .ref pa, .int (nI pe), .ref ba]))] H := hP
  have hD : va_D A [(h0, .inr (1, [.int 0, .int 0, .int (nI lo), .int (nI nl), .ref sa, .ref ta, .ref fa, .ref pa, .int (nI pe), .ref ba]))] := hD
  refine lv_aload_n hx hb d_Me_forgetAll_10 rfl (lv_at hl 0 rfl) ?_
  refine lv_iconst (v := 0) hx hb d_Me_forgetAll_11 (by decide) ?_
  refine zput (v := .int 0) hE hK hP hD hS 0 rfl fd_Me_33 ft_Me_2 rfl rfl (Nat.le_of_ble_eq_true rfl) d_Me_forgetAll_12 (fun H locs hP hD hS => ?_)
  have hP : va_P D zC [(h0, .inr (1, [.int 0, .int 0, .int 0, .int (nI nl), .ref sa, .ref ta, .ref fa, .ref pa, .int (nI pe), .ref ba]))] H := hP
  have hD : va_D A [(h0, .inr (1, [.int 0, .int 0, .int 0, .int (nI nl), .ref sa, .ref ta, .ref fa, .ref pa, .int (nI pe), .ref ba]))] := hD
  refine lv_aload_n hx hb d_Me_forgetAll_15 rfl (lv_at hl 0 rfl) ?_
  refine lv_iconst (v := 0) hx hb d_Me_forgetAll_16 (by decide) ?_
  refine zput (v := .int 0) hE hK hP hD hS 0 rfl fd_Me_36 ft_Me_3 rfl rfl (Nat.le_of_ble_eq_true rfl) d_Me_forgetAll_17 (fun H locs hP hD hS => ?_)
  have hP : va_P D zC [(h0, .inr (1, [.int 0, .int 0, .int 0, .int 0, .ref sa, .ref ta, .ref fa, .ref pa, .int (nI pe), .ref ba]))] H := hP
  have hD : va_D A [(h0, .inr (1, [.int 0, .int 0, .int 0, .int 0, .ref sa, .ref ta, .ref fa, .ref pa, .int (nI pe), .ref ba]))] := hD
  refine lv_aload_n hx hb d_Me_forgetAll_20 rfl (lv_at hl 0 rfl) ?_
  refine lv_iconst (v := 0) hx hb d_Me_forgetAll_21 (by decide) ?_
  refine zput (v := .int 0) hE hK hP hD hS 0 rfl fd_Me_39 ft_Me_8 rfl rfl (Nat.le_of_ble_eq_true rfl) d_Me_forgetAll_22 (fun H locs hP hD hS => ?_)
  have hP : va_P D zC [(h0, .inr (1, [.int 0, .int 0, .int 0, .int 0, .ref sa, .ref ta, .ref fa, .ref pa, .int 0, .ref ba]))] H := hP
  have hD : va_D A [(h0, .inr (1, [.int 0, .int 0, .int 0, .int 0, .ref sa, .ref ta, .ref fa, .ref pa, .int 0, .ref ba]))] := hD
  have hP9 := hP.sub (ws' := [(h0, .inr (1, [.int 0, .int 0, .int 0, .int 0, .ref sa, .ref ta, .ref fa, .ref pa, .int 0, .ref ba]))]) [0] rfl
  have hD9 := hD.sub (ws' := [(h0, .inr (1, [.int 0, .int 0, .int 0, .int 0, .ref sa, .ref ta, .ref fa, .ref pa, .int 0, .ref ba]))]) [0] rfl rfl
  exact zretv hx hb hr hlocks hS () trivial rfl hP9 hD9 d_Me_forgetAll_25
end
section
/-! cells alike on their range; rows that grow -/
theorem z_cell {cA : ClassId} {n : Nat} {f g : Nat → Int32} (h : ∀ j, j < n → f j = g j) : vp_cell cA (n, .inl f) = vp_cell cA (n, .inl g) := by
  show arrV cA n (fun j => .int (f j)) = arrV cA n (fun j => .int (g j))
  unfold arrV
  have e : (fun j : Fin n => Value.int (f j.val)) = fun j : Fin n => Value.int (g j.val) := funext fun j => by rw [h j.val j.isLt]
  rw [e]
theorem z_swP {D : va_G} {ws : va_W} {H : Heap} {q0 a n : Nat} {cA : ClassId} {f : Nat → Int32} (hP : va_P D zC ws H) (he : ws[q0]? = some (a, .inl (cA, n, .inl f))) (g : Nat → Int32) (h : ∀ j, j < n → f j = g j) : va_P D zC (ws.set q0 (a, .inl (cA, n, .inl g))) H := by
  have hl := (List.getElem?_eq_some_iff.mp he).1
  intro k q hk
  by_cases hkp : k = q0
  · subst hkp
    rw [List.getElem?_set_self hl] at hk
    cases hk
    have h1 : H[a]? = some (vp_cell cA (n, .inl f)) := hP k _ he
    show H[a]? = some (vp_cell cA (n, .inl g))
    rw [h1, z_cell h]
  · rw [List.getElem?_set_ne (Ne.symm hkp)] at hk
    exact hP k q hk
def zfl (f : Nat → Int32) (v : Int32) (x : Nat) : Nat → Int32 := fun j => if j < x then v else f j
theorem zfl_0 (f : Nat → Int32) (v : Int32) : zfl f v 0 = f := by
  funext j
  unfold zfl
  rw [if_neg (by omega)]
theorem zfl_s (f : Nat → Int32) (v : Int32) (x : Nat) : upd (zfl f v x) x v = zfl f v (x + 1) := by
  funext j
  unfold upd zfl
  by_cases h : j = x
  · subst h
    rw [if_pos rfl, if_pos (by omega)]
  · rw [if_neg h]
    by_cases h2 : j < x
    · rw [if_pos h2, if_pos (by omega)]
    · rw [if_neg h2, if_neg (by omega)]
def wdl (n d t : Nat) : Nat := if d ≤ n then n else min t (max d (2 * n))
def wdf (f : Nat → Int32) (n d : Nat) : Nat → Int32 := if d ≤ n then f else va_cpy f (fun _ => 0) 0 0 n
theorem z_max {a b : Nat} (ha : a < 2 ^ 31) (hb : b < 2 ^ 31) : (if nI a < nI b then nI b else nI a) = nI (max a b) := by
  by_cases h : a < b
  · rw [if_pos (nI_lt h hb), Nat.max_eq_right (by omega)]
  · rw [if_neg (nI_nlt (by omega) ha), Nat.max_eq_left (by omega)]
theorem z_min {a b : Nat} (ha : a < 2 ^ 31) (hb : b < 2 ^ 31) : (if nI b < nI a then nI b else nI a) = nI (min a b) := by
  by_cases h : b < a
  · rw [if_pos (nI_lt h ha), Nat.min_eq_right (by omega)]
  · rw [if_neg (nI_nlt (by omega) hb), Nat.min_eq_left (by omega)]
def wkc (n d : Nat) : Nat := if d ≤ n then 0 else 1
def wks (n d t : Nat) : Nat := if d ≤ n then 0 else wdl n d t
/-! decode rows -/
theorem d_Ar_copyOfI_0 : decode b_Ar_copyOfI 0 = .ok (.iload_n 1, 1) := by decide +kernel
theorem d_Ar_copyOfI_1 : decode b_Ar_copyOfI 1 = .ok (.aload_n 0, 1) := by decide +kernel
theorem d_Ar_copyOfI_2 : decode b_Ar_copyOfI 2 = .ok (.arraylength, 1) := by decide +kernel
theorem d_Ar_copyOfI_3 : decode b_Ar_copyOfI 3 = .ok (.if_icmp .ne 11, 3) := by decide +kernel
theorem d_Ar_copyOfI_6 : decode b_Ar_copyOfI 6 = .ok (.aload_n 0, 1) := by decide +kernel
theorem d_Ar_copyOfI_7 : decode b_Ar_copyOfI 7 = .ok (.invokevirtual 316, 3) := by decide +kernel
theorem d_Ar_copyOfI_10 : decode b_Ar_copyOfI 10 = .ok (.checkcast 317, 3) := by decide +kernel
theorem d_Ar_copyOfI_13 : decode b_Ar_copyOfI 13 = .ok (.areturn, 1) := by decide +kernel
theorem d_Ar_copyOfI_14 : decode b_Ar_copyOfI 14 = .ok (.iload_n 1, 1) := by decide +kernel
theorem d_Ar_copyOfI_15 : decode b_Ar_copyOfI 15 = .ok (.newarray .int, 2) := by decide +kernel
theorem d_Ar_copyOfI_17 : decode b_Ar_copyOfI 17 = .ok (.astore_n 2, 1) := by decide +kernel
theorem d_Ar_copyOfI_18 : decode b_Ar_copyOfI 18 = .ok (.aload_n 0, 1) := by decide +kernel
theorem d_Ar_copyOfI_19 : decode b_Ar_copyOfI 19 = .ok (.iconst 0, 1) := by decide +kernel
theorem d_Ar_copyOfI_20 : decode b_Ar_copyOfI 20 = .ok (.aload_n 2, 1) := by decide +kernel
theorem d_Ar_copyOfI_21 : decode b_Ar_copyOfI 21 = .ok (.iconst 0, 1) := by decide +kernel
theorem d_Ar_copyOfI_22 : decode b_Ar_copyOfI 22 = .ok (.aload_n 0, 1) := by decide +kernel
theorem d_Ar_copyOfI_23 : decode b_Ar_copyOfI 23 = .ok (.arraylength, 1) := by decide +kernel
theorem d_Ar_copyOfI_24 : decode b_Ar_copyOfI 24 = .ok (.iload_n 1, 1) := by decide +kernel
theorem d_Ar_copyOfI_25 : decode b_Ar_copyOfI 25 = .ok (.invokestatic 304, 3) := by decide +kernel
theorem d_Ar_copyOfI_28 : decode b_Ar_copyOfI 28 = .ok (.invokestatic 150, 3) := by decide +kernel
theorem d_Ar_copyOfI_31 : decode b_Ar_copyOfI 31 = .ok (.aload_n 2, 1) := by decide +kernel
theorem d_Ar_copyOfI_32 : decode b_Ar_copyOfI 32 = .ok (.areturn, 1) := by decide +kernel
theorem d_Ar_copyOfB_0 : decode b_Ar_copyOfB 0 = .ok (.iload_n 1, 1) := by decide +kernel
theorem d_Ar_copyOfB_1 : decode b_Ar_copyOfB 1 = .ok (.aload_n 0, 1) := by decide +kernel
theorem d_Ar_copyOfB_2 : decode b_Ar_copyOfB 2 = .ok (.arraylength, 1) := by decide +kernel
theorem d_Ar_copyOfB_3 : decode b_Ar_copyOfB 3 = .ok (.if_icmp .ne 11, 3) := by decide +kernel
theorem d_Ar_copyOfB_6 : decode b_Ar_copyOfB 6 = .ok (.aload_n 0, 1) := by decide +kernel
theorem d_Ar_copyOfB_7 : decode b_Ar_copyOfB 7 = .ok (.invokevirtual 310, 3) := by decide +kernel
theorem d_Ar_copyOfB_10 : decode b_Ar_copyOfB 10 = .ok (.checkcast 311, 3) := by decide +kernel
theorem d_Ar_copyOfB_13 : decode b_Ar_copyOfB 13 = .ok (.areturn, 1) := by decide +kernel
theorem d_Ar_copyOfB_14 : decode b_Ar_copyOfB 14 = .ok (.iload_n 1, 1) := by decide +kernel
theorem d_Ar_copyOfB_15 : decode b_Ar_copyOfB 15 = .ok (.newarray .byte, 2) := by decide +kernel
theorem d_Ar_copyOfB_17 : decode b_Ar_copyOfB 17 = .ok (.astore_n 2, 1) := by decide +kernel
theorem d_Ar_copyOfB_18 : decode b_Ar_copyOfB 18 = .ok (.aload_n 0, 1) := by decide +kernel
theorem d_Ar_copyOfB_19 : decode b_Ar_copyOfB 19 = .ok (.iconst 0, 1) := by decide +kernel
theorem d_Ar_copyOfB_20 : decode b_Ar_copyOfB 20 = .ok (.aload_n 2, 1) := by decide +kernel
theorem d_Ar_copyOfB_21 : decode b_Ar_copyOfB 21 = .ok (.iconst 0, 1) := by decide +kernel
theorem d_Ar_copyOfB_22 : decode b_Ar_copyOfB 22 = .ok (.aload_n 0, 1) := by decide +kernel
theorem d_Ar_copyOfB_23 : decode b_Ar_copyOfB 23 = .ok (.arraylength, 1) := by decide +kernel
theorem d_Ar_copyOfB_24 : decode b_Ar_copyOfB 24 = .ok (.iload_n 1, 1) := by decide +kernel
theorem d_Ar_copyOfB_25 : decode b_Ar_copyOfB 25 = .ok (.invokestatic 304, 3) := by decide +kernel
theorem d_Ar_copyOfB_28 : decode b_Ar_copyOfB 28 = .ok (.invokestatic 150, 3) := by decide +kernel
theorem d_Ar_copyOfB_31 : decode b_Ar_copyOfB 31 = .ok (.aload_n 2, 1) := by decide +kernel
theorem d_Ar_copyOfB_32 : decode b_Ar_copyOfB 32 = .ok (.areturn, 1) := by decide +kernel
theorem d_Ar_fill_0 : decode b_Ar_fill 0 = .ok (.iconst 0, 1) := by decide +kernel
theorem d_Ar_fill_1 : decode b_Ar_fill 1 = .ok (.istore_n 2, 1) := by decide +kernel
theorem d_Ar_fill_2 : decode b_Ar_fill 2 = .ok (.aload_n 0, 1) := by decide +kernel
theorem d_Ar_fill_3 : decode b_Ar_fill 3 = .ok (.arraylength, 1) := by decide +kernel
theorem d_Ar_fill_4 : decode b_Ar_fill 4 = .ok (.istore_n 3, 1) := by decide +kernel
theorem d_Ar_fill_5 : decode b_Ar_fill 5 = .ok (.iload_n 2, 1) := by decide +kernel
theorem d_Ar_fill_6 : decode b_Ar_fill 6 = .ok (.iload_n 3, 1) := by decide +kernel
theorem d_Ar_fill_7 : decode b_Ar_fill 7 = .ok (.if_icmp .ge 13, 3) := by decide +kernel
theorem d_Ar_fill_10 : decode b_Ar_fill 10 = .ok (.aload_n 0, 1) := by decide +kernel
theorem d_Ar_fill_11 : decode b_Ar_fill 11 = .ok (.iload_n 2, 1) := by decide +kernel
theorem d_Ar_fill_12 : decode b_Ar_fill 12 = .ok (.iload_n 1, 1) := by decide +kernel
theorem d_Ar_fill_13 : decode b_Ar_fill 13 = .ok (.iastore, 1) := by decide +kernel
theorem d_Ar_fill_14 : decode b_Ar_fill 14 = .ok (.iinc 2 1, 3) := by decide +kernel
theorem d_Ar_fill_17 : decode b_Ar_fill 17 = .ok (.goto (-12), 3) := by decide +kernel
theorem d_Ar_fill_20 : decode b_Ar_fill 20 = .ok (.return_, 1) := by decide +kernel
theorem d_Rv_widened_0 : decode b_Rv_widened 0 = .ok (.iload_n 1, 1) := by decide +kernel
theorem d_Rv_widened_1 : decode b_Rv_widened 1 = .ok (.aload_n 0, 1) := by decide +kernel
theorem d_Rv_widened_2 : decode b_Rv_widened 2 = .ok (.arraylength, 1) := by decide +kernel
theorem d_Rv_widened_3 : decode b_Rv_widened 3 = .ok (.if_icmp .gt 5, 3) := by decide +kernel
theorem d_Rv_widened_6 : decode b_Rv_widened 6 = .ok (.aload_n 0, 1) := by decide +kernel
theorem d_Rv_widened_7 : decode b_Rv_widened 7 = .ok (.areturn, 1) := by decide +kernel
theorem d_Rv_widened_8 : decode b_Rv_widened 8 = .ok (.aload_n 0, 1) := by decide +kernel
theorem d_Rv_widened_9 : decode b_Rv_widened 9 = .ok (.iload_n 2, 1) := by decide +kernel
theorem d_Rv_widened_10 : decode b_Rv_widened 10 = .ok (.iload_n 1, 1) := by decide +kernel
theorem d_Rv_widened_11 : decode b_Rv_widened 11 = .ok (.iconst 2, 1) := by decide +kernel
theorem d_Rv_widened_12 : decode b_Rv_widened 12 = .ok (.aload_n 0, 1) := by decide +kernel
theorem d_Rv_widened_13 : decode b_Rv_widened 13 = .ok (.arraylength, 1) := by decide +kernel
theorem d_Rv_widened_14 : decode b_Rv_widened 14 = .ok (.imul, 1) := by decide +kernel
theorem d_Rv_widened_15 : decode b_Rv_widened 15 = .ok (.invokestatic 106, 3) := by decide +kernel
theorem d_Rv_widened_18 : decode b_Rv_widened 18 = .ok (.invokestatic 88, 3) := by decide +kernel
theorem d_Rv_widened_21 : decode b_Rv_widened 21 = .ok (.invokestatic 109, 3) := by decide +kernel
theorem d_Rv_widened_24 : decode b_Rv_widened 24 = .ok (.areturn, 1) := by decide +kernel

set_option maxHeartbeats 4000000 in
theorem c_Ar_copyOfI (l : Launch) (D : va_G) (cI cB cJ : ClassId) (sz : Nat) (a1 : Nat) (n0 : Int32) (n1 : Nat) (f1 : Nat → Int32) (N1 : Nat) (hN : n0 = nI N1) (hne : n1 < N1) (hNb : N1 ≤ 80000) : zMet l y_Ar_copyOfI (zWs y_Ar_copyOfI b_Ar_copyOfI 3 (some (.array .int))) { frames := 1, cells := 1, slots := N1, locals := 60 } (zPc D (zT cI cB cJ) sz [(a1, .inl (cI, n1, .inl (f1)))] [.ref a1, .int n0]) (zQr D (va_A [(a1, .inl (cI, n1, .inl (f1)))] sz) (fun (r : Nat) (U : Nat) => U = r) (fun _ => (1, N1)) (fun (U : Nat) => [(a1, .inl (cI, n1, .inl (f1))), (U, .inl (cI, N1, .inl (va_cpy f1 (fun _ => 0) 0 0 n1)))])) (va_A [(a1, .inl (cI, n1, .inl (f1)))] sz) := by
  refine zstart (Qc := fun A => zQr D A (fun (r : Nat) (U : Nat) => U = r) (fun _ => (1, N1)) (fun (U : Nat) => [(a1, .inl (cI, n1, .inl (f1))), (U, .inl (cI, N1, .inl (va_cpy f1 (fun _ => 0) 0 0 n1)))])) (by decide) (Nat.le_of_ble_eq_true rfl) ?_
  intro p e s m below meth c ls A hE hr hlocks hin hsz hK hP hD hS hA hAe hl
  have hx := hE.1
  have hb := hE.2.1
  have hown := hE.2.2.2.1
  have hw := hE.2.2.2.2
  have hl : lv_has ls 3 [(0, .ref a1), (1, .int n0)] := hl
  refine lv_iload_n hx hb d_Ar_copyOfI_0 rfl (lv_at hl 1 rfl) ?_
  refine lv_aload_n hx hb d_Ar_copyOfI_1 rfl (lv_at hl 0 rfl) ?_
  refine va_alen (v := nI n1) hx hb hK hP 0 0 rfl rfl rfl d_Ar_copyOfI_2 ?_
  refine lv_icmp_ne (tgt := 14) hx hb d_Ar_copyOfI_3 (by decide) (fun h1 => ?_) (fun h1 => (show False by have q := h1; rw [hN] at q; exact absurd ((nI_eq (by omega) (by omega)).mp q) (by omega)).elim)
  refine lv_iload_n hx hb d_Ar_copyOfI_14 rfl (lv_at hl 1 rfl) ?_
  refine va_newa (a0 := (N1, .inl (fun _ => 0))) (N' := N1) hx hb (hw _ aw_int) rfl hK hP hD hS hA (fun _ => rfl) (by rw [hN]; exact nI_pos (by omega)) (by rw [hN]; exact nI_clamp (by omega)) (by show N1 * 4 ≤ 536870912; omega) (Nat.le_of_ble_eq_true rfl) (by show 0 + N1 ≤ N1; omega) d_Ar_copyOfI_15 (fun q2 cA0 H hK0 hP hD hS => ?_)
  obtain rfl : cI = cA0 := zK_int hK0
  have hP : va_P D zC [(a1, .inl (cI, n1, .inl (f1))), (q2, .inl (cI, N1, .inl (fun _ => 0)))] _ := hP
  have hD : va_D A [(a1, .inl (cI, n1, .inl (f1))), (q2, .inl (cI, N1, .inl (fun _ => 0)))] := hD
  refine lv_astore_n (lv' := [(2, .ref q2), (0, .ref a1), (1, .int n0)]) hx hb d_Ar_copyOfI_17 rfl hl (by decide) rfl (fun ls hl => ?_)
  refine lv_aload_n hx hb d_Ar_copyOfI_18 rfl (lv_at hl 1 rfl) ?_
  refine lv_iconst (v := 0) hx hb d_Ar_copyOfI_19 (by decide) ?_
  refine lv_aload_n hx hb d_Ar_copyOfI_20 rfl (lv_at hl 0 rfl) ?_
  refine lv_iconst (v := 0) hx hb d_Ar_copyOfI_21 (by decide) ?_
  refine lv_aload_n hx hb d_Ar_copyOfI_22 rfl (lv_at hl 1 rfl) ?_
  refine va_alen (v := nI n1) hx hb hK hP 0 0 rfl rfl rfl d_Ar_copyOfI_23 ?_
  refine lv_iload_n hx hb d_Ar_copyOfI_24 rfl (lv_at hl 2 rfl) ?_
  refine va_mmin (R := { frames := 1, cells := 1, slots := N1, locals := 60 }) hx hb (hE.2.2.1.trans hl.1.symm) hown (hw _ ml_Ar_304) (hw _ mm_min_st) (hw _ mm_ini) (hw _ mm_min_code) (by exact Nat.le_of_ble_eq_true rfl) (by exact Nat.le_of_ble_eq_true rfl) (by show 0 + 1 ≤ 1; omega) (by show 0 + N1 ≤ N1; omega) d_Ar_copyOfI_25 ?_
  refine z_st (st' := [.int (nI n1), .int 0, .ref q2, .int 0, .ref a1]) (by rw [show ((if n0 < (nI n1) then n0 else (nI n1)) : Int32) = nI n1 from by rw [hN]; exact if_neg (nI_nlt (by omega) (by omega))]) ?_
  refine va_copyi (R := { frames := 1, cells := 1, slots := N1, locals := 60 }) (ty := .int) (rest := []) hx hb (hE.2.2.1.trans hl.1.symm) hown (hw _ sl_Ar) (hw _ sy_nat) (hw _ sy_st) (hw _ sy_ini) hK hP hD hS 0 1 0 0 rfl rfl rfl rfl rfl (by decide) (by decide) (nI_pos (n := n1) (by omega)) (by rw [nI_clamp (by omega)]; show 0 + n1 ≤ n1; omega) (by rw [nI_clamp (by omega)]; show 0 + n1 ≤ N1; omega) (fun i hi => rfl) (by exact Nat.le_of_ble_eq_true rfl) (by exact Nat.le_of_ble_eq_true rfl) d_Ar_copyOfI_28 (fun H locs hP hD hS => ?_)
  have hP : va_P D zC [(a1, .inl (cI, n1, .inl (f1))), (q2, .inl (cI, N1, .inl (va_cpy f1 (fun _ => 0) 0 0 (nI n1).toNatClampNeg)))] _ := hP
  have hD : va_D A [(a1, .inl (cI, n1, .inl (f1))), (q2, .inl (cI, N1, .inl (va_cpy f1 (fun _ => 0) 0 0 (nI n1).toNatClampNeg)))] := hD
  rw [show ((va_cpy f1 (fun _ => 0) 0 0 (nI n1).toNatClampNeg) : Nat → Int32) = va_cpy f1 (fun _ => 0) 0 0 n1 from by rw [nI_clamp (by omega)]] at hP hD
  have hP : va_P D zC [(a1, .inl (cI, n1, .inl (f1))), (q2, .inl (cI, N1, .inl (va_cpy f1 (fun _ => 0) 0 0 n1)))] _ := hP
  have hD : va_D A [(a1, .inl (cI, n1, .inl (f1))), (q2, .inl (cI, N1, .inl (va_cpy f1 (fun _ => 0) 0 0 n1)))] := hD
  refine lv_aload_n hx hb d_Ar_copyOfI_31 rfl (lv_at hl 0 rfl) ?_
  have hP9 := hP.sub (ws' := [(a1, .inl (cI, n1, .inl (f1))), (q2, .inl (cI, N1, .inl (va_cpy f1 (fun _ => 0) 0 0 n1)))]) [0, 1] rfl
  have hD9 := hD.sub (ws' := [(a1, .inl (cI, n1, .inl (f1))), (q2, .inl (cI, N1, .inl (va_cpy f1 (fun _ => 0) 0 0 n1)))]) [0, 1] rfl rfl
  exact zretr hx hb hr (Or.inr ⟨_, rfl⟩) hlocks hS q2 rfl (by show (1, N1) = (0 + 1, 0 + N1); simp) hP9 hD9 d_Ar_copyOfI_32

set_option maxHeartbeats 4000000 in
theorem c_Ar_copyOfB (l : Launch) (D : va_G) (cI cB cJ : ClassId) (sz : Nat) (a1 : Nat) (n0 : Int32) (n1 : Nat) (f1 : Nat → Int32) (N1 : Nat) (hN : n0 = nI N1) (hne : n1 < N1) (hNb : N1 ≤ 80000) (hft : ∀ i, i < n1 → fits .byte (.int (f1 i)) = true) : zMet l y_Ar_copyOfB (zWs y_Ar_copyOfB b_Ar_copyOfB 3 (some (.array .byte))) { frames := 1, cells := 1, slots := N1, locals := 60 } (zPc D (zT cI cB cJ) sz [(a1, .inl (cB, n1, .inl (f1)))] [.ref a1, .int n0]) (zQr D (va_A [(a1, .inl (cB, n1, .inl (f1)))] sz) (fun (r : Nat) (U : Nat) => U = r) (fun _ => (1, N1)) (fun (U : Nat) => [(a1, .inl (cB, n1, .inl (f1))), (U, .inl (cB, N1, .inl (va_cpy f1 (fun _ => 0) 0 0 n1)))])) (va_A [(a1, .inl (cB, n1, .inl (f1)))] sz) := by
  refine zstart (Qc := fun A => zQr D A (fun (r : Nat) (U : Nat) => U = r) (fun _ => (1, N1)) (fun (U : Nat) => [(a1, .inl (cB, n1, .inl (f1))), (U, .inl (cB, N1, .inl (va_cpy f1 (fun _ => 0) 0 0 n1)))])) (by decide) (Nat.le_of_ble_eq_true rfl) ?_
  intro p e s m below meth c ls A hE hr hlocks hin hsz hK hP hD hS hA hAe hl
  have hx := hE.1
  have hb := hE.2.1
  have hown := hE.2.2.2.1
  have hw := hE.2.2.2.2
  have hl : lv_has ls 3 [(0, .ref a1), (1, .int n0)] := hl
  refine lv_iload_n hx hb d_Ar_copyOfB_0 rfl (lv_at hl 1 rfl) ?_
  refine lv_aload_n hx hb d_Ar_copyOfB_1 rfl (lv_at hl 0 rfl) ?_
  refine va_alen (v := nI n1) hx hb hK hP 0 1 rfl rfl rfl d_Ar_copyOfB_2 ?_
  refine lv_icmp_ne (tgt := 14) hx hb d_Ar_copyOfB_3 (by decide) (fun h1 => ?_) (fun h1 => (show False by have q := h1; rw [hN] at q; exact absurd ((nI_eq (by omega) (by omega)).mp q) (by omega)).elim)
  refine lv_iload_n hx hb d_Ar_copyOfB_14 rfl (lv_at hl 1 rfl) ?_
  refine va_newa (a0 := (N1, .inl (fun _ => 0))) (N' := N1) hx hb (hw _ aw_byte) rfl hK hP hD hS hA (fun _ => rfl) (by rw [hN]; exact nI_pos (by omega)) (by rw [hN]; exact nI_clamp (by omega)) (by show N1 * 1 ≤ 536870912; omega) (Nat.le_of_ble_eq_true rfl) (by show 0 + N1 ≤ N1; omega) d_Ar_copyOfB_15 (fun q2 cA0 H hK0 hP hD hS => ?_)
  obtain rfl : cB = cA0 := zK_byte hK0
  have hP : va_P D zC [(a1, .inl (cB, n1, .inl (f1))), (q2, .inl (cB, N1, .inl (fun _ => 0)))] _ := hP
  have hD : va_D A [(a1, .inl (cB, n1, .inl (f1))), (q2, .inl (cB, N1, .inl (fun _ => 0)))] := hD
  refine lv_astore_n (lv' := [(2, .ref q2), (0, .ref a1), (1, .int n0)]) hx hb d_Ar_copyOfB_17 rfl hl (by decide) rfl (fun ls hl => ?_)
  refine lv_aload_n hx hb d_Ar_copyOfB_18 rfl (lv_at hl 1 rfl) ?_
  refine lv_iconst (v := 0) hx hb d_Ar_copyOfB_19 (by decide) ?_
  refine lv_aload_n hx hb d_Ar_copyOfB_20 rfl (lv_at hl 0 rfl) ?_
  refine lv_iconst (v := 0) hx hb d_Ar_copyOfB_21 (by decide) ?_
  refine lv_aload_n hx hb d_Ar_copyOfB_22 rfl (lv_at hl 1 rfl) ?_
  refine va_alen (v := nI n1) hx hb hK hP 0 1 rfl rfl rfl d_Ar_copyOfB_23 ?_
  refine lv_iload_n hx hb d_Ar_copyOfB_24 rfl (lv_at hl 2 rfl) ?_
  refine va_mmin (R := { frames := 1, cells := 1, slots := N1, locals := 60 }) hx hb (hE.2.2.1.trans hl.1.symm) hown (hw _ ml_Ar_304) (hw _ mm_min_st) (hw _ mm_ini) (hw _ mm_min_code) (by exact Nat.le_of_ble_eq_true rfl) (by exact Nat.le_of_ble_eq_true rfl) (by show 0 + 1 ≤ 1; omega) (by show 0 + N1 ≤ N1; omega) d_Ar_copyOfB_25 ?_
  refine z_st (st' := [.int (nI n1), .int 0, .ref q2, .int 0, .ref a1]) (by rw [show ((if n0 < (nI n1) then n0 else (nI n1)) : Int32) = nI n1 from by rw [hN]; exact if_neg (nI_nlt (by omega) (by omega))]) ?_
  refine va_copyi (R := { frames := 1, cells := 1, slots := N1, locals := 60 }) (ty := .byte) (rest := []) hx hb (hE.2.2.1.trans hl.1.symm) hown (hw _ sl_Ar) (hw _ sy_nat) (hw _ sy_st) (hw _ sy_ini) hK hP hD hS 0 1 1 1 rfl rfl rfl rfl rfl (by decide) (by decide) (nI_pos (n := n1) (by omega)) (by rw [nI_clamp (by omega)]; show 0 + n1 ≤ n1; omega) (by rw [nI_clamp (by omega)]; show 0 + n1 ≤ N1; omega) (fun i hi => by rw [nI_clamp (by omega)] at hi; exact hft _ (by show 0 + i < n1; omega)) (by exact Nat.le_of_ble_eq_true rfl) (by exact Nat.le_of_ble_eq_true rfl) d_Ar_copyOfB_28 (fun H locs hP hD hS => ?_)
  have hP : va_P D zC [(a1, .inl (cB, n1, .inl (f1))), (q2, .inl (cB, N1, .inl (va_cpy f1 (fun _ => 0) 0 0 (nI n1).toNatClampNeg)))] _ := hP
  have hD : va_D A [(a1, .inl (cB, n1, .inl (f1))), (q2, .inl (cB, N1, .inl (va_cpy f1 (fun _ => 0) 0 0 (nI n1).toNatClampNeg)))] := hD
  rw [show ((va_cpy f1 (fun _ => 0) 0 0 (nI n1).toNatClampNeg) : Nat → Int32) = va_cpy f1 (fun _ => 0) 0 0 n1 from by rw [nI_clamp (by omega)]] at hP hD
  have hP : va_P D zC [(a1, .inl (cB, n1, .inl (f1))), (q2, .inl (cB, N1, .inl (va_cpy f1 (fun _ => 0) 0 0 n1)))] _ := hP
  have hD : va_D A [(a1, .inl (cB, n1, .inl (f1))), (q2, .inl (cB, N1, .inl (va_cpy f1 (fun _ => 0) 0 0 n1)))] := hD
  refine lv_aload_n hx hb d_Ar_copyOfB_31 rfl (lv_at hl 0 rfl) ?_
  have hP9 := hP.sub (ws' := [(a1, .inl (cB, n1, .inl (f1))), (q2, .inl (cB, N1, .inl (va_cpy f1 (fun _ => 0) 0 0 n1)))]) [0, 1] rfl
  have hD9 := hD.sub (ws' := [(a1, .inl (cB, n1, .inl (f1))), (q2, .inl (cB, N1, .inl (va_cpy f1 (fun _ => 0) 0 0 n1)))]) [0, 1] rfl rfl
  exact zretr hx hb hr (Or.inr ⟨_, rfl⟩) hlocks hS q2 rfl (by show (1, N1) = (0 + 1, 0 + N1); simp) hP9 hD9 d_Ar_copyOfB_32

set_option maxHeartbeats 4000000 in
theorem c_Ar_fill (l : Launch) (D : va_G) (cI cB cJ : ClassId) (sz : Nat) (a1 : Nat) (v : Int32) (n1 : Nat) (f1 : Nat → Int32) (hn : n1 ≤ 80000) : zMet l y_Ar_fill (zWs y_Ar_fill b_Ar_fill 4 (none)) { frames := 0, cells := 0, slots := 0, locals := 0 } (zPc D (zT cI cB cJ) sz [(a1, .inl (cI, n1, .inl (f1)))] [.ref a1, .int v]) (zQv D (va_A [(a1, .inl (cI, n1, .inl (f1)))] sz) (fun (_ : Unit) => True) (z0) (fun _ => [(a1, .inl (cI, n1, .inl (fun _ => v)))])) (va_A [(a1, .inl (cI, n1, .inl (f1)))] sz) := by
  refine zstart (Qc := fun A => zQv D A (fun (_ : Unit) => True) (z0) (fun _ => [(a1, .inl (cI, n1, .inl (fun _ => v)))])) (by decide) (Nat.le_of_ble_eq_true rfl) ?_
  intro p e s m below meth c ls A hE hr hlocks hin hsz hK hP hD hS hA hAe hl
  have hx := hE.1
  have hb := hE.2.1
  have hown := hE.2.2.2.1
  have hw := hE.2.2.2.2
  have hl : lv_has ls 4 [(0, .ref a1), (1, .int v)] := hl
  refine lv_iconst (v := 0) hx hb d_Ar_fill_0 (by decide) ?_
  refine lv_istore_n (lv' := [(2, .int 0), (0, .ref a1), (1, .int v)]) hx hb d_Ar_fill_1 rfl hl (by decide) rfl (fun ls hl => ?_)
  refine lv_aload_n hx hb d_Ar_fill_2 rfl (lv_at hl 1 rfl) ?_
  refine va_alen (v := nI n1) hx hb hK hP 0 0 rfl rfl rfl d_Ar_fill_3 ?_
  refine lv_istore_n (lv' := [(3, .int (nI n1)), (2, .int 0), (0, .ref a1), (1, .int v)]) hx hb d_Ar_fill_4 rfl hl (by decide) rfl (fun ls hl => ?_)
  rw [show ((f1) : Nat → Int32) = zfl f1 v 0 from (zfl_0 f1 v).symm] at hP hD
  have hP : va_P D zC [(a1, .inl (cI, n1, .inl (zfl f1 v 0)))] _ := hP
  have hD : va_D A [(a1, .inl (cI, n1, .inl (zfl f1 v 0)))] := hD
  refine zloopH (σ := Nat) (fun j x ls H locs cells slots => (x + j = n1 ∧ cells = 0 ∧ slots = 0) ∧ lv_has ls 4 [(3, .int (nI n1)), (2, .int (nI x)), (0, .ref a1), (1, .int v)] ∧ va_P D zC [(a1, .inl (cI, n1, .inl (zfl f1 v x)))] H ∧ va_D A [(a1, .inl (cI, n1, .inl (zfl f1 v x)))] ∧ va_S A s.heap H locs) (fun j x ls H locs cells slots hI ih => ?_) n1 0 ls ⟨⟨by omega, rfl, rfl⟩, hl, hP, hD, hS⟩
  obtain ⟨⟨hj, rfl, rfl⟩, hl, hP, hD, hS⟩ := hI
  refine lv_iload_n hx hb d_Ar_fill_5 rfl (lv_at hl 1 rfl) ?_
  refine lv_iload_n hx hb d_Ar_fill_6 rfl (lv_at hl 0 rfl) ?_
  refine lv_icmp_ge (tgt := 20) hx hb d_Ar_fill_7 (by decide) (fun h1 => ?_) (fun h1 => ?_)
  · have hx0 : n1 = x := by have := z_le' (by omega) h1; omega
    subst hx0
    have hP9 := hP.sub (ws' := [(a1, .inl (cI, n1, .inl (zfl f1 v n1)))]) [0] rfl
    have hD9 := hD.sub (ws' := [(a1, .inl (cI, n1, .inl (zfl f1 v n1)))]) [0] rfl rfl
    have hP8 := z_swP (q0 := 0) hP9 rfl (fun _ => v) (fun j hj => if_pos hj)
    have hD8 := hD9.set (p := 0) (e := .inl (cI, n1, .inl (fun _ => v))) rfl
    exact zretv hx hb hr hlocks hS () trivial rfl hP8 hD8 d_Ar_fill_20
  · have hlt : x < n1 := z_nle' (by omega) h1
    refine lv_aload_n hx hb d_Ar_fill_10 rfl (lv_at hl 2 rfl) ?_
    refine lv_iload_n hx hb d_Ar_fill_11 rfl (lv_at hl 1 rfl) ?_
    refine lv_iload_n hx hb d_Ar_fill_12 rfl (lv_at hl 3 rfl) ?_
    refine va_iast hx hb hK hP hD hS 0 0 rfl rfl (vp_in_nI hlt (by omega)) d_Ar_fill_13 (fun H locs hP hD hS => ?_)
    have hP : va_P D zC [(a1, .inl (cI, n1, .inl (upd (zfl f1 v x) (nI x).toNatClampNeg v)))] _ := hP
    have hD : va_D A [(a1, .inl (cI, n1, .inl (upd (zfl f1 v x) (nI x).toNatClampNeg v)))] := hD
    rw [show ((upd (zfl f1 v x) (nI x).toNatClampNeg v) : Nat → Int32) = zfl f1 v (x + 1) from by rw [nI_clamp (by omega), zfl_s]] at hP hD
    have hP : va_P D zC [(a1, .inl (cI, n1, .inl (zfl f1 v (x + 1))))] _ := hP
    have hD : va_D A [(a1, .inl (cI, n1, .inl (zfl f1 v (x + 1))))] := hD
    refine lv_iinc (k := 1) (v := (nI x) + 1) (lv' := [(2, .int ((nI x) + 1)), (3, .int (nI n1)), (0, .ref a1), (1, .int v)]) hx hb d_Ar_fill_14 hl rfl rfl (by decide) rfl (fun ls hl => ?_)
    refine lv_goto (tgt := 5) hx hb d_Ar_fill_17 (by decide) ?_
    rw [nI_1] at hl
    have hl := lv_sub (l' := [(3, .int (nI n1)), (2, .int (nI (x + 1))), (0, .ref a1), (1, .int v)]) hl [1, 0, 2, 3] rfl
    exact ih (j - 1) (x + 1) ls H locs 0 0 (by omega) ⟨⟨by omega, rfl, rfl⟩, hl, hP, hD, hS⟩

set_option maxHeartbeats 4000000 in
theorem c_Rv_widened (l : Launch) (D : va_G) (cI cB cJ : ClassId) (sz : Nat) (a1 : Nat) (nd : Int32) (mx : Int32) (n1 : Nat) (f1 : Nat → Int32) (d0 : Nat) (t0 : Nat) (hnd : nd = nI d0) (hmx : mx = nI t0) (hd : d0 ≤ t0) (ht : t0 ≤ 8001) (hn : n1 ≤ 8001) : zMet l y_Rv_widened (zWs y_Rv_widened b_Rv_widened 3 (some (.array .int))) { frames := 2, cells := wkc n1 d0, slots := wks n1 d0 t0, locals := 82 } (zPc D (zT cI cB cJ) sz [(a1, .inl (cI, n1, .inl (f1)))] [.ref a1, .int nd, .int mx]) (zQr D (va_A [(a1, .inl (cI, n1, .inl (f1)))] sz) (fun (r : Nat) (U : Nat) => U = r) (fun _ => (wkc n1 d0, wks n1 d0 t0)) (fun (U : Nat) => [(U, .inl (cI, (wdl n1 d0 t0), .inl (wdf f1 n1 d0)))])) (va_A [(a1, .inl (cI, n1, .inl (f1)))] sz) := by
  refine zstart (Qc := fun A => zQr D A (fun (r : Nat) (U : Nat) => U = r) (fun _ => (wkc n1 d0, wks n1 d0 t0)) (fun (U : Nat) => [(U, .inl (cI, (wdl n1 d0 t0), .inl (wdf f1 n1 d0)))])) (by decide) (Nat.le_of_ble_eq_true rfl) ?_
  intro p e s m below meth c ls A hE hr hlocks hin hsz hK hP hD hS hA hAe hl
  have hx := hE.1
  have hb := hE.2.1
  have hown := hE.2.2.2.1
  have hw := hE.2.2.2.2
  have hl : lv_has ls 3 [(0, .ref a1), (1, .int nd), (2, .int mx)] := hl
  refine lv_iload_n hx hb d_Rv_widened_0 rfl (lv_at hl 1 rfl) ?_
  refine lv_aload_n hx hb d_Rv_widened_1 rfl (lv_at hl 0 rfl) ?_
  refine va_alen (v := nI n1) hx hb hK hP 0 0 rfl rfl rfl d_Rv_widened_2 ?_
  refine lv_icmp_gt (tgt := 8) hx hb d_Rv_widened_3 (by decide) (fun h1 => ?_) (fun h1 => ?_)
  · have hgt : ¬ d0 ≤ n1 := fun q => absurd h1 (by rw [hnd]; exact nI_nlt q (by omega))
    refine lv_aload_n hx hb d_Rv_widened_8 rfl (lv_at hl 0 rfl) ?_
    refine lv_iload_n hx hb d_Rv_widened_9 rfl (lv_at hl 2 rfl) ?_
    refine lv_iload_n hx hb d_Rv_widened_10 rfl (lv_at hl 1 rfl) ?_
    refine lv_iconst (v := 2) hx hb d_Rv_widened_11 (by decide) ?_
    refine lv_aload_n hx hb d_Rv_widened_12 rfl (lv_at hl 0 rfl) ?_
    refine va_alen (v := nI n1) hx hb hK hP 0 0 rfl rfl rfl d_Rv_widened_13 ?_
    refine lv_imul hx hb d_Rv_widened_14 ?_
    refine z_st (st' := [.int (nI (2 * n1)), .int nd, .int mx, .ref a1]) (by rw [show ((2 * (nI n1)) : Int32) = nI (2 * n1) from pk_mul 2 n1]) ?_
    refine va_mmax (R := { frames := 2, cells := wkc n1 d0, slots := wks n1 d0 t0, locals := 82 }) hx hb (hE.2.2.1.trans hl.1.symm) hown (hw _ ml_Rv_106) (hw _ mm_max_st) (hw _ mm_ini) (hw _ mm_max_code) (by exact Nat.le_of_ble_eq_true rfl) (by exact Nat.le_of_ble_eq_true rfl) (Nat.zero_le _) (Nat.zero_le _) d_Rv_widened_15 ?_
    refine z_st (st' := [.int (nI (max d0 (2 * n1))), .int mx, .ref a1]) (by rw [show ((if nd < (nI (2 * n1)) then (nI (2 * n1)) else nd) : Int32) = nI (max d0 (2 * n1)) from by rw [hnd]; exact z_max (by omega) (by omega)]) ?_
    refine va_mmin (R := { frames := 2, cells := wkc n1 d0, slots := wks n1 d0 t0, locals := 82 }) hx hb (hE.2.2.1.trans hl.1.symm) hown (hw _ ml_Rv_88) (hw _ mm_min_st) (hw _ mm_ini) (hw _ mm_min_code) (by exact Nat.le_of_ble_eq_true rfl) (by exact Nat.le_of_ble_eq_true rfl) (Nat.zero_le _) (Nat.zero_le _) d_Rv_widened_18 ?_
    refine z_st (st' := [.int (nI (min t0 (max d0 (2 * n1)))), .ref a1]) (by rw [show ((if (nI (max d0 (2 * n1))) < mx then (nI (max d0 (2 * n1))) else mx) : Int32) = nI (min t0 (max d0 (2 * n1))) from by rw [hmx]; exact z_min (by omega) (by omega)]) ?_
    refine zgor (wr := []) (zrunS (n := 2) (As := [.ref a1, .int (nI (min t0 (max d0 (2 * n1))))]) (rest := []) hE (c_Ar_copyOfI l D cI cB cJ _ a1 (nI (min t0 (max d0 (2 * n1)))) n1 f1 (min t0 (max d0 (2 * n1))) rfl (by omega) (by omega)) cb_Ar_copyOfI lk_Rv_109 st_Ar_copyOfI (zpreS hK hP hD [0] rfl rfl rfl) ⟨Nat.le_of_ble_eq_true rfl, Nat.le_of_ble_eq_true rfl, by show 0 + 1 ≤ wkc n1 d0; unfold wkc; rw [if_neg hgt]; exact Nat.le_refl _, by show 0 + min t0 (max d0 (2 * n1)) ≤ wks n1 d0 t0; unfold wks wdl; rw [if_neg hgt, if_neg hgt]; omega⟩ rfl hl.1 rfl (Nat.le_of_ble_eq_true rfl) d_Rv_widened_21) hP hD hS hA [0] [] rfl rfl rfl (by decide) (fun r3 u4 H locs hq2 hP hD hS => ?_)
    subst hq2
    have hP : va_P D zC [(a1, .inl (cI, n1, .inl (f1))), (u4, .inl (cI, (min t0 (max d0 (2 * n1))), .inl (va_cpy f1 (fun _ => 0) 0 0 n1)))] _ := hP
    have hD : va_D A [(a1, .inl (cI, n1, .inl (f1))), (u4, .inl (cI, (min t0 (max d0 (2 * n1))), .inl (va_cpy f1 (fun _ => 0) 0 0 n1)))] := hD
    have hP9 := hP.sub (ws' := [(u4, .inl (cI, (min t0 (max d0 (2 * n1))), .inl (va_cpy f1 (fun _ => 0) 0 0 n1)))]) [1] rfl
    have hD9 := hD.sub (ws' := [(u4, .inl (cI, (min t0 (max d0 (2 * n1))), .inl (va_cpy f1 (fun _ => 0) 0 0 n1)))]) [1] rfl rfl
    exact zretr hx hb hr (Or.inr ⟨_, rfl⟩) hlocks hS u4 rfl (by unfold wkc wks wdl; rw [if_neg hgt, if_neg hgt, if_neg hgt]; show (1, _) = (0 + 1, 0 + _); simp) (by unfold wdl wdf; rw [if_neg hgt, if_neg hgt]; exact hP9) (by unfold wdl wdf; rw [if_neg hgt, if_neg hgt]; exact hD9) d_Rv_widened_24
  · have hle : d0 ≤ n1 := Nat.not_lt.mp (fun q => absurd (show nI n1 < nd by rw [hnd]; exact nI_lt q (by omega)) h1)
    refine lv_aload_n hx hb d_Rv_widened_6 rfl (lv_at hl 0 rfl) ?_
    have hP9 := hP.sub (ws' := [(a1, .inl (cI, n1, .inl (f1)))]) [0] rfl
    have hD9 := hD.sub (ws' := [(a1, .inl (cI, n1, .inl (f1)))]) [0] rfl rfl
    exact zretr hx hb hr (Or.inr ⟨_, rfl⟩) hlocks hS a1 rfl (by unfold wkc wks; rw [if_pos hle, if_pos hle]) (by unfold wdl wdf; rw [if_pos hle, if_pos hle]; exact hP9) (by unfold wdl wdf; rw [if_pos hle, if_pos hle]; exact hD9) d_Rv_widened_7
end
section
/-! the memory in own words: how many were made, the bytes there, the LAST ones (newest first), sizes (none: not there), given or not, contents -/
abbrev MM : Type := Nat × Nat × List Nat × (Nat → Option Nat) × (Nat → Bool) × (Nat → Nat → Int32)
def mMd (M : MM) : Nat := M.1
def mBt (M : MM) : Nat := M.2.1
def mLs (M : MM) : List Nat := M.2.2.1
def mSz (M : MM) : Nat → Option Nat := M.2.2.2.1
def mGv (M : MM) : Nat → Bool := M.2.2.2.2.1
def mCt (M : MM) : Nat → Nat → Int32 := M.2.2.2.2.2
def up4 (n : Nat) : Nat := (n + 3) / 4 * 4
def mUp (o : Option Nat) : Nat := match o with
  | some z => up4 z
  | none => 0
def mSum (sz : Nat → Option Nat) : Nat → Nat
  | 0 => 0
  | k + 1 => mSum sz k + mUp (sz (k + 1))
/-- what holds of every memory -/
def MI (M : MM) : Prop := mMd M ≤ 8000 ∧ mBt M ≤ 40000 ∧ (∀ k z, mSz M k = some z → 1 ≤ k ∧ k ≤ mMd M ∧ z ≤ 4000) ∧ mBt M = mSum (mSz M) (mMd M) ∧ (mLs M).length ≤ mMd M ∧ (mLs M).Nodup ∧
  (∀ k, k ∈ mLs M → ∃ z, mSz M k = some z ∧ mGv M k = false) ∧ (∀ k z, mSz M k = some z → mGv M k = false → k ∈ mLs M)
def mEmpty : MM := (0, 0, [], fun _ => none, fun _ => false, fun _ _ => 0)
def mMake (M : MM) (n : Nat) (gv : Bool) : MM := (mMd M + 1, mBt M + up4 n, if gv then mLs M else (mMd M + 1) :: mLs M, fun k => if k = mMd M + 1 then some n else mSz M k, fun k => if k = mMd M + 1 then gv else mGv M k, fun k => if k = mMd M + 1 then fun _ => 0 else mCt M k)
/-- an object goes, and out of the row of LAST ones -/
def mGone (M : MM) (k : Nat) : MM := (mMd M, mBt M - mUp (mSz M k), (mLs M).filter (fun j => j != k), fun j => if j = k then none else mSz M j, mGv M, mCt M)
def mPut (M : MM) (k : Nat) (f : Nat → Int32) : MM := (mMd M, mBt M, mLs M, mSz M, mGv M, fun j => if j = k then f else mCt M j)
/-- n bytes from an address on lie in one object -/
def mHas (M : MM) (a : Int32) (n : Nat) : Bool := match mSz M (zN a / 65536) with
  | some z => decide (zN a % 65536 + n ≤ z)
  | none => false
theorem up4_le (n : Nat) : n ≤ up4 n ∧ up4 n ≤ n + 3 := by unfold up4; omega
theorem up4_d : ∀ a, a < 64 → ∀ b, b < 64 → sp_Me_roundedUp (nI (64 * a + b)) = nI (up4 (64 * a + b)) := by decide +kernel
theorem up4_c (z : Nat) (h : z < 4001) : sp_Me_roundedUp (nI z) = nI (up4 z) := by
  have e := up4_d (z / 64) (by omega) (z % 64) (by omega)
  rw [Nat.div_add_mod] at e
  exact e
theorem mSum_up {sz : Nat → Option Nat} {k : Nat} : ∀ n, 1 ≤ k → k ≤ n → mUp (sz k) ≤ mSum sz n
  | 0, h1, h2 => by omega
  | n + 1, h1, h2 => by
    unfold mSum
    by_cases h : k = n + 1
    · subst h
      omega
    · have := mSum_up (sz := sz) (k := k) n h1 (by omega)
      omega
theorem mSum_congr {f g : Nat → Option Nat} : ∀ n, (∀ k, 1 ≤ k → k ≤ n → f k = g k) → mSum f n = mSum g n
  | 0, _ => rfl
  | n + 1, h => by
    unfold mSum
    rw [mSum_congr n (fun k h1 h2 => h k h1 (by omega)), h (n + 1) (by omega) (by omega)]
theorem mSum_gone {sz : Nat → Option Nat} {k : Nat} : ∀ n, 1 ≤ k → k ≤ n → mSum (fun j => if j = k then none else sz j) n + mUp (sz k) = mSum sz n
  | 0, h1, h2 => by omega
  | n + 1, h1, h2 => by
    unfold mSum
    by_cases h : k = n + 1
    · subst h
      rw [if_pos rfl, mSum_congr n (f := fun j => if j = n + 1 then none else sz j) (g := sz) (fun j _ h2 => if_neg (by omega))]
      show _ + 0 + _ = _
      omega
    · rw [if_neg (by omega)]
      have := mSum_gone (sz := sz) (k := k) n h1 (by omega)
      omega
theorem MI_gone {M : MM} (h : MI M) {k z : Nat} (hk : mSz M k = some z) : MI (mGone M k) := by
  obtain ⟨h1, h2, h3, h4, h5, h6, h7, h8⟩ := h
  obtain ⟨k1, k2, k3⟩ := h3 k z hk
  have hs := mSum_gone (sz := mSz M) (mMd M) k1 k2
  refine ⟨h1, ?_, ?_, ?_, ?_, ?_, ?_, ?_⟩
  · show mBt M - _ ≤ _
    omega
  · intro j y hj
    have hj : (if j = k then none else mSz M j) = some y := hj
    by_cases q : j = k
    · rw [if_pos q] at hj
      cases hj
    · rw [if_neg q] at hj
      exact h3 j y hj
  · show mBt M - mUp (mSz M k) = mSum (fun j => if j = k then none else mSz M j) (mMd M)
    omega
  · show ((mLs M).filter _).length ≤ mMd M
    have := List.length_filter_le (fun j => j != k) (mLs M)
    omega
  · exact h6.filter _
  · intro j hj
    have hj : j ∈ (mLs M).filter (fun j => j != k) := hj
    obtain ⟨q1, q2⟩ := List.mem_filter.mp hj
    obtain ⟨y, q3, q4⟩ := h7 j q1
    have q5 : ¬ j = k := by simpa using q2
    exact ⟨y, (by show (if j = k then none else mSz M j) = some y; rw [if_neg q5]; exact q3), q4⟩
  · intro j y hj hg
    have hj : (if j = k then none else mSz M j) = some y := hj
    by_cases q : j = k
    · rw [if_pos q] at hj
      cases hj
    · rw [if_neg q] at hj
      exact List.mem_filter.mpr ⟨h8 j y hj hg, by simpa using q⟩
/-- how the class lays a memory -/
def cRep (M : MM) (md bt nl pe rn pn : Nat) (sf tf uf pf : Nat → Int32) : Prop := MI M ∧ md = mMd M ∧ bt = mBt M ∧ nl = (mLs M).headD 0 ∧ md < rn ∧ rn ≤ 8001 ∧ pe ≤ pn ∧ 256 ≤ pn ∧ pn ≤ 80000 ∧
  (∀ i, i < pn → fits .byte (.int (pf i)) = true) ∧ (∀ k, 1 ≤ k → k ≤ md → sf k = match mSz M k with | some z => nI z | none => -1) ∧ (∀ k z, mSz M k = some z → mGv M k = true → uf k = -1) ∧
  (∀ i, i < (mLs M).length → uf ((mLs M).getD i 0) = nI ((mLs M).getD (i + 1) 0)) ∧
  ∃ st : Nat → Nat, (∀ k z, mSz M k = some z → tf k = nI (st k) ∧ st k ≤ pn ∧ (0 < z → st k + up4 z ≤ pe)) ∧ (∀ j k y z, j < k → mSz M j = some y → mSz M k = some z → 0 < y → 0 < z → st j + up4 y ≤ st k) ∧ ∀ k z i, mSz M k = some z → i < z → pf (st k + i) = mCt M k i
end
section
/-! decode rows -/
theorem d_Me_drop_0 : decode b_Me_drop 0 = .ok (.aload_n 0, 1) := by decide +kernel
theorem d_Me_drop_1 : decode b_Me_drop 1 = .ok (.getfield 9, 3) := by decide +kernel
theorem d_Me_drop_4 : decode b_Me_drop 4 = .ok (.iload_n 1, 1) := by decide +kernel
theorem d_Me_drop_5 : decode b_Me_drop 5 = .ok (.iaload, 1) := by decide +kernel
theorem d_Me_drop_6 : decode b_Me_drop 6 = .ok (.invokestatic 42, 3) := by decide +kernel
theorem d_Me_drop_9 : decode b_Me_drop 9 = .ok (.istore_n 2, 1) := by decide +kernel
theorem d_Me_drop_10 : decode b_Me_drop 10 = .ok (.aload_n 0, 1) := by decide +kernel
theorem d_Me_drop_11 : decode b_Me_drop 11 = .ok (.getfield 13, 3) := by decide +kernel
theorem d_Me_drop_14 : decode b_Me_drop 14 = .ok (.iload_n 1, 1) := by decide +kernel
theorem d_Me_drop_15 : decode b_Me_drop 15 = .ok (.iaload, 1) := by decide +kernel
theorem d_Me_drop_16 : decode b_Me_drop 16 = .ok (.iload_n 2, 1) := by decide +kernel
theorem d_Me_drop_17 : decode b_Me_drop 17 = .ok (.iadd, 1) := by decide +kernel
theorem d_Me_drop_18 : decode b_Me_drop 18 = .ok (.aload_n 0, 1) := by decide +kernel
theorem d_Me_drop_19 : decode b_Me_drop 19 = .ok (.getfield 39, 3) := by decide +kernel
theorem d_Me_drop_22 : decode b_Me_drop 22 = .ok (.if_icmp .ne 13, 3) := by decide +kernel
theorem d_Me_drop_25 : decode b_Me_drop 25 = .ok (.aload_n 0, 1) := by decide +kernel
theorem d_Me_drop_26 : decode b_Me_drop 26 = .ok (.aload_n 0, 1) := by decide +kernel
theorem d_Me_drop_27 : decode b_Me_drop 27 = .ok (.getfield 13, 3) := by decide +kernel
theorem d_Me_drop_30 : decode b_Me_drop 30 = .ok (.iload_n 1, 1) := by decide +kernel
theorem d_Me_drop_31 : decode b_Me_drop 31 = .ok (.iaload, 1) := by decide +kernel
theorem d_Me_drop_32 : decode b_Me_drop 32 = .ok (.putfield 39, 3) := by decide +kernel
theorem d_Me_drop_35 : decode b_Me_drop 35 = .ok (.aload_n 0, 1) := by decide +kernel
theorem d_Me_drop_36 : decode b_Me_drop 36 = .ok (.getfield 9, 3) := by decide +kernel
theorem d_Me_drop_39 : decode b_Me_drop 39 = .ok (.iload_n 1, 1) := by decide +kernel
theorem d_Me_drop_40 : decode b_Me_drop 40 = .ok (.iconst (-1), 1) := by decide +kernel
theorem d_Me_drop_41 : decode b_Me_drop 41 = .ok (.iastore, 1) := by decide +kernel
theorem d_Me_drop_42 : decode b_Me_drop 42 = .ok (.aload_n 0, 1) := by decide +kernel
theorem d_Me_drop_43 : decode b_Me_drop 43 = .ok (.dup, 1) := by decide +kernel
theorem d_Me_drop_44 : decode b_Me_drop 44 = .ok (.getfield 30, 3) := by decide +kernel
theorem d_Me_drop_47 : decode b_Me_drop 47 = .ok (.iload_n 2, 1) := by decide +kernel
theorem d_Me_drop_48 : decode b_Me_drop 48 = .ok (.isub, 1) := by decide +kernel
theorem d_Me_drop_49 : decode b_Me_drop 49 = .ok (.putfield 30, 3) := by decide +kernel
theorem d_Me_drop_52 : decode b_Me_drop 52 = .ok (.return_, 1) := by decide +kernel

set_option maxHeartbeats 4000000 in
theorem c_Me_drop (l : Launch) (D : va_G) (cI cB cJ : ClassId) (sz : Nat) (n0 : Int32) (h0 : Nat) (md : Nat) (bt : Nat) (lo : Nat) (nl : Nat) (sa : Nat) (ta : Nat) (fa : Nat) (pa : Nat) (pe : Nat) (ba : Nat) (rn : Nat) (sf : Nat → Int32) (tf : Nat → Int32) (k0 : Nat) (zz : Nat) (qq : Nat) (hk : n0 = nI k0) (hkr : k0 < rn) (hrm : rn ≤ 8001) (hsf : sf k0 = nI zz) (hz : zz ≤ 4000) (htf : tf k0 = nI qq) (hq : qq ≤ 80000) (hpe : pe ≤ 80000) (hbz : up4 zz ≤ bt) (hb4 : bt ≤ 40000) : zMet l y_Me_drop (zWs y_Me_drop b_Me_drop 3 (none)) { frames := 1, cells := 0, slots := 0, locals := 20 } (zPc D (zT cI cB cJ) sz [(h0, .inr (1, [.int (nI md), .int (nI bt), .int (nI lo), .int (nI nl), .ref sa, .ref ta, .ref fa, .ref pa, .int (nI pe), .ref ba])), (sa, .inl (cI, rn, .inl (sf))), (ta, .inl (cI, rn, .inl (tf)))] [.ref h0, .int n0]) (zQv D (va_A [(h0, .inr (1, [.int (nI md), .int (nI bt), .int (nI lo), .int (nI nl), .ref sa, .ref ta, .ref fa, .ref pa, .int (nI pe), .ref ba])), (sa, .inl (cI, rn, .inl (sf))), (ta, .inl (cI, rn, .inl (tf)))] sz) (fun (_ : Unit) => True) (z0) (fun _ => [(h0, .inr (1, [.int (nI md), .int (nI (bt - up4 zz)), .int (nI lo), .int (nI nl), .ref sa, .ref ta, .ref fa, .ref pa, .int (nI (if qq + up4 zz = pe then qq else pe)), .ref ba])), (sa, .inl (cI, rn, .inl (upd sf k0 (-1)))), (ta, .inl (cI, rn, .inl (tf)))])) (va_A [(h0, .inr (1, [.int (nI md), .int (nI bt), .int (nI lo), .int (nI nl), .ref sa, .ref ta, .ref fa, .ref pa, .int (nI pe), .ref ba])), (sa, .inl (cI, rn, .inl (sf))), (ta, .inl (cI, rn, .inl (tf)))] sz) := by
  refine zstart (Qc := fun A => zQv D A (fun (_ : Unit) => True) (z0) (fun _ => [(h0, .inr (1, [.int (nI md), .int (nI (bt - up4 zz)), .int (nI lo), .int (nI nl), .ref sa, .ref ta, .ref fa, .ref pa, .int (nI (if qq + up4 zz = pe then qq else pe)), .ref ba])), (sa, .inl (cI, rn, .inl (upd sf k0 (-1)))), (ta, .inl (cI, rn, .inl (tf)))])) (by decide) (Nat.le_of_ble_eq_true rfl) ?_
  intro p e s m below meth c ls A hE hr hlocks hin hsz hK hP hD hS hA hAe hl
  have hx := hE.1
  have hb := hE.2.1
  have hown := hE.2.2.2.1
  have hw := hE.2.2.2.2
  have hl : lv_has ls 3 [(0, .ref h0), (1, .int n0)] := hl
  refine lv_aload_n hx hb d_Me_drop_0 rfl (lv_at hl 0 rfl) ?_
  refine zget hE hK hP 0 rfl fd_Me_9 rfl d_Me_drop_1 ?_
  refine lv_iload_n hx hb d_Me_drop_4 rfl (lv_at hl 1 rfl) ?_
  refine va_iald hx hb hK hP 1 0 rfl rfl (by rw [hk]; exact vp_in_nI hkr (by omega)) d_Me_drop_5 ?_
  refine z_st (st' := [.int (nI zz)]) (by rw [show ((sf n0.toNatClampNeg) : Int32) = nI zz from by rw [hk, nI_clamp (by omega)]; exact hsf]) ?_
  refine zgoi (wr := [(h0, .inr (1, [.int (nI md), .int (nI bt), .int (nI lo), .int (nI nl), .ref sa, .ref ta, .ref fa, .ref pa, .int (nI pe), .ref ba])), (sa, .inl (cI, rn, .inl (sf))), (ta, .inl (cI, rn, .inl (tf)))]) (zrunS (n := 1) (As := [.int (nI zz)]) (rest := []) hE (c_Me_roundedUp l D _ _ (nI zz)) cb_Me_roundedUp lk_Me_42 st_Me_roundedUp (zpreS hK hP hD [] rfl rfl rfl) ⟨Nat.le_of_ble_eq_true rfl, Nat.le_of_ble_eq_true rfl, Nat.le_of_ble_eq_true rfl, Nat.le_of_ble_eq_true rfl⟩ rfl hl.1 rfl (Nat.le_of_ble_eq_true rfl) d_Me_drop_6) hP hD hS hA [] [0, 1, 2] rfl rfl rfl (by decide) (fun r2 u3 H locs hq1 hP hD hS => ?_)
  subst hq1
  have hP : va_P D zC [(h0, .inr (1, [.int (nI md), .int (nI bt), .int (nI lo), .int (nI nl), .ref sa, .ref ta, .ref fa, .ref pa, .int (nI pe), .ref ba])), (sa, .inl (cI, rn, .inl (sf))), (ta, .inl (cI, rn, .inl (tf)))] _ := hP
  have hD : va_D A [(h0, .inr (1, [.int (nI md), .int (nI bt), .int (nI lo), .int (nI nl), .ref sa, .ref ta, .ref fa, .ref pa, .int (nI pe), .ref ba])), (sa, .inl (cI, rn, .inl (sf))), (ta, .inl (cI, rn, .inl (tf)))] := hD
  refine z_st (st' := [.int (nI (up4 zz))]) (by rw [show ((sp_Me_roundedUp (nI zz)) : Int32) = nI (up4 zz) from up4_c zz (by omega)]) ?_
  refine lv_istore_n (lv' := [(2, .int (nI (up4 zz))), (0, .ref h0), (1, .int n0)]) hx hb d_Me_drop_9 rfl hl (by decide) rfl (fun ls hl => ?_)
  refine lv_aload_n hx hb d_Me_drop_10 rfl (lv_at hl 1 rfl) ?_
  refine zget hE hK hP 0 rfl fd_Me_13 rfl d_Me_drop_11 ?_
  refine lv_iload_n hx hb d_Me_drop_14 rfl (lv_at hl 2 rfl) ?_
  refine va_iald hx hb hK hP 2 0 rfl rfl (by rw [hk]; exact vp_in_nI hkr (by omega)) d_Me_drop_15 ?_
  refine z_st (st' := [.int (nI qq)]) (by rw [show ((tf n0.toNatClampNeg) : Int32) = nI qq from by rw [hk, nI_clamp (by omega)]; exact htf]) ?_
  refine lv_iload_n hx hb d_Me_drop_16 rfl (lv_at hl 0 rfl) ?_
  refine lv_iadd hx hb d_Me_drop_17 ?_
  refine z_st (st' := [.int (nI (qq + up4 zz))]) (by rw [show (((nI qq) + (nI (up4 zz))) : Int32) = nI (qq + up4 zz) from nI_add _ _]) ?_
  refine lv_aload_n hx hb d_Me_drop_18 rfl (lv_at hl 1 rfl) ?_
  refine zget hE hK hP 0 rfl fd_Me_39 rfl d_Me_drop_19 ?_
  refine lv_icmp_ne (tgt := 35) hx hb d_Me_drop_22 (by decide) (fun h4 => ?_) (fun h4 => ?_)
  · have hne : ¬ qq + up4 zz = pe := fun q => h4 (by rw [q])
    refine lv_aload_n hx hb d_Me_drop_35 rfl (lv_at hl 1 rfl) ?_
    refine zget hE hK hP 0 rfl fd_Me_9 rfl d_Me_drop_36 ?_
    refine lv_iload_n hx hb d_Me_drop_39 rfl (lv_at hl 2 rfl) ?_
    refine lv_iconst (v := (-1)) hx hb d_Me_drop_40 (by decide) ?_
    refine va_iast hx hb hK hP hD hS 1 0 rfl rfl (by rw [hk]; exact vp_in_nI hkr (by omega)) d_Me_drop_41 (fun H locs hP hD hS => ?_)
    have hP : va_P D zC [(h0, .inr (1, [.int (nI md), .int (nI bt), .int (nI lo), .int (nI nl), .ref sa, .ref ta, .ref fa, .ref pa, .int (nI pe), .ref ba])), (sa, .inl (cI, rn, .inl (upd sf n0.toNatClampNeg (-1)))), (ta, .inl (cI, rn, .inl (tf)))] _ := hP
    have hD : va_D A [(h0, .inr (1, [.int (nI md), .int (nI bt), .int (nI lo), .int (nI nl), .ref sa, .ref ta, .ref fa, .ref pa, .int (nI pe), .ref ba])), (sa, .inl (cI, rn, .inl (upd sf n0.toNatClampNeg (-1)))), (ta, .inl (cI, rn, .inl (tf)))] := hD
    rw [show ((upd sf n0.toNatClampNeg (-1)) : Nat → Int32) = upd sf k0 (-1) from by rw [hk, nI_clamp (by omega)]] at hP hD
    have hP : va_P D zC [(h0, .inr (1, [.int (nI md), .int (nI bt), .int (nI lo), .int (nI nl), .ref sa, .ref ta, .ref fa, .ref pa, .int (nI pe), .ref ba])), (sa, .inl (cI, rn, .inl (upd sf k0 (-1)))), (ta, .inl (cI, rn, .inl (tf)))] _ := hP
    have hD : va_D A [(h0, .inr (1, [.int (nI md), .int (nI bt), .int (nI lo), .int (nI nl), .ref sa, .ref ta, .ref fa, .ref pa, .int (nI pe), .ref ba])), (sa, .inl (cI, rn, .inl (upd sf k0 (-1)))), (ta, .inl (cI, rn, .inl (tf)))] := hD
    refine lv_aload_n hx hb d_Me_drop_42 rfl (lv_at hl 1 rfl) ?_
    refine lv_dup hx hb d_Me_drop_43 rfl ?_
    refine zget hE hK hP 0 rfl fd_Me_30 rfl d_Me_drop_44 ?_
    refine lv_iload_n hx hb d_Me_drop_47 rfl (lv_at hl 0 rfl) ?_
    refine lv_isub hx hb d_Me_drop_48 ?_
    refine z_st (st' := [.int (nI (bt - up4 zz)), .ref h0]) (by rw [show (((nI bt) - (nI (up4 zz))) : Int32) = nI (bt - up4 zz) from pk_sub hbz]) ?_
    refine zput (v := .int (nI (bt - up4 zz))) hE hK hP hD hS 0 rfl fd_Me_30 ft_Me_1 rfl rfl (Nat.le_of_ble_eq_true rfl) d_Me_drop_49 (fun H locs hP hD hS => ?_)
    have hP : va_P D zC [(h0, .inr (1, [.int (nI md), .int (nI (bt - up4 zz)), .int (nI lo), .int (nI nl), .ref sa, .ref ta, .ref fa, .ref pa, .int (nI pe), .ref ba])), (sa, .inl (cI, rn, .inl (upd sf k0 (-1)))), (ta, .inl (cI, rn, .inl (tf)))] _ := hP
    have hD : va_D A [(h0, .inr (1, [.int (nI md), .int (nI (bt - up4 zz)), .int (nI lo), .int (nI nl), .ref sa, .ref ta, .ref fa, .ref pa, .int (nI pe), .ref ba])), (sa, .inl (cI, rn, .inl (upd sf k0 (-1)))), (ta, .inl (cI, rn, .inl (tf)))] := hD
    have hP9 := hP.sub (ws' := [(h0, .inr (1, [.int (nI md), .int (nI (bt - up4 zz)), .int (nI lo), .int (nI nl), .ref sa, .ref ta, .ref fa, .ref pa, .int (nI pe), .ref ba])), (sa, .inl (cI, rn, .inl (upd sf k0 (-1)))), (ta, .inl (cI, rn, .inl (tf)))]) [0, 1, 2] rfl
    have hD9 := hD.sub (ws' := [(h0, .inr (1, [.int (nI md), .int (nI (bt - up4 zz)), .int (nI lo), .int (nI nl), .ref sa, .ref ta, .ref fa, .ref pa, .int (nI pe), .ref ba])), (sa, .inl (cI, rn, .inl (upd sf k0 (-1)))), (ta, .inl (cI, rn, .inl (tf)))]) [0, 1, 2] rfl rfl
    exact zretv hx hb hr hlocks hS () trivial rfl (by rw [if_neg hne]; exact hP9) (by rw [if_neg hne]; exact hD9) d_Me_drop_52
  · have he : qq + up4 zz = pe := (nI_eq (by have := up4_le zz; omega) (by omega)).mp h4
    refine lv_aload_n hx hb d_Me_drop_25 rfl (lv_at hl 1 rfl) ?_
    refine lv_aload_n hx hb d_Me_drop_26 rfl (lv_at hl 1 rfl) ?_
    refine zget hE hK hP 0 rfl fd_Me_13 rfl d_Me_drop_27 ?_
    refine lv_iload_n hx hb d_Me_drop_30 rfl (lv_at hl 2 rfl) ?_
    refine va_iald hx hb hK hP 2 0 rfl rfl (by rw [hk]; exact vp_in_nI hkr (by omega)) d_Me_drop_31 ?_
    refine z_st (st' := [.int (nI qq), .ref h0]) (by rw [show ((tf n0.toNatClampNeg) : Int32) = nI qq from by rw [hk, nI_clamp (by omega)]; exact htf]) ?_
    refine zput (v := .int (nI qq)) hE hK hP hD hS 0 rfl fd_Me_39 ft_Me_8 rfl rfl (Nat.le_of_ble_eq_true rfl) d_Me_drop_32 (fun H locs hP hD hS => ?_)
    have hP : va_P D zC [(h0, .inr (1, [.int (nI md), .int (nI bt), .int (nI lo), .int (nI nl), .ref sa, .ref ta, .ref fa, .ref pa, .int (nI qq), .ref ba])), (sa, .inl (cI, rn, .inl (sf))), (ta, .inl (cI, rn, .inl (tf)))] _ := hP
    have hD : va_D A [(h0, .inr (1, [.int (nI md), .int (nI bt), .int (nI lo), .int (nI nl), .ref sa, .ref ta, .ref fa, .ref pa, .int (nI qq), .ref ba])), (sa, .inl (cI, rn, .inl (sf))), (ta, .inl (cI, rn, .inl (tf)))] := hD
    refine lv_aload_n hx hb d_Me_drop_35 rfl (lv_at hl 1 rfl) ?_
    refine zget hE hK hP 0 rfl fd_Me_9 rfl d_Me_drop_36 ?_
    refine lv_iload_n hx hb d_Me_drop_39 rfl (lv_at hl 2 rfl) ?_
    refine lv_iconst (v := (-1)) hx hb d_Me_drop_40 (by decide) ?_
    refine va_iast hx hb hK hP hD hS 1 0 rfl rfl (by rw [hk]; exact vp_in_nI hkr (by omega)) d_Me_drop_41 (fun H locs hP hD hS => ?_)
    have hP : va_P D zC [(h0, .inr (1, [.int (nI md), .int (nI bt), .int (nI lo), .int (nI nl), .ref sa, .ref ta, .ref fa, .ref pa, .int (nI qq), .ref ba])), (sa, .inl (cI, rn, .inl (upd sf n0.toNatClampNeg (-1)))), (ta, .inl (cI, rn, .inl (tf)))] _ := hP
    have hD : va_D A [(h0, .inr (1, [.int (nI md), .int (nI bt), .int (nI lo), .int (nI nl), .ref sa, .ref ta, .ref fa, .ref pa, .int (nI qq), .ref ba])), (sa, .inl (cI, rn, .inl (upd sf n0.toNatClampNeg (-1)))), (ta, .inl (cI, rn, .inl (tf)))] := hD
    rw [show ((upd sf n0.toNatClampNeg (-1)) : Nat → Int32) = upd sf k0 (-1) from by rw [hk, nI_clamp (by omega)]] at hP hD
    have hP : va_P D zC [(h0, .inr (1, [.int (nI md), .int (nI bt), .int (nI lo), .int (nI nl), .ref sa, .ref ta, .ref fa, .ref pa, .int (nI qq), .ref ba])), (sa, .inl (cI, rn, .inl (upd sf k0 (-1)))), (ta, .inl (cI, rn, .inl (tf)))] _ := hP
    have hD : va_D A [(h0, .inr (1, [.int (nI md), .int (nI bt), .int (nI lo), .int (nI nl), .ref sa, .ref ta, .ref fa, .ref pa, .int (nI qq), .ref ba])), (sa, .inl (cI, rn, .inl (upd sf k0 (-1)))), (ta, .inl (cI, rn, .inl (tf)))] := hD
    refine lv_aload_n hx hb d_Me_drop_42 rfl (lv_at hl 1 rfl) ?_
    refine lv_dup hx hb d_Me_drop_43 rfl ?_
    refine zget hE hK hP 0 rfl fd_Me_30 rfl d_Me_drop_44 ?_
    refine lv_iload_n hx hb d_Me_drop_47 rfl (lv_at hl 0 rfl) ?_
    refine lv_isub hx hb d_Me_drop_48 ?_
    refine z_st (st' := [.int (nI (bt - up4 zz)), .ref h0]) (by rw [show (((nI bt) - (nI (up4 zz))) : Int32) = nI (bt - up4 zz) from pk_sub hbz]) ?_
    refine zput (v := .int (nI (bt - up4 zz))) hE hK hP hD hS 0 rfl fd_Me_30 ft_Me_1 rfl rfl (Nat.le_of_ble_eq_true rfl) d_Me_drop_49 (fun H locs hP hD hS => ?_)
    have hP : va_P D zC [(h0, .inr (1, [.int (nI md), .int (nI (bt - up4 zz)), .int (nI lo), .int (nI nl), .ref sa, .ref ta, .ref fa, .ref pa, .int (nI qq), .ref ba])), (sa, .inl (cI, rn, .inl (upd sf k0 (-1)))), (ta, .inl (cI, rn, .inl (tf)))] _ := hP
    have hD : va_D A [(h0, .inr (1, [.int (nI md), .int (nI (bt - up4 zz)), .int (nI lo), .int (nI nl), .ref sa, .ref ta, .ref fa, .ref pa, .int (nI qq), .ref ba])), (sa, .inl (cI, rn, .inl (upd sf k0 (-1)))), (ta, .inl (cI, rn, .inl (tf)))] := hD
    have hP9 := hP.sub (ws' := [(h0, .inr (1, [.int (nI md), .int (nI (bt - up4 zz)), .int (nI lo), .int (nI nl), .ref sa, .ref ta, .ref fa, .ref pa, .int (nI qq), .ref ba])), (sa, .inl (cI, rn, .inl (upd sf k0 (-1)))), (ta, .inl (cI, rn, .inl (tf)))]) [0, 1, 2] rfl
    have hD9 := hD.sub (ws' := [(h0, .inr (1, [.int (nI md), .int (nI (bt - up4 zz)), .int (nI lo), .int (nI nl), .ref sa, .ref ta, .ref fa, .ref pa, .int (nI qq), .ref ba])), (sa, .inl (cI, rn, .inl (upd sf k0 (-1)))), (ta, .inl (cI, rn, .inl (tf)))]) [0, 1, 2] rfl rfl
    exact zretv hx hb hr hlocks hS () trivial rfl (by rw [if_pos he]; exact hP9) (by rw [if_pos he]; exact hD9) d_Me_drop_52
end
section
/-! an object goes: the class's rows behind it -/
theorem upd_self (f : Nat → Int32) (k : Nat) (x : Int32) : upd f k x k = x := by unfold upd; rw [if_pos rfl]
theorem upd_ne {f : Nat → Int32} {k j : Nat} {x : Int32} (h : ¬ j = k) : upd f k x j = f j := by unfold upd; rw [if_neg h]
theorem up4_pos {z : Nat} (h : 0 < z) : 4 ≤ up4 z := by unfold up4; omega
theorem cRep_gone {M : MM} {md bt nl pe rn pn : Nat} {sf tf uf pf : Nat → Int32} (h : cRep M md bt nl pe rn pn sf tf uf pf) {k z q : Nat} (hk : mSz M k = some z) (hq : tf k = nI q) (hq8 : q ≤ 80000)
    (hch : ∀ i, i < ((mLs M).filter (fun j => j != k)).length → uf (((mLs M).filter (fun j => j != k)).getD i 0) = nI (((mLs M).filter (fun j => j != k)).getD (i + 1) 0)) :
    cRep (mGone M k) md (bt - up4 z) (((mLs M).filter (fun j => j != k)).headD 0) (if q + up4 z = pe then q else pe) rn pn (upd sf k (-1)) tf uf pf := by
  obtain ⟨hI, h1, h2, h3, h4, h5, h6, h7, h8, h9, h10, h11, h12, st, g1, g2, g3⟩ := h
  have hkk := hI.2.2.1 k z hk
  obtain ⟨e1, e2, e3⟩ := g1 k z hk
  have hsq : st k = q := (nI_eq (by omega) (by omega)).mp (e1.symm.trans hq)
  have hold : ∀ j y, mSz (mGone M k) j = some y → ¬ j = k ∧ mSz M j = some y := by
    intro j y hj
    have hj : (if j = k then none else mSz M j) = some y := hj
    by_cases c : j = k
    · rw [if_pos c] at hj
      cases hj
    · rw [if_neg c] at hj
      exact ⟨c, hj⟩
  refine ⟨MI_gone hI hk, h1, ?_, rfl, h4, h5, ?_, h7, h8, h9, ?_, ?_, hch, st, ?_, ?_, ?_⟩
  · show bt - up4 z = mBt M - mUp (mSz M k)
    rw [hk, h2]
    rfl
  · by_cases c : q + up4 z = pe
    · rw [if_pos c]
      omega
    · rw [if_neg c]
      exact h6
  · intro j j1 j2
    show upd sf k (-1) j = match (if j = k then none else mSz M j) with | some z => nI z | none => -1
    by_cases c : j = k
    · rw [if_pos c, c, upd_self]
    · rw [if_neg c, upd_ne c]
      exact h10 j j1 j2
  · intro j y hj hg
    exact h11 j y (hold j y hj).2 hg
  · intro j y hj
    obtain ⟨c, hj⟩ := hold j y hj
    obtain ⟨a1, a2, a3⟩ := g1 j y hj
    refine ⟨a1, a2, fun hy => ?_⟩
    by_cases cc : q + up4 z = pe
    · rw [if_pos cc]
      have b1 := a3 hy
      have b2 := up4_pos hy
      rcases Nat.eq_zero_or_pos z with hz | hz
      · subst hz
        have : up4 0 = 0 := rfl
        omega
      · rcases Nat.lt_or_gt_of_ne c with d | d
        · have := g2 j k y z d hj hk hy hz
          omega
        · have := g2 k j z y d hk hj hz hy
          omega
    · rw [if_neg cc]
      exact a3 hy
  · intro i j y x hij hi hj
    exact g2 i j y x hij (hold i y hi).2 (hold j x hj).2
  · intro j y i hj hi
    exact g3 j y i (hold j y hj).2 hi
theorem filter_out {L : List Nat} {k : Nat} (h : k ∉ L) : L.filter (fun j => j != k) = L := List.filter_eq_self.mpr (fun j hj => by
  have : j ≠ k := fun e => h (e ▸ hj)
  simpa using this)
theorem filter_head {r : List Nat} {k : Nat} (h : (k :: r).Nodup) : (k :: r).filter (fun j => j != k) = r := by
  have hk : k ∉ r := (List.nodup_cons.mp h).1
  rw [List.filter_cons_of_neg (by simp), filter_out hk]
/-- a GIVEN one goes -/
theorem cRep_given {M : MM} {md bt nl pe rn pn : Nat} {sf tf uf pf : Nat → Int32} (h : cRep M md bt nl pe rn pn sf tf uf pf) {k z q : Nat} (hk : mSz M k = some z) (hg : mGv M k = true) (hq : tf k = nI q) (hq8 : q ≤ 80000) :
    cRep (mGone M k) md (bt - up4 z) nl (if q + up4 z = pe then q else pe) rn pn (upd sf k (-1)) tf uf pf := by
  have hn : k ∉ mLs M := fun hm => by
    obtain ⟨y, -, hy⟩ := h.1.2.2.2.2.2.2.1 k hm
    rw [hg] at hy
    cases hy
  have e := filter_out hn
  have hc := cRep_gone h hk hq hq8 (by rw [e]; exact h.2.2.2.2.2.2.2.2.2.2.2.2.1)
  rw [e, ← h.2.2.2.1] at hc
  exact hc
/-- the newest LAST one goes -/
theorem cRep_last {M : MM} {md bt nl pe rn pn : Nat} {sf tf uf pf : Nat → Int32} (h : cRep M md bt nl pe rn pn sf tf uf pf) {k z q : Nat} {r : List Nat} (hl : mLs M = k :: r) (hk : mSz M k = some z) (hq : tf k = nI q) (hq8 : q ≤ 80000) :
    cRep (mGone M k) md (bt - up4 z) (r.headD 0) (if q + up4 z = pe then q else pe) rn pn (upd sf k (-1)) tf uf pf ∧ mLs (mGone M k) = r ∧ uf k = nI (r.headD 0) := by
  have hnd : (k :: r).Nodup := hl ▸ h.1.2.2.2.2.2.1
  have e : (mLs M).filter (fun j => j != k) = r := by rw [hl]; exact filter_head hnd
  have hch := h.2.2.2.2.2.2.2.2.2.2.2.2.1
  have hc := cRep_gone h hk hq hq8 (by
    rw [e]
    intro i hi
    have := hch (i + 1) (by rw [hl]; simpa using hi)
    rw [hl] at this
    simpa using this)
  rw [e] at hc
  refine ⟨hc, e, ?_⟩
  have := hch 0 (by rw [hl]; simp)
  rw [hl] at this
  cases r <;> simpa using this
end
section
/-! what the class's rows say of one object; which calls let one go -/
theorem z_a16 (x : Int32) : x &&& 65535 = nI (zN x % 65536) := pk_and x 16 (by decide)
theorem cRep_at {M : MM} {md bt nl pe rn pn : Nat} {sf tf uf pf : Nat → Int32} (h : cRep M md bt nl pe rn pn sf tf uf pf) {k z : Nat} (hk : mSz M k = some z) :
    k < rn ∧ rn ≤ 8001 ∧ sf k = nI z ∧ z ≤ 4000 ∧ (∃ q, tf k = nI q ∧ q ≤ 80000 ∧ (0 < z → q + up4 z ≤ pn) ∧ ∀ i, i < z → pf (q + i) = mCt M k i) ∧ pe ≤ 80000 ∧ up4 z ≤ bt ∧ bt ≤ 40000 := by
  obtain ⟨hI, h1, h2, h3, h4, h5, h6, h7, h8, h9, h10, h11, h12, st, g1, g2, g3⟩ := h
  obtain ⟨k1, k2, k3⟩ := hI.2.2.1 k z hk
  obtain ⟨e1, e2, e3⟩ := g1 k z hk
  refine ⟨by omega, h5, ?_, k3, ⟨st k, e1, by omega, fun hz => by have := e3 hz; omega, fun i hi => g3 k z i hk hi⟩, by omega, ?_, ?_⟩
  · rw [h10 k k1 (by omega), hk]
  · have := mSum_up (sz := mSz M) (mMd M) k1 k2
    rw [hk, ← hI.2.2.2.1, ← h2] at this
    exact this
  · rw [h2]
    exact hI.2.1
theorem cRep_there {M : MM} {md bt nl pe rn pn : Nat} {sf tf uf pf : Nat → Int32} (h : cRep M md bt nl pe rn pn sf tf uf pf) {k : Nat} (hk : k < 65536) : sp_Me_isThere (nI k) md sf = if (mSz M k).isSome = true then 1 else 0 := by
  obtain ⟨hI, h1, h2, h3, h4, h5, h6, h7, h8, h9, h10, -⟩ := h
  have hnone : (k = 0 ∨ md < k) → mSz M k = none := by
    intro c
    cases e : mSz M k with
    | none => rfl
    | some z =>
      have := hI.2.2.1 k z e
      omega
  unfold sp_Me_isThere
  by_cases c1 : k = 0
  · rw [if_pos (by subst c1; decide), hnone (Or.inl c1)]
    rfl
  · have hk1 : ¬ nI k < (1 : Int32) := nI_nlt (a := k) (b := 1) (by omega) (by omega)
    rw [if_neg hk1]
    by_cases c2 : md < k
    · rw [if_pos (nI_lt c2 (by omega)), hnone (Or.inr c2)]
      rfl
    · rw [if_neg (nI_nlt (by omega) (by omega)), nI_clamp (by omega), h10 k (by omega) (by omega)]
      cases e : mSz M k with
      | none => rfl
      | some z =>
        have hz := hI.2.2.1 k z e
        have hne : ¬ nI z = -1 := fun q => by
          have := congrArg Int32.toInt q
          rw [nI_toInt (by omega)] at this
          have k1 : ((-1) : Int32).toInt = -1 := by decide
          omega
        show (if nI z = -1 then 0 else 1) = _
        rw [if_neg hne]
        rfl
theorem nI_nm1 {z : Nat} (h : z < 2 ^ 31) : ¬ nI z = -1 := fun q => by
  have := congrArg Int32.toInt q
  rw [nI_toInt h] at this
  have k1 : ((-1) : Int32).toInt = -1 := by decide
  omega
theorem cRep_gv {M : MM} {md bt nl pe rn pn : Nat} {sf tf uf pf : Nat → Int32} (h : cRep M md bt nl pe rn pn sf tf uf pf) {k z : Nat} (hk : mSz M k = some z) : uf k = -1 ↔ mGv M k = true := by
  have h11 := h.2.2.2.2.2.2.2.2.2.2.2.1
  have h12 := h.2.2.2.2.2.2.2.2.2.2.2.2.1
  constructor
  · intro hu
    cases e : mGv M k with
    | true => rfl
    | false =>
      exfalso
      have hm := h.1.2.2.2.2.2.2.2 k z hk e
      obtain ⟨i, hi, he⟩ := List.mem_iff_getElem.mp hm
      have hb := h12 i hi
      have hg : (mLs M).getD i 0 = k := by rw [List.getD_eq_getElem?_getD, List.getElem?_eq_getElem hi]; exact he
      rw [hg, hu] at hb
      refine nI_nm1 (z := (mLs M).getD (i + 1) 0) ?_ hb.symm
      by_cases c : i + 1 < (mLs M).length
      · have hmem : (mLs M).getD (i + 1) 0 ∈ mLs M := by rw [List.getD_eq_getElem?_getD, List.getElem?_eq_getElem c]; exact List.getElem_mem c
        obtain ⟨y, hy, -⟩ := h.1.2.2.2.2.2.2.1 _ hmem
        have := h.1.2.2.1 _ y hy
        have := h.1.1
        omega
      · rw [List.getD_eq_getElem?_getD, List.getElem?_eq_none (by omega)]
        decide
  · intro hg
    exact h11 k z hk hg
def mDropG (M : MM) (a : Int32) : Option MM := if zN a % 65536 = 0 ∧ (mSz M (zN a / 65536)).isSome = true ∧ mGv M (zN a / 65536) = true then some (mGone M (zN a / 65536)) else none
def mPopN : Nat → MM → MM
  | 0, M => M
  | j + 1, M => mPopN j (mGone M ((mLs M).headD 0))
def mDropL (M : MM) (n : Int32) : Option MM := if 0 ≤ n.toInt ∧ n.toInt ≤ (mLs M).length then some (mPopN n.toInt.toNat M) else none
theorem z_ite0 {c : Prop} [Decidable c] (h : ¬ (if c then (1 : Int32) else 0) = 0) : c := by
  by_cases q : c
  · exact q
  · rw [if_neg q] at h
    exact absurd rfl h
theorem z_ite1 {c : Prop} [Decidable c] (h : (if c then (1 : Int32) else 0) = 0) : ¬ c := by
  intro q
  rw [if_pos q] at h
  exact absurd h (by decide)
theorem mPopN_s : ∀ (j : Nat) (M : MM), mPopN (j + 1) M = mGone (mPopN j M) ((mLs (mPopN j M)).headD 0)
  | 0, _ => rfl
  | j + 1, M => by
    show mPopN (j + 1) (mGone M ((mLs M).headD 0)) = _
    rw [mPopN_s j]
    rfl
/-! decode rows -/
theorem d_Me_addNumber_0 : decode b_Me_addNumber 0 = .ok (.aload_n 0, 1) := by decide +kernel
theorem d_Me_addNumber_1 : decode b_Me_addNumber 1 = .ok (.dup, 1) := by decide +kernel
theorem d_Me_addNumber_2 : decode b_Me_addNumber 2 = .ok (.getfield 26, 3) := by decide +kernel
theorem d_Me_addNumber_5 : decode b_Me_addNumber 5 = .ok (.iconst 1, 1) := by decide +kernel
theorem d_Me_addNumber_6 : decode b_Me_addNumber 6 = .ok (.iadd, 1) := by decide +kernel
theorem d_Me_addNumber_7 : decode b_Me_addNumber 7 = .ok (.putfield 26, 3) := by decide +kernel
theorem d_Me_addNumber_10 : decode b_Me_addNumber 10 = .ok (.aload_n 0, 1) := by decide +kernel
theorem d_Me_addNumber_11 : decode b_Me_addNumber 11 = .ok (.aload_n 0, 1) := by decide +kernel
theorem d_Me_addNumber_12 : decode b_Me_addNumber 12 = .ok (.getfield 9, 3) := by decide +kernel
theorem d_Me_addNumber_15 : decode b_Me_addNumber 15 = .ok (.aload_n 0, 1) := by decide +kernel
theorem d_Me_addNumber_16 : decode b_Me_addNumber 16 = .ok (.getfield 26, 3) := by decide +kernel
theorem d_Me_addNumber_19 : decode b_Me_addNumber 19 = .ok (.iconst 1, 1) := by decide +kernel
theorem d_Me_addNumber_20 : decode b_Me_addNumber 20 = .ok (.iadd, 1) := by decide +kernel
theorem d_Me_addNumber_21 : decode b_Me_addNumber 21 = .ok (.sipush 8001, 3) := by decide +kernel
theorem d_Me_addNumber_24 : decode b_Me_addNumber 24 = .ok (.invokestatic 60, 3) := by decide +kernel
theorem d_Me_addNumber_27 : decode b_Me_addNumber 27 = .ok (.putfield 9, 3) := by decide +kernel
theorem d_Me_addNumber_30 : decode b_Me_addNumber 30 = .ok (.aload_n 0, 1) := by decide +kernel
theorem d_Me_addNumber_31 : decode b_Me_addNumber 31 = .ok (.aload_n 0, 1) := by decide +kernel
theorem d_Me_addNumber_32 : decode b_Me_addNumber 32 = .ok (.getfield 13, 3) := by decide +kernel
theorem d_Me_addNumber_35 : decode b_Me_addNumber 35 = .ok (.aload_n 0, 1) := by decide +kernel
theorem d_Me_addNumber_36 : decode b_Me_addNumber 36 = .ok (.getfield 26, 3) := by decide +kernel
theorem d_Me_addNumber_39 : decode b_Me_addNumber 39 = .ok (.iconst 1, 1) := by decide +kernel
theorem d_Me_addNumber_40 : decode b_Me_addNumber 40 = .ok (.iadd, 1) := by decide +kernel
theorem d_Me_addNumber_41 : decode b_Me_addNumber 41 = .ok (.sipush 8001, 3) := by decide +kernel
theorem d_Me_addNumber_44 : decode b_Me_addNumber 44 = .ok (.invokestatic 60, 3) := by decide +kernel
theorem d_Me_addNumber_47 : decode b_Me_addNumber 47 = .ok (.putfield 13, 3) := by decide +kernel
theorem d_Me_addNumber_50 : decode b_Me_addNumber 50 = .ok (.aload_n 0, 1) := by decide +kernel
theorem d_Me_addNumber_51 : decode b_Me_addNumber 51 = .ok (.aload_n 0, 1) := by decide +kernel
theorem d_Me_addNumber_52 : decode b_Me_addNumber 52 = .ok (.getfield 16, 3) := by decide +kernel
theorem d_Me_addNumber_55 : decode b_Me_addNumber 55 = .ok (.aload_n 0, 1) := by decide +kernel
theorem d_Me_addNumber_56 : decode b_Me_addNumber 56 = .ok (.getfield 26, 3) := by decide +kernel
theorem d_Me_addNumber_59 : decode b_Me_addNumber 59 = .ok (.iconst 1, 1) := by decide +kernel
theorem d_Me_addNumber_60 : decode b_Me_addNumber 60 = .ok (.iadd, 1) := by decide +kernel
theorem d_Me_addNumber_61 : decode b_Me_addNumber 61 = .ok (.sipush 8001, 3) := by decide +kernel
theorem d_Me_addNumber_64 : decode b_Me_addNumber 64 = .ok (.invokestatic 60, 3) := by decide +kernel
theorem d_Me_addNumber_67 : decode b_Me_addNumber 67 = .ok (.putfield 16, 3) := by decide +kernel
theorem d_Me_addNumber_70 : decode b_Me_addNumber 70 = .ok (.return_, 1) := by decide +kernel
theorem d_Me_dropGiven_0 : decode b_Me_dropGiven 0 = .ok (.iload_n 1, 1) := by decide +kernel
theorem d_Me_dropGiven_1 : decode b_Me_dropGiven 1 = .ok (.bipush 16, 2) := by decide +kernel
theorem d_Me_dropGiven_3 : decode b_Me_dropGiven 3 = .ok (.iushr, 1) := by decide +kernel
theorem d_Me_dropGiven_4 : decode b_Me_dropGiven 4 = .ok (.istore_n 2, 1) := by decide +kernel
theorem d_Me_dropGiven_5 : decode b_Me_dropGiven 5 = .ok (.iload_n 1, 1) := by decide +kernel
theorem d_Me_dropGiven_6 : decode b_Me_dropGiven 6 = .ok (.ldc 82, 2) := by decide +kernel
theorem d_Me_dropGiven_8 : decode b_Me_dropGiven 8 = .ok (.iand, 1) := by decide +kernel
theorem d_Me_dropGiven_9 : decode b_Me_dropGiven 9 = .ok (.ifCond .ne 21, 3) := by decide +kernel
theorem d_Me_dropGiven_12 : decode b_Me_dropGiven 12 = .ok (.aload_n 0, 1) := by decide +kernel
theorem d_Me_dropGiven_13 : decode b_Me_dropGiven 13 = .ok (.iload_n 2, 1) := by decide +kernel
theorem d_Me_dropGiven_14 : decode b_Me_dropGiven 14 = .ok (.invokevirtual 83, 3) := by decide +kernel
theorem d_Me_dropGiven_17 : decode b_Me_dropGiven 17 = .ok (.ifCond .eq 13, 3) := by decide +kernel
theorem d_Me_dropGiven_20 : decode b_Me_dropGiven 20 = .ok (.aload_n 0, 1) := by decide +kernel
theorem d_Me_dropGiven_21 : decode b_Me_dropGiven 21 = .ok (.getfield 16, 3) := by decide +kernel
theorem d_Me_dropGiven_24 : decode b_Me_dropGiven 24 = .ok (.iload_n 2, 1) := by decide +kernel
theorem d_Me_dropGiven_25 : decode b_Me_dropGiven 25 = .ok (.iaload, 1) := by decide +kernel
theorem d_Me_dropGiven_26 : decode b_Me_dropGiven 26 = .ok (.iconst (-1), 1) := by decide +kernel
theorem d_Me_dropGiven_27 : decode b_Me_dropGiven 27 = .ok (.if_icmp .eq 5, 3) := by decide +kernel
theorem d_Me_dropGiven_30 : decode b_Me_dropGiven 30 = .ok (.iconst 0, 1) := by decide +kernel
theorem d_Me_dropGiven_31 : decode b_Me_dropGiven 31 = .ok (.ireturn, 1) := by decide +kernel
theorem d_Me_dropGiven_32 : decode b_Me_dropGiven 32 = .ok (.aload_n 0, 1) := by decide +kernel
theorem d_Me_dropGiven_33 : decode b_Me_dropGiven 33 = .ok (.iload_n 2, 1) := by decide +kernel
theorem d_Me_dropGiven_34 : decode b_Me_dropGiven 34 = .ok (.invokevirtual 79, 3) := by decide +kernel
theorem d_Me_dropGiven_37 : decode b_Me_dropGiven 37 = .ok (.iconst 1, 1) := by decide +kernel
theorem d_Me_dropGiven_38 : decode b_Me_dropGiven 38 = .ok (.ireturn, 1) := by decide +kernel
theorem d_Me_dropLast_0 : decode b_Me_dropLast 0 = .ok (.iload_n 1, 1) := by decide +kernel
theorem d_Me_dropLast_1 : decode b_Me_dropLast 1 = .ok (.ifCond .lt 11, 3) := by decide +kernel
theorem d_Me_dropLast_4 : decode b_Me_dropLast 4 = .ok (.iload_n 1, 1) := by decide +kernel
theorem d_Me_dropLast_5 : decode b_Me_dropLast 5 = .ok (.aload_n 0, 1) := by decide +kernel
theorem d_Me_dropLast_6 : decode b_Me_dropLast 6 = .ok (.getfield 33, 3) := by decide +kernel
theorem d_Me_dropLast_9 : decode b_Me_dropLast 9 = .ok (.if_icmp .le 5, 3) := by decide +kernel
theorem d_Me_dropLast_12 : decode b_Me_dropLast 12 = .ok (.iconst 0, 1) := by decide +kernel
theorem d_Me_dropLast_13 : decode b_Me_dropLast 13 = .ok (.ireturn, 1) := by decide +kernel
theorem d_Me_dropLast_14 : decode b_Me_dropLast 14 = .ok (.iconst 0, 1) := by decide +kernel
theorem d_Me_dropLast_15 : decode b_Me_dropLast 15 = .ok (.istore_n 2, 1) := by decide +kernel
theorem d_Me_dropLast_16 : decode b_Me_dropLast 16 = .ok (.iload_n 2, 1) := by decide +kernel
theorem d_Me_dropLast_17 : decode b_Me_dropLast 17 = .ok (.iload_n 1, 1) := by decide +kernel
theorem d_Me_dropLast_18 : decode b_Me_dropLast 18 = .ok (.if_icmp .ge 30, 3) := by decide +kernel
theorem d_Me_dropLast_21 : decode b_Me_dropLast 21 = .ok (.aload_n 0, 1) := by decide +kernel
theorem d_Me_dropLast_22 : decode b_Me_dropLast 22 = .ok (.aload_n 0, 1) := by decide +kernel
theorem d_Me_dropLast_23 : decode b_Me_dropLast 23 = .ok (.getfield 36, 3) := by decide +kernel
theorem d_Me_dropLast_26 : decode b_Me_dropLast 26 = .ok (.invokevirtual 79, 3) := by decide +kernel
theorem d_Me_dropLast_29 : decode b_Me_dropLast 29 = .ok (.aload_n 0, 1) := by decide +kernel
theorem d_Me_dropLast_30 : decode b_Me_dropLast 30 = .ok (.aload_n 0, 1) := by decide +kernel
theorem d_Me_dropLast_31 : decode b_Me_dropLast 31 = .ok (.getfield 16, 3) := by decide +kernel
theorem d_Me_dropLast_34 : decode b_Me_dropLast 34 = .ok (.aload_n 0, 1) := by decide +kernel
theorem d_Me_dropLast_35 : decode b_Me_dropLast 35 = .ok (.getfield 36, 3) := by decide +kernel
theorem d_Me_dropLast_38 : decode b_Me_dropLast 38 = .ok (.iaload, 1) := by decide +kernel
theorem d_Me_dropLast_39 : decode b_Me_dropLast 39 = .ok (.putfield 36, 3) := by decide +kernel
theorem d_Me_dropLast_42 : decode b_Me_dropLast 42 = .ok (.iinc 2 1, 3) := by decide +kernel
theorem d_Me_dropLast_45 : decode b_Me_dropLast 45 = .ok (.goto (-29), 3) := by decide +kernel
theorem d_Me_dropLast_48 : decode b_Me_dropLast 48 = .ok (.aload_n 0, 1) := by decide +kernel
theorem d_Me_dropLast_49 : decode b_Me_dropLast 49 = .ok (.dup, 1) := by decide +kernel
theorem d_Me_dropLast_50 : decode b_Me_dropLast 50 = .ok (.getfield 33, 3) := by decide +kernel
theorem d_Me_dropLast_53 : decode b_Me_dropLast 53 = .ok (.iload_n 1, 1) := by decide +kernel
theorem d_Me_dropLast_54 : decode b_Me_dropLast 54 = .ok (.isub, 1) := by decide +kernel
theorem d_Me_dropLast_55 : decode b_Me_dropLast 55 = .ok (.putfield 33, 3) := by decide +kernel
theorem d_Me_dropLast_58 : decode b_Me_dropLast 58 = .ok (.iconst 1, 1) := by decide +kernel
theorem d_Me_dropLast_59 : decode b_Me_dropLast 59 = .ok (.ireturn, 1) := by decide +kernel

set_option maxHeartbeats 4000000 in
theorem c_Me_addNumber (l : Launch) (D : va_G) (cI cB cJ : ClassId) (sz : Nat) (h0 : Nat) (md : Nat) (bt : Nat) (lo : Nat) (nl : Nat) (sa : Nat) (ta : Nat) (fa : Nat) (pa : Nat) (pe : Nat) (ba : Nat) (rn : Nat) (sf : Nat → Int32) (tf : Nat → Int32) (uf : Nat → Int32) (hmd : md < 8000) (hmr : md < rn) (hrm : rn ≤ 8001) : zMet l y_Me_addNumber (zWs y_Me_addNumber b_Me_addNumber 1 (none)) { frames := 3, cells := 3 * wkc rn (md + 2), slots := 3 * wks rn (md + 2) 8001, locals := 104 } (zPc D (zT cI cB cJ) sz [(h0, .inr (1, [.int (nI md), .int (nI bt), .int (nI lo), .int (nI nl), .ref sa, .ref ta, .ref fa, .ref pa, .int (nI pe), .ref ba])), (sa, .inl (cI, rn, .inl (sf))), (ta, .inl (cI, rn, .inl (tf))), (fa, .inl (cI, rn, .inl (uf)))] [.ref h0]) (zQv D (va_A [(h0, .inr (1, [.int (nI md), .int (nI bt), .int (nI lo), .int (nI nl), .ref sa, .ref ta, .ref fa, .ref pa, .int (nI pe), .ref ba])), (sa, .inl (cI, rn, .inl (sf))), (ta, .inl (cI, rn, .inl (tf))), (fa, .inl (cI, rn, .inl (uf)))] sz) (fun (_ : (Nat × Nat × Nat)) => True) (fun _ => (3 * wkc rn (md + 2), 3 * wks rn (md + 2) 8001)) (fun (U : (Nat × Nat × Nat)) => [(h0, .inr (1, [.int (nI (md + 1)), .int (nI bt), .int (nI lo), .int (nI nl), .ref U.1, .ref U.2.1, .ref U.2.2, .ref pa, .int (nI pe), .ref ba])), (U.1, .inl (cI, (wdl rn (md + 2) 8001), .inl (wdf sf rn (md + 2)))), (U.2.1, .inl (cI, (wdl rn (md + 2) 8001), .inl (wdf tf rn (md + 2)))), (U.2.2, .inl (cI, (wdl rn (md + 2) 8001), .inl (wdf uf rn (md + 2))))])) (va_A [(h0, .inr (1, [.int (nI md), .int (nI bt), .int (nI lo), .int (nI nl), .ref sa, .ref ta, .ref fa, .ref pa, .int (nI pe), .ref ba])), (sa, .inl (cI, rn, .inl (sf))), (ta, .inl (cI, rn, .inl (tf))), (fa, .inl (cI, rn, .inl (uf)))] sz) := by
  refine zstart (Qc := fun A => zQv D A (fun (_ : (Nat × Nat × Nat)) => True) (fun _ => (3 * wkc rn (md + 2), 3 * wks rn (md + 2) 8001)) (fun (U : (Nat × Nat × Nat)) => [(h0, .inr (1, [.int (nI (md + 1)), .int (nI bt), .int (nI lo), .int (nI nl), .ref U.1, .ref U.2.1, .ref U.2.2, .ref pa, .int (nI pe), .ref ba])), (U.1, .inl (cI, (wdl rn (md + 2) 8001), .inl (wdf sf rn (md + 2)))), (U.2.1, .inl (cI, (wdl rn (md + 2) 8001), .inl (wdf tf rn (md + 2)))), (U.2.2, .inl (cI, (wdl rn (md + 2) 8001), .inl (wdf uf rn (md + 2))))])) (by decide) (Nat.le_of_ble_eq_true rfl) ?_
  intro p e s m below meth c ls A hE hr hlocks hin hsz hK hP hD hS hA hAe hl
  have hx := hE.1
  have hb := hE.2.1
  have hown := hE.2.2.2.1
  have hw := hE.2.2.2.2
  have hl : lv_has ls 1 [(0, .ref h0)] := hl
  refine lv_aload_n hx hb d_Me_addNumber_0 rfl (lv_at hl 0 rfl) ?_
  refine lv_dup hx hb d_Me_addNumber_1 rfl ?_
  refine zget hE hK hP 0 rfl fd_Me_26 rfl d_Me_addNumber_2 ?_
  refine lv_iconst (v := 1) hx hb d_Me_addNumber_5 (by decide) ?_
  refine lv_iadd hx hb d_Me_addNumber_6 ?_
  refine z_st (st' := [.int (nI (md + 1)), .ref h0]) (by rw [show (((nI md) + 1) : Int32) = nI (md + 1) from nI_1 md]) ?_
  refine zput (v := .int (nI (md + 1))) hE hK hP hD hS 0 rfl fd_Me_26 ft_Me_0 rfl rfl (Nat.le_of_ble_eq_true rfl) d_Me_addNumber_7 (fun H locs hP hD hS => ?_)
  have hP : va_P D zC [(h0, .inr (1, [.int (nI (md + 1)), .int (nI bt), .int (nI lo), .int (nI nl), .ref sa, .ref ta, .ref fa, .ref pa, .int (nI pe), .ref ba])), (sa, .inl (cI, rn, .inl (sf))), (ta, .inl (cI, rn, .inl (tf))), (fa, .inl (cI, rn, .inl (uf)))] _ := hP
  have hD : va_D A [(h0, .inr (1, [.int (nI (md + 1)), .int (nI bt), .int (nI lo), .int (nI nl), .ref sa, .ref ta, .ref fa, .ref pa, .int (nI pe), .ref ba])), (sa, .inl (cI, rn, .inl (sf))), (ta, .inl (cI, rn, .inl (tf))), (fa, .inl (cI, rn, .inl (uf)))] := hD
  refine lv_aload_n hx hb d_Me_addNumber_10 rfl (lv_at hl 0 rfl) ?_
  refine lv_aload_n hx hb d_Me_addNumber_11 rfl (lv_at hl 0 rfl) ?_
  refine zget hE hK hP 0 rfl fd_Me_9 rfl d_Me_addNumber_12 ?_
  refine lv_aload_n hx hb d_Me_addNumber_15 rfl (lv_at hl 0 rfl) ?_
  refine zget hE hK hP 0 rfl fd_Me_26 rfl d_Me_addNumber_16 ?_
  refine lv_iconst (v := 1) hx hb d_Me_addNumber_19 (by decide) ?_
  refine lv_iadd hx hb d_Me_addNumber_20 ?_
  refine z_st (st' := [.int (nI (md + 2)), .ref sa, .ref h0]) (by rw [show (((nI (md + 1)) + 1) : Int32) = nI (md + 2) from nI_1 (md + 1)]) ?_
  refine lv_sipush (v := 8001) hx hb d_Me_addNumber_21 (by decide) ?_
  refine zgor (wr := [(h0, .inr (1, [.int (nI (md + 1)), .int (nI bt), .int (nI lo), .int (nI nl), .ref sa, .ref ta, .ref fa, .ref pa, .int (nI pe), .ref ba])), (ta, .inl (cI, rn, .inl (tf))), (fa, .inl (cI, rn, .inl (uf)))]) (zrunS (n := 3) (As := [.ref sa, .int (nI (md + 2)), .int 8001]) (rest := [.ref h0]) hE (c_Rv_widened l D cI cB cJ _ sa (nI (md + 2)) 8001 rn sf (md + 2) 8001 rfl rfl (by omega) (by omega) (by omega)) cb_Rv_widened lk_Me_60 st_Rv_widened (zpreS hK hP hD [1] rfl rfl rfl) ⟨Nat.le_of_ble_eq_true rfl, Nat.le_of_ble_eq_true rfl, by show 0 + wkc rn (md + 2) ≤ 3 * wkc rn (md + 2); omega, by show 0 + wks rn (md + 2) 8001 ≤ 3 * wks rn (md + 2) 8001; omega⟩ rfl hl.1 rfl (Nat.le_of_ble_eq_true rfl) d_Me_addNumber_24) hP hD hS hA [1] [0, 2, 3] rfl rfl rfl (by decide) (fun r2 u3 H locs hq1 hP hD hS => ?_)
  subst hq1
  have hP : va_P D zC [(h0, .inr (1, [.int (nI (md + 1)), .int (nI bt), .int (nI lo), .int (nI nl), .ref sa, .ref ta, .ref fa, .ref pa, .int (nI pe), .ref ba])), (ta, .inl (cI, rn, .inl (tf))), (fa, .inl (cI, rn, .inl (uf))), (u3, .inl (cI, (wdl rn (md + 2) 8001), .inl (wdf sf rn (md + 2))))] _ := hP
  have hD : va_D A [(h0, .inr (1, [.int (nI (md + 1)), .int (nI bt), .int (nI lo), .int (nI nl), .ref sa, .ref ta, .ref fa, .ref pa, .int (nI pe), .ref ba])), (ta, .inl (cI, rn, .inl (tf))), (fa, .inl (cI, rn, .inl (uf))), (u3, .inl (cI, (wdl rn (md + 2) 8001), .inl (wdf sf rn (md + 2))))] := hD
  refine zput (v := .ref u3) hE hK hP hD hS 0 rfl fd_Me_9 ft_Me_4 rfl rfl (Nat.le_of_ble_eq_true rfl) d_Me_addNumber_27 (fun H locs hP hD hS => ?_)
  have hP : va_P D zC [(h0, .inr (1, [.int (nI (md + 1)), .int (nI bt), .int (nI lo), .int (nI nl), .ref u3, .ref ta, .ref fa, .ref pa, .int (nI pe), .ref ba])), (ta, .inl (cI, rn, .inl (tf))), (fa, .inl (cI, rn, .inl (uf))), (u3, .inl (cI, (wdl rn (md + 2) 8001), .inl (wdf sf rn (md + 2))))] _ := hP
  have hD : va_D A [(h0, .inr (1, [.int (nI (md + 1)), .int (nI bt), .int (nI lo), .int (nI nl), .ref u3, .ref ta, .ref fa, .ref pa, .int (nI pe), .ref ba])), (ta, .inl (cI, rn, .inl (tf))), (fa, .inl (cI, rn, .inl (uf))), (u3, .inl (cI, (wdl rn (md + 2) 8001), .inl (wdf sf rn (md + 2))))] := hD
  refine lv_aload_n hx hb d_Me_addNumber_30 rfl (lv_at hl 0 rfl) ?_
  refine lv_aload_n hx hb d_Me_addNumber_31 rfl (lv_at hl 0 rfl) ?_
  refine zget hE hK hP 0 rfl fd_Me_13 rfl d_Me_addNumber_32 ?_
  refine lv_aload_n hx hb d_Me_addNumber_35 rfl (lv_at hl 0 rfl) ?_
  refine zget hE hK hP 0 rfl fd_Me_26 rfl d_Me_addNumber_36 ?_
  refine lv_iconst (v := 1) hx hb d_Me_addNumber_39 (by decide) ?_
  refine lv_iadd hx hb d_Me_addNumber_40 ?_
  refine z_st (st' := [.int (nI (md + 2)), .ref ta, .ref h0]) (by rw [show (((nI (md + 1)) + 1) : Int32) = nI (md + 2) from nI_1 (md + 1)]) ?_
  refine lv_sipush (v := 8001) hx hb d_Me_addNumber_41 (by decide) ?_
  refine zgor (wr := [(h0, .inr (1, [.int (nI (md + 1)), .int (nI bt), .int (nI lo), .int (nI nl), .ref u3, .ref ta, .ref fa, .ref pa, .int (nI pe), .ref ba])), (fa, .inl (cI, rn, .inl (uf))), (u3, .inl (cI, (wdl rn (md + 2) 8001), .inl (wdf sf rn (md + 2))))]) (zrunS (n := 3) (As := [.ref ta, .int (nI (md + 2)), .int 8001]) (rest := [.ref h0]) hE (c_Rv_widened l D cI cB cJ _ ta (nI (md + 2)) 8001 rn tf (md + 2) 8001 rfl rfl (by omega) (by omega) (by omega)) cb_Rv_widened lk_Me_60 st_Rv_widened (zpreS hK hP hD [1] rfl rfl rfl) ⟨Nat.le_of_ble_eq_true rfl, Nat.le_of_ble_eq_true rfl, by show 0 + wkc rn (md + 2) + wkc rn (md + 2) ≤ 3 * wkc rn (md + 2); omega, by show 0 + wks rn (md + 2) 8001 + wks rn (md + 2) 8001 ≤ 3 * wks rn (md + 2) 8001; omega⟩ rfl hl.1 rfl (Nat.le_of_ble_eq_true rfl) d_Me_addNumber_44) hP hD hS hA [1] [0, 2, 3] rfl rfl rfl (by decide) (fun r5 u6 H locs hq4 hP hD hS => ?_)
  subst hq4
  have hP : va_P D zC [(h0, .inr (1, [.int (nI (md + 1)), .int (nI bt), .int (nI lo), .int (nI nl), .ref u3, .ref ta, .ref fa, .ref pa, .int (nI pe), .ref ba])), (fa, .inl (cI, rn, .inl (uf))), (u3, .inl (cI, (wdl rn (md + 2) 8001), .inl (wdf sf rn (md + 2)))), (u6, .inl (cI, (wdl rn (md + 2) 8001), .inl (wdf tf rn (md + 2))))] _ := hP
  have hD : va_D A [(h0, .inr (1, [.int (nI (md + 1)), .int (nI bt), .int (nI lo), .int (nI nl), .ref u3, .ref ta, .ref fa, .ref pa, .int (nI pe), .ref ba])), (fa, .inl (cI, rn, .inl (uf))), (u3, .inl (cI, (wdl rn (md + 2) 8001), .inl (wdf sf rn (md + 2)))), (u6, .inl (cI, (wdl rn (md + 2) 8001), .inl (wdf tf rn (md + 2))))] := hD
  refine zput (v := .ref u6) hE hK hP hD hS 0 rfl fd_Me_13 ft_Me_5 rfl rfl (Nat.le_of_ble_eq_true rfl) d_Me_addNumber_47 (fun H locs hP hD hS => ?_)
  have hP : va_P D zC [(h0, .inr (1, [.int (nI (md + 1)), .int (nI bt), .int (nI lo), .int (nI nl), .ref u3, .ref u6, .ref fa, .ref pa, .int (nI pe), .ref ba])), (fa, .inl (cI, rn, .inl (uf))), (u3, .inl (cI, (wdl rn (md + 2) 8001), .inl (wdf sf rn (md + 2)))), (u6, .inl (cI, (wdl rn (md + 2) 8001), .inl (wdf tf rn (md + 2))))] _ := hP
  have hD : va_D A [(h0, .inr (1, [.int (nI (md + 1)), .int (nI bt), .int (nI lo), .int (nI nl), .ref u3, .ref u6, .ref fa, .ref pa, .int (nI pe), .ref ba])), (fa, .inl (cI, rn, .inl (uf))), (u3, .inl (cI, (wdl rn (md + 2) 8001), .inl (wdf sf rn (md + 2)))), (u6, .inl (cI, (wdl rn (md + 2) 8001), .inl (wdf tf rn (md + 2))))] := hD
  refine lv_aload_n hx hb d_Me_addNumber_50 rfl (lv_at hl 0 rfl) ?_
  refine lv_aload_n hx hb d_Me_addNumber_51 rfl (lv_at hl 0 rfl) ?_
  refine zget hE hK hP 0 rfl fd_Me_16 rfl d_Me_addNumber_52 ?_
  refine lv_aload_n hx hb d_Me_addNumber_55 rfl (lv_at hl 0 rfl) ?_
  refine zget hE hK hP 0 rfl fd_Me_26 rfl d_Me_addNumber_56 ?_
  refine lv_iconst (v := 1) hx hb d_Me_addNumber_59 (by decide) ?_
  refine lv_iadd hx hb d_Me_addNumber_60 ?_
  refine z_st (st' := [.int (nI (md + 2)), .ref fa, .ref h0]) (by rw [show (((nI (md + 1)) + 1) : Int32) = nI (md + 2) from nI_1 (md + 1)]) ?_
  refine lv_sipush (v := 8001) hx hb d_Me_addNumber_61 (by decide) ?_
  refine zgor (wr := [(h0, .inr (1, [.int (nI (md + 1)), .int (nI bt), .int (nI lo), .int (nI nl), .ref u3, .ref u6, .ref fa, .ref pa, .int (nI pe), .ref ba])), (u3, .inl (cI, (wdl rn (md + 2) 8001), .inl (wdf sf rn (md + 2)))), (u6, .inl (cI, (wdl rn (md + 2) 8001), .inl (wdf tf rn (md + 2))))]) (zrunS (n := 3) (As := [.ref fa, .int (nI (md + 2)), .int 8001]) (rest := [.ref h0]) hE (c_Rv_widened l D cI cB cJ _ fa (nI (md + 2)) 8001 rn uf (md + 2) 8001 rfl rfl (by omega) (by omega) (by omega)) cb_Rv_widened lk_Me_60 st_Rv_widened (zpreS hK hP hD [1] rfl rfl rfl) ⟨Nat.le_of_ble_eq_true rfl, Nat.le_of_ble_eq_true rfl, by show 0 + wkc rn (md + 2) + wkc rn (md + 2) + wkc rn (md + 2) ≤ 3 * wkc rn (md + 2); omega, by show 0 + wks rn (md + 2) 8001 + wks rn (md + 2) 8001 + wks rn (md + 2) 8001 ≤ 3 * wks rn (md + 2) 8001; omega⟩ rfl hl.1 rfl (Nat.le_of_ble_eq_true rfl) d_Me_addNumber_64) hP hD hS hA [1] [0, 2, 3] rfl rfl rfl (by decide) (fun r8 u9 H locs hq7 hP hD hS => ?_)
  subst hq7
  have hP : va_P D zC [(h0, .inr (1, [.int (nI (md + 1)), .int (nI bt), .int (nI lo), .int (nI nl), .ref u3, .ref u6, .ref fa, .ref pa, .int (nI pe), .ref ba])), (u3, .inl (cI, (wdl rn (md + 2) 8001), .inl (wdf sf rn (md + 2)))), (u6, .inl (cI, (wdl rn (md + 2) 8001), .inl (wdf tf rn (md + 2)))), (u9, .inl (cI, (wdl rn (md + 2) 8001), .inl (wdf uf rn (md + 2))))] _ := hP
  have hD : va_D A [(h0, .inr (1, [.int (nI (md + 1)), .int (nI bt), .int (nI lo), .int (nI nl), .ref u3, .ref u6, .ref fa, .ref pa, .int (nI pe), .ref ba])), (u3, .inl (cI, (wdl rn (md + 2) 8001), .inl (wdf sf rn (md + 2)))), (u6, .inl (cI, (wdl rn (md + 2) 8001), .inl (wdf tf rn (md + 2)))), (u9, .inl (cI, (wdl rn (md + 2) 8001), .inl (wdf uf rn (md + 2))))] := hD
  refine zput (v := .ref u9) hE hK hP hD hS 0 rfl fd_Me_16 ft_Me_6 rfl rfl (Nat.le_of_ble_eq_true rfl) d_Me_addNumber_67 (fun H locs hP hD hS => ?_)
  have hP : va_P D zC [(h0, .inr (1, [.int (nI (md + 1)), .int (nI bt), .int (nI lo), .int (nI nl), .ref u3, .ref u6, .ref u9, .ref pa, .int (nI pe), .ref ba])), (u3, .inl (cI, (wdl rn (md + 2) 8001), .inl (wdf sf rn (md + 2)))), (u6, .inl (cI, (wdl rn (md + 2) 8001), .inl (wdf tf rn (md + 2)))), (u9, .inl (cI, (wdl rn (md + 2) 8001), .inl (wdf uf rn (md + 2))))] _ := hP
  have hD : va_D A [(h0, .inr (1, [.int (nI (md + 1)), .int (nI bt), .int (nI lo), .int (nI nl), .ref u3, .ref u6, .ref u9, .ref pa, .int (nI pe), .ref ba])), (u3, .inl (cI, (wdl rn (md + 2) 8001), .inl (wdf sf rn (md + 2)))), (u6, .inl (cI, (wdl rn (md + 2) 8001), .inl (wdf tf rn (md + 2)))), (u9, .inl (cI, (wdl rn (md + 2) 8001), .inl (wdf uf rn (md + 2))))] := hD
  have hP9 := hP.sub (ws' := [(h0, .inr (1, [.int (nI (md + 1)), .int (nI bt), .int (nI lo), .int (nI nl), .ref u3, .ref u6, .ref u9, .ref pa, .int (nI pe), .ref ba])), (u3, .inl (cI, (wdl rn (md + 2) 8001), .inl (wdf sf rn (md + 2)))), (u6, .inl (cI, (wdl rn (md + 2) 8001), .inl (wdf tf rn (md + 2)))), (u9, .inl (cI, (wdl rn (md + 2) 8001), .inl (wdf uf rn (md + 2))))]) [0, 1, 2, 3] rfl
  have hD9 := hD.sub (ws' := [(h0, .inr (1, [.int (nI (md + 1)), .int (nI bt), .int (nI lo), .int (nI nl), .ref u3, .ref u6, .ref u9, .ref pa, .int (nI pe), .ref ba])), (u3, .inl (cI, (wdl rn (md + 2) 8001), .inl (wdf sf rn (md + 2)))), (u6, .inl (cI, (wdl rn (md + 2) 8001), .inl (wdf tf rn (md + 2)))), (u9, .inl (cI, (wdl rn (md + 2) 8001), .inl (wdf uf rn (md + 2))))]) [0, 1, 2, 3] rfl rfl
  exact zretv hx hb hr hlocks hS (u3, u6, u9) trivial (Prod.ext (by show 3 * wkc rn (md + 2) = 0 + wkc rn (md + 2) + wkc rn (md + 2) + wkc rn (md + 2); omega) (by show 3 * wks rn (md + 2) 8001 = 0 + wks rn (md + 2) 8001 + wks rn (md + 2) 8001 + wks rn (md + 2) 8001; omega)) hP9 hD9 d_Me_addNumber_70

set_option maxHeartbeats 4000000 in
theorem c_Me_dropGiven (l : Launch) (D : va_G) (cI cB cJ : ClassId) (sz : Nat) (ad : Int32) (h0 : Nat) (md : Nat) (bt : Nat) (lo : Nat) (nl : Nat) (sa : Nat) (ta : Nat) (fa : Nat) (pa : Nat) (pe : Nat) (ba : Nat) (rn : Nat) (sf : Nat → Int32) (tf : Nat → Int32) (uf : Nat → Int32) (M : MM) (pn : Nat) (pf : Nat → Int32) (hR : cRep M md bt nl pe rn pn sf tf uf pf) : zMet l y_Me_dropGiven (zWs y_Me_dropGiven b_Me_dropGiven 3 (some .boolean)) { frames := 2, cells := 0, slots := 0, locals := 42 } (zPc D (zT cI cB cJ) sz [(h0, .inr (1, [.int (nI md), .int (nI bt), .int (nI lo), .int (nI nl), .ref sa, .ref ta, .ref fa, .ref pa, .int (nI pe), .ref ba])), (sa, .inl (cI, rn, .inl (sf))), (ta, .inl (cI, rn, .inl (tf))), (fa, .inl (cI, rn, .inl (uf)))] [.ref h0, .int ad]) (zQi D (va_A [(h0, .inr (1, [.int (nI md), .int (nI bt), .int (nI lo), .int (nI nl), .ref sa, .ref ta, .ref fa, .ref pa, .int (nI pe), .ref ba])), (sa, .inl (cI, rn, .inl (sf))), (ta, .inl (cI, rn, .inl (tf))), (fa, .inl (cI, rn, .inl (uf)))] sz) (fun r (U : (Nat × Nat × (Nat → Int32))) => r = (if (mDropG M ad).isSome = true then 1 else 0) ∧ cRep ((mDropG M ad).getD M) md U.1 nl U.2.1 rn pn U.2.2 tf uf pf) (fun _ => (0, 0)) (fun (U : (Nat × Nat × (Nat → Int32))) => [(h0, .inr (1, [.int (nI md), .int (nI U.1), .int (nI lo), .int (nI nl), .ref sa, .ref ta, .ref fa, .ref pa, .int (nI U.2.1), .ref ba])), (sa, .inl (cI, rn, .inl (U.2.2))), (ta, .inl (cI, rn, .inl (tf))), (fa, .inl (cI, rn, .inl (uf)))])) (va_A [(h0, .inr (1, [.int (nI md), .int (nI bt), .int (nI lo), .int (nI nl), .ref sa, .ref ta, .ref fa, .ref pa, .int (nI pe), .ref ba])), (sa, .inl (cI, rn, .inl (sf))), (ta, .inl (cI, rn, .inl (tf))), (fa, .inl (cI, rn, .inl (uf)))] sz) := by
  refine zstart (Qc := fun A => zQi D A (fun r (U : (Nat × Nat × (Nat → Int32))) => r = (if (mDropG M ad).isSome = true then 1 else 0) ∧ cRep ((mDropG M ad).getD M) md U.1 nl U.2.1 rn pn U.2.2 tf uf pf) (fun _ => (0, 0)) (fun (U : (Nat × Nat × (Nat → Int32))) => [(h0, .inr (1, [.int (nI md), .int (nI U.1), .int (nI lo), .int (nI nl), .ref sa, .ref ta, .ref fa, .ref pa, .int (nI U.2.1), .ref ba])), (sa, .inl (cI, rn, .inl (U.2.2))), (ta, .inl (cI, rn, .inl (tf))), (fa, .inl (cI, rn, .inl (uf)))])) (by decide) (Nat.le_of_ble_eq_true rfl) ?_
  intro p e s m below meth c ls A hE hr hlocks hin hsz hK hP hD hS hA hAe hl
  have hx := hE.1
  have hb := hE.2.1
  have hown := hE.2.2.2.1
  have hw := hE.2.2.2.2
  have hl : lv_has ls 3 [(0, .ref h0), (1, .int ad)] := hl
  refine lv_iload_n hx hb d_Me_dropGiven_0 rfl (lv_at hl 1 rfl) ?_
  refine lv_bipush (v := 16) hx hb d_Me_dropGiven_1 (by decide) ?_
  refine lv_iushr (v := zushr ad 16) hx hb d_Me_dropGiven_3 rfl ?_
  refine lv_istore_n (lv' := [(2, .int (zushr ad 16)), (0, .ref h0), (1, .int ad)]) hx hb d_Me_dropGiven_4 rfl hl (by decide) rfl (fun ls hl => ?_)
  refine lv_iload_n hx hb d_Me_dropGiven_5 rfl (lv_at hl 2 rfl) ?_
  refine lv_ldc (v := 65535) hx hb hown (hw _ kc_Me_82) d_Me_dropGiven_6 ?_
  refine lv_iand hx hb d_Me_dropGiven_8 ?_
  refine lv_if_ne (tgt := 30) hx hb d_Me_dropGiven_9 (by decide) (fun h1 => ?_) (fun h1 => ?_)
  · have hnone : mDropG M ad = none := if_neg (fun q => h1 ((z_a16 ad).trans (by rw [q.1]; exact nI_0)))
    refine lv_iconst (v := 0) hx hb d_Me_dropGiven_30 (by decide) ?_
    have hP9 := hP.sub (ws' := [(h0, .inr (1, [.int (nI md), .int (nI bt), .int (nI lo), .int (nI nl), .ref sa, .ref ta, .ref fa, .ref pa, .int (nI pe), .ref ba])), (sa, .inl (cI, rn, .inl (sf))), (ta, .inl (cI, rn, .inl (tf))), (fa, .inl (cI, rn, .inl (uf)))]) [0, 1, 2, 3] rfl
    have hD9 := hD.sub (ws' := [(h0, .inr (1, [.int (nI md), .int (nI bt), .int (nI lo), .int (nI nl), .ref sa, .ref ta, .ref fa, .ref pa, .int (nI pe), .ref ba])), (sa, .inl (cI, rn, .inl (sf))), (ta, .inl (cI, rn, .inl (tf))), (fa, .inl (cI, rn, .inl (uf)))]) [0, 1, 2, 3] rfl rfl
    exact zreti hx hb hr rfl hlocks hS (bt, pe, sf) ⟨by rw [hnone]; rfl, by rw [hnone]; exact hR⟩ rfl hP9 hD9 d_Me_dropGiven_31
  · have ha0 : zN ad % 65536 = 0 := z_e0 (by omega) ((z_a16 ad).symm.trans h1)
    refine lv_aload_n hx hb d_Me_dropGiven_12 rfl (lv_at hl 1 rfl) ?_
    refine lv_iload_n hx hb d_Me_dropGiven_13 rfl (lv_at hl 0 rfl) ?_
    refine z_st (st' := [.int (nI (zN ad / 65536)), .ref h0]) (by rw [show ((zushr ad 16) : Int32) = nI (zN ad / 65536) from z_u16 ad]) ?_
    refine zgoi (wr := [(ta, .inl (cI, rn, .inl (tf))), (fa, .inl (cI, rn, .inl (uf)))]) (zrunV (n := 1) (As := [.int (nI (zN ad / 65536))]) (rest := []) hE (c_Me_isThere l D cI cB cJ _ (nI (zN ad / 65536)) h0 md bt lo nl sa ta fa pa pe ba rn sf hR.2.2.2.2.1 hR.2.2.2.2.2.1) cb_Me_isThere lk_Me_83 in_Me_isThere se_Me_isThere (zpreV (q0 := 0) hK hP hD rfl rfl rfl [0, 1] rfl rfl rfl) ⟨Nat.le_of_ble_eq_true rfl, Nat.le_of_ble_eq_true rfl, Nat.le_of_ble_eq_true rfl, Nat.le_of_ble_eq_true rfl⟩ rfl hl.1 rfl (Nat.le_of_ble_eq_true rfl) d_Me_dropGiven_14) hP hD hS hA [0, 1] [2, 3] rfl rfl rfl (by decide) (fun r3 u4 H locs hq2 hP hD hS => ?_)
    subst hq2
    have hP : va_P D zC [(ta, .inl (cI, rn, .inl (tf))), (fa, .inl (cI, rn, .inl (uf))), (h0, .inr (1, [.int (nI md), .int (nI bt), .int (nI lo), .int (nI nl), .ref sa, .ref ta, .ref fa, .ref pa, .int (nI pe), .ref ba])), (sa, .inl (cI, rn, .inl (sf)))] _ := hP
    have hD : va_D A [(ta, .inl (cI, rn, .inl (tf))), (fa, .inl (cI, rn, .inl (uf))), (h0, .inr (1, [.int (nI md), .int (nI bt), .int (nI lo), .int (nI nl), .ref sa, .ref ta, .ref fa, .ref pa, .int (nI pe), .ref ba])), (sa, .inl (cI, rn, .inl (sf)))] := hD
    refine z_st (st' := [.int ((if (mSz M (zN ad / 65536)).isSome = true then 1 else 0))]) (by rw [show (((sp_Me_isThere (nI (zN ad / 65536)) md sf)) : Int32) = (if (mSz M (zN ad / 65536)).isSome = true then 1 else 0) from cRep_there hR (by have := zN_lt ad; omega)]) ?_
    refine lv_if_eq (tgt := 30) hx hb d_Me_dropGiven_17 (by decide) (fun h5 => ?_) (fun h5 => ?_)
    · have hnone : mDropG M ad = none := if_neg (fun q => z_ite1 h5 q.2.1)
      refine lv_iconst (v := 0) hx hb d_Me_dropGiven_30 (by decide) ?_
      have hP9 := hP.sub (ws' := [(h0, .inr (1, [.int (nI md), .int (nI bt), .int (nI lo), .int (nI nl), .ref sa, .ref ta, .ref fa, .ref pa, .int (nI pe), .ref ba])), (sa, .inl (cI, rn, .inl (sf))), (ta, .inl (cI, rn, .inl (tf))), (fa, .inl (cI, rn, .inl (uf)))]) [2, 3, 0, 1] rfl
      have hD9 := hD.sub (ws' := [(h0, .inr (1, [.int (nI md), .int (nI bt), .int (nI lo), .int (nI nl), .ref sa, .ref ta, .ref fa, .ref pa, .int (nI pe), .ref ba])), (sa, .inl (cI, rn, .inl (sf))), (ta, .inl (cI, rn, .inl (tf))), (fa, .inl (cI, rn, .inl (uf)))]) [2, 3, 0, 1] rfl rfl
      exact zreti hx hb hr rfl hlocks hS (bt, pe, sf) ⟨by rw [hnone]; rfl, by rw [hnone]; exact hR⟩ rfl hP9 hD9 d_Me_dropGiven_31
    · have hsome : (mSz M (zN ad / 65536)).isSome = true := z_ite0 h5
      obtain ⟨zz, hz⟩ := Option.isSome_iff_exists.mp hsome
      obtain ⟨a1, a2, a3, a4, ⟨qq, a5, a6, a7, a8⟩, a9, a10, a11⟩ := cRep_at hR hz
      refine lv_aload_n hx hb d_Me_dropGiven_20 rfl (lv_at hl 1 rfl) ?_
      refine zget hE hK hP 2 rfl fd_Me_16 rfl d_Me_dropGiven_21 ?_
      refine lv_iload_n hx hb d_Me_dropGiven_24 rfl (lv_at hl 0 rfl) ?_
      refine va_iald hx hb hK hP 1 0 rfl rfl (by rw [z_u16]; exact vp_in_nI a1 (by omega)) d_Me_dropGiven_25 ?_
      refine z_st (st' := [.int (uf (zN ad / 65536))]) (by rw [show ((uf (zushr ad 16).toNatClampNeg) : Int32) = uf (zN ad / 65536) from by rw [z_u16, nI_clamp (by omega)]]) ?_
      refine lv_iconst (v := (-1)) hx hb d_Me_dropGiven_26 (by decide) ?_
      refine lv_icmp_eq (tgt := 32) hx hb d_Me_dropGiven_27 (by decide) (fun h6 => ?_) (fun h6 => ?_)
      · have hsm : mDropG M ad = some (mGone M (zN ad / 65536)) := if_pos ⟨ha0, hsome, (cRep_gv hR hz).mp h6⟩
        refine lv_aload_n hx hb d_Me_dropGiven_32 rfl (lv_at hl 1 rfl) ?_
        refine lv_iload_n hx hb d_Me_dropGiven_33 rfl (lv_at hl 0 rfl) ?_
        refine z_st (st' := [.int (nI (zN ad / 65536)), .ref h0]) (by rw [show ((zushr ad 16) : Int32) = nI (zN ad / 65536) from z_u16 ad]) ?_
        refine zgov (wr := [(fa, .inl (cI, rn, .inl (uf)))]) (zrunV (n := 1) (As := [.int (nI (zN ad / 65536))]) (rest := []) hE (c_Me_drop l D cI cB cJ _ (nI (zN ad / 65536)) h0 md bt lo nl sa ta fa pa pe ba rn sf tf (zN ad / 65536) zz qq rfl a1 a2 a3 a4 a5 a6 a9 a10 a11) cb_Me_drop lk_Me_79 in_Me_drop se_Me_drop (zpreV (q0 := 2) hK hP hD rfl rfl rfl [2, 3, 0] rfl rfl rfl) ⟨Nat.le_of_ble_eq_true rfl, Nat.le_of_ble_eq_true rfl, Nat.le_of_ble_eq_true rfl, Nat.le_of_ble_eq_true rfl⟩ rfl hl.1 rfl (Nat.le_of_ble_eq_true rfl) d_Me_dropGiven_34) hP hD hS hA [2, 3, 0] [1] rfl rfl rfl (by decide) (fun u9 H locs hq7 hP hD hS => ?_)
        clear hq7
        have hP : va_P D zC [(fa, .inl (cI, rn, .inl (uf))), (h0, .inr (1, [.int (nI md), .int (nI (bt - up4 zz)), .int (nI lo), .int (nI nl), .ref sa, .ref ta, .ref fa, .ref pa, .int (nI (if qq + up4 zz = pe then qq else pe)), .ref ba])), (sa, .inl (cI, rn, .inl (upd sf (zN ad / 65536) (-1)))), (ta, .inl (cI, rn, .inl (tf)))] _ := hP
        have hD : va_D A [(fa, .inl (cI, rn, .inl (uf))), (h0, .inr (1, [.int (nI md), .int (nI (bt - up4 zz)), .int (nI lo), .int (nI nl), .ref sa, .ref ta, .ref fa, .ref pa, .int (nI (if qq + up4 zz = pe then qq else pe)), .ref ba])), (sa, .inl (cI, rn, .inl (upd sf (zN ad / 65536) (-1)))), (ta, .inl (cI, rn, .inl (tf)))] := hD
        refine lv_iconst (v := 1) hx hb d_Me_dropGiven_37 (by decide) ?_
        have hP9 := hP.sub (ws' := [(h0, .inr (1, [.int (nI md), .int (nI (bt - up4 zz)), .int (nI lo), .int (nI nl), .ref sa, .ref ta, .ref fa, .ref pa, .int (nI (if qq + up4 zz = pe then qq else pe)), .ref ba])), (sa, .inl (cI, rn, .inl (upd sf (zN ad / 65536) (-1)))), (ta, .inl (cI, rn, .inl (tf))), (fa, .inl (cI, rn, .inl (uf)))]) [1, 2, 3, 0] rfl
        have hD9 := hD.sub (ws' := [(h0, .inr (1, [.int (nI md), .int (nI (bt - up4 zz)), .int (nI lo), .int (nI nl), .ref sa, .ref ta, .ref fa, .ref pa, .int (nI (if qq + up4 zz = pe then qq else pe)), .ref ba])), (sa, .inl (cI, rn, .inl (upd sf (zN ad / 65536) (-1)))), (ta, .inl (cI, rn, .inl (tf))), (fa, .inl (cI, rn, .inl (uf)))]) [1, 2, 3, 0] rfl rfl
        exact zreti hx hb hr rfl hlocks hS (bt - up4 zz, (if qq + up4 zz = pe then qq else pe), upd sf (zN ad / 65536) (-1)) ⟨by rw [hsm]; rfl, by rw [hsm]; exact cRep_given hR hz ((cRep_gv hR hz).mp h6) a5 a6⟩ rfl hP9 hD9 d_Me_dropGiven_38
      · have hnone : mDropG M ad = none := if_neg (fun q => h6 ((cRep_gv hR hz).mpr q.2.2))
        refine lv_iconst (v := 0) hx hb d_Me_dropGiven_30 (by decide) ?_
        have hP9 := hP.sub (ws' := [(h0, .inr (1, [.int (nI md), .int (nI bt), .int (nI lo), .int (nI nl), .ref sa, .ref ta, .ref fa, .ref pa, .int (nI pe), .ref ba])), (sa, .inl (cI, rn, .inl (sf))), (ta, .inl (cI, rn, .inl (tf))), (fa, .inl (cI, rn, .inl (uf)))]) [2, 3, 0, 1] rfl
        have hD9 := hD.sub (ws' := [(h0, .inr (1, [.int (nI md), .int (nI bt), .int (nI lo), .int (nI nl), .ref sa, .ref ta, .ref fa, .ref pa, .int (nI pe), .ref ba])), (sa, .inl (cI, rn, .inl (sf))), (ta, .inl (cI, rn, .inl (tf))), (fa, .inl (cI, rn, .inl (uf)))]) [2, 3, 0, 1] rfl rfl
        exact zreti hx hb hr rfl hlocks hS (bt, pe, sf) ⟨by rw [hnone]; rfl, by rw [hnone]; exact hR⟩ rfl hP9 hD9 d_Me_dropGiven_31

set_option maxHeartbeats 4000000 in
theorem c_Me_dropLast (l : Launch) (D : va_G) (cI cB cJ : ClassId) (sz : Nat) (n0 : Int32) (h0 : Nat) (md : Nat) (bt : Nat) (lo : Nat) (nl : Nat) (sa : Nat) (ta : Nat) (fa : Nat) (pa : Nat) (pe : Nat) (ba : Nat) (rn : Nat) (sf : Nat → Int32) (tf : Nat → Int32) (uf : Nat → Int32) (M : MM) (pn : Nat) (pf : Nat → Int32) (hR : cRep M md bt nl pe rn pn sf tf uf pf) (hlo : lo = (mLs M).length) : zMet l y_Me_dropLast (zWs y_Me_dropLast b_Me_dropLast 3 (some .boolean)) { frames := 2, cells := 0, slots := 0, locals := 42 } (zPc D (zT cI cB cJ) sz [(h0, .inr (1, [.int (nI md), .int (nI bt), .int (nI lo), .int (nI nl), .ref sa, .ref ta, .ref fa, .ref pa, .int (nI pe), .ref ba])), (sa, .inl (cI, rn, .inl (sf))), (ta, .inl (cI, rn, .inl (tf))), (fa, .inl (cI, rn, .inl (uf)))] [.ref h0, .int n0]) (zQi D (va_A [(h0, .inr (1, [.int (nI md), .int (nI bt), .int (nI lo), .int (nI nl), .ref sa, .ref ta, .ref fa, .ref pa, .int (nI pe), .ref ba])), (sa, .inl (cI, rn, .inl (sf))), (ta, .inl (cI, rn, .inl (tf))), (fa, .inl (cI, rn, .inl (uf)))] sz) (fun r (U : (Nat × Nat × Nat × Nat × (Nat → Int32))) => r = (if (mDropL M n0).isSome = true then 1 else 0) ∧ cRep ((mDropL M n0).getD M) md U.1 U.2.1 U.2.2.1 rn pn U.2.2.2.2 tf uf pf ∧ U.2.2.2.1 = (mLs ((mDropL M n0).getD M)).length) (fun _ => (0, 0)) (fun (U : (Nat × Nat × Nat × Nat × (Nat → Int32))) => [(h0, .inr (1, [.int (nI md), .int (nI U.1), .int (nI U.2.2.2.1), .int (nI U.2.1), .ref sa, .ref ta, .ref fa, .ref pa, .int (nI U.2.2.1), .ref ba])), (sa, .inl (cI, rn, .inl (U.2.2.2.2))), (ta, .inl (cI, rn, .inl (tf))), (fa, .inl (cI, rn, .inl (uf)))])) (va_A [(h0, .inr (1, [.int (nI md), .int (nI bt), .int (nI lo), .int (nI nl), .ref sa, .ref ta, .ref fa, .ref pa, .int (nI pe), .ref ba])), (sa, .inl (cI, rn, .inl (sf))), (ta, .inl (cI, rn, .inl (tf))), (fa, .inl (cI, rn, .inl (uf)))] sz) := by
  refine zstart (Qc := fun A => zQi D A (fun r (U : (Nat × Nat × Nat × Nat × (Nat → Int32))) => r = (if (mDropL M n0).isSome = true then 1 else 0) ∧ cRep ((mDropL M n0).getD M) md U.1 U.2.1 U.2.2.1 rn pn U.2.2.2.2 tf uf pf ∧ U.2.2.2.1 = (mLs ((mDropL M n0).getD M)).length) (fun _ => (0, 0)) (fun (U : (Nat × Nat × Nat × Nat × (Nat → Int32))) => [(h0, .inr (1, [.int (nI md), .int (nI U.1), .int (nI U.2.2.2.1), .int (nI U.2.1), .ref sa, .ref ta, .ref fa, .ref pa, .int (nI U.2.2.1), .ref ba])), (sa, .inl (cI, rn, .inl (U.2.2.2.2))), (ta, .inl (cI, rn, .inl (tf))), (fa, .inl (cI, rn, .inl (uf)))])) (by decide) (Nat.le_of_ble_eq_true rfl) ?_
  intro p e s m below meth c ls A hE hr hlocks hin hsz hK hP hD hS hA hAe hl
  have hx := hE.1
  have hb := hE.2.1
  have hown := hE.2.2.2.1
  have hw := hE.2.2.2.2
  have hl : lv_has ls 3 [(0, .ref h0), (1, .int n0)] := hl
  have hlo8 : lo ≤ 8000 := by have q1 := hR.1.2.2.2.2.1; have q2 := hR.1.1; omega
  refine lv_iload_n hx hb d_Me_dropLast_0 rfl (lv_at hl 1 rfl) ?_
  refine lv_if_lt (tgt := 12) hx hb d_Me_dropLast_1 (by decide) (fun h1 => ?_) (fun h1 => ?_)
  · have hnone : mDropL M n0 = none := if_neg (fun q => by have q1 := z_lt h1; have k0 : ((0) : Int32).toInt = 0 := (by decide); omega)
    refine lv_iconst (v := 0) hx hb d_Me_dropLast_12 (by decide) ?_
    have hP9 := hP.sub (ws' := [(h0, .inr (1, [.int (nI md), .int (nI bt), .int (nI lo), .int (nI nl), .ref sa, .ref ta, .ref fa, .ref pa, .int (nI pe), .ref ba])), (sa, .inl (cI, rn, .inl (sf))), (ta, .inl (cI, rn, .inl (tf))), (fa, .inl (cI, rn, .inl (uf)))]) [0, 1, 2, 3] rfl
    have hD9 := hD.sub (ws' := [(h0, .inr (1, [.int (nI md), .int (nI bt), .int (nI lo), .int (nI nl), .ref sa, .ref ta, .ref fa, .ref pa, .int (nI pe), .ref ba])), (sa, .inl (cI, rn, .inl (sf))), (ta, .inl (cI, rn, .inl (tf))), (fa, .inl (cI, rn, .inl (uf)))]) [0, 1, 2, 3] rfl rfl
    exact zreti hx hb hr rfl hlocks hS (bt, nl, pe, lo, sf) ⟨by rw [hnone]; rfl, by rw [hnone]; exact hR, by rw [hnone]; exact hlo⟩ rfl hP9 hD9 d_Me_dropLast_13
  · refine lv_iload_n hx hb d_Me_dropLast_4 rfl (lv_at hl 1 rfl) ?_
    refine lv_aload_n hx hb d_Me_dropLast_5 rfl (lv_at hl 0 rfl) ?_
    refine zget hE hK hP 0 rfl fd_Me_33 rfl d_Me_dropLast_6 ?_
    refine lv_icmp_le (tgt := 14) hx hb d_Me_dropLast_9 (by decide) (fun h2 => ?_) (fun h2 => ?_)
    · obtain ⟨kn, hkn, rfl⟩ := nI_of2 (nI_toInt (n := lo) (by omega)) h1 h2
      have hsm : mDropL M (nI kn) = some (mPopN kn M) := by unfold mDropL; rw [nI_toInt (by omega), if_pos (by omega)]; rfl
      refine lv_iconst (v := 0) hx hb d_Me_dropLast_14 (by decide) ?_
      refine lv_istore_n (lv' := [(2, .int 0), (0, .ref h0), (1, .int (nI kn))]) hx hb d_Me_dropLast_15 rfl hl (by decide) rfl (fun ls hl => ?_)
      refine zloopH (σ := (Nat × Nat × Nat × Nat × (Nat → Int32))) (fun j x ls H locs cells slots => (x.1 + j = kn ∧ cRep (mPopN x.1 M) md x.2.1 x.2.2.1 x.2.2.2.1 rn pn x.2.2.2.2 tf uf pf ∧ (mLs (mPopN x.1 M)).length + x.1 = lo ∧ cells = 0 ∧ slots = 0) ∧ lv_has ls 3 [(2, .int (nI x.1)), (0, .ref h0), (1, .int (nI kn))] ∧ va_P D zC [(h0, .inr (1, [.int (nI md), .int (nI x.2.1), .int (nI lo), .int (nI x.2.2.1), .ref sa, .ref ta, .ref fa, .ref pa, .int (nI x.2.2.2.1), .ref ba])), (sa, .inl (cI, rn, .inl (x.2.2.2.2))), (ta, .inl (cI, rn, .inl (tf))), (fa, .inl (cI, rn, .inl (uf)))] H ∧ va_D A [(h0, .inr (1, [.int (nI md), .int (nI x.2.1), .int (nI lo), .int (nI x.2.2.1), .ref sa, .ref ta, .ref fa, .ref pa, .int (nI x.2.2.2.1), .ref ba])), (sa, .inl (cI, rn, .inl (x.2.2.2.2))), (ta, .inl (cI, rn, .inl (tf))), (fa, .inl (cI, rn, .inl (uf)))] ∧ va_S A s.heap H locs) (fun j x ls H locs cells slots hI ih => ?_) kn (0, bt, nl, pe, sf) ls ⟨⟨by show 0 + kn = kn; omega, hR, hlo.symm, rfl, rfl⟩, hl, hP, hD, hS⟩
      obtain ⟨i, b2, n2, p2, s2⟩ := x
      obtain ⟨⟨hj, hR2, hln, rfl, rfl⟩, hl, hP, hD, hS⟩ := hI
      dsimp only at hj hR2 hln
      have hl : lv_has ls 3 [(2, .int (nI i)), (0, .ref h0), (1, .int (nI kn))] := hl
      have hP : va_P D zC [(h0, .inr (1, [.int (nI md), .int (nI b2), .int (nI lo), .int (nI n2), .ref sa, .ref ta, .ref fa, .ref pa, .int (nI p2), .ref ba])), (sa, .inl (cI, rn, .inl (s2))), (ta, .inl (cI, rn, .inl (tf))), (fa, .inl (cI, rn, .inl (uf)))] _ := hP
      have hD : va_D A [(h0, .inr (1, [.int (nI md), .int (nI b2), .int (nI lo), .int (nI n2), .ref sa, .ref ta, .ref fa, .ref pa, .int (nI p2), .ref ba])), (sa, .inl (cI, rn, .inl (s2))), (ta, .inl (cI, rn, .inl (tf))), (fa, .inl (cI, rn, .inl (uf)))] := hD
      refine lv_iload_n hx hb d_Me_dropLast_16 rfl (lv_at hl 0 rfl) ?_
      refine lv_iload_n hx hb d_Me_dropLast_17 rfl (lv_at hl 2 rfl) ?_
      refine lv_icmp_ge (tgt := 48) hx hb d_Me_dropLast_18 (by decide) (fun h3 => ?_) (fun h3 => ?_)
      · have hik : i = kn := by have := z_le' (by omega) h3; omega
        refine lv_aload_n hx hb d_Me_dropLast_48 rfl (lv_at hl 1 rfl) ?_
        refine lv_dup hx hb d_Me_dropLast_49 rfl ?_
        refine zget hE hK hP 0 rfl fd_Me_33 rfl d_Me_dropLast_50 ?_
        refine lv_iload_n hx hb d_Me_dropLast_53 rfl (lv_at hl 2 rfl) ?_
        refine lv_isub hx hb d_Me_dropLast_54 ?_
        refine z_st (st' := [.int (nI (lo - kn)), .ref h0]) (by rw [show (((nI lo) - (nI kn)) : Int32) = nI (lo - kn) from pk_sub (by omega)]) ?_
        refine zput (v := .int (nI (lo - kn))) hE hK hP hD hS 0 rfl fd_Me_33 ft_Me_2 rfl rfl (Nat.le_of_ble_eq_true rfl) d_Me_dropLast_55 (fun H locs hP hD hS => ?_)
        have hP : va_P D zC [(h0, .inr (1, [.int (nI md), .int (nI b2), .int (nI (lo - kn)), .int (nI n2), .ref sa, .ref ta, .ref fa, .ref pa, .int (nI p2), .ref ba])), (sa, .inl (cI, rn, .inl (s2))), (ta, .inl (cI, rn, .inl (tf))), (fa, .inl (cI, rn, .inl (uf)))] _ := hP
        have hD : va_D A [(h0, .inr (1, [.int (nI md), .int (nI b2), .int (nI (lo - kn)), .int (nI n2), .ref sa, .ref ta, .ref fa, .ref pa, .int (nI p2), .ref ba])), (sa, .inl (cI, rn, .inl (s2))), (ta, .inl (cI, rn, .inl (tf))), (fa, .inl (cI, rn, .inl (uf)))] := hD
        refine lv_iconst (v := 1) hx hb d_Me_dropLast_58 (by decide) ?_
        have hP9 := hP.sub (ws' := [(h0, .inr (1, [.int (nI md), .int (nI b2), .int (nI (lo - kn)), .int (nI n2), .ref sa, .ref ta, .ref fa, .ref pa, .int (nI p2), .ref ba])), (sa, .inl (cI, rn, .inl (s2))), (ta, .inl (cI, rn, .inl (tf))), (fa, .inl (cI, rn, .inl (uf)))]) [0, 1, 2, 3] rfl
        have hD9 := hD.sub (ws' := [(h0, .inr (1, [.int (nI md), .int (nI b2), .int (nI (lo - kn)), .int (nI n2), .ref sa, .ref ta, .ref fa, .ref pa, .int (nI p2), .ref ba])), (sa, .inl (cI, rn, .inl (s2))), (ta, .inl (cI, rn, .inl (tf))), (fa, .inl (cI, rn, .inl (uf)))]) [0, 1, 2, 3] rfl rfl
        exact zreti hx hb hr rfl hlocks hS (b2, n2, p2, lo - kn, s2) ⟨by rw [hsm]; rfl, by rw [hsm]; exact hik ▸ hR2, by rw [hsm]; show lo - kn = (mLs (mPopN kn M)).length; rw [← hik]; omega⟩ rfl hP9 hD9 d_Me_dropLast_59
      · have hlt : i < kn := z_nle' (by omega) h3
        have hne : mLs (mPopN i M) ≠ [] := fun q => by rw [q] at hln; simp only [List.length_nil] at hln; omega
        obtain ⟨kk, rr, hls⟩ := List.exists_cons_of_ne_nil hne
        have hn2 : n2 = kk := by rw [hR2.2.2.2.1, hls]; rfl
        subst hn2
        obtain ⟨zz, hz, hg⟩ := hR2.1.2.2.2.2.2.2.1 n2 (by rw [hls]; exact List.mem_cons_self)
        obtain ⟨a1, a2, a3, a4, ⟨qq, a5, a6, a7, a8⟩, a9, a10, a11⟩ := cRep_at hR2 hz
        obtain ⟨hR3, hls3, hu⟩ := cRep_last hR2 hls hz a5 a6
        refine lv_aload_n hx hb d_Me_dropLast_21 rfl (lv_at hl 1 rfl) ?_
        refine lv_aload_n hx hb d_Me_dropLast_22 rfl (lv_at hl 1 rfl) ?_
        refine zget hE hK hP 0 rfl fd_Me_36 rfl d_Me_dropLast_23 ?_
        refine zgov (wr := [(fa, .inl (cI, rn, .inl (uf)))]) (zrunV (n := 1) (As := [.int (nI n2)]) (rest := []) hE (c_Me_drop l D cI cB cJ _ (nI n2) h0 md b2 lo n2 sa ta fa pa p2 ba rn s2 tf n2 zz qq rfl a1 a2 a3 a4 a5 a6 a9 a10 a11) cb_Me_drop lk_Me_79 in_Me_drop se_Me_drop (zpreV (q0 := 0) hK hP hD rfl rfl rfl [0, 1, 2] rfl rfl rfl) ⟨Nat.le_of_ble_eq_true rfl, Nat.le_of_ble_eq_true rfl, Nat.le_of_ble_eq_true rfl, Nat.le_of_ble_eq_true rfl⟩ rfl hl.1 rfl (Nat.le_of_ble_eq_true rfl) d_Me_dropLast_26) hP hD hS hA [0, 1, 2] [3] rfl rfl rfl (by decide) (fun u6 H locs hq4 hP hD hS => ?_)
        clear hq4
        have hP : va_P D zC [(fa, .inl (cI, rn, .inl (uf))), (h0, .inr (1, [.int (nI md), .int (nI (b2 - up4 zz)), .int (nI lo), .int (nI n2), .ref sa, .ref ta, .ref fa, .ref pa, .int (nI (if qq + up4 zz = p2 then qq else p2)), .ref ba])), (sa, .inl (cI, rn, .inl (upd s2 n2 (-1)))), (ta, .inl (cI, rn, .inl (tf)))] _ := hP
        have hD : va_D A [(fa, .inl (cI, rn, .inl (uf))), (h0, .inr (1, [.int (nI md), .int (nI (b2 - up4 zz)), .int (nI lo), .int (nI n2), .ref sa, .ref ta, .ref fa, .ref pa, .int (nI (if qq + up4 zz = p2 then qq else p2)), .ref ba])), (sa, .inl (cI, rn, .inl (upd s2 n2 (-1)))), (ta, .inl (cI, rn, .inl (tf)))] := hD
        refine lv_aload_n hx hb d_Me_dropLast_29 rfl (lv_at hl 1 rfl) ?_
        refine lv_aload_n hx hb d_Me_dropLast_30 rfl (lv_at hl 1 rfl) ?_
        refine zget hE hK hP 1 rfl fd_Me_16 rfl d_Me_dropLast_31 ?_
        refine lv_aload_n hx hb d_Me_dropLast_34 rfl (lv_at hl 1 rfl) ?_
        refine zget hE hK hP 1 rfl fd_Me_36 rfl d_Me_dropLast_35 ?_
        refine va_iald hx hb hK hP 0 0 rfl rfl (vp_in_nI a1 (by omega)) d_Me_dropLast_38 ?_
        refine z_st (st' := [.int (nI (rr.headD 0)), .ref h0]) (by rw [show ((uf (nI n2).toNatClampNeg) : Int32) = nI (rr.headD 0) from by rw [nI_clamp (by omega)]; exact hu]) ?_
        refine zput (v := .int (nI (rr.headD 0))) hE hK hP hD hS 1 rfl fd_Me_36 ft_Me_3 rfl rfl (Nat.le_of_ble_eq_true rfl) d_Me_dropLast_39 (fun H locs hP hD hS => ?_)
        have hP : va_P D zC [(fa, .inl (cI, rn, .inl (uf))), (h0, .inr (1, [.int (nI md), .int (nI (b2 - up4 zz)), .int (nI lo), .int (nI (rr.headD 0)), .ref sa, .ref ta, .ref fa, .ref pa, .int (nI (if qq + up4 zz = p2 then qq else p2)), .ref ba])), (sa, .inl (cI, rn, .inl (upd s2 n2 (-1)))), (ta, .inl (cI, rn, .inl (tf)))] _ := hP
        have hD : va_D A [(fa, .inl (cI, rn, .inl (uf))), (h0, .inr (1, [.int (nI md), .int (nI (b2 - up4 zz)), .int (nI lo), .int (nI (rr.headD 0)), .ref sa, .ref ta, .ref fa, .ref pa, .int (nI (if qq + up4 zz = p2 then qq else p2)), .ref ba])), (sa, .inl (cI, rn, .inl (upd s2 n2 (-1)))), (ta, .inl (cI, rn, .inl (tf)))] := hD
        refine lv_iinc (k := 0) (v := (nI i) + 1) (lv' := [(2, .int ((nI i) + 1)), (0, .ref h0), (1, .int (nI kn))]) hx hb d_Me_dropLast_42 hl rfl rfl (by decide) rfl (fun ls hl => ?_)
        refine lv_goto (tgt := 16) hx hb d_Me_dropLast_45 (by decide) ?_
        rw [nI_1] at hl
        have hpp : mPopN (i + 1) M = mGone (mPopN i M) n2 := by rw [mPopN_s, hls]; rfl
        have hP := hP.sub (ws' := [(h0, .inr (1, [.int (nI md), .int (nI (b2 - up4 zz)), .int (nI lo), .int (nI (rr.headD 0)), .ref sa, .ref ta, .ref fa, .ref pa, .int (nI (if qq + up4 zz = p2 then qq else p2)), .ref ba])), (sa, .inl (cI, rn, .inl (upd s2 n2 (-1)))), (ta, .inl (cI, rn, .inl (tf))), (fa, .inl (cI, rn, .inl (uf)))]) [1, 2, 3, 0] rfl
        have hD := hD.sub (ws' := [(h0, .inr (1, [.int (nI md), .int (nI (b2 - up4 zz)), .int (nI lo), .int (nI (rr.headD 0)), .ref sa, .ref ta, .ref fa, .ref pa, .int (nI (if qq + up4 zz = p2 then qq else p2)), .ref ba])), (sa, .inl (cI, rn, .inl (upd s2 n2 (-1)))), (ta, .inl (cI, rn, .inl (tf))), (fa, .inl (cI, rn, .inl (uf)))]) [1, 2, 3, 0] rfl rfl
        exact ih (j - 1) (i + 1, b2 - up4 zz, rr.headD 0, (if qq + up4 zz = p2 then qq else p2), upd s2 n2 (-1)) ls H locs 0 0 (by omega) ⟨⟨by show i + 1 + (j - 1) = kn; omega, by show cRep (mPopN (i + 1) M) _ _ _ _ _ _ _ _ _ _; rw [hpp]; exact hR3, by show (mLs (mPopN (i + 1) M)).length + (i + 1) = lo; rw [hpp, hls3]; rw [hls] at hln; simp only [List.length_cons] at hln; omega, rfl, rfl⟩, hl, hP, hD, hS⟩
    · have hnone : mDropL M n0 = none := if_neg (fun q => by have q1 := z_nlt h1; have q2 := z_nle h2; have k0 : ((0) : Int32).toInt = 0 := (by decide); have ni0 : (nI lo).toInt = ((lo : Nat) : Int) := nI_toInt (by omega); omega)
      refine lv_iconst (v := 0) hx hb d_Me_dropLast_12 (by decide) ?_
      have hP9 := hP.sub (ws' := [(h0, .inr (1, [.int (nI md), .int (nI bt), .int (nI lo), .int (nI nl), .ref sa, .ref ta, .ref fa, .ref pa, .int (nI pe), .ref ba])), (sa, .inl (cI, rn, .inl (sf))), (ta, .inl (cI, rn, .inl (tf))), (fa, .inl (cI, rn, .inl (uf)))]) [0, 1, 2, 3] rfl
      have hD9 := hD.sub (ws' := [(h0, .inr (1, [.int (nI md), .int (nI bt), .int (nI lo), .int (nI nl), .ref sa, .ref ta, .ref fa, .ref pa, .int (nI pe), .ref ba])), (sa, .inl (cI, rn, .inl (sf))), (ta, .inl (cI, rn, .inl (tf))), (fa, .inl (cI, rn, .inl (uf)))]) [0, 1, 2, 3] rfl rfl
      exact zreti hx hb hr rfl hlocks hS (bt, nl, pe, lo, sf) ⟨by rw [hnone]; rfl, by rw [hnone]; exact hR, by rw [hnone]; exact hlo⟩ rfl hP9 hD9 d_Me_dropLast_13
end
section
/-! the pool is tidied -/
theorem mSum_mono {sz : Nat → Option Nat} {a : Nat} : ∀ b, a ≤ b → mSum sz a ≤ mSum sz b
  | 0, h => by
    have : a = 0 := by omega
    subst this
    exact Nat.le_refl _
  | b + 1, h => by
    by_cases c : a = b + 1
    · subst c
      exact Nat.le_refl _
    · have := mSum_mono (sz := sz) (a := a) b (by omega)
      show mSum sz a ≤ mSum sz b + mUp (sz (b + 1))
      omega
theorem mSum_at {sz : Nat → Option Nat} {k z : Nat} (h1 : 1 ≤ k) (hk : sz k = some z) : mSum sz k = mSum sz (k - 1) + up4 z := by
  obtain ⟨j, rfl⟩ : ∃ j, k = j + 1 := ⟨k - 1, by omega⟩
  show mSum sz j + mUp (sz (j + 1)) = _
  rw [hk]
  rfl
theorem mSum_skip {sz : Nat → Option Nat} {k : Nat} (h1 : 1 ≤ k) (hk : sz k = none) : mSum sz k = mSum sz (k - 1) := by
  obtain ⟨j, rfl⟩ : ∃ j, k = j + 1 := ⟨k - 1, by omega⟩
  show mSum sz j + mUp (sz (j + 1)) = _
  rw [hk]
  rfl
/-- those before lie before -/
theorem mSum_st {sz : Nat → Option Nat} {st : Nat → Nat} (g2 : ∀ j k y z, j < k → sz j = some y → sz k = some z → 0 < y → 0 < z → st j + up4 y ≤ st k) : ∀ n j z, sz j = some z → 0 < z → n < j → mSum sz n ≤ st j
  | 0, j, z, _, _, _ => Nat.zero_le _
  | n + 1, j, z, hj, hz, hn => by
    show mSum sz n + mUp (sz (n + 1)) ≤ st j
    cases e : sz (n + 1) with
    | none =>
      have := mSum_st g2 n j z hj hz (by omega)
      show _ + 0 ≤ _
      omega
    | some y =>
      rcases Nat.eq_zero_or_pos y with c | c
      · have := mSum_st g2 n j z hj hz (by omega)
        subst c
        show _ + up4 0 ≤ _
        have : up4 0 = 0 := rfl
        omega
      · have q1 := mSum_st g2 n (n + 1) y e c (by omega)
        have q2 := g2 (n + 1) j y z hn e hj c hz
        show _ + up4 y ≤ _
        omega
def tInv (M : MM) (pn : Nat) (st : Nat → Nat) (k : Nat) (tf pf : Nat → Int32) : Prop := (∀ j z, mSz M j = some z → j < k → tf j = nI (mSum (mSz M) (j - 1)) ∧ ∀ i, i < z → pf (mSum (mSz M) (j - 1) + i) = mCt M j i) ∧
  (∀ j z, mSz M j = some z → k ≤ j → tf j = nI (st j) ∧ ∀ i, i < z → pf (st j + i) = mCt M j i) ∧ ∀ i, i < pn → fits .byte (.int (pf i)) = true
theorem tInv_skip {M : MM} {pn : Nat} {st : Nat → Nat} {k : Nat} {tf pf : Nat → Int32} (h : tInv M pn st k tf pf) (hk : mSz M k = none) : tInv M pn st (k + 1) tf pf := by
  obtain ⟨h1, h2, h3⟩ := h
  refine ⟨fun j z hj hjk => h1 j z hj ?_, fun j z hj hjk => h2 j z hj (by omega), h3⟩
  have : j ≠ k := fun e => by rw [e, hk] at hj; cases hj
  omega
theorem tInv_step {M : MM} {pn : Nat} {st : Nat → Nat} {k z : Nat} {tf pf : Nat → Int32} (hI : MI M) (g2 : ∀ j k y z, j < k → mSz M j = some y → mSz M k = some z → 0 < y → 0 < z → st j + up4 y ≤ st k) (h : tInv M pn st k tf pf) (hk : mSz M k = some z) (hb : 0 < z → st k + up4 z ≤ pn) (hpn : pn ≤ 80000) (hs0 : z = 0 → st k ≤ pn) :
    tInv M pn st (k + 1) (upd tf k (nI (mSum (mSz M) (k - 1)))) (va_cpy pf pf (st k) (mSum (mSz M) (k - 1)) (up4 z)) := by
  obtain ⟨h1, h2, h3⟩ := h
  have hk1 := hI.2.2.1 k z hk
  have hle := up4_le z
  refine ⟨fun j y hj hjk => ?_, fun j y hj hjk => ?_, fun i hi => ?_⟩
  · have hj1 := hI.2.2.1 j y hj
    by_cases c : j = k
    · subst c
      cases hk.symm.trans hj
      refine ⟨upd_self _ _ _, fun i hi => ?_⟩
      rw [pk_cpy_in (by omega) (by omega), show mSum (mSz M) (j - 1) + i - mSum (mSz M) (j - 1) = i by omega]
      exact (h2 j z hk (Nat.le_refl _)).2 i hi
    · obtain ⟨q1, q2⟩ := h1 j y hj (by omega)
      refine ⟨by rw [upd_ne c]; exact q1, fun i hi => ?_⟩
      have e1 := mSum_at hj1.1 hj
      have e2 := mSum_mono (sz := mSz M) (a := j) (k - 1) (by omega)
      have e3 := up4_le y
      rw [pk_cpy_out (by omega)]
      exact q2 i hi
  · obtain ⟨q1, q2⟩ := h2 j y hj (by omega)
    refine ⟨by rw [upd_ne (by omega)]; exact q1, fun i hi => ?_⟩
    rw [pk_cpy_out ?_]
    · exact q2 i hi
    · rcases Nat.eq_zero_or_pos z with c | c
      · right
        have : up4 0 = 0 := rfl
        subst c
        have := mSum_st g2 (k - 1) j y hj (by omega) (by omega)
        omega
      · right
        have w1 := mSum_st g2 (k - 1) k z hk c (by omega)
        have w2 := g2 k j z y (by omega) hk hj c (by omega)
        omega
  · by_cases c : mSum (mSz M) (k - 1) ≤ i ∧ i < mSum (mSz M) (k - 1) + up4 z
    · rw [pk_cpy_in c.1 c.2]
      rcases Nat.eq_zero_or_pos z with d | d
      · subst d
        have : up4 0 = 0 := rfl
        omega
      · exact h3 _ (by have := hb d; omega)
    · rw [pk_cpy_out (by omega)]
      exact h3 i hi
def tdl (pn w : Nat) : Nat := if 2 * w ≤ pn then pn else min 80000 (2 * (2 * w))
def tkc (pn w : Nat) : Nat := if 2 * w ≤ pn then 0 else 1
def tks (pn w : Nat) : Nat := if 2 * w ≤ pn then 0 else tdl pn w
theorem cRep_bt {M : MM} {md bt nl pe rn pn : Nat} {sf tf uf pf : Nat → Int32} (h : cRep M md bt nl pe rn pn sf tf uf pf) : bt ≤ pn := by
  obtain ⟨hI, h1, h2, h3, h4, h5, h6, h7, h8, h9, h10, h11, h12, st0, g1, g2, g3⟩ := h
  rw [h2, hI.2.2.2.1]
  have key : ∀ n, n ≤ mMd M → mSum (mSz M) n ≤ pe := by
    intro n
    induction n with
    | zero => intro _; exact Nat.zero_le _
    | succ n ih =>
      intro hn
      show mSum (mSz M) n + mUp (mSz M (n + 1)) ≤ pe
      cases e : mSz M (n + 1) with
      | none => exact ih (by omega)
      | some y =>
        rcases Nat.eq_zero_or_pos y with c | c
        · subst c
          exact ih (by omega)
        · have q1 := mSum_st g2 n (n + 1) y e c (by omega)
          have q2 := (g1 (n + 1) y e).2.2 c
          show _ + up4 y ≤ _
          omega
  exact Nat.le_trans (key _ (Nat.le_refl _)) h6
theorem cRep_in {M : MM} {md bt nl pe rn pn : Nat} {sf tf uf pf : Nat → Int32} (h : cRep M md bt nl pe rn pn sf tf uf pf) {k z : Nat} (hk : mSz M k = some z) : mSum (mSz M) (k - 1) + up4 z ≤ bt := by
  obtain ⟨k1, k2, k3⟩ := h.1.2.2.1 k z hk
  have e1 := mSum_at k1 hk
  have e2 := mSum_mono (sz := mSz M) (a := k) (mMd M) k2
  rw [h.2.2.1, h.1.2.2.2.1]
  omega
theorem cRep_sz {M : MM} {md bt nl pe rn pn : Nat} {sf tf uf pf : Nat → Int32} (h : cRep M md bt nl pe rn pn sf tf uf pf) {k : Nat} (h1 : 1 ≤ k) (h2 : k ≤ md) : sf k = -1 ↔ mSz M k = none := by
  rw [h.2.2.2.2.2.2.2.2.2.2.1 k h1 h2]
  cases e : mSz M k with
  | none => exact ⟨fun _ => rfl, fun _ => rfl⟩
  | some z =>
    have := h.1.2.2.1 k z e
    exact ⟨fun q => absurd q (nI_nm1 (by omega)), fun q => by cases q⟩
/-- behind the tidying -/
theorem cRep_tidy {M : MM} {md bt nl pe rn pn : Nat} {sf tf uf pf tf2 pf2 : Nat → Int32} {st : Nat → Nat} (h : cRep M md bt nl pe rn pn sf tf uf pf) (ht : tInv M pn st (md + 1) tf2 pf2) : cRep M md bt nl bt rn pn sf tf2 uf pf2 := by
  have hbt := cRep_bt h
  obtain ⟨hI, h1, h2, h3, h4, h5, h6, h7, h8, h9, h10, h11, h12, st0, g1, g2, g3⟩ := h
  have hin : ∀ k z, mSz M k = some z → mSum (mSz M) (k - 1) + up4 z ≤ bt := by
    intro k z hk
    obtain ⟨k1, k2, k3⟩ := hI.2.2.1 k z hk
    have e1 := mSum_at k1 hk
    have e2 := mSum_mono (sz := mSz M) (a := k) (mMd M) k2
    rw [h2, hI.2.2.2.1]
    omega
  refine ⟨hI, h1, h2, h3, h4, h5, hbt, h7, h8, ht.2.2, h10, h11, h12, fun k => mSum (mSz M) (k - 1), ?_, ?_, ?_⟩
  · intro k z hk
    obtain ⟨k1, k2, k3⟩ := hI.2.2.1 k z hk
    have := hin k z hk
    exact ⟨(ht.1 k z hk (by omega)).1, by show mSum (mSz M) (k - 1) ≤ pn; omega, fun _ => this⟩
  · intro j k y z hjk hj hk _ _
    obtain ⟨k1, k2, k3⟩ := hI.2.2.1 j y hj
    have e1 := mSum_at k1 hj
    have e2 := mSum_mono (sz := mSz M) (a := j) (k - 1) (by omega)
    show mSum (mSz M) (j - 1) + up4 y ≤ mSum (mSz M) (k - 1)
    omega
  · intro k z i hk hi
    obtain ⟨k1, k2, k3⟩ := hI.2.2.1 k z hk
    exact (ht.1 k z hk (by omega)).2 i hi
/-- a longer pool with the same bytes -/
theorem cRep_pool {M : MM} {md bt nl pe rn pn qn : Nat} {sf tf uf pf : Nat → Int32} (h : cRep M md bt nl pe rn pn sf tf uf pf) (h1 : pn ≤ qn) (h2 : qn ≤ 80000) : cRep M md bt nl pe rn qn sf tf uf (va_cpy pf (fun _ => 0) 0 0 pn) := by
  obtain ⟨hI, e1, e2, e3, e4, e5, e6, e7, e8, e9, e10, e11, e12, st, g1, g2, g3⟩ := h
  have hc : ∀ i, i < pn → va_cpy pf (fun _ => 0) 0 0 pn i = pf i := fun i hi => by
    rw [pk_cpy_in (Nat.zero_le _) (by omega), show 0 + (i - 0) = i by omega]
  refine ⟨hI, e1, e2, e3, e4, e5, by omega, by omega, h2, fun i hi => ?_, e10, e11, e12, st, fun k z hk => ?_, g2, fun k z i hk hi => ?_⟩
  · by_cases c : i < pn
    · rw [hc i c]
      exact e9 i c
    · rw [pk_cpy_out (by omega)]
      rfl
  · obtain ⟨a1, a2, a3⟩ := g1 k z hk
    exact ⟨a1, by omega, a3⟩
  · have a3 := (g1 k z hk).2.2 (by omega)
    have := up4_le z
    rw [hc _ (by omega)]
    exact g3 k z i hk hi
end
section
/-! decode rows -/
theorem d_Me_tidy_0 : decode b_Me_tidy 0 = .ok (.iconst 0, 1) := by decide +kernel
theorem d_Me_tidy_1 : decode b_Me_tidy 1 = .ok (.istore_n 2, 1) := by decide +kernel
theorem d_Me_tidy_2 : decode b_Me_tidy 2 = .ok (.iconst 1, 1) := by decide +kernel
theorem d_Me_tidy_3 : decode b_Me_tidy 3 = .ok (.istore_n 3, 1) := by decide +kernel
theorem d_Me_tidy_4 : decode b_Me_tidy 4 = .ok (.iload_n 3, 1) := by decide +kernel
theorem d_Me_tidy_5 : decode b_Me_tidy 5 = .ok (.aload_n 0, 1) := by decide +kernel
theorem d_Me_tidy_6 : decode b_Me_tidy 6 = .ok (.getfield 26, 3) := by decide +kernel
theorem d_Me_tidy_9 : decode b_Me_tidy 9 = .ok (.if_icmp .gt 62, 3) := by decide +kernel
theorem d_Me_tidy_12 : decode b_Me_tidy 12 = .ok (.aload_n 0, 1) := by decide +kernel
theorem d_Me_tidy_13 : decode b_Me_tidy 13 = .ok (.getfield 9, 3) := by decide +kernel
theorem d_Me_tidy_16 : decode b_Me_tidy 16 = .ok (.iload_n 3, 1) := by decide +kernel
theorem d_Me_tidy_17 : decode b_Me_tidy 17 = .ok (.iaload, 1) := by decide +kernel
theorem d_Me_tidy_18 : decode b_Me_tidy 18 = .ok (.iconst (-1), 1) := by decide +kernel
theorem d_Me_tidy_19 : decode b_Me_tidy 19 = .ok (.if_icmp .eq 46, 3) := by decide +kernel
theorem d_Me_tidy_22 : decode b_Me_tidy 22 = .ok (.aload_n 0, 1) := by decide +kernel
theorem d_Me_tidy_23 : decode b_Me_tidy 23 = .ok (.getfield 9, 3) := by decide +kernel
theorem d_Me_tidy_26 : decode b_Me_tidy 26 = .ok (.iload_n 3, 1) := by decide +kernel
theorem d_Me_tidy_27 : decode b_Me_tidy 27 = .ok (.iaload, 1) := by decide +kernel
theorem d_Me_tidy_28 : decode b_Me_tidy 28 = .ok (.invokestatic 42, 3) := by decide +kernel
theorem d_Me_tidy_31 : decode b_Me_tidy 31 = .ok (.istore 4, 2) := by decide +kernel
theorem d_Me_tidy_33 : decode b_Me_tidy 33 = .ok (.aload_n 0, 1) := by decide +kernel
theorem d_Me_tidy_34 : decode b_Me_tidy 34 = .ok (.getfield 19, 3) := by decide +kernel
theorem d_Me_tidy_37 : decode b_Me_tidy 37 = .ok (.aload_n 0, 1) := by decide +kernel
theorem d_Me_tidy_38 : decode b_Me_tidy 38 = .ok (.getfield 13, 3) := by decide +kernel
theorem d_Me_tidy_41 : decode b_Me_tidy 41 = .ok (.iload_n 3, 1) := by decide +kernel
theorem d_Me_tidy_42 : decode b_Me_tidy 42 = .ok (.iaload, 1) := by decide +kernel
theorem d_Me_tidy_43 : decode b_Me_tidy 43 = .ok (.aload_n 0, 1) := by decide +kernel
theorem d_Me_tidy_44 : decode b_Me_tidy 44 = .ok (.getfield 19, 3) := by decide +kernel
theorem d_Me_tidy_47 : decode b_Me_tidy 47 = .ok (.iload_n 2, 1) := by decide +kernel
theorem d_Me_tidy_48 : decode b_Me_tidy 48 = .ok (.iload 4, 2) := by decide +kernel
theorem d_Me_tidy_50 : decode b_Me_tidy 50 = .ok (.invokestatic 54, 3) := by decide +kernel
theorem d_Me_tidy_53 : decode b_Me_tidy 53 = .ok (.aload_n 0, 1) := by decide +kernel
theorem d_Me_tidy_54 : decode b_Me_tidy 54 = .ok (.getfield 13, 3) := by decide +kernel
theorem d_Me_tidy_57 : decode b_Me_tidy 57 = .ok (.iload_n 3, 1) := by decide +kernel
theorem d_Me_tidy_58 : decode b_Me_tidy 58 = .ok (.iload_n 2, 1) := by decide +kernel
theorem d_Me_tidy_59 : decode b_Me_tidy 59 = .ok (.iastore, 1) := by decide +kernel
theorem d_Me_tidy_60 : decode b_Me_tidy 60 = .ok (.iload_n 2, 1) := by decide +kernel
theorem d_Me_tidy_61 : decode b_Me_tidy 61 = .ok (.iload 4, 2) := by decide +kernel
theorem d_Me_tidy_63 : decode b_Me_tidy 63 = .ok (.iadd, 1) := by decide +kernel
theorem d_Me_tidy_64 : decode b_Me_tidy 64 = .ok (.istore_n 2, 1) := by decide +kernel
theorem d_Me_tidy_65 : decode b_Me_tidy 65 = .ok (.iinc 3 1, 3) := by decide +kernel
theorem d_Me_tidy_68 : decode b_Me_tidy 68 = .ok (.goto (-64), 3) := by decide +kernel
theorem d_Me_tidy_71 : decode b_Me_tidy 71 = .ok (.aload_n 0, 1) := by decide +kernel
theorem d_Me_tidy_72 : decode b_Me_tidy 72 = .ok (.iload_n 2, 1) := by decide +kernel
theorem d_Me_tidy_73 : decode b_Me_tidy 73 = .ok (.putfield 39, 3) := by decide +kernel
theorem d_Me_tidy_76 : decode b_Me_tidy 76 = .ok (.iconst 2, 1) := by decide +kernel
theorem d_Me_tidy_77 : decode b_Me_tidy 77 = .ok (.iload_n 2, 1) := by decide +kernel
theorem d_Me_tidy_78 : decode b_Me_tidy 78 = .ok (.iload_n 1, 1) := by decide +kernel
theorem d_Me_tidy_79 : decode b_Me_tidy 79 = .ok (.iadd, 1) := by decide +kernel
theorem d_Me_tidy_80 : decode b_Me_tidy 80 = .ok (.imul, 1) := by decide +kernel
theorem d_Me_tidy_81 : decode b_Me_tidy 81 = .ok (.istore_n 3, 1) := by decide +kernel
theorem d_Me_tidy_82 : decode b_Me_tidy 82 = .ok (.iload_n 3, 1) := by decide +kernel
theorem d_Me_tidy_83 : decode b_Me_tidy 83 = .ok (.aload_n 0, 1) := by decide +kernel
theorem d_Me_tidy_84 : decode b_Me_tidy 84 = .ok (.getfield 19, 3) := by decide +kernel
theorem d_Me_tidy_87 : decode b_Me_tidy 87 = .ok (.arraylength, 1) := by decide +kernel
theorem d_Me_tidy_88 : decode b_Me_tidy 88 = .ok (.if_icmp .le 22, 3) := by decide +kernel
theorem d_Me_tidy_91 : decode b_Me_tidy 91 = .ok (.aload_n 0, 1) := by decide +kernel
theorem d_Me_tidy_92 : decode b_Me_tidy 92 = .ok (.aload_n 0, 1) := by decide +kernel
theorem d_Me_tidy_93 : decode b_Me_tidy 93 = .ok (.getfield 19, 3) := by decide +kernel
theorem d_Me_tidy_96 : decode b_Me_tidy 96 = .ok (.ldc 66, 2) := by decide +kernel
theorem d_Me_tidy_98 : decode b_Me_tidy 98 = .ok (.iconst 2, 1) := by decide +kernel
theorem d_Me_tidy_99 : decode b_Me_tidy 99 = .ok (.iload_n 3, 1) := by decide +kernel
theorem d_Me_tidy_100 : decode b_Me_tidy 100 = .ok (.imul, 1) := by decide +kernel
theorem d_Me_tidy_101 : decode b_Me_tidy 101 = .ok (.invokestatic 67, 3) := by decide +kernel
theorem d_Me_tidy_104 : decode b_Me_tidy 104 = .ok (.invokestatic 73, 3) := by decide +kernel
theorem d_Me_tidy_107 : decode b_Me_tidy 107 = .ok (.putfield 19, 3) := by decide +kernel
theorem d_Me_tidy_110 : decode b_Me_tidy 110 = .ok (.return_, 1) := by decide +kernel

set_option maxHeartbeats 4000000 in
theorem c_Me_tidy (l : Launch) (D : va_G) (cI cB cJ : ClassId) (sz : Nat) (n0 : Int32) (h0 : Nat) (md : Nat) (bt : Nat) (lo : Nat) (nl : Nat) (sa : Nat) (ta : Nat) (fa : Nat) (pa : Nat) (pe : Nat) (ba : Nat) (rn : Nat) (sf : Nat → Int32) (tf : Nat → Int32) (pn : Nat) (pf : Nat → Int32) (M : MM) (uf : Nat → Int32) (w0 : Nat) (hR : cRep M md bt nl pe rn pn sf tf uf pf) (hro : n0 = nI w0) (hbr : bt + w0 ≤ 40000) : zMet l y_Me_tidy (zWs y_Me_tidy b_Me_tidy 5 (none)) { frames := 2, cells := tkc pn (bt + w0), slots := tks pn (bt + w0), locals := 82 } (zPc D (zT cI cB cJ) sz [(h0, .inr (1, [.int (nI md), .int (nI bt), .int (nI lo), .int (nI nl), .ref sa, .ref ta, .ref fa, .ref pa, .int (nI pe), .ref ba])), (sa, .inl (cI, rn, .inl (sf))), (ta, .inl (cI, rn, .inl (tf))), (pa, .inl (cB, pn, .inl (pf)))] [.ref h0, .int n0]) (zQv D (va_A [(h0, .inr (1, [.int (nI md), .int (nI bt), .int (nI lo), .int (nI nl), .ref sa, .ref ta, .ref fa, .ref pa, .int (nI pe), .ref ba])), (sa, .inl (cI, rn, .inl (sf))), (ta, .inl (cI, rn, .inl (tf))), (pa, .inl (cB, pn, .inl (pf)))] sz) (fun (U : (Nat × (Nat → Int32) × (Nat → Int32))) => cRep M md bt nl bt rn (tdl pn (bt + w0)) sf U.2.1 uf U.2.2) (fun _ => (tkc pn (bt + w0), tks pn (bt + w0))) (fun (U : (Nat × (Nat → Int32) × (Nat → Int32))) => [(h0, .inr (1, [.int (nI md), .int (nI bt), .int (nI lo), .int (nI nl), .ref sa, .ref ta, .ref fa, .ref U.1, .int (nI bt), .ref ba])), (sa, .inl (cI, rn, .inl (sf))), (ta, .inl (cI, rn, .inl (U.2.1))), (U.1, .inl (cB, (tdl pn (bt + w0)), .inl (U.2.2)))])) (va_A [(h0, .inr (1, [.int (nI md), .int (nI bt), .int (nI lo), .int (nI nl), .ref sa, .ref ta, .ref fa, .ref pa, .int (nI pe), .ref ba])), (sa, .inl (cI, rn, .inl (sf))), (ta, .inl (cI, rn, .inl (tf))), (pa, .inl (cB, pn, .inl (pf)))] sz) := by
  refine zstart (Qc := fun A => zQv D A (fun (U : (Nat × (Nat → Int32) × (Nat → Int32))) => cRep M md bt nl bt rn (tdl pn (bt + w0)) sf U.2.1 uf U.2.2) (fun _ => (tkc pn (bt + w0), tks pn (bt + w0))) (fun (U : (Nat × (Nat → Int32) × (Nat → Int32))) => [(h0, .inr (1, [.int (nI md), .int (nI bt), .int (nI lo), .int (nI nl), .ref sa, .ref ta, .ref fa, .ref U.1, .int (nI bt), .ref ba])), (sa, .inl (cI, rn, .inl (sf))), (ta, .inl (cI, rn, .inl (U.2.1))), (U.1, .inl (cB, (tdl pn (bt + w0)), .inl (U.2.2)))])) (by decide) (Nat.le_of_ble_eq_true rfl) ?_
  intro p e s m below meth c ls A hE hr hlocks hin hsz hK hP hD hS hA hAe hl
  have hx := hE.1
  have hb := hE.2.1
  have hown := hE.2.2.2.1
  have hw := hE.2.2.2.2
  have hl : lv_has ls 5 [(0, .ref h0), (1, .int n0)] := hl
  obtain ⟨st, g1, g2, g3⟩ := hR.2.2.2.2.2.2.2.2.2.2.2.2.2
  have ht0 : tInv M pn st 1 tf pf := ⟨fun j z hj h => absurd (hR.1.2.2.1 j z hj).1 (by omega), fun j z hj _ => ⟨(g1 j z hj).1, fun i hi => g3 j z i hj hi⟩, hR.2.2.2.2.2.2.2.2.2.1⟩
  have hmd := hR.1.1
  have hmd2 := hR.2.1
  have hmr := hR.2.2.2.2.1
  have hrn := hR.2.2.2.2.2.1
  have hpn := hR.2.2.2.2.2.2.2.2.1
  have hbp := cRep_bt hR
  have hpe := hR.2.2.2.2.2.2.1
  refine lv_iconst (v := 0) hx hb d_Me_tidy_0 (by decide) ?_
  refine lv_istore_n (lv' := [(2, .int 0), (0, .ref h0), (1, .int n0)]) hx hb d_Me_tidy_1 rfl hl (by decide) rfl (fun ls hl => ?_)
  refine lv_iconst (v := 1) hx hb d_Me_tidy_2 (by decide) ?_
  refine lv_istore_n (lv' := [(3, .int 1), (2, .int 0), (0, .ref h0), (1, .int n0)]) hx hb d_Me_tidy_3 rfl hl (by decide) rfl (fun ls hl => ?_)
  refine zloopH (σ := (Nat × (Nat → Int32) × (Nat → Int32))) (fun j x ls H locs cells slots => (x.1 + j = md + 1 ∧ 1 ≤ x.1 ∧ tInv M pn st x.1 x.2.1 x.2.2 ∧ cells = 0 ∧ slots = 0) ∧ lv_has ls 5 [(3, .int (nI x.1)), (2, .int (nI (mSum (mSz M) (x.1 - 1)))), (0, .ref h0), (1, .int n0)] ∧ va_P D zC [(h0, .inr (1, [.int (nI md), .int (nI bt), .int (nI lo), .int (nI nl), .ref sa, .ref ta, .ref fa, .ref pa, .int (nI pe), .ref ba])), (sa, .inl (cI, rn, .inl (sf))), (ta, .inl (cI, rn, .inl (x.2.1))), (pa, .inl (cB, pn, .inl (x.2.2)))] H ∧ va_D A [(h0, .inr (1, [.int (nI md), .int (nI bt), .int (nI lo), .int (nI nl), .ref sa, .ref ta, .ref fa, .ref pa, .int (nI pe), .ref ba])), (sa, .inl (cI, rn, .inl (sf))), (ta, .inl (cI, rn, .inl (x.2.1))), (pa, .inl (cB, pn, .inl (x.2.2)))] ∧ va_S A s.heap H locs) (fun j x ls H locs cells slots hI ih => ?_) md (1, tf, pf) ls ⟨⟨by show 1 + md = md + 1; omega, Nat.le_refl _, ht0, rfl, rfl⟩, hl, hP, hD, hS⟩
  obtain ⟨k, t2, p2⟩ := x
  obtain ⟨⟨hj, hk1, ht, rfl, rfl⟩, hl, hP, hD, hS⟩ := hI
  dsimp only at hj hk1 ht
  have hl : lv_has ls 5 [(3, .int (nI k)), (2, .int (nI (mSum (mSz M) (k - 1)))), (0, .ref h0), (1, .int n0)] := hl
  have hP : va_P D zC [(h0, .inr (1, [.int (nI md), .int (nI bt), .int (nI lo), .int (nI nl), .ref sa, .ref ta, .ref fa, .ref pa, .int (nI pe), .ref ba])), (sa, .inl (cI, rn, .inl (sf))), (ta, .inl (cI, rn, .inl (t2))), (pa, .inl (cB, pn, .inl (p2)))] _ := hP
  have hD : va_D A [(h0, .inr (1, [.int (nI md), .int (nI bt), .int (nI lo), .int (nI nl), .ref sa, .ref ta, .ref fa, .ref pa, .int (nI pe), .ref ba])), (sa, .inl (cI, rn, .inl (sf))), (ta, .inl (cI, rn, .inl (t2))), (pa, .inl (cB, pn, .inl (p2)))] := hD
  refine lv_iload_n hx hb d_Me_tidy_4 rfl (lv_at hl 0 rfl) ?_
  refine lv_aload_n hx hb d_Me_tidy_5 rfl (lv_at hl 2 rfl) ?_
  refine zget hE hK hP 0 rfl fd_Me_26 rfl d_Me_tidy_6 ?_
  refine lv_icmp_gt (tgt := 71) hx hb d_Me_tidy_9 (by decide) (fun h1 => ?_) (fun h1 => ?_)
  · have hkk : k = md + 1 := by have q : ¬ k ≤ md := fun q => absurd h1 (nI_nlt q (by omega)); omega
    subst hkk
    have hend : mSum (mSz M) (md + 1 - 1) = bt := by rw [hR.2.2.1, hR.1.2.2.2.1, ← hmd2]; rfl
    rw [hend] at hl
    have hl : lv_has ls 5 [(3, .int (nI (md + 1))), (2, .int (nI bt)), (0, .ref h0), (1, .int n0)] := hl
    have hR2 := cRep_tidy hR ht
    refine lv_aload_n hx hb d_Me_tidy_71 rfl (lv_at hl 2 rfl) ?_
    refine lv_iload_n hx hb d_Me_tidy_72 rfl (lv_at hl 1 rfl) ?_
    refine zput (v := .int (nI bt)) hE hK hP hD hS 0 rfl fd_Me_39 ft_Me_8 rfl rfl (Nat.le_of_ble_eq_true rfl) d_Me_tidy_73 (fun H locs hP hD hS => ?_)
    have hP : va_P D zC [(h0, .inr (1, [.int (nI md), .int (nI bt), .int (nI lo), .int (nI nl), .ref sa, .ref ta, .ref fa, .ref pa, .int (nI bt), .ref ba])), (sa, .inl (cI, rn, .inl (sf))), (ta, .inl (cI, rn, .inl (t2))), (pa, .inl (cB, pn, .inl (p2)))] _ := hP
    have hD : va_D A [(h0, .inr (1, [.int (nI md), .int (nI bt), .int (nI lo), .int (nI nl), .ref sa, .ref ta, .ref fa, .ref pa, .int (nI bt), .ref ba])), (sa, .inl (cI, rn, .inl (sf))), (ta, .inl (cI, rn, .inl (t2))), (pa, .inl (cB, pn, .inl (p2)))] := hD
    refine lv_iconst (v := 2) hx hb d_Me_tidy_76 (by decide) ?_
    refine lv_iload_n hx hb d_Me_tidy_77 rfl (lv_at hl 1 rfl) ?_
    refine lv_iload_n hx hb d_Me_tidy_78 rfl (lv_at hl 3 rfl) ?_
    refine lv_iadd hx hb d_Me_tidy_79 ?_
    refine z_st (st' := [.int (nI (bt + w0)), .int 2]) (by rw [show (((nI bt) + n0) : Int32) = nI (bt + w0) from by rw [hro]; exact nI_add _ _]) ?_
    refine lv_imul hx hb d_Me_tidy_80 ?_
    refine z_st (st' := [.int (nI (2 * (bt + w0)))]) (by rw [show ((2 * (nI (bt + w0))) : Int32) = nI (2 * (bt + w0)) from pk_mul 2 _]) ?_
    refine lv_istore_n (lv' := [(3, .int (nI (2 * (bt + w0)))), (2, .int (nI bt)), (0, .ref h0), (1, .int n0)]) hx hb d_Me_tidy_81 rfl hl (by decide) rfl (fun ls hl => ?_)
    refine lv_iload_n hx hb d_Me_tidy_82 rfl (lv_at hl 0 rfl) ?_
    refine lv_aload_n hx hb d_Me_tidy_83 rfl (lv_at hl 2 rfl) ?_
    refine zget hE hK hP 0 rfl fd_Me_19 rfl d_Me_tidy_84 ?_
    refine va_alen (v := nI pn) hx hb hK hP 3 1 rfl rfl rfl d_Me_tidy_87 ?_
    refine lv_icmp_le (tgt := 110) hx hb d_Me_tidy_88 (by decide) (fun h2 => ?_) (fun h2 => ?_)
    · have hle : 2 * (bt + w0) ≤ pn := Nat.not_lt.mp (z_le' (by omega) h2)
      have hP9 := hP.sub (ws' := [(h0, .inr (1, [.int (nI md), .int (nI bt), .int (nI lo), .int (nI nl), .ref sa, .ref ta, .ref fa, .ref pa, .int (nI bt), .ref ba])), (sa, .inl (cI, rn, .inl (sf))), (ta, .inl (cI, rn, .inl (t2))), (pa, .inl (cB, pn, .inl (p2)))]) [0, 1, 2, 3] rfl
      have hD9 := hD.sub (ws' := [(h0, .inr (1, [.int (nI md), .int (nI bt), .int (nI lo), .int (nI nl), .ref sa, .ref ta, .ref fa, .ref pa, .int (nI bt), .ref ba])), (sa, .inl (cI, rn, .inl (sf))), (ta, .inl (cI, rn, .inl (t2))), (pa, .inl (cB, pn, .inl (p2)))]) [0, 1, 2, 3] rfl rfl
      exact zretv hx hb hr hlocks hS (pa, t2, p2) (by unfold tdl; rw [if_pos hle]; exact hR2) (by unfold tkc tks; rw [if_pos hle, if_pos hle]) (by unfold tdl; rw [if_pos hle]; exact hP9) (by unfold tdl; rw [if_pos hle]; exact hD9) d_Me_tidy_110
    · have hgt : ¬ 2 * (bt + w0) ≤ pn := fun q => h2 (nI_le q (by omega))
      refine lv_aload_n hx hb d_Me_tidy_91 rfl (lv_at hl 2 rfl) ?_
      refine lv_aload_n hx hb d_Me_tidy_92 rfl (lv_at hl 2 rfl) ?_
      refine zget hE hK hP 0 rfl fd_Me_19 rfl d_Me_tidy_93 ?_
      refine lv_ldc (v := 80000) hx hb hown (hw _ kc_Me_66) d_Me_tidy_96 ?_
      refine lv_iconst (v := 2) hx hb d_Me_tidy_98 (by decide) ?_
      refine lv_iload_n hx hb d_Me_tidy_99 rfl (lv_at hl 0 rfl) ?_
      refine lv_imul hx hb d_Me_tidy_100 ?_
      refine z_st (st' := [.int (nI (2 * (2 * (bt + w0)))), .int 80000, .ref pa, .ref h0]) (by rw [show ((2 * (nI (2 * (bt + w0)))) : Int32) = nI (2 * (2 * (bt + w0))) from pk_mul 2 _]) ?_
      refine va_mmin (R := { frames := 2, cells := tkc pn (bt + w0), slots := tks pn (bt + w0), locals := 82 }) hx hb (hE.2.2.1.trans hl.1.symm) hown (hw _ ml_Me_67) (hw _ mm_min_st) (hw _ mm_ini) (hw _ mm_min_code) (by exact Nat.le_of_ble_eq_true rfl) (by exact Nat.le_of_ble_eq_true rfl) (Nat.zero_le _) (Nat.zero_le _) d_Me_tidy_101 ?_
      refine z_st (st' := [.int (nI (min 80000 (2 * (2 * (bt + w0))))), .ref pa, .ref h0]) (by rw [show ((if (nI (2 * (2 * (bt + w0)))) < 80000 then (nI (2 * (2 * (bt + w0)))) else 80000) : Int32) = nI (min 80000 (2 * (2 * (bt + w0)))) from z_min (a := 80000) (by omega) (by omega)]) ?_
      refine zgor (wr := [(h0, .inr (1, [.int (nI md), .int (nI bt), .int (nI lo), .int (nI nl), .ref sa, .ref ta, .ref fa, .ref pa, .int (nI bt), .ref ba])), (sa, .inl (cI, rn, .inl (sf))), (ta, .inl (cI, rn, .inl (t2)))]) (zrunS (n := 2) (As := [.ref pa, .int (nI (min 80000 (2 * (2 * (bt + w0)))))]) (rest := [.ref h0]) hE (c_Ar_copyOfB l D cI cB cJ _ pa (nI (min 80000 (2 * (2 * (bt + w0))))) pn p2 (min 80000 (2 * (2 * (bt + w0)))) rfl (by omega) (by omega) ht.2.2) cb_Ar_copyOfB lk_Me_73 st_Ar_copyOfB (zpreS hK hP hD [3] rfl rfl rfl) ⟨Nat.le_of_ble_eq_true rfl, Nat.le_of_ble_eq_true rfl, by show 0 + 1 ≤ tkc pn (bt + w0); unfold tkc; rw [if_neg hgt]; exact Nat.le_refl _, by show 0 + min 80000 (2 * (2 * (bt + w0))) ≤ tks pn (bt + w0); unfold tks tdl; rw [if_neg hgt, if_neg hgt]; omega⟩ rfl hl.1 rfl (Nat.le_of_ble_eq_true rfl) d_Me_tidy_104) hP hD hS hA [3] [0, 1, 2] rfl rfl rfl (by decide) (fun r4 u5 H locs hq3 hP hD hS => ?_)
      subst hq3
      have hP : va_P D zC [(h0, .inr (1, [.int (nI md), .int (nI bt), .int (nI lo), .int (nI nl), .ref sa, .ref ta, .ref fa, .ref pa, .int (nI bt), .ref ba])), (sa, .inl (cI, rn, .inl (sf))), (ta, .inl (cI, rn, .inl (t2))), (pa, .inl (cB, pn, .inl (p2))), (u5, .inl (cB, (min 80000 (2 * (2 * (bt + w0)))), .inl (va_cpy p2 (fun _ => 0) 0 0 pn)))] _ := hP
      have hD : va_D A [(h0, .inr (1, [.int (nI md), .int (nI bt), .int (nI lo), .int (nI nl), .ref sa, .ref ta, .ref fa, .ref pa, .int (nI bt), .ref ba])), (sa, .inl (cI, rn, .inl (sf))), (ta, .inl (cI, rn, .inl (t2))), (pa, .inl (cB, pn, .inl (p2))), (u5, .inl (cB, (min 80000 (2 * (2 * (bt + w0)))), .inl (va_cpy p2 (fun _ => 0) 0 0 pn)))] := hD
      refine zput (v := .ref u5) hE hK hP hD hS 0 rfl fd_Me_19 ft_Me_7 rfl rfl (Nat.le_of_ble_eq_true rfl) d_Me_tidy_107 (fun H locs hP hD hS => ?_)
      have hP : va_P D zC [(h0, .inr (1, [.int (nI md), .int (nI bt), .int (nI lo), .int (nI nl), .ref sa, .ref ta, .ref fa, .ref u5, .int (nI bt), .ref ba])), (sa, .inl (cI, rn, .inl (sf))), (ta, .inl (cI, rn, .inl (t2))), (pa, .inl (cB, pn, .inl (p2))), (u5, .inl (cB, (min 80000 (2 * (2 * (bt + w0)))), .inl (va_cpy p2 (fun _ => 0) 0 0 pn)))] _ := hP
      have hD : va_D A [(h0, .inr (1, [.int (nI md), .int (nI bt), .int (nI lo), .int (nI nl), .ref sa, .ref ta, .ref fa, .ref u5, .int (nI bt), .ref ba])), (sa, .inl (cI, rn, .inl (sf))), (ta, .inl (cI, rn, .inl (t2))), (pa, .inl (cB, pn, .inl (p2))), (u5, .inl (cB, (min 80000 (2 * (2 * (bt + w0)))), .inl (va_cpy p2 (fun _ => 0) 0 0 pn)))] := hD
      have hP9 := hP.sub (ws' := [(h0, .inr (1, [.int (nI md), .int (nI bt), .int (nI lo), .int (nI nl), .ref sa, .ref ta, .ref fa, .ref u5, .int (nI bt), .ref ba])), (sa, .inl (cI, rn, .inl (sf))), (ta, .inl (cI, rn, .inl (t2))), (u5, .inl (cB, (min 80000 (2 * (2 * (bt + w0)))), .inl (va_cpy p2 (fun _ => 0) 0 0 pn)))]) [0, 1, 2, 4] rfl
      have hD9 := hD.sub (ws' := [(h0, .inr (1, [.int (nI md), .int (nI bt), .int (nI lo), .int (nI nl), .ref sa, .ref ta, .ref fa, .ref u5, .int (nI bt), .ref ba])), (sa, .inl (cI, rn, .inl (sf))), (ta, .inl (cI, rn, .inl (t2))), (u5, .inl (cB, (min 80000 (2 * (2 * (bt + w0)))), .inl (va_cpy p2 (fun _ => 0) 0 0 pn)))]) [0, 1, 2, 4] rfl rfl
      exact zretv hx hb hr hlocks hS (u5, t2, va_cpy p2 (fun _ => 0) 0 0 pn) (by unfold tdl; rw [if_neg hgt]; exact cRep_pool hR2 (by omega) (by omega)) (by unfold tkc tks tdl; rw [if_neg hgt, if_neg hgt, if_neg hgt]; show (1, _) = (0 + 1, 0 + _); simp) (by unfold tdl; rw [if_neg hgt]; exact hP9) (by unfold tdl; rw [if_neg hgt]; exact hD9) d_Me_tidy_110
  · have hkm : k ≤ md := Nat.not_lt.mp (fun q => absurd (nI_lt q (by omega)) h1)
    refine lv_aload_n hx hb d_Me_tidy_12 rfl (lv_at hl 2 rfl) ?_
    refine zget hE hK hP 0 rfl fd_Me_9 rfl d_Me_tidy_13 ?_
    refine lv_iload_n hx hb d_Me_tidy_16 rfl (lv_at hl 0 rfl) ?_
    refine va_iald hx hb hK hP 1 0 rfl rfl (vp_in_nI (by omega) (by omega)) d_Me_tidy_17 ?_
    refine z_st (st' := [.int (sf k)]) (by rw [show ((sf (nI k).toNatClampNeg) : Int32) = sf k from by rw [nI_clamp (by omega)]]) ?_
    refine lv_iconst (v := (-1)) hx hb d_Me_tidy_18 (by decide) ?_
    refine lv_icmp_eq (tgt := 65) hx hb d_Me_tidy_19 (by decide) (fun h6 => ?_) (fun h6 => ?_)
    · have hnone : mSz M k = none := (cRep_sz hR hk1 hkm).mp h6
      refine lv_iinc (k := 0) (v := (nI k) + 1) (lv' := [(3, .int ((nI k) + 1)), (2, .int (nI (mSum (mSz M) (k - 1)))), (0, .ref h0), (1, .int n0)]) hx hb d_Me_tidy_65 hl rfl rfl (by decide) rfl (fun ls hl => ?_)
      refine lv_goto (tgt := 4) hx hb d_Me_tidy_68 (by decide) ?_
      rw [nI_1] at hl
      rw [← mSum_skip hk1 hnone] at hl
      have hl := lv_sub (l' := [(3, .int (nI (k + 1))), (2, .int (nI (mSum (mSz M) k))), (0, .ref h0), (1, .int n0)]) hl [0, 1, 2, 3] rfl
      exact ih (j - 1) (k + 1, t2, p2) ls H locs 0 0 (by omega) ⟨⟨by show k + 1 + (j - 1) = md + 1; omega, by show 1 ≤ k + 1; omega, tInv_skip ht hnone, rfl, rfl⟩, hl, hP, hD, hS⟩
    · obtain ⟨z, hz⟩ : ∃ z, mSz M k = some z := by cases e : mSz M k with | none => exact absurd ((cRep_sz hR hk1 hkm).mpr e) h6 | some z => exact ⟨z, rfl⟩
      obtain ⟨a1, a2, a3, a4, -, a9, a10, a11⟩ := cRep_at hR hz
      have hsk := (g1 k z hz).2.1
      have hin := cRep_in hR hz
      have hsz2 := (g1 k z hz).2.2
      have hu0 : z = 0 → up4 z = 0 := fun q => by rw [q]; rfl
      have hsu : st k + up4 z ≤ pn := (Nat.eq_zero_or_pos z).elim (fun c => by rw [hu0 c]; omega) (fun c => by have := hsz2 c; omega)
      refine lv_aload_n hx hb d_Me_tidy_22 rfl (lv_at hl 2 rfl) ?_
      refine zget hE hK hP 0 rfl fd_Me_9 rfl d_Me_tidy_23 ?_
      refine lv_iload_n hx hb d_Me_tidy_26 rfl (lv_at hl 0 rfl) ?_
      refine va_iald hx hb hK hP 1 0 rfl rfl (vp_in_nI (by omega) (by omega)) d_Me_tidy_27 ?_
      refine z_st (st' := [.int (nI z)]) (by rw [show ((sf (nI k).toNatClampNeg) : Int32) = nI z from by rw [nI_clamp (by omega)]; exact a3]) ?_
      refine zgoi (wr := [(h0, .inr (1, [.int (nI md), .int (nI bt), .int (nI lo), .int (nI nl), .ref sa, .ref ta, .ref fa, .ref pa, .int (nI pe), .ref ba])), (sa, .inl (cI, rn, .inl (sf))), (ta, .inl (cI, rn, .inl (t2))), (pa, .inl (cB, pn, .inl (p2)))]) (zrunS (n := 1) (As := [.int (nI z)]) (rest := []) hE (c_Me_roundedUp l D _ _ (nI z)) cb_Me_roundedUp lk_Me_42 st_Me_roundedUp (zpreS hK hP hD [] rfl rfl rfl) ⟨Nat.le_of_ble_eq_true rfl, Nat.le_of_ble_eq_true rfl, Nat.le_of_ble_eq_true rfl, Nat.le_of_ble_eq_true rfl⟩ rfl hl.1 rfl (Nat.le_of_ble_eq_true rfl) d_Me_tidy_28) hP hD hS hA [] [0, 1, 2, 3] rfl rfl rfl (by decide) (fun r8 u9 H locs hq7 hP hD hS => ?_)
      subst hq7
      have hP : va_P D zC [(h0, .inr (1, [.int (nI md), .int (nI bt), .int (nI lo), .int (nI nl), .ref sa, .ref ta, .ref fa, .ref pa, .int (nI pe), .ref ba])), (sa, .inl (cI, rn, .inl (sf))), (ta, .inl (cI, rn, .inl (t2))), (pa, .inl (cB, pn, .inl (p2)))] _ := hP
      have hD : va_D A [(h0, .inr (1, [.int (nI md), .int (nI bt), .int (nI lo), .int (nI nl), .ref sa, .ref ta, .ref fa, .ref pa, .int (nI pe), .ref ba])), (sa, .inl (cI, rn, .inl (sf))), (ta, .inl (cI, rn, .inl (t2))), (pa, .inl (cB, pn, .inl (p2)))] := hD
      refine z_st (st' := [.int (nI (up4 z))]) (by rw [show ((sp_Me_roundedUp (nI z)) : Int32) = nI (up4 z) from up4_c z (by omega)]) ?_
      refine lv_istore (lv' := [(4, .int (nI (up4 z))), (3, .int (nI k)), (2, .int (nI (mSum (mSz M) (k - 1)))), (0, .ref h0), (1, .int n0)]) hx hb d_Me_tidy_31 hl (by decide) rfl (fun ls hl => ?_)
      refine lv_aload_n hx hb d_Me_tidy_33 rfl (lv_at hl 3 rfl) ?_
      refine zget hE hK hP 0 rfl fd_Me_19 rfl d_Me_tidy_34 ?_
      refine lv_aload_n hx hb d_Me_tidy_37 rfl (lv_at hl 3 rfl) ?_
      refine zget hE hK hP 0 rfl fd_Me_13 rfl d_Me_tidy_38 ?_
      refine lv_iload_n hx hb d_Me_tidy_41 rfl (lv_at hl 1 rfl) ?_
      refine va_iald hx hb hK hP 2 0 rfl rfl (vp_in_nI (by omega) (by omega)) d_Me_tidy_42 ?_
      refine z_st (st' := [.int (nI (st k)), .ref pa]) (by rw [show ((t2 (nI k).toNatClampNeg) : Int32) = nI (st k) from by rw [nI_clamp (by omega)]; exact (ht.2.1 k z hz (Nat.le_refl _)).1]) ?_
      refine lv_aload_n hx hb d_Me_tidy_43 rfl (lv_at hl 3 rfl) ?_
      refine zget hE hK hP 0 rfl fd_Me_19 rfl d_Me_tidy_44 ?_
      refine lv_iload_n hx hb d_Me_tidy_47 rfl (lv_at hl 2 rfl) ?_
      refine lv_iload hx hb d_Me_tidy_48 (lv_at hl 0 rfl) ?_
      refine va_copyi (R := { frames := 2, cells := tkc pn (bt + w0), slots := tks pn (bt + w0), locals := 82 }) (ty := .byte) (rest := []) hx hb (hE.2.2.1.trans hl.1.symm) hown (hw _ sl_Me) (hw _ sy_nat) (hw _ sy_st) (hw _ sy_ini) hK hP hD hS 3 3 1 1 rfl rfl rfl rfl rfl (nI_pos (n := st k) (by omega)) (nI_pos (n := mSum (mSz M) (k - 1)) (by omega)) (nI_pos (n := up4 z) (by omega)) (by rw [nI_clamp (by omega), nI_clamp (by omega)]; omega) (by rw [nI_clamp (by omega), nI_clamp (by omega)]; omega) (fun i hi => by rw [nI_clamp (by omega)] at hi ⊢; exact ht.2.2 _ (by omega)) (by exact Nat.le_of_ble_eq_true rfl) (by exact Nat.le_of_ble_eq_true rfl) d_Me_tidy_50 (fun H locs hP hD hS => ?_)
      have hP : va_P D zC [(h0, .inr (1, [.int (nI md), .int (nI bt), .int (nI lo), .int (nI nl), .ref sa, .ref ta, .ref fa, .ref pa, .int (nI pe), .ref ba])), (sa, .inl (cI, rn, .inl (sf))), (ta, .inl (cI, rn, .inl (t2))), (pa, .inl (cB, pn, .inl (va_cpy p2 p2 (nI (st k)).toNatClampNeg (nI (mSum (mSz M) (k - 1))).toNatClampNeg (nI (up4 z)).toNatClampNeg)))] _ := hP
      have hD : va_D A [(h0, .inr (1, [.int (nI md), .int (nI bt), .int (nI lo), .int (nI nl), .ref sa, .ref ta, .ref fa, .ref pa, .int (nI pe), .ref ba])), (sa, .inl (cI, rn, .inl (sf))), (ta, .inl (cI, rn, .inl (t2))), (pa, .inl (cB, pn, .inl (va_cpy p2 p2 (nI (st k)).toNatClampNeg (nI (mSum (mSz M) (k - 1))).toNatClampNeg (nI (up4 z)).toNatClampNeg)))] := hD
      rw [show ((va_cpy p2 p2 (nI (st k)).toNatClampNeg (nI (mSum (mSz M) (k - 1))).toNatClampNeg (nI (up4 z)).toNatClampNeg) : Nat → Int32) = va_cpy p2 p2 (st k) (mSum (mSz M) (k - 1)) (up4 z) from by rw [nI_clamp (by omega), nI_clamp (by omega), nI_clamp (by omega)]] at hP hD
      have hP : va_P D zC [(h0, .inr (1, [.int (nI md), .int (nI bt), .int (nI lo), .int (nI nl), .ref sa, .ref ta, .ref fa, .ref pa, .int (nI pe), .ref ba])), (sa, .inl (cI, rn, .inl (sf))), (ta, .inl (cI, rn, .inl (t2))), (pa, .inl (cB, pn, .inl (va_cpy p2 p2 (st k) (mSum (mSz M) (k - 1)) (up4 z))))] _ := hP
      have hD : va_D A [(h0, .inr (1, [.int (nI md), .int (nI bt), .int (nI lo), .int (nI nl), .ref sa, .ref ta, .ref fa, .ref pa, .int (nI pe), .ref ba])), (sa, .inl (cI, rn, .inl (sf))), (ta, .inl (cI, rn, .inl (t2))), (pa, .inl (cB, pn, .inl (va_cpy p2 p2 (st k) (mSum (mSz M) (k - 1)) (up4 z))))] := hD
      refine lv_aload_n hx hb d_Me_tidy_53 rfl (lv_at hl 3 rfl) ?_
      refine zget hE hK hP 0 rfl fd_Me_13 rfl d_Me_tidy_54 ?_
      refine lv_iload_n hx hb d_Me_tidy_57 rfl (lv_at hl 1 rfl) ?_
      refine lv_iload_n hx hb d_Me_tidy_58 rfl (lv_at hl 2 rfl) ?_
      refine va_iast hx hb hK hP hD hS 2 0 rfl rfl (vp_in_nI (by omega) (by omega)) d_Me_tidy_59 (fun H locs hP hD hS => ?_)
      have hP : va_P D zC [(h0, .inr (1, [.int (nI md), .int (nI bt), .int (nI lo), .int (nI nl), .ref sa, .ref ta, .ref fa, .ref pa, .int (nI pe), .ref ba])), (sa, .inl (cI, rn, .inl (sf))), (ta, .inl (cI, rn, .inl (upd t2 (nI k).toNatClampNeg (nI (mSum (mSz M) (k - 1)))))), (pa, .inl (cB, pn, .inl (va_cpy p2 p2 (st k) (mSum (mSz M) (k - 1)) (up4 z))))] _ := hP
      have hD : va_D A [(h0, .inr (1, [.int (nI md), .int (nI bt), .int (nI lo), .int (nI nl), .ref sa, .ref ta, .ref fa, .ref pa, .int (nI pe), .ref ba])), (sa, .inl (cI, rn, .inl (sf))), (ta, .inl (cI, rn, .inl (upd t2 (nI k).toNatClampNeg (nI (mSum (mSz M) (k - 1)))))), (pa, .inl (cB, pn, .inl (va_cpy p2 p2 (st k) (mSum (mSz M) (k - 1)) (up4 z))))] := hD
      rw [show ((upd t2 (nI k).toNatClampNeg (nI (mSum (mSz M) (k - 1)))) : Nat → Int32) = upd t2 k (nI (mSum (mSz M) (k - 1))) from by rw [nI_clamp (by omega)]] at hP hD
      have hP : va_P D zC [(h0, .inr (1, [.int (nI md), .int (nI bt), .int (nI lo), .int (nI nl), .ref sa, .ref ta, .ref fa, .ref pa, .int (nI pe), .ref ba])), (sa, .inl (cI, rn, .inl (sf))), (ta, .inl (cI, rn, .inl (upd t2 k (nI (mSum (mSz M) (k - 1)))))), (pa, .inl (cB, pn, .inl (va_cpy p2 p2 (st k) (mSum (mSz M) (k - 1)) (up4 z))))] _ := hP
      have hD : va_D A [(h0, .inr (1, [.int (nI md), .int (nI bt), .int (nI lo), .int (nI nl), .ref sa, .ref ta, .ref fa, .ref pa, .int (nI pe), .ref ba])), (sa, .inl (cI, rn, .inl (sf))), (ta, .inl (cI, rn, .inl (upd t2 k (nI (mSum (mSz M) (k - 1)))))), (pa, .inl (cB, pn, .inl (va_cpy p2 p2 (st k) (mSum (mSz M) (k - 1)) (up4 z))))] := hD
      refine lv_iload_n hx hb d_Me_tidy_60 rfl (lv_at hl 2 rfl) ?_
      refine lv_iload hx hb d_Me_tidy_61 (lv_at hl 0 rfl) ?_
      refine lv_iadd hx hb d_Me_tidy_63 ?_
      refine z_st (st' := [.int (nI (mSum (mSz M) k))]) (by rw [show (((nI (mSum (mSz M) (k - 1))) + (nI (up4 z))) : Int32) = nI (mSum (mSz M) k) from by rw [nI_add, mSum_at hk1 hz]]) ?_
      refine lv_istore_n (lv' := [(2, .int (nI (mSum (mSz M) k))), (4, .int (nI (up4 z))), (3, .int (nI k)), (0, .ref h0), (1, .int n0)]) hx hb d_Me_tidy_64 rfl hl (by decide) rfl (fun ls hl => ?_)
      refine lv_iinc (k := 2) (v := (nI k) + 1) (lv' := [(3, .int ((nI k) + 1)), (2, .int (nI (mSum (mSz M) k))), (4, .int (nI (up4 z))), (0, .ref h0), (1, .int n0)]) hx hb d_Me_tidy_65 hl rfl rfl (by decide) rfl (fun ls hl => ?_)
      refine lv_goto (tgt := 4) hx hb d_Me_tidy_68 (by decide) ?_
      rw [nI_1] at hl
      have hl := lv_sub (l' := [(3, .int (nI (k + 1))), (2, .int (nI (mSum (mSz M) k))), (0, .ref h0), (1, .int n0)]) hl [0, 1, 3, 4] rfl
      exact ih (j - 1) (k + 1, upd t2 k (nI (mSum (mSz M) (k - 1))), va_cpy p2 p2 (st k) (mSum (mSz M) (k - 1)) (up4 z)) ls H locs 0 0 (by omega) ⟨⟨by show k + 1 + (j - 1) = md + 1; omega, by show 1 ≤ k + 1; omega, tInv_step hR.1 g2 ht hz (fun c => Nat.le_trans ((g1 k z hz).2.2 c) hpe) hpn (fun _ => (g1 k z hz).2.1), rfl, rfl⟩, hl, hP, hD, hS⟩
end
section
/-! a new object -/
theorem wdf_at {f : Nat → Int32} {n d j : Nat} (h : j < n) : wdf f n d j = f j := by
  unfold wdf
  by_cases c : d ≤ n
  · rw [if_pos c]
  · rw [if_neg c, pk_cpy_in (Nat.zero_le _) (by omega), show 0 + (j - 0) = j by omega]
theorem wdl_gt {n d t : Nat} (hd : d ≤ t) : d ≤ wdl n d t := by
  unfold wdl
  by_cases c : d ≤ n
  · rw [if_pos c]
    exact c
  · rw [if_neg c]
    omega
theorem wdl_le {n d t : Nat} (hn : n ≤ t) : wdl n d t ≤ t := by
  unfold wdl
  by_cases c : d ≤ n
  · rw [if_pos c]
    exact hn
  · rw [if_neg c]
    omega
theorem wdl_ge {n d t : Nat} (hn : n ≤ t) : n ≤ wdl n d t := by
  unfold wdl
  by_cases c : d ≤ n
  · rw [if_pos c]
    exact Nat.le_refl _
  · rw [if_neg c]
    omega
theorem tdl_ge {pn w : Nat} (hw : w ≤ 40000) : w ≤ tdl pn w := by
  unfold tdl
  by_cases c : 2 * w ≤ pn
  · rw [if_pos c]
    omega
  · rw [if_neg c]
    omega
theorem mSum_make {sz : Nat → Option Nat} {n z : Nat} : mSum (fun k => if k = n + 1 then some z else sz k) (n + 1) = mSum sz n + up4 z := by
  show mSum _ n + mUp (if n + 1 = n + 1 then some z else sz (n + 1)) = _
  rw [if_pos rfl, mSum_congr n (f := fun k => if k = n + 1 then some z else sz k) (g := sz) (fun k _ h => if_neg (by omega))]
  rfl
theorem MI_make {M : MM} (h : MI M) {z : Nat} (gb : Bool) (hm : mMd M < 8000) (hz : z ≤ 4000) (hb : mBt M + up4 z ≤ 40000) : MI (mMake M z gb) := by
  obtain ⟨h1, h2, h3, h4, h5, h6, h7, h8⟩ := h
  have hnew : ∀ k, k ∈ mLs M → ¬ k = mMd M + 1 := fun k hk e => by
    obtain ⟨y, hy, -⟩ := h7 k hk
    have := h3 k y hy
    omega
  refine ⟨by show mMd M + 1 ≤ 8000; omega, hb, ?_, ?_, ?_, ?_, ?_, ?_⟩
  · intro k y hk
    have hk : (if k = mMd M + 1 then some z else mSz M k) = some y := hk
    show 1 ≤ k ∧ k ≤ mMd M + 1 ∧ y ≤ 4000
    by_cases c : k = mMd M + 1
    · rw [if_pos c] at hk
      cases hk
      omega
    · rw [if_neg c] at hk
      have := h3 k y hk
      omega
  · show mBt M + up4 z = mSum (fun k => if k = mMd M + 1 then some z else mSz M k) (mMd M + 1)
    rw [mSum_make, h4]
  · show (if gb = true then mLs M else (mMd M + 1) :: mLs M).length ≤ mMd M + 1
    cases gb
    · show (mLs M).length + 1 ≤ _
      omega
    · show (mLs M).length ≤ _
      omega
  · show (if gb = true then mLs M else (mMd M + 1) :: mLs M).Nodup
    cases gb
    · exact List.nodup_cons.mpr ⟨fun q => hnew _ q rfl, h6⟩
    · exact h6
  · intro k hk
    have hk : k ∈ (if gb = true then mLs M else (mMd M + 1) :: mLs M) := hk
    show ∃ y, (if k = mMd M + 1 then some z else mSz M k) = some y ∧ (if k = mMd M + 1 then gb else mGv M k) = false
    have old : k ∈ mLs M → ∃ y, (if k = mMd M + 1 then some z else mSz M k) = some y ∧ (if k = mMd M + 1 then gb else mGv M k) = false := by
      intro q
      rw [if_neg (hnew k q), if_neg (hnew k q)]
      exact h7 k q
    cases gb with
    | true => exact old hk
    | false =>
      rcases List.mem_cons.mp hk with q | q
      · rw [if_pos q, if_pos q]
        exact ⟨z, rfl, rfl⟩
      · exact old q
  · intro k y hk hg
    have hk : (if k = mMd M + 1 then some z else mSz M k) = some y := hk
    have hg : (if k = mMd M + 1 then gb else mGv M k) = false := hg
    show k ∈ (if gb = true then mLs M else (mMd M + 1) :: mLs M)
    by_cases c : k = mMd M + 1
    · rw [if_pos c] at hg
      rw [hg, c]
      exact List.mem_cons_self
    · rw [if_neg c] at hk hg
      have := h8 k y hk hg
      cases gb
      · exact List.mem_cons_of_mem _ this
      · exact this
theorem cRep_make {M : MM} {md bt nl pe rn pn z : Nat} {sf tf uf pf : Nat → Int32} (gb : Bool) (h : cRep M md bt nl pe rn pn sf tf uf pf) (hm : md < 8000) (hz : z ≤ 4000) (hb : bt + up4 z ≤ 40000) (hp : pe + up4 z ≤ pn) :
    cRep (mMake M z gb) (md + 1) (bt + up4 z) (if gb = true then nl else md + 1) (pe + up4 z) (wdl rn (md + 2) 8001) pn (upd (wdf sf rn (md + 2)) (md + 1) (nI z)) (upd (wdf tf rn (md + 2)) (md + 1) (nI pe)) (upd (wdf uf rn (md + 2)) (md + 1) (if gb = true then -1 else nI nl)) (va_cpy (fun _ => 0) pf 0 pe (up4 z)) := by
  obtain ⟨hI, h1, h2, h3, h4, h5, h6, h7, h8, h9, h10, h11, h12, st, g1, g2, g3⟩ := h
  have hold : ∀ k y, mSz (mMake M z gb) k = some y → (k = md + 1 ∧ y = z) ∨ (¬ k = md + 1 ∧ mSz M k = some y ∧ k ≤ md ∧ 1 ≤ k) := by
    intro k y hk
    have hk : (if k = mMd M + 1 then some z else mSz M k) = some y := hk
    rw [← h1] at hk
    by_cases c : k = md + 1
    · rw [if_pos c] at hk
      cases hk
      exact Or.inl ⟨c, rfl⟩
    · rw [if_neg c] at hk
      have := hI.2.2.1 k y hk
      exact Or.inr ⟨c, hk, by omega, this.1⟩
  have hu := up4_le z
  refine ⟨MI_make hI gb (by omega) hz (by omega), by rw [h1]; rfl, by rw [h2]; rfl, ?_, ?_, wdl_le h5, hp, h7, h8, ?_, ?_, ?_, ?_, fun k => if k = md + 1 then pe else st k, ?_, ?_, ?_⟩
  · show (if gb = true then nl else md + 1) = (if gb = true then mLs M else (mMd M + 1) :: mLs M).headD 0
    cases gb
    · show md + 1 = mMd M + 1
      omega
    · exact h3
  · have := wdl_gt (n := rn) (d := md + 2) (t := 8001) (by omega)
    omega
  · intro i hi
    by_cases c : pe ≤ i ∧ i < pe + up4 z
    · rw [pk_cpy_in c.1 c.2]
      rfl
    · rw [pk_cpy_out (by omega)]
      exact h9 i hi
  · intro k k1 k2
    show upd (wdf sf rn (md + 2)) (md + 1) (nI z) k = match (if k = mMd M + 1 then some z else mSz M k) with | some z => nI z | none => -1
    rw [← h1]
    by_cases c : k = md + 1
    · rw [if_pos c, c, upd_self]
    · rw [if_neg c, upd_ne c, wdf_at (by omega)]
      exact h10 k k1 (by omega)
  · intro k y hk hg
    have hg : (if k = mMd M + 1 then gb else mGv M k) = true := hg
    rw [← h1] at hg
    rcases hold k y hk with ⟨c, -⟩ | ⟨c, q, q2, -⟩
    · rw [if_pos c] at hg
      rw [c, upd_self, hg]
      rfl
    · rw [if_neg c] at hg
      rw [upd_ne c, wdf_at (by omega)]
      exact h11 k y q hg
  · have hold2 : ∀ i, i < (mLs M).length → upd (wdf uf rn (md + 2)) (md + 1) (if gb = true then -1 else nI nl) ((mLs M).getD i 0) = nI ((mLs M).getD (i + 1) 0) := by
      intro i hi
      have hmem : (mLs M).getD i 0 ∈ mLs M := by rw [List.getD_eq_getElem?_getD, List.getElem?_eq_getElem hi]; exact List.getElem_mem hi
      obtain ⟨y, hy, -⟩ := hI.2.2.2.2.2.2.1 _ hmem
      have := hI.2.2.1 _ y hy
      rw [upd_ne (by omega), wdf_at (by omega)]
      exact h12 i hi
    show ∀ i, i < (if gb = true then mLs M else (mMd M + 1) :: mLs M).length → _
    cases gb with
    | true => exact hold2
    | false =>
      intro i hi
      rcases Nat.eq_zero_or_pos i with c | c
      · subst c
        show upd _ (md + 1) (nI nl) (mMd M + 1) = nI ((mLs M).getD 0 0)
        rw [← h1, upd_self, h3]
        cases mLs M <;> rfl
      · obtain ⟨j, rfl⟩ : ∃ j, i = j + 1 := ⟨i - 1, by omega⟩
        have hi : j + 1 < (mLs M).length + 1 := hi
        exact hold2 j (by omega)
  · intro k y hk
    show _ = nI (if k = md + 1 then pe else st k) ∧ (if k = md + 1 then pe else st k) ≤ pn ∧ (0 < y → (if k = md + 1 then pe else st k) + up4 y ≤ pe + up4 z)
    rcases hold k y hk with ⟨c, q⟩ | ⟨c, q, q2, -⟩
    · rw [if_pos c, c, upd_self, q]
      exact ⟨rfl, by omega, fun _ => Nat.le_refl _⟩
    · obtain ⟨a1, a2, a3⟩ := g1 k y q
      rw [if_neg c, upd_ne c, wdf_at (by omega)]
      exact ⟨a1, a2, fun hy => by have := a3 hy; omega⟩
  · intro j k y x hjk hj hk hy hx
    show (if j = md + 1 then pe else st j) + up4 y ≤ (if k = md + 1 then pe else st k)
    rcases hold j y hj with ⟨c, q⟩ | ⟨c, q, q2, -⟩
    · rcases hold k x hk with ⟨c2, r⟩ | ⟨c2, r, r2, -⟩ <;> omega
    · rw [if_neg c]
      rcases hold k x hk with ⟨c2, r⟩ | ⟨c2, r, r2, -⟩
      · rw [if_pos c2]
        exact (g1 j y q).2.2 hy
      · rw [if_neg c2]
        exact g2 j k y x hjk q r hy hx
  · intro k y i hk hi
    show va_cpy (fun _ => 0) pf 0 pe (up4 z) ((if k = md + 1 then pe else st k) + i) = (if k = mMd M + 1 then fun _ => 0 else mCt M k) i
    rw [← h1]
    rcases hold k y hk with ⟨c, q⟩ | ⟨c, q, q2, -⟩
    · rw [if_pos c, if_pos c, pk_cpy_in (by omega) (by omega)]
    · have a3 := (g1 k y q).2.2 (by omega)
      have := up4_le y
      rw [if_neg c, if_neg c, pk_cpy_out (by omega)]
      exact g3 k y i q hi
/-- how often a row can still grow -/
def zi (a n : Nat) : Nat := if n < a then 1 else 0
theorem zi_1 {a n : Nat} (h : n < a) : zi a n = 1 := if_pos h
theorem zi_0 {a n : Nat} (h : a ≤ n) : zi a n = 0 := if_neg (by omega)
theorem zi_dn {t a b n k : Nat} (hk : t ≤ k ∨ 2 * n ≤ k) (hab : a ≤ 2 * b) (ha : a ≤ t) : zi a k ≤ zi b n := by
  by_cases c : n < b
  · rw [zi_1 c]
    unfold zi
    split <;> omega
  · rw [zi_0 (a := a) (n := k) (by omega)]
    exact Nat.zero_le _
def phP (n : Nat) : Nat := zi 80000 n + zi 40000 n + zi 20000 n + zi 10000 n + zi 5000 n + zi 2500 n + zi 1250 n + zi 625 n + zi 313 n
def phR (n : Nat) : Nat := zi 8001 n + zi 4001 n + zi 2001 n + zi 1001 n + zi 501 n + zi 251 n + zi 126 n + zi 63 n + zi 32 n
theorem phP_dn {n k : Nat} (h2 : 256 ≤ n) (hk : 80000 ≤ k ∨ 2 * n ≤ k) (hn : n < 80000) : phP k + 1 ≤ phP n := by
  have q0 := zi_1 hn
  have q1 := zi_dn (a := 80000) (b := 40000) hk (by decide) (by decide)
  have q2 := zi_dn (a := 40000) (b := 20000) hk (by decide) (by decide)
  have q3 := zi_dn (a := 20000) (b := 10000) hk (by decide) (by decide)
  have q4 := zi_dn (a := 10000) (b := 5000) hk (by decide) (by decide)
  have q5 := zi_dn (a := 5000) (b := 2500) hk (by decide) (by decide)
  have q6 := zi_dn (a := 2500) (b := 1250) hk (by decide) (by decide)
  have q7 := zi_dn (a := 1250) (b := 625) hk (by decide) (by decide)
  have q8 := zi_dn (a := 625) (b := 313) hk (by decide) (by decide)
  have q9 := zi_0 (a := 313) (n := k) (by omega)
  unfold phP
  omega
theorem phR_dn {n k : Nat} (h2 : 16 ≤ n) (hk : 8001 ≤ k ∨ 2 * n ≤ k) (hn : n < 8001) : phR k + 1 ≤ phR n := by
  have q0 := zi_1 hn
  have q1 := zi_dn (a := 8001) (b := 4001) hk (by decide) (by decide)
  have q2 := zi_dn (a := 4001) (b := 2001) hk (by decide) (by decide)
  have q3 := zi_dn (a := 2001) (b := 1001) hk (by decide) (by decide)
  have q4 := zi_dn (a := 1001) (b := 501) hk (by decide) (by decide)
  have q5 := zi_dn (a := 501) (b := 251) hk (by decide) (by decide)
  have q6 := zi_dn (a := 251) (b := 126) hk (by decide) (by decide)
  have q7 := zi_dn (a := 126) (b := 63) hk (by decide) (by decide)
  have q8 := zi_dn (a := 63) (b := 32) hk (by decide) (by decide)
  have q9 := zi_0 (a := 32) (n := k) (by omega)
  unfold phR
  omega
theorem fuP {pn w : Nat} (h2 : 256 ≤ pn) (hp : pn ≤ 80000) (hw : w ≤ 40000) : tkc pn w + phP (tdl pn w) ≤ phP pn ∧ tks pn w + 80000 * phP (tdl pn w) ≤ 80000 * phP pn := by
  unfold tkc tks
  by_cases c : 2 * w ≤ pn
  · rw [if_pos c, if_pos c]
    unfold tdl
    rw [if_pos c]
    omega
  · rw [if_neg c, if_neg c]
    have e : tdl pn w = min 80000 (2 * (2 * w)) := if_neg c
    have := phP_dn (n := pn) (k := tdl pn w) h2 (by omega) (by omega)
    omega
theorem fuR {rn md : Nat} (h2 : 16 ≤ rn) (hp : rn ≤ 8001) (hm : md < rn) (hm8 : md < 8000) : wkc rn (md + 2) + phR (wdl rn (md + 2) 8001) ≤ phR rn ∧ wks rn (md + 2) 8001 + 8001 * phR (wdl rn (md + 2) 8001) ≤ 8001 * phR rn := by
  unfold wkc wks
  by_cases c : md + 2 ≤ rn
  · rw [if_pos c, if_pos c]
    unfold wdl
    rw [if_pos c]
    omega
  · rw [if_neg c, if_neg c]
    have e : wdl rn (md + 2) 8001 = min 8001 (max (md + 2) (2 * rn)) := if_neg c
    have := phR_dn (n := rn) (k := wdl rn (md + 2) 8001) h2 (by omega) (by omega)
    omega
def mMk (M : MM) (n : Int32) (gb : Bool) : Option MM := if 0 ≤ n.toInt ∧ n.toInt ≤ 4000 ∧ mMd M < 8000 ∧ mBt M + up4 n.toInt.toNat ≤ 40000 then some (mMake M n.toInt.toNat gb) else none
/-- the class's memory as it lies: numbers; lengths; addresses; rows -/
abbrev CM : Type := (Nat × Nat × Nat × Nat × Nat) × (Nat × Nat) × (Nat × Nat × Nat × Nat) × ((Nat → Int32) × (Nat → Int32) × (Nat → Int32) × (Nat → Int32))
def cMd (c : CM) : Nat := c.1.1
def cBt (c : CM) : Nat := c.1.2.1
def cLo (c : CM) : Nat := c.1.2.2.1
def cNl (c : CM) : Nat := c.1.2.2.2.1
def cPe (c : CM) : Nat := c.1.2.2.2.2
def cRn (c : CM) : Nat := c.2.1.1
def cPn (c : CM) : Nat := c.2.1.2
def cSa (c : CM) : Nat := c.2.2.1.1
def cTa (c : CM) : Nat := c.2.2.1.2.1
def cFa (c : CM) : Nat := c.2.2.1.2.2.1
def cPa (c : CM) : Nat := c.2.2.1.2.2.2
def cSf (c : CM) : Nat → Int32 := c.2.2.2.1
def cTf (c : CM) : Nat → Int32 := c.2.2.2.2.1
def cUf (c : CM) : Nat → Int32 := c.2.2.2.2.2.1
def cPf (c : CM) : Nat → Int32 := c.2.2.2.2.2.2
/-- such a memory lies so -/
def cR (M : MM) (c : CM) : Prop := cRep M (cMd c) (cBt c) (cNl c) (cPe c) (cRn c) (cPn c) (cSf c) (cTf c) (cUf c) (cPf c) ∧ cLo c = (mLs M).length ∧ 16 ≤ cRn c
def fuC (c : CM) : Nat := phP (cPn c) + 3 * phR (cRn c)
def fuS (c : CM) : Nat := 80000 * phP (cPn c) + 3 * (8001 * phR (cRn c))
end
section
/-! decode rows -/
theorem d_Me_make_0 : decode b_Me_make 0 = .ok (.iload_n 1, 1) := by decide +kernel
theorem d_Me_make_1 : decode b_Me_make 1 = .ok (.ifCond .lt 20, 3) := by decide +kernel
theorem d_Me_make_4 : decode b_Me_make 4 = .ok (.iload_n 1, 1) := by decide +kernel
theorem d_Me_make_5 : decode b_Me_make 5 = .ok (.sipush 4000, 3) := by decide +kernel
theorem d_Me_make_8 : decode b_Me_make 8 = .ok (.if_icmp .gt 13, 3) := by decide +kernel
theorem d_Me_make_11 : decode b_Me_make 11 = .ok (.aload_n 0, 1) := by decide +kernel
theorem d_Me_make_12 : decode b_Me_make 12 = .ok (.getfield 26, 3) := by decide +kernel
theorem d_Me_make_15 : decode b_Me_make 15 = .ok (.sipush 8000, 3) := by decide +kernel
theorem d_Me_make_18 : decode b_Me_make 18 = .ok (.if_icmp .lt 5, 3) := by decide +kernel
theorem d_Me_make_21 : decode b_Me_make 21 = .ok (.iconst 0, 1) := by decide +kernel
theorem d_Me_make_22 : decode b_Me_make 22 = .ok (.ireturn, 1) := by decide +kernel
theorem d_Me_make_23 : decode b_Me_make 23 = .ok (.iload_n 1, 1) := by decide +kernel
theorem d_Me_make_24 : decode b_Me_make 24 = .ok (.invokestatic 42, 3) := by decide +kernel
theorem d_Me_make_27 : decode b_Me_make 27 = .ok (.istore_n 3, 1) := by decide +kernel
theorem d_Me_make_28 : decode b_Me_make 28 = .ok (.aload_n 0, 1) := by decide +kernel
theorem d_Me_make_29 : decode b_Me_make 29 = .ok (.getfield 30, 3) := by decide +kernel
theorem d_Me_make_32 : decode b_Me_make 32 = .ok (.iload_n 3, 1) := by decide +kernel
theorem d_Me_make_33 : decode b_Me_make 33 = .ok (.iadd, 1) := by decide +kernel
theorem d_Me_make_34 : decode b_Me_make 34 = .ok (.ldc 46, 2) := by decide +kernel
theorem d_Me_make_36 : decode b_Me_make 36 = .ok (.if_icmp .le 5, 3) := by decide +kernel
theorem d_Me_make_39 : decode b_Me_make 39 = .ok (.iconst 0, 1) := by decide +kernel
theorem d_Me_make_40 : decode b_Me_make 40 = .ok (.ireturn, 1) := by decide +kernel
theorem d_Me_make_41 : decode b_Me_make 41 = .ok (.aload_n 0, 1) := by decide +kernel
theorem d_Me_make_42 : decode b_Me_make 42 = .ok (.getfield 39, 3) := by decide +kernel
theorem d_Me_make_45 : decode b_Me_make 45 = .ok (.iload_n 3, 1) := by decide +kernel
theorem d_Me_make_46 : decode b_Me_make 46 = .ok (.iadd, 1) := by decide +kernel
theorem d_Me_make_47 : decode b_Me_make 47 = .ok (.aload_n 0, 1) := by decide +kernel
theorem d_Me_make_48 : decode b_Me_make 48 = .ok (.getfield 19, 3) := by decide +kernel
theorem d_Me_make_51 : decode b_Me_make 51 = .ok (.arraylength, 1) := by decide +kernel
theorem d_Me_make_52 : decode b_Me_make 52 = .ok (.if_icmp .le 8, 3) := by decide +kernel
theorem d_Me_make_55 : decode b_Me_make 55 = .ok (.aload_n 0, 1) := by decide +kernel
theorem d_Me_make_56 : decode b_Me_make 56 = .ok (.iload_n 3, 1) := by decide +kernel
theorem d_Me_make_57 : decode b_Me_make 57 = .ok (.invokevirtual 47, 3) := by decide +kernel
theorem d_Me_make_60 : decode b_Me_make 60 = .ok (.aload_n 0, 1) := by decide +kernel
theorem d_Me_make_61 : decode b_Me_make 61 = .ok (.invokevirtual 51, 3) := by decide +kernel
theorem d_Me_make_64 : decode b_Me_make 64 = .ok (.aload_n 0, 1) := by decide +kernel
theorem d_Me_make_65 : decode b_Me_make 65 = .ok (.getfield 9, 3) := by decide +kernel
theorem d_Me_make_68 : decode b_Me_make 68 = .ok (.aload_n 0, 1) := by decide +kernel
theorem d_Me_make_69 : decode b_Me_make 69 = .ok (.getfield 26, 3) := by decide +kernel
theorem d_Me_make_72 : decode b_Me_make 72 = .ok (.iload_n 1, 1) := by decide +kernel
theorem d_Me_make_73 : decode b_Me_make 73 = .ok (.iastore, 1) := by decide +kernel
theorem d_Me_make_74 : decode b_Me_make 74 = .ok (.aload_n 0, 1) := by decide +kernel
theorem d_Me_make_75 : decode b_Me_make 75 = .ok (.getfield 13, 3) := by decide +kernel
theorem d_Me_make_78 : decode b_Me_make 78 = .ok (.aload_n 0, 1) := by decide +kernel
theorem d_Me_make_79 : decode b_Me_make 79 = .ok (.getfield 26, 3) := by decide +kernel
theorem d_Me_make_82 : decode b_Me_make 82 = .ok (.aload_n 0, 1) := by decide +kernel
theorem d_Me_make_83 : decode b_Me_make 83 = .ok (.getfield 39, 3) := by decide +kernel
theorem d_Me_make_86 : decode b_Me_make 86 = .ok (.iastore, 1) := by decide +kernel
theorem d_Me_make_87 : decode b_Me_make 87 = .ok (.aload_n 0, 1) := by decide +kernel
theorem d_Me_make_88 : decode b_Me_make 88 = .ok (.getfield 16, 3) := by decide +kernel
theorem d_Me_make_91 : decode b_Me_make 91 = .ok (.aload_n 0, 1) := by decide +kernel
theorem d_Me_make_92 : decode b_Me_make 92 = .ok (.getfield 26, 3) := by decide +kernel
theorem d_Me_make_95 : decode b_Me_make 95 = .ok (.iload_n 2, 1) := by decide +kernel
theorem d_Me_make_96 : decode b_Me_make 96 = .ok (.ifCond .eq 7, 3) := by decide +kernel
theorem d_Me_make_99 : decode b_Me_make 99 = .ok (.iconst (-1), 1) := by decide +kernel
theorem d_Me_make_100 : decode b_Me_make 100 = .ok (.goto 7, 3) := by decide +kernel
theorem d_Me_make_103 : decode b_Me_make 103 = .ok (.aload_n 0, 1) := by decide +kernel
theorem d_Me_make_104 : decode b_Me_make 104 = .ok (.getfield 36, 3) := by decide +kernel
theorem d_Me_make_107 : decode b_Me_make 107 = .ok (.iastore, 1) := by decide +kernel
theorem d_Me_make_108 : decode b_Me_make 108 = .ok (.iload_n 2, 1) := by decide +kernel
theorem d_Me_make_109 : decode b_Me_make 109 = .ok (.ifCond .ne 21, 3) := by decide +kernel
theorem d_Me_make_112 : decode b_Me_make 112 = .ok (.aload_n 0, 1) := by decide +kernel
theorem d_Me_make_113 : decode b_Me_make 113 = .ok (.aload_n 0, 1) := by decide +kernel
theorem d_Me_make_114 : decode b_Me_make 114 = .ok (.getfield 26, 3) := by decide +kernel
theorem d_Me_make_117 : decode b_Me_make 117 = .ok (.putfield 36, 3) := by decide +kernel
theorem d_Me_make_120 : decode b_Me_make 120 = .ok (.aload_n 0, 1) := by decide +kernel
theorem d_Me_make_121 : decode b_Me_make 121 = .ok (.dup, 1) := by decide +kernel
theorem d_Me_make_122 : decode b_Me_make 122 = .ok (.getfield 33, 3) := by decide +kernel
theorem d_Me_make_125 : decode b_Me_make 125 = .ok (.iconst 1, 1) := by decide +kernel
theorem d_Me_make_126 : decode b_Me_make 126 = .ok (.iadd, 1) := by decide +kernel
theorem d_Me_make_127 : decode b_Me_make 127 = .ok (.putfield 33, 3) := by decide +kernel
theorem d_Me_make_130 : decode b_Me_make 130 = .ok (.aload_n 0, 1) := by decide +kernel
theorem d_Me_make_131 : decode b_Me_make 131 = .ok (.getfield 23, 3) := by decide +kernel
theorem d_Me_make_134 : decode b_Me_make 134 = .ok (.iconst 0, 1) := by decide +kernel
theorem d_Me_make_135 : decode b_Me_make 135 = .ok (.aload_n 0, 1) := by decide +kernel
theorem d_Me_make_136 : decode b_Me_make 136 = .ok (.getfield 19, 3) := by decide +kernel
theorem d_Me_make_139 : decode b_Me_make 139 = .ok (.aload_n 0, 1) := by decide +kernel
theorem d_Me_make_140 : decode b_Me_make 140 = .ok (.getfield 39, 3) := by decide +kernel
theorem d_Me_make_143 : decode b_Me_make 143 = .ok (.iload_n 3, 1) := by decide +kernel
theorem d_Me_make_144 : decode b_Me_make 144 = .ok (.invokestatic 54, 3) := by decide +kernel
theorem d_Me_make_147 : decode b_Me_make 147 = .ok (.aload_n 0, 1) := by decide +kernel
theorem d_Me_make_148 : decode b_Me_make 148 = .ok (.dup, 1) := by decide +kernel
theorem d_Me_make_149 : decode b_Me_make 149 = .ok (.getfield 39, 3) := by decide +kernel
theorem d_Me_make_152 : decode b_Me_make 152 = .ok (.iload_n 3, 1) := by decide +kernel
theorem d_Me_make_153 : decode b_Me_make 153 = .ok (.iadd, 1) := by decide +kernel
theorem d_Me_make_154 : decode b_Me_make 154 = .ok (.putfield 39, 3) := by decide +kernel
theorem d_Me_make_157 : decode b_Me_make 157 = .ok (.aload_n 0, 1) := by decide +kernel
theorem d_Me_make_158 : decode b_Me_make 158 = .ok (.dup, 1) := by decide +kernel
theorem d_Me_make_159 : decode b_Me_make 159 = .ok (.getfield 30, 3) := by decide +kernel
theorem d_Me_make_162 : decode b_Me_make 162 = .ok (.iload_n 3, 1) := by decide +kernel
theorem d_Me_make_163 : decode b_Me_make 163 = .ok (.iadd, 1) := by decide +kernel
theorem d_Me_make_164 : decode b_Me_make 164 = .ok (.putfield 30, 3) := by decide +kernel
theorem d_Me_make_167 : decode b_Me_make 167 = .ok (.aload_n 0, 1) := by decide +kernel
theorem d_Me_make_168 : decode b_Me_make 168 = .ok (.getfield 26, 3) := by decide +kernel
theorem d_Me_make_171 : decode b_Me_make 171 = .ok (.bipush 16, 2) := by decide +kernel
theorem d_Me_make_173 : decode b_Me_make 173 = .ok (.ishl, 1) := by decide +kernel
theorem d_Me_make_174 : decode b_Me_make 174 = .ok (.ireturn, 1) := by decide +kernel

set_option maxHeartbeats 4000000 in
theorem c_Me_make (l : Launch) (D : va_G) (cI cB cJ : ClassId) (sz : Nat) (s0 : Int32) (gv : Int32) (h0 : Nat) (md : Nat) (bt : Nat) (lo : Nat) (nl : Nat) (sa : Nat) (ta : Nat) (fa : Nat) (pa : Nat) (pe : Nat) (ba : Nat) (rn : Nat) (sf : Nat → Int32) (tf : Nat → Int32) (uf : Nat → Int32) (pn : Nat) (pf : Nat → Int32) (M : MM) (gb : Bool) (hR : cRep M md bt nl pe rn pn sf tf uf pf) (hlo : lo = (mLs M).length) (h16 : 16 ≤ rn) (hgv : gv = if gb = true then 1 else 0) : zMet l y_Me_make (zWs y_Me_make b_Me_make 4 (some .int)) { frames := 4, cells := phP pn + 3 * phR rn, slots := 80000 * phP pn + 3 * (8001 * phR rn), locals := 124 } (zPc D (zT cI cB cJ) sz [(h0, .inr (1, [.int (nI md), .int (nI bt), .int (nI lo), .int (nI nl), .ref sa, .ref ta, .ref fa, .ref pa, .int (nI pe), .ref ba])), (sa, .inl (cI, rn, .inl (sf))), (ta, .inl (cI, rn, .inl (tf))), (fa, .inl (cI, rn, .inl (uf))), (pa, .inl (cB, pn, .inl (pf))), (ba, .inl (cB, 4000, .inl (fun _ => 0)))] [.ref h0, .int s0, .int gv]) (zQi D (va_A [(h0, .inr (1, [.int (nI md), .int (nI bt), .int (nI lo), .int (nI nl), .ref sa, .ref ta, .ref fa, .ref pa, .int (nI pe), .ref ba])), (sa, .inl (cI, rn, .inl (sf))), (ta, .inl (cI, rn, .inl (tf))), (fa, .inl (cI, rn, .inl (uf))), (pa, .inl (cB, pn, .inl (pf))), (ba, .inl (cB, 4000, .inl (fun _ => 0)))] sz) (fun r (U : (CM × Nat × Nat)) => r = (if (mMk M s0 gb).isSome = true then nI ((md + 1) * 65536) else 0) ∧ cR ((mMk M s0 gb).getD M) U.1 ∧ U.2.1 + fuC U.1 ≤ phP pn + 3 * phR rn ∧ U.2.2 + fuS U.1 ≤ 80000 * phP pn + 3 * (8001 * phR rn)) (fun U => U.2) (fun (U : (CM × Nat × Nat)) => [(h0, .inr (1, [.int (nI (cMd U.1)), .int (nI (cBt U.1)), .int (nI (cLo U.1)), .int (nI (cNl U.1)), .ref (cSa U.1), .ref (cTa U.1), .ref (cFa U.1), .ref (cPa U.1), .int (nI (cPe U.1)), .ref ba])), ((cSa U.1), .inl (cI, (cRn U.1), .inl (cSf U.1))), ((cTa U.1), .inl (cI, (cRn U.1), .inl (cTf U.1))), ((cFa U.1), .inl (cI, (cRn U.1), .inl (cUf U.1))), ((cPa U.1), .inl (cB, (cPn U.1), .inl (cPf U.1))), (ba, .inl (cB, 4000, .inl (fun _ => 0)))])) (va_A [(h0, .inr (1, [.int (nI md), .int (nI bt), .int (nI lo), .int (nI nl), .ref sa, .ref ta, .ref fa, .ref pa, .int (nI pe), .ref ba])), (sa, .inl (cI, rn, .inl (sf))), (ta, .inl (cI, rn, .inl (tf))), (fa, .inl (cI, rn, .inl (uf))), (pa, .inl (cB, pn, .inl (pf))), (ba, .inl (cB, 4000, .inl (fun _ => 0)))] sz) := by
  refine zstart (Qc := fun A => zQi D A (fun r (U : (CM × Nat × Nat)) => r = (if (mMk M s0 gb).isSome = true then nI ((md + 1) * 65536) else 0) ∧ cR ((mMk M s0 gb).getD M) U.1 ∧ U.2.1 + fuC U.1 ≤ phP pn + 3 * phR rn ∧ U.2.2 + fuS U.1 ≤ 80000 * phP pn + 3 * (8001 * phR rn)) (fun U => U.2) (fun (U : (CM × Nat × Nat)) => [(h0, .inr (1, [.int (nI (cMd U.1)), .int (nI (cBt U.1)), .int (nI (cLo U.1)), .int (nI (cNl U.1)), .ref (cSa U.1), .ref (cTa U.1), .ref (cFa U.1), .ref (cPa U.1), .int (nI (cPe U.1)), .ref ba])), ((cSa U.1), .inl (cI, (cRn U.1), .inl (cSf U.1))), ((cTa U.1), .inl (cI, (cRn U.1), .inl (cTf U.1))), ((cFa U.1), .inl (cI, (cRn U.1), .inl (cUf U.1))), ((cPa U.1), .inl (cB, (cPn U.1), .inl (cPf U.1))), (ba, .inl (cB, 4000, .inl (fun _ => 0)))])) (by decide) (Nat.le_of_ble_eq_true rfl) ?_
  intro p e s m below meth c ls A hE hr hlocks hin hsz hK hP hD hS hA hAe hl
  have hx := hE.1
  have hb := hE.2.1
  have hown := hE.2.2.2.1
  have hw := hE.2.2.2.2
  have hl : lv_has ls 4 [(0, .ref h0), (1, .int s0), (2, .int gv)] := hl
  have hmd2 := hR.2.1
  have hbt2 := hR.2.2.1
  have hmr := hR.2.2.2.2.1
  have hrn := hR.2.2.2.2.2.1
  have hpe := hR.2.2.2.2.2.2.1
  have hp2 := hR.2.2.2.2.2.2.2.1
  have hpn := hR.2.2.2.2.2.2.2.2.1
  have hm80 := hR.1.1
  have hb40 := hR.1.2.1
  refine lv_iload_n hx hb d_Me_make_0 rfl (lv_at hl 1 rfl) ?_
  refine lv_if_lt (tgt := 21) hx hb d_Me_make_1 (by decide) (fun h1 => ?_) (fun h1 => ?_)
  · have hnone : mMk M s0 gb = none := if_neg (fun q => by have q1 := z_lt h1; have k0 : ((0) : Int32).toInt = 0 := (by decide); omega)
    refine lv_iconst (v := 0) hx hb d_Me_make_21 (by decide) ?_
    have hP9 := hP.sub (ws' := [(h0, .inr (1, [.int (nI md), .int (nI bt), .int (nI lo), .int (nI nl), .ref sa, .ref ta, .ref fa, .ref pa, .int (nI pe), .ref ba])), (sa, .inl (cI, rn, .inl (sf))), (ta, .inl (cI, rn, .inl (tf))), (fa, .inl (cI, rn, .inl (uf))), (pa, .inl (cB, pn, .inl (pf))), (ba, .inl (cB, 4000, .inl (fun _ => 0)))]) [0, 1, 2, 3, 4, 5] rfl
    have hD9 := hD.sub (ws' := [(h0, .inr (1, [.int (nI md), .int (nI bt), .int (nI lo), .int (nI nl), .ref sa, .ref ta, .ref fa, .ref pa, .int (nI pe), .ref ba])), (sa, .inl (cI, rn, .inl (sf))), (ta, .inl (cI, rn, .inl (tf))), (fa, .inl (cI, rn, .inl (uf))), (pa, .inl (cB, pn, .inl (pf))), (ba, .inl (cB, 4000, .inl (fun _ => 0)))]) [0, 1, 2, 3, 4, 5] rfl rfl
    exact zreti hx hb hr rfl hlocks hS (((md, bt, lo, nl, pe), (rn, pn), (sa, ta, fa, pa), (sf, tf, uf, pf)), 0, 0) ⟨by rw [hnone]; rfl, by rw [hnone]; exact ⟨hR, hlo, h16⟩, Nat.le_of_eq (Nat.zero_add _), Nat.le_of_eq (Nat.zero_add _)⟩ rfl hP9 hD9 d_Me_make_22
  · refine lv_iload_n hx hb d_Me_make_4 rfl (lv_at hl 1 rfl) ?_
    refine lv_sipush (v := 4000) hx hb d_Me_make_5 (by decide) ?_
    refine lv_icmp_gt (tgt := 21) hx hb d_Me_make_8 (by decide) (fun h2 => ?_) (fun h2 => ?_)
    · have hnone : mMk M s0 gb = none := if_neg (fun q => by have q1 := z_nlt h1; have q2 := z_lt h2; have k0 : ((0) : Int32).toInt = 0 := (by decide); have k4000 : ((4000) : Int32).toInt = 4000 := (by decide); omega)
      refine lv_iconst (v := 0) hx hb d_Me_make_21 (by decide) ?_
      have hP9 := hP.sub (ws' := [(h0, .inr (1, [.int (nI md), .int (nI bt), .int (nI lo), .int (nI nl), .ref sa, .ref ta, .ref fa, .ref pa, .int (nI pe), .ref ba])), (sa, .inl (cI, rn, .inl (sf))), (ta, .inl (cI, rn, .inl (tf))), (fa, .inl (cI, rn, .inl (uf))), (pa, .inl (cB, pn, .inl (pf))), (ba, .inl (cB, 4000, .inl (fun _ => 0)))]) [0, 1, 2, 3, 4, 5] rfl
      have hD9 := hD.sub (ws' := [(h0, .inr (1, [.int (nI md), .int (nI bt), .int (nI lo), .int (nI nl), .ref sa, .ref ta, .ref fa, .ref pa, .int (nI pe), .ref ba])), (sa, .inl (cI, rn, .inl (sf))), (ta, .inl (cI, rn, .inl (tf))), (fa, .inl (cI, rn, .inl (uf))), (pa, .inl (cB, pn, .inl (pf))), (ba, .inl (cB, 4000, .inl (fun _ => 0)))]) [0, 1, 2, 3, 4, 5] rfl rfl
      exact zreti hx hb hr rfl hlocks hS (((md, bt, lo, nl, pe), (rn, pn), (sa, ta, fa, pa), (sf, tf, uf, pf)), 0, 0) ⟨by rw [hnone]; rfl, by rw [hnone]; exact ⟨hR, hlo, h16⟩, Nat.le_of_eq (Nat.zero_add _), Nat.le_of_eq (Nat.zero_add _)⟩ rfl hP9 hD9 d_Me_make_22
    · refine lv_aload_n hx hb d_Me_make_11 rfl (lv_at hl 0 rfl) ?_
      refine zget hE hK hP 0 rfl fd_Me_26 rfl d_Me_make_12 ?_
      refine lv_sipush (v := 8000) hx hb d_Me_make_15 (by decide) ?_
      refine lv_icmp_lt (tgt := 23) hx hb d_Me_make_18 (by decide) (fun h3 => ?_) (fun h3 => ?_)
      · have hm8 : md < 8000 := by have q1 := z_nlt h1; have q2 := z_nlt h2; have q3 := z_lt h3; have k0 : ((0) : Int32).toInt = 0 := (by decide); have k4000 : ((4000) : Int32).toInt = 4000 := (by decide); have k8000 : ((8000) : Int32).toInt = 8000 := (by decide); have ni0 : (nI md).toInt = ((md : Nat) : Int) := nI_toInt (by omega); omega
        obtain ⟨zn, hzn, rfl⟩ := nI_of2 (M := 4000) (n := 4000) (by decide) h1 (Int32.not_lt.mp h2)
        have hu4 : up4 zn ≤ 4000 := by unfold up4; omega
        have hul := up4_le zn
        have hti : (nI zn).toInt = (zn : Int) := nI_toInt (by omega)
        refine lv_iload_n hx hb d_Me_make_23 rfl (lv_at hl 1 rfl) ?_
        refine zgoi (wr := [(h0, .inr (1, [.int (nI md), .int (nI bt), .int (nI lo), .int (nI nl), .ref sa, .ref ta, .ref fa, .ref pa, .int (nI pe), .ref ba])), (sa, .inl (cI, rn, .inl (sf))), (ta, .inl (cI, rn, .inl (tf))), (fa, .inl (cI, rn, .inl (uf))), (pa, .inl (cB, pn, .inl (pf))), (ba, .inl (cB, 4000, .inl (fun _ => 0)))]) (zrunS (n := 1) (As := [.int (nI zn)]) (rest := []) hE (c_Me_roundedUp l D _ _ (nI zn)) cb_Me_roundedUp lk_Me_42 st_Me_roundedUp (zpreS hK hP hD [] rfl rfl rfl) ⟨Nat.le_of_ble_eq_true rfl, Nat.le_of_ble_eq_true rfl, Nat.le_of_ble_eq_true rfl, Nat.le_of_ble_eq_true rfl⟩ rfl hl.1 rfl (Nat.le_of_ble_eq_true rfl) d_Me_make_24) hP hD hS hA [] [0, 1, 2, 3, 4, 5] rfl rfl rfl (by decide) (fun r5 u6 H locs hq4 hP hD hS => ?_)
        subst hq4
        have hP : va_P D zC [(h0, .inr (1, [.int (nI md), .int (nI bt), .int (nI lo), .int (nI nl), .ref sa, .ref ta, .ref fa, .ref pa, .int (nI pe), .ref ba])), (sa, .inl (cI, rn, .inl (sf))), (ta, .inl (cI, rn, .inl (tf))), (fa, .inl (cI, rn, .inl (uf))), (pa, .inl (cB, pn, .inl (pf))), (ba, .inl (cB, 4000, .inl (fun _ => 0)))] _ := hP
        have hD : va_D A [(h0, .inr (1, [.int (nI md), .int (nI bt), .int (nI lo), .int (nI nl), .ref sa, .ref ta, .ref fa, .ref pa, .int (nI pe), .ref ba])), (sa, .inl (cI, rn, .inl (sf))), (ta, .inl (cI, rn, .inl (tf))), (fa, .inl (cI, rn, .inl (uf))), (pa, .inl (cB, pn, .inl (pf))), (ba, .inl (cB, 4000, .inl (fun _ => 0)))] := hD
        refine z_st (st' := [.int (nI (up4 zn))]) (by rw [show ((sp_Me_roundedUp (nI zn)) : Int32) = nI (up4 zn) from up4_c zn (by omega)]) ?_
        refine lv_istore_n (lv' := [(3, .int (nI (up4 zn))), (0, .ref h0), (1, .int (nI zn)), (2, .int gv)]) hx hb d_Me_make_27 rfl hl (by decide) rfl (fun ls hl => ?_)
        refine lv_aload_n hx hb d_Me_make_28 rfl (lv_at hl 1 rfl) ?_
        refine zget hE hK hP 0 rfl fd_Me_30 rfl d_Me_make_29 ?_
        refine lv_iload_n hx hb d_Me_make_32 rfl (lv_at hl 0 rfl) ?_
        refine lv_iadd hx hb d_Me_make_33 ?_
        refine z_st (st' := [.int (nI (bt + up4 zn))]) (by rw [show (((nI bt) + (nI (up4 zn))) : Int32) = nI (bt + up4 zn) from nI_add _ _]) ?_
        refine lv_ldc (v := 40000) hx hb hown (hw _ kc_Me_46) d_Me_make_34 ?_
        refine lv_icmp_le (tgt := 41) hx hb d_Me_make_36 (by decide) (fun h7 => ?_) (fun h7 => ?_)
        · have hbz : bt + up4 zn ≤ 40000 := Nat.not_lt.mp (z_le' (b := 40000) (by omega) h7)
          have hsm : mMk M (nI zn) gb = some (mMake M zn gb) := by unfold mMk; rw [hti, if_pos (by rw [← hmd2, ← hbt2]; exact ⟨by omega, by omega, hm8, hbz⟩)]; rfl
          have hfR := fuR h16 hrn hmr hm8
          have hL := wdl_gt (n := rn) (d := md + 2) (t := 8001) (by omega)
          have hL2 := wdl_le (n := rn) (d := md + 2) (t := 8001) hrn
          have hL3 := wdl_ge (n := rn) (d := md + 2) (t := 8001) hrn
          refine lv_aload_n hx hb d_Me_make_41 rfl (lv_at hl 1 rfl) ?_
          refine zget hE hK hP 0 rfl fd_Me_39 rfl d_Me_make_42 ?_
          refine lv_iload_n hx hb d_Me_make_45 rfl (lv_at hl 0 rfl) ?_
          refine lv_iadd hx hb d_Me_make_46 ?_
          refine z_st (st' := [.int (nI (pe + up4 zn))]) (by rw [show (((nI pe) + (nI (up4 zn))) : Int32) = nI (pe + up4 zn) from nI_add _ _]) ?_
          refine lv_aload_n hx hb d_Me_make_47 rfl (lv_at hl 1 rfl) ?_
          refine zget hE hK hP 0 rfl fd_Me_19 rfl d_Me_make_48 ?_
          refine va_alen (v := nI pn) hx hb hK hP 4 1 rfl rfl rfl d_Me_make_51 ?_
          refine lv_icmp_le (tgt := 60) hx hb d_Me_make_52 (by decide) (fun h8 => ?_) (fun h8 => ?_)
          · have hroom : pe + up4 zn ≤ pn := Nat.not_lt.mp (z_le' (by omega) h8)
            refine lv_aload_n hx hb d_Me_make_60 rfl (lv_at hl 1 rfl) ?_
            refine zgov (wr := [(pa, .inl (cB, pn, .inl (pf))), (ba, .inl (cB, 4000, .inl (fun _ => 0)))]) (zrunV (n := 0) (As := []) (rest := []) hE (c_Me_addNumber l D cI cB cJ _ h0 md bt lo nl sa ta fa pa pe ba rn sf tf uf hm8 hmr hrn) cb_Me_addNumber lk_Me_51 in_Me_addNumber se_Me_addNumber (zpreV (q0 := 0) hK hP hD rfl rfl rfl [0, 1, 2, 3] rfl rfl rfl) ⟨Nat.le_of_ble_eq_true rfl, Nat.le_of_ble_eq_true rfl, by have e1 := hfR; show 0 + 3 * wkc rn (md + 2) ≤ phP pn + 3 * phR rn; omega, by have e1 := hfR; show 0 + 3 * wks rn (md + 2) 8001 ≤ 80000 * phP pn + 3 * (8001 * phR rn); omega⟩ rfl hl.1 rfl (Nat.le_of_ble_eq_true rfl) d_Me_make_61) hP hD hS hA [0, 1, 2, 3] [4, 5] rfl rfl rfl (by decide) (fun u11 H locs hq9 hP hD hS => ?_)
            clear hq9
            have hP : va_P D zC [(pa, .inl (cB, pn, .inl (pf))), (ba, .inl (cB, 4000, .inl (fun _ => 0))), (h0, .inr (1, [.int (nI (md + 1)), .int (nI bt), .int (nI lo), .int (nI nl), .ref u11.1, .ref u11.2.1, .ref u11.2.2, .ref pa, .int (nI pe), .ref ba])), (u11.1, .inl (cI, (wdl rn (md + 2) 8001), .inl (wdf sf rn (md + 2)))), (u11.2.1, .inl (cI, (wdl rn (md + 2) 8001), .inl (wdf tf rn (md + 2)))), (u11.2.2, .inl (cI, (wdl rn (md + 2) 8001), .inl (wdf uf rn (md + 2))))] _ := hP
            have hD : va_D A [(pa, .inl (cB, pn, .inl (pf))), (ba, .inl (cB, 4000, .inl (fun _ => 0))), (h0, .inr (1, [.int (nI (md + 1)), .int (nI bt), .int (nI lo), .int (nI nl), .ref u11.1, .ref u11.2.1, .ref u11.2.2, .ref pa, .int (nI pe), .ref ba])), (u11.1, .inl (cI, (wdl rn (md + 2) 8001), .inl (wdf sf rn (md + 2)))), (u11.2.1, .inl (cI, (wdl rn (md + 2) 8001), .inl (wdf tf rn (md + 2)))), (u11.2.2, .inl (cI, (wdl rn (md + 2) 8001), .inl (wdf uf rn (md + 2))))] := hD
            refine lv_aload_n hx hb d_Me_make_64 rfl (lv_at hl 1 rfl) ?_
            refine zget hE hK hP 2 rfl fd_Me_9 rfl d_Me_make_65 ?_
            refine lv_aload_n hx hb d_Me_make_68 rfl (lv_at hl 1 rfl) ?_
            refine zget hE hK hP 2 rfl fd_Me_26 rfl d_Me_make_69 ?_
            refine lv_iload_n hx hb d_Me_make_72 rfl (lv_at hl 2 rfl) ?_
            refine va_iast hx hb hK hP hD hS 3 0 rfl rfl (vp_in_nI (by omega) (by omega)) d_Me_make_73 (fun H locs hP hD hS => ?_)
            have hP : va_P D zC [(pa, .inl (cB, pn, .inl (pf))), (ba, .inl (cB, 4000, .inl (fun _ => 0))), (h0, .inr (1, [.int (nI (md + 1)), .int (nI bt), .int (nI lo), .int (nI nl), .ref u11.1, .ref u11.2.1, .ref u11.2.2, .ref pa, .int (nI pe), .ref ba])), (u11.1, .inl (cI, (wdl rn (md + 2) 8001), .inl (upd (wdf sf rn (md + 2)) (nI (md + 1)).toNatClampNeg (nI zn)))), (u11.2.1, .inl (cI, (wdl rn (md + 2) 8001), .inl (wdf tf rn (md + 2)))), (u11.2.2, .inl (cI, (wdl rn (md + 2) 8001), .inl (wdf uf rn (md + 2))))] _ := hP
            have hD : va_D A [(pa, .inl (cB, pn, .inl (pf))), (ba, .inl (cB, 4000, .inl (fun _ => 0))), (h0, .inr (1, [.int (nI (md + 1)), .int (nI bt), .int (nI lo), .int (nI nl), .ref u11.1, .ref u11.2.1, .ref u11.2.2, .ref pa, .int (nI pe), .ref ba])), (u11.1, .inl (cI, (wdl rn (md + 2) 8001), .inl (upd (wdf sf rn (md + 2)) (nI (md + 1)).toNatClampNeg (nI zn)))), (u11.2.1, .inl (cI, (wdl rn (md + 2) 8001), .inl (wdf tf rn (md + 2)))), (u11.2.2, .inl (cI, (wdl rn (md + 2) 8001), .inl (wdf uf rn (md + 2))))] := hD
            rw [show ((upd (wdf sf rn (md + 2)) (nI (md + 1)).toNatClampNeg (nI zn)) : Nat → Int32) = upd (wdf sf rn (md + 2)) (md + 1) (nI zn) from by rw [nI_clamp (by omega)]] at hP hD
            have hP : va_P D zC [(pa, .inl (cB, pn, .inl (pf))), (ba, .inl (cB, 4000, .inl (fun _ => 0))), (h0, .inr (1, [.int (nI (md + 1)), .int (nI bt), .int (nI lo), .int (nI nl), .ref u11.1, .ref u11.2.1, .ref u11.2.2, .ref pa, .int (nI pe), .ref ba])), (u11.1, .inl (cI, (wdl rn (md + 2) 8001), .inl (upd (wdf sf rn (md + 2)) (md + 1) (nI zn)))), (u11.2.1, .inl (cI, (wdl rn (md + 2) 8001), .inl (wdf tf rn (md + 2)))), (u11.2.2, .inl (cI, (wdl rn (md + 2) 8001), .inl (wdf uf rn (md + 2))))] _ := hP
            have hD : va_D A [(pa, .inl (cB, pn, .inl (pf))), (ba, .inl (cB, 4000, .inl (fun _ => 0))), (h0, .inr (1, [.int (nI (md + 1)), .int (nI bt), .int (nI lo), .int (nI nl), .ref u11.1, .ref u11.2.1, .ref u11.2.2, .ref pa, .int (nI pe), .ref ba])), (u11.1, .inl (cI, (wdl rn (md + 2) 8001), .inl (upd (wdf sf rn (md + 2)) (md + 1) (nI zn)))), (u11.2.1, .inl (cI, (wdl rn (md + 2) 8001), .inl (wdf tf rn (md + 2)))), (u11.2.2, .inl (cI, (wdl rn (md + 2) 8001), .inl (wdf uf rn (md + 2))))] := hD
            refine lv_aload_n hx hb d_Me_make_74 rfl (lv_at hl 1 rfl) ?_
            refine zget hE hK hP 2 rfl fd_Me_13 rfl d_Me_make_75 ?_
            refine lv_aload_n hx hb d_Me_make_78 rfl (lv_at hl 1 rfl) ?_
            refine zget hE hK hP 2 rfl fd_Me_26 rfl d_Me_make_79 ?_
            refine lv_aload_n hx hb d_Me_make_82 rfl (lv_at hl 1 rfl) ?_
            refine zget hE hK hP 2 rfl fd_Me_39 rfl d_Me_make_83 ?_
            refine va_iast hx hb hK hP hD hS 4 0 rfl rfl (vp_in_nI (by omega) (by omega)) d_Me_make_86 (fun H locs hP hD hS => ?_)
            have hP : va_P D zC [(pa, .inl (cB, pn, .inl (pf))), (ba, .inl (cB, 4000, .inl (fun _ => 0))), (h0, .inr (1, [.int (nI (md + 1)), .int (nI bt), .int (nI lo), .int (nI nl), .ref u11.1, .ref u11.2.1, .ref u11.2.2, .ref pa, .int (nI pe), .ref ba])), (u11.1, .inl (cI, (wdl rn (md + 2) 8001), .inl (upd (wdf sf rn (md + 2)) (md + 1) (nI zn)))), (u11.2.1, .inl (cI, (wdl rn (md + 2) 8001), .inl (upd (wdf tf rn (md + 2)) (nI (md + 1)).toNatClampNeg (nI pe)))), (u11.2.2, .inl (cI, (wdl rn (md + 2) 8001), .inl (wdf uf rn (md + 2))))] _ := hP
            have hD : va_D A [(pa, .inl (cB, pn, .inl (pf))), (ba, .inl (cB, 4000, .inl (fun _ => 0))), (h0, .inr (1, [.int (nI (md + 1)), .int (nI bt), .int (nI lo), .int (nI nl), .ref u11.1, .ref u11.2.1, .ref u11.2.2, .ref pa, .int (nI pe), .ref ba])), (u11.1, .inl (cI, (wdl rn (md + 2) 8001), .inl (upd (wdf sf rn (md + 2)) (md + 1) (nI zn)))), (u11.2.1, .inl (cI, (wdl rn (md + 2) 8001), .inl (upd (wdf tf rn (md + 2)) (nI (md + 1)).toNatClampNeg (nI pe)))), (u11.2.2, .inl (cI, (wdl rn (md + 2) 8001), .inl (wdf uf rn (md + 2))))] := hD
            rw [show ((upd (wdf tf rn (md + 2)) (nI (md + 1)).toNatClampNeg (nI pe)) : Nat → Int32) = upd (wdf tf rn (md + 2)) (md + 1) (nI pe) from by rw [nI_clamp (by omega)]] at hP hD
            have hP : va_P D zC [(pa, .inl (cB, pn, .inl (pf))), (ba, .inl (cB, 4000, .inl (fun _ => 0))), (h0, .inr (1, [.int (nI (md + 1)), .int (nI bt), .int (nI lo), .int (nI nl), .ref u11.1, .ref u11.2.1, .ref u11.2.2, .ref pa, .int (nI pe), .ref ba])), (u11.1, .inl (cI, (wdl rn (md + 2) 8001), .inl (upd (wdf sf rn (md + 2)) (md + 1) (nI zn)))), (u11.2.1, .inl (cI, (wdl rn (md + 2) 8001), .inl (upd (wdf tf rn (md + 2)) (md + 1) (nI pe)))), (u11.2.2, .inl (cI, (wdl rn (md + 2) 8001), .inl (wdf uf rn (md + 2))))] _ := hP
            have hD : va_D A [(pa, .inl (cB, pn, .inl (pf))), (ba, .inl (cB, 4000, .inl (fun _ => 0))), (h0, .inr (1, [.int (nI (md + 1)), .int (nI bt), .int (nI lo), .int (nI nl), .ref u11.1, .ref u11.2.1, .ref u11.2.2, .ref pa, .int (nI pe), .ref ba])), (u11.1, .inl (cI, (wdl rn (md + 2) 8001), .inl (upd (wdf sf rn (md + 2)) (md + 1) (nI zn)))), (u11.2.1, .inl (cI, (wdl rn (md + 2) 8001), .inl (upd (wdf tf rn (md + 2)) (md + 1) (nI pe)))), (u11.2.2, .inl (cI, (wdl rn (md + 2) 8001), .inl (wdf uf rn (md + 2))))] := hD
            refine lv_aload_n hx hb d_Me_make_87 rfl (lv_at hl 1 rfl) ?_
            refine zget hE hK hP 2 rfl fd_Me_16 rfl d_Me_make_88 ?_
            refine lv_aload_n hx hb d_Me_make_91 rfl (lv_at hl 1 rfl) ?_
            refine zget hE hK hP 2 rfl fd_Me_26 rfl d_Me_make_92 ?_
            refine lv_iload_n hx hb d_Me_make_95 rfl (lv_at hl 3 rfl) ?_
            refine lv_if_eq (tgt := 103) hx hb d_Me_make_96 (by decide) (fun h12 => ?_) (fun h12 => ?_)
            · refine lv_aload_n hx hb d_Me_make_103 rfl (lv_at hl 1 rfl) ?_
              refine zget hE hK hP 2 rfl fd_Me_36 rfl d_Me_make_104 ?_
              refine va_iast hx hb hK hP hD hS 5 0 rfl rfl (vp_in_nI (by omega) (by omega)) d_Me_make_107 (fun H locs hP hD hS => ?_)
              have hP : va_P D zC [(pa, .inl (cB, pn, .inl (pf))), (ba, .inl (cB, 4000, .inl (fun _ => 0))), (h0, .inr (1, [.int (nI (md + 1)), .int (nI bt), .int (nI lo), .int (nI nl), .ref u11.1, .ref u11.2.1, .ref u11.2.2, .ref pa, .int (nI pe), .ref ba])), (u11.1, .inl (cI, (wdl rn (md + 2) 8001), .inl (upd (wdf sf rn (md + 2)) (md + 1) (nI zn)))), (u11.2.1, .inl (cI, (wdl rn (md + 2) 8001), .inl (upd (wdf tf rn (md + 2)) (md + 1) (nI pe)))), (u11.2.2, .inl (cI, (wdl rn (md + 2) 8001), .inl (upd (wdf uf rn (md + 2)) (nI (md + 1)).toNatClampNeg (nI nl))))] _ := hP
              have hD : va_D A [(pa, .inl (cB, pn, .inl (pf))), (ba, .inl (cB, 4000, .inl (fun _ => 0))), (h0, .inr (1, [.int (nI (md + 1)), .int (nI bt), .int (nI lo), .int (nI nl), .ref u11.1, .ref u11.2.1, .ref u11.2.2, .ref pa, .int (nI pe), .ref ba])), (u11.1, .inl (cI, (wdl rn (md + 2) 8001), .inl (upd (wdf sf rn (md + 2)) (md + 1) (nI zn)))), (u11.2.1, .inl (cI, (wdl rn (md + 2) 8001), .inl (upd (wdf tf rn (md + 2)) (md + 1) (nI pe)))), (u11.2.2, .inl (cI, (wdl rn (md + 2) 8001), .inl (upd (wdf uf rn (md + 2)) (nI (md + 1)).toNatClampNeg (nI nl))))] := hD
              rw [show ((upd (wdf uf rn (md + 2)) (nI (md + 1)).toNatClampNeg (nI nl)) : Nat → Int32) = upd (wdf uf rn (md + 2)) (md + 1) (nI nl) from by rw [nI_clamp (by omega)]] at hP hD
              have hP : va_P D zC [(pa, .inl (cB, pn, .inl (pf))), (ba, .inl (cB, 4000, .inl (fun _ => 0))), (h0, .inr (1, [.int (nI (md + 1)), .int (nI bt), .int (nI lo), .int (nI nl), .ref u11.1, .ref u11.2.1, .ref u11.2.2, .ref pa, .int (nI pe), .ref ba])), (u11.1, .inl (cI, (wdl rn (md + 2) 8001), .inl (upd (wdf sf rn (md + 2)) (md + 1) (nI zn)))), (u11.2.1, .inl (cI, (wdl rn (md + 2) 8001), .inl (upd (wdf tf rn (md + 2)) (md + 1) (nI pe)))), (u11.2.2, .inl (cI, (wdl rn (md + 2) 8001), .inl (upd (wdf uf rn (md + 2)) (md + 1) (nI nl))))] _ := hP
              have hD : va_D A [(pa, .inl (cB, pn, .inl (pf))), (ba, .inl (cB, 4000, .inl (fun _ => 0))), (h0, .inr (1, [.int (nI (md + 1)), .int (nI bt), .int (nI lo), .int (nI nl), .ref u11.1, .ref u11.2.1, .ref u11.2.2, .ref pa, .int (nI pe), .ref ba])), (u11.1, .inl (cI, (wdl rn (md + 2) 8001), .inl (upd (wdf sf rn (md + 2)) (md + 1) (nI zn)))), (u11.2.1, .inl (cI, (wdl rn (md + 2) 8001), .inl (upd (wdf tf rn (md + 2)) (md + 1) (nI pe)))), (u11.2.2, .inl (cI, (wdl rn (md + 2) 8001), .inl (upd (wdf uf rn (md + 2)) (md + 1) (nI nl))))] := hD
              refine lv_iload_n hx hb d_Me_make_108 rfl (lv_at hl 3 rfl) ?_
              refine lv_if_ne (tgt := 130) hx hb d_Me_make_109 (by decide) (fun h13 => absurd h12 h13) (fun h13 => ?_)
              refine lv_aload_n hx hb d_Me_make_112 rfl (lv_at hl 1 rfl) ?_
              refine lv_aload_n hx hb d_Me_make_113 rfl (lv_at hl 1 rfl) ?_
              refine zget hE hK hP 2 rfl fd_Me_26 rfl d_Me_make_114 ?_
              refine zput (v := .int (nI (md + 1))) hE hK hP hD hS 2 rfl fd_Me_36 ft_Me_3 rfl rfl (Nat.le_of_ble_eq_true rfl) d_Me_make_117 (fun H locs hP hD hS => ?_)
              have hP : va_P D zC [(pa, .inl (cB, pn, .inl (pf))), (ba, .inl (cB, 4000, .inl (fun _ => 0))), (h0, .inr (1, [.int (nI (md + 1)), .int (nI bt), .int (nI lo), .int (nI (md + 1)), .ref u11.1, .ref u11.2.1, .ref u11.2.2, .ref pa, .int (nI pe), .ref ba])), (u11.1, .inl (cI, (wdl rn (md + 2) 8001), .inl (upd (wdf sf rn (md + 2)) (md + 1) (nI zn)))), (u11.2.1, .inl (cI, (wdl rn (md + 2) 8001), .inl (upd (wdf tf rn (md + 2)) (md + 1) (nI pe)))), (u11.2.2, .inl (cI, (wdl rn (md + 2) 8001), .inl (upd (wdf uf rn (md + 2)) (md + 1) (nI nl))))] _ := hP
              have hD : va_D A [(pa, .inl (cB, pn, .inl (pf))), (ba, .inl (cB, 4000, .inl (fun _ => 0))), (h0, .inr (1, [.int (nI (md + 1)), .int (nI bt), .int (nI lo), .int (nI (md + 1)), .ref u11.1, .ref u11.2.1, .ref u11.2.2, .ref pa, .int (nI pe), .ref ba])), (u11.1, .inl (cI, (wdl rn (md + 2) 8001), .inl (upd (wdf sf rn (md + 2)) (md + 1) (nI zn)))), (u11.2.1, .inl (cI, (wdl rn (md + 2) 8001), .inl (upd (wdf tf rn (md + 2)) (md + 1) (nI pe)))), (u11.2.2, .inl (cI, (wdl rn (md + 2) 8001), .inl (upd (wdf uf rn (md + 2)) (md + 1) (nI nl))))] := hD
              refine lv_aload_n hx hb d_Me_make_120 rfl (lv_at hl 1 rfl) ?_
              refine lv_dup hx hb d_Me_make_121 rfl ?_
              refine zget hE hK hP 2 rfl fd_Me_33 rfl d_Me_make_122 ?_
              refine lv_iconst (v := 1) hx hb d_Me_make_125 (by decide) ?_
              refine lv_iadd hx hb d_Me_make_126 ?_
              refine z_st (st' := [.int (nI (lo + 1)), .ref h0]) (by rw [show (((nI lo) + 1) : Int32) = nI (lo + 1) from nI_1 lo]) ?_
              refine zput (v := .int (nI (lo + 1))) hE hK hP hD hS 2 rfl fd_Me_33 ft_Me_2 rfl rfl (Nat.le_of_ble_eq_true rfl) d_Me_make_127 (fun H locs hP hD hS => ?_)
              have hP : va_P D zC [(pa, .inl (cB, pn, .inl (pf))), (ba, .inl (cB, 4000, .inl (fun _ => 0))), (h0, .inr (1, [.int (nI (md + 1)), .int (nI bt), .int (nI (lo + 1)), .int (nI (md + 1)), .ref u11.1, .ref u11.2.1, .ref u11.2.2, .ref pa, .int (nI pe), .ref ba])), (u11.1, .inl (cI, (wdl rn (md + 2) 8001), .inl (upd (wdf sf rn (md + 2)) (md + 1) (nI zn)))), (u11.2.1, .inl (cI, (wdl rn (md + 2) 8001), .inl (upd (wdf tf rn (md + 2)) (md + 1) (nI pe)))), (u11.2.2, .inl (cI, (wdl rn (md + 2) 8001), .inl (upd (wdf uf rn (md + 2)) (md + 1) (nI nl))))] _ := hP
              have hD : va_D A [(pa, .inl (cB, pn, .inl (pf))), (ba, .inl (cB, 4000, .inl (fun _ => 0))), (h0, .inr (1, [.int (nI (md + 1)), .int (nI bt), .int (nI (lo + 1)), .int (nI (md + 1)), .ref u11.1, .ref u11.2.1, .ref u11.2.2, .ref pa, .int (nI pe), .ref ba])), (u11.1, .inl (cI, (wdl rn (md + 2) 8001), .inl (upd (wdf sf rn (md + 2)) (md + 1) (nI zn)))), (u11.2.1, .inl (cI, (wdl rn (md + 2) 8001), .inl (upd (wdf tf rn (md + 2)) (md + 1) (nI pe)))), (u11.2.2, .inl (cI, (wdl rn (md + 2) 8001), .inl (upd (wdf uf rn (md + 2)) (md + 1) (nI nl))))] := hD
              refine lv_aload_n hx hb d_Me_make_130 rfl (lv_at hl 1 rfl) ?_
              refine zget hE hK hP 2 rfl fd_Me_23 rfl d_Me_make_131 ?_
              refine lv_iconst (v := 0) hx hb d_Me_make_134 (by decide) ?_
              refine lv_aload_n hx hb d_Me_make_135 rfl (lv_at hl 1 rfl) ?_
              refine zget hE hK hP 2 rfl fd_Me_19 rfl d_Me_make_136 ?_
              refine lv_aload_n hx hb d_Me_make_139 rfl (lv_at hl 1 rfl) ?_
              refine zget hE hK hP 2 rfl fd_Me_39 rfl d_Me_make_140 ?_
              refine lv_iload_n hx hb d_Me_make_143 rfl (lv_at hl 0 rfl) ?_
              refine va_copyi (R := { frames := 4, cells := phP pn + 3 * phR rn, slots := 80000 * phP pn + 3 * (8001 * phR rn), locals := 124 }) (ty := .byte) (rest := []) hx hb (hE.2.2.1.trans hl.1.symm) hown (hw _ sl_Me) (hw _ sy_nat) (hw _ sy_st) (hw _ sy_ini) hK hP hD hS 1 0 1 1 rfl rfl rfl rfl rfl (by decide) (nI_pos (n := pe) (by omega)) (nI_pos (n := up4 zn) (by omega)) (by rw [nI_clamp (by omega)]; show 0 + up4 zn ≤ 4000; omega) (by rw [nI_clamp (by omega), nI_clamp (by omega)]; exact hroom) (fun i hi => rfl) (by exact Nat.le_of_ble_eq_true rfl) (by exact Nat.le_of_ble_eq_true rfl) d_Me_make_144 (fun H locs hP hD hS => ?_)
              have hP : va_P D zC [(pa, .inl (cB, pn, .inl (va_cpy (fun _ => 0) pf 0 (nI pe).toNatClampNeg (nI (up4 zn)).toNatClampNeg))), (ba, .inl (cB, 4000, .inl (fun _ => 0))), (h0, .inr (1, [.int (nI (md + 1)), .int (nI bt), .int (nI (lo + 1)), .int (nI (md + 1)), .ref u11.1, .ref u11.2.1, .ref u11.2.2, .ref pa, .int (nI pe), .ref ba])), (u11.1, .inl (cI, (wdl rn (md + 2) 8001), .inl (upd (wdf sf rn (md + 2)) (md + 1) (nI zn)))), (u11.2.1, .inl (cI, (wdl rn (md + 2) 8001), .inl (upd (wdf tf rn (md + 2)) (md + 1) (nI pe)))), (u11.2.2, .inl (cI, (wdl rn (md + 2) 8001), .inl (upd (wdf uf rn (md + 2)) (md + 1) (nI nl))))] _ := hP
              have hD : va_D A [(pa, .inl (cB, pn, .inl (va_cpy (fun _ => 0) pf 0 (nI pe).toNatClampNeg (nI (up4 zn)).toNatClampNeg))), (ba, .inl (cB, 4000, .inl (fun _ => 0))), (h0, .inr (1, [.int (nI (md + 1)), .int (nI bt), .int (nI (lo + 1)), .int (nI (md + 1)), .ref u11.1, .ref u11.2.1, .ref u11.2.2, .ref pa, .int (nI pe), .ref ba])), (u11.1, .inl (cI, (wdl rn (md + 2) 8001), .inl (upd (wdf sf rn (md + 2)) (md + 1) (nI zn)))), (u11.2.1, .inl (cI, (wdl rn (md + 2) 8001), .inl (upd (wdf tf rn (md + 2)) (md + 1) (nI pe)))), (u11.2.2, .inl (cI, (wdl rn (md + 2) 8001), .inl (upd (wdf uf rn (md + 2)) (md + 1) (nI nl))))] := hD
              rw [show ((va_cpy (fun _ => 0) pf 0 (nI pe).toNatClampNeg (nI (up4 zn)).toNatClampNeg) : Nat → Int32) = va_cpy (fun _ => 0) pf 0 pe (up4 zn) from by rw [nI_clamp (by omega), nI_clamp (by omega)]] at hP hD
              have hP : va_P D zC [(pa, .inl (cB, pn, .inl (va_cpy (fun _ => 0) pf 0 pe (up4 zn)))), (ba, .inl (cB, 4000, .inl (fun _ => 0))), (h0, .inr (1, [.int (nI (md + 1)), .int (nI bt), .int (nI (lo + 1)), .int (nI (md + 1)), .ref u11.1, .ref u11.2.1, .ref u11.2.2, .ref pa, .int (nI pe), .ref ba])), (u11.1, .inl (cI, (wdl rn (md + 2) 8001), .inl (upd (wdf sf rn (md + 2)) (md + 1) (nI zn)))), (u11.2.1, .inl (cI, (wdl rn (md + 2) 8001), .inl (upd (wdf tf rn (md + 2)) (md + 1) (nI pe)))), (u11.2.2, .inl (cI, (wdl rn (md + 2) 8001), .inl (upd (wdf uf rn (md + 2)) (md + 1) (nI nl))))] _ := hP
              have hD : va_D A [(pa, .inl (cB, pn, .inl (va_cpy (fun _ => 0) pf 0 pe (up4 zn)))), (ba, .inl (cB, 4000, .inl (fun _ => 0))), (h0, .inr (1, [.int (nI (md + 1)), .int (nI bt), .int (nI (lo + 1)), .int (nI (md + 1)), .ref u11.1, .ref u11.2.1, .ref u11.2.2, .ref pa, .int (nI pe), .ref ba])), (u11.1, .inl (cI, (wdl rn (md + 2) 8001), .inl (upd (wdf sf rn (md + 2)) (md + 1) (nI zn)))), (u11.2.1, .inl (cI, (wdl rn (md + 2) 8001), .inl (upd (wdf tf rn (md + 2)) (md + 1) (nI pe)))), (u11.2.2, .inl (cI, (wdl rn (md + 2) 8001), .inl (upd (wdf uf rn (md + 2)) (md + 1) (nI nl))))] := hD
              refine lv_aload_n hx hb d_Me_make_147 rfl (lv_at hl 1 rfl) ?_
              refine lv_dup hx hb d_Me_make_148 rfl ?_
              refine zget hE hK hP 2 rfl fd_Me_39 rfl d_Me_make_149 ?_
              refine lv_iload_n hx hb d_Me_make_152 rfl (lv_at hl 0 rfl) ?_
              refine lv_iadd hx hb d_Me_make_153 ?_
              refine z_st (st' := [.int (nI (pe + up4 zn)), .ref h0]) (by rw [show (((nI pe) + (nI (up4 zn))) : Int32) = nI (pe + up4 zn) from nI_add _ _]) ?_
              refine zput (v := .int (nI (pe + up4 zn))) hE hK hP hD hS 2 rfl fd_Me_39 ft_Me_8 rfl rfl (Nat.le_of_ble_eq_true rfl) d_Me_make_154 (fun H locs hP hD hS => ?_)
              have hP : va_P D zC [(pa, .inl (cB, pn, .inl (va_cpy (fun _ => 0) pf 0 pe (up4 zn)))), (ba, .inl (cB, 4000, .inl (fun _ => 0))), (h0, .inr (1, [.int (nI (md + 1)), .int (nI bt), .int (nI (lo + 1)), .int (nI (md + 1)), .ref u11.1, .ref u11.2.1, .ref u11.2.2, .ref pa, .int (nI (pe + up4 zn)), .ref ba])), (u11.1, .inl (cI, (wdl rn (md + 2) 8001), .inl (upd (wdf sf rn (md + 2)) (md + 1) (nI zn)))), (u11.2.1, .inl (cI, (wdl rn (md + 2) 8001), .inl (upd (wdf tf rn (md + 2)) (md + 1) (nI pe)))), (u11.2.2, .inl (cI, (wdl rn (md + 2) 8001), .inl (upd (wdf uf rn (md + 2)) (md + 1) (nI nl))))] _ := hP
              have hD : va_D A [(pa, .inl (cB, pn, .inl (va_cpy (fun _ => 0) pf 0 pe (up4 zn)))), (ba, .inl (cB, 4000, .inl (fun _ => 0))), (h0, .inr (1, [.int (nI (md + 1)), .int (nI bt), .int (nI (lo + 1)), .int (nI (md + 1)), .ref u11.1, .ref u11.2.1, .ref u11.2.2, .ref pa, .int (nI (pe + up4 zn)), .ref ba])), (u11.1, .inl (cI, (wdl rn (md + 2) 8001), .inl (upd (wdf sf rn (md + 2)) (md + 1) (nI zn)))), (u11.2.1, .inl (cI, (wdl rn (md + 2) 8001), .inl (upd (wdf tf rn (md + 2)) (md + 1) (nI pe)))), (u11.2.2, .inl (cI, (wdl rn (md + 2) 8001), .inl (upd (wdf uf rn (md + 2)) (md + 1) (nI nl))))] := hD
              refine lv_aload_n hx hb d_Me_make_157 rfl (lv_at hl 1 rfl) ?_
              refine lv_dup hx hb d_Me_make_158 rfl ?_
              refine zget hE hK hP 2 rfl fd_Me_30 rfl d_Me_make_159 ?_
              refine lv_iload_n hx hb d_Me_make_162 rfl (lv_at hl 0 rfl) ?_
              refine lv_iadd hx hb d_Me_make_163 ?_
              refine z_st (st' := [.int (nI (bt + up4 zn)), .ref h0]) (by rw [show (((nI bt) + (nI (up4 zn))) : Int32) = nI (bt + up4 zn) from nI_add _ _]) ?_
              refine zput (v := .int (nI (bt + up4 zn))) hE hK hP hD hS 2 rfl fd_Me_30 ft_Me_1 rfl rfl (Nat.le_of_ble_eq_true rfl) d_Me_make_164 (fun H locs hP hD hS => ?_)
              have hP : va_P D zC [(pa, .inl (cB, pn, .inl (va_cpy (fun _ => 0) pf 0 pe (up4 zn)))), (ba, .inl (cB, 4000, .inl (fun _ => 0))), (h0, .inr (1, [.int (nI (md + 1)), .int (nI (bt + up4 zn)), .int (nI (lo + 1)), .int (nI (md + 1)), .ref u11.1, .ref u11.2.1, .ref u11.2.2, .ref pa, .int (nI (pe + up4 zn)), .ref ba])), (u11.1, .inl (cI, (wdl rn (md + 2) 8001), .inl (upd (wdf sf rn (md + 2)) (md + 1) (nI zn)))), (u11.2.1, .inl (cI, (wdl rn (md + 2) 8001), .inl (upd (wdf tf rn (md + 2)) (md + 1) (nI pe)))), (u11.2.2, .inl (cI, (wdl rn (md + 2) 8001), .inl (upd (wdf uf rn (md + 2)) (md + 1) (nI nl))))] _ := hP
              have hD : va_D A [(pa, .inl (cB, pn, .inl (va_cpy (fun _ => 0) pf 0 pe (up4 zn)))), (ba, .inl (cB, 4000, .inl (fun _ => 0))), (h0, .inr (1, [.int (nI (md + 1)), .int (nI (bt + up4 zn)), .int (nI (lo + 1)), .int (nI (md + 1)), .ref u11.1, .ref u11.2.1, .ref u11.2.2, .ref pa, .int (nI (pe + up4 zn)), .ref ba])), (u11.1, .inl (cI, (wdl rn (md + 2) 8001), .inl (upd (wdf sf rn (md + 2)) (md + 1) (nI zn)))), (u11.2.1, .inl (cI, (wdl rn (md + 2) 8001), .inl (upd (wdf tf rn (md + 2)) (md + 1) (nI pe)))), (u11.2.2, .inl (cI, (wdl rn (md + 2) 8001), .inl (upd (wdf uf rn (md + 2)) (md + 1) (nI nl))))] := hD
              refine lv_aload_n hx hb d_Me_make_167 rfl (lv_at hl 1 rfl) ?_
              refine zget hE hK hP 2 rfl fd_Me_26 rfl d_Me_make_168 ?_
              refine lv_bipush (v := 16) hx hb d_Me_make_171 (by decide) ?_
              refine lv_ishl hx hb d_Me_make_173 ?_
              refine z_st (st' := [.int (nI ((md + 1) * 65536))]) (by rw [show (((nI (md + 1) : Int32) <<< ((16 : Int32) &&& 31)) : Int32) = nI ((md + 1) * 65536) from pk_shlN _ 16 (by decide) (by omega)]) ?_
              have hgb : gb = false := (Bool.eq_false_or_eq_true gb).elim (fun q => absurd ((show gv = 1 by rw [hgv, q]; rfl).symm.trans h12) (by decide)) id
              subst hgb
              have hP9 := hP.sub (ws' := [(h0, .inr (1, [.int (nI (md + 1)), .int (nI (bt + up4 zn)), .int (nI (lo + 1)), .int (nI (md + 1)), .ref u11.1, .ref u11.2.1, .ref u11.2.2, .ref pa, .int (nI (pe + up4 zn)), .ref ba])), (u11.1, .inl (cI, (wdl rn (md + 2) 8001), .inl (upd (wdf sf rn (md + 2)) (md + 1) (nI zn)))), (u11.2.1, .inl (cI, (wdl rn (md + 2) 8001), .inl (upd (wdf tf rn (md + 2)) (md + 1) (nI pe)))), (u11.2.2, .inl (cI, (wdl rn (md + 2) 8001), .inl (upd (wdf uf rn (md + 2)) (md + 1) (nI nl)))), (pa, .inl (cB, pn, .inl (va_cpy (fun _ => 0) pf 0 pe (up4 zn)))), (ba, .inl (cB, 4000, .inl (fun _ => 0)))]) [2, 3, 4, 5, 0, 1] rfl
              have hD9 := hD.sub (ws' := [(h0, .inr (1, [.int (nI (md + 1)), .int (nI (bt + up4 zn)), .int (nI (lo + 1)), .int (nI (md + 1)), .ref u11.1, .ref u11.2.1, .ref u11.2.2, .ref pa, .int (nI (pe + up4 zn)), .ref ba])), (u11.1, .inl (cI, (wdl rn (md + 2) 8001), .inl (upd (wdf sf rn (md + 2)) (md + 1) (nI zn)))), (u11.2.1, .inl (cI, (wdl rn (md + 2) 8001), .inl (upd (wdf tf rn (md + 2)) (md + 1) (nI pe)))), (u11.2.2, .inl (cI, (wdl rn (md + 2) 8001), .inl (upd (wdf uf rn (md + 2)) (md + 1) (nI nl)))), (pa, .inl (cB, pn, .inl (va_cpy (fun _ => 0) pf 0 pe (up4 zn)))), (ba, .inl (cB, 4000, .inl (fun _ => 0)))]) [2, 3, 4, 5, 0, 1] rfl rfl
              exact zreti hx hb hr rfl hlocks hS ((((md + 1), (bt + up4 zn), (lo + 1), (md + 1), (pe + up4 zn)), ((wdl rn (md + 2) 8001), pn), (u11.1, u11.2.1, u11.2.2, pa), (upd (wdf sf rn (md + 2)) (md + 1) (nI zn), upd (wdf tf rn (md + 2)) (md + 1) (nI pe), upd (wdf uf rn (md + 2)) (md + 1) (nI nl), va_cpy (fun _ => 0) pf 0 pe (up4 zn))), 3 * wkc rn (md + 2), 3 * wks rn (md + 2) 8001) ⟨by rw [hsm]; rfl, by rw [hsm]; exact ⟨cRep_make false hR hm8 hzn hbz hroom, by show lo + 1 = _; rw [hlo]; rfl, by show 16 ≤ wdl rn (md + 2) 8001; omega⟩, by have e1 := hfR; show 3 * wkc rn (md + 2) + (phP pn + 3 * phR (wdl rn (md + 2) 8001)) ≤ phP pn + 3 * phR rn; omega, by have e1 := hfR; show 3 * wks rn (md + 2) 8001 + (80000 * phP pn + 3 * (8001 * phR (wdl rn (md + 2) 8001))) ≤ 80000 * phP pn + 3 * (8001 * phR rn); omega⟩ (Prod.ext (by show 3 * wkc rn (md + 2) = 0 + 3 * wkc rn (md + 2); omega) (by show 3 * wks rn (md + 2) 8001 = 0 + 3 * wks rn (md + 2) 8001; omega)) hP9 hD9 d_Me_make_174
            · refine lv_iconst (v := (-1)) hx hb d_Me_make_99 (by decide) ?_
              refine lv_goto (tgt := 107) hx hb d_Me_make_100 (by decide) ?_
              refine va_iast hx hb hK hP hD hS 5 0 rfl rfl (vp_in_nI (by omega) (by omega)) d_Me_make_107 (fun H locs hP hD hS => ?_)
              have hP : va_P D zC [(pa, .inl (cB, pn, .inl (pf))), (ba, .inl (cB, 4000, .inl (fun _ => 0))), (h0, .inr (1, [.int (nI (md + 1)), .int (nI bt), .int (nI lo), .int (nI nl), .ref u11.1, .ref u11.2.1, .ref u11.2.2, .ref pa, .int (nI pe), .ref ba])), (u11.1, .inl (cI, (wdl rn (md + 2) 8001), .inl (upd (wdf sf rn (md + 2)) (md + 1) (nI zn)))), (u11.2.1, .inl (cI, (wdl rn (md + 2) 8001), .inl (upd (wdf tf rn (md + 2)) (md + 1) (nI pe)))), (u11.2.2, .inl (cI, (wdl rn (md + 2) 8001), .inl (upd (wdf uf rn (md + 2)) (nI (md + 1)).toNatClampNeg (-1))))] _ := hP
              have hD : va_D A [(pa, .inl (cB, pn, .inl (pf))), (ba, .inl (cB, 4000, .inl (fun _ => 0))), (h0, .inr (1, [.int (nI (md + 1)), .int (nI bt), .int (nI lo), .int (nI nl), .ref u11.1, .ref u11.2.1, .ref u11.2.2, .ref pa, .int (nI pe), .ref ba])), (u11.1, .inl (cI, (wdl rn (md + 2) 8001), .inl (upd (wdf sf rn (md + 2)) (md + 1) (nI zn)))), (u11.2.1, .inl (cI, (wdl rn (md + 2) 8001), .inl (upd (wdf tf rn (md + 2)) (md + 1) (nI pe)))), (u11.2.2, .inl (cI, (wdl rn (md + 2) 8001), .inl (upd (wdf uf rn (md + 2)) (nI (md + 1)).toNatClampNeg (-1))))] := hD
              rw [show ((upd (wdf uf rn (md + 2)) (nI (md + 1)).toNatClampNeg (-1)) : Nat → Int32) = upd (wdf uf rn (md + 2)) (md + 1) (-1) from by rw [nI_clamp (by omega)]] at hP hD
              have hP : va_P D zC [(pa, .inl (cB, pn, .inl (pf))), (ba, .inl (cB, 4000, .inl (fun _ => 0))), (h0, .inr (1, [.int (nI (md + 1)), .int (nI bt), .int (nI lo), .int (nI nl), .ref u11.1, .ref u11.2.1, .ref u11.2.2, .ref pa, .int (nI pe), .ref ba])), (u11.1, .inl (cI, (wdl rn (md + 2) 8001), .inl (upd (wdf sf rn (md + 2)) (md + 1) (nI zn)))), (u11.2.1, .inl (cI, (wdl rn (md + 2) 8001), .inl (upd (wdf tf rn (md + 2)) (md + 1) (nI pe)))), (u11.2.2, .inl (cI, (wdl rn (md + 2) 8001), .inl (upd (wdf uf rn (md + 2)) (md + 1) (-1))))] _ := hP
              have hD : va_D A [(pa, .inl (cB, pn, .inl (pf))), (ba, .inl (cB, 4000, .inl (fun _ => 0))), (h0, .inr (1, [.int (nI (md + 1)), .int (nI bt), .int (nI lo), .int (nI nl), .ref u11.1, .ref u11.2.1, .ref u11.2.2, .ref pa, .int (nI pe), .ref ba])), (u11.1, .inl (cI, (wdl rn (md + 2) 8001), .inl (upd (wdf sf rn (md + 2)) (md + 1) (nI zn)))), (u11.2.1, .inl (cI, (wdl rn (md + 2) 8001), .inl (upd (wdf tf rn (md + 2)) (md + 1) (nI pe)))), (u11.2.2, .inl (cI, (wdl rn (md + 2) 8001), .inl (upd (wdf uf rn (md + 2)) (md + 1) (-1))))] := hD
              refine lv_iload_n hx hb d_Me_make_108 rfl (lv_at hl 3 rfl) ?_
              refine lv_if_ne (tgt := 130) hx hb d_Me_make_109 (by decide) (fun h14 => ?_) (fun h14 => absurd h14 h12)
              refine lv_aload_n hx hb d_Me_make_130 rfl (lv_at hl 1 rfl) ?_
              refine zget hE hK hP 2 rfl fd_Me_23 rfl d_Me_make_131 ?_
              refine lv_iconst (v := 0) hx hb d_Me_make_134 (by decide) ?_
              refine lv_aload_n hx hb d_Me_make_135 rfl (lv_at hl 1 rfl) ?_
              refine zget hE hK hP 2 rfl fd_Me_19 rfl d_Me_make_136 ?_
              refine lv_aload_n hx hb d_Me_make_139 rfl (lv_at hl 1 rfl) ?_
              refine zget hE hK hP 2 rfl fd_Me_39 rfl d_Me_make_140 ?_
              refine lv_iload_n hx hb d_Me_make_143 rfl (lv_at hl 0 rfl) ?_
              refine va_copyi (R := { frames := 4, cells := phP pn + 3 * phR rn, slots := 80000 * phP pn + 3 * (8001 * phR rn), locals := 124 }) (ty := .byte) (rest := []) hx hb (hE.2.2.1.trans hl.1.symm) hown (hw _ sl_Me) (hw _ sy_nat) (hw _ sy_st) (hw _ sy_ini) hK hP hD hS 1 0 1 1 rfl rfl rfl rfl rfl (by decide) (nI_pos (n := pe) (by omega)) (nI_pos (n := up4 zn) (by omega)) (by rw [nI_clamp (by omega)]; show 0 + up4 zn ≤ 4000; omega) (by rw [nI_clamp (by omega), nI_clamp (by omega)]; exact hroom) (fun i hi => rfl) (by exact Nat.le_of_ble_eq_true rfl) (by exact Nat.le_of_ble_eq_true rfl) d_Me_make_144 (fun H locs hP hD hS => ?_)
              have hP : va_P D zC [(pa, .inl (cB, pn, .inl (va_cpy (fun _ => 0) pf 0 (nI pe).toNatClampNeg (nI (up4 zn)).toNatClampNeg))), (ba, .inl (cB, 4000, .inl (fun _ => 0))), (h0, .inr (1, [.int (nI (md + 1)), .int (nI bt), .int (nI lo), .int (nI nl), .ref u11.1, .ref u11.2.1, .ref u11.2.2, .ref pa, .int (nI pe), .ref ba])), (u11.1, .inl (cI, (wdl rn (md + 2) 8001), .inl (upd (wdf sf rn (md + 2)) (md + 1) (nI zn)))), (u11.2.1, .inl (cI, (wdl rn (md + 2) 8001), .inl (upd (wdf tf rn (md + 2)) (md + 1) (nI pe)))), (u11.2.2, .inl (cI, (wdl rn (md + 2) 8001), .inl (upd (wdf uf rn (md + 2)) (md + 1) (-1))))] _ := hP
              have hD : va_D A [(pa, .inl (cB, pn, .inl (va_cpy (fun _ => 0) pf 0 (nI pe).toNatClampNeg (nI (up4 zn)).toNatClampNeg))), (ba, .inl (cB, 4000, .inl (fun _ => 0))), (h0, .inr (1, [.int (nI (md + 1)), .int (nI bt), .int (nI lo), .int (nI nl), .ref u11.1, .ref u11.2.1, .ref u11.2.2, .ref pa, .int (nI pe), .ref ba])), (u11.1, .inl (cI, (wdl rn (md + 2) 8001), .inl (upd (wdf sf rn (md + 2)) (md + 1) (nI zn)))), (u11.2.1, .inl (cI, (wdl rn (md + 2) 8001), .inl (upd (wdf tf rn (md + 2)) (md + 1) (nI pe)))), (u11.2.2, .inl (cI, (wdl rn (md + 2) 8001), .inl (upd (wdf uf rn (md + 2)) (md + 1) (-1))))] := hD
              rw [show ((va_cpy (fun _ => 0) pf 0 (nI pe).toNatClampNeg (nI (up4 zn)).toNatClampNeg) : Nat → Int32) = va_cpy (fun _ => 0) pf 0 pe (up4 zn) from by rw [nI_clamp (by omega), nI_clamp (by omega)]] at hP hD
              have hP : va_P D zC [(pa, .inl (cB, pn, .inl (va_cpy (fun _ => 0) pf 0 pe (up4 zn)))), (ba, .inl (cB, 4000, .inl (fun _ => 0))), (h0, .inr (1, [.int (nI (md + 1)), .int (nI bt), .int (nI lo), .int (nI nl), .ref u11.1, .ref u11.2.1, .ref u11.2.2, .ref pa, .int (nI pe), .ref ba])), (u11.1, .inl (cI, (wdl rn (md + 2) 8001), .inl (upd (wdf sf rn (md + 2)) (md + 1) (nI zn)))), (u11.2.1, .inl (cI, (wdl rn (md + 2) 8001), .inl (upd (wdf tf rn (md + 2)) (md + 1) (nI pe)))), (u11.2.2, .inl (cI, (wdl rn (md + 2) 8001), .inl (upd (wdf uf rn (md + 2)) (md + 1) (-1))))] _ := hP
              have hD : va_D A [(pa, .inl (cB, pn, .inl (va_cpy (fun _ => 0) pf 0 pe (up4 zn)))), (ba, .inl (cB, 4000, .inl (fun _ => 0))), (h0, .inr (1, [.int (nI (md + 1)), .int (nI bt), .int (nI lo), .int (nI nl), .ref u11.1, .ref u11.2.1, .ref u11.2.2, .ref pa, .int (nI pe), .ref ba])), (u11.1, .inl (cI, (wdl rn (md + 2) 8001), .inl (upd (wdf sf rn (md + 2)) (md + 1) (nI zn)))), (u11.2.1, .inl (cI, (wdl rn (md + 2) 8001), .inl (upd (wdf tf rn (md + 2)) (md + 1) (nI pe)))), (u11.2.2, .inl (cI, (wdl rn (md + 2) 8001), .inl (upd (wdf uf rn (md + 2)) (md + 1) (-1))))] := hD
              refine lv_aload_n hx hb d_Me_make_147 rfl (lv_at hl 1 rfl) ?_
              refine lv_dup hx hb d_Me_make_148 rfl ?_
              refine zget hE hK hP 2 rfl fd_Me_39 rfl d_Me_make_149 ?_
              refine lv_iload_n hx hb d_Me_make_152 rfl (lv_at hl 0 rfl) ?_
              refine lv_iadd hx hb d_Me_make_153 ?_
              refine z_st (st' := [.int (nI (pe + up4 zn)), .ref h0]) (by rw [show (((nI pe) + (nI (up4 zn))) : Int32) = nI (pe + up4 zn) from nI_add _ _]) ?_
              refine zput (v := .int (nI (pe + up4 zn))) hE hK hP hD hS 2 rfl fd_Me_39 ft_Me_8 rfl rfl (Nat.le_of_ble_eq_true rfl) d_Me_make_154 (fun H locs hP hD hS => ?_)
              have hP : va_P D zC [(pa, .inl (cB, pn, .inl (va_cpy (fun _ => 0) pf 0 pe (up4 zn)))), (ba, .inl (cB, 4000, .inl (fun _ => 0))), (h0, .inr (1, [.int (nI (md + 1)), .int (nI bt), .int (nI lo), .int (nI nl), .ref u11.1, .ref u11.2.1, .ref u11.2.2, .ref pa, .int (nI (pe + up4 zn)), .ref ba])), (u11.1, .inl (cI, (wdl rn (md + 2) 8001), .inl (upd (wdf sf rn (md + 2)) (md + 1) (nI zn)))), (u11.2.1, .inl (cI, (wdl rn (md + 2) 8001), .inl (upd (wdf tf rn (md + 2)) (md + 1) (nI pe)))), (u11.2.2, .inl (cI, (wdl rn (md + 2) 8001), .inl (upd (wdf uf rn (md + 2)) (md + 1) (-1))))] _ := hP
              have hD : va_D A [(pa, .inl (cB, pn, .inl (va_cpy (fun _ => 0) pf 0 pe (up4 zn)))), (ba, .inl (cB, 4000, .inl (fun _ => 0))), (h0, .inr (1, [.int (nI (md + 1)), .int (nI bt), .int (nI lo), .int (nI nl), .ref u11.1, .ref u11.2.1, .ref u11.2.2, .ref pa, .int (nI (pe + up4 zn)), .ref ba])), (u11.1, .inl (cI, (wdl rn (md + 2) 8001), .inl (upd (wdf sf rn (md + 2)) (md + 1) (nI zn)))), (u11.2.1, .inl (cI, (wdl rn (md + 2) 8001), .inl (upd (wdf tf rn (md + 2)) (md + 1) (nI pe)))), (u11.2.2, .inl (cI, (wdl rn (md + 2) 8001), .inl (upd (wdf uf rn (md + 2)) (md + 1) (-1))))] := hD
              refine lv_aload_n hx hb d_Me_make_157 rfl (lv_at hl 1 rfl) ?_
              refine lv_dup hx hb d_Me_make_158 rfl ?_
              refine zget hE hK hP 2 rfl fd_Me_30 rfl d_Me_make_159 ?_
              refine lv_iload_n hx hb d_Me_make_162 rfl (lv_at hl 0 rfl) ?_
              refine lv_iadd hx hb d_Me_make_163 ?_
              refine z_st (st' := [.int (nI (bt + up4 zn)), .ref h0]) (by rw [show (((nI bt) + (nI (up4 zn))) : Int32) = nI (bt + up4 zn) from nI_add _ _]) ?_
              refine zput (v := .int (nI (bt + up4 zn))) hE hK hP hD hS 2 rfl fd_Me_30 ft_Me_1 rfl rfl (Nat.le_of_ble_eq_true rfl) d_Me_make_164 (fun H locs hP hD hS => ?_)
              have hP : va_P D zC [(pa, .inl (cB, pn, .inl (va_cpy (fun _ => 0) pf 0 pe (up4 zn)))), (ba, .inl (cB, 4000, .inl (fun _ => 0))), (h0, .inr (1, [.int (nI (md + 1)), .int (nI (bt + up4 zn)), .int (nI lo), .int (nI nl), .ref u11.1, .ref u11.2.1, .ref u11.2.2, .ref pa, .int (nI (pe + up4 zn)), .ref ba])), (u11.1, .inl (cI, (wdl rn (md + 2) 8001), .inl (upd (wdf sf rn (md + 2)) (md + 1) (nI zn)))), (u11.2.1, .inl (cI, (wdl rn (md + 2) 8001), .inl (upd (wdf tf rn (md + 2)) (md + 1) (nI pe)))), (u11.2.2, .inl (cI, (wdl rn (md + 2) 8001), .inl (upd (wdf uf rn (md + 2)) (md + 1) (-1))))] _ := hP
              have hD : va_D A [(pa, .inl (cB, pn, .inl (va_cpy (fun _ => 0) pf 0 pe (up4 zn)))), (ba, .inl (cB, 4000, .inl (fun _ => 0))), (h0, .inr (1, [.int (nI (md + 1)), .int (nI (bt + up4 zn)), .int (nI lo), .int (nI nl), .ref u11.1, .ref u11.2.1, .ref u11.2.2, .ref pa, .int (nI (pe + up4 zn)), .ref ba])), (u11.1, .inl (cI, (wdl rn (md + 2) 8001), .inl (upd (wdf sf rn (md + 2)) (md + 1) (nI zn)))), (u11.2.1, .inl (cI, (wdl rn (md + 2) 8001), .inl (upd (wdf tf rn (md + 2)) (md + 1) (nI pe)))), (u11.2.2, .inl (cI, (wdl rn (md + 2) 8001), .inl (upd (wdf uf rn (md + 2)) (md + 1) (-1))))] := hD
              refine lv_aload_n hx hb d_Me_make_167 rfl (lv_at hl 1 rfl) ?_
              refine zget hE hK hP 2 rfl fd_Me_26 rfl d_Me_make_168 ?_
              refine lv_bipush (v := 16) hx hb d_Me_make_171 (by decide) ?_
              refine lv_ishl hx hb d_Me_make_173 ?_
              refine z_st (st' := [.int (nI ((md + 1) * 65536))]) (by rw [show (((nI (md + 1) : Int32) <<< ((16 : Int32) &&& 31)) : Int32) = nI ((md + 1) * 65536) from pk_shlN _ 16 (by decide) (by omega)]) ?_
              have hgb : gb = true := (Bool.eq_false_or_eq_true gb).elim id (fun q => absurd (by rw [hgv, q]; rfl) h12)
              subst hgb
              have hP9 := hP.sub (ws' := [(h0, .inr (1, [.int (nI (md + 1)), .int (nI (bt + up4 zn)), .int (nI lo), .int (nI nl), .ref u11.1, .ref u11.2.1, .ref u11.2.2, .ref pa, .int (nI (pe + up4 zn)), .ref ba])), (u11.1, .inl (cI, (wdl rn (md + 2) 8001), .inl (upd (wdf sf rn (md + 2)) (md + 1) (nI zn)))), (u11.2.1, .inl (cI, (wdl rn (md + 2) 8001), .inl (upd (wdf tf rn (md + 2)) (md + 1) (nI pe)))), (u11.2.2, .inl (cI, (wdl rn (md + 2) 8001), .inl (upd (wdf uf rn (md + 2)) (md + 1) (-1)))), (pa, .inl (cB, pn, .inl (va_cpy (fun _ => 0) pf 0 pe (up4 zn)))), (ba, .inl (cB, 4000, .inl (fun _ => 0)))]) [2, 3, 4, 5, 0, 1] rfl
              have hD9 := hD.sub (ws' := [(h0, .inr (1, [.int (nI (md + 1)), .int (nI (bt + up4 zn)), .int (nI lo), .int (nI nl), .ref u11.1, .ref u11.2.1, .ref u11.2.2, .ref pa, .int (nI (pe + up4 zn)), .ref ba])), (u11.1, .inl (cI, (wdl rn (md + 2) 8001), .inl (upd (wdf sf rn (md + 2)) (md + 1) (nI zn)))), (u11.2.1, .inl (cI, (wdl rn (md + 2) 8001), .inl (upd (wdf tf rn (md + 2)) (md + 1) (nI pe)))), (u11.2.2, .inl (cI, (wdl rn (md + 2) 8001), .inl (upd (wdf uf rn (md + 2)) (md + 1) (-1)))), (pa, .inl (cB, pn, .inl (va_cpy (fun _ => 0) pf 0 pe (up4 zn)))), (ba, .inl (cB, 4000, .inl (fun _ => 0)))]) [2, 3, 4, 5, 0, 1] rfl rfl
              exact zreti hx hb hr rfl hlocks hS ((((md + 1), (bt + up4 zn), lo, nl, (pe + up4 zn)), ((wdl rn (md + 2) 8001), pn), (u11.1, u11.2.1, u11.2.2, pa), (upd (wdf sf rn (md + 2)) (md + 1) (nI zn), upd (wdf tf rn (md + 2)) (md + 1) (nI pe), upd (wdf uf rn (md + 2)) (md + 1) (-1), va_cpy (fun _ => 0) pf 0 pe (up4 zn))), 3 * wkc rn (md + 2), 3 * wks rn (md + 2) 8001) ⟨by rw [hsm]; rfl, by rw [hsm]; exact ⟨cRep_make true hR hm8 hzn hbz hroom, by rw [hlo]; rfl, by show 16 ≤ wdl rn (md + 2) 8001; omega⟩, by have e1 := hfR; show 3 * wkc rn (md + 2) + (phP pn + 3 * phR (wdl rn (md + 2) 8001)) ≤ phP pn + 3 * phR rn; omega, by have e1 := hfR; show 3 * wks rn (md + 2) 8001 + (80000 * phP pn + 3 * (8001 * phR (wdl rn (md + 2) 8001))) ≤ 80000 * phP pn + 3 * (8001 * phR rn); omega⟩ (Prod.ext (by show 3 * wkc rn (md + 2) = 0 + 3 * wkc rn (md + 2); omega) (by show 3 * wks rn (md + 2) 8001 = 0 + 3 * wks rn (md + 2) 8001; omega)) hP9 hD9 d_Me_make_174
          · have hfP := fuP hp2 hpn hbz
            refine lv_aload_n hx hb d_Me_make_55 rfl (lv_at hl 1 rfl) ?_
            refine lv_iload_n hx hb d_Me_make_56 rfl (lv_at hl 0 rfl) ?_
            refine zgov (wr := [(fa, .inl (cI, rn, .inl (uf))), (ba, .inl (cB, 4000, .inl (fun _ => 0)))]) (zrunV (n := 1) (As := [.int (nI (up4 zn))]) (rest := []) hE (c_Me_tidy l D cI cB cJ _ (nI (up4 zn)) h0 md bt lo nl sa ta fa pa pe ba rn sf tf pn pf M uf (up4 zn) hR rfl hbz) cb_Me_tidy lk_Me_47 in_Me_tidy se_Me_tidy (zpreV (q0 := 0) hK hP hD rfl rfl rfl [0, 1, 2, 4] rfl rfl rfl) ⟨Nat.le_of_ble_eq_true rfl, Nat.le_of_ble_eq_true rfl, by have e2 := hfP; show 0 + tkc pn (bt + up4 zn) ≤ phP pn + 3 * phR rn; omega, by have e2 := hfP; show 0 + tks pn (bt + up4 zn) ≤ 80000 * phP pn + 3 * (8001 * phR rn); omega⟩ rfl hl.1 rfl (Nat.le_of_ble_eq_true rfl) d_Me_make_57) hP hD hS hA [0, 1, 2, 4] [3, 5] rfl rfl rfl (by decide) (fun u17 H locs hq15 hP hD hS => ?_)
            have hR := hq15
            have hP : va_P D zC [(fa, .inl (cI, rn, .inl (uf))), (ba, .inl (cB, 4000, .inl (fun _ => 0))), (h0, .inr (1, [.int (nI md), .int (nI bt), .int (nI lo), .int (nI nl), .ref sa, .ref ta, .ref fa, .ref u17.1, .int (nI bt), .ref ba])), (sa, .inl (cI, rn, .inl (sf))), (ta, .inl (cI, rn, .inl (u17.2.1))), (u17.1, .inl (cB, (tdl pn (bt + (up4 zn))), .inl (u17.2.2)))] _ := hP
            have hD : va_D A [(fa, .inl (cI, rn, .inl (uf))), (ba, .inl (cB, 4000, .inl (fun _ => 0))), (h0, .inr (1, [.int (nI md), .int (nI bt), .int (nI lo), .int (nI nl), .ref sa, .ref ta, .ref fa, .ref u17.1, .int (nI bt), .ref ba])), (sa, .inl (cI, rn, .inl (sf))), (ta, .inl (cI, rn, .inl (u17.2.1))), (u17.1, .inl (cB, (tdl pn (bt + (up4 zn))), .inl (u17.2.2)))] := hD
            have hroom : bt + up4 zn ≤ tdl pn (bt + up4 zn) := tdl_ge hbz
            refine lv_aload_n hx hb d_Me_make_60 rfl (lv_at hl 1 rfl) ?_
            refine zgov (wr := [(ba, .inl (cB, 4000, .inl (fun _ => 0))), (u17.1, .inl (cB, (tdl pn (bt + (up4 zn))), .inl (u17.2.2)))]) (zrunV (n := 0) (As := []) (rest := []) hE (c_Me_addNumber l D cI cB cJ _ h0 md bt lo nl sa ta fa u17.1 bt ba rn sf u17.2.1 uf hm8 hmr hrn) cb_Me_addNumber lk_Me_51 in_Me_addNumber se_Me_addNumber (zpreV (q0 := 2) hK hP hD rfl rfl rfl [2, 3, 4, 0] rfl rfl rfl) ⟨Nat.le_of_ble_eq_true rfl, Nat.le_of_ble_eq_true rfl, by have e1 := hfR; have e2 := hfP; show 0 + tkc pn (bt + up4 zn) + 3 * wkc rn (md + 2) ≤ phP pn + 3 * phR rn; omega, by have e1 := hfR; have e2 := hfP; show 0 + tks pn (bt + up4 zn) + 3 * wks rn (md + 2) 8001 ≤ 80000 * phP pn + 3 * (8001 * phR rn); omega⟩ rfl hl.1 rfl (Nat.le_of_ble_eq_true rfl) d_Me_make_61) hP hD hS hA [2, 3, 4, 0] [1, 5] rfl rfl rfl (by decide) (fun u20 H locs hq18 hP hD hS => ?_)
            clear hq18
            have hP : va_P D zC [(ba, .inl (cB, 4000, .inl (fun _ => 0))), (u17.1, .inl (cB, (tdl pn (bt + (up4 zn))), .inl (u17.2.2))), (h0, .inr (1, [.int (nI (md + 1)), .int (nI bt), .int (nI lo), .int (nI nl), .ref u20.1, .ref u20.2.1, .ref u20.2.2, .ref u17.1, .int (nI bt), .ref ba])), (u20.1, .inl (cI, (wdl rn (md + 2) 8001), .inl (wdf sf rn (md + 2)))), (u20.2.1, .inl (cI, (wdl rn (md + 2) 8001), .inl (wdf u17.2.1 rn (md + 2)))), (u20.2.2, .inl (cI, (wdl rn (md + 2) 8001), .inl (wdf uf rn (md + 2))))] _ := hP
            have hD : va_D A [(ba, .inl (cB, 4000, .inl (fun _ => 0))), (u17.1, .inl (cB, (tdl pn (bt + (up4 zn))), .inl (u17.2.2))), (h0, .inr (1, [.int (nI (md + 1)), .int (nI bt), .int (nI lo), .int (nI nl), .ref u20.1, .ref u20.2.1, .ref u20.2.2, .ref u17.1, .int (nI bt), .ref ba])), (u20.1, .inl (cI, (wdl rn (md + 2) 8001), .inl (wdf sf rn (md + 2)))), (u20.2.1, .inl (cI, (wdl rn (md + 2) 8001), .inl (wdf u17.2.1 rn (md + 2)))), (u20.2.2, .inl (cI, (wdl rn (md + 2) 8001), .inl (wdf uf rn (md + 2))))] := hD
            refine lv_aload_n hx hb d_Me_make_64 rfl (lv_at hl 1 rfl) ?_
            refine zget hE hK hP 2 rfl fd_Me_9 rfl d_Me_make_65 ?_
            refine lv_aload_n hx hb d_Me_make_68 rfl (lv_at hl 1 rfl) ?_
            refine zget hE hK hP 2 rfl fd_Me_26 rfl d_Me_make_69 ?_
            refine lv_iload_n hx hb d_Me_make_72 rfl (lv_at hl 2 rfl) ?_
            refine va_iast hx hb hK hP hD hS 3 0 rfl rfl (vp_in_nI (by omega) (by omega)) d_Me_make_73 (fun H locs hP hD hS => ?_)
            have hP : va_P D zC [(ba, .inl (cB, 4000, .inl (fun _ => 0))), (u17.1, .inl (cB, (tdl pn (bt + (up4 zn))), .inl (u17.2.2))), (h0, .inr (1, [.int (nI (md + 1)), .int (nI bt), .int (nI lo), .int (nI nl), .ref u20.1, .ref u20.2.1, .ref u20.2.2, .ref u17.1, .int (nI bt), .ref ba])), (u20.1, .inl (cI, (wdl rn (md + 2) 8001), .inl (upd (wdf sf rn (md + 2)) (nI (md + 1)).toNatClampNeg (nI zn)))), (u20.2.1, .inl (cI, (wdl rn (md + 2) 8001), .inl (wdf u17.2.1 rn (md + 2)))), (u20.2.2, .inl (cI, (wdl rn (md + 2) 8001), .inl (wdf uf rn (md + 2))))] _ := hP
            have hD : va_D A [(ba, .inl (cB, 4000, .inl (fun _ => 0))), (u17.1, .inl (cB, (tdl pn (bt + (up4 zn))), .inl (u17.2.2))), (h0, .inr (1, [.int (nI (md + 1)), .int (nI bt), .int (nI lo), .int (nI nl), .ref u20.1, .ref u20.2.1, .ref u20.2.2, .ref u17.1, .int (nI bt), .ref ba])), (u20.1, .inl (cI, (wdl rn (md + 2) 8001), .inl (upd (wdf sf rn (md + 2)) (nI (md + 1)).toNatClampNeg (nI zn)))), (u20.2.1, .inl (cI, (wdl rn (md + 2) 8001), .inl (wdf u17.2.1 rn (md + 2)))), (u20.2.2, .inl (cI, (wdl rn (md + 2) 8001), .inl (wdf uf rn (md + 2))))] := hD
            rw [show ((upd (wdf sf rn (md + 2)) (nI (md + 1)).toNatClampNeg (nI zn)) : Nat → Int32) = upd (wdf sf rn (md + 2)) (md + 1) (nI zn) from by rw [nI_clamp (by omega)]] at hP hD
            have hP : va_P D zC [(ba, .inl (cB, 4000, .inl (fun _ => 0))), (u17.1, .inl (cB, (tdl pn (bt + (up4 zn))), .inl (u17.2.2))), (h0, .inr (1, [.int (nI (md + 1)), .int (nI bt), .int (nI lo), .int (nI nl), .ref u20.1, .ref u20.2.1, .ref u20.2.2, .ref u17.1, .int (nI bt), .ref ba])), (u20.1, .inl (cI, (wdl rn (md + 2) 8001), .inl (upd (wdf sf rn (md + 2)) (md + 1) (nI zn)))), (u20.2.1, .inl (cI, (wdl rn (md + 2) 8001), .inl (wdf u17.2.1 rn (md + 2)))), (u20.2.2, .inl (cI, (wdl rn (md + 2) 8001), .inl (wdf uf rn (md + 2))))] _ := hP
            have hD : va_D A [(ba, .inl (cB, 4000, .inl (fun _ => 0))), (u17.1, .inl (cB, (tdl pn (bt + (up4 zn))), .inl (u17.2.2))), (h0, .inr (1, [.int (nI (md + 1)), .int (nI bt), .int (nI lo), .int (nI nl), .ref u20.1, .ref u20.2.1, .ref u20.2.2, .ref u17.1, .int (nI bt), .ref ba])), (u20.1, .inl (cI, (wdl rn (md + 2) 8001), .inl (upd (wdf sf rn (md + 2)) (md + 1) (nI zn)))), (u20.2.1, .inl (cI, (wdl rn (md + 2) 8001), .inl (wdf u17.2.1 rn (md + 2)))), (u20.2.2, .inl (cI, (wdl rn (md + 2) 8001), .inl (wdf uf rn (md + 2))))] := hD
            refine lv_aload_n hx hb d_Me_make_74 rfl (lv_at hl 1 rfl) ?_
            refine zget hE hK hP 2 rfl fd_Me_13 rfl d_Me_make_75 ?_
            refine lv_aload_n hx hb d_Me_make_78 rfl (lv_at hl 1 rfl) ?_
            refine zget hE hK hP 2 rfl fd_Me_26 rfl d_Me_make_79 ?_
            refine lv_aload_n hx hb d_Me_make_82 rfl (lv_at hl 1 rfl) ?_
            refine zget hE hK hP 2 rfl fd_Me_39 rfl d_Me_make_83 ?_
            refine va_iast hx hb hK hP hD hS 4 0 rfl rfl (vp_in_nI (by omega) (by omega)) d_Me_make_86 (fun H locs hP hD hS => ?_)
            have hP : va_P D zC [(ba, .inl (cB, 4000, .inl (fun _ => 0))), (u17.1, .inl (cB, (tdl pn (bt + (up4 zn))), .inl (u17.2.2))), (h0, .inr (1, [.int (nI (md + 1)), .int (nI bt), .int (nI lo), .int (nI nl), .ref u20.1, .ref u20.2.1, .ref u20.2.2, .ref u17.1, .int (nI bt), .ref ba])), (u20.1, .inl (cI, (wdl rn (md + 2) 8001), .inl (upd (wdf sf rn (md + 2)) (md + 1) (nI zn)))), (u20.2.1, .inl (cI, (wdl rn (md + 2) 8001), .inl (upd (wdf u17.2.1 rn (md + 2)) (nI (md + 1)).toNatClampNeg (nI bt)))), (u20.2.2, .inl (cI, (wdl rn (md + 2) 8001), .inl (wdf uf rn (md + 2))))] _ := hP
            have hD : va_D A [(ba, .inl (cB, 4000, .inl (fun _ => 0))), (u17.1, .inl (cB, (tdl pn (bt + (up4 zn))), .inl (u17.2.2))), (h0, .inr (1, [.int (nI (md + 1)), .int (nI bt), .int (nI lo), .int (nI nl), .ref u20.1, .ref u20.2.1, .ref u20.2.2, .ref u17.1, .int (nI bt), .ref ba])), (u20.1, .inl (cI, (wdl rn (md + 2) 8001), .inl (upd (wdf sf rn (md + 2)) (md + 1) (nI zn)))), (u20.2.1, .inl (cI, (wdl rn (md + 2) 8001), .inl (upd (wdf u17.2.1 rn (md + 2)) (nI (md + 1)).toNatClampNeg (nI bt)))), (u20.2.2, .inl (cI, (wdl rn (md + 2) 8001), .inl (wdf uf rn (md + 2))))] := hD
            rw [show ((upd (wdf u17.2.1 rn (md + 2)) (nI (md + 1)).toNatClampNeg (nI bt)) : Nat → Int32) = upd (wdf u17.2.1 rn (md + 2)) (md + 1) (nI bt) from by rw [nI_clamp (by omega)]] at hP hD
            have hP : va_P D zC [(ba, .inl (cB, 4000, .inl (fun _ => 0))), (u17.1, .inl (cB, (tdl pn (bt + (up4 zn))), .inl (u17.2.2))), (h0, .inr (1, [.int (nI (md + 1)), .int (nI bt), .int (nI lo), .int (nI nl), .ref u20.1, .ref u20.2.1, .ref u20.2.2, .ref u17.1, .int (nI bt), .ref ba])), (u20.1, .inl (cI, (wdl rn (md + 2) 8001), .inl (upd (wdf sf rn (md + 2)) (md + 1) (nI zn)))), (u20.2.1, .inl (cI, (wdl rn (md + 2) 8001), .inl (upd (wdf u17.2.1 rn (md + 2)) (md + 1) (nI bt)))), (u20.2.2, .inl (cI, (wdl rn (md + 2) 8001), .inl (wdf uf rn (md + 2))))] _ := hP
            have hD : va_D A [(ba, .inl (cB, 4000, .inl (fun _ => 0))), (u17.1, .inl (cB, (tdl pn (bt + (up4 zn))), .inl (u17.2.2))), (h0, .inr (1, [.int (nI (md + 1)), .int (nI bt), .int (nI lo), .int (nI nl), .ref u20.1, .ref u20.2.1, .ref u20.2.2, .ref u17.1, .int (nI bt), .ref ba])), (u20.1, .inl (cI, (wdl rn (md + 2) 8001), .inl (upd (wdf sf rn (md + 2)) (md + 1) (nI zn)))), (u20.2.1, .inl (cI, (wdl rn (md + 2) 8001), .inl (upd (wdf u17.2.1 rn (md + 2)) (md + 1) (nI bt)))), (u20.2.2, .inl (cI, (wdl rn (md + 2) 8001), .inl (wdf uf rn (md + 2))))] := hD
            refine lv_aload_n hx hb d_Me_make_87 rfl (lv_at hl 1 rfl) ?_
            refine zget hE hK hP 2 rfl fd_Me_16 rfl d_Me_make_88 ?_
            refine lv_aload_n hx hb d_Me_make_91 rfl (lv_at hl 1 rfl) ?_
            refine zget hE hK hP 2 rfl fd_Me_26 rfl d_Me_make_92 ?_
            refine lv_iload_n hx hb d_Me_make_95 rfl (lv_at hl 3 rfl) ?_
            refine lv_if_eq (tgt := 103) hx hb d_Me_make_96 (by decide) (fun h21 => ?_) (fun h21 => ?_)
            · refine lv_aload_n hx hb d_Me_make_103 rfl (lv_at hl 1 rfl) ?_
              refine zget hE hK hP 2 rfl fd_Me_36 rfl d_Me_make_104 ?_
              refine va_iast hx hb hK hP hD hS 5 0 rfl rfl (vp_in_nI (by omega) (by omega)) d_Me_make_107 (fun H locs hP hD hS => ?_)
              have hP : va_P D zC [(ba, .inl (cB, 4000, .inl (fun _ => 0))), (u17.1, .inl (cB, (tdl pn (bt + (up4 zn))), .inl (u17.2.2))), (h0, .inr (1, [.int (nI (md + 1)), .int (nI bt), .int (nI lo), .int (nI nl), .ref u20.1, .ref u20.2.1, .ref u20.2.2, .ref u17.1, .int (nI bt), .ref ba])), (u20.1, .inl (cI, (wdl rn (md + 2) 8001), .inl (upd (wdf sf rn (md + 2)) (md + 1) (nI zn)))), (u20.2.1, .inl (cI, (wdl rn (md + 2) 8001), .inl (upd (wdf u17.2.1 rn (md + 2)) (md + 1) (nI bt)))), (u20.2.2, .inl (cI, (wdl rn (md + 2) 8001), .inl (upd (wdf uf rn (md + 2)) (nI (md + 1)).toNatClampNeg (nI nl))))] _ := hP
              have hD : va_D A [(ba, .inl (cB, 4000, .inl (fun _ => 0))), (u17.1, .inl (cB, (tdl pn (bt + (up4 zn))), .inl (u17.2.2))), (h0, .inr (1, [.int (nI (md + 1)), .int (nI bt), .int (nI lo), .int (nI nl), .ref u20.1, .ref u20.2.1, .ref u20.2.2, .ref u17.1, .int (nI bt), .ref ba])), (u20.1, .inl (cI, (wdl rn (md + 2) 8001), .inl (upd (wdf sf rn (md + 2)) (md + 1) (nI zn)))), (u20.2.1, .inl (cI, (wdl rn (md + 2) 8001), .inl (upd (wdf u17.2.1 rn (md + 2)) (md + 1) (nI bt)))), (u20.2.2, .inl (cI, (wdl rn (md + 2) 8001), .inl (upd (wdf uf rn (md + 2)) (nI (md + 1)).toNatClampNeg (nI nl))))] := hD
              rw [show ((upd (wdf uf rn (md + 2)) (nI (md + 1)).toNatClampNeg (nI nl)) : Nat → Int32) = upd (wdf uf rn (md + 2)) (md + 1) (nI nl) from by rw [nI_clamp (by omega)]] at hP hD
              have hP : va_P D zC [(ba, .inl (cB, 4000, .inl (fun _ => 0))), (u17.1, .inl (cB, (tdl pn (bt + (up4 zn))), .inl (u17.2.2))), (h0, .inr (1, [.int (nI (md + 1)), .int (nI bt), .int (nI lo), .int (nI nl), .ref u20.1, .ref u20.2.1, .ref u20.2.2, .ref u17.1, .int (nI bt), .ref ba])), (u20.1, .inl (cI, (wdl rn (md + 2) 8001), .inl (upd (wdf sf rn (md + 2)) (md + 1) (nI zn)))), (u20.2.1, .inl (cI, (wdl rn (md + 2) 8001), .inl (upd (wdf u17.2.1 rn (md + 2)) (md + 1) (nI bt)))), (u20.2.2, .inl (cI, (wdl rn (md + 2) 8001), .inl (upd (wdf uf rn (md + 2)) (md + 1) (nI nl))))] _ := hP
              have hD : va_D A [(ba, .inl (cB, 4000, .inl (fun _ => 0))), (u17.1, .inl (cB, (tdl pn (bt + (up4 zn))), .inl (u17.2.2))), (h0, .inr (1, [.int (nI (md + 1)), .int (nI bt), .int (nI lo), .int (nI nl), .ref u20.1, .ref u20.2.1, .ref u20.2.2, .ref u17.1, .int (nI bt), .ref ba])), (u20.1, .inl (cI, (wdl rn (md + 2) 8001), .inl (upd (wdf sf rn (md + 2)) (md + 1) (nI zn)))), (u20.2.1, .inl (cI, (wdl rn (md + 2) 8001), .inl (upd (wdf u17.2.1 rn (md + 2)) (md + 1) (nI bt)))), (u20.2.2, .inl (cI, (wdl rn (md + 2) 8001), .inl (upd (wdf uf rn (md + 2)) (md + 1) (nI nl))))] := hD
              refine lv_iload_n hx hb d_Me_make_108 rfl (lv_at hl 3 rfl) ?_
              refine lv_if_ne (tgt := 130) hx hb d_Me_make_109 (by decide) (fun h22 => absurd h21 h22) (fun h22 => ?_)
              refine lv_aload_n hx hb d_Me_make_112 rfl (lv_at hl 1 rfl) ?_
              refine lv_aload_n hx hb d_Me_make_113 rfl (lv_at hl 1 rfl) ?_
              refine zget hE hK hP 2 rfl fd_Me_26 rfl d_Me_make_114 ?_
              refine zput (v := .int (nI (md + 1))) hE hK hP hD hS 2 rfl fd_Me_36 ft_Me_3 rfl rfl (Nat.le_of_ble_eq_true rfl) d_Me_make_117 (fun H locs hP hD hS => ?_)
              have hP : va_P D zC [(ba, .inl (cB, 4000, .inl (fun _ => 0))), (u17.1, .inl (cB, (tdl pn (bt + (up4 zn))), .inl (u17.2.2))), (h0, .inr (1, [.int (nI (md + 1)), .int (nI bt), .int (nI lo), .int (nI (md + 1)), .ref u20.1, .ref u20.2.1, .ref u20.2.2, .ref u17.1, .int (nI bt), .ref ba])), (u20.1, .inl (cI, (wdl rn (md + 2) 8001), .inl (upd (wdf sf rn (md + 2)) (md + 1) (nI zn)))), (u20.2.1, .inl (cI, (wdl rn (md + 2) 8001), .inl (upd (wdf u17.2.1 rn (md + 2)) (md + 1) (nI bt)))), (u20.2.2, .inl (cI, (wdl rn (md + 2) 8001), .inl (upd (wdf uf rn (md + 2)) (md + 1) (nI nl))))] _ := hP
              have hD : va_D A [(ba, .inl (cB, 4000, .inl (fun _ => 0))), (u17.1, .inl (cB, (tdl pn (bt + (up4 zn))), .inl (u17.2.2))), (h0, .inr (1, [.int (nI (md + 1)), .int (nI bt), .int (nI lo), .int (nI (md + 1)), .ref u20.1, .ref u20.2.1, .ref u20.2.2, .ref u17.1, .int (nI bt), .ref ba])), (u20.1, .inl (cI, (wdl rn (md + 2) 8001), .inl (upd (wdf sf rn (md + 2)) (md + 1) (nI zn)))), (u20.2.1, .inl (cI, (wdl rn (md + 2) 8001), .inl (upd (wdf u17.2.1 rn (md + 2)) (md + 1) (nI bt)))), (u20.2.2, .inl (cI, (wdl rn (md + 2) 8001), .inl (upd (wdf uf rn (md + 2)) (md + 1) (nI nl))))] := hD
              refine lv_aload_n hx hb d_Me_make_120 rfl (lv_at hl 1 rfl) ?_
              refine lv_dup hx hb d_Me_make_121 rfl ?_
              refine zget hE hK hP 2 rfl fd_Me_33 rfl d_Me_make_122 ?_
              refine lv_iconst (v := 1) hx hb d_Me_make_125 (by decide) ?_
              refine lv_iadd hx hb d_Me_make_126 ?_
              refine z_st (st' := [.int (nI (lo + 1)), .ref h0]) (by rw [show (((nI lo) + 1) : Int32) = nI (lo + 1) from nI_1 lo]) ?_
              refine zput (v := .int (nI (lo + 1))) hE hK hP hD hS 2 rfl fd_Me_33 ft_Me_2 rfl rfl (Nat.le_of_ble_eq_true rfl) d_Me_make_127 (fun H locs hP hD hS => ?_)
              have hP : va_P D zC [(ba, .inl (cB, 4000, .inl (fun _ => 0))), (u17.1, .inl (cB, (tdl pn (bt + (up4 zn))), .inl (u17.2.2))), (h0, .inr (1, [.int (nI (md + 1)), .int (nI bt), .int (nI (lo + 1)), .int (nI (md + 1)), .ref u20.1, .ref u20.2.1, .ref u20.2.2, .ref u17.1, .int (nI bt), .ref ba])), (u20.1, .inl (cI, (wdl rn (md + 2) 8001), .inl (upd (wdf sf rn (md + 2)) (md + 1) (nI zn)))), (u20.2.1, .inl (cI, (wdl rn (md + 2) 8001), .inl (upd (wdf u17.2.1 rn (md + 2)) (md + 1) (nI bt)))), (u20.2.2, .inl (cI, (wdl rn (md + 2) 8001), .inl (upd (wdf uf rn (md + 2)) (md + 1) (nI nl))))] _ := hP
              have hD : va_D A [(ba, .inl (cB, 4000, .inl (fun _ => 0))), (u17.1, .inl (cB, (tdl pn (bt + (up4 zn))), .inl (u17.2.2))), (h0, .inr (1, [.int (nI (md + 1)), .int (nI bt), .int (nI (lo + 1)), .int (nI (md + 1)), .ref u20.1, .ref u20.2.1, .ref u20.2.2, .ref u17.1, .int (nI bt), .ref ba])), (u20.1, .inl (cI, (wdl rn (md + 2) 8001), .inl (upd (wdf sf rn (md + 2)) (md + 1) (nI zn)))), (u20.2.1, .inl (cI, (wdl rn (md + 2) 8001), .inl (upd (wdf u17.2.1 rn (md + 2)) (md + 1) (nI bt)))), (u20.2.2, .inl (cI, (wdl rn (md + 2) 8001), .inl (upd (wdf uf rn (md + 2)) (md + 1) (nI nl))))] := hD
              refine lv_aload_n hx hb d_Me_make_130 rfl (lv_at hl 1 rfl) ?_
              refine zget hE hK hP 2 rfl fd_Me_23 rfl d_Me_make_131 ?_
              refine lv_iconst (v := 0) hx hb d_Me_make_134 (by decide) ?_
              refine lv_aload_n hx hb d_Me_make_135 rfl (lv_at hl 1 rfl) ?_
              refine zget hE hK hP 2 rfl fd_Me_19 rfl d_Me_make_136 ?_
              refine lv_aload_n hx hb d_Me_make_139 rfl (lv_at hl 1 rfl) ?_
              refine zget hE hK hP 2 rfl fd_Me_39 rfl d_Me_make_140 ?_
              refine lv_iload_n hx hb d_Me_make_143 rfl (lv_at hl 0 rfl) ?_
              refine va_copyi (R := { frames := 4, cells := phP pn + 3 * phR rn, slots := 80000 * phP pn + 3 * (8001 * phR rn), locals := 124 }) (ty := .byte) (rest := []) hx hb (hE.2.2.1.trans hl.1.symm) hown (hw _ sl_Me) (hw _ sy_nat) (hw _ sy_st) (hw _ sy_ini) hK hP hD hS 0 1 1 1 rfl rfl rfl rfl rfl (by decide) (nI_pos (n := bt) (by omega)) (nI_pos (n := up4 zn) (by omega)) (by rw [nI_clamp (by omega)]; show 0 + up4 zn ≤ 4000; omega) (by rw [nI_clamp (by omega), nI_clamp (by omega)]; exact hroom) (fun i hi => rfl) (by exact Nat.le_of_ble_eq_true rfl) (by exact Nat.le_of_ble_eq_true rfl) d_Me_make_144 (fun H locs hP hD hS => ?_)
              have hP : va_P D zC [(ba, .inl (cB, 4000, .inl (fun _ => 0))), (u17.1, .inl (cB, (tdl pn (bt + (up4 zn))), .inl (va_cpy (fun _ => 0) u17.2.2 0 (nI bt).toNatClampNeg (nI (up4 zn)).toNatClampNeg))), (h0, .inr (1, [.int (nI (md + 1)), .int (nI bt), .int (nI (lo + 1)), .int (nI (md + 1)), .ref u20.1, .ref u20.2.1, .ref u20.2.2, .ref u17.1, .int (nI bt), .ref ba])), (u20.1, .inl (cI, (wdl rn (md + 2) 8001), .inl (upd (wdf sf rn (md + 2)) (md + 1) (nI zn)))), (u20.2.1, .inl (cI, (wdl rn (md + 2) 8001), .inl (upd (wdf u17.2.1 rn (md + 2)) (md + 1) (nI bt)))), (u20.2.2, .inl (cI, (wdl rn (md + 2) 8001), .inl (upd (wdf uf rn (md + 2)) (md + 1) (nI nl))))] _ := hP
              have hD : va_D A [(ba, .inl (cB, 4000, .inl (fun _ => 0))), (u17.1, .inl (cB, (tdl pn (bt + (up4 zn))), .inl (va_cpy (fun _ => 0) u17.2.2 0 (nI bt).toNatClampNeg (nI (up4 zn)).toNatClampNeg))), (h0, .inr (1, [.int (nI (md + 1)), .int (nI bt), .int (nI (lo + 1)), .int (nI (md + 1)), .ref u20.1, .ref u20.2.1, .ref u20.2.2, .ref u17.1, .int (nI bt), .ref ba])), (u20.1, .inl (cI, (wdl rn (md + 2) 8001), .inl (upd (wdf sf rn (md + 2)) (md + 1) (nI zn)))), (u20.2.1, .inl (cI, (wdl rn (md + 2) 8001), .inl (upd (wdf u17.2.1 rn (md + 2)) (md + 1) (nI bt)))), (u20.2.2, .inl (cI, (wdl rn (md + 2) 8001), .inl (upd (wdf uf rn (md + 2)) (md + 1) (nI nl))))] := hD
              rw [show ((va_cpy (fun _ => 0) u17.2.2 0 (nI bt).toNatClampNeg (nI (up4 zn)).toNatClampNeg) : Nat → Int32) = va_cpy (fun _ => 0) u17.2.2 0 bt (up4 zn) from by rw [nI_clamp (by omega), nI_clamp (by omega)]] at hP hD
              have hP : va_P D zC [(ba, .inl (cB, 4000, .inl (fun _ => 0))), (u17.1, .inl (cB, (tdl pn (bt + (up4 zn))), .inl (va_cpy (fun _ => 0) u17.2.2 0 bt (up4 zn)))), (h0, .inr (1, [.int (nI (md + 1)), .int (nI bt), .int (nI (lo + 1)), .int (nI (md + 1)), .ref u20.1, .ref u20.2.1, .ref u20.2.2, .ref u17.1, .int (nI bt), .ref ba])), (u20.1, .inl (cI, (wdl rn (md + 2) 8001), .inl (upd (wdf sf rn (md + 2)) (md + 1) (nI zn)))), (u20.2.1, .inl (cI, (wdl rn (md + 2) 8001), .inl (upd (wdf u17.2.1 rn (md + 2)) (md + 1) (nI bt)))), (u20.2.2, .inl (cI, (wdl rn (md + 2) 8001), .inl (upd (wdf uf rn (md + 2)) (md + 1) (nI nl))))] _ := hP
              have hD : va_D A [(ba, .inl (cB, 4000, .inl (fun _ => 0))), (u17.1, .inl (cB, (tdl pn (bt + (up4 zn))), .inl (va_cpy (fun _ => 0) u17.2.2 0 bt (up4 zn)))), (h0, .inr (1, [.int (nI (md + 1)), .int (nI bt), .int (nI (lo + 1)), .int (nI (md + 1)), .ref u20.1, .ref u20.2.1, .ref u20.2.2, .ref u17.1, .int (nI bt), .ref ba])), (u20.1, .inl (cI, (wdl rn (md + 2) 8001), .inl (upd (wdf sf rn (md + 2)) (md + 1) (nI zn)))), (u20.2.1, .inl (cI, (wdl rn (md + 2) 8001), .inl (upd (wdf u17.2.1 rn (md + 2)) (md + 1) (nI bt)))), (u20.2.2, .inl (cI, (wdl rn (md + 2) 8001), .inl (upd (wdf uf rn (md + 2)) (md + 1) (nI nl))))] := hD
              refine lv_aload_n hx hb d_Me_make_147 rfl (lv_at hl 1 rfl) ?_
              refine lv_dup hx hb d_Me_make_148 rfl ?_
              refine zget hE hK hP 2 rfl fd_Me_39 rfl d_Me_make_149 ?_
              refine lv_iload_n hx hb d_Me_make_152 rfl (lv_at hl 0 rfl) ?_
              refine lv_iadd hx hb d_Me_make_153 ?_
              refine z_st (st' := [.int (nI (bt + up4 zn)), .ref h0]) (by rw [show (((nI bt) + (nI (up4 zn))) : Int32) = nI (bt + up4 zn) from nI_add _ _]) ?_
              refine zput (v := .int (nI (bt + up4 zn))) hE hK hP hD hS 2 rfl fd_Me_39 ft_Me_8 rfl rfl (Nat.le_of_ble_eq_true rfl) d_Me_make_154 (fun H locs hP hD hS => ?_)
              have hP : va_P D zC [(ba, .inl (cB, 4000, .inl (fun _ => 0))), (u17.1, .inl (cB, (tdl pn (bt + (up4 zn))), .inl (va_cpy (fun _ => 0) u17.2.2 0 bt (up4 zn)))), (h0, .inr (1, [.int (nI (md + 1)), .int (nI bt), .int (nI (lo + 1)), .int (nI (md + 1)), .ref u20.1, .ref u20.2.1, .ref u20.2.2, .ref u17.1, .int (nI (bt + up4 zn)), .ref ba])), (u20.1, .inl (cI, (wdl rn (md + 2) 8001), .inl (upd (wdf sf rn (md + 2)) (md + 1) (nI zn)))), (u20.2.1, .inl (cI, (wdl rn (md + 2) 8001), .inl (upd (wdf u17.2.1 rn (md + 2)) (md + 1) (nI bt)))), (u20.2.2, .inl (cI, (wdl rn (md + 2) 8001), .inl (upd (wdf uf rn (md + 2)) (md + 1) (nI nl))))] _ := hP
              have hD : va_D A [(ba, .inl (cB, 4000, .inl (fun _ => 0))), (u17.1, .inl (cB, (tdl pn (bt + (up4 zn))), .inl (va_cpy (fun _ => 0) u17.2.2 0 bt (up4 zn)))), (h0, .inr (1, [.int (nI (md + 1)), .int (nI bt), .int (nI (lo + 1)), .int (nI (md + 1)), .ref u20.1, .ref u20.2.1, .ref u20.2.2, .ref u17.1, .int (nI (bt + up4 zn)), .ref ba])), (u20.1, .inl (cI, (wdl rn (md + 2) 8001), .inl (upd (wdf sf rn (md + 2)) (md + 1) (nI zn)))), (u20.2.1, .inl (cI, (wdl rn (md + 2) 8001), .inl (upd (wdf u17.2.1 rn (md + 2)) (md + 1) (nI bt)))), (u20.2.2, .inl (cI, (wdl rn (md + 2) 8001), .inl (upd (wdf uf rn (md + 2)) (md + 1) (nI nl))))] := hD
              refine lv_aload_n hx hb d_Me_make_157 rfl (lv_at hl 1 rfl) ?_
              refine lv_dup hx hb d_Me_make_158 rfl ?_
              refine zget hE hK hP 2 rfl fd_Me_30 rfl d_Me_make_159 ?_
              refine lv_iload_n hx hb d_Me_make_162 rfl (lv_at hl 0 rfl) ?_
              refine lv_iadd hx hb d_Me_make_163 ?_
              refine z_st (st' := [.int (nI (bt + up4 zn)), .ref h0]) (by rw [show (((nI bt) + (nI (up4 zn))) : Int32) = nI (bt + up4 zn) from nI_add _ _]) ?_
              refine zput (v := .int (nI (bt + up4 zn))) hE hK hP hD hS 2 rfl fd_Me_30 ft_Me_1 rfl rfl (Nat.le_of_ble_eq_true rfl) d_Me_make_164 (fun H locs hP hD hS => ?_)
              have hP : va_P D zC [(ba, .inl (cB, 4000, .inl (fun _ => 0))), (u17.1, .inl (cB, (tdl pn (bt + (up4 zn))), .inl (va_cpy (fun _ => 0) u17.2.2 0 bt (up4 zn)))), (h0, .inr (1, [.int (nI (md + 1)), .int (nI (bt + up4 zn)), .int (nI (lo + 1)), .int (nI (md + 1)), .ref u20.1, .ref u20.2.1, .ref u20.2.2, .ref u17.1, .int (nI (bt + up4 zn)), .ref ba])), (u20.1, .inl (cI, (wdl rn (md + 2) 8001), .inl (upd (wdf sf rn (md + 2)) (md + 1) (nI zn)))), (u20.2.1, .inl (cI, (wdl rn (md + 2) 8001), .inl (upd (wdf u17.2.1 rn (md + 2)) (md + 1) (nI bt)))), (u20.2.2, .inl (cI, (wdl rn (md + 2) 8001), .inl (upd (wdf uf rn (md + 2)) (md + 1) (nI nl))))] _ := hP
              have hD : va_D A [(ba, .inl (cB, 4000, .inl (fun _ => 0))), (u17.1, .inl (cB, (tdl pn (bt + (up4 zn))), .inl (va_cpy (fun _ => 0) u17.2.2 0 bt (up4 zn)))), (h0, .inr (1, [.int (nI (md + 1)), .int (nI (bt + up4 zn)), .int (nI (lo + 1)), .int (nI (md + 1)), .ref u20.1, .ref u20.2.1, .ref u20.2.2, .ref u17.1, .int (nI (bt + up4 zn)), .ref ba])), (u20.1, .inl (cI, (wdl rn (md + 2) 8001), .inl (upd (wdf sf rn (md + 2)) (md + 1) (nI zn)))), (u20.2.1, .inl (cI, (wdl rn (md + 2) 8001), .inl (upd (wdf u17.2.1 rn (md + 2)) (md + 1) (nI bt)))), (u20.2.2, .inl (cI, (wdl rn (md + 2) 8001), .inl (upd (wdf uf rn (md + 2)) (md + 1) (nI nl))))] := hD
              refine lv_aload_n hx hb d_Me_make_167 rfl (lv_at hl 1 rfl) ?_
              refine zget hE hK hP 2 rfl fd_Me_26 rfl d_Me_make_168 ?_
              refine lv_bipush (v := 16) hx hb d_Me_make_171 (by decide) ?_
              refine lv_ishl hx hb d_Me_make_173 ?_
              refine z_st (st' := [.int (nI ((md + 1) * 65536))]) (by rw [show (((nI (md + 1) : Int32) <<< ((16 : Int32) &&& 31)) : Int32) = nI ((md + 1) * 65536) from pk_shlN _ 16 (by decide) (by omega)]) ?_
              have hgb : gb = false := (Bool.eq_false_or_eq_true gb).elim (fun q => absurd ((show gv = 1 by rw [hgv, q]; rfl).symm.trans h21) (by decide)) id
              subst hgb
              have hP9 := hP.sub (ws' := [(h0, .inr (1, [.int (nI (md + 1)), .int (nI (bt + up4 zn)), .int (nI (lo + 1)), .int (nI (md + 1)), .ref u20.1, .ref u20.2.1, .ref u20.2.2, .ref u17.1, .int (nI (bt + up4 zn)), .ref ba])), (u20.1, .inl (cI, (wdl rn (md + 2) 8001), .inl (upd (wdf sf rn (md + 2)) (md + 1) (nI zn)))), (u20.2.1, .inl (cI, (wdl rn (md + 2) 8001), .inl (upd (wdf u17.2.1 rn (md + 2)) (md + 1) (nI bt)))), (u20.2.2, .inl (cI, (wdl rn (md + 2) 8001), .inl (upd (wdf uf rn (md + 2)) (md + 1) (nI nl)))), (u17.1, .inl (cB, (tdl pn (bt + (up4 zn))), .inl (va_cpy (fun _ => 0) u17.2.2 0 bt (up4 zn)))), (ba, .inl (cB, 4000, .inl (fun _ => 0)))]) [2, 3, 4, 5, 1, 0] rfl
              have hD9 := hD.sub (ws' := [(h0, .inr (1, [.int (nI (md + 1)), .int (nI (bt + up4 zn)), .int (nI (lo + 1)), .int (nI (md + 1)), .ref u20.1, .ref u20.2.1, .ref u20.2.2, .ref u17.1, .int (nI (bt + up4 zn)), .ref ba])), (u20.1, .inl (cI, (wdl rn (md + 2) 8001), .inl (upd (wdf sf rn (md + 2)) (md + 1) (nI zn)))), (u20.2.1, .inl (cI, (wdl rn (md + 2) 8001), .inl (upd (wdf u17.2.1 rn (md + 2)) (md + 1) (nI bt)))), (u20.2.2, .inl (cI, (wdl rn (md + 2) 8001), .inl (upd (wdf uf rn (md + 2)) (md + 1) (nI nl)))), (u17.1, .inl (cB, (tdl pn (bt + (up4 zn))), .inl (va_cpy (fun _ => 0) u17.2.2 0 bt (up4 zn)))), (ba, .inl (cB, 4000, .inl (fun _ => 0)))]) [2, 3, 4, 5, 1, 0] rfl rfl
              exact zreti hx hb hr rfl hlocks hS ((((md + 1), (bt + up4 zn), (lo + 1), (md + 1), (bt + up4 zn)), ((wdl rn (md + 2) 8001), (tdl pn (bt + (up4 zn)))), (u20.1, u20.2.1, u20.2.2, u17.1), (upd (wdf sf rn (md + 2)) (md + 1) (nI zn), upd (wdf u17.2.1 rn (md + 2)) (md + 1) (nI bt), upd (wdf uf rn (md + 2)) (md + 1) (nI nl), va_cpy (fun _ => 0) u17.2.2 0 bt (up4 zn))), tkc pn (bt + up4 zn) + 3 * wkc rn (md + 2), tks pn (bt + up4 zn) + 3 * wks rn (md + 2) 8001) ⟨by rw [hsm]; rfl, by rw [hsm]; exact ⟨cRep_make false hR hm8 hzn hbz hroom, by show lo + 1 = _; rw [hlo]; rfl, by show 16 ≤ wdl rn (md + 2) 8001; omega⟩, by have e1 := hfR; have e2 := hfP; show tkc pn (bt + up4 zn) + 3 * wkc rn (md + 2) + (phP (tdl pn (bt + up4 zn)) + 3 * phR (wdl rn (md + 2) 8001)) ≤ phP pn + 3 * phR rn; omega, by have e1 := hfR; have e2 := hfP; show tks pn (bt + up4 zn) + 3 * wks rn (md + 2) 8001 + (80000 * phP (tdl pn (bt + up4 zn)) + 3 * (8001 * phR (wdl rn (md + 2) 8001))) ≤ 80000 * phP pn + 3 * (8001 * phR rn); omega⟩ (Prod.ext (by show tkc pn (bt + up4 zn) + 3 * wkc rn (md + 2) = 0 + tkc pn (bt + up4 zn) + 3 * wkc rn (md + 2); omega) (by show tks pn (bt + up4 zn) + 3 * wks rn (md + 2) 8001 = 0 + tks pn (bt + up4 zn) + 3 * wks rn (md + 2) 8001; omega)) hP9 hD9 d_Me_make_174
            · refine lv_iconst (v := (-1)) hx hb d_Me_make_99 (by decide) ?_
              refine lv_goto (tgt := 107) hx hb d_Me_make_100 (by decide) ?_
              refine va_iast hx hb hK hP hD hS 5 0 rfl rfl (vp_in_nI (by omega) (by omega)) d_Me_make_107 (fun H locs hP hD hS => ?_)
              have hP : va_P D zC [(ba, .inl (cB, 4000, .inl (fun _ => 0))), (u17.1, .inl (cB, (tdl pn (bt + (up4 zn))), .inl (u17.2.2))), (h0, .inr (1, [.int (nI (md + 1)), .int (nI bt), .int (nI lo), .int (nI nl), .ref u20.1, .ref u20.2.1, .ref u20.2.2, .ref u17.1, .int (nI bt), .ref ba])), (u20.1, .inl (cI, (wdl rn (md + 2) 8001), .inl (upd (wdf sf rn (md + 2)) (md + 1) (nI zn)))), (u20.2.1, .inl (cI, (wdl rn (md + 2) 8001), .inl (upd (wdf u17.2.1 rn (md + 2)) (md + 1) (nI bt)))), (u20.2.2, .inl (cI, (wdl rn (md + 2) 8001), .inl (upd (wdf uf rn (md + 2)) (nI (md + 1)).toNatClampNeg (-1))))] _ := hP
              have hD : va_D A [(ba, .inl (cB, 4000, .inl (fun _ => 0))), (u17.1, .inl (cB, (tdl pn (bt + (up4 zn))), .inl (u17.2.2))), (h0, .inr (1, [.int (nI (md + 1)), .int (nI bt), .int (nI lo), .int (nI nl), .ref u20.1, .ref u20.2.1, .ref u20.2.2, .ref u17.1, .int (nI bt), .ref ba])), (u20.1, .inl (cI, (wdl rn (md + 2) 8001), .inl (upd (wdf sf rn (md + 2)) (md + 1) (nI zn)))), (u20.2.1, .inl (cI, (wdl rn (md + 2) 8001), .inl (upd (wdf u17.2.1 rn (md + 2)) (md + 1) (nI bt)))), (u20.2.2, .inl (cI, (wdl rn (md + 2) 8001), .inl (upd (wdf uf rn (md + 2)) (nI (md + 1)).toNatClampNeg (-1))))] := hD
              rw [show ((upd (wdf uf rn (md + 2)) (nI (md + 1)).toNatClampNeg (-1)) : Nat → Int32) = upd (wdf uf rn (md + 2)) (md + 1) (-1) from by rw [nI_clamp (by omega)]] at hP hD
              have hP : va_P D zC [(ba, .inl (cB, 4000, .inl (fun _ => 0))), (u17.1, .inl (cB, (tdl pn (bt + (up4 zn))), .inl (u17.2.2))), (h0, .inr (1, [.int (nI (md + 1)), .int (nI bt), .int (nI lo), .int (nI nl), .ref u20.1, .ref u20.2.1, .ref u20.2.2, .ref u17.1, .int (nI bt), .ref ba])), (u20.1, .inl (cI, (wdl rn (md + 2) 8001), .inl (upd (wdf sf rn (md + 2)) (md + 1) (nI zn)))), (u20.2.1, .inl (cI, (wdl rn (md + 2) 8001), .inl (upd (wdf u17.2.1 rn (md + 2)) (md + 1) (nI bt)))), (u20.2.2, .inl (cI, (wdl rn (md + 2) 8001), .inl (upd (wdf uf rn (md + 2)) (md + 1) (-1))))] _ := hP
              have hD : va_D A [(ba, .inl (cB, 4000, .inl (fun _ => 0))), (u17.1, .inl (cB, (tdl pn (bt + (up4 zn))), .inl (u17.2.2))), (h0, .inr (1, [.int (nI (md + 1)), .int (nI bt), .int (nI lo), .int (nI nl), .ref u20.1, .ref u20.2.1, .ref u20.2.2, .ref u17.1, .int (nI bt), .ref ba])), (u20.1, .inl (cI, (wdl rn (md + 2) 8001), .inl (upd (wdf sf rn (md + 2)) (md + 1) (nI zn)))), (u20.2.1, .inl (cI, (wdl rn (md + 2) 8001), .inl (upd (wdf u17.2.1 rn (md + 2)) (md + 1) (nI bt)))), (u20.2.2, .inl (cI, (wdl rn (md + 2) 8001), .inl (upd (wdf uf rn (md + 2)) (md + 1) (-1))))] := hD
              refine lv_iload_n hx hb d_Me_make_108 rfl (lv_at hl 3 rfl) ?_
              refine lv_if_ne (tgt := 130) hx hb d_Me_make_109 (by decide) (fun h23 => ?_) (fun h23 => absurd h23 h21)
              refine lv_aload_n hx hb d_Me_make_130 rfl (lv_at hl 1 rfl) ?_
              refine zget hE hK hP 2 rfl fd_Me_23 rfl d_Me_make_131 ?_
              refine lv_iconst (v := 0) hx hb d_Me_make_134 (by decide) ?_
              refine lv_aload_n hx hb d_Me_make_135 rfl (lv_at hl 1 rfl) ?_
              refine zget hE hK hP 2 rfl fd_Me_19 rfl d_Me_make_136 ?_
              refine lv_aload_n hx hb d_Me_make_139 rfl (lv_at hl 1 rfl) ?_
              refine zget hE hK hP 2 rfl fd_Me_39 rfl d_Me_make_140 ?_
              refine lv_iload_n hx hb d_Me_make_143 rfl (lv_at hl 0 rfl) ?_
              refine va_copyi (R := { frames := 4, cells := phP pn + 3 * phR rn, slots := 80000 * phP pn + 3 * (8001 * phR rn), locals := 124 }) (ty := .byte) (rest := []) hx hb (hE.2.2.1.trans hl.1.symm) hown (hw _ sl_Me) (hw _ sy_nat) (hw _ sy_st) (hw _ sy_ini) hK hP hD hS 0 1 1 1 rfl rfl rfl rfl rfl (by decide) (nI_pos (n := bt) (by omega)) (nI_pos (n := up4 zn) (by omega)) (by rw [nI_clamp (by omega)]; show 0 + up4 zn ≤ 4000; omega) (by rw [nI_clamp (by omega), nI_clamp (by omega)]; exact hroom) (fun i hi => rfl) (by exact Nat.le_of_ble_eq_true rfl) (by exact Nat.le_of_ble_eq_true rfl) d_Me_make_144 (fun H locs hP hD hS => ?_)
              have hP : va_P D zC [(ba, .inl (cB, 4000, .inl (fun _ => 0))), (u17.1, .inl (cB, (tdl pn (bt + (up4 zn))), .inl (va_cpy (fun _ => 0) u17.2.2 0 (nI bt).toNatClampNeg (nI (up4 zn)).toNatClampNeg))), (h0, .inr (1, [.int (nI (md + 1)), .int (nI bt), .int (nI lo), .int (nI nl), .ref u20.1, .ref u20.2.1, .ref u20.2.2, .ref u17.1, .int (nI bt), .ref ba])), (u20.1, .inl (cI, (wdl rn (md + 2) 8001), .inl (upd (wdf sf rn (md + 2)) (md + 1) (nI zn)))), (u20.2.1, .inl (cI, (wdl rn (md + 2) 8001), .inl (upd (wdf u17.2.1 rn (md + 2)) (md + 1) (nI bt)))), (u20.2.2, .inl (cI, (wdl rn (md + 2) 8001), .inl (upd (wdf uf rn (md + 2)) (md + 1) (-1))))] _ := hP
              have hD : va_D A [(ba, .inl (cB, 4000, .inl (fun _ => 0))), (u17.1, .inl (cB, (tdl pn (bt + (up4 zn))), .inl (va_cpy (fun _ => 0) u17.2.2 0 (nI bt).toNatClampNeg (nI (up4 zn)).toNatClampNeg))), (h0, .inr (1, [.int (nI (md + 1)), .int (nI bt), .int (nI lo), .int (nI nl), .ref u20.1, .ref u20.2.1, .ref u20.2.2, .ref u17.1, .int (nI bt), .ref ba])), (u20.1, .inl (cI, (wdl rn (md + 2) 8001), .inl (upd (wdf sf rn (md + 2)) (md + 1) (nI zn)))), (u20.2.1, .inl (cI, (wdl rn (md + 2) 8001), .inl (upd (wdf u17.2.1 rn (md + 2)) (md + 1) (nI bt)))), (u20.2.2, .inl (cI, (wdl rn (md + 2) 8001), .inl (upd (wdf uf rn (md + 2)) (md + 1) (-1))))] := hD
              rw [show ((va_cpy (fun _ => 0) u17.2.2 0 (nI bt).toNatClampNeg (nI (up4 zn)).toNatClampNeg) : Nat → Int32) = va_cpy (fun _ => 0) u17.2.2 0 bt (up4 zn) from by rw [nI_clamp (by omega), nI_clamp (by omega)]] at hP hD
              have hP : va_P D zC [(ba, .inl (cB, 4000, .inl (fun _ => 0))), (u17.1, .inl (cB, (tdl pn (bt + (up4 zn))), .inl (va_cpy (fun _ => 0) u17.2.2 0 bt (up4 zn)))), (h0, .inr (1, [.int (nI (md + 1)), .int (nI bt), .int (nI lo), .int (nI nl), .ref u20.1, .ref u20.2.1, .ref u20.2.2, .ref u17.1, .int (nI bt), .ref ba])), (u20.1, .inl (cI, (wdl rn (md + 2) 8001), .inl (upd (wdf sf rn (md + 2)) (md + 1) (nI zn)))), (u20.2.1, .inl (cI, (wdl rn (md + 2) 8001), .inl (upd (wdf u17.2.1 rn (md + 2)) (md + 1) (nI bt)))), (u20.2.2, .inl (cI, (wdl rn (md + 2) 8001), .inl (upd (wdf uf rn (md + 2)) (md + 1) (-1))))] _ := hP
              have hD : va_D A [(ba, .inl (cB, 4000, .inl (fun _ => 0))), (u17.1, .inl (cB, (tdl pn (bt + (up4 zn))), .inl (va_cpy (fun _ => 0) u17.2.2 0 bt (up4 zn)))), (h0, .inr (1, [.int (nI (md + 1)), .int (nI bt), .int (nI lo), .int (nI nl), .ref u20.1, .ref u20.2.1, .ref u20.2.2, .ref u17.1, .int (nI bt), .ref ba])), (u20.1, .inl (cI, (wdl rn (md + 2) 8001), .inl (upd (wdf sf rn (md + 2)) (md + 1) (nI zn)))), (u20.2.1, .inl (cI, (wdl rn (md + 2) 8001), .inl (upd (wdf u17.2.1 rn (md + 2)) (md + 1) (nI bt)))), (u20.2.2, .inl (cI, (wdl rn (md + 2) 8001), .inl (upd (wdf uf rn (md + 2)) (md + 1) (-1))))] := hD
              refine lv_aload_n hx hb d_Me_make_147 rfl (lv_at hl 1 rfl) ?_
              refine lv_dup hx hb d_Me_make_148 rfl ?_
              refine zget hE hK hP 2 rfl fd_Me_39 rfl d_Me_make_149 ?_
              refine lv_iload_n hx hb d_Me_make_152 rfl (lv_at hl 0 rfl) ?_
              refine lv_iadd hx hb d_Me_make_153 ?_
              refine z_st (st' := [.int (nI (bt + up4 zn)), .ref h0]) (by rw [show (((nI bt) + (nI (up4 zn))) : Int32) = nI (bt + up4 zn) from nI_add _ _]) ?_
              refine zput (v := .int (nI (bt + up4 zn))) hE hK hP hD hS 2 rfl fd_Me_39 ft_Me_8 rfl rfl (Nat.le_of_ble_eq_true rfl) d_Me_make_154 (fun H locs hP hD hS => ?_)
              have hP : va_P D zC [(ba, .inl (cB, 4000, .inl (fun _ => 0))), (u17.1, .inl (cB, (tdl pn (bt + (up4 zn))), .inl (va_cpy (fun _ => 0) u17.2.2 0 bt (up4 zn)))), (h0, .inr (1, [.int (nI (md + 1)), .int (nI bt), .int (nI lo), .int (nI nl), .ref u20.1, .ref u20.2.1, .ref u20.2.2, .ref u17.1, .int (nI (bt + up4 zn)), .ref ba])), (u20.1, .inl (cI, (wdl rn (md + 2) 8001), .inl (upd (wdf sf rn (md + 2)) (md + 1) (nI zn)))), (u20.2.1, .inl (cI, (wdl rn (md + 2) 8001), .inl (upd (wdf u17.2.1 rn (md + 2)) (md + 1) (nI bt)))), (u20.2.2, .inl (cI, (wdl rn (md + 2) 8001), .inl (upd (wdf uf rn (md + 2)) (md + 1) (-1))))] _ := hP
              have hD : va_D A [(ba, .inl (cB, 4000, .inl (fun _ => 0))), (u17.1, .inl (cB, (tdl pn (bt + (up4 zn))), .inl (va_cpy (fun _ => 0) u17.2.2 0 bt (up4 zn)))), (h0, .inr (1, [.int (nI (md + 1)), .int (nI bt), .int (nI lo), .int (nI nl), .ref u20.1, .ref u20.2.1, .ref u20.2.2, .ref u17.1, .int (nI (bt + up4 zn)), .ref ba])), (u20.1, .inl (cI, (wdl rn (md + 2) 8001), .inl (upd (wdf sf rn (md + 2)) (md + 1) (nI zn)))), (u20.2.1, .inl (cI, (wdl rn (md + 2) 8001), .inl (upd (wdf u17.2.1 rn (md + 2)) (md + 1) (nI bt)))), (u20.2.2, .inl (cI, (wdl rn (md + 2) 8001), .inl (upd (wdf uf rn (md + 2)) (md + 1) (-1))))] := hD
              refine lv_aload_n hx hb d_Me_make_157 rfl (lv_at hl 1 rfl) ?_
              refine lv_dup hx hb d_Me_make_158 rfl ?_
              refine zget hE hK hP 2 rfl fd_Me_30 rfl d_Me_make_159 ?_
              refine lv_iload_n hx hb d_Me_make_162 rfl (lv_at hl 0 rfl) ?_
              refine lv_iadd hx hb d_Me_make_163 ?_
              refine z_st (st' := [.int (nI (bt + up4 zn)), .ref h0]) (by rw [show (((nI bt) + (nI (up4 zn))) : Int32) = nI (bt + up4 zn) from nI_add _ _]) ?_
              refine zput (v := .int (nI (bt + up4 zn))) hE hK hP hD hS 2 rfl fd_Me_30 ft_Me_1 rfl rfl (Nat.le_of_ble_eq_true rfl) d_Me_make_164 (fun H locs hP hD hS => ?_)
              have hP : va_P D zC [(ba, .inl (cB, 4000, .inl (fun _ => 0))), (u17.1, .inl (cB, (tdl pn (bt + (up4 zn))), .inl (va_cpy (fun _ => 0) u17.2.2 0 bt (up4 zn)))), (h0, .inr (1, [.int (nI (md + 1)), .int (nI (bt + up4 zn)), .int (nI lo), .int (nI nl), .ref u20.1, .ref u20.2.1, .ref u20.2.2, .ref u17.1, .int (nI (bt + up4 zn)), .ref ba])), (u20.1, .inl (cI, (wdl rn (md + 2) 8001), .inl (upd (wdf sf rn (md + 2)) (md + 1) (nI zn)))), (u20.2.1, .inl (cI, (wdl rn (md + 2) 8001), .inl (upd (wdf u17.2.1 rn (md + 2)) (md + 1) (nI bt)))), (u20.2.2, .inl (cI, (wdl rn (md + 2) 8001), .inl (upd (wdf uf rn (md + 2)) (md + 1) (-1))))] _ := hP
              have hD : va_D A [(ba, .inl (cB, 4000, .inl (fun _ => 0))), (u17.1, .inl (cB, (tdl pn (bt + (up4 zn))), .inl (va_cpy (fun _ => 0) u17.2.2 0 bt (up4 zn)))), (h0, .inr (1, [.int (nI (md + 1)), .int (nI (bt + up4 zn)), .int (nI lo), .int (nI nl), .ref u20.1, .ref u20.2.1, .ref u20.2.2, .ref u17.1, .int (nI (bt + up4 zn)), .ref ba])), (u20.1, .inl (cI, (wdl rn (md + 2) 8001), .inl (upd (wdf sf rn (md + 2)) (md + 1) (nI zn)))), (u20.2.1, .inl (cI, (wdl rn (md + 2) 8001), .inl (upd (wdf u17.2.1 rn (md + 2)) (md + 1) (nI bt)))), (u20.2.2, .inl (cI, (wdl rn (md + 2) 8001), .inl (upd (wdf uf rn (md + 2)) (md + 1) (-1))))] := hD
              refine lv_aload_n hx hb d_Me_make_167 rfl (lv_at hl 1 rfl) ?_
              refine zget hE hK hP 2 rfl fd_Me_26 rfl d_Me_make_168 ?_
              refine lv_bipush (v := 16) hx hb d_Me_make_171 (by decide) ?_
              refine lv_ishl hx hb d_Me_make_173 ?_
              refine z_st (st' := [.int (nI ((md + 1) * 65536))]) (by rw [show (((nI (md + 1) : Int32) <<< ((16 : Int32) &&& 31)) : Int32) = nI ((md + 1) * 65536) from pk_shlN _ 16 (by decide) (by omega)]) ?_
              have hgb : gb = true := (Bool.eq_false_or_eq_true gb).elim id (fun q => absurd (by rw [hgv, q]; rfl) h21)
              subst hgb
              have hP9 := hP.sub (ws' := [(h0, .inr (1, [.int (nI (md + 1)), .int (nI (bt + up4 zn)), .int (nI lo), .int (nI nl), .ref u20.1, .ref u20.2.1, .ref u20.2.2, .ref u17.1, .int (nI (bt + up4 zn)), .ref ba])), (u20.1, .inl (cI, (wdl rn (md + 2) 8001), .inl (upd (wdf sf rn (md + 2)) (md + 1) (nI zn)))), (u20.2.1, .inl (cI, (wdl rn (md + 2) 8001), .inl (upd (wdf u17.2.1 rn (md + 2)) (md + 1) (nI bt)))), (u20.2.2, .inl (cI, (wdl rn (md + 2) 8001), .inl (upd (wdf uf rn (md + 2)) (md + 1) (-1)))), (u17.1, .inl (cB, (tdl pn (bt + (up4 zn))), .inl (va_cpy (fun _ => 0) u17.2.2 0 bt (up4 zn)))), (ba, .inl (cB, 4000, .inl (fun _ => 0)))]) [2, 3, 4, 5, 1, 0] rfl
              have hD9 := hD.sub (ws' := [(h0, .inr (1, [.int (nI (md + 1)), .int (nI (bt + up4 zn)), .int (nI lo), .int (nI nl), .ref u20.1, .ref u20.2.1, .ref u20.2.2, .ref u17.1, .int (nI (bt + up4 zn)), .ref ba])), (u20.1, .inl (cI, (wdl rn (md + 2) 8001), .inl (upd (wdf sf rn (md + 2)) (md + 1) (nI zn)))), (u20.2.1, .inl (cI, (wdl rn (md + 2) 8001), .inl (upd (wdf u17.2.1 rn (md + 2)) (md + 1) (nI bt)))), (u20.2.2, .inl (cI, (wdl rn (md + 2) 8001), .inl (upd (wdf uf rn (md + 2)) (md + 1) (-1)))), (u17.1, .inl (cB, (tdl pn (bt + (up4 zn))), .inl (va_cpy (fun _ => 0) u17.2.2 0 bt (up4 zn)))), (ba, .inl (cB, 4000, .inl (fun _ => 0)))]) [2, 3, 4, 5, 1, 0] rfl rfl
              exact zreti hx hb hr rfl hlocks hS ((((md + 1), (bt + up4 zn), lo, nl, (bt + up4 zn)), ((wdl rn (md + 2) 8001), (tdl pn (bt + (up4 zn)))), (u20.1, u20.2.1, u20.2.2, u17.1), (upd (wdf sf rn (md + 2)) (md + 1) (nI zn), upd (wdf u17.2.1 rn (md + 2)) (md + 1) (nI bt), upd (wdf uf rn (md + 2)) (md + 1) (-1), va_cpy (fun _ => 0) u17.2.2 0 bt (up4 zn))), tkc pn (bt + up4 zn) + 3 * wkc rn (md + 2), tks pn (bt + up4 zn) + 3 * wks rn (md + 2) 8001) ⟨by rw [hsm]; rfl, by rw [hsm]; exact ⟨cRep_make true hR hm8 hzn hbz hroom, by rw [hlo]; rfl, by show 16 ≤ wdl rn (md + 2) 8001; omega⟩, by have e1 := hfR; have e2 := hfP; show tkc pn (bt + up4 zn) + 3 * wkc rn (md + 2) + (phP (tdl pn (bt + up4 zn)) + 3 * phR (wdl rn (md + 2) 8001)) ≤ phP pn + 3 * phR rn; omega, by have e1 := hfR; have e2 := hfP; show tks pn (bt + up4 zn) + 3 * wks rn (md + 2) 8001 + (80000 * phP (tdl pn (bt + up4 zn)) + 3 * (8001 * phR (wdl rn (md + 2) 8001))) ≤ 80000 * phP pn + 3 * (8001 * phR rn); omega⟩ (Prod.ext (by show tkc pn (bt + up4 zn) + 3 * wkc rn (md + 2) = 0 + tkc pn (bt + up4 zn) + 3 * wkc rn (md + 2); omega) (by show tks pn (bt + up4 zn) + 3 * wks rn (md + 2) 8001 = 0 + tks pn (bt + up4 zn) + 3 * wks rn (md + 2) 8001; omega)) hP9 hD9 d_Me_make_174
        · have hnone : mMk M (nI zn) gb = none := if_neg (fun q => by have q4 := q.2.2.2; rw [hti] at q4; exact h7 (nI_le (b := 40000) (by show bt + up4 zn ≤ 40000; rw [hbt2]; exact q4) (by omega)))
          refine lv_iconst (v := 0) hx hb d_Me_make_39 (by decide) ?_
          have hP9 := hP.sub (ws' := [(h0, .inr (1, [.int (nI md), .int (nI bt), .int (nI lo), .int (nI nl), .ref sa, .ref ta, .ref fa, .ref pa, .int (nI pe), .ref ba])), (sa, .inl (cI, rn, .inl (sf))), (ta, .inl (cI, rn, .inl (tf))), (fa, .inl (cI, rn, .inl (uf))), (pa, .inl (cB, pn, .inl (pf))), (ba, .inl (cB, 4000, .inl (fun _ => 0)))]) [0, 1, 2, 3, 4, 5] rfl
          have hD9 := hD.sub (ws' := [(h0, .inr (1, [.int (nI md), .int (nI bt), .int (nI lo), .int (nI nl), .ref sa, .ref ta, .ref fa, .ref pa, .int (nI pe), .ref ba])), (sa, .inl (cI, rn, .inl (sf))), (ta, .inl (cI, rn, .inl (tf))), (fa, .inl (cI, rn, .inl (uf))), (pa, .inl (cB, pn, .inl (pf))), (ba, .inl (cB, 4000, .inl (fun _ => 0)))]) [0, 1, 2, 3, 4, 5] rfl rfl
          exact zreti hx hb hr rfl hlocks hS (((md, bt, lo, nl, pe), (rn, pn), (sa, ta, fa, pa), (sf, tf, uf, pf)), 0, 0) ⟨by rw [hnone]; rfl, by rw [hnone]; exact ⟨hR, hlo, h16⟩, Nat.le_of_eq (Nat.zero_add _), Nat.le_of_eq (Nat.zero_add _)⟩ rfl hP9 hD9 d_Me_make_40
      · have hnone : mMk M s0 gb = none := if_neg (fun q => by have q1 := z_nlt h1; have q2 := z_nlt h2; have q3 := z_nlt h3; have k0 : ((0) : Int32).toInt = 0 := (by decide); have k4000 : ((4000) : Int32).toInt = 4000 := (by decide); have k8000 : ((8000) : Int32).toInt = 8000 := (by decide); have ni0 : (nI md).toInt = ((md : Nat) : Int) := nI_toInt (by omega); omega)
        refine lv_iconst (v := 0) hx hb d_Me_make_21 (by decide) ?_
        have hP9 := hP.sub (ws' := [(h0, .inr (1, [.int (nI md), .int (nI bt), .int (nI lo), .int (nI nl), .ref sa, .ref ta, .ref fa, .ref pa, .int (nI pe), .ref ba])), (sa, .inl (cI, rn, .inl (sf))), (ta, .inl (cI, rn, .inl (tf))), (fa, .inl (cI, rn, .inl (uf))), (pa, .inl (cB, pn, .inl (pf))), (ba, .inl (cB, 4000, .inl (fun _ => 0)))]) [0, 1, 2, 3, 4, 5] rfl
        have hD9 := hD.sub (ws' := [(h0, .inr (1, [.int (nI md), .int (nI bt), .int (nI lo), .int (nI nl), .ref sa, .ref ta, .ref fa, .ref pa, .int (nI pe), .ref ba])), (sa, .inl (cI, rn, .inl (sf))), (ta, .inl (cI, rn, .inl (tf))), (fa, .inl (cI, rn, .inl (uf))), (pa, .inl (cB, pn, .inl (pf))), (ba, .inl (cB, 4000, .inl (fun _ => 0)))]) [0, 1, 2, 3, 4, 5] rfl rfl
        exact zreti hx hb hr rfl hlocks hS (((md, bt, lo, nl, pe), (rn, pn), (sa, ta, fa, pa), (sf, tf, uf, pf)), 0, 0) ⟨by rw [hnone]; rfl, by rw [hnone]; exact ⟨hR, hlo, h16⟩, Nat.le_of_eq (Nat.zero_add _), Nat.le_of_eq (Nat.zero_add _)⟩ rfl hP9 hD9 d_Me_make_22
end
section
/-! what the class's memory answers, in own words -/
def mHs (M : MM) (a n : Int32) : Int32 := match mSz M (zN a / 65536) with
  | some z => if nI z < (a &&& 65535) + n then 0 else 1
  | none => 0
def mHsA (M : MM) (a n : Int32) : Int32 := if (a &&& (n - 1)) = 0 then (if mHs M a n = 0 then 0 else 1) else 0
def mRd (M : MM) (a n : Int32) : Int32 := zrd (fun i => mCt M (zN a / 65536) (zN a % 65536 + i)) (zN n) 0
/-- contents behind a write, behind a copy -/
def mWr (M : MM) (a n v : Int32) : MM := mPut M (zN a / 65536) (zwt (mCt M (zN a / 65536)) (zN a % 65536) (zN n) v)
def mCp (M : MM) (a b n : Int32) : MM := mPut M (zN a / 65536) (va_cpy (mCt M (zN b / 65536)) (mCt M (zN a / 65536)) (zN b % 65536) (zN a % 65536) (zN n))
theorem cRep_holds {M : MM} {md bt nl pe rn pn : Nat} {sf tf uf pf : Nat → Int32} (h : cRep M md bt nl pe rn pn sf tf uf pf) (a n : Int32) : sp_Me_holds a n md sf = mHs M a n := by
  have hz := zN_lt a
  unfold sp_Me_holds mHs
  rw [z_u16, cRep_there h (by omega)]
  cases e : mSz M (zN a / 65536) with
  | none => rfl
  | some z =>
    have ha := cRep_at h e
    show (if (if True then (1 : Int32) else 0) = 0 then (0 : Int32) else _) = _
    rw [if_pos trivial, if_neg (by decide), nI_clamp (by omega), ha.2.2.1]
theorem cRep_holdsA {M : MM} {md bt nl pe rn pn : Nat} {sf tf uf pf : Nat → Int32} (h : cRep M md bt nl pe rn pn sf tf uf pf) (a n : Int32) : sp_Me_holdsAligned a n md sf = mHsA M a n := by
  unfold sp_Me_holdsAligned mHsA
  rw [cRep_holds h]
theorem mHsA_hs {M : MM} {a n : Int32} (h : ¬ mHsA M a n = 0) : ¬ mHs M a n = 0 := by
  intro q
  unfold mHsA at h
  rw [q] at h
  split at h <;> exact absurd rfl h
theorem cRep_spot {M : MM} {md bt nl pe rn pn : Nat} {sf tf uf pf : Nat → Int32} (h : cRep M md bt nl pe rn pn sf tf uf pf) {a n : Int32} (hh : ¬ mHs M a n = 0) (h1 : 1 ≤ zN n) (h2 : zN n ≤ 4000) :
    ∃ a0 z, zN a / 65536 < rn ∧ rn ≤ 8001 ∧ sp_Me_spot a tf = nI a0 ∧ a0 + zN n ≤ pn ∧ pn ≤ 80000 ∧ mSz M (zN a / 65536) = some z ∧ zN a % 65536 + zN n ≤ z ∧ (∃ q, a0 = q + zN a % 65536 ∧ tf (zN a / 65536) = nI q) ∧ ∀ i, i < zN n → pf (a0 + i) = mCt M (zN a / 65536) (zN a % 65536 + i) := by
  have hz := zN_lt a
  unfold mHs at hh
  cases e : mSz M (zN a / 65536) with
  | none =>
    rw [e] at hh
    exact absurd rfl hh
  | some z =>
    rw [e] at hh
    obtain ⟨b1, b2, b3, b4, ⟨q, c1, c2, c3, c4⟩, b5, b6, b7⟩ := cRep_at h e
    have hn : n = nI (zN n) := z_of n
    have hle : zN a % 65536 + zN n ≤ z := by
      refine Nat.not_lt.mp (fun c => hh ?_)
      show (if nI z < (a &&& 65535) + n then (0 : Int32) else 1) = 0
      rw [z_a16, hn, nI_add]
      exact if_pos (nI_lt c (by omega))
    have hp := h.2.2.2.2.2.2.2.2.1
    have c5 := c3 (by omega)
    have hu := up4_le z
    refine ⟨q + zN a % 65536, z, b1, b2, ?_, by omega, hp, rfl, hle, ⟨q, rfl, c1⟩, fun i hi => ?_⟩
    · unfold sp_Me_spot
      rw [z_u16, nI_clamp (by omega), c1, z_a16, nI_add]
    · rw [Nat.add_assoc]
      exact c4 _ (by omega)
theorem zrd_congr {f g : Nat → Int32} : ∀ (k : Nat) (v : Int32), (∀ i, i < k → f i = g i) → zrd f k v = zrd g k v
  | 0, _, _ => rfl
  | k + 1, v, h => by
    unfold zrd
    rw [h k (by omega)]
    exact zrd_congr k _ (fun i hi => h i (by omega))
theorem cRep_put {M : MM} {md bt nl pe rn pn : Nat} {sf tf uf pf pf2 : Nat → Int32} (h : cRep M md bt nl pe rn pn sf tf uf pf) {o z q : Nat} {f : Nat → Int32} (ho : mSz M o = some z) (hz : 0 < z) (hq : tf o = nI q) (hq8 : q ≤ 80000) (h1 : ∀ i, i < z → pf2 (q + i) = f i) (h2 : ∀ p, (p < q ∨ q + z ≤ p) → pf2 p = pf p) (h3 : ∀ i, i < pn → fits .byte (.int (pf2 i)) = true) :
    cRep (mPut M o f) md bt nl pe rn pn sf tf uf pf2 := by
  obtain ⟨hI, e1, e2, e3, e4, e5, e6, e7, e8, e9, e10, e11, e12, st, g1, g2, g3⟩ := h
  have hst : st o = q := by
    obtain ⟨a1, a2, a3⟩ := g1 o z ho
    exact (nI_eq (by omega) (by omega)).mp (a1.symm.trans hq)
  refine ⟨hI, e1, e2, e3, e4, e5, e6, e7, e8, h3, e10, e11, e12, st, g1, g2, fun k y i hk hi => ?_⟩
  have hk : mSz M k = some y := hk
  show pf2 (st k + i) = (if k = o then f else mCt M k) i
  by_cases c : k = o
  · subst c
    cases hk.symm.trans ho
    rw [if_pos rfl, hst]
    exact h1 i hi
  · rw [if_neg c, h2 _ ?_]
    · exact g3 k y i hk hi
    · have u1 := up4_le y
      have u2 := up4_le z
      rcases Nat.lt_or_gt_of_ne c with d | d
      · have := g2 k o y z d hk ho (by omega) hz
        left
        omega
      · have := g2 o k z y d ho hk hz (by omega)
        right
        omega
theorem zwt_fit {f : Nat → Int32} {a k : Nat} {v : Int32} {n : Nat} (h : ∀ i, i < n → fits .byte (.int (f i)) = true) : ∀ i, i < n → fits .byte (.int (zwt f a k v i)) = true := by
  intro i hi
  unfold zwt
  by_cases c : a ≤ i ∧ i < a + k
  · rw [if_pos c]
    exact pk_fb _
  · rw [if_neg c]
    exact h i hi
theorem cRep_write {M : MM} {md bt nl pe rn pn : Nat} {sf tf uf pf : Nat → Int32} (h : cRep M md bt nl pe rn pn sf tf uf pf) {a n v : Int32} {a0 z q : Nat} (h1 : 1 ≤ zN n) (ho : mSz M (zN a / 65536) = some z) (hle : zN a % 65536 + zN n ≤ z) (ha : a0 = q + zN a % 65536) (ha8 : a0 ≤ 80000) (hq : tf (zN a / 65536) = nI q) : cRep (mWr M a n v) md bt nl pe rn pn sf tf uf (zwt pf a0 (zN n) v) := by
  obtain ⟨b1, b2, b3, b4, ⟨q', c1, c2, c3, c4⟩, b5, b6, b7⟩ := cRep_at h ho
  have hqq : q' = q := (nI_eq (by omega) (by omega)).mp (c1.symm.trans hq)
  subst hqq
  refine cRep_put h ho (by omega) hq c2 (fun i hi => ?_) (fun p hp => ?_) (zwt_fit h.2.2.2.2.2.2.2.2.2.1)
  · unfold zwt
    by_cases c : zN a % 65536 ≤ i ∧ i < zN a % 65536 + zN n
    · rw [if_pos (by omega), if_pos c, show q' + i - a0 = i - zN a % 65536 by omega]
    · rw [if_neg (by omega), if_neg c]
      exact c4 i hi
  · unfold zwt
    rw [if_neg (by omega)]
theorem zsz_d : ∀ j, j < 4 → 1 ≤ zN ((1 : Int32) <<< (nI j &&& 31)) ∧ zN ((1 : Int32) <<< (nI j &&& 31)) ≤ 4000 := by decide
theorem zsz (k : Int32) : 1 ≤ zN ((1 : Int32) <<< ((k &&& 3) &&& 31)) ∧ zN ((1 : Int32) <<< ((k &&& 3) &&& 31)) ≤ 4000 := by
  obtain ⟨j, hj, e⟩ := pk_andE k (m := 3) 2 (by decide)
  rw [e]
  exact zsz_d j hj
theorem zsz2 (w : Int32) (h : sp_Rv_middle w ≤ 2) : 1 ≤ zN ((1 : Int32) <<< (sp_Rv_middle w &&& 31)) ∧ zN ((1 : Int32) <<< (sp_Rv_middle w &&& 31)) ≤ 4000 := by
  obtain ⟨j, hj, e⟩ := pk_andE (zushr w 12) (m := 7) 3 (by decide)
  have e : sp_Rv_middle w = nI j := e
  rw [e] at h ⊢
  have := z_le' (a := j) (b := 2) (by omega) h
  exact zsz_d j (by omega)
end
section
/-! decode rows -/
theorem d_Rv_load_0 : decode b_Rv_load 0 = .ok (.iload_n 1, 1) := by decide +kernel
theorem d_Rv_load_1 : decode b_Rv_load 1 = .ok (.invokestatic 147, 3) := by decide +kernel
theorem d_Rv_load_4 : decode b_Rv_load 4 = .ok (.istore_n 2, 1) := by decide +kernel
theorem d_Rv_load_5 : decode b_Rv_load 5 = .ok (.iload_n 2, 1) := by decide +kernel
theorem d_Rv_load_6 : decode b_Rv_load 6 = .ok (.iconst 3, 1) := by decide +kernel
theorem d_Rv_load_7 : decode b_Rv_load 7 = .ok (.if_icmp .eq 8, 3) := by decide +kernel
theorem d_Rv_load_10 : decode b_Rv_load 10 = .ok (.iload_n 2, 1) := by decide +kernel
theorem d_Rv_load_11 : decode b_Rv_load 11 = .ok (.iconst 5, 1) := by decide +kernel
theorem d_Rv_load_12 : decode b_Rv_load 12 = .ok (.if_icmp .le 5, 3) := by decide +kernel
theorem d_Rv_load_15 : decode b_Rv_load 15 = .ok (.iconst 1, 1) := by decide +kernel
theorem d_Rv_load_16 : decode b_Rv_load 16 = .ok (.ireturn, 1) := by decide +kernel
theorem d_Rv_load_17 : decode b_Rv_load 17 = .ok (.aload_n 0, 1) := by decide +kernel
theorem d_Rv_load_18 : decode b_Rv_load 18 = .ok (.iload_n 1, 1) := by decide +kernel
theorem d_Rv_load_19 : decode b_Rv_load 19 = .ok (.invokevirtual 158, 3) := by decide +kernel
theorem d_Rv_load_22 : decode b_Rv_load 22 = .ok (.iload_n 1, 1) := by decide +kernel
theorem d_Rv_load_23 : decode b_Rv_load 23 = .ok (.bipush 20, 2) := by decide +kernel
theorem d_Rv_load_25 : decode b_Rv_load 25 = .ok (.ishr, 1) := by decide +kernel
theorem d_Rv_load_26 : decode b_Rv_load 26 = .ok (.iadd, 1) := by decide +kernel
theorem d_Rv_load_27 : decode b_Rv_load 27 = .ok (.istore_n 3, 1) := by decide +kernel
theorem d_Rv_load_28 : decode b_Rv_load 28 = .ok (.iconst 1, 1) := by decide +kernel
theorem d_Rv_load_29 : decode b_Rv_load 29 = .ok (.iload_n 2, 1) := by decide +kernel
theorem d_Rv_load_30 : decode b_Rv_load 30 = .ok (.iconst 3, 1) := by decide +kernel
theorem d_Rv_load_31 : decode b_Rv_load 31 = .ok (.iand, 1) := by decide +kernel
theorem d_Rv_load_32 : decode b_Rv_load 32 = .ok (.ishl, 1) := by decide +kernel
theorem d_Rv_load_33 : decode b_Rv_load 33 = .ok (.istore 4, 2) := by decide +kernel
theorem d_Rv_load_35 : decode b_Rv_load 35 = .ok (.aload_n 0, 1) := by decide +kernel
theorem d_Rv_load_36 : decode b_Rv_load 36 = .ok (.getfield 19, 3) := by decide +kernel
theorem d_Rv_load_39 : decode b_Rv_load 39 = .ok (.iload_n 3, 1) := by decide +kernel
theorem d_Rv_load_40 : decode b_Rv_load 40 = .ok (.iload 4, 2) := by decide +kernel
theorem d_Rv_load_42 : decode b_Rv_load 42 = .ok (.invokevirtual 170, 3) := by decide +kernel
theorem d_Rv_load_45 : decode b_Rv_load 45 = .ok (.ifCond .ne 5, 3) := by decide +kernel
theorem d_Rv_load_48 : decode b_Rv_load 48 = .ok (.iconst 2, 1) := by decide +kernel
theorem d_Rv_load_49 : decode b_Rv_load 49 = .ok (.ireturn, 1) := by decide +kernel
theorem d_Rv_load_50 : decode b_Rv_load 50 = .ok (.aload_n 0, 1) := by decide +kernel
theorem d_Rv_load_51 : decode b_Rv_load 51 = .ok (.getfield 19, 3) := by decide +kernel
theorem d_Rv_load_54 : decode b_Rv_load 54 = .ok (.iload_n 3, 1) := by decide +kernel
theorem d_Rv_load_55 : decode b_Rv_load 55 = .ok (.iload 4, 2) := by decide +kernel
theorem d_Rv_load_57 : decode b_Rv_load 57 = .ok (.invokevirtual 78, 3) := by decide +kernel
theorem d_Rv_load_60 : decode b_Rv_load 60 = .ok (.istore 5, 2) := by decide +kernel
theorem d_Rv_load_62 : decode b_Rv_load 62 = .ok (.iload_n 2, 1) := by decide +kernel
theorem d_Rv_load_63 : decode b_Rv_load 63 = .ok (.lookupswitch 43 #[(0, 25), (1, 34)], 25) := by decide +kernel
theorem d_Rv_load_88 : decode b_Rv_load 88 = .ok (.aload_n 0, 1) := by decide +kernel
theorem d_Rv_load_89 : decode b_Rv_load 89 = .ok (.iload_n 1, 1) := by decide +kernel
theorem d_Rv_load_90 : decode b_Rv_load 90 = .ok (.iload 5, 2) := by decide +kernel
theorem d_Rv_load_92 : decode b_Rv_load 92 = .ok (.i2b, 1) := by decide +kernel
theorem d_Rv_load_93 : decode b_Rv_load 93 = .ok (.invokevirtual 120, 3) := by decide +kernel
theorem d_Rv_load_96 : decode b_Rv_load 96 = .ok (.ireturn, 1) := by decide +kernel
theorem d_Rv_load_97 : decode b_Rv_load 97 = .ok (.aload_n 0, 1) := by decide +kernel
theorem d_Rv_load_98 : decode b_Rv_load 98 = .ok (.iload_n 1, 1) := by decide +kernel
theorem d_Rv_load_99 : decode b_Rv_load 99 = .ok (.iload 5, 2) := by decide +kernel
theorem d_Rv_load_101 : decode b_Rv_load 101 = .ok (.i2s, 1) := by decide +kernel
theorem d_Rv_load_102 : decode b_Rv_load 102 = .ok (.invokevirtual 120, 3) := by decide +kernel
theorem d_Rv_load_105 : decode b_Rv_load 105 = .ok (.ireturn, 1) := by decide +kernel
theorem d_Rv_load_106 : decode b_Rv_load 106 = .ok (.aload_n 0, 1) := by decide +kernel
theorem d_Rv_load_107 : decode b_Rv_load 107 = .ok (.iload_n 1, 1) := by decide +kernel
theorem d_Rv_load_108 : decode b_Rv_load 108 = .ok (.iload 5, 2) := by decide +kernel
theorem d_Rv_load_110 : decode b_Rv_load 110 = .ok (.invokevirtual 120, 3) := by decide +kernel
theorem d_Rv_load_113 : decode b_Rv_load 113 = .ok (.ireturn, 1) := by decide +kernel
theorem d_Rv_peek_0 : decode b_Rv_peek 0 = .ok (.aload_n 0, 1) := by decide +kernel
theorem d_Rv_peek_1 : decode b_Rv_peek 1 = .ok (.getfield 19, 3) := by decide +kernel
theorem d_Rv_peek_4 : decode b_Rv_peek 4 = .ok (.iload_n 1, 1) := by decide +kernel
theorem d_Rv_peek_5 : decode b_Rv_peek 5 = .ok (.iconst 1, 1) := by decide +kernel
theorem d_Rv_peek_6 : decode b_Rv_peek 6 = .ok (.invokevirtual 74, 3) := by decide +kernel
theorem d_Rv_peek_9 : decode b_Rv_peek 9 = .ok (.ifCond .eq 15, 3) := by decide +kernel
theorem d_Rv_peek_12 : decode b_Rv_peek 12 = .ok (.aload_n 0, 1) := by decide +kernel
theorem d_Rv_peek_13 : decode b_Rv_peek 13 = .ok (.getfield 19, 3) := by decide +kernel
theorem d_Rv_peek_16 : decode b_Rv_peek 16 = .ok (.iload_n 1, 1) := by decide +kernel
theorem d_Rv_peek_17 : decode b_Rv_peek 17 = .ok (.iconst 1, 1) := by decide +kernel
theorem d_Rv_peek_18 : decode b_Rv_peek 18 = .ok (.invokevirtual 78, 3) := by decide +kernel
theorem d_Rv_peek_21 : decode b_Rv_peek 21 = .ok (.goto 4, 3) := by decide +kernel
theorem d_Rv_peek_24 : decode b_Rv_peek 24 = .ok (.iconst (-1), 1) := by decide +kernel
theorem d_Rv_peek_25 : decode b_Rv_peek 25 = .ok (.ireturn, 1) := by decide +kernel

def sp_Rv_load (w : Int32) (rg : Nat → Int32) (M : MM) : Int32 × (Nat → Int32) := if (sp_Rv_middle w) = 3 then (1, rg) else if (sp_Rv_middle w) ≤ 5 then
  if (mHsA M ((sp_Rv_firstOperand w rg) + ((w : Int32) >>> ((20 : Int32) &&& 31))) ((1 : Int32) <<< (((sp_Rv_middle w) &&& 3 : Int32) &&& 31))) = 0 then (2, rg) else if (sp_Rv_middle w) = 0 then ((sp_Rv_keep w ((mRd M ((sp_Rv_firstOperand w rg) + ((w : Int32) >>> ((20 : Int32) &&& 31))) ((1 : Int32) <<< (((sp_Rv_middle w) &&& 3 : Int32) &&& 31)) : Int32).toInt8.toInt32) rg).1, (sp_Rv_keep w ((mRd M ((sp_Rv_firstOperand w rg) + ((w : Int32) >>> ((20 : Int32) &&& 31))) ((1 : Int32) <<< (((sp_Rv_middle w) &&& 3 : Int32) &&& 31)) : Int32).toInt8.toInt32) rg).2) else if (sp_Rv_middle w) = 1 then ((sp_Rv_keep w ((mRd M ((sp_Rv_firstOperand w rg) + ((w : Int32) >>> ((20 : Int32) &&& 31))) ((1 : Int32) <<< (((sp_Rv_middle w) &&& 3 : Int32) &&& 31)) : Int32).toInt16.toInt32) rg).1, (sp_Rv_keep w ((mRd M ((sp_Rv_firstOperand w rg) + ((w : Int32) >>> ((20 : Int32) &&& 31))) ((1 : Int32) <<< (((sp_Rv_middle w) &&& 3 : Int32) &&& 31)) : Int32).toInt16.toInt32) rg).2) else ((sp_Rv_keep w (mRd M ((sp_Rv_firstOperand w rg) + ((w : Int32) >>> ((20 : Int32) &&& 31))) ((1 : Int32) <<< (((sp_Rv_middle w) &&& 3 : Int32) &&& 31))) rg).1, (sp_Rv_keep w (mRd M ((sp_Rv_firstOperand w rg) + ((w : Int32) >>> ((20 : Int32) &&& 31))) ((1 : Int32) <<< (((sp_Rv_middle w) &&& 3 : Int32) &&& 31))) rg).2)
else (1, rg)
set_option maxHeartbeats 4000000 in
theorem c_Rv_load (l : Launch) (D : va_G) (cI cB cJ : ClassId) (sz : Nat) (w : Int32) (x : Nat) (wa : Nat) (wc : Int32) (ra : Nat) (ma : Nat) (ua : Nat) (oa : Nat) (ph : Int32) (dn : Int32) (nx : Int32) (fo : Int32) (rg : Nat → Int32) (md : Nat) (bt : Nat) (lo : Nat) (nl : Nat) (sa : Nat) (ta : Nat) (fa : Nat) (pa : Nat) (pe : Nat) (ba : Nat) (rn : Nat) (sf : Nat → Int32) (tf : Nat → Int32) (pn : Nat) (pf : Nat → Int32) (M : MM) (uf : Nat → Int32) (hR : cRep M md bt nl pe rn pn sf tf uf pf) : zMet l y_Rv_load (zWs y_Rv_load b_Rv_load 6 (some .int)) { frames := 3, cells := 0, slots := 0, locals := 66 } (zPc D (zT cI cB cJ) sz [(x, .inr (0, [.ref wa, .int wc, .ref ra, .ref ma, .ref ua, .ref oa, .int ph, .int dn, .int nx, .int fo])), (ra, .inl (cI, 32, .inl (rg))), (ma, .inr (1, [.int (nI md), .int (nI bt), .int (nI lo), .int (nI nl), .ref sa, .ref ta, .ref fa, .ref pa, .int (nI pe), .ref ba])), (sa, .inl (cI, rn, .inl (sf))), (ta, .inl (cI, rn, .inl (tf))), (pa, .inl (cB, pn, .inl (pf)))] [.ref x, .int w]) (zQi D (va_A [(x, .inr (0, [.ref wa, .int wc, .ref ra, .ref ma, .ref ua, .ref oa, .int ph, .int dn, .int nx, .int fo])), (ra, .inl (cI, 32, .inl (rg))), (ma, .inr (1, [.int (nI md), .int (nI bt), .int (nI lo), .int (nI nl), .ref sa, .ref ta, .ref fa, .ref pa, .int (nI pe), .ref ba])), (sa, .inl (cI, rn, .inl (sf))), (ta, .inl (cI, rn, .inl (tf))), (pa, .inl (cB, pn, .inl (pf)))] sz) (fun r (_ : Unit) => r = (sp_Rv_load w rg M).1) (z0) (fun _ => [(x, .inr (0, [.ref wa, .int wc, .ref ra, .ref ma, .ref ua, .ref oa, .int ph, .int dn, .int nx, .int fo])), (ra, .inl (cI, 32, .inl ((sp_Rv_load w rg M).2))), (ma, .inr (1, [.int (nI md), .int (nI bt), .int (nI lo), .int (nI nl), .ref sa, .ref ta, .ref fa, .ref pa, .int (nI pe), .ref ba])), (sa, .inl (cI, rn, .inl (sf))), (ta, .inl (cI, rn, .inl (tf))), (pa, .inl (cB, pn, .inl (pf)))])) (va_A [(x, .inr (0, [.ref wa, .int wc, .ref ra, .ref ma, .ref ua, .ref oa, .int ph, .int dn, .int nx, .int fo])), (ra, .inl (cI, 32, .inl (rg))), (ma, .inr (1, [.int (nI md), .int (nI bt), .int (nI lo), .int (nI nl), .ref sa, .ref ta, .ref fa, .ref pa, .int (nI pe), .ref ba])), (sa, .inl (cI, rn, .inl (sf))), (ta, .inl (cI, rn, .inl (tf))), (pa, .inl (cB, pn, .inl (pf)))] sz) := by
  refine zstart (Qc := fun A => zQi D A (fun r (_ : Unit) => r = (sp_Rv_load w rg M).1) (z0) (fun _ => [(x, .inr (0, [.ref wa, .int wc, .ref ra, .ref ma, .ref ua, .ref oa, .int ph, .int dn, .int nx, .int fo])), (ra, .inl (cI, 32, .inl ((sp_Rv_load w rg M).2))), (ma, .inr (1, [.int (nI md), .int (nI bt), .int (nI lo), .int (nI nl), .ref sa, .ref ta, .ref fa, .ref pa, .int (nI pe), .ref ba])), (sa, .inl (cI, rn, .inl (sf))), (ta, .inl (cI, rn, .inl (tf))), (pa, .inl (cB, pn, .inl (pf)))])) (by decide) (Nat.le_of_ble_eq_true rfl) ?_
  intro p e s m below meth c ls A hE hr hlocks hin hsz hK hP hD hS hA hAe hl
  have hx := hE.1
  have hb := hE.2.1
  have hown := hE.2.2.2.1
  have hw := hE.2.2.2.2
  have hl : lv_has ls 6 [(0, .ref x), (1, .int w)] := hl
  refine lv_iload_n hx hb d_Rv_load_0 rfl (lv_at hl 1 rfl) ?_
  refine zgoi (wr := [(x, .inr (0, [.ref wa, .int wc, .ref ra, .ref ma, .ref ua, .ref oa, .int ph, .int dn, .int nx, .int fo])), (ra, .inl (cI, 32, .inl (rg))), (ma, .inr (1, [.int (nI md), .int (nI bt), .int (nI lo), .int (nI nl), .ref sa, .ref ta, .ref fa, .ref pa, .int (nI pe), .ref ba])), (sa, .inl (cI, rn, .inl (sf))), (ta, .inl (cI, rn, .inl (tf))), (pa, .inl (cB, pn, .inl (pf)))]) (zrunS (n := 1) (As := [.int w]) (rest := []) hE (c_Rv_middle l D _ _ w) cb_Rv_middle lk_Rv_147 st_Rv_middle (zpreS hK hP hD [] rfl rfl rfl) ⟨Nat.le_of_ble_eq_true rfl, Nat.le_of_ble_eq_true rfl, Nat.le_of_ble_eq_true rfl, Nat.le_of_ble_eq_true rfl⟩ rfl hl.1 rfl (Nat.le_of_ble_eq_true rfl) d_Rv_load_1) hP hD hS hA [] [0, 1, 2, 3, 4, 5] rfl rfl rfl (by decide) (fun r2 u3 H locs hq1 hP hD hS => ?_)
  subst hq1
  have hP : va_P D zC [(x, .inr (0, [.ref wa, .int wc, .ref ra, .ref ma, .ref ua, .ref oa, .int ph, .int dn, .int nx, .int fo])), (ra, .inl (cI, 32, .inl (rg))), (ma, .inr (1, [.int (nI md), .int (nI bt), .int (nI lo), .int (nI nl), .ref sa, .ref ta, .ref fa, .ref pa, .int (nI pe), .ref ba])), (sa, .inl (cI, rn, .inl (sf))), (ta, .inl (cI, rn, .inl (tf))), (pa, .inl (cB, pn, .inl (pf)))] _ := hP
  have hD : va_D A [(x, .inr (0, [.ref wa, .int wc, .ref ra, .ref ma, .ref ua, .ref oa, .int ph, .int dn, .int nx, .int fo])), (ra, .inl (cI, 32, .inl (rg))), (ma, .inr (1, [.int (nI md), .int (nI bt), .int (nI lo), .int (nI nl), .ref sa, .ref ta, .ref fa, .ref pa, .int (nI pe), .ref ba])), (sa, .inl (cI, rn, .inl (sf))), (ta, .inl (cI, rn, .inl (tf))), (pa, .inl (cB, pn, .inl (pf)))] := hD
  refine lv_istore_n (lv' := [(2, .int (sp_Rv_middle w)), (0, .ref x), (1, .int w)]) hx hb d_Rv_load_4 rfl hl (by decide) rfl (fun ls hl => ?_)
  refine lv_iload_n hx hb d_Rv_load_5 rfl (lv_at hl 0 rfl) ?_
  refine lv_iconst (v := 3) hx hb d_Rv_load_6 (by decide) ?_
  refine lv_icmp_eq (tgt := 15) hx hb d_Rv_load_7 (by decide) (fun h4 => ?_) (fun h4 => ?_)
  · refine lv_iconst (v := 1) hx hb d_Rv_load_15 (by decide) ?_
    have hs : (sp_Rv_load w rg M) = (1, rg) := by rw [sp_Rv_load, if_pos h4]
    have hP9 := hP.sub (ws' := [(x, .inr (0, [.ref wa, .int wc, .ref ra, .ref ma, .ref ua, .ref oa, .int ph, .int dn, .int nx, .int fo])), (ra, .inl (cI, 32, .inl (rg))), (ma, .inr (1, [.int (nI md), .int (nI bt), .int (nI lo), .int (nI nl), .ref sa, .ref ta, .ref fa, .ref pa, .int (nI pe), .ref ba])), (sa, .inl (cI, rn, .inl (sf))), (ta, .inl (cI, rn, .inl (tf))), (pa, .inl (cB, pn, .inl (pf)))]) [0, 1, 2, 3, 4, 5] rfl
    have hD9 := hD.sub (ws' := [(x, .inr (0, [.ref wa, .int wc, .ref ra, .ref ma, .ref ua, .ref oa, .int ph, .int dn, .int nx, .int fo])), (ra, .inl (cI, 32, .inl (rg))), (ma, .inr (1, [.int (nI md), .int (nI bt), .int (nI lo), .int (nI nl), .ref sa, .ref ta, .ref fa, .ref pa, .int (nI pe), .ref ba])), (sa, .inl (cI, rn, .inl (sf))), (ta, .inl (cI, rn, .inl (tf))), (pa, .inl (cB, pn, .inl (pf)))]) [0, 1, 2, 3, 4, 5] rfl rfl
    exact zreti hx hb hr rfl hlocks hS () (by rw [hs]) rfl (by rw [hs]; exact hP9) (by rw [hs]; exact hD9) d_Rv_load_16
  · refine lv_iload_n hx hb d_Rv_load_10 rfl (lv_at hl 0 rfl) ?_
    refine lv_iconst (v := 5) hx hb d_Rv_load_11 (by decide) ?_
    refine lv_icmp_le (tgt := 17) hx hb d_Rv_load_12 (by decide) (fun h5 => ?_) (fun h5 => ?_)
    · refine lv_aload_n hx hb d_Rv_load_17 rfl (lv_at hl 1 rfl) ?_
      refine lv_iload_n hx hb d_Rv_load_18 rfl (lv_at hl 2 rfl) ?_
      refine zgoi (wr := [(ma, .inr (1, [.int (nI md), .int (nI bt), .int (nI lo), .int (nI nl), .ref sa, .ref ta, .ref fa, .ref pa, .int (nI pe), .ref ba])), (sa, .inl (cI, rn, .inl (sf))), (ta, .inl (cI, rn, .inl (tf))), (pa, .inl (cB, pn, .inl (pf)))]) (zrunV (n := 1) (As := [.int w]) (rest := []) hE (c_Rv_firstOperand l D cI cB cJ _ w x wa wc ra ma ua oa ph dn nx fo rg) cb_Rv_firstOperand lk_Rv_158 in_Rv_firstOperand se_Rv_firstOperand (zpreV (q0 := 0) hK hP hD rfl rfl rfl [0, 1] rfl rfl rfl) ⟨Nat.le_of_ble_eq_true rfl, Nat.le_of_ble_eq_true rfl, Nat.le_of_ble_eq_true rfl, Nat.le_of_ble_eq_true rfl⟩ rfl hl.1 rfl (Nat.le_of_ble_eq_true rfl) d_Rv_load_19) hP hD hS hA [0, 1] [2, 3, 4, 5] rfl rfl rfl (by decide) (fun r7 u8 H locs hq6 hP hD hS => ?_)
      subst hq6
      have hP : va_P D zC [(ma, .inr (1, [.int (nI md), .int (nI bt), .int (nI lo), .int (nI nl), .ref sa, .ref ta, .ref fa, .ref pa, .int (nI pe), .ref ba])), (sa, .inl (cI, rn, .inl (sf))), (ta, .inl (cI, rn, .inl (tf))), (pa, .inl (cB, pn, .inl (pf))), (x, .inr (0, [.ref wa, .int wc, .ref ra, .ref ma, .ref ua, .ref oa, .int ph, .int dn, .int nx, .int fo])), (ra, .inl (cI, 32, .inl (rg)))] _ := hP
      have hD : va_D A [(ma, .inr (1, [.int (nI md), .int (nI bt), .int (nI lo), .int (nI nl), .ref sa, .ref ta, .ref fa, .ref pa, .int (nI pe), .ref ba])), (sa, .inl (cI, rn, .inl (sf))), (ta, .inl (cI, rn, .inl (tf))), (pa, .inl (cB, pn, .inl (pf))), (x, .inr (0, [.ref wa, .int wc, .ref ra, .ref ma, .ref ua, .ref oa, .int ph, .int dn, .int nx, .int fo])), (ra, .inl (cI, 32, .inl (rg)))] := hD
      refine lv_iload_n hx hb d_Rv_load_22 rfl (lv_at hl 2 rfl) ?_
      refine lv_bipush (v := 20) hx hb d_Rv_load_23 (by decide) ?_
      refine lv_ishr hx hb d_Rv_load_25 ?_
      refine lv_iadd hx hb d_Rv_load_26 ?_
      refine lv_istore_n (lv' := [(3, .int ((sp_Rv_firstOperand w rg) + ((w : Int32) >>> ((20 : Int32) &&& 31)))), (2, .int (sp_Rv_middle w)), (0, .ref x), (1, .int w)]) hx hb d_Rv_load_27 rfl hl (by decide) rfl (fun ls hl => ?_)
      refine lv_iconst (v := 1) hx hb d_Rv_load_28 (by decide) ?_
      refine lv_iload_n hx hb d_Rv_load_29 rfl (lv_at hl 1 rfl) ?_
      refine lv_iconst (v := 3) hx hb d_Rv_load_30 (by decide) ?_
      refine lv_iand hx hb d_Rv_load_31 ?_
      refine lv_ishl hx hb d_Rv_load_32 ?_
      refine lv_istore (lv' := [(4, .int ((1 : Int32) <<< (((sp_Rv_middle w) &&& 3 : Int32) &&& 31))), (3, .int ((sp_Rv_firstOperand w rg) + ((w : Int32) >>> ((20 : Int32) &&& 31)))), (2, .int (sp_Rv_middle w)), (0, .ref x), (1, .int w)]) hx hb d_Rv_load_33 hl (by decide) rfl (fun ls hl => ?_)
      refine lv_aload_n hx hb d_Rv_load_35 rfl (lv_at hl 3 rfl) ?_
      refine zget hE hK hP 4 rfl fd_Rv_19 rfl d_Rv_load_36 ?_
      refine lv_iload_n hx hb d_Rv_load_39 rfl (lv_at hl 1 rfl) ?_
      refine lv_iload hx hb d_Rv_load_40 (lv_at hl 0 rfl) ?_
      refine zgoi (wr := [(ta, .inl (cI, rn, .inl (tf))), (pa, .inl (cB, pn, .inl (pf))), (x, .inr (0, [.ref wa, .int wc, .ref ra, .ref ma, .ref ua, .ref oa, .int ph, .int dn, .int nx, .int fo])), (ra, .inl (cI, 32, .inl (rg)))]) (zrunV (n := 2) (As := [.int ((sp_Rv_firstOperand w rg) + ((w : Int32) >>> ((20 : Int32) &&& 31))), .int ((1 : Int32) <<< (((sp_Rv_middle w) &&& 3 : Int32) &&& 31))]) (rest := []) hE (c_Me_holdsAligned l D cI cB cJ _ ((sp_Rv_firstOperand w rg) + ((w : Int32) >>> ((20 : Int32) &&& 31))) ((1 : Int32) <<< (((sp_Rv_middle w) &&& 3 : Int32) &&& 31)) ma md bt lo nl sa ta fa pa pe ba rn sf hR.2.2.2.2.1 hR.2.2.2.2.2.1) cb_Me_holdsAligned lk_Rv_170 in_Me_holdsAligned se_Me_holdsAligned (zpreV (q0 := 0) hK hP hD rfl rfl rfl [0, 1] rfl rfl rfl) ⟨Nat.le_of_ble_eq_true rfl, Nat.le_of_ble_eq_true rfl, Nat.le_of_ble_eq_true rfl, Nat.le_of_ble_eq_true rfl⟩ rfl hl.1 rfl (Nat.le_of_ble_eq_true rfl) d_Rv_load_42) hP hD hS hA [0, 1] [2, 3, 4, 5] rfl rfl rfl (by decide) (fun r10 u11 H locs hq9 hP hD hS => ?_)
      subst hq9
      have hP : va_P D zC [(ta, .inl (cI, rn, .inl (tf))), (pa, .inl (cB, pn, .inl (pf))), (x, .inr (0, [.ref wa, .int wc, .ref ra, .ref ma, .ref ua, .ref oa, .int ph, .int dn, .int nx, .int fo])), (ra, .inl (cI, 32, .inl (rg))), (ma, .inr (1, [.int (nI md), .int (nI bt), .int (nI lo), .int (nI nl), .ref sa, .ref ta, .ref fa, .ref pa, .int (nI pe), .ref ba])), (sa, .inl (cI, rn, .inl (sf)))] _ := hP
      have hD : va_D A [(ta, .inl (cI, rn, .inl (tf))), (pa, .inl (cB, pn, .inl (pf))), (x, .inr (0, [.ref wa, .int wc, .ref ra, .ref ma, .ref ua, .ref oa, .int ph, .int dn, .int nx, .int fo])), (ra, .inl (cI, 32, .inl (rg))), (ma, .inr (1, [.int (nI md), .int (nI bt), .int (nI lo), .int (nI nl), .ref sa, .ref ta, .ref fa, .ref pa, .int (nI pe), .ref ba])), (sa, .inl (cI, rn, .inl (sf)))] := hD
      refine z_st (st' := [.int (mHsA M ((sp_Rv_firstOperand w rg) + ((w : Int32) >>> ((20 : Int32) &&& 31))) ((1 : Int32) <<< (((sp_Rv_middle w) &&& 3 : Int32) &&& 31)))]) (by rw [show (((sp_Me_holdsAligned ((sp_Rv_firstOperand w rg) + ((w : Int32) >>> ((20 : Int32) &&& 31))) ((1 : Int32) <<< (((sp_Rv_middle w) &&& 3 : Int32) &&& 31)) md sf)) : Int32) = mHsA M ((sp_Rv_firstOperand w rg) + ((w : Int32) >>> ((20 : Int32) &&& 31))) ((1 : Int32) <<< (((sp_Rv_middle w) &&& 3 : Int32) &&& 31)) from cRep_holdsA hR _ _]) ?_
      refine lv_if_ne (tgt := 50) hx hb d_Rv_load_45 (by decide) (fun h12 => ?_) (fun h12 => ?_)
      · obtain ⟨a0, zq, b1, b2, b3, b4, b5, b6, b7, ⟨qq, b8, b10⟩, b9⟩ := cRep_spot hR (mHsA_hs h12) (zsz _).1 (zsz _).2
        refine lv_aload_n hx hb d_Rv_load_50 rfl (lv_at hl 3 rfl) ?_
        refine zget hE hK hP 2 rfl fd_Rv_19 rfl d_Rv_load_51 ?_
        refine lv_iload_n hx hb d_Rv_load_54 rfl (lv_at hl 1 rfl) ?_
        refine lv_iload hx hb d_Rv_load_55 (lv_at hl 0 rfl) ?_
        refine zgoi (wr := [(x, .inr (0, [.ref wa, .int wc, .ref ra, .ref ma, .ref ua, .ref oa, .int ph, .int dn, .int nx, .int fo])), (ra, .inl (cI, 32, .inl (rg))), (sa, .inl (cI, rn, .inl (sf)))]) (zrunV (n := 2) (As := [.int ((sp_Rv_firstOperand w rg) + ((w : Int32) >>> ((20 : Int32) &&& 31))), .int ((1 : Int32) <<< (((sp_Rv_middle w) &&& 3 : Int32) &&& 31))]) (rest := []) hE (c_Me_read l D cI cB cJ _ ((sp_Rv_firstOperand w rg) + ((w : Int32) >>> ((20 : Int32) &&& 31))) ((1 : Int32) <<< (((sp_Rv_middle w) &&& 3 : Int32) &&& 31)) ma md bt lo nl sa ta fa pa pe ba rn tf pn pf a0 (zN ((1 : Int32) <<< (((sp_Rv_middle w) &&& 3 : Int32) &&& 31))) b1 b2 b3 (z_of _) b4 b5) cb_Me_read lk_Rv_78 in_Me_read se_Me_read (zpreV (q0 := 4) hK hP hD rfl rfl rfl [4, 0, 1] rfl rfl rfl) ⟨Nat.le_of_ble_eq_true rfl, Nat.le_of_ble_eq_true rfl, Nat.le_of_ble_eq_true rfl, Nat.le_of_ble_eq_true rfl⟩ rfl hl.1 rfl (Nat.le_of_ble_eq_true rfl) d_Rv_load_57) hP hD hS hA [4, 0, 1] [2, 3, 5] rfl rfl rfl (by decide) (fun r14 u15 H locs hq13 hP hD hS => ?_)
        subst hq13
        have hP : va_P D zC [(x, .inr (0, [.ref wa, .int wc, .ref ra, .ref ma, .ref ua, .ref oa, .int ph, .int dn, .int nx, .int fo])), (ra, .inl (cI, 32, .inl (rg))), (sa, .inl (cI, rn, .inl (sf))), (ma, .inr (1, [.int (nI md), .int (nI bt), .int (nI lo), .int (nI nl), .ref sa, .ref ta, .ref fa, .ref pa, .int (nI pe), .ref ba])), (ta, .inl (cI, rn, .inl (tf))), (pa, .inl (cB, pn, .inl (pf)))] _ := hP
        have hD : va_D A [(x, .inr (0, [.ref wa, .int wc, .ref ra, .ref ma, .ref ua, .ref oa, .int ph, .int dn, .int nx, .int fo])), (ra, .inl (cI, 32, .inl (rg))), (sa, .inl (cI, rn, .inl (sf))), (ma, .inr (1, [.int (nI md), .int (nI bt), .int (nI lo), .int (nI nl), .ref sa, .ref ta, .ref fa, .ref pa, .int (nI pe), .ref ba])), (ta, .inl (cI, rn, .inl (tf))), (pa, .inl (cB, pn, .inl (pf)))] := hD
        refine z_st (st' := [.int (mRd M ((sp_Rv_firstOperand w rg) + ((w : Int32) >>> ((20 : Int32) &&& 31))) ((1 : Int32) <<< (((sp_Rv_middle w) &&& 3 : Int32) &&& 31)))]) (by rw [show (((zrd (fun i => pf (a0 + i)) (zN ((1 : Int32) <<< (((sp_Rv_middle w) &&& 3 : Int32) &&& 31))) 0)) : Int32) = mRd M ((sp_Rv_firstOperand w rg) + ((w : Int32) >>> ((20 : Int32) &&& 31))) ((1 : Int32) <<< (((sp_Rv_middle w) &&& 3 : Int32) &&& 31)) from by unfold mRd; exact zrd_congr _ _ b9]) ?_
        refine lv_istore (lv' := [(5, .int (mRd M ((sp_Rv_firstOperand w rg) + ((w : Int32) >>> ((20 : Int32) &&& 31))) ((1 : Int32) <<< (((sp_Rv_middle w) &&& 3 : Int32) &&& 31)))), (4, .int ((1 : Int32) <<< (((sp_Rv_middle w) &&& 3 : Int32) &&& 31))), (3, .int ((sp_Rv_firstOperand w rg) + ((w : Int32) >>> ((20 : Int32) &&& 31)))), (2, .int (sp_Rv_middle w)), (0, .ref x), (1, .int w)]) hx hb d_Rv_load_60 hl (by decide) rfl (fun ls hl => ?_)
        refine lv_iload_n hx hb d_Rv_load_62 rfl (lv_at hl 3 rfl) ?_
        rcases Decidable.em ((sp_Rv_middle w) = 0) with h16 | h16
        · refine lv_lookup (tgt := 88) (off := 25) hx hb d_Rv_load_63 (by decide) (by rw [h16]; first | done | rfl) (by decide) ?_
          refine lv_aload_n hx hb d_Rv_load_88 rfl (lv_at hl 4 rfl) ?_
          refine lv_iload_n hx hb d_Rv_load_89 rfl (lv_at hl 5 rfl) ?_
          refine lv_iload hx hb d_Rv_load_90 (lv_at hl 0 rfl) ?_
          refine lv_i2b (v := (mRd M ((sp_Rv_firstOperand w rg) + ((w : Int32) >>> ((20 : Int32) &&& 31))) ((1 : Int32) <<< (((sp_Rv_middle w) &&& 3 : Int32) &&& 31)) : Int32).toInt8.toInt32) hx hb d_Rv_load_92 rfl ?_
          refine zgoi (wr := [(sa, .inl (cI, rn, .inl (sf))), (ma, .inr (1, [.int (nI md), .int (nI bt), .int (nI lo), .int (nI nl), .ref sa, .ref ta, .ref fa, .ref pa, .int (nI pe), .ref ba])), (ta, .inl (cI, rn, .inl (tf))), (pa, .inl (cB, pn, .inl (pf)))]) (zrunV (n := 2) (As := [.int w, .int ((mRd M ((sp_Rv_firstOperand w rg) + ((w : Int32) >>> ((20 : Int32) &&& 31))) ((1 : Int32) <<< (((sp_Rv_middle w) &&& 3 : Int32) &&& 31)) : Int32).toInt8.toInt32)]) (rest := []) hE (c_Rv_keep l D cI cB cJ _ w ((mRd M ((sp_Rv_firstOperand w rg) + ((w : Int32) >>> ((20 : Int32) &&& 31))) ((1 : Int32) <<< (((sp_Rv_middle w) &&& 3 : Int32) &&& 31)) : Int32).toInt8.toInt32) x wa wc ra ma ua oa ph dn nx fo rg) cb_Rv_keep lk_Rv_120 in_Rv_keep se_Rv_keep (zpreV (q0 := 0) hK hP hD rfl rfl rfl [0, 1] rfl rfl rfl) ⟨Nat.le_of_ble_eq_true rfl, Nat.le_of_ble_eq_true rfl, Nat.le_of_ble_eq_true rfl, Nat.le_of_ble_eq_true rfl⟩ rfl hl.1 rfl (Nat.le_of_ble_eq_true rfl) d_Rv_load_93) hP hD hS hA [0, 1] [2, 3, 4, 5] rfl rfl rfl (by decide) (fun r18 u19 H locs hq17 hP hD hS => ?_)
          subst hq17
          have hP : va_P D zC [(sa, .inl (cI, rn, .inl (sf))), (ma, .inr (1, [.int (nI md), .int (nI bt), .int (nI lo), .int (nI nl), .ref sa, .ref ta, .ref fa, .ref pa, .int (nI pe), .ref ba])), (ta, .inl (cI, rn, .inl (tf))), (pa, .inl (cB, pn, .inl (pf))), (x, .inr (0, [.ref wa, .int wc, .ref ra, .ref ma, .ref ua, .ref oa, .int ph, .int dn, .int nx, .int fo])), (ra, .inl (cI, 32, .inl ((sp_Rv_keep w ((mRd M ((sp_Rv_firstOperand w rg) + ((w : Int32) >>> ((20 : Int32) &&& 31))) ((1 : Int32) <<< (((sp_Rv_middle w) &&& 3 : Int32) &&& 31)) : Int32).toInt8.toInt32) rg).2)))] _ := hP
          have hD : va_D A [(sa, .inl (cI, rn, .inl (sf))), (ma, .inr (1, [.int (nI md), .int (nI bt), .int (nI lo), .int (nI nl), .ref sa, .ref ta, .ref fa, .ref pa, .int (nI pe), .ref ba])), (ta, .inl (cI, rn, .inl (tf))), (pa, .inl (cB, pn, .inl (pf))), (x, .inr (0, [.ref wa, .int wc, .ref ra, .ref ma, .ref ua, .ref oa, .int ph, .int dn, .int nx, .int fo])), (ra, .inl (cI, 32, .inl ((sp_Rv_keep w ((mRd M ((sp_Rv_firstOperand w rg) + ((w : Int32) >>> ((20 : Int32) &&& 31))) ((1 : Int32) <<< (((sp_Rv_middle w) &&& 3 : Int32) &&& 31)) : Int32).toInt8.toInt32) rg).2)))] := hD
          have hs : (sp_Rv_load w rg M) = ((sp_Rv_keep w ((mRd M ((sp_Rv_firstOperand w rg) + ((w : Int32) >>> ((20 : Int32) &&& 31))) ((1 : Int32) <<< (((sp_Rv_middle w) &&& 3 : Int32) &&& 31)) : Int32).toInt8.toInt32) rg).1, (sp_Rv_keep w ((mRd M ((sp_Rv_firstOperand w rg) + ((w : Int32) >>> ((20 : Int32) &&& 31))) ((1 : Int32) <<< (((sp_Rv_middle w) &&& 3 : Int32) &&& 31)) : Int32).toInt8.toInt32) rg).2) := by rw [sp_Rv_load, if_neg h4, if_pos h5, if_neg h12, if_pos h16]
          have hP9 := hP.sub (ws' := [(x, .inr (0, [.ref wa, .int wc, .ref ra, .ref ma, .ref ua, .ref oa, .int ph, .int dn, .int nx, .int fo])), (ra, .inl (cI, 32, .inl ((sp_Rv_keep w ((mRd M ((sp_Rv_firstOperand w rg) + ((w : Int32) >>> ((20 : Int32) &&& 31))) ((1 : Int32) <<< (((sp_Rv_middle w) &&& 3 : Int32) &&& 31)) : Int32).toInt8.toInt32) rg).2))), (ma, .inr (1, [.int (nI md), .int (nI bt), .int (nI lo), .int (nI nl), .ref sa, .ref ta, .ref fa, .ref pa, .int (nI pe), .ref ba])), (sa, .inl (cI, rn, .inl (sf))), (ta, .inl (cI, rn, .inl (tf))), (pa, .inl (cB, pn, .inl (pf)))]) [4, 5, 1, 0, 2, 3] rfl
          have hD9 := hD.sub (ws' := [(x, .inr (0, [.ref wa, .int wc, .ref ra, .ref ma, .ref ua, .ref oa, .int ph, .int dn, .int nx, .int fo])), (ra, .inl (cI, 32, .inl ((sp_Rv_keep w ((mRd M ((sp_Rv_firstOperand w rg) + ((w : Int32) >>> ((20 : Int32) &&& 31))) ((1 : Int32) <<< (((sp_Rv_middle w) &&& 3 : Int32) &&& 31)) : Int32).toInt8.toInt32) rg).2))), (ma, .inr (1, [.int (nI md), .int (nI bt), .int (nI lo), .int (nI nl), .ref sa, .ref ta, .ref fa, .ref pa, .int (nI pe), .ref ba])), (sa, .inl (cI, rn, .inl (sf))), (ta, .inl (cI, rn, .inl (tf))), (pa, .inl (cB, pn, .inl (pf)))]) [4, 5, 1, 0, 2, 3] rfl rfl
          exact zreti hx hb hr rfl hlocks hS () (by rw [hs]) rfl (by rw [hs]; exact hP9) (by rw [hs]; exact hD9) d_Rv_load_96
        · rcases Decidable.em ((sp_Rv_middle w) = 1) with h20 | h20
          · refine lv_lookup (tgt := 97) (off := 34) hx hb d_Rv_load_63 (by decide) (by rw [h20]; first | done | rfl) (by decide) ?_
            refine lv_aload_n hx hb d_Rv_load_97 rfl (lv_at hl 4 rfl) ?_
            refine lv_iload_n hx hb d_Rv_load_98 rfl (lv_at hl 5 rfl) ?_
            refine lv_iload hx hb d_Rv_load_99 (lv_at hl 0 rfl) ?_
            refine lv_i2s (v := (mRd M ((sp_Rv_firstOperand w rg) + ((w : Int32) >>> ((20 : Int32) &&& 31))) ((1 : Int32) <<< (((sp_Rv_middle w) &&& 3 : Int32) &&& 31)) : Int32).toInt16.toInt32) hx hb d_Rv_load_101 rfl ?_
            refine zgoi (wr := [(sa, .inl (cI, rn, .inl (sf))), (ma, .inr (1, [.int (nI md), .int (nI bt), .int (nI lo), .int (nI nl), .ref sa, .ref ta, .ref fa, .ref pa, .int (nI pe), .ref ba])), (ta, .inl (cI, rn, .inl (tf))), (pa, .inl (cB, pn, .inl (pf)))]) (zrunV (n := 2) (As := [.int w, .int ((mRd M ((sp_Rv_firstOperand w rg) + ((w : Int32) >>> ((20 : Int32) &&& 31))) ((1 : Int32) <<< (((sp_Rv_middle w) &&& 3 : Int32) &&& 31)) : Int32).toInt16.toInt32)]) (rest := []) hE (c_Rv_keep l D cI cB cJ _ w ((mRd M ((sp_Rv_firstOperand w rg) + ((w : Int32) >>> ((20 : Int32) &&& 31))) ((1 : Int32) <<< (((sp_Rv_middle w) &&& 3 : Int32) &&& 31)) : Int32).toInt16.toInt32) x wa wc ra ma ua oa ph dn nx fo rg) cb_Rv_keep lk_Rv_120 in_Rv_keep se_Rv_keep (zpreV (q0 := 0) hK hP hD rfl rfl rfl [0, 1] rfl rfl rfl) ⟨Nat.le_of_ble_eq_true rfl, Nat.le_of_ble_eq_true rfl, Nat.le_of_ble_eq_true rfl, Nat.le_of_ble_eq_true rfl⟩ rfl hl.1 rfl (Nat.le_of_ble_eq_true rfl) d_Rv_load_102) hP hD hS hA [0, 1] [2, 3, 4, 5] rfl rfl rfl (by decide) (fun r22 u23 H locs hq21 hP hD hS => ?_)
            subst hq21
            have hP : va_P D zC [(sa, .inl (cI, rn, .inl (sf))), (ma, .inr (1, [.int (nI md), .int (nI bt), .int (nI lo), .int (nI nl), .ref sa, .ref ta, .ref fa, .ref pa, .int (nI pe), .ref ba])), (ta, .inl (cI, rn, .inl (tf))), (pa, .inl (cB, pn, .inl (pf))), (x, .inr (0, [.ref wa, .int wc, .ref ra, .ref ma, .ref ua, .ref oa, .int ph, .int dn, .int nx, .int fo])), (ra, .inl (cI, 32, .inl ((sp_Rv_keep w ((mRd M ((sp_Rv_firstOperand w rg) + ((w : Int32) >>> ((20 : Int32) &&& 31))) ((1 : Int32) <<< (((sp_Rv_middle w) &&& 3 : Int32) &&& 31)) : Int32).toInt16.toInt32) rg).2)))] _ := hP
            have hD : va_D A [(sa, .inl (cI, rn, .inl (sf))), (ma, .inr (1, [.int (nI md), .int (nI bt), .int (nI lo), .int (nI nl), .ref sa, .ref ta, .ref fa, .ref pa, .int (nI pe), .ref ba])), (ta, .inl (cI, rn, .inl (tf))), (pa, .inl (cB, pn, .inl (pf))), (x, .inr (0, [.ref wa, .int wc, .ref ra, .ref ma, .ref ua, .ref oa, .int ph, .int dn, .int nx, .int fo])), (ra, .inl (cI, 32, .inl ((sp_Rv_keep w ((mRd M ((sp_Rv_firstOperand w rg) + ((w : Int32) >>> ((20 : Int32) &&& 31))) ((1 : Int32) <<< (((sp_Rv_middle w) &&& 3 : Int32) &&& 31)) : Int32).toInt16.toInt32) rg).2)))] := hD
            have hs : (sp_Rv_load w rg M) = ((sp_Rv_keep w ((mRd M ((sp_Rv_firstOperand w rg) + ((w : Int32) >>> ((20 : Int32) &&& 31))) ((1 : Int32) <<< (((sp_Rv_middle w) &&& 3 : Int32) &&& 31)) : Int32).toInt16.toInt32) rg).1, (sp_Rv_keep w ((mRd M ((sp_Rv_firstOperand w rg) + ((w : Int32) >>> ((20 : Int32) &&& 31))) ((1 : Int32) <<< (((sp_Rv_middle w) &&& 3 : Int32) &&& 31)) : Int32).toInt16.toInt32) rg).2) := by rw [sp_Rv_load, if_neg h4, if_pos h5, if_neg h12, if_neg h16, if_pos h20]
            have hP9 := hP.sub (ws' := [(x, .inr (0, [.ref wa, .int wc, .ref ra, .ref ma, .ref ua, .ref oa, .int ph, .int dn, .int nx, .int fo])), (ra, .inl (cI, 32, .inl ((sp_Rv_keep w ((mRd M ((sp_Rv_firstOperand w rg) + ((w : Int32) >>> ((20 : Int32) &&& 31))) ((1 : Int32) <<< (((sp_Rv_middle w) &&& 3 : Int32) &&& 31)) : Int32).toInt16.toInt32) rg).2))), (ma, .inr (1, [.int (nI md), .int (nI bt), .int (nI lo), .int (nI nl), .ref sa, .ref ta, .ref fa, .ref pa, .int (nI pe), .ref ba])), (sa, .inl (cI, rn, .inl (sf))), (ta, .inl (cI, rn, .inl (tf))), (pa, .inl (cB, pn, .inl (pf)))]) [4, 5, 1, 0, 2, 3] rfl
            have hD9 := hD.sub (ws' := [(x, .inr (0, [.ref wa, .int wc, .ref ra, .ref ma, .ref ua, .ref oa, .int ph, .int dn, .int nx, .int fo])), (ra, .inl (cI, 32, .inl ((sp_Rv_keep w ((mRd M ((sp_Rv_firstOperand w rg) + ((w : Int32) >>> ((20 : Int32) &&& 31))) ((1 : Int32) <<< (((sp_Rv_middle w) &&& 3 : Int32) &&& 31)) : Int32).toInt16.toInt32) rg).2))), (ma, .inr (1, [.int (nI md), .int (nI bt), .int (nI lo), .int (nI nl), .ref sa, .ref ta, .ref fa, .ref pa, .int (nI pe), .ref ba])), (sa, .inl (cI, rn, .inl (sf))), (ta, .inl (cI, rn, .inl (tf))), (pa, .inl (cB, pn, .inl (pf)))]) [4, 5, 1, 0, 2, 3] rfl rfl
            exact zreti hx hb hr rfl hlocks hS () (by rw [hs]) rfl (by rw [hs]; exact hP9) (by rw [hs]; exact hD9) d_Rv_load_105
          · refine lv_lookup (tgt := 106) (off := 43) hx hb d_Rv_load_63 (by decide) (by rw [lv_osw h16 (show ((0 : Int32)).toInt = 0 from by decide), lv_osw h20 (show ((1 : Int32)).toInt = 1 from by decide)]; first | done | rfl) (by decide) ?_
            refine lv_aload_n hx hb d_Rv_load_106 rfl (lv_at hl 4 rfl) ?_
            refine lv_iload_n hx hb d_Rv_load_107 rfl (lv_at hl 5 rfl) ?_
            refine lv_iload hx hb d_Rv_load_108 (lv_at hl 0 rfl) ?_
            refine zgoi (wr := [(sa, .inl (cI, rn, .inl (sf))), (ma, .inr (1, [.int (nI md), .int (nI bt), .int (nI lo), .int (nI nl), .ref sa, .ref ta, .ref fa, .ref pa, .int (nI pe), .ref ba])), (ta, .inl (cI, rn, .inl (tf))), (pa, .inl (cB, pn, .inl (pf)))]) (zrunV (n := 2) (As := [.int w, .int (mRd M ((sp_Rv_firstOperand w rg) + ((w : Int32) >>> ((20 : Int32) &&& 31))) ((1 : Int32) <<< (((sp_Rv_middle w) &&& 3 : Int32) &&& 31)))]) (rest := []) hE (c_Rv_keep l D cI cB cJ _ w (mRd M ((sp_Rv_firstOperand w rg) + ((w : Int32) >>> ((20 : Int32) &&& 31))) ((1 : Int32) <<< (((sp_Rv_middle w) &&& 3 : Int32) &&& 31))) x wa wc ra ma ua oa ph dn nx fo rg) cb_Rv_keep lk_Rv_120 in_Rv_keep se_Rv_keep (zpreV (q0 := 0) hK hP hD rfl rfl rfl [0, 1] rfl rfl rfl) ⟨Nat.le_of_ble_eq_true rfl, Nat.le_of_ble_eq_true rfl, Nat.le_of_ble_eq_true rfl, Nat.le_of_ble_eq_true rfl⟩ rfl hl.1 rfl (Nat.le_of_ble_eq_true rfl) d_Rv_load_110) hP hD hS hA [0, 1] [2, 3, 4, 5] rfl rfl rfl (by decide) (fun r25 u26 H locs hq24 hP hD hS => ?_)
            subst hq24
            have hP : va_P D zC [(sa, .inl (cI, rn, .inl (sf))), (ma, .inr (1, [.int (nI md), .int (nI bt), .int (nI lo), .int (nI nl), .ref sa, .ref ta, .ref fa, .ref pa, .int (nI pe), .ref ba])), (ta, .inl (cI, rn, .inl (tf))), (pa, .inl (cB, pn, .inl (pf))), (x, .inr (0, [.ref wa, .int wc, .ref ra, .ref ma, .ref ua, .ref oa, .int ph, .int dn, .int nx, .int fo])), (ra, .inl (cI, 32, .inl ((sp_Rv_keep w (mRd M ((sp_Rv_firstOperand w rg) + ((w : Int32) >>> ((20 : Int32) &&& 31))) ((1 : Int32) <<< (((sp_Rv_middle w) &&& 3 : Int32) &&& 31))) rg).2)))] _ := hP
            have hD : va_D A [(sa, .inl (cI, rn, .inl (sf))), (ma, .inr (1, [.int (nI md), .int (nI bt), .int (nI lo), .int (nI nl), .ref sa, .ref ta, .ref fa, .ref pa, .int (nI pe), .ref ba])), (ta, .inl (cI, rn, .inl (tf))), (pa, .inl (cB, pn, .inl (pf))), (x, .inr (0, [.ref wa, .int wc, .ref ra, .ref ma, .ref ua, .ref oa, .int ph, .int dn, .int nx, .int fo])), (ra, .inl (cI, 32, .inl ((sp_Rv_keep w (mRd M ((sp_Rv_firstOperand w rg) + ((w : Int32) >>> ((20 : Int32) &&& 31))) ((1 : Int32) <<< (((sp_Rv_middle w) &&& 3 : Int32) &&& 31))) rg).2)))] := hD
            have hs : (sp_Rv_load w rg M) = ((sp_Rv_keep w (mRd M ((sp_Rv_firstOperand w rg) + ((w : Int32) >>> ((20 : Int32) &&& 31))) ((1 : Int32) <<< (((sp_Rv_middle w) &&& 3 : Int32) &&& 31))) rg).1, (sp_Rv_keep w (mRd M ((sp_Rv_firstOperand w rg) + ((w : Int32) >>> ((20 : Int32) &&& 31))) ((1 : Int32) <<< (((sp_Rv_middle w) &&& 3 : Int32) &&& 31))) rg).2) := by rw [sp_Rv_load, if_neg h4, if_pos h5, if_neg h12, if_neg h16, if_neg h20]
            have hP9 := hP.sub (ws' := [(x, .inr (0, [.ref wa, .int wc, .ref ra, .ref ma, .ref ua, .ref oa, .int ph, .int dn, .int nx, .int fo])), (ra, .inl (cI, 32, .inl ((sp_Rv_keep w (mRd M ((sp_Rv_firstOperand w rg) + ((w : Int32) >>> ((20 : Int32) &&& 31))) ((1 : Int32) <<< (((sp_Rv_middle w) &&& 3 : Int32) &&& 31))) rg).2))), (ma, .inr (1, [.int (nI md), .int (nI bt), .int (nI lo), .int (nI nl), .ref sa, .ref ta, .ref fa, .ref pa, .int (nI pe), .ref ba])), (sa, .inl (cI, rn, .inl (sf))), (ta, .inl (cI, rn, .inl (tf))), (pa, .inl (cB, pn, .inl (pf)))]) [4, 5, 1, 0, 2, 3] rfl
            have hD9 := hD.sub (ws' := [(x, .inr (0, [.ref wa, .int wc, .ref ra, .ref ma, .ref ua, .ref oa, .int ph, .int dn, .int nx, .int fo])), (ra, .inl (cI, 32, .inl ((sp_Rv_keep w (mRd M ((sp_Rv_firstOperand w rg) + ((w : Int32) >>> ((20 : Int32) &&& 31))) ((1 : Int32) <<< (((sp_Rv_middle w) &&& 3 : Int32) &&& 31))) rg).2))), (ma, .inr (1, [.int (nI md), .int (nI bt), .int (nI lo), .int (nI nl), .ref sa, .ref ta, .ref fa, .ref pa, .int (nI pe), .ref ba])), (sa, .inl (cI, rn, .inl (sf))), (ta, .inl (cI, rn, .inl (tf))), (pa, .inl (cB, pn, .inl (pf)))]) [4, 5, 1, 0, 2, 3] rfl rfl
            exact zreti hx hb hr rfl hlocks hS () (by rw [hs]) rfl (by rw [hs]; exact hP9) (by rw [hs]; exact hD9) d_Rv_load_113
      · refine lv_iconst (v := 2) hx hb d_Rv_load_48 (by decide) ?_
        have hs : (sp_Rv_load w rg M) = (2, rg) := by rw [sp_Rv_load, if_neg h4, if_pos h5, if_pos h12]
        have hP9 := hP.sub (ws' := [(x, .inr (0, [.ref wa, .int wc, .ref ra, .ref ma, .ref ua, .ref oa, .int ph, .int dn, .int nx, .int fo])), (ra, .inl (cI, 32, .inl (rg))), (ma, .inr (1, [.int (nI md), .int (nI bt), .int (nI lo), .int (nI nl), .ref sa, .ref ta, .ref fa, .ref pa, .int (nI pe), .ref ba])), (sa, .inl (cI, rn, .inl (sf))), (ta, .inl (cI, rn, .inl (tf))), (pa, .inl (cB, pn, .inl (pf)))]) [2, 3, 4, 5, 0, 1] rfl
        have hD9 := hD.sub (ws' := [(x, .inr (0, [.ref wa, .int wc, .ref ra, .ref ma, .ref ua, .ref oa, .int ph, .int dn, .int nx, .int fo])), (ra, .inl (cI, 32, .inl (rg))), (ma, .inr (1, [.int (nI md), .int (nI bt), .int (nI lo), .int (nI nl), .ref sa, .ref ta, .ref fa, .ref pa, .int (nI pe), .ref ba])), (sa, .inl (cI, rn, .inl (sf))), (ta, .inl (cI, rn, .inl (tf))), (pa, .inl (cB, pn, .inl (pf)))]) [2, 3, 4, 5, 0, 1] rfl rfl
        exact zreti hx hb hr rfl hlocks hS () (by rw [hs]) rfl (by rw [hs]; exact hP9) (by rw [hs]; exact hD9) d_Rv_load_49
    · refine lv_iconst (v := 1) hx hb d_Rv_load_15 (by decide) ?_
      have hs : (sp_Rv_load w rg M) = (1, rg) := by rw [sp_Rv_load, if_neg h4, if_neg h5]
      have hP9 := hP.sub (ws' := [(x, .inr (0, [.ref wa, .int wc, .ref ra, .ref ma, .ref ua, .ref oa, .int ph, .int dn, .int nx, .int fo])), (ra, .inl (cI, 32, .inl (rg))), (ma, .inr (1, [.int (nI md), .int (nI bt), .int (nI lo), .int (nI nl), .ref sa, .ref ta, .ref fa, .ref pa, .int (nI pe), .ref ba])), (sa, .inl (cI, rn, .inl (sf))), (ta, .inl (cI, rn, .inl (tf))), (pa, .inl (cB, pn, .inl (pf)))]) [0, 1, 2, 3, 4, 5] rfl
      have hD9 := hD.sub (ws' := [(x, .inr (0, [.ref wa, .int wc, .ref ra, .ref ma, .ref ua, .ref oa, .int ph, .int dn, .int nx, .int fo])), (ra, .inl (cI, 32, .inl (rg))), (ma, .inr (1, [.int (nI md), .int (nI bt), .int (nI lo), .int (nI nl), .ref sa, .ref ta, .ref fa, .ref pa, .int (nI pe), .ref ba])), (sa, .inl (cI, rn, .inl (sf))), (ta, .inl (cI, rn, .inl (tf))), (pa, .inl (cB, pn, .inl (pf)))]) [0, 1, 2, 3, 4, 5] rfl rfl
      exact zreti hx hb hr rfl hlocks hS () (by rw [hs]) rfl (by rw [hs]; exact hP9) (by rw [hs]; exact hD9) d_Rv_load_16

def sp_Rv_peek (ad : Int32) (M : MM) : Int32 := if (mHs M ad 1) = 0 then (-1) else mRd M ad 1
set_option maxHeartbeats 4000000 in
theorem c_Rv_peek (l : Launch) (D : va_G) (cI cB cJ : ClassId) (sz : Nat) (ad : Int32) (x : Nat) (wa : Nat) (wc : Int32) (ra : Nat) (ma : Nat) (ua : Nat) (oa : Nat) (ph : Int32) (dn : Int32) (nx : Int32) (fo : Int32) (md : Nat) (bt : Nat) (lo : Nat) (nl : Nat) (sa : Nat) (ta : Nat) (fa : Nat) (pa : Nat) (pe : Nat) (ba : Nat) (rn : Nat) (sf : Nat → Int32) (tf : Nat → Int32) (pn : Nat) (pf : Nat → Int32) (M : MM) (uf : Nat → Int32) (hR : cRep M md bt nl pe rn pn sf tf uf pf) : zMet l y_Rv_peek (zWs y_Rv_peek b_Rv_peek 2 (some .int)) { frames := 2, cells := 0, slots := 0, locals := 46 } (zPc D (zT cI cB cJ) sz [(x, .inr (0, [.ref wa, .int wc, .ref ra, .ref ma, .ref ua, .ref oa, .int ph, .int dn, .int nx, .int fo])), (ma, .inr (1, [.int (nI md), .int (nI bt), .int (nI lo), .int (nI nl), .ref sa, .ref ta, .ref fa, .ref pa, .int (nI pe), .ref ba])), (sa, .inl (cI, rn, .inl (sf))), (ta, .inl (cI, rn, .inl (tf))), (pa, .inl (cB, pn, .inl (pf)))] [.ref x, .int ad]) (zQi D (va_A [(x, .inr (0, [.ref wa, .int wc, .ref ra, .ref ma, .ref ua, .ref oa, .int ph, .int dn, .int nx, .int fo])), (ma, .inr (1, [.int (nI md), .int (nI bt), .int (nI lo), .int (nI nl), .ref sa, .ref ta, .ref fa, .ref pa, .int (nI pe), .ref ba])), (sa, .inl (cI, rn, .inl (sf))), (ta, .inl (cI, rn, .inl (tf))), (pa, .inl (cB, pn, .inl (pf)))] sz) (fun r (_ : Unit) => r = (sp_Rv_peek ad M)) (z0) (fun _ => [(x, .inr (0, [.ref wa, .int wc, .ref ra, .ref ma, .ref ua, .ref oa, .int ph, .int dn, .int nx, .int fo])), (ma, .inr (1, [.int (nI md), .int (nI bt), .int (nI lo), .int (nI nl), .ref sa, .ref ta, .ref fa, .ref pa, .int (nI pe), .ref ba])), (sa, .inl (cI, rn, .inl (sf))), (ta, .inl (cI, rn, .inl (tf))), (pa, .inl (cB, pn, .inl (pf)))])) (va_A [(x, .inr (0, [.ref wa, .int wc, .ref ra, .ref ma, .ref ua, .ref oa, .int ph, .int dn, .int nx, .int fo])), (ma, .inr (1, [.int (nI md), .int (nI bt), .int (nI lo), .int (nI nl), .ref sa, .ref ta, .ref fa, .ref pa, .int (nI pe), .ref ba])), (sa, .inl (cI, rn, .inl (sf))), (ta, .inl (cI, rn, .inl (tf))), (pa, .inl (cB, pn, .inl (pf)))] sz) := by
  refine zstart (Qc := fun A => zQi D A (fun r (_ : Unit) => r = (sp_Rv_peek ad M)) (z0) (fun _ => [(x, .inr (0, [.ref wa, .int wc, .ref ra, .ref ma, .ref ua, .ref oa, .int ph, .int dn, .int nx, .int fo])), (ma, .inr (1, [.int (nI md), .int (nI bt), .int (nI lo), .int (nI nl), .ref sa, .ref ta, .ref fa, .ref pa, .int (nI pe), .ref ba])), (sa, .inl (cI, rn, .inl (sf))), (ta, .inl (cI, rn, .inl (tf))), (pa, .inl (cB, pn, .inl (pf)))])) (by decide) (Nat.le_of_ble_eq_true rfl) ?_
  intro p e s m below meth c ls A hE hr hlocks hin hsz hK hP hD hS hA hAe hl
  have hx := hE.1
  have hb := hE.2.1
  have hown := hE.2.2.2.1
  have hw := hE.2.2.2.2
  have hl : lv_has ls 2 [(0, .ref x), (1, .int ad)] := hl
  refine lv_aload_n hx hb d_Rv_peek_0 rfl (lv_at hl 0 rfl) ?_
  refine zget hE hK hP 0 rfl fd_Rv_19 rfl d_Rv_peek_1 ?_
  refine lv_iload_n hx hb d_Rv_peek_4 rfl (lv_at hl 1 rfl) ?_
  refine lv_iconst (v := 1) hx hb d_Rv_peek_5 (by decide) ?_
  refine zgoi (wr := [(x, .inr (0, [.ref wa, .int wc, .ref ra, .ref ma, .ref ua, .ref oa, .int ph, .int dn, .int nx, .int fo])), (ta, .inl (cI, rn, .inl (tf))), (pa, .inl (cB, pn, .inl (pf)))]) (zrunV (n := 2) (As := [.int ad, .int 1]) (rest := []) hE (c_Me_holds l D cI cB cJ _ ad 1 ma md bt lo nl sa ta fa pa pe ba rn sf hR.2.2.2.2.1 hR.2.2.2.2.2.1) cb_Me_holds lk_Rv_74 in_Me_holds se_Me_holds (zpreV (q0 := 1) hK hP hD rfl rfl rfl [1, 2] rfl rfl rfl) ⟨Nat.le_of_ble_eq_true rfl, Nat.le_of_ble_eq_true rfl, Nat.le_of_ble_eq_true rfl, Nat.le_of_ble_eq_true rfl⟩ rfl hl.1 rfl (Nat.le_of_ble_eq_true rfl) d_Rv_peek_6) hP hD hS hA [1, 2] [0, 3, 4] rfl rfl rfl (by decide) (fun r2 u3 H locs hq1 hP hD hS => ?_)
  subst hq1
  have hP : va_P D zC [(x, .inr (0, [.ref wa, .int wc, .ref ra, .ref ma, .ref ua, .ref oa, .int ph, .int dn, .int nx, .int fo])), (ta, .inl (cI, rn, .inl (tf))), (pa, .inl (cB, pn, .inl (pf))), (ma, .inr (1, [.int (nI md), .int (nI bt), .int (nI lo), .int (nI nl), .ref sa, .ref ta, .ref fa, .ref pa, .int (nI pe), .ref ba])), (sa, .inl (cI, rn, .inl (sf)))] _ := hP
  have hD : va_D A [(x, .inr (0, [.ref wa, .int wc, .ref ra, .ref ma, .ref ua, .ref oa, .int ph, .int dn, .int nx, .int fo])), (ta, .inl (cI, rn, .inl (tf))), (pa, .inl (cB, pn, .inl (pf))), (ma, .inr (1, [.int (nI md), .int (nI bt), .int (nI lo), .int (nI nl), .ref sa, .ref ta, .ref fa, .ref pa, .int (nI pe), .ref ba])), (sa, .inl (cI, rn, .inl (sf)))] := hD
  refine z_st (st' := [.int (mHs M ad 1)]) (by rw [show (((sp_Me_holds ad 1 md sf)) : Int32) = mHs M ad 1 from cRep_holds hR _ _]) ?_
  refine lv_if_eq (tgt := 24) hx hb d_Rv_peek_9 (by decide) (fun h4 => ?_) (fun h4 => ?_)
  · refine lv_iconst (v := (-1)) hx hb d_Rv_peek_24 (by decide) ?_
    have hs : (sp_Rv_peek ad M) = (-1) := by rw [sp_Rv_peek, if_pos h4]
    have hP9 := hP.sub (ws' := [(x, .inr (0, [.ref wa, .int wc, .ref ra, .ref ma, .ref ua, .ref oa, .int ph, .int dn, .int nx, .int fo])), (ma, .inr (1, [.int (nI md), .int (nI bt), .int (nI lo), .int (nI nl), .ref sa, .ref ta, .ref fa, .ref pa, .int (nI pe), .ref ba])), (sa, .inl (cI, rn, .inl (sf))), (ta, .inl (cI, rn, .inl (tf))), (pa, .inl (cB, pn, .inl (pf)))]) [0, 3, 4, 1, 2] rfl
    have hD9 := hD.sub (ws' := [(x, .inr (0, [.ref wa, .int wc, .ref ra, .ref ma, .ref ua, .ref oa, .int ph, .int dn, .int nx, .int fo])), (ma, .inr (1, [.int (nI md), .int (nI bt), .int (nI lo), .int (nI nl), .ref sa, .ref ta, .ref fa, .ref pa, .int (nI pe), .ref ba])), (sa, .inl (cI, rn, .inl (sf))), (ta, .inl (cI, rn, .inl (tf))), (pa, .inl (cB, pn, .inl (pf)))]) [0, 3, 4, 1, 2] rfl rfl
    exact zreti hx hb hr rfl hlocks hS () (by rw [hs]) rfl (by exact hP9) (by exact hD9) d_Rv_peek_25
  · obtain ⟨a0, zq, b1, b2, b3, b4, b5, b6, b7, ⟨qq, b8, b10⟩, b9⟩ := cRep_spot hR (h4) (by decide) (by decide)
    refine lv_aload_n hx hb d_Rv_peek_12 rfl (lv_at hl 0 rfl) ?_
    refine zget hE hK hP 0 rfl fd_Rv_19 rfl d_Rv_peek_13 ?_
    refine lv_iload_n hx hb d_Rv_peek_16 rfl (lv_at hl 1 rfl) ?_
    refine lv_iconst (v := 1) hx hb d_Rv_peek_17 (by decide) ?_
    refine zgoi (wr := [(x, .inr (0, [.ref wa, .int wc, .ref ra, .ref ma, .ref ua, .ref oa, .int ph, .int dn, .int nx, .int fo])), (sa, .inl (cI, rn, .inl (sf)))]) (zrunV (n := 2) (As := [.int ad, .int 1]) (rest := []) hE (c_Me_read l D cI cB cJ _ ad 1 ma md bt lo nl sa ta fa pa pe ba rn tf pn pf a0 (zN 1) b1 b2 b3 (z_of _) b4 b5) cb_Me_read lk_Rv_78 in_Me_read se_Me_read (zpreV (q0 := 3) hK hP hD rfl rfl rfl [3, 1, 2] rfl rfl rfl) ⟨Nat.le_of_ble_eq_true rfl, Nat.le_of_ble_eq_true rfl, Nat.le_of_ble_eq_true rfl, Nat.le_of_ble_eq_true rfl⟩ rfl hl.1 rfl (Nat.le_of_ble_eq_true rfl) d_Rv_peek_18) hP hD hS hA [3, 1, 2] [0, 4] rfl rfl rfl (by decide) (fun r6 u7 H locs hq5 hP hD hS => ?_)
    subst hq5
    have hP : va_P D zC [(x, .inr (0, [.ref wa, .int wc, .ref ra, .ref ma, .ref ua, .ref oa, .int ph, .int dn, .int nx, .int fo])), (sa, .inl (cI, rn, .inl (sf))), (ma, .inr (1, [.int (nI md), .int (nI bt), .int (nI lo), .int (nI nl), .ref sa, .ref ta, .ref fa, .ref pa, .int (nI pe), .ref ba])), (ta, .inl (cI, rn, .inl (tf))), (pa, .inl (cB, pn, .inl (pf)))] _ := hP
    have hD : va_D A [(x, .inr (0, [.ref wa, .int wc, .ref ra, .ref ma, .ref ua, .ref oa, .int ph, .int dn, .int nx, .int fo])), (sa, .inl (cI, rn, .inl (sf))), (ma, .inr (1, [.int (nI md), .int (nI bt), .int (nI lo), .int (nI nl), .ref sa, .ref ta, .ref fa, .ref pa, .int (nI pe), .ref ba])), (ta, .inl (cI, rn, .inl (tf))), (pa, .inl (cB, pn, .inl (pf)))] := hD
    refine z_st (st' := [.int (mRd M ad 1)]) (by rw [show (((zrd (fun i => pf (a0 + i)) (zN 1) 0)) : Int32) = mRd M ad 1 from by unfold mRd; exact zrd_congr _ _ b9]) ?_
    refine lv_goto (tgt := 25) hx hb d_Rv_peek_21 (by decide) ?_
    have hs : (sp_Rv_peek ad M) = mRd M ad 1 := by rw [sp_Rv_peek, if_neg h4]
    have hP9 := hP.sub (ws' := [(x, .inr (0, [.ref wa, .int wc, .ref ra, .ref ma, .ref ua, .ref oa, .int ph, .int dn, .int nx, .int fo])), (ma, .inr (1, [.int (nI md), .int (nI bt), .int (nI lo), .int (nI nl), .ref sa, .ref ta, .ref fa, .ref pa, .int (nI pe), .ref ba])), (sa, .inl (cI, rn, .inl (sf))), (ta, .inl (cI, rn, .inl (tf))), (pa, .inl (cB, pn, .inl (pf)))]) [0, 2, 1, 3, 4] rfl
    have hD9 := hD.sub (ws' := [(x, .inr (0, [.ref wa, .int wc, .ref ra, .ref ma, .ref ua, .ref oa, .int ph, .int dn, .int nx, .int fo])), (ma, .inr (1, [.int (nI md), .int (nI bt), .int (nI lo), .int (nI nl), .ref sa, .ref ta, .ref fa, .ref pa, .int (nI pe), .ref ba])), (sa, .inl (cI, rn, .inl (sf))), (ta, .inl (cI, rn, .inl (tf))), (pa, .inl (cB, pn, .inl (pf)))]) [0, 2, 1, 3, 4] rfl rfl
    exact zreti hx hb hr rfl hlocks hS () (by rw [hs]) rfl (by exact hP9) (by exact hD9) d_Rv_peek_25
end
section
/-! storing and copying, in own words -/
def xAd (w : Int32) (rg : Nat → Int32) : Int32 := sp_Rv_firstOperand w rg + sp_Rv_storeOffset w
def xStore (w : Int32) (rg : Nat → Int32) (M : MM) : Int32 × MM := if sp_Rv_middle w ≤ 2 then (if mHsA M (xAd w rg) ((1 : Int32) <<< (sp_Rv_middle w &&& 31)) = 0 then (2, M) else (0, mWr M (xAd w rg) ((1 : Int32) <<< (sp_Rv_middle w &&& 31)) (sp_Rv_secondOperand w rg))) else (1, M)
def xCopy (to fr n : Int32) (M : MM) : Int32 × MM := if n < 0 then (4, M) else if n ≤ 4000 then (if n = 0 then (0, M) else if mHs M fr n = 0 then (2, M) else if mHs M to n = 0 then (2, M) else (0, mCp M to fr n)) else (4, M)
theorem zN_nI {j : Nat} (h : j < 2 ^ 32) : zN (nI j) = j := pk_tn h
theorem zN_in {n : Int32} (h1 : ¬ n < 0) (h2 : n ≤ 4000) (h3 : ¬ n = 0) : 1 ≤ zN n ∧ zN n ≤ 4000 := by
  obtain ⟨j, hj, rfl⟩ := nI_of2 (M := 4000) (n := 4000) (by decide) h1 h2
  rw [zN_nI (by omega)]
  have := z_n0 h3
  omega
theorem cRep_copy {M : MM} {md bt nl pe rn pn : Nat} {sf tf uf pf : Nat → Int32} (h : cRep M md bt nl pe rn pn sf tf uf pf) {a b n : Int32} {a0 b0 z q : Nat} (h1 : 1 ≤ zN n) (ho : mSz M (zN a / 65536) = some z) (hle : zN a % 65536 + zN n ≤ z) (ha : a0 = q + zN a % 65536) (ha8 : a0 + zN n ≤ pn) (hb8 : b0 + zN n ≤ pn) (hq : tf (zN a / 65536) = nI q) (hb : ∀ i, i < zN n → pf (b0 + i) = mCt M (zN b / 65536) (zN b % 65536 + i)) : cRep (mCp M a b n) md bt nl pe rn pn sf tf uf (va_cpy pf pf b0 a0 (zN n)) := by
  obtain ⟨b1, b2, b3, b4, ⟨q', c1, c2, c3, c4⟩, b5, b6, b7⟩ := cRep_at h ho
  have hp := h.2.2.2.2.2.2.2.2.1
  have hqq : q' = q := (nI_eq (by omega) (by omega)).mp (c1.symm.trans hq)
  subst hqq
  refine cRep_put h ho (by omega) hq c2 (fun i hi => ?_) (fun p hp => ?_) (fun i hi => ?_)
  · by_cases c : zN a % 65536 ≤ i ∧ i < zN a % 65536 + zN n
    · rw [pk_cpy_in (by omega) (by omega), pk_cpy_in c.1 c.2, show q' + i - a0 = i - zN a % 65536 by omega]
      exact hb _ (by omega)
    · rw [pk_cpy_out (by omega), pk_cpy_out (by omega)]
      exact c4 i hi
  · rw [pk_cpy_out (by omega)]
  · by_cases c : a0 ≤ i ∧ i < a0 + zN n
    · rw [pk_cpy_in c.1 c.2]
      exact h.2.2.2.2.2.2.2.2.2.1 _ (by omega)
    · rw [pk_cpy_out (by omega)]
      exact h.2.2.2.2.2.2.2.2.2.1 i hi
/-! decode rows -/
theorem d_Rv_store_0 : decode b_Rv_store 0 = .ok (.iload_n 1, 1) := by decide +kernel
theorem d_Rv_store_1 : decode b_Rv_store 1 = .ok (.invokestatic 147, 3) := by decide +kernel
theorem d_Rv_store_4 : decode b_Rv_store 4 = .ok (.istore_n 2, 1) := by decide +kernel
theorem d_Rv_store_5 : decode b_Rv_store 5 = .ok (.iload_n 2, 1) := by decide +kernel
theorem d_Rv_store_6 : decode b_Rv_store 6 = .ok (.iconst 2, 1) := by decide +kernel
theorem d_Rv_store_7 : decode b_Rv_store 7 = .ok (.if_icmp .le 5, 3) := by decide +kernel
theorem d_Rv_store_10 : decode b_Rv_store 10 = .ok (.iconst 1, 1) := by decide +kernel
theorem d_Rv_store_11 : decode b_Rv_store 11 = .ok (.ireturn, 1) := by decide +kernel
theorem d_Rv_store_12 : decode b_Rv_store 12 = .ok (.aload_n 0, 1) := by decide +kernel
theorem d_Rv_store_13 : decode b_Rv_store 13 = .ok (.iload_n 1, 1) := by decide +kernel
theorem d_Rv_store_14 : decode b_Rv_store 14 = .ok (.invokevirtual 158, 3) := by decide +kernel
theorem d_Rv_store_17 : decode b_Rv_store 17 = .ok (.iload_n 1, 1) := by decide +kernel
theorem d_Rv_store_18 : decode b_Rv_store 18 = .ok (.invokestatic 173, 3) := by decide +kernel
theorem d_Rv_store_21 : decode b_Rv_store 21 = .ok (.iadd, 1) := by decide +kernel
theorem d_Rv_store_22 : decode b_Rv_store 22 = .ok (.istore_n 3, 1) := by decide +kernel
theorem d_Rv_store_23 : decode b_Rv_store 23 = .ok (.iconst 1, 1) := by decide +kernel
theorem d_Rv_store_24 : decode b_Rv_store 24 = .ok (.iload_n 2, 1) := by decide +kernel
theorem d_Rv_store_25 : decode b_Rv_store 25 = .ok (.ishl, 1) := by decide +kernel
theorem d_Rv_store_26 : decode b_Rv_store 26 = .ok (.istore 4, 2) := by decide +kernel
theorem d_Rv_store_28 : decode b_Rv_store 28 = .ok (.aload_n 0, 1) := by decide +kernel
theorem d_Rv_store_29 : decode b_Rv_store 29 = .ok (.getfield 19, 3) := by decide +kernel
theorem d_Rv_store_32 : decode b_Rv_store 32 = .ok (.iload_n 3, 1) := by decide +kernel
theorem d_Rv_store_33 : decode b_Rv_store 33 = .ok (.iload 4, 2) := by decide +kernel
theorem d_Rv_store_35 : decode b_Rv_store 35 = .ok (.invokevirtual 170, 3) := by decide +kernel
theorem d_Rv_store_38 : decode b_Rv_store 38 = .ok (.ifCond .ne 5, 3) := by decide +kernel
theorem d_Rv_store_41 : decode b_Rv_store 41 = .ok (.iconst 2, 1) := by decide +kernel
theorem d_Rv_store_42 : decode b_Rv_store 42 = .ok (.ireturn, 1) := by decide +kernel
theorem d_Rv_store_43 : decode b_Rv_store 43 = .ok (.aload_n 0, 1) := by decide +kernel
theorem d_Rv_store_44 : decode b_Rv_store 44 = .ok (.getfield 19, 3) := by decide +kernel
theorem d_Rv_store_47 : decode b_Rv_store 47 = .ok (.iload_n 3, 1) := by decide +kernel
theorem d_Rv_store_48 : decode b_Rv_store 48 = .ok (.iload 4, 2) := by decide +kernel
theorem d_Rv_store_50 : decode b_Rv_store 50 = .ok (.aload_n 0, 1) := by decide +kernel
theorem d_Rv_store_51 : decode b_Rv_store 51 = .ok (.iload_n 1, 1) := by decide +kernel
theorem d_Rv_store_52 : decode b_Rv_store 52 = .ok (.invokevirtual 161, 3) := by decide +kernel
theorem d_Rv_store_55 : decode b_Rv_store 55 = .ok (.invokevirtual 176, 3) := by decide +kernel
theorem d_Rv_store_58 : decode b_Rv_store 58 = .ok (.iconst 0, 1) := by decide +kernel
theorem d_Rv_store_59 : decode b_Rv_store 59 = .ok (.ireturn, 1) := by decide +kernel
theorem d_Rv_copyBytes_0 : decode b_Rv_copyBytes 0 = .ok (.iload_n 3, 1) := by decide +kernel
theorem d_Rv_copyBytes_1 : decode b_Rv_copyBytes 1 = .ok (.ifCond .lt 10, 3) := by decide +kernel
theorem d_Rv_copyBytes_4 : decode b_Rv_copyBytes 4 = .ok (.iload_n 3, 1) := by decide +kernel
theorem d_Rv_copyBytes_5 : decode b_Rv_copyBytes 5 = .ok (.sipush 4000, 3) := by decide +kernel
theorem d_Rv_copyBytes_8 : decode b_Rv_copyBytes 8 = .ok (.if_icmp .le 5, 3) := by decide +kernel
theorem d_Rv_copyBytes_11 : decode b_Rv_copyBytes 11 = .ok (.iconst 4, 1) := by decide +kernel
theorem d_Rv_copyBytes_12 : decode b_Rv_copyBytes 12 = .ok (.ireturn, 1) := by decide +kernel
theorem d_Rv_copyBytes_13 : decode b_Rv_copyBytes 13 = .ok (.iload_n 3, 1) := by decide +kernel
theorem d_Rv_copyBytes_14 : decode b_Rv_copyBytes 14 = .ok (.ifCond .ne 5, 3) := by decide +kernel
theorem d_Rv_copyBytes_17 : decode b_Rv_copyBytes 17 = .ok (.iconst 0, 1) := by decide +kernel
theorem d_Rv_copyBytes_18 : decode b_Rv_copyBytes 18 = .ok (.ireturn, 1) := by decide +kernel
theorem d_Rv_copyBytes_19 : decode b_Rv_copyBytes 19 = .ok (.aload_n 0, 1) := by decide +kernel
theorem d_Rv_copyBytes_20 : decode b_Rv_copyBytes 20 = .ok (.getfield 19, 3) := by decide +kernel
theorem d_Rv_copyBytes_23 : decode b_Rv_copyBytes 23 = .ok (.iload_n 2, 1) := by decide +kernel
theorem d_Rv_copyBytes_24 : decode b_Rv_copyBytes 24 = .ok (.iload_n 3, 1) := by decide +kernel
theorem d_Rv_copyBytes_25 : decode b_Rv_copyBytes 25 = .ok (.invokevirtual 74, 3) := by decide +kernel
theorem d_Rv_copyBytes_28 : decode b_Rv_copyBytes 28 = .ok (.ifCond .eq 15, 3) := by decide +kernel
theorem d_Rv_copyBytes_31 : decode b_Rv_copyBytes 31 = .ok (.aload_n 0, 1) := by decide +kernel
theorem d_Rv_copyBytes_32 : decode b_Rv_copyBytes 32 = .ok (.getfield 19, 3) := by decide +kernel
theorem d_Rv_copyBytes_35 : decode b_Rv_copyBytes 35 = .ok (.iload_n 1, 1) := by decide +kernel
theorem d_Rv_copyBytes_36 : decode b_Rv_copyBytes 36 = .ok (.iload_n 3, 1) := by decide +kernel
theorem d_Rv_copyBytes_37 : decode b_Rv_copyBytes 37 = .ok (.invokevirtual 74, 3) := by decide +kernel
theorem d_Rv_copyBytes_40 : decode b_Rv_copyBytes 40 = .ok (.ifCond .ne 5, 3) := by decide +kernel
theorem d_Rv_copyBytes_43 : decode b_Rv_copyBytes 43 = .ok (.iconst 2, 1) := by decide +kernel
theorem d_Rv_copyBytes_44 : decode b_Rv_copyBytes 44 = .ok (.ireturn, 1) := by decide +kernel
theorem d_Rv_copyBytes_45 : decode b_Rv_copyBytes 45 = .ok (.aload_n 0, 1) := by decide +kernel
theorem d_Rv_copyBytes_46 : decode b_Rv_copyBytes 46 = .ok (.getfield 19, 3) := by decide +kernel
theorem d_Rv_copyBytes_49 : decode b_Rv_copyBytes 49 = .ok (.iload_n 1, 1) := by decide +kernel
theorem d_Rv_copyBytes_50 : decode b_Rv_copyBytes 50 = .ok (.iload_n 2, 1) := by decide +kernel
theorem d_Rv_copyBytes_51 : decode b_Rv_copyBytes 51 = .ok (.iload_n 3, 1) := by decide +kernel
theorem d_Rv_copyBytes_52 : decode b_Rv_copyBytes 52 = .ok (.invokevirtual 220, 3) := by decide +kernel
theorem d_Rv_copyBytes_55 : decode b_Rv_copyBytes 55 = .ok (.iconst 0, 1) := by decide +kernel
theorem d_Rv_copyBytes_56 : decode b_Rv_copyBytes 56 = .ok (.ireturn, 1) := by decide +kernel

set_option maxHeartbeats 4000000 in
theorem c_Rv_store (l : Launch) (D : va_G) (cI cB cJ : ClassId) (sz : Nat) (w : Int32) (x : Nat) (wa : Nat) (wc : Int32) (ra : Nat) (ma : Nat) (ua : Nat) (oa : Nat) (ph : Int32) (dn : Int32) (nx : Int32) (fo : Int32) (rg : Nat → Int32) (md : Nat) (bt : Nat) (lo : Nat) (nl : Nat) (sa : Nat) (ta : Nat) (fa : Nat) (pa : Nat) (pe : Nat) (ba : Nat) (rn : Nat) (sf : Nat → Int32) (tf : Nat → Int32) (pn : Nat) (pf : Nat → Int32) (M : MM) (uf : Nat → Int32) (hR : cRep M md bt nl pe rn pn sf tf uf pf) : zMet l y_Rv_store (zWs y_Rv_store b_Rv_store 5 (some .int)) { frames := 3, cells := 0, slots := 0, locals := 66 } (zPc D (zT cI cB cJ) sz [(x, .inr (0, [.ref wa, .int wc, .ref ra, .ref ma, .ref ua, .ref oa, .int ph, .int dn, .int nx, .int fo])), (ra, .inl (cI, 32, .inl (rg))), (ma, .inr (1, [.int (nI md), .int (nI bt), .int (nI lo), .int (nI nl), .ref sa, .ref ta, .ref fa, .ref pa, .int (nI pe), .ref ba])), (sa, .inl (cI, rn, .inl (sf))), (ta, .inl (cI, rn, .inl (tf))), (pa, .inl (cB, pn, .inl (pf)))] [.ref x, .int w]) (zQi D (va_A [(x, .inr (0, [.ref wa, .int wc, .ref ra, .ref ma, .ref ua, .ref oa, .int ph, .int dn, .int nx, .int fo])), (ra, .inl (cI, 32, .inl (rg))), (ma, .inr (1, [.int (nI md), .int (nI bt), .int (nI lo), .int (nI nl), .ref sa, .ref ta, .ref fa, .ref pa, .int (nI pe), .ref ba])), (sa, .inl (cI, rn, .inl (sf))), (ta, .inl (cI, rn, .inl (tf))), (pa, .inl (cB, pn, .inl (pf)))] sz) (fun r (U : (Nat → Int32)) => r = (xStore w rg M).1 ∧ cRep (xStore w rg M).2 md bt nl pe rn pn sf tf uf U) (fun _ => (0, 0)) (fun (U : (Nat → Int32)) => [(x, .inr (0, [.ref wa, .int wc, .ref ra, .ref ma, .ref ua, .ref oa, .int ph, .int dn, .int nx, .int fo])), (ra, .inl (cI, 32, .inl (rg))), (ma, .inr (1, [.int (nI md), .int (nI bt), .int (nI lo), .int (nI nl), .ref sa, .ref ta, .ref fa, .ref pa, .int (nI pe), .ref ba])), (sa, .inl (cI, rn, .inl (sf))), (ta, .inl (cI, rn, .inl (tf))), (pa, .inl (cB, pn, .inl (U)))])) (va_A [(x, .inr (0, [.ref wa, .int wc, .ref ra, .ref ma, .ref ua, .ref oa, .int ph, .int dn, .int nx, .int fo])), (ra, .inl (cI, 32, .inl (rg))), (ma, .inr (1, [.int (nI md), .int (nI bt), .int (nI lo), .int (nI nl), .ref sa, .ref ta, .ref fa, .ref pa, .int (nI pe), .ref ba])), (sa, .inl (cI, rn, .inl (sf))), (ta, .inl (cI, rn, .inl (tf))), (pa, .inl (cB, pn, .inl (pf)))] sz) := by
  refine zstart (Qc := fun A => zQi D A (fun r (U : (Nat → Int32)) => r = (xStore w rg M).1 ∧ cRep (xStore w rg M).2 md bt nl pe rn pn sf tf uf U) (fun _ => (0, 0)) (fun (U : (Nat → Int32)) => [(x, .inr (0, [.ref wa, .int wc, .ref ra, .ref ma, .ref ua, .ref oa, .int ph, .int dn, .int nx, .int fo])), (ra, .inl (cI, 32, .inl (rg))), (ma, .inr (1, [.int (nI md), .int (nI bt), .int (nI lo), .int (nI nl), .ref sa, .ref ta, .ref fa, .ref pa, .int (nI pe), .ref ba])), (sa, .inl (cI, rn, .inl (sf))), (ta, .inl (cI, rn, .inl (tf))), (pa, .inl (cB, pn, .inl (U)))])) (by decide) (Nat.le_of_ble_eq_true rfl) ?_
  intro p e s m below meth c ls A hE hr hlocks hin hsz hK hP hD hS hA hAe hl
  have hx := hE.1
  have hb := hE.2.1
  have hown := hE.2.2.2.1
  have hw := hE.2.2.2.2
  have hl : lv_has ls 5 [(0, .ref x), (1, .int w)] := hl
  refine lv_iload_n hx hb d_Rv_store_0 rfl (lv_at hl 1 rfl) ?_
  refine zgoi (wr := [(x, .inr (0, [.ref wa, .int wc, .ref ra, .ref ma, .ref ua, .ref oa, .int ph, .int dn, .int nx, .int fo])), (ra, .inl (cI, 32, .inl (rg))), (ma, .inr (1, [.int (nI md), .int (nI bt), .int (nI lo), .int (nI nl), .ref sa, .ref ta, .ref fa, .ref pa, .int (nI pe), .ref ba])), (sa, .inl (cI, rn, .inl (sf))), (ta, .inl (cI, rn, .inl (tf))), (pa, .inl (cB, pn, .inl (pf)))]) (zrunS (n := 1) (As := [.int w]) (rest := []) hE (c_Rv_middle l D _ _ w) cb_Rv_middle lk_Rv_147 st_Rv_middle (zpreS hK hP hD [] rfl rfl rfl) ⟨Nat.le_of_ble_eq_true rfl, Nat.le_of_ble_eq_true rfl, Nat.le_of_ble_eq_true rfl, Nat.le_of_ble_eq_true rfl⟩ rfl hl.1 rfl (Nat.le_of_ble_eq_true rfl) d_Rv_store_1) hP hD hS hA [] [0, 1, 2, 3, 4, 5] rfl rfl rfl (by decide) (fun r2 u3 H locs hq1 hP hD hS => ?_)
  subst hq1
  have hP : va_P D zC [(x, .inr (0, [.ref wa, .int wc, .ref ra, .ref ma, .ref ua, .ref oa, .int ph, .int dn, .int nx, .int fo])), (ra, .inl (cI, 32, .inl (rg))), (ma, .inr (1, [.int (nI md), .int (nI bt), .int (nI lo), .int (nI nl), .ref sa, .ref ta, .ref fa, .ref pa, .int (nI pe), .ref ba])), (sa, .inl (cI, rn, .inl (sf))), (ta, .inl (cI, rn, .inl (tf))), (pa, .inl (cB, pn, .inl (pf)))] _ := hP
  have hD : va_D A [(x, .inr (0, [.ref wa, .int wc, .ref ra, .ref ma, .ref ua, .ref oa, .int ph, .int dn, .int nx, .int fo])), (ra, .inl (cI, 32, .inl (rg))), (ma, .inr (1, [.int (nI md), .int (nI bt), .int (nI lo), .int (nI nl), .ref sa, .ref ta, .ref fa, .ref pa, .int (nI pe), .ref ba])), (sa, .inl (cI, rn, .inl (sf))), (ta, .inl (cI, rn, .inl (tf))), (pa, .inl (cB, pn, .inl (pf)))] := hD
  refine lv_istore_n (lv' := [(2, .int (sp_Rv_middle w)), (0, .ref x), (1, .int w)]) hx hb d_Rv_store_4 rfl hl (by decide) rfl (fun ls hl => ?_)
  refine lv_iload_n hx hb d_Rv_store_5 rfl (lv_at hl 0 rfl) ?_
  refine lv_iconst (v := 2) hx hb d_Rv_store_6 (by decide) ?_
  refine lv_icmp_le (tgt := 12) hx hb d_Rv_store_7 (by decide) (fun h4 => ?_) (fun h4 => ?_)
  · refine lv_aload_n hx hb d_Rv_store_12 rfl (lv_at hl 1 rfl) ?_
    refine lv_iload_n hx hb d_Rv_store_13 rfl (lv_at hl 2 rfl) ?_
    refine zgoi (wr := [(ma, .inr (1, [.int (nI md), .int (nI bt), .int (nI lo), .int (nI nl), .ref sa, .ref ta, .ref fa, .ref pa, .int (nI pe), .ref ba])), (sa, .inl (cI, rn, .inl (sf))), (ta, .inl (cI, rn, .inl (tf))), (pa, .inl (cB, pn, .inl (pf)))]) (zrunV (n := 1) (As := [.int w]) (rest := []) hE (c_Rv_firstOperand l D cI cB cJ _ w x wa wc ra ma ua oa ph dn nx fo rg) cb_Rv_firstOperand lk_Rv_158 in_Rv_firstOperand se_Rv_firstOperand (zpreV (q0 := 0) hK hP hD rfl rfl rfl [0, 1] rfl rfl rfl) ⟨Nat.le_of_ble_eq_true rfl, Nat.le_of_ble_eq_true rfl, Nat.le_of_ble_eq_true rfl, Nat.le_of_ble_eq_true rfl⟩ rfl hl.1 rfl (Nat.le_of_ble_eq_true rfl) d_Rv_store_14) hP hD hS hA [0, 1] [2, 3, 4, 5] rfl rfl rfl (by decide) (fun r6 u7 H locs hq5 hP hD hS => ?_)
    subst hq5
    have hP : va_P D zC [(ma, .inr (1, [.int (nI md), .int (nI bt), .int (nI lo), .int (nI nl), .ref sa, .ref ta, .ref fa, .ref pa, .int (nI pe), .ref ba])), (sa, .inl (cI, rn, .inl (sf))), (ta, .inl (cI, rn, .inl (tf))), (pa, .inl (cB, pn, .inl (pf))), (x, .inr (0, [.ref wa, .int wc, .ref ra, .ref ma, .ref ua, .ref oa, .int ph, .int dn, .int nx, .int fo])), (ra, .inl (cI, 32, .inl (rg)))] _ := hP
    have hD : va_D A [(ma, .inr (1, [.int (nI md), .int (nI bt), .int (nI lo), .int (nI nl), .ref sa, .ref ta, .ref fa, .ref pa, .int (nI pe), .ref ba])), (sa, .inl (cI, rn, .inl (sf))), (ta, .inl (cI, rn, .inl (tf))), (pa, .inl (cB, pn, .inl (pf))), (x, .inr (0, [.ref wa, .int wc, .ref ra, .ref ma, .ref ua, .ref oa, .int ph, .int dn, .int nx, .int fo])), (ra, .inl (cI, 32, .inl (rg)))] := hD
    refine lv_iload_n hx hb d_Rv_store_17 rfl (lv_at hl 2 rfl) ?_
    refine zgoi (wr := [(ma, .inr (1, [.int (nI md), .int (nI bt), .int (nI lo), .int (nI nl), .ref sa, .ref ta, .ref fa, .ref pa, .int (nI pe), .ref ba])), (sa, .inl (cI, rn, .inl (sf))), (ta, .inl (cI, rn, .inl (tf))), (pa, .inl (cB, pn, .inl (pf))), (x, .inr (0, [.ref wa, .int wc, .ref ra, .ref ma, .ref ua, .ref oa, .int ph, .int dn, .int nx, .int fo])), (ra, .inl (cI, 32, .inl (rg)))]) (zrunS (n := 1) (As := [.int w]) (rest := [.int ((sp_Rv_firstOperand w rg))]) hE (c_Rv_storeOffset l D _ _ w) cb_Rv_storeOffset lk_Rv_173 st_Rv_storeOffset (zpreS hK hP hD [] rfl rfl rfl) ⟨Nat.le_of_ble_eq_true rfl, Nat.le_of_ble_eq_true rfl, Nat.le_of_ble_eq_true rfl, Nat.le_of_ble_eq_true rfl⟩ rfl hl.1 rfl (Nat.le_of_ble_eq_true rfl) d_Rv_store_18) hP hD hS hA [] [0, 1, 2, 3, 4, 5] rfl rfl rfl (by decide) (fun r9 u10 H locs hq8 hP hD hS => ?_)
    subst hq8
    have hP : va_P D zC [(ma, .inr (1, [.int (nI md), .int (nI bt), .int (nI lo), .int (nI nl), .ref sa, .ref ta, .ref fa, .ref pa, .int (nI pe), .ref ba])), (sa, .inl (cI, rn, .inl (sf))), (ta, .inl (cI, rn, .inl (tf))), (pa, .inl (cB, pn, .inl (pf))), (x, .inr (0, [.ref wa, .int wc, .ref ra, .ref ma, .ref ua, .ref oa, .int ph, .int dn, .int nx, .int fo])), (ra, .inl (cI, 32, .inl (rg)))] _ := hP
    have hD : va_D A [(ma, .inr (1, [.int (nI md), .int (nI bt), .int (nI lo), .int (nI nl), .ref sa, .ref ta, .ref fa, .ref pa, .int (nI pe), .ref ba])), (sa, .inl (cI, rn, .inl (sf))), (ta, .inl (cI, rn, .inl (tf))), (pa, .inl (cB, pn, .inl (pf))), (x, .inr (0, [.ref wa, .int wc, .ref ra, .ref ma, .ref ua, .ref oa, .int ph, .int dn, .int nx, .int fo])), (ra, .inl (cI, 32, .inl (rg)))] := hD
    refine lv_iadd hx hb d_Rv_store_21 ?_
    refine lv_istore_n (lv' := [(3, .int ((sp_Rv_firstOperand w rg) + (sp_Rv_storeOffset w))), (2, .int (sp_Rv_middle w)), (0, .ref x), (1, .int w)]) hx hb d_Rv_store_22 rfl hl (by decide) rfl (fun ls hl => ?_)
    refine lv_iconst (v := 1) hx hb d_Rv_store_23 (by decide) ?_
    refine lv_iload_n hx hb d_Rv_store_24 rfl (lv_at hl 1 rfl) ?_
    refine lv_ishl hx hb d_Rv_store_25 ?_
    refine lv_istore (lv' := [(4, .int ((1 : Int32) <<< ((sp_Rv_middle w : Int32) &&& 31))), (3, .int ((sp_Rv_firstOperand w rg) + (sp_Rv_storeOffset w))), (2, .int (sp_Rv_middle w)), (0, .ref x), (1, .int w)]) hx hb d_Rv_store_26 hl (by decide) rfl (fun ls hl => ?_)
    refine lv_aload_n hx hb d_Rv_store_28 rfl (lv_at hl 3 rfl) ?_
    refine zget hE hK hP 4 rfl fd_Rv_19 rfl d_Rv_store_29 ?_
    refine lv_iload_n hx hb d_Rv_store_32 rfl (lv_at hl 1 rfl) ?_
    refine lv_iload hx hb d_Rv_store_33 (lv_at hl 0 rfl) ?_
    refine zgoi (wr := [(ta, .inl (cI, rn, .inl (tf))), (pa, .inl (cB, pn, .inl (pf))), (x, .inr (0, [.ref wa, .int wc, .ref ra, .ref ma, .ref ua, .ref oa, .int ph, .int dn, .int nx, .int fo])), (ra, .inl (cI, 32, .inl (rg)))]) (zrunV (n := 2) (As := [.int ((sp_Rv_firstOperand w rg) + (sp_Rv_storeOffset w)), .int ((1 : Int32) <<< ((sp_Rv_middle w : Int32) &&& 31))]) (rest := []) hE (c_Me_holdsAligned l D cI cB cJ _ ((sp_Rv_firstOperand w rg) + (sp_Rv_storeOffset w)) ((1 : Int32) <<< ((sp_Rv_middle w : Int32) &&& 31)) ma md bt lo nl sa ta fa pa pe ba rn sf hR.2.2.2.2.1 hR.2.2.2.2.2.1) cb_Me_holdsAligned lk_Rv_170 in_Me_holdsAligned se_Me_holdsAligned (zpreV (q0 := 0) hK hP hD rfl rfl rfl [0, 1] rfl rfl rfl) ⟨Nat.le_of_ble_eq_true rfl, Nat.le_of_ble_eq_true rfl, Nat.le_of_ble_eq_true rfl, Nat.le_of_ble_eq_true rfl⟩ rfl hl.1 rfl (Nat.le_of_ble_eq_true rfl) d_Rv_store_35) hP hD hS hA [0, 1] [2, 3, 4, 5] rfl rfl rfl (by decide) (fun r12 u13 H locs hq11 hP hD hS => ?_)
    subst hq11
    have hP : va_P D zC [(ta, .inl (cI, rn, .inl (tf))), (pa, .inl (cB, pn, .inl (pf))), (x, .inr (0, [.ref wa, .int wc, .ref ra, .ref ma, .ref ua, .ref oa, .int ph, .int dn, .int nx, .int fo])), (ra, .inl (cI, 32, .inl (rg))), (ma, .inr (1, [.int (nI md), .int (nI bt), .int (nI lo), .int (nI nl), .ref sa, .ref ta, .ref fa, .ref pa, .int (nI pe), .ref ba])), (sa, .inl (cI, rn, .inl (sf)))] _ := hP
    have hD : va_D A [(ta, .inl (cI, rn, .inl (tf))), (pa, .inl (cB, pn, .inl (pf))), (x, .inr (0, [.ref wa, .int wc, .ref ra, .ref ma, .ref ua, .ref oa, .int ph, .int dn, .int nx, .int fo])), (ra, .inl (cI, 32, .inl (rg))), (ma, .inr (1, [.int (nI md), .int (nI bt), .int (nI lo), .int (nI nl), .ref sa, .ref ta, .ref fa, .ref pa, .int (nI pe), .ref ba])), (sa, .inl (cI, rn, .inl (sf)))] := hD
    refine z_st (st' := [.int (mHsA M (xAd w rg) ((1 : Int32) <<< (sp_Rv_middle w &&& 31)))]) (by rw [show (((sp_Me_holdsAligned ((sp_Rv_firstOperand w rg) + (sp_Rv_storeOffset w)) ((1 : Int32) <<< ((sp_Rv_middle w : Int32) &&& 31)) md sf)) : Int32) = mHsA M (xAd w rg) ((1 : Int32) <<< (sp_Rv_middle w &&& 31)) from cRep_holdsA hR _ _]) ?_
    refine lv_if_ne (tgt := 43) hx hb d_Rv_store_38 (by decide) (fun h14 => ?_) (fun h14 => ?_)
    · obtain ⟨a0, zq, b1, b2, b3, b4, b5, b6, b7, ⟨qq, b8, b10⟩, b9⟩ := cRep_spot hR (mHsA_hs h14) (zsz2 w h4).1 (zsz2 w h4).2
      refine lv_aload_n hx hb d_Rv_store_43 rfl (lv_at hl 3 rfl) ?_
      refine zget hE hK hP 2 rfl fd_Rv_19 rfl d_Rv_store_44 ?_
      refine lv_iload_n hx hb d_Rv_store_47 rfl (lv_at hl 1 rfl) ?_
      refine lv_iload hx hb d_Rv_store_48 (lv_at hl 0 rfl) ?_
      refine lv_aload_n hx hb d_Rv_store_50 rfl (lv_at hl 3 rfl) ?_
      refine lv_iload_n hx hb d_Rv_store_51 rfl (lv_at hl 4 rfl) ?_
      refine zgoi (wr := [(ta, .inl (cI, rn, .inl (tf))), (pa, .inl (cB, pn, .inl (pf))), (ma, .inr (1, [.int (nI md), .int (nI bt), .int (nI lo), .int (nI nl), .ref sa, .ref ta, .ref fa, .ref pa, .int (nI pe), .ref ba])), (sa, .inl (cI, rn, .inl (sf)))]) (zrunV (n := 1) (As := [.int w]) (rest := [.int ((1 : Int32) <<< ((sp_Rv_middle w : Int32) &&& 31)), .int ((sp_Rv_firstOperand w rg) + (sp_Rv_storeOffset w)), .ref ma]) hE (c_Rv_secondOperand l D cI cB cJ _ w x wa wc ra ma ua oa ph dn nx fo rg) cb_Rv_secondOperand lk_Rv_161 in_Rv_secondOperand se_Rv_secondOperand (zpreV (q0 := 2) hK hP hD rfl rfl rfl [2, 3] rfl rfl rfl) ⟨Nat.le_of_ble_eq_true rfl, Nat.le_of_ble_eq_true rfl, Nat.le_of_ble_eq_true rfl, Nat.le_of_ble_eq_true rfl⟩ rfl hl.1 rfl (Nat.le_of_ble_eq_true rfl) d_Rv_store_52) hP hD hS hA [2, 3] [0, 1, 4, 5] rfl rfl rfl (by decide) (fun r16 u17 H locs hq15 hP hD hS => ?_)
      subst hq15
      have hP : va_P D zC [(ta, .inl (cI, rn, .inl (tf))), (pa, .inl (cB, pn, .inl (pf))), (ma, .inr (1, [.int (nI md), .int (nI bt), .int (nI lo), .int (nI nl), .ref sa, .ref ta, .ref fa, .ref pa, .int (nI pe), .ref ba])), (sa, .inl (cI, rn, .inl (sf))), (x, .inr (0, [.ref wa, .int wc, .ref ra, .ref ma, .ref ua, .ref oa, .int ph, .int dn, .int nx, .int fo])), (ra, .inl (cI, 32, .inl (rg)))] _ := hP
      have hD : va_D A [(ta, .inl (cI, rn, .inl (tf))), (pa, .inl (cB, pn, .inl (pf))), (ma, .inr (1, [.int (nI md), .int (nI bt), .int (nI lo), .int (nI nl), .ref sa, .ref ta, .ref fa, .ref pa, .int (nI pe), .ref ba])), (sa, .inl (cI, rn, .inl (sf))), (x, .inr (0, [.ref wa, .int wc, .ref ra, .ref ma, .ref ua, .ref oa, .int ph, .int dn, .int nx, .int fo])), (ra, .inl (cI, 32, .inl (rg)))] := hD
      refine zgov (wr := [(sa, .inl (cI, rn, .inl (sf))), (x, .inr (0, [.ref wa, .int wc, .ref ra, .ref ma, .ref ua, .ref oa, .int ph, .int dn, .int nx, .int fo])), (ra, .inl (cI, 32, .inl (rg)))]) (zrunV (n := 3) (As := [.int ((sp_Rv_firstOperand w rg) + (sp_Rv_storeOffset w)), .int ((1 : Int32) <<< ((sp_Rv_middle w : Int32) &&& 31)), .int ((sp_Rv_secondOperand w rg))]) (rest := []) hE (c_Me_write l D cI cB cJ _ ((sp_Rv_firstOperand w rg) + (sp_Rv_storeOffset w)) ((1 : Int32) <<< ((sp_Rv_middle w : Int32) &&& 31)) (sp_Rv_secondOperand w rg) ma md bt lo nl sa ta fa pa pe ba rn tf pn pf a0 (zN ((1 : Int32) <<< (sp_Rv_middle w &&& 31))) b1 b2 b3 (z_of _) b4 b5) cb_Me_write lk_Rv_176 in_Me_write se_Me_write (zpreV (q0 := 2) hK hP hD rfl rfl rfl [2, 0, 1] rfl rfl rfl) ⟨Nat.le_of_ble_eq_true rfl, Nat.le_of_ble_eq_true rfl, Nat.le_of_ble_eq_true rfl, Nat.le_of_ble_eq_true rfl⟩ rfl hl.1 rfl (Nat.le_of_ble_eq_true rfl) d_Rv_store_55) hP hD hS hA [2, 0, 1] [3, 4, 5] rfl rfl rfl (by decide) (fun u20 H locs hq18 hP hD hS => ?_)
      clear hq18
      have hP : va_P D zC [(sa, .inl (cI, rn, .inl (sf))), (x, .inr (0, [.ref wa, .int wc, .ref ra, .ref ma, .ref ua, .ref oa, .int ph, .int dn, .int nx, .int fo])), (ra, .inl (cI, 32, .inl (rg))), (ma, .inr (1, [.int (nI md), .int (nI bt), .int (nI lo), .int (nI nl), .ref sa, .ref ta, .ref fa, .ref pa, .int (nI pe), .ref ba])), (ta, .inl (cI, rn, .inl (tf))), (pa, .inl (cB, pn, .inl (zwt pf a0 (zN ((1 : Int32) <<< (sp_Rv_middle w &&& 31))) (sp_Rv_secondOperand w rg))))] _ := hP
      have hD : va_D A [(sa, .inl (cI, rn, .inl (sf))), (x, .inr (0, [.ref wa, .int wc, .ref ra, .ref ma, .ref ua, .ref oa, .int ph, .int dn, .int nx, .int fo])), (ra, .inl (cI, 32, .inl (rg))), (ma, .inr (1, [.int (nI md), .int (nI bt), .int (nI lo), .int (nI nl), .ref sa, .ref ta, .ref fa, .ref pa, .int (nI pe), .ref ba])), (ta, .inl (cI, rn, .inl (tf))), (pa, .inl (cB, pn, .inl (zwt pf a0 (zN ((1 : Int32) <<< (sp_Rv_middle w &&& 31))) (sp_Rv_secondOperand w rg))))] := hD
      refine lv_iconst (v := 0) hx hb d_Rv_store_58 (by decide) ?_
      have hs : xStore w rg M = (0, mWr M (xAd w rg) ((1 : Int32) <<< (sp_Rv_middle w &&& 31)) (sp_Rv_secondOperand w rg)) := by unfold xStore; rw [if_pos h4, if_neg h14]
      have hP9 := hP.sub (ws' := [(x, .inr (0, [.ref wa, .int wc, .ref ra, .ref ma, .ref ua, .ref oa, .int ph, .int dn, .int nx, .int fo])), (ra, .inl (cI, 32, .inl (rg))), (ma, .inr (1, [.int (nI md), .int (nI bt), .int (nI lo), .int (nI nl), .ref sa, .ref ta, .ref fa, .ref pa, .int (nI pe), .ref ba])), (sa, .inl (cI, rn, .inl (sf))), (ta, .inl (cI, rn, .inl (tf))), (pa, .inl (cB, pn, .inl (zwt pf a0 (zN ((1 : Int32) <<< (sp_Rv_middle w &&& 31))) (sp_Rv_secondOperand w rg))))]) [1, 2, 3, 0, 4, 5] rfl
      have hD9 := hD.sub (ws' := [(x, .inr (0, [.ref wa, .int wc, .ref ra, .ref ma, .ref ua, .ref oa, .int ph, .int dn, .int nx, .int fo])), (ra, .inl (cI, 32, .inl (rg))), (ma, .inr (1, [.int (nI md), .int (nI bt), .int (nI lo), .int (nI nl), .ref sa, .ref ta, .ref fa, .ref pa, .int (nI pe), .ref ba])), (sa, .inl (cI, rn, .inl (sf))), (ta, .inl (cI, rn, .inl (tf))), (pa, .inl (cB, pn, .inl (zwt pf a0 (zN ((1 : Int32) <<< (sp_Rv_middle w &&& 31))) (sp_Rv_secondOperand w rg))))]) [1, 2, 3, 0, 4, 5] rfl rfl
      exact zreti hx hb hr rfl hlocks hS (zwt pf a0 (zN ((1 : Int32) <<< (sp_Rv_middle w &&& 31))) (sp_Rv_secondOperand w rg)) ⟨by rw [hs], by rw [hs]; exact cRep_write hR (zsz2 w h4).1 b6 b7 b8 (by omega) b10⟩ rfl hP9 hD9 d_Rv_store_59
    · refine lv_iconst (v := 2) hx hb d_Rv_store_41 (by decide) ?_
      have hs : xStore w rg M = (2, M) := by unfold xStore; rw [if_pos h4, if_pos h14]
      have hP9 := hP.sub (ws' := [(x, .inr (0, [.ref wa, .int wc, .ref ra, .ref ma, .ref ua, .ref oa, .int ph, .int dn, .int nx, .int fo])), (ra, .inl (cI, 32, .inl (rg))), (ma, .inr (1, [.int (nI md), .int (nI bt), .int (nI lo), .int (nI nl), .ref sa, .ref ta, .ref fa, .ref pa, .int (nI pe), .ref ba])), (sa, .inl (cI, rn, .inl (sf))), (ta, .inl (cI, rn, .inl (tf))), (pa, .inl (cB, pn, .inl (pf)))]) [2, 3, 4, 5, 0, 1] rfl
      have hD9 := hD.sub (ws' := [(x, .inr (0, [.ref wa, .int wc, .ref ra, .ref ma, .ref ua, .ref oa, .int ph, .int dn, .int nx, .int fo])), (ra, .inl (cI, 32, .inl (rg))), (ma, .inr (1, [.int (nI md), .int (nI bt), .int (nI lo), .int (nI nl), .ref sa, .ref ta, .ref fa, .ref pa, .int (nI pe), .ref ba])), (sa, .inl (cI, rn, .inl (sf))), (ta, .inl (cI, rn, .inl (tf))), (pa, .inl (cB, pn, .inl (pf)))]) [2, 3, 4, 5, 0, 1] rfl rfl
      exact zreti hx hb hr rfl hlocks hS pf ⟨by rw [hs], by rw [hs]; exact hR⟩ rfl hP9 hD9 d_Rv_store_42
  · refine lv_iconst (v := 1) hx hb d_Rv_store_10 (by decide) ?_
    have hs : xStore w rg M = (1, M) := by unfold xStore; rw [if_neg h4]
    have hP9 := hP.sub (ws' := [(x, .inr (0, [.ref wa, .int wc, .ref ra, .ref ma, .ref ua, .ref oa, .int ph, .int dn, .int nx, .int fo])), (ra, .inl (cI, 32, .inl (rg))), (ma, .inr (1, [.int (nI md), .int (nI bt), .int (nI lo), .int (nI nl), .ref sa, .ref ta, .ref fa, .ref pa, .int (nI pe), .ref ba])), (sa, .inl (cI, rn, .inl (sf))), (ta, .inl (cI, rn, .inl (tf))), (pa, .inl (cB, pn, .inl (pf)))]) [0, 1, 2, 3, 4, 5] rfl
    have hD9 := hD.sub (ws' := [(x, .inr (0, [.ref wa, .int wc, .ref ra, .ref ma, .ref ua, .ref oa, .int ph, .int dn, .int nx, .int fo])), (ra, .inl (cI, 32, .inl (rg))), (ma, .inr (1, [.int (nI md), .int (nI bt), .int (nI lo), .int (nI nl), .ref sa, .ref ta, .ref fa, .ref pa, .int (nI pe), .ref ba])), (sa, .inl (cI, rn, .inl (sf))), (ta, .inl (cI, rn, .inl (tf))), (pa, .inl (cB, pn, .inl (pf)))]) [0, 1, 2, 3, 4, 5] rfl rfl
    exact zreti hx hb hr rfl hlocks hS pf ⟨by rw [hs], by rw [hs]; exact hR⟩ rfl hP9 hD9 d_Rv_store_11

set_option maxHeartbeats 4000000 in
theorem c_Rv_copyBytes (l : Launch) (D : va_G) (cI cB cJ : ClassId) (sz : Nat) (to : Int32) (fr : Int32) (n0 : Int32) (x : Nat) (wa : Nat) (wc : Int32) (ra : Nat) (ma : Nat) (ua : Nat) (oa : Nat) (ph : Int32) (dn : Int32) (nx : Int32) (fo : Int32) (md : Nat) (bt : Nat) (lo : Nat) (nl : Nat) (sa : Nat) (ta : Nat) (fa : Nat) (pa : Nat) (pe : Nat) (ba : Nat) (rn : Nat) (sf : Nat → Int32) (tf : Nat → Int32) (pn : Nat) (pf : Nat → Int32) (M : MM) (uf : Nat → Int32) (hR : cRep M md bt nl pe rn pn sf tf uf pf) : zMet l y_Rv_copyBytes (zWs y_Rv_copyBytes b_Rv_copyBytes 4 (some .int)) { frames := 2, cells := 0, slots := 0, locals := 83 } (zPc D (zT cI cB cJ) sz [(x, .inr (0, [.ref wa, .int wc, .ref ra, .ref ma, .ref ua, .ref oa, .int ph, .int dn, .int nx, .int fo])), (ma, .inr (1, [.int (nI md), .int (nI bt), .int (nI lo), .int (nI nl), .ref sa, .ref ta, .ref fa, .ref pa, .int (nI pe), .ref ba])), (sa, .inl (cI, rn, .inl (sf))), (ta, .inl (cI, rn, .inl (tf))), (pa, .inl (cB, pn, .inl (pf)))] [.ref x, .int to, .int fr, .int n0]) (zQi D (va_A [(x, .inr (0, [.ref wa, .int wc, .ref ra, .ref ma, .ref ua, .ref oa, .int ph, .int dn, .int nx, .int fo])), (ma, .inr (1, [.int (nI md), .int (nI bt), .int (nI lo), .int (nI nl), .ref sa, .ref ta, .ref fa, .ref pa, .int (nI pe), .ref ba])), (sa, .inl (cI, rn, .inl (sf))), (ta, .inl (cI, rn, .inl (tf))), (pa, .inl (cB, pn, .inl (pf)))] sz) (fun r (U : (Nat → Int32)) => r = (xCopy to fr n0 M).1 ∧ cRep (xCopy to fr n0 M).2 md bt nl pe rn pn sf tf uf U) (fun _ => (0, 0)) (fun (U : (Nat → Int32)) => [(x, .inr (0, [.ref wa, .int wc, .ref ra, .ref ma, .ref ua, .ref oa, .int ph, .int dn, .int nx, .int fo])), (ma, .inr (1, [.int (nI md), .int (nI bt), .int (nI lo), .int (nI nl), .ref sa, .ref ta, .ref fa, .ref pa, .int (nI pe), .ref ba])), (sa, .inl (cI, rn, .inl (sf))), (ta, .inl (cI, rn, .inl (tf))), (pa, .inl (cB, pn, .inl (U)))])) (va_A [(x, .inr (0, [.ref wa, .int wc, .ref ra, .ref ma, .ref ua, .ref oa, .int ph, .int dn, .int nx, .int fo])), (ma, .inr (1, [.int (nI md), .int (nI bt), .int (nI lo), .int (nI nl), .ref sa, .ref ta, .ref fa, .ref pa, .int (nI pe), .ref ba])), (sa, .inl (cI, rn, .inl (sf))), (ta, .inl (cI, rn, .inl (tf))), (pa, .inl (cB, pn, .inl (pf)))] sz) := by
  refine zstart (Qc := fun A => zQi D A (fun r (U : (Nat → Int32)) => r = (xCopy to fr n0 M).1 ∧ cRep (xCopy to fr n0 M).2 md bt nl pe rn pn sf tf uf U) (fun _ => (0, 0)) (fun (U : (Nat → Int32)) => [(x, .inr (0, [.ref wa, .int wc, .ref ra, .ref ma, .ref ua, .ref oa, .int ph, .int dn, .int nx, .int fo])), (ma, .inr (1, [.int (nI md), .int (nI bt), .int (nI lo), .int (nI nl), .ref sa, .ref ta, .ref fa, .ref pa, .int (nI pe), .ref ba])), (sa, .inl (cI, rn, .inl (sf))), (ta, .inl (cI, rn, .inl (tf))), (pa, .inl (cB, pn, .inl (U)))])) (by decide) (Nat.le_of_ble_eq_true rfl) ?_
  intro p e s m below meth c ls A hE hr hlocks hin hsz hK hP hD hS hA hAe hl
  have hx := hE.1
  have hb := hE.2.1
  have hown := hE.2.2.2.1
  have hw := hE.2.2.2.2
  have hl : lv_has ls 4 [(0, .ref x), (1, .int to), (2, .int fr), (3, .int n0)] := hl
  refine lv_iload_n hx hb d_Rv_copyBytes_0 rfl (lv_at hl 3 rfl) ?_
  refine lv_if_lt (tgt := 11) hx hb d_Rv_copyBytes_1 (by decide) (fun h1 => ?_) (fun h1 => ?_)
  · refine lv_iconst (v := 4) hx hb d_Rv_copyBytes_11 (by decide) ?_
    have hs : xCopy to fr n0 M = (4, M) := by unfold xCopy; rw [if_pos h1]
    have hP9 := hP.sub (ws' := [(x, .inr (0, [.ref wa, .int wc, .ref ra, .ref ma, .ref ua, .ref oa, .int ph, .int dn, .int nx, .int fo])), (ma, .inr (1, [.int (nI md), .int (nI bt), .int (nI lo), .int (nI nl), .ref sa, .ref ta, .ref fa, .ref pa, .int (nI pe), .ref ba])), (sa, .inl (cI, rn, .inl (sf))), (ta, .inl (cI, rn, .inl (tf))), (pa, .inl (cB, pn, .inl (pf)))]) [0, 1, 2, 3, 4] rfl
    have hD9 := hD.sub (ws' := [(x, .inr (0, [.ref wa, .int wc, .ref ra, .ref ma, .ref ua, .ref oa, .int ph, .int dn, .int nx, .int fo])), (ma, .inr (1, [.int (nI md), .int (nI bt), .int (nI lo), .int (nI nl), .ref sa, .ref ta, .ref fa, .ref pa, .int (nI pe), .ref ba])), (sa, .inl (cI, rn, .inl (sf))), (ta, .inl (cI, rn, .inl (tf))), (pa, .inl (cB, pn, .inl (pf)))]) [0, 1, 2, 3, 4] rfl rfl
    exact zreti hx hb hr rfl hlocks hS pf ⟨by rw [hs], by rw [hs]; exact hR⟩ rfl hP9 hD9 d_Rv_copyBytes_12
  · refine lv_iload_n hx hb d_Rv_copyBytes_4 rfl (lv_at hl 3 rfl) ?_
    refine lv_sipush (v := 4000) hx hb d_Rv_copyBytes_5 (by decide) ?_
    refine lv_icmp_le (tgt := 13) hx hb d_Rv_copyBytes_8 (by decide) (fun h2 => ?_) (fun h2 => ?_)
    · refine lv_iload_n hx hb d_Rv_copyBytes_13 rfl (lv_at hl 3 rfl) ?_
      refine lv_if_ne (tgt := 19) hx hb d_Rv_copyBytes_14 (by decide) (fun h3 => ?_) (fun h3 => ?_)
      · refine lv_aload_n hx hb d_Rv_copyBytes_19 rfl (lv_at hl 0 rfl) ?_
        refine zget hE hK hP 0 rfl fd_Rv_19 rfl d_Rv_copyBytes_20 ?_
        refine lv_iload_n hx hb d_Rv_copyBytes_23 rfl (lv_at hl 2 rfl) ?_
        refine lv_iload_n hx hb d_Rv_copyBytes_24 rfl (lv_at hl 3 rfl) ?_
        refine zgoi (wr := [(x, .inr (0, [.ref wa, .int wc, .ref ra, .ref ma, .ref ua, .ref oa, .int ph, .int dn, .int nx, .int fo])), (ta, .inl (cI, rn, .inl (tf))), (pa, .inl (cB, pn, .inl (pf)))]) (zrunV (n := 2) (As := [.int fr, .int n0]) (rest := []) hE (c_Me_holds l D cI cB cJ _ fr n0 ma md bt lo nl sa ta fa pa pe ba rn sf hR.2.2.2.2.1 hR.2.2.2.2.2.1) cb_Me_holds lk_Rv_74 in_Me_holds se_Me_holds (zpreV (q0 := 1) hK hP hD rfl rfl rfl [1, 2] rfl rfl rfl) ⟨Nat.le_of_ble_eq_true rfl, Nat.le_of_ble_eq_true rfl, Nat.le_of_ble_eq_true rfl, Nat.le_of_ble_eq_true rfl⟩ rfl hl.1 rfl (Nat.le_of_ble_eq_true rfl) d_Rv_copyBytes_25) hP hD hS hA [1, 2] [0, 3, 4] rfl rfl rfl (by decide) (fun r5 u6 H locs hq4 hP hD hS => ?_)
        subst hq4
        have hP : va_P D zC [(x, .inr (0, [.ref wa, .int wc, .ref ra, .ref ma, .ref ua, .ref oa, .int ph, .int dn, .int nx, .int fo])), (ta, .inl (cI, rn, .inl (tf))), (pa, .inl (cB, pn, .inl (pf))), (ma, .inr (1, [.int (nI md), .int (nI bt), .int (nI lo), .int (nI nl), .ref sa, .ref ta, .ref fa, .ref pa, .int (nI pe), .ref ba])), (sa, .inl (cI, rn, .inl (sf)))] _ := hP
        have hD : va_D A [(x, .inr (0, [.ref wa, .int wc, .ref ra, .ref ma, .ref ua, .ref oa, .int ph, .int dn, .int nx, .int fo])), (ta, .inl (cI, rn, .inl (tf))), (pa, .inl (cB, pn, .inl (pf))), (ma, .inr (1, [.int (nI md), .int (nI bt), .int (nI lo), .int (nI nl), .ref sa, .ref ta, .ref fa, .ref pa, .int (nI pe), .ref ba])), (sa, .inl (cI, rn, .inl (sf)))] := hD
        refine z_st (st' := [.int (mHs M fr n0)]) (by rw [show (((sp_Me_holds fr n0 md sf)) : Int32) = mHs M fr n0 from cRep_holds hR _ _]) ?_
        refine lv_if_eq (tgt := 43) hx hb d_Rv_copyBytes_28 (by decide) (fun h7 => ?_) (fun h7 => ?_)
        · refine lv_iconst (v := 2) hx hb d_Rv_copyBytes_43 (by decide) ?_
          have hs : xCopy to fr n0 M = (2, M) := by unfold xCopy; rw [if_neg h1, if_pos h2, if_neg h3, if_pos h7]
          have hP9 := hP.sub (ws' := [(x, .inr (0, [.ref wa, .int wc, .ref ra, .ref ma, .ref ua, .ref oa, .int ph, .int dn, .int nx, .int fo])), (ma, .inr (1, [.int (nI md), .int (nI bt), .int (nI lo), .int (nI nl), .ref sa, .ref ta, .ref fa, .ref pa, .int (nI pe), .ref ba])), (sa, .inl (cI, rn, .inl (sf))), (ta, .inl (cI, rn, .inl (tf))), (pa, .inl (cB, pn, .inl (pf)))]) [0, 3, 4, 1, 2] rfl
          have hD9 := hD.sub (ws' := [(x, .inr (0, [.ref wa, .int wc, .ref ra, .ref ma, .ref ua, .ref oa, .int ph, .int dn, .int nx, .int fo])), (ma, .inr (1, [.int (nI md), .int (nI bt), .int (nI lo), .int (nI nl), .ref sa, .ref ta, .ref fa, .ref pa, .int (nI pe), .ref ba])), (sa, .inl (cI, rn, .inl (sf))), (ta, .inl (cI, rn, .inl (tf))), (pa, .inl (cB, pn, .inl (pf)))]) [0, 3, 4, 1, 2] rfl rfl
          exact zreti hx hb hr rfl hlocks hS pf ⟨by rw [hs], by rw [hs]; exact hR⟩ rfl hP9 hD9 d_Rv_copyBytes_44
        · refine lv_aload_n hx hb d_Rv_copyBytes_31 rfl (lv_at hl 0 rfl) ?_
          refine zget hE hK hP 0 rfl fd_Rv_19 rfl d_Rv_copyBytes_32 ?_
          refine lv_iload_n hx hb d_Rv_copyBytes_35 rfl (lv_at hl 1 rfl) ?_
          refine lv_iload_n hx hb d_Rv_copyBytes_36 rfl (lv_at hl 3 rfl) ?_
          refine zgoi (wr := [(x, .inr (0, [.ref wa, .int wc, .ref ra, .ref ma, .ref ua, .ref oa, .int ph, .int dn, .int nx, .int fo])), (ta, .inl (cI, rn, .inl (tf))), (pa, .inl (cB, pn, .inl (pf)))]) (zrunV (n := 2) (As := [.int to, .int n0]) (rest := []) hE (c_Me_holds l D cI cB cJ _ to n0 ma md bt lo nl sa ta fa pa pe ba rn sf hR.2.2.2.2.1 hR.2.2.2.2.2.1) cb_Me_holds lk_Rv_74 in_Me_holds se_Me_holds (zpreV (q0 := 3) hK hP hD rfl rfl rfl [3, 4] rfl rfl rfl) ⟨Nat.le_of_ble_eq_true rfl, Nat.le_of_ble_eq_true rfl, Nat.le_of_ble_eq_true rfl, Nat.le_of_ble_eq_true rfl⟩ rfl hl.1 rfl (Nat.le_of_ble_eq_true rfl) d_Rv_copyBytes_37) hP hD hS hA [3, 4] [0, 1, 2] rfl rfl rfl (by decide) (fun r9 u10 H locs hq8 hP hD hS => ?_)
          subst hq8
          have hP : va_P D zC [(x, .inr (0, [.ref wa, .int wc, .ref ra, .ref ma, .ref ua, .ref oa, .int ph, .int dn, .int nx, .int fo])), (ta, .inl (cI, rn, .inl (tf))), (pa, .inl (cB, pn, .inl (pf))), (ma, .inr (1, [.int (nI md), .int (nI bt), .int (nI lo), .int (nI nl), .ref sa, .ref ta, .ref fa, .ref pa, .int (nI pe), .ref ba])), (sa, .inl (cI, rn, .inl (sf)))] _ := hP
          have hD : va_D A [(x, .inr (0, [.ref wa, .int wc, .ref ra, .ref ma, .ref ua, .ref oa, .int ph, .int dn, .int nx, .int fo])), (ta, .inl (cI, rn, .inl (tf))), (pa, .inl (cB, pn, .inl (pf))), (ma, .inr (1, [.int (nI md), .int (nI bt), .int (nI lo), .int (nI nl), .ref sa, .ref ta, .ref fa, .ref pa, .int (nI pe), .ref ba])), (sa, .inl (cI, rn, .inl (sf)))] := hD
          refine z_st (st' := [.int (mHs M to n0)]) (by rw [show (((sp_Me_holds to n0 md sf)) : Int32) = mHs M to n0 from cRep_holds hR _ _]) ?_
          refine lv_if_ne (tgt := 45) hx hb d_Rv_copyBytes_40 (by decide) (fun h11 => ?_) (fun h11 => ?_)
          · have hbn := zN_in h1 h2 h3
            obtain ⟨a0, za, a1, a2, a3, a4, a5, a6, a7, ⟨qa, a8, a10⟩, a9⟩ := cRep_spot hR h11 hbn.1 hbn.2
            obtain ⟨b0, zb, b1, b2, b3, b4, b5, b6, b7, ⟨qb, b8, b10⟩, b9⟩ := cRep_spot hR h7 hbn.1 hbn.2
            refine lv_aload_n hx hb d_Rv_copyBytes_45 rfl (lv_at hl 0 rfl) ?_
            refine zget hE hK hP 0 rfl fd_Rv_19 rfl d_Rv_copyBytes_46 ?_
            refine lv_iload_n hx hb d_Rv_copyBytes_49 rfl (lv_at hl 1 rfl) ?_
            refine lv_iload_n hx hb d_Rv_copyBytes_50 rfl (lv_at hl 2 rfl) ?_
            refine lv_iload_n hx hb d_Rv_copyBytes_51 rfl (lv_at hl 3 rfl) ?_
            refine zgov (wr := [(x, .inr (0, [.ref wa, .int wc, .ref ra, .ref ma, .ref ua, .ref oa, .int ph, .int dn, .int nx, .int fo])), (sa, .inl (cI, rn, .inl (sf)))]) (zrunV (n := 3) (As := [.int to, .int fr, .int n0]) (rest := []) hE (c_Me_copy l D cI cB cJ _ to fr n0 ma md bt lo nl sa ta fa pa pe ba rn tf pn pf a0 b0 (zN n0) a1 b1 a2 a3 b3 (z_of _) a4 b4 a5 hR.2.2.2.2.2.2.2.2.2.1) cb_Me_copy lk_Rv_220 in_Me_copy se_Me_copy (zpreV (q0 := 3) hK hP hD rfl rfl rfl [3, 1, 2] rfl rfl rfl) ⟨Nat.le_of_ble_eq_true rfl, Nat.le_of_ble_eq_true rfl, Nat.le_of_ble_eq_true rfl, Nat.le_of_ble_eq_true rfl⟩ rfl hl.1 rfl (Nat.le_of_ble_eq_true rfl) d_Rv_copyBytes_52) hP hD hS hA [3, 1, 2] [0, 4] rfl rfl rfl (by decide) (fun u14 H locs hq12 hP hD hS => ?_)
            clear hq12
            have hP : va_P D zC [(x, .inr (0, [.ref wa, .int wc, .ref ra, .ref ma, .ref ua, .ref oa, .int ph, .int dn, .int nx, .int fo])), (sa, .inl (cI, rn, .inl (sf))), (ma, .inr (1, [.int (nI md), .int (nI bt), .int (nI lo), .int (nI nl), .ref sa, .ref ta, .ref fa, .ref pa, .int (nI pe), .ref ba])), (ta, .inl (cI, rn, .inl (tf))), (pa, .inl (cB, pn, .inl (va_cpy pf pf b0 a0 (zN n0))))] _ := hP
            have hD : va_D A [(x, .inr (0, [.ref wa, .int wc, .ref ra, .ref ma, .ref ua, .ref oa, .int ph, .int dn, .int nx, .int fo])), (sa, .inl (cI, rn, .inl (sf))), (ma, .inr (1, [.int (nI md), .int (nI bt), .int (nI lo), .int (nI nl), .ref sa, .ref ta, .ref fa, .ref pa, .int (nI pe), .ref ba])), (ta, .inl (cI, rn, .inl (tf))), (pa, .inl (cB, pn, .inl (va_cpy pf pf b0 a0 (zN n0))))] := hD
            refine lv_iconst (v := 0) hx hb d_Rv_copyBytes_55 (by decide) ?_
            have hs : xCopy to fr n0 M = (0, mCp M to fr n0) := by unfold xCopy; rw [if_neg h1, if_pos h2, if_neg h3, if_neg h7, if_neg h11]
            have hP9 := hP.sub (ws' := [(x, .inr (0, [.ref wa, .int wc, .ref ra, .ref ma, .ref ua, .ref oa, .int ph, .int dn, .int nx, .int fo])), (ma, .inr (1, [.int (nI md), .int (nI bt), .int (nI lo), .int (nI nl), .ref sa, .ref ta, .ref fa, .ref pa, .int (nI pe), .ref ba])), (sa, .inl (cI, rn, .inl (sf))), (ta, .inl (cI, rn, .inl (tf))), (pa, .inl (cB, pn, .inl (va_cpy pf pf b0 a0 (zN n0))))]) [0, 2, 1, 3, 4] rfl
            have hD9 := hD.sub (ws' := [(x, .inr (0, [.ref wa, .int wc, .ref ra, .ref ma, .ref ua, .ref oa, .int ph, .int dn, .int nx, .int fo])), (ma, .inr (1, [.int (nI md), .int (nI bt), .int (nI lo), .int (nI nl), .ref sa, .ref ta, .ref fa, .ref pa, .int (nI pe), .ref ba])), (sa, .inl (cI, rn, .inl (sf))), (ta, .inl (cI, rn, .inl (tf))), (pa, .inl (cB, pn, .inl (va_cpy pf pf b0 a0 (zN n0))))]) [0, 2, 1, 3, 4] rfl rfl
            exact zreti hx hb hr rfl hlocks hS (va_cpy pf pf b0 a0 (zN n0)) ⟨by rw [hs], by rw [hs]; exact cRep_copy hR hbn.1 a6 a7 a8 a4 b4 a10 b9⟩ rfl hP9 hD9 d_Rv_copyBytes_56
          · refine lv_iconst (v := 2) hx hb d_Rv_copyBytes_43 (by decide) ?_
            have hs : xCopy to fr n0 M = (2, M) := by unfold xCopy; rw [if_neg h1, if_pos h2, if_neg h3, if_neg h7, if_pos h11]
            have hP9 := hP.sub (ws' := [(x, .inr (0, [.ref wa, .int wc, .ref ra, .ref ma, .ref ua, .ref oa, .int ph, .int dn, .int nx, .int fo])), (ma, .inr (1, [.int (nI md), .int (nI bt), .int (nI lo), .int (nI nl), .ref sa, .ref ta, .ref fa, .ref pa, .int (nI pe), .ref ba])), (sa, .inl (cI, rn, .inl (sf))), (ta, .inl (cI, rn, .inl (tf))), (pa, .inl (cB, pn, .inl (pf)))]) [0, 3, 4, 1, 2] rfl
            have hD9 := hD.sub (ws' := [(x, .inr (0, [.ref wa, .int wc, .ref ra, .ref ma, .ref ua, .ref oa, .int ph, .int dn, .int nx, .int fo])), (ma, .inr (1, [.int (nI md), .int (nI bt), .int (nI lo), .int (nI nl), .ref sa, .ref ta, .ref fa, .ref pa, .int (nI pe), .ref ba])), (sa, .inl (cI, rn, .inl (sf))), (ta, .inl (cI, rn, .inl (tf))), (pa, .inl (cB, pn, .inl (pf)))]) [0, 3, 4, 1, 2] rfl rfl
            exact zreti hx hb hr rfl hlocks hS pf ⟨by rw [hs], by rw [hs]; exact hR⟩ rfl hP9 hD9 d_Rv_copyBytes_44
      · refine lv_iconst (v := 0) hx hb d_Rv_copyBytes_17 (by decide) ?_
        have hs : xCopy to fr n0 M = (0, M) := by unfold xCopy; rw [if_neg h1, if_pos h2, if_pos h3]
        have hP9 := hP.sub (ws' := [(x, .inr (0, [.ref wa, .int wc, .ref ra, .ref ma, .ref ua, .ref oa, .int ph, .int dn, .int nx, .int fo])), (ma, .inr (1, [.int (nI md), .int (nI bt), .int (nI lo), .int (nI nl), .ref sa, .ref ta, .ref fa, .ref pa, .int (nI pe), .ref ba])), (sa, .inl (cI, rn, .inl (sf))), (ta, .inl (cI, rn, .inl (tf))), (pa, .inl (cB, pn, .inl (pf)))]) [0, 1, 2, 3, 4] rfl
        have hD9 := hD.sub (ws' := [(x, .inr (0, [.ref wa, .int wc, .ref ra, .ref ma, .ref ua, .ref oa, .int ph, .int dn, .int nx, .int fo])), (ma, .inr (1, [.int (nI md), .int (nI bt), .int (nI lo), .int (nI nl), .ref sa, .ref ta, .ref fa, .ref pa, .int (nI pe), .ref ba])), (sa, .inl (cI, rn, .inl (sf))), (ta, .inl (cI, rn, .inl (tf))), (pa, .inl (cB, pn, .inl (pf)))]) [0, 1, 2, 3, 4] rfl rfl
        exact zreti hx hb hr rfl hlocks hS pf ⟨by rw [hs], by rw [hs]; exact hR⟩ rfl hP9 hD9 d_Rv_copyBytes_18
    · refine lv_iconst (v := 4) hx hb d_Rv_copyBytes_11 (by decide) ?_
      have hs : xCopy to fr n0 M = (4, M) := by unfold xCopy; rw [if_neg h1, if_neg h2]
      have hP9 := hP.sub (ws' := [(x, .inr (0, [.ref wa, .int wc, .ref ra, .ref ma, .ref ua, .ref oa, .int ph, .int dn, .int nx, .int fo])), (ma, .inr (1, [.int (nI md), .int (nI bt), .int (nI lo), .int (nI nl), .ref sa, .ref ta, .ref fa, .ref pa, .int (nI pe), .ref ba])), (sa, .inl (cI, rn, .inl (sf))), (ta, .inl (cI, rn, .inl (tf))), (pa, .inl (cB, pn, .inl (pf)))]) [0, 1, 2, 3, 4] rfl
      have hD9 := hD.sub (ws' := [(x, .inr (0, [.ref wa, .int wc, .ref ra, .ref ma, .ref ua, .ref oa, .int ph, .int dn, .int nx, .int fo])), (ma, .inr (1, [.int (nI md), .int (nI bt), .int (nI lo), .int (nI nl), .ref sa, .ref ta, .ref fa, .ref pa, .int (nI pe), .ref ba])), (sa, .inl (cI, rn, .inl (sf))), (ta, .inl (cI, rn, .inl (tf))), (pa, .inl (cB, pn, .inl (pf)))]) [0, 1, 2, 3, 4] rfl rfl
      exact zreti hx hb hr rfl hlocks hS pf ⟨by rw [hs], by rw [hs]; exact hR⟩ rfl hP9 hD9 d_Rv_copyBytes_12
end
section
/-! rings of bytes, and the services, in own words -/
def bR (cap : Nat) (L : List Int32) (fi he : Nat) (f : Nat → Int32) : Prop := fi < cap ∧ he = L.length ∧ he ≤ cap ∧ cap ≤ 4096 ∧ ∀ i, i < he → f ((fi + i) % cap) = L.getD i 0
def bAdd (cap : Nat) (L : List Int32) (b : Int32) : List Int32 := if L.length < cap then L ++ [(b : Int32).toInt8.toInt32] else L
def bRem (L : List Int32) : Int32 × List Int32 := match L with
  | [] => (-1, [])
  | x :: r => (x &&& 255, r)
theorem z_modne {a b cap : Nat} (h : a < cap) (i : Nat) (hi : i < b) (hb : b < cap) : ¬ (a + i) % cap = (a + b) % cap := by
  intro q
  have e1 : (a + i) % cap = if a + i < cap then a + i else a + i - cap := by
    by_cases c : a + i < cap
    · rw [if_pos c, Nat.mod_eq_of_lt c]
    · rw [if_neg c, Nat.mod_eq_sub_mod (by omega), Nat.mod_eq_of_lt (by omega)]
  have e2 : (a + b) % cap = if a + b < cap then a + b else a + b - cap := by
    by_cases c : a + b < cap
    · rw [if_pos c, Nat.mod_eq_of_lt c]
    · rw [if_neg c, Nat.mod_eq_sub_mod (by omega), Nat.mod_eq_of_lt (by omega)]
  rw [e1, e2] at q
  split at q <;> split at q <;> omega
theorem bR_add {cap : Nat} {L : List Int32} {fi he : Nat} {f : Nat → Int32} (h : bR cap L fi he f) (b : Int32) : bR cap (bAdd cap L b) fi (if he < cap then he + 1 else he) (if he < cap then upd f ((fi + he) % cap) ((b : Int32).toInt8.toInt32) else f) := by
  obtain ⟨h1, h2, h3, h4, h5⟩ := h
  unfold bAdd
  by_cases c : he < cap
  · rw [if_pos c, if_pos c, if_pos (by omega)]
    refine ⟨h1, by rw [List.length_append, h2]; rfl, by omega, h4, fun i hi => ?_⟩
    by_cases d : i = he
    · subst d
      rw [upd_self, h2, List.getD_eq_getElem?_getD, List.getElem?_append_right (Nat.le_refl _), Nat.sub_self]
      rfl
    · rw [upd_ne (z_modne h1 i (by omega) c), h5 i (by omega), List.getD_eq_getElem?_getD, List.getD_eq_getElem?_getD, List.getElem?_append_left (by omega)]
  · rw [if_neg c, if_neg c, if_neg (by omega)]
    exact ⟨h1, h2, h3, h4, h5⟩
theorem bR_rem {cap : Nat} {L : List Int32} {fi he : Nat} {f : Nat → Int32} (h : bR cap L fi he f) : (if he = 0 then -1 else f fi &&& 255) = (bRem L).1 ∧ bR cap (bRem L).2 (if he = 0 then fi else (fi + 1) % cap) (he - 1) f := by
  obtain ⟨h1, h2, h3, h4, h5⟩ := h
  cases L with
  | nil =>
    have h2 : he = 0 := h2
    subst h2
    exact ⟨rfl, h1, rfl, Nat.zero_le _, h4, fun i hi => absurd hi (Nat.not_lt_zero _)⟩
  | cons x r =>
    have h2 : he = r.length + 1 := h2
    rw [if_neg (by omega), if_neg (by omega)]
    have e0 := h5 0 (by omega)
    rw [Nat.add_zero, Nat.mod_eq_of_lt h1] at e0
    refine ⟨by rw [e0]; rfl, Nat.mod_lt _ (by omega), by show he - 1 = r.length; omega, by omega, h4, fun i hi => ?_⟩
    rw [Nat.mod_add_mod, Nat.add_assoc, Nat.add_comm 1 i]
    exact h5 (i + 1) (by omega)
def xMk (M : MM) (n : Int32) (gb : Bool) : Int32 := if (mMk M n gb).isSome = true then nI ((mMd M + 1) * 65536) else 0
/-- a service: what it comes to, registers, memory, input, output, phase -/
def xServe (rg : Nat → Int32) (M : MM) (I O : List Int32) (ph : Int32) : Int32 × (Nat → Int32) × MM × List Int32 × List Int32 × Int32 :=
  if rg 17 = 0 then (0, rg, M, I, O, 2)
  else if rg 17 = 1 then ((sp_Rv_answerAddress (xMk M (rg 10) false) rg).1, (sp_Rv_answerAddress (xMk M (rg 10) false) rg).2, (mMk M (rg 10) false).getD M, I, O, ph)
  else if rg 17 = 2 then (sp_Rv_doneIf (if (mDropL M (rg 10)).isSome = true then 1 else 0), rg, (mDropL M (rg 10)).getD M, I, O, ph)
  else if rg 17 = 3 then (0, upd rg 10 (xMk M (rg 10) true), (mMk M (rg 10) true).getD M, I, O, ph)
  else if rg 17 = 4 then (if rg 10 = 0 then (sp_Rv_doneIf 1, rg, M, I, O, ph) else if (if (mDropG M (rg 10)).isSome = true then (1 : Int32) else 0) = 0 then (sp_Rv_doneIf 0, rg, (mDropG M (rg 10)).getD M, I, O, ph) else (sp_Rv_doneIf 1, rg, (mDropG M (rg 10)).getD M, I, O, ph))
  else if rg 17 = 5 then (0, rg, M, I, bAdd 4096 O (rg 10), ph)
  else if rg 17 = 6 then (0, upd rg 10 (bRem I).1, M, (bRem I).2, O, ph)
  else if rg 17 = 7 then (if zushr (rg 10) 16 = zushr (rg 11) 16 then (sp_Rv_doneIf 1, rg, M, I, O, ph) else (sp_Rv_doneIf 0, rg, M, I, O, ph))
  else if rg 17 = 8 then ((xCopy (rg 10) (rg 11) (rg 12) M).1, rg, (xCopy (rg 10) (rg 11) (rg 12) M).2, I, O, ph)
  else (4, rg, M, I, O, ph)
theorem mLs_dropG {M : MM} (h : MI M) (a : Int32) : mLs ((mDropG M a).getD M) = mLs M := by
  unfold mDropG
  by_cases c : zN a % 65536 = 0 ∧ (mSz M (zN a / 65536)).isSome = true ∧ mGv M (zN a / 65536) = true
  · rw [if_pos c]
    show (mLs M).filter _ = _
    refine filter_out (fun hm => ?_)
    obtain ⟨y, -, hy⟩ := h.2.2.2.2.2.2.1 _ hm
    rw [c.2.2] at hy
    cases hy
  · rw [if_neg c]
    rfl
theorem mLs_copy (to fr n : Int32) (M : MM) : mLs (xCopy to fr n M).2 = mLs M := by
  unfold xCopy
  repeat' split
  all_goals rfl
theorem mLs_store (w : Int32) (rg : Nat → Int32) (M : MM) : mLs (xStore w rg M).2 = mLs M := by
  unfold xStore
  repeat' split
  all_goals rfl
/-! decode rows -/
theorem d_Rv_serve_0 : decode b_Rv_serve 0 = .ok (.aload_n 0, 1) := by decide +kernel
theorem d_Rv_serve_1 : decode b_Rv_serve 1 = .ok (.getfield 13, 3) := by decide +kernel
theorem d_Rv_serve_4 : decode b_Rv_serve 4 = .ok (.bipush 10, 2) := by decide +kernel
theorem d_Rv_serve_6 : decode b_Rv_serve 6 = .ok (.iaload, 1) := by decide +kernel
theorem d_Rv_serve_7 : decode b_Rv_serve 7 = .ok (.istore_n 1, 1) := by decide +kernel
theorem d_Rv_serve_8 : decode b_Rv_serve 8 = .ok (.aload_n 0, 1) := by decide +kernel
theorem d_Rv_serve_9 : decode b_Rv_serve 9 = .ok (.getfield 13, 3) := by decide +kernel
theorem d_Rv_serve_12 : decode b_Rv_serve 12 = .ok (.bipush 17, 2) := by decide +kernel
theorem d_Rv_serve_14 : decode b_Rv_serve 14 = .ok (.iaload, 1) := by decide +kernel
theorem d_Rv_serve_15 : decode b_Rv_serve 15 = .ok (.tableswitch 196 0 8 #[49, 56, 70, 82, 100, 124, 134, 150, 176], 49) := by decide +kernel
theorem d_Rv_serve_64 : decode b_Rv_serve 64 = .ok (.aload_n 0, 1) := by decide +kernel
theorem d_Rv_serve_65 : decode b_Rv_serve 65 = .ok (.iconst 2, 1) := by decide +kernel
theorem d_Rv_serve_66 : decode b_Rv_serve 66 = .ok (.putfield 35, 3) := by decide +kernel
theorem d_Rv_serve_69 : decode b_Rv_serve 69 = .ok (.iconst 0, 1) := by decide +kernel
theorem d_Rv_serve_70 : decode b_Rv_serve 70 = .ok (.ireturn, 1) := by decide +kernel
theorem d_Rv_serve_71 : decode b_Rv_serve 71 = .ok (.aload_n 0, 1) := by decide +kernel
theorem d_Rv_serve_72 : decode b_Rv_serve 72 = .ok (.aload_n 0, 1) := by decide +kernel
theorem d_Rv_serve_73 : decode b_Rv_serve 73 = .ok (.getfield 19, 3) := by decide +kernel
theorem d_Rv_serve_76 : decode b_Rv_serve 76 = .ok (.iload_n 1, 1) := by decide +kernel
theorem d_Rv_serve_77 : decode b_Rv_serve 77 = .ok (.iconst 0, 1) := by decide +kernel
theorem d_Rv_serve_78 : decode b_Rv_serve 78 = .ok (.invokevirtual 199, 3) := by decide +kernel
theorem d_Rv_serve_81 : decode b_Rv_serve 81 = .ok (.invokevirtual 203, 3) := by decide +kernel
theorem d_Rv_serve_84 : decode b_Rv_serve 84 = .ok (.ireturn, 1) := by decide +kernel
theorem d_Rv_serve_85 : decode b_Rv_serve 85 = .ok (.aload_n 0, 1) := by decide +kernel
theorem d_Rv_serve_86 : decode b_Rv_serve 86 = .ok (.getfield 19, 3) := by decide +kernel
theorem d_Rv_serve_89 : decode b_Rv_serve 89 = .ok (.iload_n 1, 1) := by decide +kernel
theorem d_Rv_serve_90 : decode b_Rv_serve 90 = .ok (.invokevirtual 206, 3) := by decide +kernel
theorem d_Rv_serve_93 : decode b_Rv_serve 93 = .ok (.invokestatic 210, 3) := by decide +kernel
theorem d_Rv_serve_96 : decode b_Rv_serve 96 = .ok (.ireturn, 1) := by decide +kernel
theorem d_Rv_serve_97 : decode b_Rv_serve 97 = .ok (.aload_n 0, 1) := by decide +kernel
theorem d_Rv_serve_98 : decode b_Rv_serve 98 = .ok (.getfield 13, 3) := by decide +kernel
theorem d_Rv_serve_101 : decode b_Rv_serve 101 = .ok (.bipush 10, 2) := by decide +kernel
theorem d_Rv_serve_103 : decode b_Rv_serve 103 = .ok (.aload_n 0, 1) := by decide +kernel
theorem d_Rv_serve_104 : decode b_Rv_serve 104 = .ok (.getfield 19, 3) := by decide +kernel
theorem d_Rv_serve_107 : decode b_Rv_serve 107 = .ok (.iload_n 1, 1) := by decide +kernel
theorem d_Rv_serve_108 : decode b_Rv_serve 108 = .ok (.iconst 1, 1) := by decide +kernel
theorem d_Rv_serve_109 : decode b_Rv_serve 109 = .ok (.invokevirtual 199, 3) := by decide +kernel
theorem d_Rv_serve_112 : decode b_Rv_serve 112 = .ok (.iastore, 1) := by decide +kernel
theorem d_Rv_serve_113 : decode b_Rv_serve 113 = .ok (.iconst 0, 1) := by decide +kernel
theorem d_Rv_serve_114 : decode b_Rv_serve 114 = .ok (.ireturn, 1) := by decide +kernel
theorem d_Rv_serve_115 : decode b_Rv_serve 115 = .ok (.iload_n 1, 1) := by decide +kernel
theorem d_Rv_serve_116 : decode b_Rv_serve 116 = .ok (.ifCond .eq 14, 3) := by decide +kernel
theorem d_Rv_serve_119 : decode b_Rv_serve 119 = .ok (.aload_n 0, 1) := by decide +kernel
theorem d_Rv_serve_120 : decode b_Rv_serve 120 = .ok (.getfield 19, 3) := by decide +kernel
theorem d_Rv_serve_123 : decode b_Rv_serve 123 = .ok (.iload_n 1, 1) := by decide +kernel
theorem d_Rv_serve_124 : decode b_Rv_serve 124 = .ok (.invokevirtual 214, 3) := by decide +kernel
theorem d_Rv_serve_127 : decode b_Rv_serve 127 = .ok (.ifCond .eq 7, 3) := by decide +kernel
theorem d_Rv_serve_130 : decode b_Rv_serve 130 = .ok (.iconst 1, 1) := by decide +kernel
theorem d_Rv_serve_131 : decode b_Rv_serve 131 = .ok (.goto 4, 3) := by decide +kernel
theorem d_Rv_serve_134 : decode b_Rv_serve 134 = .ok (.iconst 0, 1) := by decide +kernel
theorem d_Rv_serve_135 : decode b_Rv_serve 135 = .ok (.invokestatic 210, 3) := by decide +kernel
theorem d_Rv_serve_138 : decode b_Rv_serve 138 = .ok (.ireturn, 1) := by decide +kernel
theorem d_Rv_serve_139 : decode b_Rv_serve 139 = .ok (.aload_n 0, 1) := by decide +kernel
theorem d_Rv_serve_140 : decode b_Rv_serve 140 = .ok (.getfield 32, 3) := by decide +kernel
theorem d_Rv_serve_143 : decode b_Rv_serve 143 = .ok (.iload_n 1, 1) := by decide +kernel
theorem d_Rv_serve_144 : decode b_Rv_serve 144 = .ok (.invokevirtual 85, 3) := by decide +kernel
theorem d_Rv_serve_147 : decode b_Rv_serve 147 = .ok (.iconst 0, 1) := by decide +kernel
theorem d_Rv_serve_148 : decode b_Rv_serve 148 = .ok (.ireturn, 1) := by decide +kernel
theorem d_Rv_serve_149 : decode b_Rv_serve 149 = .ok (.aload_n 0, 1) := by decide +kernel
theorem d_Rv_serve_150 : decode b_Rv_serve 150 = .ok (.getfield 13, 3) := by decide +kernel
theorem d_Rv_serve_153 : decode b_Rv_serve 153 = .ok (.bipush 10, 2) := by decide +kernel
theorem d_Rv_serve_155 : decode b_Rv_serve 155 = .ok (.aload_n 0, 1) := by decide +kernel
theorem d_Rv_serve_156 : decode b_Rv_serve 156 = .ok (.getfield 28, 3) := by decide +kernel
theorem d_Rv_serve_159 : decode b_Rv_serve 159 = .ok (.invokevirtual 93, 3) := by decide +kernel
theorem d_Rv_serve_162 : decode b_Rv_serve 162 = .ok (.iastore, 1) := by decide +kernel
theorem d_Rv_serve_163 : decode b_Rv_serve 163 = .ok (.iconst 0, 1) := by decide +kernel
theorem d_Rv_serve_164 : decode b_Rv_serve 164 = .ok (.ireturn, 1) := by decide +kernel
theorem d_Rv_serve_165 : decode b_Rv_serve 165 = .ok (.iload_n 1, 1) := by decide +kernel
theorem d_Rv_serve_166 : decode b_Rv_serve 166 = .ok (.bipush 16, 2) := by decide +kernel
theorem d_Rv_serve_168 : decode b_Rv_serve 168 = .ok (.iushr, 1) := by decide +kernel
theorem d_Rv_serve_169 : decode b_Rv_serve 169 = .ok (.aload_n 0, 1) := by decide +kernel
theorem d_Rv_serve_170 : decode b_Rv_serve 170 = .ok (.getfield 13, 3) := by decide +kernel
theorem d_Rv_serve_173 : decode b_Rv_serve 173 = .ok (.bipush 11, 2) := by decide +kernel
theorem d_Rv_serve_175 : decode b_Rv_serve 175 = .ok (.iaload, 1) := by decide +kernel
theorem d_Rv_serve_176 : decode b_Rv_serve 176 = .ok (.bipush 16, 2) := by decide +kernel
theorem d_Rv_serve_178 : decode b_Rv_serve 178 = .ok (.iushr, 1) := by decide +kernel
theorem d_Rv_serve_179 : decode b_Rv_serve 179 = .ok (.if_icmp .ne 7, 3) := by decide +kernel
theorem d_Rv_serve_182 : decode b_Rv_serve 182 = .ok (.iconst 1, 1) := by decide +kernel
theorem d_Rv_serve_183 : decode b_Rv_serve 183 = .ok (.goto 4, 3) := by decide +kernel
theorem d_Rv_serve_186 : decode b_Rv_serve 186 = .ok (.iconst 0, 1) := by decide +kernel
theorem d_Rv_serve_187 : decode b_Rv_serve 187 = .ok (.invokestatic 210, 3) := by decide +kernel
theorem d_Rv_serve_190 : decode b_Rv_serve 190 = .ok (.ireturn, 1) := by decide +kernel
theorem d_Rv_serve_191 : decode b_Rv_serve 191 = .ok (.aload_n 0, 1) := by decide +kernel
theorem d_Rv_serve_192 : decode b_Rv_serve 192 = .ok (.iload_n 1, 1) := by decide +kernel
theorem d_Rv_serve_193 : decode b_Rv_serve 193 = .ok (.aload_n 0, 1) := by decide +kernel
theorem d_Rv_serve_194 : decode b_Rv_serve 194 = .ok (.getfield 13, 3) := by decide +kernel
theorem d_Rv_serve_197 : decode b_Rv_serve 197 = .ok (.bipush 11, 2) := by decide +kernel
theorem d_Rv_serve_199 : decode b_Rv_serve 199 = .ok (.iaload, 1) := by decide +kernel
theorem d_Rv_serve_200 : decode b_Rv_serve 200 = .ok (.aload_n 0, 1) := by decide +kernel
theorem d_Rv_serve_201 : decode b_Rv_serve 201 = .ok (.getfield 13, 3) := by decide +kernel
theorem d_Rv_serve_204 : decode b_Rv_serve 204 = .ok (.bipush 12, 2) := by decide +kernel
theorem d_Rv_serve_206 : decode b_Rv_serve 206 = .ok (.iaload, 1) := by decide +kernel
theorem d_Rv_serve_207 : decode b_Rv_serve 207 = .ok (.invokevirtual 217, 3) := by decide +kernel
theorem d_Rv_serve_210 : decode b_Rv_serve 210 = .ok (.ireturn, 1) := by decide +kernel
theorem d_Rv_serve_211 : decode b_Rv_serve 211 = .ok (.iconst 4, 1) := by decide +kernel
theorem d_Rv_serve_212 : decode b_Rv_serve 212 = .ok (.ireturn, 1) := by decide +kernel

set_option maxHeartbeats 4000000 in
theorem c_Rv_serve (l : Launch) (D : va_G) (cI cB cJ : ClassId) (sz : Nat) (x : Nat) (wa : Nat) (wc : Int32) (ra : Nat) (ma : Nat) (ua : Nat) (oa : Nat) (ph : Int32) (dn : Int32) (nx : Int32) (fo : Int32) (rg : Nat → Int32) (md : Nat) (bt : Nat) (lo : Nat) (nl : Nat) (sa : Nat) (ta : Nat) (fa : Nat) (pa : Nat) (pe : Nat) (ba : Nat) (rn : Nat) (sf : Nat → Int32) (tf : Nat → Int32) (uf : Nat → Int32) (pn : Nat) (pf : Nat → Int32) (ur : Nat) (ui : Nat) (uh : Nat) (uq : Nat → Int32) (orr : Nat) (oi : Nat) (oh : Nat) (oqf : Nat → Int32) (M : MM) (I : List Int32) (O : List Int32) (hR : cRep M md bt nl pe rn pn sf tf uf pf) (hlo : lo = (mLs M).length) (hr16 : 16 ≤ rn) (hI : bR 1000 I ui uh uq) (hO : bR 4096 O oi oh oqf) : zMet l y_Rv_serve (zWs y_Rv_serve b_Rv_serve 2 (some .int)) { frames := 5, cells := phP pn + 3 * phR rn, slots := 80000 * phP pn + 3 * (8001 * phR rn), locals := 147 } (zPc D (zT cI cB cJ) sz [(x, .inr (0, [.ref wa, .int wc, .ref ra, .ref ma, .ref ua, .ref oa, .int ph, .int dn, .int nx, .int fo])), (ra, .inl (cI, 32, .inl (rg))), (ma, .inr (1, [.int (nI md), .int (nI bt), .int (nI lo), .int (nI nl), .ref sa, .ref ta, .ref fa, .ref pa, .int (nI pe), .ref ba])), (sa, .inl (cI, rn, .inl (sf))), (ta, .inl (cI, rn, .inl (tf))), (fa, .inl (cI, rn, .inl (uf))), (pa, .inl (cB, pn, .inl (pf))), (ba, .inl (cB, 4000, .inl (fun _ => 0))), (ua, .inr (2, [.ref ur, .int (nI ui), .int (nI uh)])), (ur, .inl (cB, 1000, .inl (uq))), (oa, .inr (2, [.ref orr, .int (nI oi), .int (nI oh)])), (orr, .inl (cB, 4096, .inl (oqf)))] [.ref x]) (zQi D (va_A [(x, .inr (0, [.ref wa, .int wc, .ref ra, .ref ma, .ref ua, .ref oa, .int ph, .int dn, .int nx, .int fo])), (ra, .inl (cI, 32, .inl (rg))), (ma, .inr (1, [.int (nI md), .int (nI bt), .int (nI lo), .int (nI nl), .ref sa, .ref ta, .ref fa, .ref pa, .int (nI pe), .ref ba])), (sa, .inl (cI, rn, .inl (sf))), (ta, .inl (cI, rn, .inl (tf))), (fa, .inl (cI, rn, .inl (uf))), (pa, .inl (cB, pn, .inl (pf))), (ba, .inl (cB, 4000, .inl (fun _ => 0))), (ua, .inr (2, [.ref ur, .int (nI ui), .int (nI uh)])), (ur, .inl (cB, 1000, .inl (uq))), (oa, .inr (2, [.ref orr, .int (nI oi), .int (nI oh)])), (orr, .inl (cB, 4096, .inl (oqf)))] sz) (fun r (U : (CM × (Nat × Nat × (Nat → Int32)) × (Nat × Nat × (Nat → Int32)) × (Nat × Nat))) => r = (xServe rg M I O ph).1 ∧ cR (xServe rg M I O ph).2.2.1 U.1 ∧ bR 1000 (xServe rg M I O ph).2.2.2.1 U.2.1.1 U.2.1.2.1 U.2.1.2.2 ∧ bR 4096 (xServe rg M I O ph).2.2.2.2.1 U.2.2.1.1 U.2.2.1.2.1 U.2.2.1.2.2 ∧ U.2.2.2.1 + fuC U.1 ≤ phP pn + 3 * phR rn ∧ U.2.2.2.2 + fuS U.1 ≤ 80000 * phP pn + 3 * (8001 * phR rn)) (fun U => U.2.2.2) (fun (U : (CM × (Nat × Nat × (Nat → Int32)) × (Nat × Nat × (Nat → Int32)) × (Nat × Nat))) => [(x, .inr (0, [.ref wa, .int wc, .ref ra, .ref ma, .ref ua, .ref oa, .int (xServe rg M I O ph).2.2.2.2.2, .int dn, .int nx, .int fo])), (ra, .inl (cI, 32, .inl ((xServe rg M I O ph).2.1))), (ma, .inr (1, [.int (nI (cMd U.1)), .int (nI (cBt U.1)), .int (nI (cLo U.1)), .int (nI (cNl U.1)), .ref (cSa U.1), .ref (cTa U.1), .ref (cFa U.1), .ref (cPa U.1), .int (nI (cPe U.1)), .ref ba])), ((cSa U.1), .inl (cI, (cRn U.1), .inl (cSf U.1))), ((cTa U.1), .inl (cI, (cRn U.1), .inl (cTf U.1))), ((cFa U.1), .inl (cI, (cRn U.1), .inl (cUf U.1))), ((cPa U.1), .inl (cB, (cPn U.1), .inl (cPf U.1))), (ba, .inl (cB, 4000, .inl (fun _ => 0))), (ua, .inr (2, [.ref ur, .int (nI U.2.1.1), .int (nI U.2.1.2.1)])), (ur, .inl (cB, 1000, .inl (U.2.1.2.2))), (oa, .inr (2, [.ref orr, .int (nI U.2.2.1.1), .int (nI U.2.2.1.2.1)])), (orr, .inl (cB, 4096, .inl (U.2.2.1.2.2)))])) (va_A [(x, .inr (0, [.ref wa, .int wc, .ref ra, .ref ma, .ref ua, .ref oa, .int ph, .int dn, .int nx, .int fo])), (ra, .inl (cI, 32, .inl (rg))), (ma, .inr (1, [.int (nI md), .int (nI bt), .int (nI lo), .int (nI nl), .ref sa, .ref ta, .ref fa, .ref pa, .int (nI pe), .ref ba])), (sa, .inl (cI, rn, .inl (sf))), (ta, .inl (cI, rn, .inl (tf))), (fa, .inl (cI, rn, .inl (uf))), (pa, .inl (cB, pn, .inl (pf))), (ba, .inl (cB, 4000, .inl (fun _ => 0))), (ua, .inr (2, [.ref ur, .int (nI ui), .int (nI uh)])), (ur, .inl (cB, 1000, .inl (uq))), (oa, .inr (2, [.ref orr, .int (nI oi), .int (nI oh)])), (orr, .inl (cB, 4096, .inl (oqf)))] sz) := by
  refine zstart (Qc := fun A => zQi D A (fun r (U : (CM × (Nat × Nat × (Nat → Int32)) × (Nat × Nat × (Nat → Int32)) × (Nat × Nat))) => r = (xServe rg M I O ph).1 ∧ cR (xServe rg M I O ph).2.2.1 U.1 ∧ bR 1000 (xServe rg M I O ph).2.2.2.1 U.2.1.1 U.2.1.2.1 U.2.1.2.2 ∧ bR 4096 (xServe rg M I O ph).2.2.2.2.1 U.2.2.1.1 U.2.2.1.2.1 U.2.2.1.2.2 ∧ U.2.2.2.1 + fuC U.1 ≤ phP pn + 3 * phR rn ∧ U.2.2.2.2 + fuS U.1 ≤ 80000 * phP pn + 3 * (8001 * phR rn)) (fun U => U.2.2.2) (fun (U : (CM × (Nat × Nat × (Nat → Int32)) × (Nat × Nat × (Nat → Int32)) × (Nat × Nat))) => [(x, .inr (0, [.ref wa, .int wc, .ref ra, .ref ma, .ref ua, .ref oa, .int (xServe rg M I O ph).2.2.2.2.2, .int dn, .int nx, .int fo])), (ra, .inl (cI, 32, .inl ((xServe rg M I O ph).2.1))), (ma, .inr (1, [.int (nI (cMd U.1)), .int (nI (cBt U.1)), .int (nI (cLo U.1)), .int (nI (cNl U.1)), .ref (cSa U.1), .ref (cTa U.1), .ref (cFa U.1), .ref (cPa U.1), .int (nI (cPe U.1)), .ref ba])), ((cSa U.1), .inl (cI, (cRn U.1), .inl (cSf U.1))), ((cTa U.1), .inl (cI, (cRn U.1), .inl (cTf U.1))), ((cFa U.1), .inl (cI, (cRn U.1), .inl (cUf U.1))), ((cPa U.1), .inl (cB, (cPn U.1), .inl (cPf U.1))), (ba, .inl (cB, 4000, .inl (fun _ => 0))), (ua, .inr (2, [.ref ur, .int (nI U.2.1.1), .int (nI U.2.1.2.1)])), (ur, .inl (cB, 1000, .inl (U.2.1.2.2))), (oa, .inr (2, [.ref orr, .int (nI U.2.2.1.1), .int (nI U.2.2.1.2.1)])), (orr, .inl (cB, 4096, .inl (U.2.2.1.2.2)))])) (by decide) (Nat.le_of_ble_eq_true rfl) ?_
  intro p e s m below meth c ls A hE hr hlocks hin hsz hK hP hD hS hA hAe hl
  have hx := hE.1
  have hb := hE.2.1
  have hown := hE.2.2.2.1
  have hw := hE.2.2.2.2
  have hl : lv_has ls 2 [(0, .ref x)] := hl
  have hmd0 := hR.2.1
  have hMI := hR.1
  refine lv_aload_n hx hb d_Rv_serve_0 rfl (lv_at hl 0 rfl) ?_
  refine zget hE hK hP 0 rfl fd_Rv_13 rfl d_Rv_serve_1 ?_
  refine lv_bipush (v := 10) hx hb d_Rv_serve_4 (by decide) ?_
  refine va_iald hx hb hK hP 1 0 rfl rfl (by unfold vp_in; decide) d_Rv_serve_6 ?_
  refine z_st (st' := [.int (rg 10)]) rfl ?_
  refine lv_istore_n (lv' := [(1, .int (rg 10)), (0, .ref x)]) hx hb d_Rv_serve_7 rfl hl (by decide) rfl (fun ls hl => ?_)
  refine lv_aload_n hx hb d_Rv_serve_8 rfl (lv_at hl 1 rfl) ?_
  refine zget hE hK hP 0 rfl fd_Rv_13 rfl d_Rv_serve_9 ?_
  refine lv_bipush (v := 17) hx hb d_Rv_serve_12 (by decide) ?_
  refine va_iald hx hb hK hP 1 0 rfl rfl (by unfold vp_in; decide) d_Rv_serve_14 ?_
  refine z_st (st' := [.int (rg 17)]) rfl ?_
  rcases Decidable.em ((rg 17) = 0) with h1 | h1
  · refine lv_tableIn (tgt := 64) hx hb d_Rv_serve_15 (by rw [h1]; decide) (by rw [h1]; decide) (by rw [h1]; rfl) (by decide) ?_
    refine lv_aload_n hx hb d_Rv_serve_64 rfl (lv_at hl 1 rfl) ?_
    refine lv_iconst (v := 2) hx hb d_Rv_serve_65 (by decide) ?_
    refine zput (v := .int 2) hE hK hP hD hS 0 rfl fd_Rv_35 ft_Rv_6 rfl rfl (Nat.le_of_ble_eq_true rfl) d_Rv_serve_66 (fun H locs hP hD hS => ?_)
    have hP : va_P D zC [(x, .inr (0, [.ref wa, .int wc, .ref ra, .ref ma, .ref ua, .ref oa, .int 2, .int dn, .int nx, .int fo])), (ra, .inl (cI, 32, .inl (rg))), (ma, .inr (1, [.int (nI md), .int (nI bt), .int (nI lo), .int (nI nl), .ref sa, .ref ta, .ref fa, .ref pa, .int (nI pe), .ref ba])), (sa, .inl (cI, rn, .inl (sf))), (ta, .inl (cI, rn, .inl (tf))), (fa, .inl (cI, rn, .inl (uf))), (pa, .inl (cB, pn, .inl (pf))), (ba, .inl (cB, 4000, .inl (fun _ => 0))), (ua, .inr (2, [.ref ur, .int (nI ui), .int (nI uh)])), (ur, .inl (cB, 1000, .inl (uq))), (oa, .inr (2, [.ref orr, .int (nI oi), .int (nI oh)])), (orr, .inl (cB, 4096, .inl (oqf)))] _ := hP
    have hD : va_D A [(x, .inr (0, [.ref wa, .int wc, .ref ra, .ref ma, .ref ua, .ref oa, .int 2, .int dn, .int nx, .int fo])), (ra, .inl (cI, 32, .inl (rg))), (ma, .inr (1, [.int (nI md), .int (nI bt), .int (nI lo), .int (nI nl), .ref sa, .ref ta, .ref fa, .ref pa, .int (nI pe), .ref ba])), (sa, .inl (cI, rn, .inl (sf))), (ta, .inl (cI, rn, .inl (tf))), (fa, .inl (cI, rn, .inl (uf))), (pa, .inl (cB, pn, .inl (pf))), (ba, .inl (cB, 4000, .inl (fun _ => 0))), (ua, .inr (2, [.ref ur, .int (nI ui), .int (nI uh)])), (ur, .inl (cB, 1000, .inl (uq))), (oa, .inr (2, [.ref orr, .int (nI oi), .int (nI oh)])), (orr, .inl (cB, 4096, .inl (oqf)))] := hD
    refine lv_iconst (v := 0) hx hb d_Rv_serve_69 (by decide) ?_
    have hs : xServe rg M I O ph = (0, rg, M, I, O, 2) := by unfold xServe; rw [if_pos h1]
    have hP9 := hP.sub (ws' := [(x, .inr (0, [.ref wa, .int wc, .ref ra, .ref ma, .ref ua, .ref oa, .int 2, .int dn, .int nx, .int fo])), (ra, .inl (cI, 32, .inl (rg))), (ma, .inr (1, [.int (nI md), .int (nI bt), .int (nI lo), .int (nI nl), .ref sa, .ref ta, .ref fa, .ref pa, .int (nI pe), .ref ba])), (sa, .inl (cI, rn, .inl (sf))), (ta, .inl (cI, rn, .inl (tf))), (fa, .inl (cI, rn, .inl (uf))), (pa, .inl (cB, pn, .inl (pf))), (ba, .inl (cB, 4000, .inl (fun _ => 0))), (ua, .inr (2, [.ref ur, .int (nI ui), .int (nI uh)])), (ur, .inl (cB, 1000, .inl (uq))), (oa, .inr (2, [.ref orr, .int (nI oi), .int (nI oh)])), (orr, .inl (cB, 4096, .inl (oqf)))]) [0, 1, 2, 3, 4, 5, 6, 7, 8, 9, 10, 11] rfl
    have hD9 := hD.sub (ws' := [(x, .inr (0, [.ref wa, .int wc, .ref ra, .ref ma, .ref ua, .ref oa, .int 2, .int dn, .int nx, .int fo])), (ra, .inl (cI, 32, .inl (rg))), (ma, .inr (1, [.int (nI md), .int (nI bt), .int (nI lo), .int (nI nl), .ref sa, .ref ta, .ref fa, .ref pa, .int (nI pe), .ref ba])), (sa, .inl (cI, rn, .inl (sf))), (ta, .inl (cI, rn, .inl (tf))), (fa, .inl (cI, rn, .inl (uf))), (pa, .inl (cB, pn, .inl (pf))), (ba, .inl (cB, 4000, .inl (fun _ => 0))), (ua, .inr (2, [.ref ur, .int (nI ui), .int (nI uh)])), (ur, .inl (cB, 1000, .inl (uq))), (oa, .inr (2, [.ref orr, .int (nI oi), .int (nI oh)])), (orr, .inl (cB, 4096, .inl (oqf)))]) [0, 1, 2, 3, 4, 5, 6, 7, 8, 9, 10, 11] rfl rfl
    exact zreti hx hb hr rfl hlocks hS (((md, bt, lo, nl, pe), (rn, pn), (sa, ta, fa, pa), (sf, tf, uf, pf)), (ui, uh, uq), (oi, oh, oqf), (0, 0)) ⟨by rw [hs], by rw [hs]; exact ⟨hR, hlo, hr16⟩, by rw [hs]; exact hI, by rw [hs]; exact hO, Nat.le_of_eq (Nat.zero_add _), Nat.le_of_eq (Nat.zero_add _)⟩ rfl (by rw [hs]; exact hP9) (by rw [hs]; exact hD9) d_Rv_serve_70
  · rcases Decidable.em ((rg 17) = 1) with h2 | h2
    · refine lv_tableIn (tgt := 71) hx hb d_Rv_serve_15 (by rw [h2]; decide) (by rw [h2]; decide) (by rw [h2]; rfl) (by decide) ?_
      refine lv_aload_n hx hb d_Rv_serve_71 rfl (lv_at hl 1 rfl) ?_
      refine lv_aload_n hx hb d_Rv_serve_72 rfl (lv_at hl 1 rfl) ?_
      refine zget hE hK hP 0 rfl fd_Rv_19 rfl d_Rv_serve_73 ?_
      refine lv_iload_n hx hb d_Rv_serve_76 rfl (lv_at hl 0 rfl) ?_
      refine lv_iconst (v := 0) hx hb d_Rv_serve_77 (by decide) ?_
      refine zgoi (wr := [(x, .inr (0, [.ref wa, .int wc, .ref ra, .ref ma, .ref ua, .ref oa, .int ph, .int dn, .int nx, .int fo])), (ra, .inl (cI, 32, .inl (rg))), (ua, .inr (2, [.ref ur, .int (nI ui), .int (nI uh)])), (ur, .inl (cB, 1000, .inl (uq))), (oa, .inr (2, [.ref orr, .int (nI oi), .int (nI oh)])), (orr, .inl (cB, 4096, .inl (oqf)))]) (zrunV (n := 2) (As := [.int (rg 10), .int 0]) (rest := [.ref x]) hE (c_Me_make l D cI cB cJ _ (rg 10) 0 ma md bt lo nl sa ta fa pa pe ba rn sf tf uf pn pf M false hR hlo hr16 rfl) cb_Me_make lk_Rv_199 in_Me_make se_Me_make (zpreV (q0 := 2) hK hP hD rfl rfl rfl [2, 3, 4, 5, 6, 7] rfl rfl rfl) ⟨Nat.le_of_ble_eq_true rfl, Nat.le_of_ble_eq_true rfl, by show 0 + (phP pn + 3 * phR rn) ≤ phP pn + 3 * phR rn; omega, by show 0 + (80000 * phP pn + 3 * (8001 * phR rn)) ≤ 80000 * phP pn + 3 * (8001 * phR rn); omega⟩ rfl hl.1 rfl (Nat.le_of_ble_eq_true rfl) d_Rv_serve_78) hP hD hS hA [2, 3, 4, 5, 6, 7] [0, 1, 8, 9, 10, 11] rfl rfl rfl (by decide) (fun r4 u5 H locs hq3 hP hD hS => ?_)
      obtain ⟨rfl, hR, hfc, hfs⟩ := hq3
      have hP : va_P D zC [(x, .inr (0, [.ref wa, .int wc, .ref ra, .ref ma, .ref ua, .ref oa, .int ph, .int dn, .int nx, .int fo])), (ra, .inl (cI, 32, .inl (rg))), (ua, .inr (2, [.ref ur, .int (nI ui), .int (nI uh)])), (ur, .inl (cB, 1000, .inl (uq))), (oa, .inr (2, [.ref orr, .int (nI oi), .int (nI oh)])), (orr, .inl (cB, 4096, .inl (oqf))), (ma, .inr (1, [.int (nI (cMd u5.1)), .int (nI (cBt u5.1)), .int (nI (cLo u5.1)), .int (nI (cNl u5.1)), .ref (cSa u5.1), .ref (cTa u5.1), .ref (cFa u5.1), .ref (cPa u5.1), .int (nI (cPe u5.1)), .ref ba])), ((cSa u5.1), .inl (cI, (cRn u5.1), .inl (cSf u5.1))), ((cTa u5.1), .inl (cI, (cRn u5.1), .inl (cTf u5.1))), ((cFa u5.1), .inl (cI, (cRn u5.1), .inl (cUf u5.1))), ((cPa u5.1), .inl (cB, (cPn u5.1), .inl (cPf u5.1))), (ba, .inl (cB, 4000, .inl (fun _ => 0)))] _ := hP
      have hD : va_D A [(x, .inr (0, [.ref wa, .int wc, .ref ra, .ref ma, .ref ua, .ref oa, .int ph, .int dn, .int nx, .int fo])), (ra, .inl (cI, 32, .inl (rg))), (ua, .inr (2, [.ref ur, .int (nI ui), .int (nI uh)])), (ur, .inl (cB, 1000, .inl (uq))), (oa, .inr (2, [.ref orr, .int (nI oi), .int (nI oh)])), (orr, .inl (cB, 4096, .inl (oqf))), (ma, .inr (1, [.int (nI (cMd u5.1)), .int (nI (cBt u5.1)), .int (nI (cLo u5.1)), .int (nI (cNl u5.1)), .ref (cSa u5.1), .ref (cTa u5.1), .ref (cFa u5.1), .ref (cPa u5.1), .int (nI (cPe u5.1)), .ref ba])), ((cSa u5.1), .inl (cI, (cRn u5.1), .inl (cSf u5.1))), ((cTa u5.1), .inl (cI, (cRn u5.1), .inl (cTf u5.1))), ((cFa u5.1), .inl (cI, (cRn u5.1), .inl (cUf u5.1))), ((cPa u5.1), .inl (cB, (cPn u5.1), .inl (cPf u5.1))), (ba, .inl (cB, 4000, .inl (fun _ => 0)))] := hD
      refine z_st (st' := [.int (xMk M (rg 10) false), .ref x]) (by rw [show (((if (mMk M (rg 10) false).isSome = true then nI ((md + 1) * 65536) else 0)) : Int32) = xMk M (rg 10) false from by unfold xMk; rw [hmd0]]) ?_
      refine zgoi (wr := [(ua, .inr (2, [.ref ur, .int (nI ui), .int (nI uh)])), (ur, .inl (cB, 1000, .inl (uq))), (oa, .inr (2, [.ref orr, .int (nI oi), .int (nI oh)])), (orr, .inl (cB, 4096, .inl (oqf))), (ma, .inr (1, [.int (nI (cMd u5.1)), .int (nI (cBt u5.1)), .int (nI (cLo u5.1)), .int (nI (cNl u5.1)), .ref (cSa u5.1), .ref (cTa u5.1), .ref (cFa u5.1), .ref (cPa u5.1), .int (nI (cPe u5.1)), .ref ba])), ((cSa u5.1), .inl (cI, (cRn u5.1), .inl (cSf u5.1))), ((cTa u5.1), .inl (cI, (cRn u5.1), .inl (cTf u5.1))), ((cFa u5.1), .inl (cI, (cRn u5.1), .inl (cUf u5.1))), ((cPa u5.1), .inl (cB, (cPn u5.1), .inl (cPf u5.1))), (ba, .inl (cB, 4000, .inl (fun _ => 0)))]) (zrunV (n := 1) (As := [.int (xMk M (rg 10) false)]) (rest := []) hE (c_Rv_answerAddress l D cI cB cJ _ (xMk M (rg 10) false) x wa wc ra ma ua oa ph dn nx fo rg) cb_Rv_answerAddress lk_Rv_203 in_Rv_answerAddress se_Rv_answerAddress (zpreV (q0 := 0) hK hP hD rfl rfl rfl [0, 1] rfl rfl rfl) ⟨Nat.le_of_ble_eq_true rfl, Nat.le_of_ble_eq_true rfl, by have e := hfc; show 0 + u5.2.1 + 0 ≤ phP pn + 3 * phR rn; omega, by have e := hfs; show 0 + u5.2.2 + 0 ≤ 80000 * phP pn + 3 * (8001 * phR rn); omega⟩ rfl hl.1 rfl (Nat.le_of_ble_eq_true rfl) d_Rv_serve_81) hP hD hS hA [0, 1] [2, 3, 4, 5, 6, 7, 8, 9, 10, 11] rfl rfl rfl (by decide) (fun r7 u8 H locs hq6 hP hD hS => ?_)
      subst hq6
      have hP : va_P D zC [(ua, .inr (2, [.ref ur, .int (nI ui), .int (nI uh)])), (ur, .inl (cB, 1000, .inl (uq))), (oa, .inr (2, [.ref orr, .int (nI oi), .int (nI oh)])), (orr, .inl (cB, 4096, .inl (oqf))), (ma, .inr (1, [.int (nI (cMd u5.1)), .int (nI (cBt u5.1)), .int (nI (cLo u5.1)), .int (nI (cNl u5.1)), .ref (cSa u5.1), .ref (cTa u5.1), .ref (cFa u5.1), .ref (cPa u5.1), .int (nI (cPe u5.1)), .ref ba])), ((cSa u5.1), .inl (cI, (cRn u5.1), .inl (cSf u5.1))), ((cTa u5.1), .inl (cI, (cRn u5.1), .inl (cTf u5.1))), ((cFa u5.1), .inl (cI, (cRn u5.1), .inl (cUf u5.1))), ((cPa u5.1), .inl (cB, (cPn u5.1), .inl (cPf u5.1))), (ba, .inl (cB, 4000, .inl (fun _ => 0))), (x, .inr (0, [.ref wa, .int wc, .ref ra, .ref ma, .ref ua, .ref oa, .int ph, .int dn, .int nx, .int fo])), (ra, .inl (cI, 32, .inl ((sp_Rv_answerAddress (xMk M (rg 10) false) rg).2)))] _ := hP
      have hD : va_D A [(ua, .inr (2, [.ref ur, .int (nI ui), .int (nI uh)])), (ur, .inl (cB, 1000, .inl (uq))), (oa, .inr (2, [.ref orr, .int (nI oi), .int (nI oh)])), (orr, .inl (cB, 4096, .inl (oqf))), (ma, .inr (1, [.int (nI (cMd u5.1)), .int (nI (cBt u5.1)), .int (nI (cLo u5.1)), .int (nI (cNl u5.1)), .ref (cSa u5.1), .ref (cTa u5.1), .ref (cFa u5.1), .ref (cPa u5.1), .int (nI (cPe u5.1)), .ref ba])), ((cSa u5.1), .inl (cI, (cRn u5.1), .inl (cSf u5.1))), ((cTa u5.1), .inl (cI, (cRn u5.1), .inl (cTf u5.1))), ((cFa u5.1), .inl (cI, (cRn u5.1), .inl (cUf u5.1))), ((cPa u5.1), .inl (cB, (cPn u5.1), .inl (cPf u5.1))), (ba, .inl (cB, 4000, .inl (fun _ => 0))), (x, .inr (0, [.ref wa, .int wc, .ref ra, .ref ma, .ref ua, .ref oa, .int ph, .int dn, .int nx, .int fo])), (ra, .inl (cI, 32, .inl ((sp_Rv_answerAddress (xMk M (rg 10) false) rg).2)))] := hD
      have hs : xServe rg M I O ph = ((sp_Rv_answerAddress (xMk M (rg 10) false) rg).1, (sp_Rv_answerAddress (xMk M (rg 10) false) rg).2, (mMk M (rg 10) false).getD M, I, O, ph) := by unfold xServe; rw [if_neg h1, if_pos h2]
      have hP9 := hP.sub (ws' := [(x, .inr (0, [.ref wa, .int wc, .ref ra, .ref ma, .ref ua, .ref oa, .int ph, .int dn, .int nx, .int fo])), (ra, .inl (cI, 32, .inl ((sp_Rv_answerAddress (xMk M (rg 10) false) rg).2))), (ma, .inr (1, [.int (nI (cMd u5.1)), .int (nI (cBt u5.1)), .int (nI (cLo u5.1)), .int (nI (cNl u5.1)), .ref (cSa u5.1), .ref (cTa u5.1), .ref (cFa u5.1), .ref (cPa u5.1), .int (nI (cPe u5.1)), .ref ba])), ((cSa u5.1), .inl (cI, (cRn u5.1), .inl (cSf u5.1))), ((cTa u5.1), .inl (cI, (cRn u5.1), .inl (cTf u5.1))), ((cFa u5.1), .inl (cI, (cRn u5.1), .inl (cUf u5.1))), ((cPa u5.1), .inl (cB, (cPn u5.1), .inl (cPf u5.1))), (ba, .inl (cB, 4000, .inl (fun _ => 0))), (ua, .inr (2, [.ref ur, .int (nI ui), .int (nI uh)])), (ur, .inl (cB, 1000, .inl (uq))), (oa, .inr (2, [.ref orr, .int (nI oi), .int (nI oh)])), (orr, .inl (cB, 4096, .inl (oqf)))]) [10, 11, 4, 5, 6, 7, 8, 9, 0, 1, 2, 3] rfl
      have hD9 := hD.sub (ws' := [(x, .inr (0, [.ref wa, .int wc, .ref ra, .ref ma, .ref ua, .ref oa, .int ph, .int dn, .int nx, .int fo])), (ra, .inl (cI, 32, .inl ((sp_Rv_answerAddress (xMk M (rg 10) false) rg).2))), (ma, .inr (1, [.int (nI (cMd u5.1)), .int (nI (cBt u5.1)), .int (nI (cLo u5.1)), .int (nI (cNl u5.1)), .ref (cSa u5.1), .ref (cTa u5.1), .ref (cFa u5.1), .ref (cPa u5.1), .int (nI (cPe u5.1)), .ref ba])), ((cSa u5.1), .inl (cI, (cRn u5.1), .inl (cSf u5.1))), ((cTa u5.1), .inl (cI, (cRn u5.1), .inl (cTf u5.1))), ((cFa u5.1), .inl (cI, (cRn u5.1), .inl (cUf u5.1))), ((cPa u5.1), .inl (cB, (cPn u5.1), .inl (cPf u5.1))), (ba, .inl (cB, 4000, .inl (fun _ => 0))), (ua, .inr (2, [.ref ur, .int (nI ui), .int (nI uh)])), (ur, .inl (cB, 1000, .inl (uq))), (oa, .inr (2, [.ref orr, .int (nI oi), .int (nI oh)])), (orr, .inl (cB, 4096, .inl (oqf)))]) [10, 11, 4, 5, 6, 7, 8, 9, 0, 1, 2, 3] rfl rfl
      exact zreti hx hb hr rfl hlocks hS ((((cMd u5.1), (cBt u5.1), (cLo u5.1), (cNl u5.1), (cPe u5.1)), ((cRn u5.1), (cPn u5.1)), ((cSa u5.1), (cTa u5.1), (cFa u5.1), (cPa u5.1)), (cSf u5.1, cTf u5.1, cUf u5.1, cPf u5.1)), (ui, uh, uq), (oi, oh, oqf), (u5.2.1, u5.2.2)) ⟨by rw [hs], by rw [hs]; exact hR, by rw [hs]; exact hI, by rw [hs]; exact hO, hfc, hfs⟩ (Prod.ext (Nat.zero_add _).symm (Nat.zero_add _).symm) (by rw [hs]; exact hP9) (by rw [hs]; exact hD9) d_Rv_serve_84
    · rcases Decidable.em ((rg 17) = 2) with h9 | h9
      · refine lv_tableIn (tgt := 85) hx hb d_Rv_serve_15 (by rw [h9]; decide) (by rw [h9]; decide) (by rw [h9]; rfl) (by decide) ?_
        refine lv_aload_n hx hb d_Rv_serve_85 rfl (lv_at hl 1 rfl) ?_
        refine zget hE hK hP 0 rfl fd_Rv_19 rfl d_Rv_serve_86 ?_
        refine lv_iload_n hx hb d_Rv_serve_89 rfl (lv_at hl 0 rfl) ?_
        refine zgoi (wr := [(x, .inr (0, [.ref wa, .int wc, .ref ra, .ref ma, .ref ua, .ref oa, .int ph, .int dn, .int nx, .int fo])), (ra, .inl (cI, 32, .inl (rg))), (pa, .inl (cB, pn, .inl (pf))), (ba, .inl (cB, 4000, .inl (fun _ => 0))), (ua, .inr (2, [.ref ur, .int (nI ui), .int (nI uh)])), (ur, .inl (cB, 1000, .inl (uq))), (oa, .inr (2, [.ref orr, .int (nI oi), .int (nI oh)])), (orr, .inl (cB, 4096, .inl (oqf)))]) (zrunV (n := 1) (As := [.int (rg 10)]) (rest := []) hE (c_Me_dropLast l D cI cB cJ _ (rg 10) ma md bt lo nl sa ta fa pa pe ba rn sf tf uf M pn pf hR hlo) cb_Me_dropLast lk_Rv_206 in_Me_dropLast se_Me_dropLast (zpreV (q0 := 2) hK hP hD rfl rfl rfl [2, 3, 4, 5] rfl rfl rfl) ⟨Nat.le_of_ble_eq_true rfl, Nat.le_of_ble_eq_true rfl, Nat.zero_le _, Nat.zero_le _⟩ rfl hl.1 rfl (Nat.le_of_ble_eq_true rfl) d_Rv_serve_90) hP hD hS hA [2, 3, 4, 5] [0, 1, 6, 7, 8, 9, 10, 11] rfl rfl rfl (by decide) (fun r11 u12 H locs hq10 hP hD hS => ?_)
        obtain ⟨rfl, hR, hlo⟩ := hq10
        have hP : va_P D zC [(x, .inr (0, [.ref wa, .int wc, .ref ra, .ref ma, .ref ua, .ref oa, .int ph, .int dn, .int nx, .int fo])), (ra, .inl (cI, 32, .inl (rg))), (pa, .inl (cB, pn, .inl (pf))), (ba, .inl (cB, 4000, .inl (fun _ => 0))), (ua, .inr (2, [.ref ur, .int (nI ui), .int (nI uh)])), (ur, .inl (cB, 1000, .inl (uq))), (oa, .inr (2, [.ref orr, .int (nI oi), .int (nI oh)])), (orr, .inl (cB, 4096, .inl (oqf))), (ma, .inr (1, [.int (nI md), .int (nI u12.1), .int (nI u12.2.2.2.1), .int (nI u12.2.1), .ref sa, .ref ta, .ref fa, .ref pa, .int (nI u12.2.2.1), .ref ba])), (sa, .inl (cI, rn, .inl (u12.2.2.2.2))), (ta, .inl (cI, rn, .inl (tf))), (fa, .inl (cI, rn, .inl (uf)))] _ := hP
        have hD : va_D A [(x, .inr (0, [.ref wa, .int wc, .ref ra, .ref ma, .ref ua, .ref oa, .int ph, .int dn, .int nx, .int fo])), (ra, .inl (cI, 32, .inl (rg))), (pa, .inl (cB, pn, .inl (pf))), (ba, .inl (cB, 4000, .inl (fun _ => 0))), (ua, .inr (2, [.ref ur, .int (nI ui), .int (nI uh)])), (ur, .inl (cB, 1000, .inl (uq))), (oa, .inr (2, [.ref orr, .int (nI oi), .int (nI oh)])), (orr, .inl (cB, 4096, .inl (oqf))), (ma, .inr (1, [.int (nI md), .int (nI u12.1), .int (nI u12.2.2.2.1), .int (nI u12.2.1), .ref sa, .ref ta, .ref fa, .ref pa, .int (nI u12.2.2.1), .ref ba])), (sa, .inl (cI, rn, .inl (u12.2.2.2.2))), (ta, .inl (cI, rn, .inl (tf))), (fa, .inl (cI, rn, .inl (uf)))] := hD
        refine zgoi (wr := [(x, .inr (0, [.ref wa, .int wc, .ref ra, .ref ma, .ref ua, .ref oa, .int ph, .int dn, .int nx, .int fo])), (ra, .inl (cI, 32, .inl (rg))), (pa, .inl (cB, pn, .inl (pf))), (ba, .inl (cB, 4000, .inl (fun _ => 0))), (ua, .inr (2, [.ref ur, .int (nI ui), .int (nI uh)])), (ur, .inl (cB, 1000, .inl (uq))), (oa, .inr (2, [.ref orr, .int (nI oi), .int (nI oh)])), (orr, .inl (cB, 4096, .inl (oqf))), (ma, .inr (1, [.int (nI md), .int (nI u12.1), .int (nI u12.2.2.2.1), .int (nI u12.2.1), .ref sa, .ref ta, .ref fa, .ref pa, .int (nI u12.2.2.1), .ref ba])), (sa, .inl (cI, rn, .inl (u12.2.2.2.2))), (ta, .inl (cI, rn, .inl (tf))), (fa, .inl (cI, rn, .inl (uf)))]) (zrunS (n := 1) (As := [.int ((if (mDropL M (rg 10)).isSome = true then 1 else 0))]) (rest := []) hE (c_Rv_doneIf l D _ _ (if (mDropL M (rg 10)).isSome = true then 1 else 0)) cb_Rv_doneIf lk_Rv_210 st_Rv_doneIf (zpreS hK hP hD [] rfl rfl rfl) ⟨Nat.le_of_ble_eq_true rfl, Nat.le_of_ble_eq_true rfl, Nat.zero_le _, Nat.zero_le _⟩ rfl hl.1 rfl (Nat.le_of_ble_eq_true rfl) d_Rv_serve_93) hP hD hS hA [] [0, 1, 2, 3, 4, 5, 6, 7, 8, 9, 10, 11] rfl rfl rfl (by decide) (fun r14 u15 H locs hq13 hP hD hS => ?_)
        subst hq13
        have hP : va_P D zC [(x, .inr (0, [.ref wa, .int wc, .ref ra, .ref ma, .ref ua, .ref oa, .int ph, .int dn, .int nx, .int fo])), (ra, .inl (cI, 32, .inl (rg))), (pa, .inl (cB, pn, .inl (pf))), (ba, .inl (cB, 4000, .inl (fun _ => 0))), (ua, .inr (2, [.ref ur, .int (nI ui), .int (nI uh)])), (ur, .inl (cB, 1000, .inl (uq))), (oa, .inr (2, [.ref orr, .int (nI oi), .int (nI oh)])), (orr, .inl (cB, 4096, .inl (oqf))), (ma, .inr (1, [.int (nI md), .int (nI u12.1), .int (nI u12.2.2.2.1), .int (nI u12.2.1), .ref sa, .ref ta, .ref fa, .ref pa, .int (nI u12.2.2.1), .ref ba])), (sa, .inl (cI, rn, .inl (u12.2.2.2.2))), (ta, .inl (cI, rn, .inl (tf))), (fa, .inl (cI, rn, .inl (uf)))] _ := hP
        have hD : va_D A [(x, .inr (0, [.ref wa, .int wc, .ref ra, .ref ma, .ref ua, .ref oa, .int ph, .int dn, .int nx, .int fo])), (ra, .inl (cI, 32, .inl (rg))), (pa, .inl (cB, pn, .inl (pf))), (ba, .inl (cB, 4000, .inl (fun _ => 0))), (ua, .inr (2, [.ref ur, .int (nI ui), .int (nI uh)])), (ur, .inl (cB, 1000, .inl (uq))), (oa, .inr (2, [.ref orr, .int (nI oi), .int (nI oh)])), (orr, .inl (cB, 4096, .inl (oqf))), (ma, .inr (1, [.int (nI md), .int (nI u12.1), .int (nI u12.2.2.2.1), .int (nI u12.2.1), .ref sa, .ref ta, .ref fa, .ref pa, .int (nI u12.2.2.1), .ref ba])), (sa, .inl (cI, rn, .inl (u12.2.2.2.2))), (ta, .inl (cI, rn, .inl (tf))), (fa, .inl (cI, rn, .inl (uf)))] := hD
        have hs : xServe rg M I O ph = (sp_Rv_doneIf (if (mDropL M (rg 10)).isSome = true then 1 else 0), rg, (mDropL M (rg 10)).getD M, I, O, ph) := by unfold xServe; rw [if_neg h1, if_neg h2, if_pos h9]
        have hP9 := hP.sub (ws' := [(x, .inr (0, [.ref wa, .int wc, .ref ra, .ref ma, .ref ua, .ref oa, .int ph, .int dn, .int nx, .int fo])), (ra, .inl (cI, 32, .inl (rg))), (ma, .inr (1, [.int (nI md), .int (nI u12.1), .int (nI u12.2.2.2.1), .int (nI u12.2.1), .ref sa, .ref ta, .ref fa, .ref pa, .int (nI u12.2.2.1), .ref ba])), (sa, .inl (cI, rn, .inl (u12.2.2.2.2))), (ta, .inl (cI, rn, .inl (tf))), (fa, .inl (cI, rn, .inl (uf))), (pa, .inl (cB, pn, .inl (pf))), (ba, .inl (cB, 4000, .inl (fun _ => 0))), (ua, .inr (2, [.ref ur, .int (nI ui), .int (nI uh)])), (ur, .inl (cB, 1000, .inl (uq))), (oa, .inr (2, [.ref orr, .int (nI oi), .int (nI oh)])), (orr, .inl (cB, 4096, .inl (oqf)))]) [0, 1, 8, 9, 10, 11, 2, 3, 4, 5, 6, 7] rfl
        have hD9 := hD.sub (ws' := [(x, .inr (0, [.ref wa, .int wc, .ref ra, .ref ma, .ref ua, .ref oa, .int ph, .int dn, .int nx, .int fo])), (ra, .inl (cI, 32, .inl (rg))), (ma, .inr (1, [.int (nI md), .int (nI u12.1), .int (nI u12.2.2.2.1), .int (nI u12.2.1), .ref sa, .ref ta, .ref fa, .ref pa, .int (nI u12.2.2.1), .ref ba])), (sa, .inl (cI, rn, .inl (u12.2.2.2.2))), (ta, .inl (cI, rn, .inl (tf))), (fa, .inl (cI, rn, .inl (uf))), (pa, .inl (cB, pn, .inl (pf))), (ba, .inl (cB, 4000, .inl (fun _ => 0))), (ua, .inr (2, [.ref ur, .int (nI ui), .int (nI uh)])), (ur, .inl (cB, 1000, .inl (uq))), (oa, .inr (2, [.ref orr, .int (nI oi), .int (nI oh)])), (orr, .inl (cB, 4096, .inl (oqf)))]) [0, 1, 8, 9, 10, 11, 2, 3, 4, 5, 6, 7] rfl rfl
        exact zreti hx hb hr rfl hlocks hS (((md, u12.1, u12.2.2.2.1, u12.2.1, u12.2.2.1), (rn, pn), (sa, ta, fa, pa), (u12.2.2.2.2, tf, uf, pf)), (ui, uh, uq), (oi, oh, oqf), (0, 0)) ⟨by rw [hs], by rw [hs]; exact ⟨hR, hlo, hr16⟩, by rw [hs]; exact hI, by rw [hs]; exact hO, Nat.le_of_eq (Nat.zero_add _), Nat.le_of_eq (Nat.zero_add _)⟩ rfl (by rw [hs]; exact hP9) (by rw [hs]; exact hD9) d_Rv_serve_96
      · rcases Decidable.em ((rg 17) = 3) with h16 | h16
        · refine lv_tableIn (tgt := 97) hx hb d_Rv_serve_15 (by rw [h16]; decide) (by rw [h16]; decide) (by rw [h16]; rfl) (by decide) ?_
          refine lv_aload_n hx hb d_Rv_serve_97 rfl (lv_at hl 1 rfl) ?_
          refine zget hE hK hP 0 rfl fd_Rv_13 rfl d_Rv_serve_98 ?_
          refine lv_bipush (v := 10) hx hb d_Rv_serve_101 (by decide) ?_
          refine lv_aload_n hx hb d_Rv_serve_103 rfl (lv_at hl 1 rfl) ?_
          refine zget hE hK hP 0 rfl fd_Rv_19 rfl d_Rv_serve_104 ?_
          refine lv_iload_n hx hb d_Rv_serve_107 rfl (lv_at hl 0 rfl) ?_
          refine lv_iconst (v := 1) hx hb d_Rv_serve_108 (by decide) ?_
          refine zgoi (wr := [(x, .inr (0, [.ref wa, .int wc, .ref ra, .ref ma, .ref ua, .ref oa, .int ph, .int dn, .int nx, .int fo])), (ra, .inl (cI, 32, .inl (rg))), (ua, .inr (2, [.ref ur, .int (nI ui), .int (nI uh)])), (ur, .inl (cB, 1000, .inl (uq))), (oa, .inr (2, [.ref orr, .int (nI oi), .int (nI oh)])), (orr, .inl (cB, 4096, .inl (oqf)))]) (zrunV (n := 2) (As := [.int (rg 10), .int 1]) (rest := [.int 10, .ref ra]) hE (c_Me_make l D cI cB cJ _ (rg 10) 1 ma md bt lo nl sa ta fa pa pe ba rn sf tf uf pn pf M true hR hlo hr16 rfl) cb_Me_make lk_Rv_199 in_Me_make se_Me_make (zpreV (q0 := 2) hK hP hD rfl rfl rfl [2, 3, 4, 5, 6, 7] rfl rfl rfl) ⟨Nat.le_of_ble_eq_true rfl, Nat.le_of_ble_eq_true rfl, by show 0 + (phP pn + 3 * phR rn) ≤ phP pn + 3 * phR rn; omega, by show 0 + (80000 * phP pn + 3 * (8001 * phR rn)) ≤ 80000 * phP pn + 3 * (8001 * phR rn); omega⟩ rfl hl.1 rfl (Nat.le_of_ble_eq_true rfl) d_Rv_serve_109) hP hD hS hA [2, 3, 4, 5, 6, 7] [0, 1, 8, 9, 10, 11] rfl rfl rfl (by decide) (fun r18 u19 H locs hq17 hP hD hS => ?_)
          obtain ⟨rfl, hR, hfc, hfs⟩ := hq17
          have hP : va_P D zC [(x, .inr (0, [.ref wa, .int wc, .ref ra, .ref ma, .ref ua, .ref oa, .int ph, .int dn, .int nx, .int fo])), (ra, .inl (cI, 32, .inl (rg))), (ua, .inr (2, [.ref ur, .int (nI ui), .int (nI uh)])), (ur, .inl (cB, 1000, .inl (uq))), (oa, .inr (2, [.ref orr, .int (nI oi), .int (nI oh)])), (orr, .inl (cB, 4096, .inl (oqf))), (ma, .inr (1, [.int (nI (cMd u19.1)), .int (nI (cBt u19.1)), .int (nI (cLo u19.1)), .int (nI (cNl u19.1)), .ref (cSa u19.1), .ref (cTa u19.1), .ref (cFa u19.1), .ref (cPa u19.1), .int (nI (cPe u19.1)), .ref ba])), ((cSa u19.1), .inl (cI, (cRn u19.1), .inl (cSf u19.1))), ((cTa u19.1), .inl (cI, (cRn u19.1), .inl (cTf u19.1))), ((cFa u19.1), .inl (cI, (cRn u19.1), .inl (cUf u19.1))), ((cPa u19.1), .inl (cB, (cPn u19.1), .inl (cPf u19.1))), (ba, .inl (cB, 4000, .inl (fun _ => 0)))] _ := hP
          have hD : va_D A [(x, .inr (0, [.ref wa, .int wc, .ref ra, .ref ma, .ref ua, .ref oa, .int ph, .int dn, .int nx, .int fo])), (ra, .inl (cI, 32, .inl (rg))), (ua, .inr (2, [.ref ur, .int (nI ui), .int (nI uh)])), (ur, .inl (cB, 1000, .inl (uq))), (oa, .inr (2, [.ref orr, .int (nI oi), .int (nI oh)])), (orr, .inl (cB, 4096, .inl (oqf))), (ma, .inr (1, [.int (nI (cMd u19.1)), .int (nI (cBt u19.1)), .int (nI (cLo u19.1)), .int (nI (cNl u19.1)), .ref (cSa u19.1), .ref (cTa u19.1), .ref (cFa u19.1), .ref (cPa u19.1), .int (nI (cPe u19.1)), .ref ba])), ((cSa u19.1), .inl (cI, (cRn u19.1), .inl (cSf u19.1))), ((cTa u19.1), .inl (cI, (cRn u19.1), .inl (cTf u19.1))), ((cFa u19.1), .inl (cI, (cRn u19.1), .inl (cUf u19.1))), ((cPa u19.1), .inl (cB, (cPn u19.1), .inl (cPf u19.1))), (ba, .inl (cB, 4000, .inl (fun _ => 0)))] := hD
          refine z_st (st' := [.int (xMk M (rg 10) true), .int 10, .ref ra]) (by rw [show (((if (mMk M (rg 10) true).isSome = true then nI ((md + 1) * 65536) else 0)) : Int32) = xMk M (rg 10) true from by unfold xMk; rw [hmd0]]) ?_
          refine va_iast hx hb hK hP hD hS 1 0 rfl rfl (by unfold vp_in; decide) d_Rv_serve_112 (fun H locs hP hD hS => ?_)
          have hP : va_P D zC [(x, .inr (0, [.ref wa, .int wc, .ref ra, .ref ma, .ref ua, .ref oa, .int ph, .int dn, .int nx, .int fo])), (ra, .inl (cI, 32, .inl (upd rg 10 (xMk M (rg 10) true)))), (ua, .inr (2, [.ref ur, .int (nI ui), .int (nI uh)])), (ur, .inl (cB, 1000, .inl (uq))), (oa, .inr (2, [.ref orr, .int (nI oi), .int (nI oh)])), (orr, .inl (cB, 4096, .inl (oqf))), (ma, .inr (1, [.int (nI (cMd u19.1)), .int (nI (cBt u19.1)), .int (nI (cLo u19.1)), .int (nI (cNl u19.1)), .ref (cSa u19.1), .ref (cTa u19.1), .ref (cFa u19.1), .ref (cPa u19.1), .int (nI (cPe u19.1)), .ref ba])), ((cSa u19.1), .inl (cI, (cRn u19.1), .inl (cSf u19.1))), ((cTa u19.1), .inl (cI, (cRn u19.1), .inl (cTf u19.1))), ((cFa u19.1), .inl (cI, (cRn u19.1), .inl (cUf u19.1))), ((cPa u19.1), .inl (cB, (cPn u19.1), .inl (cPf u19.1))), (ba, .inl (cB, 4000, .inl (fun _ => 0)))] _ := hP
          have hD : va_D A [(x, .inr (0, [.ref wa, .int wc, .ref ra, .ref ma, .ref ua, .ref oa, .int ph, .int dn, .int nx, .int fo])), (ra, .inl (cI, 32, .inl (upd rg 10 (xMk M (rg 10) true)))), (ua, .inr (2, [.ref ur, .int (nI ui), .int (nI uh)])), (ur, .inl (cB, 1000, .inl (uq))), (oa, .inr (2, [.ref orr, .int (nI oi), .int (nI oh)])), (orr, .inl (cB, 4096, .inl (oqf))), (ma, .inr (1, [.int (nI (cMd u19.1)), .int (nI (cBt u19.1)), .int (nI (cLo u19.1)), .int (nI (cNl u19.1)), .ref (cSa u19.1), .ref (cTa u19.1), .ref (cFa u19.1), .ref (cPa u19.1), .int (nI (cPe u19.1)), .ref ba])), ((cSa u19.1), .inl (cI, (cRn u19.1), .inl (cSf u19.1))), ((cTa u19.1), .inl (cI, (cRn u19.1), .inl (cTf u19.1))), ((cFa u19.1), .inl (cI, (cRn u19.1), .inl (cUf u19.1))), ((cPa u19.1), .inl (cB, (cPn u19.1), .inl (cPf u19.1))), (ba, .inl (cB, 4000, .inl (fun _ => 0)))] := hD
          refine lv_iconst (v := 0) hx hb d_Rv_serve_113 (by decide) ?_
          have hs : xServe rg M I O ph = (0, upd rg 10 (xMk M (rg 10) true), (mMk M (rg 10) true).getD M, I, O, ph) := by unfold xServe; rw [if_neg h1, if_neg h2, if_neg h9, if_pos h16]
          have hP9 := hP.sub (ws' := [(x, .inr (0, [.ref wa, .int wc, .ref ra, .ref ma, .ref ua, .ref oa, .int ph, .int dn, .int nx, .int fo])), (ra, .inl (cI, 32, .inl (upd rg 10 (xMk M (rg 10) true)))), (ma, .inr (1, [.int (nI (cMd u19.1)), .int (nI (cBt u19.1)), .int (nI (cLo u19.1)), .int (nI (cNl u19.1)), .ref (cSa u19.1), .ref (cTa u19.1), .ref (cFa u19.1), .ref (cPa u19.1), .int (nI (cPe u19.1)), .ref ba])), ((cSa u19.1), .inl (cI, (cRn u19.1), .inl (cSf u19.1))), ((cTa u19.1), .inl (cI, (cRn u19.1), .inl (cTf u19.1))), ((cFa u19.1), .inl (cI, (cRn u19.1), .inl (cUf u19.1))), ((cPa u19.1), .inl (cB, (cPn u19.1), .inl (cPf u19.1))), (ba, .inl (cB, 4000, .inl (fun _ => 0))), (ua, .inr (2, [.ref ur, .int (nI ui), .int (nI uh)])), (ur, .inl (cB, 1000, .inl (uq))), (oa, .inr (2, [.ref orr, .int (nI oi), .int (nI oh)])), (orr, .inl (cB, 4096, .inl (oqf)))]) [0, 1, 6, 7, 8, 9, 10, 11, 2, 3, 4, 5] rfl
          have hD9 := hD.sub (ws' := [(x, .inr (0, [.ref wa, .int wc, .ref ra, .ref ma, .ref ua, .ref oa, .int ph, .int dn, .int nx, .int fo])), (ra, .inl (cI, 32, .inl (upd rg 10 (xMk M (rg 10) true)))), (ma, .inr (1, [.int (nI (cMd u19.1)), .int (nI (cBt u19.1)), .int (nI (cLo u19.1)), .int (nI (cNl u19.1)), .ref (cSa u19.1), .ref (cTa u19.1), .ref (cFa u19.1), .ref (cPa u19.1), .int (nI (cPe u19.1)), .ref ba])), ((cSa u19.1), .inl (cI, (cRn u19.1), .inl (cSf u19.1))), ((cTa u19.1), .inl (cI, (cRn u19.1), .inl (cTf u19.1))), ((cFa u19.1), .inl (cI, (cRn u19.1), .inl (cUf u19.1))), ((cPa u19.1), .inl (cB, (cPn u19.1), .inl (cPf u19.1))), (ba, .inl (cB, 4000, .inl (fun _ => 0))), (ua, .inr (2, [.ref ur, .int (nI ui), .int (nI uh)])), (ur, .inl (cB, 1000, .inl (uq))), (oa, .inr (2, [.ref orr, .int (nI oi), .int (nI oh)])), (orr, .inl (cB, 4096, .inl (oqf)))]) [0, 1, 6, 7, 8, 9, 10, 11, 2, 3, 4, 5] rfl rfl
          exact zreti hx hb hr rfl hlocks hS ((((cMd u19.1), (cBt u19.1), (cLo u19.1), (cNl u19.1), (cPe u19.1)), ((cRn u19.1), (cPn u19.1)), ((cSa u19.1), (cTa u19.1), (cFa u19.1), (cPa u19.1)), (cSf u19.1, cTf u19.1, cUf u19.1, cPf u19.1)), (ui, uh, uq), (oi, oh, oqf), (u19.2.1, u19.2.2)) ⟨by rw [hs], by rw [hs]; exact hR, by rw [hs]; exact hI, by rw [hs]; exact hO, hfc, hfs⟩ (Prod.ext (Nat.zero_add _).symm (Nat.zero_add _).symm) (by rw [hs]; exact hP9) (by rw [hs]; exact hD9) d_Rv_serve_114
        · rcases Decidable.em ((rg 17) = 4) with h20 | h20
          · refine lv_tableIn (tgt := 115) hx hb d_Rv_serve_15 (by rw [h20]; decide) (by rw [h20]; decide) (by rw [h20]; rfl) (by decide) ?_
            refine lv_iload_n hx hb d_Rv_serve_115 rfl (lv_at hl 0 rfl) ?_
            refine lv_if_eq (tgt := 130) hx hb d_Rv_serve_116 (by decide) (fun h21 => ?_) (fun h21 => ?_)
            · refine lv_iconst (v := 1) hx hb d_Rv_serve_130 (by decide) ?_
              refine lv_goto (tgt := 135) hx hb d_Rv_serve_131 (by decide) ?_
              refine zgoi (wr := [(x, .inr (0, [.ref wa, .int wc, .ref ra, .ref ma, .ref ua, .ref oa, .int ph, .int dn, .int nx, .int fo])), (ra, .inl (cI, 32, .inl (rg))), (ma, .inr (1, [.int (nI md), .int (nI bt), .int (nI lo), .int (nI nl), .ref sa, .ref ta, .ref fa, .ref pa, .int (nI pe), .ref ba])), (sa, .inl (cI, rn, .inl (sf))), (ta, .inl (cI, rn, .inl (tf))), (fa, .inl (cI, rn, .inl (uf))), (pa, .inl (cB, pn, .inl (pf))), (ba, .inl (cB, 4000, .inl (fun _ => 0))), (ua, .inr (2, [.ref ur, .int (nI ui), .int (nI uh)])), (ur, .inl (cB, 1000, .inl (uq))), (oa, .inr (2, [.ref orr, .int (nI oi), .int (nI oh)])), (orr, .inl (cB, 4096, .inl (oqf)))]) (zrunS (n := 1) (As := [.int 1]) (rest := []) hE (c_Rv_doneIf l D _ _ 1) cb_Rv_doneIf lk_Rv_210 st_Rv_doneIf (zpreS hK hP hD [] rfl rfl rfl) ⟨Nat.le_of_ble_eq_true rfl, Nat.le_of_ble_eq_true rfl, Nat.zero_le _, Nat.zero_le _⟩ rfl hl.1 rfl (Nat.le_of_ble_eq_true rfl) d_Rv_serve_135) hP hD hS hA [] [0, 1, 2, 3, 4, 5, 6, 7, 8, 9, 10, 11] rfl rfl rfl (by decide) (fun r23 u24 H locs hq22 hP hD hS => ?_)
              subst hq22
              have hP : va_P D zC [(x, .inr (0, [.ref wa, .int wc, .ref ra, .ref ma, .ref ua, .ref oa, .int ph, .int dn, .int nx, .int fo])), (ra, .inl (cI, 32, .inl (rg))), (ma, .inr (1, [.int (nI md), .int (nI bt), .int (nI lo), .int (nI nl), .ref sa, .ref ta, .ref fa, .ref pa, .int (nI pe), .ref ba])), (sa, .inl (cI, rn, .inl (sf))), (ta, .inl (cI, rn, .inl (tf))), (fa, .inl (cI, rn, .inl (uf))), (pa, .inl (cB, pn, .inl (pf))), (ba, .inl (cB, 4000, .inl (fun _ => 0))), (ua, .inr (2, [.ref ur, .int (nI ui), .int (nI uh)])), (ur, .inl (cB, 1000, .inl (uq))), (oa, .inr (2, [.ref orr, .int (nI oi), .int (nI oh)])), (orr, .inl (cB, 4096, .inl (oqf)))] _ := hP
              have hD : va_D A [(x, .inr (0, [.ref wa, .int wc, .ref ra, .ref ma, .ref ua, .ref oa, .int ph, .int dn, .int nx, .int fo])), (ra, .inl (cI, 32, .inl (rg))), (ma, .inr (1, [.int (nI md), .int (nI bt), .int (nI lo), .int (nI nl), .ref sa, .ref ta, .ref fa, .ref pa, .int (nI pe), .ref ba])), (sa, .inl (cI, rn, .inl (sf))), (ta, .inl (cI, rn, .inl (tf))), (fa, .inl (cI, rn, .inl (uf))), (pa, .inl (cB, pn, .inl (pf))), (ba, .inl (cB, 4000, .inl (fun _ => 0))), (ua, .inr (2, [.ref ur, .int (nI ui), .int (nI uh)])), (ur, .inl (cB, 1000, .inl (uq))), (oa, .inr (2, [.ref orr, .int (nI oi), .int (nI oh)])), (orr, .inl (cB, 4096, .inl (oqf)))] := hD
              have hs : xServe rg M I O ph = (sp_Rv_doneIf 1, rg, M, I, O, ph) := by unfold xServe; rw [if_neg h1, if_neg h2, if_neg h9, if_neg h16, if_pos h20, if_pos h21]
              have hP9 := hP.sub (ws' := [(x, .inr (0, [.ref wa, .int wc, .ref ra, .ref ma, .ref ua, .ref oa, .int ph, .int dn, .int nx, .int fo])), (ra, .inl (cI, 32, .inl (rg))), (ma, .inr (1, [.int (nI md), .int (nI bt), .int (nI lo), .int (nI nl), .ref sa, .ref ta, .ref fa, .ref pa, .int (nI pe), .ref ba])), (sa, .inl (cI, rn, .inl (sf))), (ta, .inl (cI, rn, .inl (tf))), (fa, .inl (cI, rn, .inl (uf))), (pa, .inl (cB, pn, .inl (pf))), (ba, .inl (cB, 4000, .inl (fun _ => 0))), (ua, .inr (2, [.ref ur, .int (nI ui), .int (nI uh)])), (ur, .inl (cB, 1000, .inl (uq))), (oa, .inr (2, [.ref orr, .int (nI oi), .int (nI oh)])), (orr, .inl (cB, 4096, .inl (oqf)))]) [0, 1, 2, 3, 4, 5, 6, 7, 8, 9, 10, 11] rfl
              have hD9 := hD.sub (ws' := [(x, .inr (0, [.ref wa, .int wc, .ref ra, .ref ma, .ref ua, .ref oa, .int ph, .int dn, .int nx, .int fo])), (ra, .inl (cI, 32, .inl (rg))), (ma, .inr (1, [.int (nI md), .int (nI bt), .int (nI lo), .int (nI nl), .ref sa, .ref ta, .ref fa, .ref pa, .int (nI pe), .ref ba])), (sa, .inl (cI, rn, .inl (sf))), (ta, .inl (cI, rn, .inl (tf))), (fa, .inl (cI, rn, .inl (uf))), (pa, .inl (cB, pn, .inl (pf))), (ba, .inl (cB, 4000, .inl (fun _ => 0))), (ua, .inr (2, [.ref ur, .int (nI ui), .int (nI uh)])), (ur, .inl (cB, 1000, .inl (uq))), (oa, .inr (2, [.ref orr, .int (nI oi), .int (nI oh)])), (orr, .inl (cB, 4096, .inl (oqf)))]) [0, 1, 2, 3, 4, 5, 6, 7, 8, 9, 10, 11] rfl rfl
              exact zreti hx hb hr rfl hlocks hS (((md, bt, lo, nl, pe), (rn, pn), (sa, ta, fa, pa), (sf, tf, uf, pf)), (ui, uh, uq), (oi, oh, oqf), (0, 0)) ⟨by rw [hs], by rw [hs]; exact ⟨hR, hlo, hr16⟩, by rw [hs]; exact hI, by rw [hs]; exact hO, Nat.le_of_eq (Nat.zero_add _), Nat.le_of_eq (Nat.zero_add _)⟩ rfl (by rw [hs]; exact hP9) (by rw [hs]; exact hD9) d_Rv_serve_138
            · refine lv_aload_n hx hb d_Rv_serve_119 rfl (lv_at hl 1 rfl) ?_
              refine zget hE hK hP 0 rfl fd_Rv_19 rfl d_Rv_serve_120 ?_
              refine lv_iload_n hx hb d_Rv_serve_123 rfl (lv_at hl 0 rfl) ?_
              refine zgoi (wr := [(x, .inr (0, [.ref wa, .int wc, .ref ra, .ref ma, .ref ua, .ref oa, .int ph, .int dn, .int nx, .int fo])), (ra, .inl (cI, 32, .inl (rg))), (pa, .inl (cB, pn, .inl (pf))), (ba, .inl (cB, 4000, .inl (fun _ => 0))), (ua, .inr (2, [.ref ur, .int (nI ui), .int (nI uh)])), (ur, .inl (cB, 1000, .inl (uq))), (oa, .inr (2, [.ref orr, .int (nI oi), .int (nI oh)])), (orr, .inl (cB, 4096, .inl (oqf)))]) (zrunV (n := 1) (As := [.int (rg 10)]) (rest := []) hE (c_Me_dropGiven l D cI cB cJ _ (rg 10) ma md bt lo nl sa ta fa pa pe ba rn sf tf uf M pn pf hR) cb_Me_dropGiven lk_Rv_214 in_Me_dropGiven se_Me_dropGiven (zpreV (q0 := 2) hK hP hD rfl rfl rfl [2, 3, 4, 5] rfl rfl rfl) ⟨Nat.le_of_ble_eq_true rfl, Nat.le_of_ble_eq_true rfl, Nat.zero_le _, Nat.zero_le _⟩ rfl hl.1 rfl (Nat.le_of_ble_eq_true rfl) d_Rv_serve_124) hP hD hS hA [2, 3, 4, 5] [0, 1, 6, 7, 8, 9, 10, 11] rfl rfl rfl (by decide) (fun r26 u27 H locs hq25 hP hD hS => ?_)
              obtain ⟨rfl, hR⟩ := hq25
              have hP : va_P D zC [(x, .inr (0, [.ref wa, .int wc, .ref ra, .ref ma, .ref ua, .ref oa, .int ph, .int dn, .int nx, .int fo])), (ra, .inl (cI, 32, .inl (rg))), (pa, .inl (cB, pn, .inl (pf))), (ba, .inl (cB, 4000, .inl (fun _ => 0))), (ua, .inr (2, [.ref ur, .int (nI ui), .int (nI uh)])), (ur, .inl (cB, 1000, .inl (uq))), (oa, .inr (2, [.ref orr, .int (nI oi), .int (nI oh)])), (orr, .inl (cB, 4096, .inl (oqf))), (ma, .inr (1, [.int (nI md), .int (nI u27.1), .int (nI lo), .int (nI nl), .ref sa, .ref ta, .ref fa, .ref pa, .int (nI u27.2.1), .ref ba])), (sa, .inl (cI, rn, .inl (u27.2.2))), (ta, .inl (cI, rn, .inl (tf))), (fa, .inl (cI, rn, .inl (uf)))] _ := hP
              have hD : va_D A [(x, .inr (0, [.ref wa, .int wc, .ref ra, .ref ma, .ref ua, .ref oa, .int ph, .int dn, .int nx, .int fo])), (ra, .inl (cI, 32, .inl (rg))), (pa, .inl (cB, pn, .inl (pf))), (ba, .inl (cB, 4000, .inl (fun _ => 0))), (ua, .inr (2, [.ref ur, .int (nI ui), .int (nI uh)])), (ur, .inl (cB, 1000, .inl (uq))), (oa, .inr (2, [.ref orr, .int (nI oi), .int (nI oh)])), (orr, .inl (cB, 4096, .inl (oqf))), (ma, .inr (1, [.int (nI md), .int (nI u27.1), .int (nI lo), .int (nI nl), .ref sa, .ref ta, .ref fa, .ref pa, .int (nI u27.2.1), .ref ba])), (sa, .inl (cI, rn, .inl (u27.2.2))), (ta, .inl (cI, rn, .inl (tf))), (fa, .inl (cI, rn, .inl (uf)))] := hD
              refine lv_if_eq (tgt := 134) hx hb d_Rv_serve_127 (by decide) (fun h28 => ?_) (fun h28 => ?_)
              · refine lv_iconst (v := 0) hx hb d_Rv_serve_134 (by decide) ?_
                refine zgoi (wr := [(x, .inr (0, [.ref wa, .int wc, .ref ra, .ref ma, .ref ua, .ref oa, .int ph, .int dn, .int nx, .int fo])), (ra, .inl (cI, 32, .inl (rg))), (pa, .inl (cB, pn, .inl (pf))), (ba, .inl (cB, 4000, .inl (fun _ => 0))), (ua, .inr (2, [.ref ur, .int (nI ui), .int (nI uh)])), (ur, .inl (cB, 1000, .inl (uq))), (oa, .inr (2, [.ref orr, .int (nI oi), .int (nI oh)])), (orr, .inl (cB, 4096, .inl (oqf))), (ma, .inr (1, [.int (nI md), .int (nI u27.1), .int (nI lo), .int (nI nl), .ref sa, .ref ta, .ref fa, .ref pa, .int (nI u27.2.1), .ref ba])), (sa, .inl (cI, rn, .inl (u27.2.2))), (ta, .inl (cI, rn, .inl (tf))), (fa, .inl (cI, rn, .inl (uf)))]) (zrunS (n := 1) (As := [.int 0]) (rest := []) hE (c_Rv_doneIf l D _ _ 0) cb_Rv_doneIf lk_Rv_210 st_Rv_doneIf (zpreS hK hP hD [] rfl rfl rfl) ⟨Nat.le_of_ble_eq_true rfl, Nat.le_of_ble_eq_true rfl, Nat.zero_le _, Nat.zero_le _⟩ rfl hl.1 rfl (Nat.le_of_ble_eq_true rfl) d_Rv_serve_135) hP hD hS hA [] [0, 1, 2, 3, 4, 5, 6, 7, 8, 9, 10, 11] rfl rfl rfl (by decide) (fun r30 u31 H locs hq29 hP hD hS => ?_)
                subst hq29
                have hP : va_P D zC [(x, .inr (0, [.ref wa, .int wc, .ref ra, .ref ma, .ref ua, .ref oa, .int ph, .int dn, .int nx, .int fo])), (ra, .inl (cI, 32, .inl (rg))), (pa, .inl (cB, pn, .inl (pf))), (ba, .inl (cB, 4000, .inl (fun _ => 0))), (ua, .inr (2, [.ref ur, .int (nI ui), .int (nI uh)])), (ur, .inl (cB, 1000, .inl (uq))), (oa, .inr (2, [.ref orr, .int (nI oi), .int (nI oh)])), (orr, .inl (cB, 4096, .inl (oqf))), (ma, .inr (1, [.int (nI md), .int (nI u27.1), .int (nI lo), .int (nI nl), .ref sa, .ref ta, .ref fa, .ref pa, .int (nI u27.2.1), .ref ba])), (sa, .inl (cI, rn, .inl (u27.2.2))), (ta, .inl (cI, rn, .inl (tf))), (fa, .inl (cI, rn, .inl (uf)))] _ := hP
                have hD : va_D A [(x, .inr (0, [.ref wa, .int wc, .ref ra, .ref ma, .ref ua, .ref oa, .int ph, .int dn, .int nx, .int fo])), (ra, .inl (cI, 32, .inl (rg))), (pa, .inl (cB, pn, .inl (pf))), (ba, .inl (cB, 4000, .inl (fun _ => 0))), (ua, .inr (2, [.ref ur, .int (nI ui), .int (nI uh)])), (ur, .inl (cB, 1000, .inl (uq))), (oa, .inr (2, [.ref orr, .int (nI oi), .int (nI oh)])), (orr, .inl (cB, 4096, .inl (oqf))), (ma, .inr (1, [.int (nI md), .int (nI u27.1), .int (nI lo), .int (nI nl), .ref sa, .ref ta, .ref fa, .ref pa, .int (nI u27.2.1), .ref ba])), (sa, .inl (cI, rn, .inl (u27.2.2))), (ta, .inl (cI, rn, .inl (tf))), (fa, .inl (cI, rn, .inl (uf)))] := hD
                have hs : xServe rg M I O ph = (sp_Rv_doneIf 0, rg, (mDropG M (rg 10)).getD M, I, O, ph) := by unfold xServe; rw [if_neg h1, if_neg h2, if_neg h9, if_neg h16, if_pos h20, if_neg h21, if_pos h28]
                have hP9 := hP.sub (ws' := [(x, .inr (0, [.ref wa, .int wc, .ref ra, .ref ma, .ref ua, .ref oa, .int ph, .int dn, .int nx, .int fo])), (ra, .inl (cI, 32, .inl (rg))), (ma, .inr (1, [.int (nI md), .int (nI u27.1), .int (nI lo), .int (nI nl), .ref sa, .ref ta, .ref fa, .ref pa, .int (nI u27.2.1), .ref ba])), (sa, .inl (cI, rn, .inl (u27.2.2))), (ta, .inl (cI, rn, .inl (tf))), (fa, .inl (cI, rn, .inl (uf))), (pa, .inl (cB, pn, .inl (pf))), (ba, .inl (cB, 4000, .inl (fun _ => 0))), (ua, .inr (2, [.ref ur, .int (nI ui), .int (nI uh)])), (ur, .inl (cB, 1000, .inl (uq))), (oa, .inr (2, [.ref orr, .int (nI oi), .int (nI oh)])), (orr, .inl (cB, 4096, .inl (oqf)))]) [0, 1, 8, 9, 10, 11, 2, 3, 4, 5, 6, 7] rfl
                have hD9 := hD.sub (ws' := [(x, .inr (0, [.ref wa, .int wc, .ref ra, .ref ma, .ref ua, .ref oa, .int ph, .int dn, .int nx, .int fo])), (ra, .inl (cI, 32, .inl (rg))), (ma, .inr (1, [.int (nI md), .int (nI u27.1), .int (nI lo), .int (nI nl), .ref sa, .ref ta, .ref fa, .ref pa, .int (nI u27.2.1), .ref ba])), (sa, .inl (cI, rn, .inl (u27.2.2))), (ta, .inl (cI, rn, .inl (tf))), (fa, .inl (cI, rn, .inl (uf))), (pa, .inl (cB, pn, .inl (pf))), (ba, .inl (cB, 4000, .inl (fun _ => 0))), (ua, .inr (2, [.ref ur, .int (nI ui), .int (nI uh)])), (ur, .inl (cB, 1000, .inl (uq))), (oa, .inr (2, [.ref orr, .int (nI oi), .int (nI oh)])), (orr, .inl (cB, 4096, .inl (oqf)))]) [0, 1, 8, 9, 10, 11, 2, 3, 4, 5, 6, 7] rfl rfl
                exact zreti hx hb hr rfl hlocks hS (((md, u27.1, lo, nl, u27.2.1), (rn, pn), (sa, ta, fa, pa), (u27.2.2, tf, uf, pf)), (ui, uh, uq), (oi, oh, oqf), (0, 0)) ⟨by rw [hs], by rw [hs]; exact ⟨hR, hlo.trans (congrArg List.length (mLs_dropG hMI _).symm), hr16⟩, by rw [hs]; exact hI, by rw [hs]; exact hO, Nat.le_of_eq (Nat.zero_add _), Nat.le_of_eq (Nat.zero_add _)⟩ rfl (by rw [hs]; exact hP9) (by rw [hs]; exact hD9) d_Rv_serve_138
              · refine lv_iconst (v := 1) hx hb d_Rv_serve_130 (by decide) ?_
                refine lv_goto (tgt := 135) hx hb d_Rv_serve_131 (by decide) ?_
                refine zgoi (wr := [(x, .inr (0, [.ref wa, .int wc, .ref ra, .ref ma, .ref ua, .ref oa, .int ph, .int dn, .int nx, .int fo])), (ra, .inl (cI, 32, .inl (rg))), (pa, .inl (cB, pn, .inl (pf))), (ba, .inl (cB, 4000, .inl (fun _ => 0))), (ua, .inr (2, [.ref ur, .int (nI ui), .int (nI uh)])), (ur, .inl (cB, 1000, .inl (uq))), (oa, .inr (2, [.ref orr, .int (nI oi), .int (nI oh)])), (orr, .inl (cB, 4096, .inl (oqf))), (ma, .inr (1, [.int (nI md), .int (nI u27.1), .int (nI lo), .int (nI nl), .ref sa, .ref ta, .ref fa, .ref pa, .int (nI u27.2.1), .ref ba])), (sa, .inl (cI, rn, .inl (u27.2.2))), (ta, .inl (cI, rn, .inl (tf))), (fa, .inl (cI, rn, .inl (uf)))]) (zrunS (n := 1) (As := [.int 1]) (rest := []) hE (c_Rv_doneIf l D _ _ 1) cb_Rv_doneIf lk_Rv_210 st_Rv_doneIf (zpreS hK hP hD [] rfl rfl rfl) ⟨Nat.le_of_ble_eq_true rfl, Nat.le_of_ble_eq_true rfl, Nat.zero_le _, Nat.zero_le _⟩ rfl hl.1 rfl (Nat.le_of_ble_eq_true rfl) d_Rv_serve_135) hP hD hS hA [] [0, 1, 2, 3, 4, 5, 6, 7, 8, 9, 10, 11] rfl rfl rfl (by decide) (fun r33 u34 H locs hq32 hP hD hS => ?_)
                subst hq32
                have hP : va_P D zC [(x, .inr (0, [.ref wa, .int wc, .ref ra, .ref ma, .ref ua, .ref oa, .int ph, .int dn, .int nx, .int fo])), (ra, .inl (cI, 32, .inl (rg))), (pa, .inl (cB, pn, .inl (pf))), (ba, .inl (cB, 4000, .inl (fun _ => 0))), (ua, .inr (2, [.ref ur, .int (nI ui), .int (nI uh)])), (ur, .inl (cB, 1000, .inl (uq))), (oa, .inr (2, [.ref orr, .int (nI oi), .int (nI oh)])), (orr, .inl (cB, 4096, .inl (oqf))), (ma, .inr (1, [.int (nI md), .int (nI u27.1), .int (nI lo), .int (nI nl), .ref sa, .ref ta, .ref fa, .ref pa, .int (nI u27.2.1), .ref ba])), (sa, .inl (cI, rn, .inl (u27.2.2))), (ta, .inl (cI, rn, .inl (tf))), (fa, .inl (cI, rn, .inl (uf)))] _ := hP
                have hD : va_D A [(x, .inr (0, [.ref wa, .int wc, .ref ra, .ref ma, .ref ua, .ref oa, .int ph, .int dn, .int nx, .int fo])), (ra, .inl (cI, 32, .inl (rg))), (pa, .inl (cB, pn, .inl (pf))), (ba, .inl (cB, 4000, .inl (fun _ => 0))), (ua, .inr (2, [.ref ur, .int (nI ui), .int (nI uh)])), (ur, .inl (cB, 1000, .inl (uq))), (oa, .inr (2, [.ref orr, .int (nI oi), .int (nI oh)])), (orr, .inl (cB, 4096, .inl (oqf))), (ma, .inr (1, [.int (nI md), .int (nI u27.1), .int (nI lo), .int (nI nl), .ref sa, .ref ta, .ref fa, .ref pa, .int (nI u27.2.1), .ref ba])), (sa, .inl (cI, rn, .inl (u27.2.2))), (ta, .inl (cI, rn, .inl (tf))), (fa, .inl (cI, rn, .inl (uf)))] := hD
                have hs : xServe rg M I O ph = (sp_Rv_doneIf 1, rg, (mDropG M (rg 10)).getD M, I, O, ph) := by unfold xServe; rw [if_neg h1, if_neg h2, if_neg h9, if_neg h16, if_pos h20, if_neg h21, if_neg h28]
                have hP9 := hP.sub (ws' := [(x, .inr (0, [.ref wa, .int wc, .ref ra, .ref ma, .ref ua, .ref oa, .int ph, .int dn, .int nx, .int fo])), (ra, .inl (cI, 32, .inl (rg))), (ma, .inr (1, [.int (nI md), .int (nI u27.1), .int (nI lo), .int (nI nl), .ref sa, .ref ta, .ref fa, .ref pa, .int (nI u27.2.1), .ref ba])), (sa, .inl (cI, rn, .inl (u27.2.2))), (ta, .inl (cI, rn, .inl (tf))), (fa, .inl (cI, rn, .inl (uf))), (pa, .inl (cB, pn, .inl (pf))), (ba, .inl (cB, 4000, .inl (fun _ => 0))), (ua, .inr (2, [.ref ur, .int (nI ui), .int (nI uh)])), (ur, .inl (cB, 1000, .inl (uq))), (oa, .inr (2, [.ref orr, .int (nI oi), .int (nI oh)])), (orr, .inl (cB, 4096, .inl (oqf)))]) [0, 1, 8, 9, 10, 11, 2, 3, 4, 5, 6, 7] rfl
                have hD9 := hD.sub (ws' := [(x, .inr (0, [.ref wa, .int wc, .ref ra, .ref ma, .ref ua, .ref oa, .int ph, .int dn, .int nx, .int fo])), (ra, .inl (cI, 32, .inl (rg))), (ma, .inr (1, [.int (nI md), .int (nI u27.1), .int (nI lo), .int (nI nl), .ref sa, .ref ta, .ref fa, .ref pa, .int (nI u27.2.1), .ref ba])), (sa, .inl (cI, rn, .inl (u27.2.2))), (ta, .inl (cI, rn, .inl (tf))), (fa, .inl (cI, rn, .inl (uf))), (pa, .inl (cB, pn, .inl (pf))), (ba, .inl (cB, 4000, .inl (fun _ => 0))), (ua, .inr (2, [.ref ur, .int (nI ui), .int (nI uh)])), (ur, .inl (cB, 1000, .inl (uq))), (oa, .inr (2, [.ref orr, .int (nI oi), .int (nI oh)])), (orr, .inl (cB, 4096, .inl (oqf)))]) [0, 1, 8, 9, 10, 11, 2, 3, 4, 5, 6, 7] rfl rfl
                exact zreti hx hb hr rfl hlocks hS (((md, u27.1, lo, nl, u27.2.1), (rn, pn), (sa, ta, fa, pa), (u27.2.2, tf, uf, pf)), (ui, uh, uq), (oi, oh, oqf), (0, 0)) ⟨by rw [hs], by rw [hs]; exact ⟨hR, hlo.trans (congrArg List.length (mLs_dropG hMI _).symm), hr16⟩, by rw [hs]; exact hI, by rw [hs]; exact hO, Nat.le_of_eq (Nat.zero_add _), Nat.le_of_eq (Nat.zero_add _)⟩ rfl (by rw [hs]; exact hP9) (by rw [hs]; exact hD9) d_Rv_serve_138
          · rcases Decidable.em ((rg 17) = 5) with h35 | h35
            · refine lv_tableIn (tgt := 139) hx hb d_Rv_serve_15 (by rw [h35]; decide) (by rw [h35]; decide) (by rw [h35]; rfl) (by decide) ?_
              refine lv_aload_n hx hb d_Rv_serve_139 rfl (lv_at hl 1 rfl) ?_
              refine zget hE hK hP 0 rfl fd_Rv_32 rfl d_Rv_serve_140 ?_
              refine lv_iload_n hx hb d_Rv_serve_143 rfl (lv_at hl 0 rfl) ?_
              refine zgov (wr := [(x, .inr (0, [.ref wa, .int wc, .ref ra, .ref ma, .ref ua, .ref oa, .int ph, .int dn, .int nx, .int fo])), (ra, .inl (cI, 32, .inl (rg))), (ma, .inr (1, [.int (nI md), .int (nI bt), .int (nI lo), .int (nI nl), .ref sa, .ref ta, .ref fa, .ref pa, .int (nI pe), .ref ba])), (sa, .inl (cI, rn, .inl (sf))), (ta, .inl (cI, rn, .inl (tf))), (fa, .inl (cI, rn, .inl (uf))), (pa, .inl (cB, pn, .inl (pf))), (ba, .inl (cB, 4000, .inl (fun _ => 0))), (ua, .inr (2, [.ref ur, .int (nI ui), .int (nI uh)])), (ur, .inl (cB, 1000, .inl (uq)))]) (zrunV (n := 1) (As := [.int (rg 10)]) (rest := []) hE (c_By_add l D cI cB cJ _ (rg 10) oa orr oi oh 4096 oqf (by decide) hO.1 hO.2.2.1) cb_By_add lk_Rv_85 in_By_add se_By_add (zpreV (q0 := 10) hK hP hD rfl rfl rfl [10, 11] rfl rfl rfl) ⟨Nat.le_of_ble_eq_true rfl, Nat.le_of_ble_eq_true rfl, Nat.zero_le _, Nat.zero_le _⟩ rfl hl.1 rfl (Nat.le_of_ble_eq_true rfl) d_Rv_serve_144) hP hD hS hA [10, 11] [0, 1, 2, 3, 4, 5, 6, 7, 8, 9] rfl rfl rfl (by decide) (fun u38 H locs hq36 hP hD hS => ?_)
              clear hq36
              have hP : va_P D zC [(x, .inr (0, [.ref wa, .int wc, .ref ra, .ref ma, .ref ua, .ref oa, .int ph, .int dn, .int nx, .int fo])), (ra, .inl (cI, 32, .inl (rg))), (ma, .inr (1, [.int (nI md), .int (nI bt), .int (nI lo), .int (nI nl), .ref sa, .ref ta, .ref fa, .ref pa, .int (nI pe), .ref ba])), (sa, .inl (cI, rn, .inl (sf))), (ta, .inl (cI, rn, .inl (tf))), (fa, .inl (cI, rn, .inl (uf))), (pa, .inl (cB, pn, .inl (pf))), (ba, .inl (cB, 4000, .inl (fun _ => 0))), (ua, .inr (2, [.ref ur, .int (nI ui), .int (nI uh)])), (ur, .inl (cB, 1000, .inl (uq))), (oa, .inr (2, [.ref orr, .int (nI oi), .int (nI (if oh < 4096 then oh + 1 else oh))])), (orr, .inl (cB, 4096, .inl (if oh < 4096 then upd oqf ((oi + oh) % 4096) (((rg 10) : Int32).toInt8.toInt32) else oqf)))] _ := hP
              have hD : va_D A [(x, .inr (0, [.ref wa, .int wc, .ref ra, .ref ma, .ref ua, .ref oa, .int ph, .int dn, .int nx, .int fo])), (ra, .inl (cI, 32, .inl (rg))), (ma, .inr (1, [.int (nI md), .int (nI bt), .int (nI lo), .int (nI nl), .ref sa, .ref ta, .ref fa, .ref pa, .int (nI pe), .ref ba])), (sa, .inl (cI, rn, .inl (sf))), (ta, .inl (cI, rn, .inl (tf))), (fa, .inl (cI, rn, .inl (uf))), (pa, .inl (cB, pn, .inl (pf))), (ba, .inl (cB, 4000, .inl (fun _ => 0))), (ua, .inr (2, [.ref ur, .int (nI ui), .int (nI uh)])), (ur, .inl (cB, 1000, .inl (uq))), (oa, .inr (2, [.ref orr, .int (nI oi), .int (nI (if oh < 4096 then oh + 1 else oh))])), (orr, .inl (cB, 4096, .inl (if oh < 4096 then upd oqf ((oi + oh) % 4096) (((rg 10) : Int32).toInt8.toInt32) else oqf)))] := hD
              refine lv_iconst (v := 0) hx hb d_Rv_serve_147 (by decide) ?_
              have hs : xServe rg M I O ph = (0, rg, M, I, bAdd 4096 O (rg 10), ph) := by unfold xServe; rw [if_neg h1, if_neg h2, if_neg h9, if_neg h16, if_neg h20, if_pos h35]
              have hP9 := hP.sub (ws' := [(x, .inr (0, [.ref wa, .int wc, .ref ra, .ref ma, .ref ua, .ref oa, .int ph, .int dn, .int nx, .int fo])), (ra, .inl (cI, 32, .inl (rg))), (ma, .inr (1, [.int (nI md), .int (nI bt), .int (nI lo), .int (nI nl), .ref sa, .ref ta, .ref fa, .ref pa, .int (nI pe), .ref ba])), (sa, .inl (cI, rn, .inl (sf))), (ta, .inl (cI, rn, .inl (tf))), (fa, .inl (cI, rn, .inl (uf))), (pa, .inl (cB, pn, .inl (pf))), (ba, .inl (cB, 4000, .inl (fun _ => 0))), (ua, .inr (2, [.ref ur, .int (nI ui), .int (nI uh)])), (ur, .inl (cB, 1000, .inl (uq))), (oa, .inr (2, [.ref orr, .int (nI oi), .int (nI (if oh < 4096 then oh + 1 else oh))])), (orr, .inl (cB, 4096, .inl (if oh < 4096 then upd oqf ((oi + oh) % 4096) (((rg 10) : Int32).toInt8.toInt32) else oqf)))]) [0, 1, 2, 3, 4, 5, 6, 7, 8, 9, 10, 11] rfl
              have hD9 := hD.sub (ws' := [(x, .inr (0, [.ref wa, .int wc, .ref ra, .ref ma, .ref ua, .ref oa, .int ph, .int dn, .int nx, .int fo])), (ra, .inl (cI, 32, .inl (rg))), (ma, .inr (1, [.int (nI md), .int (nI bt), .int (nI lo), .int (nI nl), .ref sa, .ref ta, .ref fa, .ref pa, .int (nI pe), .ref ba])), (sa, .inl (cI, rn, .inl (sf))), (ta, .inl (cI, rn, .inl (tf))), (fa, .inl (cI, rn, .inl (uf))), (pa, .inl (cB, pn, .inl (pf))), (ba, .inl (cB, 4000, .inl (fun _ => 0))), (ua, .inr (2, [.ref ur, .int (nI ui), .int (nI uh)])), (ur, .inl (cB, 1000, .inl (uq))), (oa, .inr (2, [.ref orr, .int (nI oi), .int (nI (if oh < 4096 then oh + 1 else oh))])), (orr, .inl (cB, 4096, .inl (if oh < 4096 then upd oqf ((oi + oh) % 4096) (((rg 10) : Int32).toInt8.toInt32) else oqf)))]) [0, 1, 2, 3, 4, 5, 6, 7, 8, 9, 10, 11] rfl rfl
              exact zreti hx hb hr rfl hlocks hS (((md, bt, lo, nl, pe), (rn, pn), (sa, ta, fa, pa), (sf, tf, uf, pf)), (ui, uh, uq), (oi, (if oh < 4096 then oh + 1 else oh), if oh < 4096 then upd oqf ((oi + oh) % 4096) (((rg 10) : Int32).toInt8.toInt32) else oqf), (0, 0)) ⟨by rw [hs], by rw [hs]; exact ⟨hR, hlo, hr16⟩, by rw [hs]; exact hI, by rw [hs]; exact (bR_add hO _), Nat.le_of_eq (Nat.zero_add _), Nat.le_of_eq (Nat.zero_add _)⟩ rfl (by rw [hs]; exact hP9) (by rw [hs]; exact hD9) d_Rv_serve_148
            · rcases Decidable.em ((rg 17) = 6) with h39 | h39
              · refine lv_tableIn (tgt := 149) hx hb d_Rv_serve_15 (by rw [h39]; decide) (by rw [h39]; decide) (by rw [h39]; rfl) (by decide) ?_
                refine lv_aload_n hx hb d_Rv_serve_149 rfl (lv_at hl 1 rfl) ?_
                refine zget hE hK hP 0 rfl fd_Rv_13 rfl d_Rv_serve_150 ?_
                refine lv_bipush (v := 10) hx hb d_Rv_serve_153 (by decide) ?_
                refine lv_aload_n hx hb d_Rv_serve_155 rfl (lv_at hl 1 rfl) ?_
                refine zget hE hK hP 0 rfl fd_Rv_28 rfl d_Rv_serve_156 ?_
                refine zgoi (wr := [(x, .inr (0, [.ref wa, .int wc, .ref ra, .ref ma, .ref ua, .ref oa, .int ph, .int dn, .int nx, .int fo])), (ra, .inl (cI, 32, .inl (rg))), (ma, .inr (1, [.int (nI md), .int (nI bt), .int (nI lo), .int (nI nl), .ref sa, .ref ta, .ref fa, .ref pa, .int (nI pe), .ref ba])), (sa, .inl (cI, rn, .inl (sf))), (ta, .inl (cI, rn, .inl (tf))), (fa, .inl (cI, rn, .inl (uf))), (pa, .inl (cB, pn, .inl (pf))), (ba, .inl (cB, 4000, .inl (fun _ => 0))), (oa, .inr (2, [.ref orr, .int (nI oi), .int (nI oh)])), (orr, .inl (cB, 4096, .inl (oqf)))]) (zrunV (n := 0) (As := []) (rest := [.int 10, .ref ra]) hE (c_By_removeFirst l D cI cB cJ _ ua ur ui uh 1000 uq (by decide) hI.1 hI.2.2.1) cb_By_removeFirst lk_Rv_93 in_By_removeFirst se_By_removeFirst (zpreV (q0 := 8) hK hP hD rfl rfl rfl [8, 9] rfl rfl rfl) ⟨Nat.le_of_ble_eq_true rfl, Nat.le_of_ble_eq_true rfl, Nat.zero_le _, Nat.zero_le _⟩ rfl hl.1 rfl (Nat.le_of_ble_eq_true rfl) d_Rv_serve_159) hP hD hS hA [8, 9] [0, 1, 2, 3, 4, 5, 6, 7, 10, 11] rfl rfl rfl (by decide) (fun r41 u42 H locs hq40 hP hD hS => ?_)
                subst hq40
                have hP : va_P D zC [(x, .inr (0, [.ref wa, .int wc, .ref ra, .ref ma, .ref ua, .ref oa, .int ph, .int dn, .int nx, .int fo])), (ra, .inl (cI, 32, .inl (rg))), (ma, .inr (1, [.int (nI md), .int (nI bt), .int (nI lo), .int (nI nl), .ref sa, .ref ta, .ref fa, .ref pa, .int (nI pe), .ref ba])), (sa, .inl (cI, rn, .inl (sf))), (ta, .inl (cI, rn, .inl (tf))), (fa, .inl (cI, rn, .inl (uf))), (pa, .inl (cB, pn, .inl (pf))), (ba, .inl (cB, 4000, .inl (fun _ => 0))), (oa, .inr (2, [.ref orr, .int (nI oi), .int (nI oh)])), (orr, .inl (cB, 4096, .inl (oqf))), (ua, .inr (2, [.ref ur, .int (nI (if uh = 0 then ui else (ui + 1) % 1000)), .int (nI (uh - 1))])), (ur, .inl (cB, 1000, .inl (uq)))] _ := hP
                have hD : va_D A [(x, .inr (0, [.ref wa, .int wc, .ref ra, .ref ma, .ref ua, .ref oa, .int ph, .int dn, .int nx, .int fo])), (ra, .inl (cI, 32, .inl (rg))), (ma, .inr (1, [.int (nI md), .int (nI bt), .int (nI lo), .int (nI nl), .ref sa, .ref ta, .ref fa, .ref pa, .int (nI pe), .ref ba])), (sa, .inl (cI, rn, .inl (sf))), (ta, .inl (cI, rn, .inl (tf))), (fa, .inl (cI, rn, .inl (uf))), (pa, .inl (cB, pn, .inl (pf))), (ba, .inl (cB, 4000, .inl (fun _ => 0))), (oa, .inr (2, [.ref orr, .int (nI oi), .int (nI oh)])), (orr, .inl (cB, 4096, .inl (oqf))), (ua, .inr (2, [.ref ur, .int (nI (if uh = 0 then ui else (ui + 1) % 1000)), .int (nI (uh - 1))])), (ur, .inl (cB, 1000, .inl (uq)))] := hD
                refine z_st (st' := [.int ((bRem I).1), .int 10, .ref ra]) (by rw [show (((if uh = 0 then -1 else uq ui &&& 255)) : Int32) = (bRem I).1 from (bR_rem hI).1]) ?_
                refine va_iast hx hb hK hP hD hS 1 0 rfl rfl (by unfold vp_in; decide) d_Rv_serve_162 (fun H locs hP hD hS => ?_)
                have hP : va_P D zC [(x, .inr (0, [.ref wa, .int wc, .ref ra, .ref ma, .ref ua, .ref oa, .int ph, .int dn, .int nx, .int fo])), (ra, .inl (cI, 32, .inl (upd rg 10 ((bRem I).1)))), (ma, .inr (1, [.int (nI md), .int (nI bt), .int (nI lo), .int (nI nl), .ref sa, .ref ta, .ref fa, .ref pa, .int (nI pe), .ref ba])), (sa, .inl (cI, rn, .inl (sf))), (ta, .inl (cI, rn, .inl (tf))), (fa, .inl (cI, rn, .inl (uf))), (pa, .inl (cB, pn, .inl (pf))), (ba, .inl (cB, 4000, .inl (fun _ => 0))), (oa, .inr (2, [.ref orr, .int (nI oi), .int (nI oh)])), (orr, .inl (cB, 4096, .inl (oqf))), (ua, .inr (2, [.ref ur, .int (nI (if uh = 0 then ui else (ui + 1) % 1000)), .int (nI (uh - 1))])), (ur, .inl (cB, 1000, .inl (uq)))] _ := hP
                have hD : va_D A [(x, .inr (0, [.ref wa, .int wc, .ref ra, .ref ma, .ref ua, .ref oa, .int ph, .int dn, .int nx, .int fo])), (ra, .inl (cI, 32, .inl (upd rg 10 ((bRem I).1)))), (ma, .inr (1, [.int (nI md), .int (nI bt), .int (nI lo), .int (nI nl), .ref sa, .ref ta, .ref fa, .ref pa, .int (nI pe), .ref ba])), (sa, .inl (cI, rn, .inl (sf))), (ta, .inl (cI, rn, .inl (tf))), (fa, .inl (cI, rn, .inl (uf))), (pa, .inl (cB, pn, .inl (pf))), (ba, .inl (cB, 4000, .inl (fun _ => 0))), (oa, .inr (2, [.ref orr, .int (nI oi), .int (nI oh)])), (orr, .inl (cB, 4096, .inl (oqf))), (ua, .inr (2, [.ref ur, .int (nI (if uh = 0 then ui else (ui + 1) % 1000)), .int (nI (uh - 1))])), (ur, .inl (cB, 1000, .inl (uq)))] := hD
                refine lv_iconst (v := 0) hx hb d_Rv_serve_163 (by decide) ?_
                have hs : xServe rg M I O ph = (0, upd rg 10 (bRem I).1, M, (bRem I).2, O, ph) := by unfold xServe; rw [if_neg h1, if_neg h2, if_neg h9, if_neg h16, if_neg h20, if_neg h35, if_pos h39]
                have hP9 := hP.sub (ws' := [(x, .inr (0, [.ref wa, .int wc, .ref ra, .ref ma, .ref ua, .ref oa, .int ph, .int dn, .int nx, .int fo])), (ra, .inl (cI, 32, .inl (upd rg 10 ((bRem I).1)))), (ma, .inr (1, [.int (nI md), .int (nI bt), .int (nI lo), .int (nI nl), .ref sa, .ref ta, .ref fa, .ref pa, .int (nI pe), .ref ba])), (sa, .inl (cI, rn, .inl (sf))), (ta, .inl (cI, rn, .inl (tf))), (fa, .inl (cI, rn, .inl (uf))), (pa, .inl (cB, pn, .inl (pf))), (ba, .inl (cB, 4000, .inl (fun _ => 0))), (ua, .inr (2, [.ref ur, .int (nI (if uh = 0 then ui else (ui + 1) % 1000)), .int (nI (uh - 1))])), (ur, .inl (cB, 1000, .inl (uq))), (oa, .inr (2, [.ref orr, .int (nI oi), .int (nI oh)])), (orr, .inl (cB, 4096, .inl (oqf)))]) [0, 1, 2, 3, 4, 5, 6, 7, 10, 11, 8, 9] rfl
                have hD9 := hD.sub (ws' := [(x, .inr (0, [.ref wa, .int wc, .ref ra, .ref ma, .ref ua, .ref oa, .int ph, .int dn, .int nx, .int fo])), (ra, .inl (cI, 32, .inl (upd rg 10 ((bRem I).1)))), (ma, .inr (1, [.int (nI md), .int (nI bt), .int (nI lo), .int (nI nl), .ref sa, .ref ta, .ref fa, .ref pa, .int (nI pe), .ref ba])), (sa, .inl (cI, rn, .inl (sf))), (ta, .inl (cI, rn, .inl (tf))), (fa, .inl (cI, rn, .inl (uf))), (pa, .inl (cB, pn, .inl (pf))), (ba, .inl (cB, 4000, .inl (fun _ => 0))), (ua, .inr (2, [.ref ur, .int (nI (if uh = 0 then ui else (ui + 1) % 1000)), .int (nI (uh - 1))])), (ur, .inl (cB, 1000, .inl (uq))), (oa, .inr (2, [.ref orr, .int (nI oi), .int (nI oh)])), (orr, .inl (cB, 4096, .inl (oqf)))]) [0, 1, 2, 3, 4, 5, 6, 7, 10, 11, 8, 9] rfl rfl
                exact zreti hx hb hr rfl hlocks hS (((md, bt, lo, nl, pe), (rn, pn), (sa, ta, fa, pa), (sf, tf, uf, pf)), ((if uh = 0 then ui else (ui + 1) % 1000), (uh - 1), uq), (oi, oh, oqf), (0, 0)) ⟨by rw [hs], by rw [hs]; exact ⟨hR, hlo, hr16⟩, by rw [hs]; exact (bR_rem hI).2, by rw [hs]; exact hO, Nat.le_of_eq (Nat.zero_add _), Nat.le_of_eq (Nat.zero_add _)⟩ rfl (by rw [hs]; exact hP9) (by rw [hs]; exact hD9) d_Rv_serve_164
              · rcases Decidable.em ((rg 17) = 7) with h43 | h43
                · refine lv_tableIn (tgt := 165) hx hb d_Rv_serve_15 (by rw [h43]; decide) (by rw [h43]; decide) (by rw [h43]; rfl) (by decide) ?_
                  refine lv_iload_n hx hb d_Rv_serve_165 rfl (lv_at hl 0 rfl) ?_
                  refine lv_bipush (v := 16) hx hb d_Rv_serve_166 (by decide) ?_
                  refine lv_iushr (v := zushr (rg 10) 16) hx hb d_Rv_serve_168 rfl ?_
                  refine lv_aload_n hx hb d_Rv_serve_169 rfl (lv_at hl 1 rfl) ?_
                  refine zget hE hK hP 0 rfl fd_Rv_13 rfl d_Rv_serve_170 ?_
                  refine lv_bipush (v := 11) hx hb d_Rv_serve_173 (by decide) ?_
                  refine va_iald hx hb hK hP 1 0 rfl rfl (by unfold vp_in; decide) d_Rv_serve_175 ?_
                  refine z_st (st' := [.int (rg 11), .int (zushr (rg 10) 16)]) rfl ?_
                  refine lv_bipush (v := 16) hx hb d_Rv_serve_176 (by decide) ?_
                  refine lv_iushr (v := zushr (rg 11) 16) hx hb d_Rv_serve_178 rfl ?_
                  refine lv_icmp_ne (tgt := 186) hx hb d_Rv_serve_179 (by decide) (fun h44 => ?_) (fun h44 => ?_)
                  · refine lv_iconst (v := 0) hx hb d_Rv_serve_186 (by decide) ?_
                    refine zgoi (wr := [(x, .inr (0, [.ref wa, .int wc, .ref ra, .ref ma, .ref ua, .ref oa, .int ph, .int dn, .int nx, .int fo])), (ra, .inl (cI, 32, .inl (rg))), (ma, .inr (1, [.int (nI md), .int (nI bt), .int (nI lo), .int (nI nl), .ref sa, .ref ta, .ref fa, .ref pa, .int (nI pe), .ref ba])), (sa, .inl (cI, rn, .inl (sf))), (ta, .inl (cI, rn, .inl (tf))), (fa, .inl (cI, rn, .inl (uf))), (pa, .inl (cB, pn, .inl (pf))), (ba, .inl (cB, 4000, .inl (fun _ => 0))), (ua, .inr (2, [.ref ur, .int (nI ui), .int (nI uh)])), (ur, .inl (cB, 1000, .inl (uq))), (oa, .inr (2, [.ref orr, .int (nI oi), .int (nI oh)])), (orr, .inl (cB, 4096, .inl (oqf)))]) (zrunS (n := 1) (As := [.int 0]) (rest := []) hE (c_Rv_doneIf l D _ _ 0) cb_Rv_doneIf lk_Rv_210 st_Rv_doneIf (zpreS hK hP hD [] rfl rfl rfl) ⟨Nat.le_of_ble_eq_true rfl, Nat.le_of_ble_eq_true rfl, Nat.zero_le _, Nat.zero_le _⟩ rfl hl.1 rfl (Nat.le_of_ble_eq_true rfl) d_Rv_serve_187) hP hD hS hA [] [0, 1, 2, 3, 4, 5, 6, 7, 8, 9, 10, 11] rfl rfl rfl (by decide) (fun r46 u47 H locs hq45 hP hD hS => ?_)
                    subst hq45
                    have hP : va_P D zC [(x, .inr (0, [.ref wa, .int wc, .ref ra, .ref ma, .ref ua, .ref oa, .int ph, .int dn, .int nx, .int fo])), (ra, .inl (cI, 32, .inl (rg))), (ma, .inr (1, [.int (nI md), .int (nI bt), .int (nI lo), .int (nI nl), .ref sa, .ref ta, .ref fa, .ref pa, .int (nI pe), .ref ba])), (sa, .inl (cI, rn, .inl (sf))), (ta, .inl (cI, rn, .inl (tf))), (fa, .inl (cI, rn, .inl (uf))), (pa, .inl (cB, pn, .inl (pf))), (ba, .inl (cB, 4000, .inl (fun _ => 0))), (ua, .inr (2, [.ref ur, .int (nI ui), .int (nI uh)])), (ur, .inl (cB, 1000, .inl (uq))), (oa, .inr (2, [.ref orr, .int (nI oi), .int (nI oh)])), (orr, .inl (cB, 4096, .inl (oqf)))] _ := hP
                    have hD : va_D A [(x, .inr (0, [.ref wa, .int wc, .ref ra, .ref ma, .ref ua, .ref oa, .int ph, .int dn, .int nx, .int fo])), (ra, .inl (cI, 32, .inl (rg))), (ma, .inr (1, [.int (nI md), .int (nI bt), .int (nI lo), .int (nI nl), .ref sa, .ref ta, .ref fa, .ref pa, .int (nI pe), .ref ba])), (sa, .inl (cI, rn, .inl (sf))), (ta, .inl (cI, rn, .inl (tf))), (fa, .inl (cI, rn, .inl (uf))), (pa, .inl (cB, pn, .inl (pf))), (ba, .inl (cB, 4000, .inl (fun _ => 0))), (ua, .inr (2, [.ref ur, .int (nI ui), .int (nI uh)])), (ur, .inl (cB, 1000, .inl (uq))), (oa, .inr (2, [.ref orr, .int (nI oi), .int (nI oh)])), (orr, .inl (cB, 4096, .inl (oqf)))] := hD
                    have hs : xServe rg M I O ph = (sp_Rv_doneIf 0, rg, M, I, O, ph) := by unfold xServe; rw [if_neg h1, if_neg h2, if_neg h9, if_neg h16, if_neg h20, if_neg h35, if_neg h39, if_pos h43, if_neg h44]
                    have hP9 := hP.sub (ws' := [(x, .inr (0, [.ref wa, .int wc, .ref ra, .ref ma, .ref ua, .ref oa, .int ph, .int dn, .int nx, .int fo])), (ra, .inl (cI, 32, .inl (rg))), (ma, .inr (1, [.int (nI md), .int (nI bt), .int (nI lo), .int (nI nl), .ref sa, .ref ta, .ref fa, .ref pa, .int (nI pe), .ref ba])), (sa, .inl (cI, rn, .inl (sf))), (ta, .inl (cI, rn, .inl (tf))), (fa, .inl (cI, rn, .inl (uf))), (pa, .inl (cB, pn, .inl (pf))), (ba, .inl (cB, 4000, .inl (fun _ => 0))), (ua, .inr (2, [.ref ur, .int (nI ui), .int (nI uh)])), (ur, .inl (cB, 1000, .inl (uq))), (oa, .inr (2, [.ref orr, .int (nI oi), .int (nI oh)])), (orr, .inl (cB, 4096, .inl (oqf)))]) [0, 1, 2, 3, 4, 5, 6, 7, 8, 9, 10, 11] rfl
                    have hD9 := hD.sub (ws' := [(x, .inr (0, [.ref wa, .int wc, .ref ra, .ref ma, .ref ua, .ref oa, .int ph, .int dn, .int nx, .int fo])), (ra, .inl (cI, 32, .inl (rg))), (ma, .inr (1, [.int (nI md), .int (nI bt), .int (nI lo), .int (nI nl), .ref sa, .ref ta, .ref fa, .ref pa, .int (nI pe), .ref ba])), (sa, .inl (cI, rn, .inl (sf))), (ta, .inl (cI, rn, .inl (tf))), (fa, .inl (cI, rn, .inl (uf))), (pa, .inl (cB, pn, .inl (pf))), (ba, .inl (cB, 4000, .inl (fun _ => 0))), (ua, .inr (2, [.ref ur, .int (nI ui), .int (nI uh)])), (ur, .inl (cB, 1000, .inl (uq))), (oa, .inr (2, [.ref orr, .int (nI oi), .int (nI oh)])), (orr, .inl (cB, 4096, .inl (oqf)))]) [0, 1, 2, 3, 4, 5, 6, 7, 8, 9, 10, 11] rfl rfl
                    exact zreti hx hb hr rfl hlocks hS (((md, bt, lo, nl, pe), (rn, pn), (sa, ta, fa, pa), (sf, tf, uf, pf)), (ui, uh, uq), (oi, oh, oqf), (0, 0)) ⟨by rw [hs], by rw [hs]; exact ⟨hR, hlo, hr16⟩, by rw [hs]; exact hI, by rw [hs]; exact hO, Nat.le_of_eq (Nat.zero_add _), Nat.le_of_eq (Nat.zero_add _)⟩ rfl (by rw [hs]; exact hP9) (by rw [hs]; exact hD9) d_Rv_serve_190
                  · refine lv_iconst (v := 1) hx hb d_Rv_serve_182 (by decide) ?_
                    refine lv_goto (tgt := 187) hx hb d_Rv_serve_183 (by decide) ?_
                    refine zgoi (wr := [(x, .inr (0, [.ref wa, .int wc, .ref ra, .ref ma, .ref ua, .ref oa, .int ph, .int dn, .int nx, .int fo])), (ra, .inl (cI, 32, .inl (rg))), (ma, .inr (1, [.int (nI md), .int (nI bt), .int (nI lo), .int (nI nl), .ref sa, .ref ta, .ref fa, .ref pa, .int (nI pe), .ref ba])), (sa, .inl (cI, rn, .inl (sf))), (ta, .inl (cI, rn, .inl (tf))), (fa, .inl (cI, rn, .inl (uf))), (pa, .inl (cB, pn, .inl (pf))), (ba, .inl (cB, 4000, .inl (fun _ => 0))), (ua, .inr (2, [.ref ur, .int (nI ui), .int (nI uh)])), (ur, .inl (cB, 1000, .inl (uq))), (oa, .inr (2, [.ref orr, .int (nI oi), .int (nI oh)])), (orr, .inl (cB, 4096, .inl (oqf)))]) (zrunS (n := 1) (As := [.int 1]) (rest := []) hE (c_Rv_doneIf l D _ _ 1) cb_Rv_doneIf lk_Rv_210 st_Rv_doneIf (zpreS hK hP hD [] rfl rfl rfl) ⟨Nat.le_of_ble_eq_true rfl, Nat.le_of_ble_eq_true rfl, Nat.zero_le _, Nat.zero_le _⟩ rfl hl.1 rfl (Nat.le_of_ble_eq_true rfl) d_Rv_serve_187) hP hD hS hA [] [0, 1, 2, 3, 4, 5, 6, 7, 8, 9, 10, 11] rfl rfl rfl (by decide) (fun r49 u50 H locs hq48 hP hD hS => ?_)
                    subst hq48
                    have hP : va_P D zC [(x, .inr (0, [.ref wa, .int wc, .ref ra, .ref ma, .ref ua, .ref oa, .int ph, .int dn, .int nx, .int fo])), (ra, .inl (cI, 32, .inl (rg))), (ma, .inr (1, [.int (nI md), .int (nI bt), .int (nI lo), .int (nI nl), .ref sa, .ref ta, .ref fa, .ref pa, .int (nI pe), .ref ba])), (sa, .inl (cI, rn, .inl (sf))), (ta, .inl (cI, rn, .inl (tf))), (fa, .inl (cI, rn, .inl (uf))), (pa, .inl (cB, pn, .inl (pf))), (ba, .inl (cB, 4000, .inl (fun _ => 0))), (ua, .inr (2, [.ref ur, .int (nI ui), .int (nI uh)])), (ur, .inl (cB, 1000, .inl (uq))), (oa, .inr (2, [.ref orr, .int (nI oi), .int (nI oh)])), (orr, .inl (cB, 4096, .inl (oqf)))] _ := hP
                    have hD : va_D A [(x, .inr (0, [.ref wa, .int wc, .ref ra, .ref ma, .ref ua, .ref oa, .int ph, .int dn, .int nx, .int fo])), (ra, .inl (cI, 32, .inl (rg))), (ma, .inr (1, [.int (nI md), .int (nI bt), .int (nI lo), .int (nI nl), .ref sa, .ref ta, .ref fa, .ref pa, .int (nI pe), .ref ba])), (sa, .inl (cI, rn, .inl (sf))), (ta, .inl (cI, rn, .inl (tf))), (fa, .inl (cI, rn, .inl (uf))), (pa, .inl (cB, pn, .inl (pf))), (ba, .inl (cB, 4000, .inl (fun _ => 0))), (ua, .inr (2, [.ref ur, .int (nI ui), .int (nI uh)])), (ur, .inl (cB, 1000, .inl (uq))), (oa, .inr (2, [.ref orr, .int (nI oi), .int (nI oh)])), (orr, .inl (cB, 4096, .inl (oqf)))] := hD
                    have hs : xServe rg M I O ph = (sp_Rv_doneIf 1, rg, M, I, O, ph) := by unfold xServe; rw [if_neg h1, if_neg h2, if_neg h9, if_neg h16, if_neg h20, if_neg h35, if_neg h39, if_pos h43, if_pos h44]
                    have hP9 := hP.sub (ws' := [(x, .inr (0, [.ref wa, .int wc, .ref ra, .ref ma, .ref ua, .ref oa, .int ph, .int dn, .int nx, .int fo])), (ra, .inl (cI, 32, .inl (rg))), (ma, .inr (1, [.int (nI md), .int (nI bt), .int (nI lo), .int (nI nl), .ref sa, .ref ta, .ref fa, .ref pa, .int (nI pe), .ref ba])), (sa, .inl (cI, rn, .inl (sf))), (ta, .inl (cI, rn, .inl (tf))), (fa, .inl (cI, rn, .inl (uf))), (pa, .inl (cB, pn, .inl (pf))), (ba, .inl (cB, 4000, .inl (fun _ => 0))), (ua, .inr (2, [.ref ur, .int (nI ui), .int (nI uh)])), (ur, .inl (cB, 1000, .inl (uq))), (oa, .inr (2, [.ref orr, .int (nI oi), .int (nI oh)])), (orr, .inl (cB, 4096, .inl (oqf)))]) [0, 1, 2, 3, 4, 5, 6, 7, 8, 9, 10, 11] rfl
                    have hD9 := hD.sub (ws' := [(x, .inr (0, [.ref wa, .int wc, .ref ra, .ref ma, .ref ua, .ref oa, .int ph, .int dn, .int nx, .int fo])), (ra, .inl (cI, 32, .inl (rg))), (ma, .inr (1, [.int (nI md), .int (nI bt), .int (nI lo), .int (nI nl), .ref sa, .ref ta, .ref fa, .ref pa, .int (nI pe), .ref ba])), (sa, .inl (cI, rn, .inl (sf))), (ta, .inl (cI, rn, .inl (tf))), (fa, .inl (cI, rn, .inl (uf))), (pa, .inl (cB, pn, .inl (pf))), (ba, .inl (cB, 4000, .inl (fun _ => 0))), (ua, .inr (2, [.ref ur, .int (nI ui), .int (nI uh)])), (ur, .inl (cB, 1000, .inl (uq))), (oa, .inr (2, [.ref orr, .int (nI oi), .int (nI oh)])), (orr, .inl (cB, 4096, .inl (oqf)))]) [0, 1, 2, 3, 4, 5, 6, 7, 8, 9, 10, 11] rfl rfl
                    exact zreti hx hb hr rfl hlocks hS (((md, bt, lo, nl, pe), (rn, pn), (sa, ta, fa, pa), (sf, tf, uf, pf)), (ui, uh, uq), (oi, oh, oqf), (0, 0)) ⟨by rw [hs], by rw [hs]; exact ⟨hR, hlo, hr16⟩, by rw [hs]; exact hI, by rw [hs]; exact hO, Nat.le_of_eq (Nat.zero_add _), Nat.le_of_eq (Nat.zero_add _)⟩ rfl (by rw [hs]; exact hP9) (by rw [hs]; exact hD9) d_Rv_serve_190
                · rcases Decidable.em ((rg 17) = 8) with h51 | h51
                  · refine lv_tableIn (tgt := 191) hx hb d_Rv_serve_15 (by rw [h51]; decide) (by rw [h51]; decide) (by rw [h51]; rfl) (by decide) ?_
                    refine lv_aload_n hx hb d_Rv_serve_191 rfl (lv_at hl 1 rfl) ?_
                    refine lv_iload_n hx hb d_Rv_serve_192 rfl (lv_at hl 0 rfl) ?_
                    refine lv_aload_n hx hb d_Rv_serve_193 rfl (lv_at hl 1 rfl) ?_
                    refine zget hE hK hP 0 rfl fd_Rv_13 rfl d_Rv_serve_194 ?_
                    refine lv_bipush (v := 11) hx hb d_Rv_serve_197 (by decide) ?_
                    refine va_iald hx hb hK hP 1 0 rfl rfl (by unfold vp_in; decide) d_Rv_serve_199 ?_
                    refine z_st (st' := [.int (rg 11), .int (rg 10), .ref x]) rfl ?_
                    refine lv_aload_n hx hb d_Rv_serve_200 rfl (lv_at hl 1 rfl) ?_
                    refine zget hE hK hP 0 rfl fd_Rv_13 rfl d_Rv_serve_201 ?_
                    refine lv_bipush (v := 12) hx hb d_Rv_serve_204 (by decide) ?_
                    refine va_iald hx hb hK hP 1 0 rfl rfl (by unfold vp_in; decide) d_Rv_serve_206 ?_
                    refine z_st (st' := [.int (rg 12), .int (rg 11), .int (rg 10), .ref x]) rfl ?_
                    refine zgoi (wr := [(ra, .inl (cI, 32, .inl (rg))), (fa, .inl (cI, rn, .inl (uf))), (ba, .inl (cB, 4000, .inl (fun _ => 0))), (ua, .inr (2, [.ref ur, .int (nI ui), .int (nI uh)])), (ur, .inl (cB, 1000, .inl (uq))), (oa, .inr (2, [.ref orr, .int (nI oi), .int (nI oh)])), (orr, .inl (cB, 4096, .inl (oqf)))]) (zrunV (n := 3) (As := [.int (rg 10), .int (rg 11), .int (rg 12)]) (rest := []) hE (c_Rv_copyBytes l D cI cB cJ _ (rg 10) (rg 11) (rg 12) x wa wc ra ma ua oa ph dn nx fo md bt lo nl sa ta fa pa pe ba rn sf tf pn pf M uf hR) cb_Rv_copyBytes lk_Rv_217 in_Rv_copyBytes se_Rv_copyBytes (zpreV (q0 := 0) hK hP hD rfl rfl rfl [0, 2, 3, 4, 6] rfl rfl rfl) ⟨Nat.le_of_ble_eq_true rfl, Nat.le_of_ble_eq_true rfl, Nat.zero_le _, Nat.zero_le _⟩ rfl hl.1 rfl (Nat.le_of_ble_eq_true rfl) d_Rv_serve_207) hP hD hS hA [0, 2, 3, 4, 6] [1, 5, 7, 8, 9, 10, 11] rfl rfl rfl (by decide) (fun r53 u54 H locs hq52 hP hD hS => ?_)
                    obtain ⟨rfl, hR⟩ := hq52
                    have hP : va_P D zC [(ra, .inl (cI, 32, .inl (rg))), (fa, .inl (cI, rn, .inl (uf))), (ba, .inl (cB, 4000, .inl (fun _ => 0))), (ua, .inr (2, [.ref ur, .int (nI ui), .int (nI uh)])), (ur, .inl (cB, 1000, .inl (uq))), (oa, .inr (2, [.ref orr, .int (nI oi), .int (nI oh)])), (orr, .inl (cB, 4096, .inl (oqf))), (x, .inr (0, [.ref wa, .int wc, .ref ra, .ref ma, .ref ua, .ref oa, .int ph, .int dn, .int nx, .int fo])), (ma, .inr (1, [.int (nI md), .int (nI bt), .int (nI lo), .int (nI nl), .ref sa, .ref ta, .ref fa, .ref pa, .int (nI pe), .ref ba])), (sa, .inl (cI, rn, .inl (sf))), (ta, .inl (cI, rn, .inl (tf))), (pa, .inl (cB, pn, .inl (u54)))] _ := hP
                    have hD : va_D A [(ra, .inl (cI, 32, .inl (rg))), (fa, .inl (cI, rn, .inl (uf))), (ba, .inl (cB, 4000, .inl (fun _ => 0))), (ua, .inr (2, [.ref ur, .int (nI ui), .int (nI uh)])), (ur, .inl (cB, 1000, .inl (uq))), (oa, .inr (2, [.ref orr, .int (nI oi), .int (nI oh)])), (orr, .inl (cB, 4096, .inl (oqf))), (x, .inr (0, [.ref wa, .int wc, .ref ra, .ref ma, .ref ua, .ref oa, .int ph, .int dn, .int nx, .int fo])), (ma, .inr (1, [.int (nI md), .int (nI bt), .int (nI lo), .int (nI nl), .ref sa, .ref ta, .ref fa, .ref pa, .int (nI pe), .ref ba])), (sa, .inl (cI, rn, .inl (sf))), (ta, .inl (cI, rn, .inl (tf))), (pa, .inl (cB, pn, .inl (u54)))] := hD
                    have hs : xServe rg M I O ph = ((xCopy (rg 10) (rg 11) (rg 12) M).1, rg, (xCopy (rg 10) (rg 11) (rg 12) M).2, I, O, ph) := by unfold xServe; rw [if_neg h1, if_neg h2, if_neg h9, if_neg h16, if_neg h20, if_neg h35, if_neg h39, if_neg h43, if_pos h51]
                    have hP9 := hP.sub (ws' := [(x, .inr (0, [.ref wa, .int wc, .ref ra, .ref ma, .ref ua, .ref oa, .int ph, .int dn, .int nx, .int fo])), (ra, .inl (cI, 32, .inl (rg))), (ma, .inr (1, [.int (nI md), .int (nI bt), .int (nI lo), .int (nI nl), .ref sa, .ref ta, .ref fa, .ref pa, .int (nI pe), .ref ba])), (sa, .inl (cI, rn, .inl (sf))), (ta, .inl (cI, rn, .inl (tf))), (fa, .inl (cI, rn, .inl (uf))), (pa, .inl (cB, pn, .inl (u54))), (ba, .inl (cB, 4000, .inl (fun _ => 0))), (ua, .inr (2, [.ref ur, .int (nI ui), .int (nI uh)])), (ur, .inl (cB, 1000, .inl (uq))), (oa, .inr (2, [.ref orr, .int (nI oi), .int (nI oh)])), (orr, .inl (cB, 4096, .inl (oqf)))]) [7, 0, 8, 9, 10, 1, 11, 2, 3, 4, 5, 6] rfl
                    have hD9 := hD.sub (ws' := [(x, .inr (0, [.ref wa, .int wc, .ref ra, .ref ma, .ref ua, .ref oa, .int ph, .int dn, .int nx, .int fo])), (ra, .inl (cI, 32, .inl (rg))), (ma, .inr (1, [.int (nI md), .int (nI bt), .int (nI lo), .int (nI nl), .ref sa, .ref ta, .ref fa, .ref pa, .int (nI pe), .ref ba])), (sa, .inl (cI, rn, .inl (sf))), (ta, .inl (cI, rn, .inl (tf))), (fa, .inl (cI, rn, .inl (uf))), (pa, .inl (cB, pn, .inl (u54))), (ba, .inl (cB, 4000, .inl (fun _ => 0))), (ua, .inr (2, [.ref ur, .int (nI ui), .int (nI uh)])), (ur, .inl (cB, 1000, .inl (uq))), (oa, .inr (2, [.ref orr, .int (nI oi), .int (nI oh)])), (orr, .inl (cB, 4096, .inl (oqf)))]) [7, 0, 8, 9, 10, 1, 11, 2, 3, 4, 5, 6] rfl rfl
                    exact zreti hx hb hr rfl hlocks hS (((md, bt, lo, nl, pe), (rn, pn), (sa, ta, fa, pa), (sf, tf, uf, u54)), (ui, uh, uq), (oi, oh, oqf), (0, 0)) ⟨by rw [hs], by rw [hs]; exact ⟨hR, hlo.trans (congrArg List.length (mLs_copy _ _ _ _).symm), hr16⟩, by rw [hs]; exact hI, by rw [hs]; exact hO, Nat.le_of_eq (Nat.zero_add _), Nat.le_of_eq (Nat.zero_add _)⟩ rfl (by rw [hs]; exact hP9) (by rw [hs]; exact hD9) d_Rv_serve_210
                  · refine lv_tableOut (tgt := 211) hx hb d_Rv_serve_15 (by have q0 := z_ne h1 (n := 0) (by decide); have q1 := z_ne h2 (n := 1) (by decide); have q2 := z_ne h9 (n := 2) (by decide); have q3 := z_ne h16 (n := 3) (by decide); have q4 := z_ne h20 (n := 4) (by decide); have q5 := z_ne h35 (n := 5) (by decide); have q6 := z_ne h39 (n := 6) (by decide); have q7 := z_ne h43 (n := 7) (by decide); have q8 := z_ne h51 (n := 8) (by decide); omega) (by decide) ?_
                    refine lv_iconst (v := 4) hx hb d_Rv_serve_211 (by decide) ?_
                    have hs : xServe rg M I O ph = (4, rg, M, I, O, ph) := by unfold xServe; rw [if_neg h1, if_neg h2, if_neg h9, if_neg h16, if_neg h20, if_neg h35, if_neg h39, if_neg h43, if_neg h51]
                    have hP9 := hP.sub (ws' := [(x, .inr (0, [.ref wa, .int wc, .ref ra, .ref ma, .ref ua, .ref oa, .int ph, .int dn, .int nx, .int fo])), (ra, .inl (cI, 32, .inl (rg))), (ma, .inr (1, [.int (nI md), .int (nI bt), .int (nI lo), .int (nI nl), .ref sa, .ref ta, .ref fa, .ref pa, .int (nI pe), .ref ba])), (sa, .inl (cI, rn, .inl (sf))), (ta, .inl (cI, rn, .inl (tf))), (fa, .inl (cI, rn, .inl (uf))), (pa, .inl (cB, pn, .inl (pf))), (ba, .inl (cB, 4000, .inl (fun _ => 0))), (ua, .inr (2, [.ref ur, .int (nI ui), .int (nI uh)])), (ur, .inl (cB, 1000, .inl (uq))), (oa, .inr (2, [.ref orr, .int (nI oi), .int (nI oh)])), (orr, .inl (cB, 4096, .inl (oqf)))]) [0, 1, 2, 3, 4, 5, 6, 7, 8, 9, 10, 11] rfl
                    have hD9 := hD.sub (ws' := [(x, .inr (0, [.ref wa, .int wc, .ref ra, .ref ma, .ref ua, .ref oa, .int ph, .int dn, .int nx, .int fo])), (ra, .inl (cI, 32, .inl (rg))), (ma, .inr (1, [.int (nI md), .int (nI bt), .int (nI lo), .int (nI nl), .ref sa, .ref ta, .ref fa, .ref pa, .int (nI pe), .ref ba])), (sa, .inl (cI, rn, .inl (sf))), (ta, .inl (cI, rn, .inl (tf))), (fa, .inl (cI, rn, .inl (uf))), (pa, .inl (cB, pn, .inl (pf))), (ba, .inl (cB, 4000, .inl (fun _ => 0))), (ua, .inr (2, [.ref ur, .int (nI ui), .int (nI uh)])), (ur, .inl (cB, 1000, .inl (uq))), (oa, .inr (2, [.ref orr, .int (nI oi), .int (nI oh)])), (orr, .inl (cB, 4096, .inl (oqf)))]) [0, 1, 2, 3, 4, 5, 6, 7, 8, 9, 10, 11] rfl rfl
                    exact zreti hx hb hr rfl hlocks hS (((md, bt, lo, nl, pe), (rn, pn), (sa, ta, fa, pa), (sf, tf, uf, pf)), (ui, uh, uq), (oi, oh, oqf), (0, 0)) ⟨by rw [hs], by rw [hs]; exact ⟨hR, hlo, hr16⟩, by rw [hs]; exact hI, by rw [hs]; exact hO, Nat.le_of_eq (Nat.zero_add _), Nat.le_of_eq (Nat.zero_add _)⟩ rfl (by rw [hs]; exact hP9) (by rw [hs]; exact hD9) d_Rv_serve_212
end
section
/-! decode rows -/
theorem d_Rv_execute_0 : decode b_Rv_execute 0 = .ok (.iload_n 1, 1) := by decide +kernel
theorem d_Rv_execute_1 : decode b_Rv_execute 1 = .ok (.bipush 127, 2) := by decide +kernel
theorem d_Rv_execute_3 : decode b_Rv_execute 3 = .ok (.iand, 1) := by decide +kernel
theorem d_Rv_execute_4 : decode b_Rv_execute 4 = .ok (.lookupswitch 216 #[(3, 154), (15, 178), (19, 166), (23, 111), (35, 160), (51, 172), (55, 100), (99, 148), (103, 142), (111, 127), (115, 191)], 100) := by decide +kernel
theorem d_Rv_execute_104 : decode b_Rv_execute 104 = .ok (.aload_n 0, 1) := by decide +kernel
theorem d_Rv_execute_105 : decode b_Rv_execute 105 = .ok (.iload_n 1, 1) := by decide +kernel
theorem d_Rv_execute_106 : decode b_Rv_execute 106 = .ok (.iload_n 1, 1) := by decide +kernel
theorem d_Rv_execute_107 : decode b_Rv_execute 107 = .ok (.sipush (-4096), 3) := by decide +kernel
theorem d_Rv_execute_110 : decode b_Rv_execute 110 = .ok (.iand, 1) := by decide +kernel
theorem d_Rv_execute_111 : decode b_Rv_execute 111 = .ok (.invokevirtual 120, 3) := by decide +kernel
theorem d_Rv_execute_114 : decode b_Rv_execute 114 = .ok (.ireturn, 1) := by decide +kernel
theorem d_Rv_execute_115 : decode b_Rv_execute 115 = .ok (.aload_n 0, 1) := by decide +kernel
theorem d_Rv_execute_116 : decode b_Rv_execute 116 = .ok (.iload_n 1, 1) := by decide +kernel
theorem d_Rv_execute_117 : decode b_Rv_execute 117 = .ok (.aload_n 0, 1) := by decide +kernel
theorem d_Rv_execute_118 : decode b_Rv_execute 118 = .ok (.getfield 65, 3) := by decide +kernel
theorem d_Rv_execute_121 : decode b_Rv_execute 121 = .ok (.iload_n 1, 1) := by decide +kernel
theorem d_Rv_execute_122 : decode b_Rv_execute 122 = .ok (.sipush (-4096), 3) := by decide +kernel
theorem d_Rv_execute_125 : decode b_Rv_execute 125 = .ok (.iand, 1) := by decide +kernel
theorem d_Rv_execute_126 : decode b_Rv_execute 126 = .ok (.iadd, 1) := by decide +kernel
theorem d_Rv_execute_127 : decode b_Rv_execute 127 = .ok (.invokevirtual 120, 3) := by decide +kernel
theorem d_Rv_execute_130 : decode b_Rv_execute 130 = .ok (.ireturn, 1) := by decide +kernel
theorem d_Rv_execute_131 : decode b_Rv_execute 131 = .ok (.aload_n 0, 1) := by decide +kernel
theorem d_Rv_execute_132 : decode b_Rv_execute 132 = .ok (.iload_n 1, 1) := by decide +kernel
theorem d_Rv_execute_133 : decode b_Rv_execute 133 = .ok (.aload_n 0, 1) := by decide +kernel
theorem d_Rv_execute_134 : decode b_Rv_execute 134 = .ok (.getfield 65, 3) := by decide +kernel
theorem d_Rv_execute_137 : decode b_Rv_execute 137 = .ok (.iload_n 1, 1) := by decide +kernel
theorem d_Rv_execute_138 : decode b_Rv_execute 138 = .ok (.invokestatic 123, 3) := by decide +kernel
theorem d_Rv_execute_141 : decode b_Rv_execute 141 = .ok (.iadd, 1) := by decide +kernel
theorem d_Rv_execute_142 : decode b_Rv_execute 142 = .ok (.invokevirtual 126, 3) := by decide +kernel
theorem d_Rv_execute_145 : decode b_Rv_execute 145 = .ok (.ireturn, 1) := by decide +kernel
theorem d_Rv_execute_146 : decode b_Rv_execute 146 = .ok (.aload_n 0, 1) := by decide +kernel
theorem d_Rv_execute_147 : decode b_Rv_execute 147 = .ok (.iload_n 1, 1) := by decide +kernel
theorem d_Rv_execute_148 : decode b_Rv_execute 148 = .ok (.invokevirtual 129, 3) := by decide +kernel
theorem d_Rv_execute_151 : decode b_Rv_execute 151 = .ok (.ireturn, 1) := by decide +kernel
theorem d_Rv_execute_152 : decode b_Rv_execute 152 = .ok (.aload_n 0, 1) := by decide +kernel
theorem d_Rv_execute_153 : decode b_Rv_execute 153 = .ok (.iload_n 1, 1) := by decide +kernel
theorem d_Rv_execute_154 : decode b_Rv_execute 154 = .ok (.invokevirtual 132, 3) := by decide +kernel
theorem d_Rv_execute_157 : decode b_Rv_execute 157 = .ok (.ireturn, 1) := by decide +kernel
theorem d_Rv_execute_158 : decode b_Rv_execute 158 = .ok (.aload_n 0, 1) := by decide +kernel
theorem d_Rv_execute_159 : decode b_Rv_execute 159 = .ok (.iload_n 1, 1) := by decide +kernel
theorem d_Rv_execute_160 : decode b_Rv_execute 160 = .ok (.invokevirtual 135, 3) := by decide +kernel
theorem d_Rv_execute_163 : decode b_Rv_execute 163 = .ok (.ireturn, 1) := by decide +kernel
theorem d_Rv_execute_164 : decode b_Rv_execute 164 = .ok (.aload_n 0, 1) := by decide +kernel
theorem d_Rv_execute_165 : decode b_Rv_execute 165 = .ok (.iload_n 1, 1) := by decide +kernel
theorem d_Rv_execute_166 : decode b_Rv_execute 166 = .ok (.invokevirtual 138, 3) := by decide +kernel
theorem d_Rv_execute_169 : decode b_Rv_execute 169 = .ok (.ireturn, 1) := by decide +kernel
theorem d_Rv_execute_170 : decode b_Rv_execute 170 = .ok (.aload_n 0, 1) := by decide +kernel
theorem d_Rv_execute_171 : decode b_Rv_execute 171 = .ok (.iload_n 1, 1) := by decide +kernel
theorem d_Rv_execute_172 : decode b_Rv_execute 172 = .ok (.invokevirtual 141, 3) := by decide +kernel
theorem d_Rv_execute_175 : decode b_Rv_execute 175 = .ok (.ireturn, 1) := by decide +kernel
theorem d_Rv_execute_176 : decode b_Rv_execute 176 = .ok (.aload_n 0, 1) := by decide +kernel
theorem d_Rv_execute_177 : decode b_Rv_execute 177 = .ok (.iload_n 1, 1) := by decide +kernel
theorem d_Rv_execute_178 : decode b_Rv_execute 178 = .ok (.invokevirtual 144, 3) := by decide +kernel
theorem d_Rv_execute_181 : decode b_Rv_execute 181 = .ok (.ireturn, 1) := by decide +kernel
theorem d_Rv_execute_182 : decode b_Rv_execute 182 = .ok (.iload_n 1, 1) := by decide +kernel
theorem d_Rv_execute_183 : decode b_Rv_execute 183 = .ok (.invokestatic 147, 3) := by decide +kernel
theorem d_Rv_execute_186 : decode b_Rv_execute 186 = .ok (.ifCond .ne 7, 3) := by decide +kernel
theorem d_Rv_execute_189 : decode b_Rv_execute 189 = .ok (.iconst 0, 1) := by decide +kernel
theorem d_Rv_execute_190 : decode b_Rv_execute 190 = .ok (.goto 4, 3) := by decide +kernel
theorem d_Rv_execute_193 : decode b_Rv_execute 193 = .ok (.iconst 1, 1) := by decide +kernel
theorem d_Rv_execute_194 : decode b_Rv_execute 194 = .ok (.ireturn, 1) := by decide +kernel
theorem d_Rv_execute_195 : decode b_Rv_execute 195 = .ok (.iload_n 1, 1) := by decide +kernel
theorem d_Rv_execute_196 : decode b_Rv_execute 196 = .ok (.bipush 115, 2) := by decide +kernel
theorem d_Rv_execute_198 : decode b_Rv_execute 198 = .ok (.if_icmp .ne 10, 3) := by decide +kernel
theorem d_Rv_execute_201 : decode b_Rv_execute 201 = .ok (.aload_n 0, 1) := by decide +kernel
theorem d_Rv_execute_202 : decode b_Rv_execute 202 = .ok (.invokevirtual 150, 3) := by decide +kernel
theorem d_Rv_execute_205 : decode b_Rv_execute 205 = .ok (.goto 14, 3) := by decide +kernel
theorem d_Rv_execute_208 : decode b_Rv_execute 208 = .ok (.iload_n 1, 1) := by decide +kernel
theorem d_Rv_execute_209 : decode b_Rv_execute 209 = .ok (.ldc 153, 2) := by decide +kernel
theorem d_Rv_execute_211 : decode b_Rv_execute 211 = .ok (.if_icmp .ne 7, 3) := by decide +kernel
theorem d_Rv_execute_214 : decode b_Rv_execute 214 = .ok (.iconst 5, 1) := by decide +kernel
theorem d_Rv_execute_215 : decode b_Rv_execute 215 = .ok (.goto 4, 3) := by decide +kernel
theorem d_Rv_execute_218 : decode b_Rv_execute 218 = .ok (.iconst 1, 1) := by decide +kernel
theorem d_Rv_execute_219 : decode b_Rv_execute 219 = .ok (.ireturn, 1) := by decide +kernel
theorem d_Rv_execute_220 : decode b_Rv_execute 220 = .ok (.iconst 1, 1) := by decide +kernel
theorem d_Rv_execute_221 : decode b_Rv_execute 221 = .ok (.ireturn, 1) := by decide +kernel

def xExec (w : Int32) (rg : Nat → Int32) (M : MM) (I O : List Int32) (ph nx fo : Int32) : Int32 × (Nat → Int32) × MM × List Int32 × List Int32 × Int32 × Int32 := if (w &&& 127) = 3 then ((sp_Rv_load w rg M).1, (sp_Rv_load w rg M).2, M, I, O, ph, fo) else if (w &&& 127) = 15 then
  if (sp_Rv_middle w) = 0 then (0, rg, M, I, O, ph, fo) else (1, rg, M, I, O, ph, fo)
else if (w &&& 127) = 19 then ((sp_Rv_operateWithConstant w rg).1, (sp_Rv_operateWithConstant w rg).2, M, I, O, ph, fo) else if (w &&& 127) = 23 then ((sp_Rv_keep w (nx + (w &&& (-4096))) rg).1, (sp_Rv_keep w (nx + (w &&& (-4096))) rg).2, M, I, O, ph, fo) else if (w &&& 127) = 35 then ((xStore w rg M).1, rg, (xStore w rg M).2, I, O, ph, fo) else if (w &&& 127) = 51 then ((sp_Rv_operate w rg).1, (sp_Rv_operate w rg).2, M, I, O, ph, fo) else if (w &&& 127) = 55 then ((sp_Rv_keep w (w &&& (-4096)) rg).1, (sp_Rv_keep w (w &&& (-4096)) rg).2, M, I, O, ph, fo) else if (w &&& 127) = 99 then ((sp_Rv_branch w nx fo rg).1, rg, M, I, O, ph, (sp_Rv_branch w nx fo rg).2) else if (w &&& 127) = 103 then ((sp_Rv_jumpByRegister w nx fo rg).1, (sp_Rv_jumpByRegister w nx fo rg).2.2, M, I, O, ph, (sp_Rv_jumpByRegister w nx fo rg).2.1) else if (w &&& 127) = 111 then ((sp_Rv_jump w (nx + (sp_Rv_jumpOffset w)) nx fo rg).1, (sp_Rv_jump w (nx + (sp_Rv_jumpOffset w)) nx fo rg).2.2, M, I, O, ph, (sp_Rv_jump w (nx + (sp_Rv_jumpOffset w)) nx fo rg).2.1) else if (w &&& 127) = 115 then
  if w = 115 then ((xServe rg M I O ph).1, (xServe rg M I O ph).2.1, (xServe rg M I O ph).2.2.1, (xServe rg M I O ph).2.2.2.1, (xServe rg M I O ph).2.2.2.2.1, (xServe rg M I O ph).2.2.2.2.2, fo) else if w = 1048691 then (5, rg, M, I, O, ph, fo) else (1, rg, M, I, O, ph, fo)
else (1, rg, M, I, O, ph, fo)
set_option maxHeartbeats 4000000 in
theorem c_Rv_execute (l : Launch) (D : va_G) (cI cB cJ : ClassId) (sz : Nat) (w : Int32) (x : Nat) (wa : Nat) (wc : Int32) (ra : Nat) (ma : Nat) (ua : Nat) (oa : Nat) (ph : Int32) (dn : Int32) (nx : Int32) (fo : Int32) (rg : Nat → Int32) (md : Nat) (bt : Nat) (lo : Nat) (nl : Nat) (sa : Nat) (ta : Nat) (fa : Nat) (pa : Nat) (pe : Nat) (ba : Nat) (rn : Nat) (sf : Nat → Int32) (tf : Nat → Int32) (uf : Nat → Int32) (pn : Nat) (pf : Nat → Int32) (ur : Nat) (ui : Nat) (uh : Nat) (uq : Nat → Int32) (orr : Nat) (oi : Nat) (oh : Nat) (oqf : Nat → Int32) (M : MM) (I : List Int32) (O : List Int32) (hR : cRep M md bt nl pe rn pn sf tf uf pf) (hlo : lo = (mLs M).length) (hr16 : 16 ≤ rn) (hI : bR 1000 I ui uh uq) (hO : bR 4096 O oi oh oqf) : zMet l y_Rv_execute (zWs y_Rv_execute b_Rv_execute 2 (some .int)) { frames := 6, cells := phP pn + 3 * phR rn, slots := 80000 * phP pn + 3 * (8001 * phR rn), locals := 168 } (zPc D (zT cI cB cJ) sz [(x, .inr (0, [.ref wa, .int wc, .ref ra, .ref ma, .ref ua, .ref oa, .int ph, .int dn, .int nx, .int fo])), (ra, .inl (cI, 32, .inl (rg))), (ma, .inr (1, [.int (nI md), .int (nI bt), .int (nI lo), .int (nI nl), .ref sa, .ref ta, .ref fa, .ref pa, .int (nI pe), .ref ba])), (sa, .inl (cI, rn, .inl (sf))), (ta, .inl (cI, rn, .inl (tf))), (fa, .inl (cI, rn, .inl (uf))), (pa, .inl (cB, pn, .inl (pf))), (ba, .inl (cB, 4000, .inl (fun _ => 0))), (ua, .inr (2, [.ref ur, .int (nI ui), .int (nI uh)])), (ur, .inl (cB, 1000, .inl (uq))), (oa, .inr (2, [.ref orr, .int (nI oi), .int (nI oh)])), (orr, .inl (cB, 4096, .inl (oqf)))] [.ref x, .int w]) (zQi D (va_A [(x, .inr (0, [.ref wa, .int wc, .ref ra, .ref ma, .ref ua, .ref oa, .int ph, .int dn, .int nx, .int fo])), (ra, .inl (cI, 32, .inl (rg))), (ma, .inr (1, [.int (nI md), .int (nI bt), .int (nI lo), .int (nI nl), .ref sa, .ref ta, .ref fa, .ref pa, .int (nI pe), .ref ba])), (sa, .inl (cI, rn, .inl (sf))), (ta, .inl (cI, rn, .inl (tf))), (fa, .inl (cI, rn, .inl (uf))), (pa, .inl (cB, pn, .inl (pf))), (ba, .inl (cB, 4000, .inl (fun _ => 0))), (ua, .inr (2, [.ref ur, .int (nI ui), .int (nI uh)])), (ur, .inl (cB, 1000, .inl (uq))), (oa, .inr (2, [.ref orr, .int (nI oi), .int (nI oh)])), (orr, .inl (cB, 4096, .inl (oqf)))] sz) (fun r (U : (CM × (Nat × Nat × (Nat → Int32)) × (Nat × Nat × (Nat → Int32)) × (Nat × Nat))) => r = (xExec w rg M I O ph nx fo).1 ∧ cR (xExec w rg M I O ph nx fo).2.2.1 U.1 ∧ bR 1000 (xExec w rg M I O ph nx fo).2.2.2.1 U.2.1.1 U.2.1.2.1 U.2.1.2.2 ∧ bR 4096 (xExec w rg M I O ph nx fo).2.2.2.2.1 U.2.2.1.1 U.2.2.1.2.1 U.2.2.1.2.2 ∧ U.2.2.2.1 + fuC U.1 ≤ phP pn + 3 * phR rn ∧ U.2.2.2.2 + fuS U.1 ≤ 80000 * phP pn + 3 * (8001 * phR rn)) (fun U => U.2.2.2) (fun (U : (CM × (Nat × Nat × (Nat → Int32)) × (Nat × Nat × (Nat → Int32)) × (Nat × Nat))) => [(x, .inr (0, [.ref wa, .int wc, .ref ra, .ref ma, .ref ua, .ref oa, .int (xExec w rg M I O ph nx fo).2.2.2.2.2.1, .int dn, .int nx, .int (xExec w rg M I O ph nx fo).2.2.2.2.2.2])), (ra, .inl (cI, 32, .inl ((xExec w rg M I O ph nx fo).2.1))), (ma, .inr (1, [.int (nI (cMd U.1)), .int (nI (cBt U.1)), .int (nI (cLo U.1)), .int (nI (cNl U.1)), .ref (cSa U.1), .ref (cTa U.1), .ref (cFa U.1), .ref (cPa U.1), .int (nI (cPe U.1)), .ref ba])), ((cSa U.1), .inl (cI, (cRn U.1), .inl (cSf U.1))), ((cTa U.1), .inl (cI, (cRn U.1), .inl (cTf U.1))), ((cFa U.1), .inl (cI, (cRn U.1), .inl (cUf U.1))), ((cPa U.1), .inl (cB, (cPn U.1), .inl (cPf U.1))), (ba, .inl (cB, 4000, .inl (fun _ => 0))), (ua, .inr (2, [.ref ur, .int (nI U.2.1.1), .int (nI U.2.1.2.1)])), (ur, .inl (cB, 1000, .inl (U.2.1.2.2))), (oa, .inr (2, [.ref orr, .int (nI U.2.2.1.1), .int (nI U.2.2.1.2.1)])), (orr, .inl (cB, 4096, .inl (U.2.2.1.2.2)))])) (va_A [(x, .inr (0, [.ref wa, .int wc, .ref ra, .ref ma, .ref ua, .ref oa, .int ph, .int dn, .int nx, .int fo])), (ra, .inl (cI, 32, .inl (rg))), (ma, .inr (1, [.int (nI md), .int (nI bt), .int (nI lo), .int (nI nl), .ref sa, .ref ta, .ref fa, .ref pa, .int (nI pe), .ref ba])), (sa, .inl (cI, rn, .inl (sf))), (ta, .inl (cI, rn, .inl (tf))), (fa, .inl (cI, rn, .inl (uf))), (pa, .inl (cB, pn, .inl (pf))), (ba, .inl (cB, 4000, .inl (fun _ => 0))), (ua, .inr (2, [.ref ur, .int (nI ui), .int (nI uh)])), (ur, .inl (cB, 1000, .inl (uq))), (oa, .inr (2, [.ref orr, .int (nI oi), .int (nI oh)])), (orr, .inl (cB, 4096, .inl (oqf)))] sz) := by
  refine zstart (Qc := fun A => zQi D A (fun r (U : (CM × (Nat × Nat × (Nat → Int32)) × (Nat × Nat × (Nat → Int32)) × (Nat × Nat))) => r = (xExec w rg M I O ph nx fo).1 ∧ cR (xExec w rg M I O ph nx fo).2.2.1 U.1 ∧ bR 1000 (xExec w rg M I O ph nx fo).2.2.2.1 U.2.1.1 U.2.1.2.1 U.2.1.2.2 ∧ bR 4096 (xExec w rg M I O ph nx fo).2.2.2.2.1 U.2.2.1.1 U.2.2.1.2.1 U.2.2.1.2.2 ∧ U.2.2.2.1 + fuC U.1 ≤ phP pn + 3 * phR rn ∧ U.2.2.2.2 + fuS U.1 ≤ 80000 * phP pn + 3 * (8001 * phR rn)) (fun U => U.2.2.2) (fun (U : (CM × (Nat × Nat × (Nat → Int32)) × (Nat × Nat × (Nat → Int32)) × (Nat × Nat))) => [(x, .inr (0, [.ref wa, .int wc, .ref ra, .ref ma, .ref ua, .ref oa, .int (xExec w rg M I O ph nx fo).2.2.2.2.2.1, .int dn, .int nx, .int (xExec w rg M I O ph nx fo).2.2.2.2.2.2])), (ra, .inl (cI, 32, .inl ((xExec w rg M I O ph nx fo).2.1))), (ma, .inr (1, [.int (nI (cMd U.1)), .int (nI (cBt U.1)), .int (nI (cLo U.1)), .int (nI (cNl U.1)), .ref (cSa U.1), .ref (cTa U.1), .ref (cFa U.1), .ref (cPa U.1), .int (nI (cPe U.1)), .ref ba])), ((cSa U.1), .inl (cI, (cRn U.1), .inl (cSf U.1))), ((cTa U.1), .inl (cI, (cRn U.1), .inl (cTf U.1))), ((cFa U.1), .inl (cI, (cRn U.1), .inl (cUf U.1))), ((cPa U.1), .inl (cB, (cPn U.1), .inl (cPf U.1))), (ba, .inl (cB, 4000, .inl (fun _ => 0))), (ua, .inr (2, [.ref ur, .int (nI U.2.1.1), .int (nI U.2.1.2.1)])), (ur, .inl (cB, 1000, .inl (U.2.1.2.2))), (oa, .inr (2, [.ref orr, .int (nI U.2.2.1.1), .int (nI U.2.2.1.2.1)])), (orr, .inl (cB, 4096, .inl (U.2.2.1.2.2)))])) (by decide) (Nat.le_of_ble_eq_true rfl) ?_
  intro p e s m below meth c ls A hE hr hlocks hin hsz hK hP hD hS hA hAe hl
  have hx := hE.1
  have hb := hE.2.1
  have hown := hE.2.2.2.1
  have hw := hE.2.2.2.2
  have hl : lv_has ls 2 [(0, .ref x), (1, .int w)] := hl
  refine lv_iload_n hx hb d_Rv_execute_0 rfl (lv_at hl 1 rfl) ?_
  refine lv_bipush (v := 127) hx hb d_Rv_execute_1 (by decide) ?_
  refine lv_iand hx hb d_Rv_execute_3 ?_
  rcases Decidable.em ((w &&& 127) = 3) with h1 | h1
  · refine lv_lookup (tgt := 158) (off := 154) hx hb d_Rv_execute_4 (by decide) (by rw [h1]; first | done | rfl) (by decide) ?_
    refine lv_aload_n hx hb d_Rv_execute_158 rfl (lv_at hl 0 rfl) ?_
    refine lv_iload_n hx hb d_Rv_execute_159 rfl (lv_at hl 1 rfl) ?_
    refine zgoi (wr := [(fa, .inl (cI, rn, .inl (uf))), (ba, .inl (cB, 4000, .inl (fun _ => 0))), (ua, .inr (2, [.ref ur, .int (nI ui), .int (nI uh)])), (ur, .inl (cB, 1000, .inl (uq))), (oa, .inr (2, [.ref orr, .int (nI oi), .int (nI oh)])), (orr, .inl (cB, 4096, .inl (oqf)))]) (zrunV (n := 1) (As := [.int w]) (rest := []) hE (c_Rv_load l D cI cB cJ _ w x wa wc ra ma ua oa ph dn nx fo rg md bt lo nl sa ta fa pa pe ba rn sf tf pn pf M uf hR) cb_Rv_load lk_Rv_135 in_Rv_load se_Rv_load (zpreV (q0 := 0) hK hP hD rfl rfl rfl [0, 1, 2, 3, 4, 6] rfl rfl rfl) ⟨Nat.le_of_ble_eq_true rfl, Nat.le_of_ble_eq_true rfl, Nat.zero_le _, Nat.zero_le _⟩ rfl hl.1 rfl (Nat.le_of_ble_eq_true rfl) d_Rv_execute_160) hP hD hS hA [0, 1, 2, 3, 4, 6] [5, 7, 8, 9, 10, 11] rfl rfl rfl (by decide) (fun r3 u4 H locs hq2 hP hD hS => ?_)
    subst hq2
    have hP : va_P D zC [(fa, .inl (cI, rn, .inl (uf))), (ba, .inl (cB, 4000, .inl (fun _ => 0))), (ua, .inr (2, [.ref ur, .int (nI ui), .int (nI uh)])), (ur, .inl (cB, 1000, .inl (uq))), (oa, .inr (2, [.ref orr, .int (nI oi), .int (nI oh)])), (orr, .inl (cB, 4096, .inl (oqf))), (x, .inr (0, [.ref wa, .int wc, .ref ra, .ref ma, .ref ua, .ref oa, .int ph, .int dn, .int nx, .int fo])), (ra, .inl (cI, 32, .inl ((sp_Rv_load w rg M).2))), (ma, .inr (1, [.int (nI md), .int (nI bt), .int (nI lo), .int (nI nl), .ref sa, .ref ta, .ref fa, .ref pa, .int (nI pe), .ref ba])), (sa, .inl (cI, rn, .inl (sf))), (ta, .inl (cI, rn, .inl (tf))), (pa, .inl (cB, pn, .inl (pf)))] _ := hP
    have hD : va_D A [(fa, .inl (cI, rn, .inl (uf))), (ba, .inl (cB, 4000, .inl (fun _ => 0))), (ua, .inr (2, [.ref ur, .int (nI ui), .int (nI uh)])), (ur, .inl (cB, 1000, .inl (uq))), (oa, .inr (2, [.ref orr, .int (nI oi), .int (nI oh)])), (orr, .inl (cB, 4096, .inl (oqf))), (x, .inr (0, [.ref wa, .int wc, .ref ra, .ref ma, .ref ua, .ref oa, .int ph, .int dn, .int nx, .int fo])), (ra, .inl (cI, 32, .inl ((sp_Rv_load w rg M).2))), (ma, .inr (1, [.int (nI md), .int (nI bt), .int (nI lo), .int (nI nl), .ref sa, .ref ta, .ref fa, .ref pa, .int (nI pe), .ref ba])), (sa, .inl (cI, rn, .inl (sf))), (ta, .inl (cI, rn, .inl (tf))), (pa, .inl (cB, pn, .inl (pf)))] := hD
    have hs : xExec w rg M I O ph nx fo = ((sp_Rv_load w rg M).1, (sp_Rv_load w rg M).2, M, I, O, ph, fo) := by rw [xExec, if_pos h1]
    have hP9 := hP.sub (ws' := [(x, .inr (0, [.ref wa, .int wc, .ref ra, .ref ma, .ref ua, .ref oa, .int ph, .int dn, .int nx, .int fo])), (ra, .inl (cI, 32, .inl ((sp_Rv_load w rg M).2))), (ma, .inr (1, [.int (nI md), .int (nI bt), .int (nI lo), .int (nI nl), .ref sa, .ref ta, .ref fa, .ref pa, .int (nI pe), .ref ba])), (sa, .inl (cI, rn, .inl (sf))), (ta, .inl (cI, rn, .inl (tf))), (fa, .inl (cI, rn, .inl (uf))), (pa, .inl (cB, pn, .inl (pf))), (ba, .inl (cB, 4000, .inl (fun _ => 0))), (ua, .inr (2, [.ref ur, .int (nI ui), .int (nI uh)])), (ur, .inl (cB, 1000, .inl (uq))), (oa, .inr (2, [.ref orr, .int (nI oi), .int (nI oh)])), (orr, .inl (cB, 4096, .inl (oqf)))]) [6, 7, 8, 9, 10, 0, 11, 1, 2, 3, 4, 5] rfl
    have hD9 := hD.sub (ws' := [(x, .inr (0, [.ref wa, .int wc, .ref ra, .ref ma, .ref ua, .ref oa, .int ph, .int dn, .int nx, .int fo])), (ra, .inl (cI, 32, .inl ((sp_Rv_load w rg M).2))), (ma, .inr (1, [.int (nI md), .int (nI bt), .int (nI lo), .int (nI nl), .ref sa, .ref ta, .ref fa, .ref pa, .int (nI pe), .ref ba])), (sa, .inl (cI, rn, .inl (sf))), (ta, .inl (cI, rn, .inl (tf))), (fa, .inl (cI, rn, .inl (uf))), (pa, .inl (cB, pn, .inl (pf))), (ba, .inl (cB, 4000, .inl (fun _ => 0))), (ua, .inr (2, [.ref ur, .int (nI ui), .int (nI uh)])), (ur, .inl (cB, 1000, .inl (uq))), (oa, .inr (2, [.ref orr, .int (nI oi), .int (nI oh)])), (orr, .inl (cB, 4096, .inl (oqf)))]) [6, 7, 8, 9, 10, 0, 11, 1, 2, 3, 4, 5] rfl rfl
    exact zreti hx hb hr rfl hlocks hS (((md, bt, lo, nl, pe), (rn, pn), (sa, ta, fa, pa), (sf, tf, uf, pf)), (ui, uh, uq), (oi, oh, oqf), (0, 0)) ⟨by rw [hs], by rw [hs]; exact ⟨hR, hlo, hr16⟩, by rw [hs]; exact hI, by rw [hs]; exact hO, Nat.le_of_eq (Nat.zero_add _), Nat.le_of_eq (Nat.zero_add _)⟩ rfl (by rw [hs]; exact hP9) (by rw [hs]; exact hD9) d_Rv_execute_163
  · rcases Decidable.em ((w &&& 127) = 15) with h5 | h5
    · refine lv_lookup (tgt := 182) (off := 178) hx hb d_Rv_execute_4 (by decide) (by rw [h5]; first | done | rfl) (by decide) ?_
      refine lv_iload_n hx hb d_Rv_execute_182 rfl (lv_at hl 1 rfl) ?_
      refine zgoi (wr := [(x, .inr (0, [.ref wa, .int wc, .ref ra, .ref ma, .ref ua, .ref oa, .int ph, .int dn, .int nx, .int fo])), (ra, .inl (cI, 32, .inl (rg))), (ma, .inr (1, [.int (nI md), .int (nI bt), .int (nI lo), .int (nI nl), .ref sa, .ref ta, .ref fa, .ref pa, .int (nI pe), .ref ba])), (sa, .inl (cI, rn, .inl (sf))), (ta, .inl (cI, rn, .inl (tf))), (fa, .inl (cI, rn, .inl (uf))), (pa, .inl (cB, pn, .inl (pf))), (ba, .inl (cB, 4000, .inl (fun _ => 0))), (ua, .inr (2, [.ref ur, .int (nI ui), .int (nI uh)])), (ur, .inl (cB, 1000, .inl (uq))), (oa, .inr (2, [.ref orr, .int (nI oi), .int (nI oh)])), (orr, .inl (cB, 4096, .inl (oqf)))]) (zrunS (n := 1) (As := [.int w]) (rest := []) hE (c_Rv_middle l D _ _ w) cb_Rv_middle lk_Rv_147 st_Rv_middle (zpreS hK hP hD [] rfl rfl rfl) ⟨Nat.le_of_ble_eq_true rfl, Nat.le_of_ble_eq_true rfl, Nat.zero_le _, Nat.zero_le _⟩ rfl hl.1 rfl (Nat.le_of_ble_eq_true rfl) d_Rv_execute_183) hP hD hS hA [] [0, 1, 2, 3, 4, 5, 6, 7, 8, 9, 10, 11] rfl rfl rfl (by decide) (fun r7 u8 H locs hq6 hP hD hS => ?_)
      subst hq6
      have hP : va_P D zC [(x, .inr (0, [.ref wa, .int wc, .ref ra, .ref ma, .ref ua, .ref oa, .int ph, .int dn, .int nx, .int fo])), (ra, .inl (cI, 32, .inl (rg))), (ma, .inr (1, [.int (nI md), .int (nI bt), .int (nI lo), .int (nI nl), .ref sa, .ref ta, .ref fa, .ref pa, .int (nI pe), .ref ba])), (sa, .inl (cI, rn, .inl (sf))), (ta, .inl (cI, rn, .inl (tf))), (fa, .inl (cI, rn, .inl (uf))), (pa, .inl (cB, pn, .inl (pf))), (ba, .inl (cB, 4000, .inl (fun _ => 0))), (ua, .inr (2, [.ref ur, .int (nI ui), .int (nI uh)])), (ur, .inl (cB, 1000, .inl (uq))), (oa, .inr (2, [.ref orr, .int (nI oi), .int (nI oh)])), (orr, .inl (cB, 4096, .inl (oqf)))] _ := hP
      have hD : va_D A [(x, .inr (0, [.ref wa, .int wc, .ref ra, .ref ma, .ref ua, .ref oa, .int ph, .int dn, .int nx, .int fo])), (ra, .inl (cI, 32, .inl (rg))), (ma, .inr (1, [.int (nI md), .int (nI bt), .int (nI lo), .int (nI nl), .ref sa, .ref ta, .ref fa, .ref pa, .int (nI pe), .ref ba])), (sa, .inl (cI, rn, .inl (sf))), (ta, .inl (cI, rn, .inl (tf))), (fa, .inl (cI, rn, .inl (uf))), (pa, .inl (cB, pn, .inl (pf))), (ba, .inl (cB, 4000, .inl (fun _ => 0))), (ua, .inr (2, [.ref ur, .int (nI ui), .int (nI uh)])), (ur, .inl (cB, 1000, .inl (uq))), (oa, .inr (2, [.ref orr, .int (nI oi), .int (nI oh)])), (orr, .inl (cB, 4096, .inl (oqf)))] := hD
      refine lv_if_ne (tgt := 193) hx hb d_Rv_execute_186 (by decide) (fun h9 => ?_) (fun h9 => ?_)
      · refine lv_iconst (v := 1) hx hb d_Rv_execute_193 (by decide) ?_
        have hs : xExec w rg M I O ph nx fo = (1, rg, M, I, O, ph, fo) := by rw [xExec, if_neg h1, if_pos h5, if_neg h9]
        have hP9 := hP.sub (ws' := [(x, .inr (0, [.ref wa, .int wc, .ref ra, .ref ma, .ref ua, .ref oa, .int ph, .int dn, .int nx, .int fo])), (ra, .inl (cI, 32, .inl (rg))), (ma, .inr (1, [.int (nI md), .int (nI bt), .int (nI lo), .int (nI nl), .ref sa, .ref ta, .ref fa, .ref pa, .int (nI pe), .ref ba])), (sa, .inl (cI, rn, .inl (sf))), (ta, .inl (cI, rn, .inl (tf))), (fa, .inl (cI, rn, .inl (uf))), (pa, .inl (cB, pn, .inl (pf))), (ba, .inl (cB, 4000, .inl (fun _ => 0))), (ua, .inr (2, [.ref ur, .int (nI ui), .int (nI uh)])), (ur, .inl (cB, 1000, .inl (uq))), (oa, .inr (2, [.ref orr, .int (nI oi), .int (nI oh)])), (orr, .inl (cB, 4096, .inl (oqf)))]) [0, 1, 2, 3, 4, 5, 6, 7, 8, 9, 10, 11] rfl
        have hD9 := hD.sub (ws' := [(x, .inr (0, [.ref wa, .int wc, .ref ra, .ref ma, .ref ua, .ref oa, .int ph, .int dn, .int nx, .int fo])), (ra, .inl (cI, 32, .inl (rg))), (ma, .inr (1, [.int (nI md), .int (nI bt), .int (nI lo), .int (nI nl), .ref sa, .ref ta, .ref fa, .ref pa, .int (nI pe), .ref ba])), (sa, .inl (cI, rn, .inl (sf))), (ta, .inl (cI, rn, .inl (tf))), (fa, .inl (cI, rn, .inl (uf))), (pa, .inl (cB, pn, .inl (pf))), (ba, .inl (cB, 4000, .inl (fun _ => 0))), (ua, .inr (2, [.ref ur, .int (nI ui), .int (nI uh)])), (ur, .inl (cB, 1000, .inl (uq))), (oa, .inr (2, [.ref orr, .int (nI oi), .int (nI oh)])), (orr, .inl (cB, 4096, .inl (oqf)))]) [0, 1, 2, 3, 4, 5, 6, 7, 8, 9, 10, 11] rfl rfl
        exact zreti hx hb hr rfl hlocks hS (((md, bt, lo, nl, pe), (rn, pn), (sa, ta, fa, pa), (sf, tf, uf, pf)), (ui, uh, uq), (oi, oh, oqf), (0, 0)) ⟨by rw [hs], by rw [hs]; exact ⟨hR, hlo, hr16⟩, by rw [hs]; exact hI, by rw [hs]; exact hO, Nat.le_of_eq (Nat.zero_add _), Nat.le_of_eq (Nat.zero_add _)⟩ rfl (by rw [hs]; exact hP9) (by rw [hs]; exact hD9) d_Rv_execute_194
      · refine lv_iconst (v := 0) hx hb d_Rv_execute_189 (by decide) ?_
        refine lv_goto (tgt := 194) hx hb d_Rv_execute_190 (by decide) ?_
        have hs : xExec w rg M I O ph nx fo = (0, rg, M, I, O, ph, fo) := by rw [xExec, if_neg h1, if_pos h5, if_pos h9]
        have hP9 := hP.sub (ws' := [(x, .inr (0, [.ref wa, .int wc, .ref ra, .ref ma, .ref ua, .ref oa, .int ph, .int dn, .int nx, .int fo])), (ra, .inl (cI, 32, .inl (rg))), (ma, .inr (1, [.int (nI md), .int (nI bt), .int (nI lo), .int (nI nl), .ref sa, .ref ta, .ref fa, .ref pa, .int (nI pe), .ref ba])), (sa, .inl (cI, rn, .inl (sf))), (ta, .inl (cI, rn, .inl (tf))), (fa, .inl (cI, rn, .inl (uf))), (pa, .inl (cB, pn, .inl (pf))), (ba, .inl (cB, 4000, .inl (fun _ => 0))), (ua, .inr (2, [.ref ur, .int (nI ui), .int (nI uh)])), (ur, .inl (cB, 1000, .inl (uq))), (oa, .inr (2, [.ref orr, .int (nI oi), .int (nI oh)])), (orr, .inl (cB, 4096, .inl (oqf)))]) [0, 1, 2, 3, 4, 5, 6, 7, 8, 9, 10, 11] rfl
        have hD9 := hD.sub (ws' := [(x, .inr (0, [.ref wa, .int wc, .ref ra, .ref ma, .ref ua, .ref oa, .int ph, .int dn, .int nx, .int fo])), (ra, .inl (cI, 32, .inl (rg))), (ma, .inr (1, [.int (nI md), .int (nI bt), .int (nI lo), .int (nI nl), .ref sa, .ref ta, .ref fa, .ref pa, .int (nI pe), .ref ba])), (sa, .inl (cI, rn, .inl (sf))), (ta, .inl (cI, rn, .inl (tf))), (fa, .inl (cI, rn, .inl (uf))), (pa, .inl (cB, pn, .inl (pf))), (ba, .inl (cB, 4000, .inl (fun _ => 0))), (ua, .inr (2, [.ref ur, .int (nI ui), .int (nI uh)])), (ur, .inl (cB, 1000, .inl (uq))), (oa, .inr (2, [.ref orr, .int (nI oi), .int (nI oh)])), (orr, .inl (cB, 4096, .inl (oqf)))]) [0, 1, 2, 3, 4, 5, 6, 7, 8, 9, 10, 11] rfl rfl
        exact zreti hx hb hr rfl hlocks hS (((md, bt, lo, nl, pe), (rn, pn), (sa, ta, fa, pa), (sf, tf, uf, pf)), (ui, uh, uq), (oi, oh, oqf), (0, 0)) ⟨by rw [hs], by rw [hs]; exact ⟨hR, hlo, hr16⟩, by rw [hs]; exact hI, by rw [hs]; exact hO, Nat.le_of_eq (Nat.zero_add _), Nat.le_of_eq (Nat.zero_add _)⟩ rfl (by rw [hs]; exact hP9) (by rw [hs]; exact hD9) d_Rv_execute_194
    · rcases Decidable.em ((w &&& 127) = 19) with h10 | h10
      · refine lv_lookup (tgt := 170) (off := 166) hx hb d_Rv_execute_4 (by decide) (by rw [h10]; first | done | rfl) (by decide) ?_
        refine lv_aload_n hx hb d_Rv_execute_170 rfl (lv_at hl 0 rfl) ?_
        refine lv_iload_n hx hb d_Rv_execute_171 rfl (lv_at hl 1 rfl) ?_
        refine zgoi (wr := [(ma, .inr (1, [.int (nI md), .int (nI bt), .int (nI lo), .int (nI nl), .ref sa, .ref ta, .ref fa, .ref pa, .int (nI pe), .ref ba])), (sa, .inl (cI, rn, .inl (sf))), (ta, .inl (cI, rn, .inl (tf))), (fa, .inl (cI, rn, .inl (uf))), (pa, .inl (cB, pn, .inl (pf))), (ba, .inl (cB, 4000, .inl (fun _ => 0))), (ua, .inr (2, [.ref ur, .int (nI ui), .int (nI uh)])), (ur, .inl (cB, 1000, .inl (uq))), (oa, .inr (2, [.ref orr, .int (nI oi), .int (nI oh)])), (orr, .inl (cB, 4096, .inl (oqf)))]) (zrunV (n := 1) (As := [.int w]) (rest := []) hE (c_Rv_operateWithConstant l D cI cB cJ _ w x wa wc ra ma ua oa ph dn nx fo rg) cb_Rv_operateWithConstant lk_Rv_141 in_Rv_operateWithConstant se_Rv_operateWithConstant (zpreV (q0 := 0) hK hP hD rfl rfl rfl [0, 1] rfl rfl rfl) ⟨Nat.le_of_ble_eq_true rfl, Nat.le_of_ble_eq_true rfl, Nat.zero_le _, Nat.zero_le _⟩ rfl hl.1 rfl (Nat.le_of_ble_eq_true rfl) d_Rv_execute_172) hP hD hS hA [0, 1] [2, 3, 4, 5, 6, 7, 8, 9, 10, 11] rfl rfl rfl (by decide) (fun r12 u13 H locs hq11 hP hD hS => ?_)
        subst hq11
        have hP : va_P D zC [(ma, .inr (1, [.int (nI md), .int (nI bt), .int (nI lo), .int (nI nl), .ref sa, .ref ta, .ref fa, .ref pa, .int (nI pe), .ref ba])), (sa, .inl (cI, rn, .inl (sf))), (ta, .inl (cI, rn, .inl (tf))), (fa, .inl (cI, rn, .inl (uf))), (pa, .inl (cB, pn, .inl (pf))), (ba, .inl (cB, 4000, .inl (fun _ => 0))), (ua, .inr (2, [.ref ur, .int (nI ui), .int (nI uh)])), (ur, .inl (cB, 1000, .inl (uq))), (oa, .inr (2, [.ref orr, .int (nI oi), .int (nI oh)])), (orr, .inl (cB, 4096, .inl (oqf))), (x, .inr (0, [.ref wa, .int wc, .ref ra, .ref ma, .ref ua, .ref oa, .int ph, .int dn, .int nx, .int fo])), (ra, .inl (cI, 32, .inl ((sp_Rv_operateWithConstant w rg).2)))] _ := hP
        have hD : va_D A [(ma, .inr (1, [.int (nI md), .int (nI bt), .int (nI lo), .int (nI nl), .ref sa, .ref ta, .ref fa, .ref pa, .int (nI pe), .ref ba])), (sa, .inl (cI, rn, .inl (sf))), (ta, .inl (cI, rn, .inl (tf))), (fa, .inl (cI, rn, .inl (uf))), (pa, .inl (cB, pn, .inl (pf))), (ba, .inl (cB, 4000, .inl (fun _ => 0))), (ua, .inr (2, [.ref ur, .int (nI ui), .int (nI uh)])), (ur, .inl (cB, 1000, .inl (uq))), (oa, .inr (2, [.ref orr, .int (nI oi), .int (nI oh)])), (orr, .inl (cB, 4096, .inl (oqf))), (x, .inr (0, [.ref wa, .int wc, .ref ra, .ref ma, .ref ua, .ref oa, .int ph, .int dn, .int nx, .int fo])), (ra, .inl (cI, 32, .inl ((sp_Rv_operateWithConstant w rg).2)))] := hD
        have hs : xExec w rg M I O ph nx fo = ((sp_Rv_operateWithConstant w rg).1, (sp_Rv_operateWithConstant w rg).2, M, I, O, ph, fo) := by rw [xExec, if_neg h1, if_neg h5, if_pos h10]
        have hP9 := hP.sub (ws' := [(x, .inr (0, [.ref wa, .int wc, .ref ra, .ref ma, .ref ua, .ref oa, .int ph, .int dn, .int nx, .int fo])), (ra, .inl (cI, 32, .inl ((sp_Rv_operateWithConstant w rg).2))), (ma, .inr (1, [.int (nI md), .int (nI bt), .int (nI lo), .int (nI nl), .ref sa, .ref ta, .ref fa, .ref pa, .int (nI pe), .ref ba])), (sa, .inl (cI, rn, .inl (sf))), (ta, .inl (cI, rn, .inl (tf))), (fa, .inl (cI, rn, .inl (uf))), (pa, .inl (cB, pn, .inl (pf))), (ba, .inl (cB, 4000, .inl (fun _ => 0))), (ua, .inr (2, [.ref ur, .int (nI ui), .int (nI uh)])), (ur, .inl (cB, 1000, .inl (uq))), (oa, .inr (2, [.ref orr, .int (nI oi), .int (nI oh)])), (orr, .inl (cB, 4096, .inl (oqf)))]) [10, 11, 0, 1, 2, 3, 4, 5, 6, 7, 8, 9] rfl
        have hD9 := hD.sub (ws' := [(x, .inr (0, [.ref wa, .int wc, .ref ra, .ref ma, .ref ua, .ref oa, .int ph, .int dn, .int nx, .int fo])), (ra, .inl (cI, 32, .inl ((sp_Rv_operateWithConstant w rg).2))), (ma, .inr (1, [.int (nI md), .int (nI bt), .int (nI lo), .int (nI nl), .ref sa, .ref ta, .ref fa, .ref pa, .int (nI pe), .ref ba])), (sa, .inl (cI, rn, .inl (sf))), (ta, .inl (cI, rn, .inl (tf))), (fa, .inl (cI, rn, .inl (uf))), (pa, .inl (cB, pn, .inl (pf))), (ba, .inl (cB, 4000, .inl (fun _ => 0))), (ua, .inr (2, [.ref ur, .int (nI ui), .int (nI uh)])), (ur, .inl (cB, 1000, .inl (uq))), (oa, .inr (2, [.ref orr, .int (nI oi), .int (nI oh)])), (orr, .inl (cB, 4096, .inl (oqf)))]) [10, 11, 0, 1, 2, 3, 4, 5, 6, 7, 8, 9] rfl rfl
        exact zreti hx hb hr rfl hlocks hS (((md, bt, lo, nl, pe), (rn, pn), (sa, ta, fa, pa), (sf, tf, uf, pf)), (ui, uh, uq), (oi, oh, oqf), (0, 0)) ⟨by rw [hs], by rw [hs]; exact ⟨hR, hlo, hr16⟩, by rw [hs]; exact hI, by rw [hs]; exact hO, Nat.le_of_eq (Nat.zero_add _), Nat.le_of_eq (Nat.zero_add _)⟩ rfl (by rw [hs]; exact hP9) (by rw [hs]; exact hD9) d_Rv_execute_175
      · rcases Decidable.em ((w &&& 127) = 23) with h14 | h14
        · refine lv_lookup (tgt := 115) (off := 111) hx hb d_Rv_execute_4 (by decide) (by rw [h14]; first | done | rfl) (by decide) ?_
          refine lv_aload_n hx hb d_Rv_execute_115 rfl (lv_at hl 0 rfl) ?_
          refine lv_iload_n hx hb d_Rv_execute_116 rfl (lv_at hl 1 rfl) ?_
          refine lv_aload_n hx hb d_Rv_execute_117 rfl (lv_at hl 0 rfl) ?_
          refine zget hE hK hP 0 rfl fd_Rv_65 rfl d_Rv_execute_118 ?_
          refine lv_iload_n hx hb d_Rv_execute_121 rfl (lv_at hl 1 rfl) ?_
          refine lv_sipush (v := (-4096)) hx hb d_Rv_execute_122 (by decide) ?_
          refine lv_iand hx hb d_Rv_execute_125 ?_
          refine lv_iadd hx hb d_Rv_execute_126 ?_
          refine zgoi (wr := [(ma, .inr (1, [.int (nI md), .int (nI bt), .int (nI lo), .int (nI nl), .ref sa, .ref ta, .ref fa, .ref pa, .int (nI pe), .ref ba])), (sa, .inl (cI, rn, .inl (sf))), (ta, .inl (cI, rn, .inl (tf))), (fa, .inl (cI, rn, .inl (uf))), (pa, .inl (cB, pn, .inl (pf))), (ba, .inl (cB, 4000, .inl (fun _ => 0))), (ua, .inr (2, [.ref ur, .int (nI ui), .int (nI uh)])), (ur, .inl (cB, 1000, .inl (uq))), (oa, .inr (2, [.ref orr, .int (nI oi), .int (nI oh)])), (orr, .inl (cB, 4096, .inl (oqf)))]) (zrunV (n := 2) (As := [.int w, .int (nx + (w &&& (-4096)))]) (rest := []) hE (c_Rv_keep l D cI cB cJ _ w (nx + (w &&& (-4096))) x wa wc ra ma ua oa ph dn nx fo rg) cb_Rv_keep lk_Rv_120 in_Rv_keep se_Rv_keep (zpreV (q0 := 0) hK hP hD rfl rfl rfl [0, 1] rfl rfl rfl) ⟨Nat.le_of_ble_eq_true rfl, Nat.le_of_ble_eq_true rfl, Nat.zero_le _, Nat.zero_le _⟩ rfl hl.1 rfl (Nat.le_of_ble_eq_true rfl) d_Rv_execute_127) hP hD hS hA [0, 1] [2, 3, 4, 5, 6, 7, 8, 9, 10, 11] rfl rfl rfl (by decide) (fun r16 u17 H locs hq15 hP hD hS => ?_)
          subst hq15
          have hP : va_P D zC [(ma, .inr (1, [.int (nI md), .int (nI bt), .int (nI lo), .int (nI nl), .ref sa, .ref ta, .ref fa, .ref pa, .int (nI pe), .ref ba])), (sa, .inl (cI, rn, .inl (sf))), (ta, .inl (cI, rn, .inl (tf))), (fa, .inl (cI, rn, .inl (uf))), (pa, .inl (cB, pn, .inl (pf))), (ba, .inl (cB, 4000, .inl (fun _ => 0))), (ua, .inr (2, [.ref ur, .int (nI ui), .int (nI uh)])), (ur, .inl (cB, 1000, .inl (uq))), (oa, .inr (2, [.ref orr, .int (nI oi), .int (nI oh)])), (orr, .inl (cB, 4096, .inl (oqf))), (x, .inr (0, [.ref wa, .int wc, .ref ra, .ref ma, .ref ua, .ref oa, .int ph, .int dn, .int nx, .int fo])), (ra, .inl (cI, 32, .inl ((sp_Rv_keep w (nx + (w &&& (-4096))) rg).2)))] _ := hP
          have hD : va_D A [(ma, .inr (1, [.int (nI md), .int (nI bt), .int (nI lo), .int (nI nl), .ref sa, .ref ta, .ref fa, .ref pa, .int (nI pe), .ref ba])), (sa, .inl (cI, rn, .inl (sf))), (ta, .inl (cI, rn, .inl (tf))), (fa, .inl (cI, rn, .inl (uf))), (pa, .inl (cB, pn, .inl (pf))), (ba, .inl (cB, 4000, .inl (fun _ => 0))), (ua, .inr (2, [.ref ur, .int (nI ui), .int (nI uh)])), (ur, .inl (cB, 1000, .inl (uq))), (oa, .inr (2, [.ref orr, .int (nI oi), .int (nI oh)])), (orr, .inl (cB, 4096, .inl (oqf))), (x, .inr (0, [.ref wa, .int wc, .ref ra, .ref ma, .ref ua, .ref oa, .int ph, .int dn, .int nx, .int fo])), (ra, .inl (cI, 32, .inl ((sp_Rv_keep w (nx + (w &&& (-4096))) rg).2)))] := hD
          have hs : xExec w rg M I O ph nx fo = ((sp_Rv_keep w (nx + (w &&& (-4096))) rg).1, (sp_Rv_keep w (nx + (w &&& (-4096))) rg).2, M, I, O, ph, fo) := by rw [xExec, if_neg h1, if_neg h5, if_neg h10, if_pos h14]
          have hP9 := hP.sub (ws' := [(x, .inr (0, [.ref wa, .int wc, .ref ra, .ref ma, .ref ua, .ref oa, .int ph, .int dn, .int nx, .int fo])), (ra, .inl (cI, 32, .inl ((sp_Rv_keep w (nx + (w &&& (-4096))) rg).2))), (ma, .inr (1, [.int (nI md), .int (nI bt), .int (nI lo), .int (nI nl), .ref sa, .ref ta, .ref fa, .ref pa, .int (nI pe), .ref ba])), (sa, .inl (cI, rn, .inl (sf))), (ta, .inl (cI, rn, .inl (tf))), (fa, .inl (cI, rn, .inl (uf))), (pa, .inl (cB, pn, .inl (pf))), (ba, .inl (cB, 4000, .inl (fun _ => 0))), (ua, .inr (2, [.ref ur, .int (nI ui), .int (nI uh)])), (ur, .inl (cB, 1000, .inl (uq))), (oa, .inr (2, [.ref orr, .int (nI oi), .int (nI oh)])), (orr, .inl (cB, 4096, .inl (oqf)))]) [10, 11, 0, 1, 2, 3, 4, 5, 6, 7, 8, 9] rfl
          have hD9 := hD.sub (ws' := [(x, .inr (0, [.ref wa, .int wc, .ref ra, .ref ma, .ref ua, .ref oa, .int ph, .int dn, .int nx, .int fo])), (ra, .inl (cI, 32, .inl ((sp_Rv_keep w (nx + (w &&& (-4096))) rg).2))), (ma, .inr (1, [.int (nI md), .int (nI bt), .int (nI lo), .int (nI nl), .ref sa, .ref ta, .ref fa, .ref pa, .int (nI pe), .ref ba])), (sa, .inl (cI, rn, .inl (sf))), (ta, .inl (cI, rn, .inl (tf))), (fa, .inl (cI, rn, .inl (uf))), (pa, .inl (cB, pn, .inl (pf))), (ba, .inl (cB, 4000, .inl (fun _ => 0))), (ua, .inr (2, [.ref ur, .int (nI ui), .int (nI uh)])), (ur, .inl (cB, 1000, .inl (uq))), (oa, .inr (2, [.ref orr, .int (nI oi), .int (nI oh)])), (orr, .inl (cB, 4096, .inl (oqf)))]) [10, 11, 0, 1, 2, 3, 4, 5, 6, 7, 8, 9] rfl rfl
          exact zreti hx hb hr rfl hlocks hS (((md, bt, lo, nl, pe), (rn, pn), (sa, ta, fa, pa), (sf, tf, uf, pf)), (ui, uh, uq), (oi, oh, oqf), (0, 0)) ⟨by rw [hs], by rw [hs]; exact ⟨hR, hlo, hr16⟩, by rw [hs]; exact hI, by rw [hs]; exact hO, Nat.le_of_eq (Nat.zero_add _), Nat.le_of_eq (Nat.zero_add _)⟩ rfl (by rw [hs]; exact hP9) (by rw [hs]; exact hD9) d_Rv_execute_130
        · rcases Decidable.em ((w &&& 127) = 35) with h18 | h18
          · refine lv_lookup (tgt := 164) (off := 160) hx hb d_Rv_execute_4 (by decide) (by rw [h18]; first | done | rfl) (by decide) ?_
            refine lv_aload_n hx hb d_Rv_execute_164 rfl (lv_at hl 0 rfl) ?_
            refine lv_iload_n hx hb d_Rv_execute_165 rfl (lv_at hl 1 rfl) ?_
            refine zgoi (wr := [(fa, .inl (cI, rn, .inl (uf))), (ba, .inl (cB, 4000, .inl (fun _ => 0))), (ua, .inr (2, [.ref ur, .int (nI ui), .int (nI uh)])), (ur, .inl (cB, 1000, .inl (uq))), (oa, .inr (2, [.ref orr, .int (nI oi), .int (nI oh)])), (orr, .inl (cB, 4096, .inl (oqf)))]) (zrunV (n := 1) (As := [.int w]) (rest := []) hE (c_Rv_store l D cI cB cJ _ w x wa wc ra ma ua oa ph dn nx fo rg md bt lo nl sa ta fa pa pe ba rn sf tf pn pf M uf hR) cb_Rv_store lk_Rv_138 in_Rv_store se_Rv_store (zpreV (q0 := 0) hK hP hD rfl rfl rfl [0, 1, 2, 3, 4, 6] rfl rfl rfl) ⟨Nat.le_of_ble_eq_true rfl, Nat.le_of_ble_eq_true rfl, Nat.zero_le _, Nat.zero_le _⟩ rfl hl.1 rfl (Nat.le_of_ble_eq_true rfl) d_Rv_execute_166) hP hD hS hA [0, 1, 2, 3, 4, 6] [5, 7, 8, 9, 10, 11] rfl rfl rfl (by decide) (fun r20 u21 H locs hq19 hP hD hS => ?_)
            obtain ⟨rfl, hR⟩ := hq19
            have hP : va_P D zC [(fa, .inl (cI, rn, .inl (uf))), (ba, .inl (cB, 4000, .inl (fun _ => 0))), (ua, .inr (2, [.ref ur, .int (nI ui), .int (nI uh)])), (ur, .inl (cB, 1000, .inl (uq))), (oa, .inr (2, [.ref orr, .int (nI oi), .int (nI oh)])), (orr, .inl (cB, 4096, .inl (oqf))), (x, .inr (0, [.ref wa, .int wc, .ref ra, .ref ma, .ref ua, .ref oa, .int ph, .int dn, .int nx, .int fo])), (ra, .inl (cI, 32, .inl (rg))), (ma, .inr (1, [.int (nI md), .int (nI bt), .int (nI lo), .int (nI nl), .ref sa, .ref ta, .ref fa, .ref pa, .int (nI pe), .ref ba])), (sa, .inl (cI, rn, .inl (sf))), (ta, .inl (cI, rn, .inl (tf))), (pa, .inl (cB, pn, .inl (u21)))] _ := hP
            have hD : va_D A [(fa, .inl (cI, rn, .inl (uf))), (ba, .inl (cB, 4000, .inl (fun _ => 0))), (ua, .inr (2, [.ref ur, .int (nI ui), .int (nI uh)])), (ur, .inl (cB, 1000, .inl (uq))), (oa, .inr (2, [.ref orr, .int (nI oi), .int (nI oh)])), (orr, .inl (cB, 4096, .inl (oqf))), (x, .inr (0, [.ref wa, .int wc, .ref ra, .ref ma, .ref ua, .ref oa, .int ph, .int dn, .int nx, .int fo])), (ra, .inl (cI, 32, .inl (rg))), (ma, .inr (1, [.int (nI md), .int (nI bt), .int (nI lo), .int (nI nl), .ref sa, .ref ta, .ref fa, .ref pa, .int (nI pe), .ref ba])), (sa, .inl (cI, rn, .inl (sf))), (ta, .inl (cI, rn, .inl (tf))), (pa, .inl (cB, pn, .inl (u21)))] := hD
            have hs : xExec w rg M I O ph nx fo = ((xStore w rg M).1, rg, (xStore w rg M).2, I, O, ph, fo) := by rw [xExec, if_neg h1, if_neg h5, if_neg h10, if_neg h14, if_pos h18]
            have hP9 := hP.sub (ws' := [(x, .inr (0, [.ref wa, .int wc, .ref ra, .ref ma, .ref ua, .ref oa, .int ph, .int dn, .int nx, .int fo])), (ra, .inl (cI, 32, .inl (rg))), (ma, .inr (1, [.int (nI md), .int (nI bt), .int (nI lo), .int (nI nl), .ref sa, .ref ta, .ref fa, .ref pa, .int (nI pe), .ref ba])), (sa, .inl (cI, rn, .inl (sf))), (ta, .inl (cI, rn, .inl (tf))), (fa, .inl (cI, rn, .inl (uf))), (pa, .inl (cB, pn, .inl (u21))), (ba, .inl (cB, 4000, .inl (fun _ => 0))), (ua, .inr (2, [.ref ur, .int (nI ui), .int (nI uh)])), (ur, .inl (cB, 1000, .inl (uq))), (oa, .inr (2, [.ref orr, .int (nI oi), .int (nI oh)])), (orr, .inl (cB, 4096, .inl (oqf)))]) [6, 7, 8, 9, 10, 0, 11, 1, 2, 3, 4, 5] rfl
            have hD9 := hD.sub (ws' := [(x, .inr (0, [.ref wa, .int wc, .ref ra, .ref ma, .ref ua, .ref oa, .int ph, .int dn, .int nx, .int fo])), (ra, .inl (cI, 32, .inl (rg))), (ma, .inr (1, [.int (nI md), .int (nI bt), .int (nI lo), .int (nI nl), .ref sa, .ref ta, .ref fa, .ref pa, .int (nI pe), .ref ba])), (sa, .inl (cI, rn, .inl (sf))), (ta, .inl (cI, rn, .inl (tf))), (fa, .inl (cI, rn, .inl (uf))), (pa, .inl (cB, pn, .inl (u21))), (ba, .inl (cB, 4000, .inl (fun _ => 0))), (ua, .inr (2, [.ref ur, .int (nI ui), .int (nI uh)])), (ur, .inl (cB, 1000, .inl (uq))), (oa, .inr (2, [.ref orr, .int (nI oi), .int (nI oh)])), (orr, .inl (cB, 4096, .inl (oqf)))]) [6, 7, 8, 9, 10, 0, 11, 1, 2, 3, 4, 5] rfl rfl
            exact zreti hx hb hr rfl hlocks hS (((md, bt, lo, nl, pe), (rn, pn), (sa, ta, fa, pa), (sf, tf, uf, u21)), (ui, uh, uq), (oi, oh, oqf), (0, 0)) ⟨by rw [hs], by rw [hs]; exact ⟨hR, hlo.trans (congrArg List.length (mLs_store _ _ _).symm), hr16⟩, by rw [hs]; exact hI, by rw [hs]; exact hO, Nat.le_of_eq (Nat.zero_add _), Nat.le_of_eq (Nat.zero_add _)⟩ rfl (by rw [hs]; exact hP9) (by rw [hs]; exact hD9) d_Rv_execute_169
          · rcases Decidable.em ((w &&& 127) = 51) with h22 | h22
            · refine lv_lookup (tgt := 176) (off := 172) hx hb d_Rv_execute_4 (by decide) (by rw [h22]; first | done | rfl) (by decide) ?_
              refine lv_aload_n hx hb d_Rv_execute_176 rfl (lv_at hl 0 rfl) ?_
              refine lv_iload_n hx hb d_Rv_execute_177 rfl (lv_at hl 1 rfl) ?_
              refine zgoi (wr := [(ma, .inr (1, [.int (nI md), .int (nI bt), .int (nI lo), .int (nI nl), .ref sa, .ref ta, .ref fa, .ref pa, .int (nI pe), .ref ba])), (sa, .inl (cI, rn, .inl (sf))), (ta, .inl (cI, rn, .inl (tf))), (fa, .inl (cI, rn, .inl (uf))), (pa, .inl (cB, pn, .inl (pf))), (ba, .inl (cB, 4000, .inl (fun _ => 0))), (ua, .inr (2, [.ref ur, .int (nI ui), .int (nI uh)])), (ur, .inl (cB, 1000, .inl (uq))), (oa, .inr (2, [.ref orr, .int (nI oi), .int (nI oh)])), (orr, .inl (cB, 4096, .inl (oqf)))]) (zrunV (n := 1) (As := [.int w]) (rest := []) hE (c_Rv_operate l D cI cB cJ _ w x wa wc ra ma ua oa ph dn nx fo rg) cb_Rv_operate lk_Rv_144 in_Rv_operate se_Rv_operate (zpreV (q0 := 0) hK hP hD rfl rfl rfl [0, 1] rfl rfl rfl) ⟨Nat.le_of_ble_eq_true rfl, Nat.le_of_ble_eq_true rfl, Nat.zero_le _, Nat.zero_le _⟩ rfl hl.1 rfl (Nat.le_of_ble_eq_true rfl) d_Rv_execute_178) hP hD hS hA [0, 1] [2, 3, 4, 5, 6, 7, 8, 9, 10, 11] rfl rfl rfl (by decide) (fun r24 u25 H locs hq23 hP hD hS => ?_)
              subst hq23
              have hP : va_P D zC [(ma, .inr (1, [.int (nI md), .int (nI bt), .int (nI lo), .int (nI nl), .ref sa, .ref ta, .ref fa, .ref pa, .int (nI pe), .ref ba])), (sa, .inl (cI, rn, .inl (sf))), (ta, .inl (cI, rn, .inl (tf))), (fa, .inl (cI, rn, .inl (uf))), (pa, .inl (cB, pn, .inl (pf))), (ba, .inl (cB, 4000, .inl (fun _ => 0))), (ua, .inr (2, [.ref ur, .int (nI ui), .int (nI uh)])), (ur, .inl (cB, 1000, .inl (uq))), (oa, .inr (2, [.ref orr, .int (nI oi), .int (nI oh)])), (orr, .inl (cB, 4096, .inl (oqf))), (x, .inr (0, [.ref wa, .int wc, .ref ra, .ref ma, .ref ua, .ref oa, .int ph, .int dn, .int nx, .int fo])), (ra, .inl (cI, 32, .inl ((sp_Rv_operate w rg).2)))] _ := hP
              have hD : va_D A [(ma, .inr (1, [.int (nI md), .int (nI bt), .int (nI lo), .int (nI nl), .ref sa, .ref ta, .ref fa, .ref pa, .int (nI pe), .ref ba])), (sa, .inl (cI, rn, .inl (sf))), (ta, .inl (cI, rn, .inl (tf))), (fa, .inl (cI, rn, .inl (uf))), (pa, .inl (cB, pn, .inl (pf))), (ba, .inl (cB, 4000, .inl (fun _ => 0))), (ua, .inr (2, [.ref ur, .int (nI ui), .int (nI uh)])), (ur, .inl (cB, 1000, .inl (uq))), (oa, .inr (2, [.ref orr, .int (nI oi), .int (nI oh)])), (orr, .inl (cB, 4096, .inl (oqf))), (x, .inr (0, [.ref wa, .int wc, .ref ra, .ref ma, .ref ua, .ref oa, .int ph, .int dn, .int nx, .int fo])), (ra, .inl (cI, 32, .inl ((sp_Rv_operate w rg).2)))] := hD
              have hs : xExec w rg M I O ph nx fo = ((sp_Rv_operate w rg).1, (sp_Rv_operate w rg).2, M, I, O, ph, fo) := by rw [xExec, if_neg h1, if_neg h5, if_neg h10, if_neg h14, if_neg h18, if_pos h22]
              have hP9 := hP.sub (ws' := [(x, .inr (0, [.ref wa, .int wc, .ref ra, .ref ma, .ref ua, .ref oa, .int ph, .int dn, .int nx, .int fo])), (ra, .inl (cI, 32, .inl ((sp_Rv_operate w rg).2))), (ma, .inr (1, [.int (nI md), .int (nI bt), .int (nI lo), .int (nI nl), .ref sa, .ref ta, .ref fa, .ref pa, .int (nI pe), .ref ba])), (sa, .inl (cI, rn, .inl (sf))), (ta, .inl (cI, rn, .inl (tf))), (fa, .inl (cI, rn, .inl (uf))), (pa, .inl (cB, pn, .inl (pf))), (ba, .inl (cB, 4000, .inl (fun _ => 0))), (ua, .inr (2, [.ref ur, .int (nI ui), .int (nI uh)])), (ur, .inl (cB, 1000, .inl (uq))), (oa, .inr (2, [.ref orr, .int (nI oi), .int (nI oh)])), (orr, .inl (cB, 4096, .inl (oqf)))]) [10, 11, 0, 1, 2, 3, 4, 5, 6, 7, 8, 9] rfl
              have hD9 := hD.sub (ws' := [(x, .inr (0, [.ref wa, .int wc, .ref ra, .ref ma, .ref ua, .ref oa, .int ph, .int dn, .int nx, .int fo])), (ra, .inl (cI, 32, .inl ((sp_Rv_operate w rg).2))), (ma, .inr (1, [.int (nI md), .int (nI bt), .int (nI lo), .int (nI nl), .ref sa, .ref ta, .ref fa, .ref pa, .int (nI pe), .ref ba])), (sa, .inl (cI, rn, .inl (sf))), (ta, .inl (cI, rn, .inl (tf))), (fa, .inl (cI, rn, .inl (uf))), (pa, .inl (cB, pn, .inl (pf))), (ba, .inl (cB, 4000, .inl (fun _ => 0))), (ua, .inr (2, [.ref ur, .int (nI ui), .int (nI uh)])), (ur, .inl (cB, 1000, .inl (uq))), (oa, .inr (2, [.ref orr, .int (nI oi), .int (nI oh)])), (orr, .inl (cB, 4096, .inl (oqf)))]) [10, 11, 0, 1, 2, 3, 4, 5, 6, 7, 8, 9] rfl rfl
              exact zreti hx hb hr rfl hlocks hS (((md, bt, lo, nl, pe), (rn, pn), (sa, ta, fa, pa), (sf, tf, uf, pf)), (ui, uh, uq), (oi, oh, oqf), (0, 0)) ⟨by rw [hs], by rw [hs]; exact ⟨hR, hlo, hr16⟩, by rw [hs]; exact hI, by rw [hs]; exact hO, Nat.le_of_eq (Nat.zero_add _), Nat.le_of_eq (Nat.zero_add _)⟩ rfl (by rw [hs]; exact hP9) (by rw [hs]; exact hD9) d_Rv_execute_181
            · rcases Decidable.em ((w &&& 127) = 55) with h26 | h26
              · refine lv_lookup (tgt := 104) (off := 100) hx hb d_Rv_execute_4 (by decide) (by rw [h26]; first | done | rfl) (by decide) ?_
                refine lv_aload_n hx hb d_Rv_execute_104 rfl (lv_at hl 0 rfl) ?_
                refine lv_iload_n hx hb d_Rv_execute_105 rfl (lv_at hl 1 rfl) ?_
                refine lv_iload_n hx hb d_Rv_execute_106 rfl (lv_at hl 1 rfl) ?_
                refine lv_sipush (v := (-4096)) hx hb d_Rv_execute_107 (by decide) ?_
                refine lv_iand hx hb d_Rv_execute_110 ?_
                refine zgoi (wr := [(ma, .inr (1, [.int (nI md), .int (nI bt), .int (nI lo), .int (nI nl), .ref sa, .ref ta, .ref fa, .ref pa, .int (nI pe), .ref ba])), (sa, .inl (cI, rn, .inl (sf))), (ta, .inl (cI, rn, .inl (tf))), (fa, .inl (cI, rn, .inl (uf))), (pa, .inl (cB, pn, .inl (pf))), (ba, .inl (cB, 4000, .inl (fun _ => 0))), (ua, .inr (2, [.ref ur, .int (nI ui), .int (nI uh)])), (ur, .inl (cB, 1000, .inl (uq))), (oa, .inr (2, [.ref orr, .int (nI oi), .int (nI oh)])), (orr, .inl (cB, 4096, .inl (oqf)))]) (zrunV (n := 2) (As := [.int w, .int (w &&& (-4096))]) (rest := []) hE (c_Rv_keep l D cI cB cJ _ w (w &&& (-4096)) x wa wc ra ma ua oa ph dn nx fo rg) cb_Rv_keep lk_Rv_120 in_Rv_keep se_Rv_keep (zpreV (q0 := 0) hK hP hD rfl rfl rfl [0, 1] rfl rfl rfl) ⟨Nat.le_of_ble_eq_true rfl, Nat.le_of_ble_eq_true rfl, Nat.zero_le _, Nat.zero_le _⟩ rfl hl.1 rfl (Nat.le_of_ble_eq_true rfl) d_Rv_execute_111) hP hD hS hA [0, 1] [2, 3, 4, 5, 6, 7, 8, 9, 10, 11] rfl rfl rfl (by decide) (fun r28 u29 H locs hq27 hP hD hS => ?_)
                subst hq27
                have hP : va_P D zC [(ma, .inr (1, [.int (nI md), .int (nI bt), .int (nI lo), .int (nI nl), .ref sa, .ref ta, .ref fa, .ref pa, .int (nI pe), .ref ba])), (sa, .inl (cI, rn, .inl (sf))), (ta, .inl (cI, rn, .inl (tf))), (fa, .inl (cI, rn, .inl (uf))), (pa, .inl (cB, pn, .inl (pf))), (ba, .inl (cB, 4000, .inl (fun _ => 0))), (ua, .inr (2, [.ref ur, .int (nI ui), .int (nI uh)])), (ur, .inl (cB, 1000, .inl (uq))), (oa, .inr (2, [.ref orr, .int (nI oi), .int (nI oh)])), (orr, .inl (cB, 4096, .inl (oqf))), (x, .inr (0, [.ref wa, .int wc, .ref ra, .ref ma, .ref ua, .ref oa, .int ph, .int dn, .int nx, .int fo])), (ra, .inl (cI, 32, .inl ((sp_Rv_keep w (w &&& (-4096)) rg).2)))] _ := hP
                have hD : va_D A [(ma, .inr (1, [.int (nI md), .int (nI bt), .int (nI lo), .int (nI nl), .ref sa, .ref ta, .ref fa, .ref pa, .int (nI pe), .ref ba])), (sa, .inl (cI, rn, .inl (sf))), (ta, .inl (cI, rn, .inl (tf))), (fa, .inl (cI, rn, .inl (uf))), (pa, .inl (cB, pn, .inl (pf))), (ba, .inl (cB, 4000, .inl (fun _ => 0))), (ua, .inr (2, [.ref ur, .int (nI ui), .int (nI uh)])), (ur, .inl (cB, 1000, .inl (uq))), (oa, .inr (2, [.ref orr, .int (nI oi), .int (nI oh)])), (orr, .inl (cB, 4096, .inl (oqf))), (x, .inr (0, [.ref wa, .int wc, .ref ra, .ref ma, .ref ua, .ref oa, .int ph, .int dn, .int nx, .int fo])), (ra, .inl (cI, 32, .inl ((sp_Rv_keep w (w &&& (-4096)) rg).2)))] := hD
                have hs : xExec w rg M I O ph nx fo = ((sp_Rv_keep w (w &&& (-4096)) rg).1, (sp_Rv_keep w (w &&& (-4096)) rg).2, M, I, O, ph, fo) := by rw [xExec, if_neg h1, if_neg h5, if_neg h10, if_neg h14, if_neg h18, if_neg h22, if_pos h26]
                have hP9 := hP.sub (ws' := [(x, .inr (0, [.ref wa, .int wc, .ref ra, .ref ma, .ref ua, .ref oa, .int ph, .int dn, .int nx, .int fo])), (ra, .inl (cI, 32, .inl ((sp_Rv_keep w (w &&& (-4096)) rg).2))), (ma, .inr (1, [.int (nI md), .int (nI bt), .int (nI lo), .int (nI nl), .ref sa, .ref ta, .ref fa, .ref pa, .int (nI pe), .ref ba])), (sa, .inl (cI, rn, .inl (sf))), (ta, .inl (cI, rn, .inl (tf))), (fa, .inl (cI, rn, .inl (uf))), (pa, .inl (cB, pn, .inl (pf))), (ba, .inl (cB, 4000, .inl (fun _ => 0))), (ua, .inr (2, [.ref ur, .int (nI ui), .int (nI uh)])), (ur, .inl (cB, 1000, .inl (uq))), (oa, .inr (2, [.ref orr, .int (nI oi), .int (nI oh)])), (orr, .inl (cB, 4096, .inl (oqf)))]) [10, 11, 0, 1, 2, 3, 4, 5, 6, 7, 8, 9] rfl
                have hD9 := hD.sub (ws' := [(x, .inr (0, [.ref wa, .int wc, .ref ra, .ref ma, .ref ua, .ref oa, .int ph, .int dn, .int nx, .int fo])), (ra, .inl (cI, 32, .inl ((sp_Rv_keep w (w &&& (-4096)) rg).2))), (ma, .inr (1, [.int (nI md), .int (nI bt), .int (nI lo), .int (nI nl), .ref sa, .ref ta, .ref fa, .ref pa, .int (nI pe), .ref ba])), (sa, .inl (cI, rn, .inl (sf))), (ta, .inl (cI, rn, .inl (tf))), (fa, .inl (cI, rn, .inl (uf))), (pa, .inl (cB, pn, .inl (pf))), (ba, .inl (cB, 4000, .inl (fun _ => 0))), (ua, .inr (2, [.ref ur, .int (nI ui), .int (nI uh)])), (ur, .inl (cB, 1000, .inl (uq))), (oa, .inr (2, [.ref orr, .int (nI oi), .int (nI oh)])), (orr, .inl (cB, 4096, .inl (oqf)))]) [10, 11, 0, 1, 2, 3, 4, 5, 6, 7, 8, 9] rfl rfl
                exact zreti hx hb hr rfl hlocks hS (((md, bt, lo, nl, pe), (rn, pn), (sa, ta, fa, pa), (sf, tf, uf, pf)), (ui, uh, uq), (oi, oh, oqf), (0, 0)) ⟨by rw [hs], by rw [hs]; exact ⟨hR, hlo, hr16⟩, by rw [hs]; exact hI, by rw [hs]; exact hO, Nat.le_of_eq (Nat.zero_add _), Nat.le_of_eq (Nat.zero_add _)⟩ rfl (by rw [hs]; exact hP9) (by rw [hs]; exact hD9) d_Rv_execute_114
              · rcases Decidable.em ((w &&& 127) = 99) with h30 | h30
                · refine lv_lookup (tgt := 152) (off := 148) hx hb d_Rv_execute_4 (by decide) (by rw [h30]; first | done | rfl) (by decide) ?_
                  refine lv_aload_n hx hb d_Rv_execute_152 rfl (lv_at hl 0 rfl) ?_
                  refine lv_iload_n hx hb d_Rv_execute_153 rfl (lv_at hl 1 rfl) ?_
                  refine zgoi (wr := [(ma, .inr (1, [.int (nI md), .int (nI bt), .int (nI lo), .int (nI nl), .ref sa, .ref ta, .ref fa, .ref pa, .int (nI pe), .ref ba])), (sa, .inl (cI, rn, .inl (sf))), (ta, .inl (cI, rn, .inl (tf))), (fa, .inl (cI, rn, .inl (uf))), (pa, .inl (cB, pn, .inl (pf))), (ba, .inl (cB, 4000, .inl (fun _ => 0))), (ua, .inr (2, [.ref ur, .int (nI ui), .int (nI uh)])), (ur, .inl (cB, 1000, .inl (uq))), (oa, .inr (2, [.ref orr, .int (nI oi), .int (nI oh)])), (orr, .inl (cB, 4096, .inl (oqf)))]) (zrunV (n := 1) (As := [.int w]) (rest := []) hE (c_Rv_branch l D cI cB cJ _ w x wa wc ra ma ua oa ph dn nx fo rg) cb_Rv_branch lk_Rv_132 in_Rv_branch se_Rv_branch (zpreV (q0 := 0) hK hP hD rfl rfl rfl [0, 1] rfl rfl rfl) ⟨Nat.le_of_ble_eq_true rfl, Nat.le_of_ble_eq_true rfl, Nat.zero_le _, Nat.zero_le _⟩ rfl hl.1 rfl (Nat.le_of_ble_eq_true rfl) d_Rv_execute_154) hP hD hS hA [0, 1] [2, 3, 4, 5, 6, 7, 8, 9, 10, 11] rfl rfl rfl (by decide) (fun r32 u33 H locs hq31 hP hD hS => ?_)
                  subst hq31
                  have hP : va_P D zC [(ma, .inr (1, [.int (nI md), .int (nI bt), .int (nI lo), .int (nI nl), .ref sa, .ref ta, .ref fa, .ref pa, .int (nI pe), .ref ba])), (sa, .inl (cI, rn, .inl (sf))), (ta, .inl (cI, rn, .inl (tf))), (fa, .inl (cI, rn, .inl (uf))), (pa, .inl (cB, pn, .inl (pf))), (ba, .inl (cB, 4000, .inl (fun _ => 0))), (ua, .inr (2, [.ref ur, .int (nI ui), .int (nI uh)])), (ur, .inl (cB, 1000, .inl (uq))), (oa, .inr (2, [.ref orr, .int (nI oi), .int (nI oh)])), (orr, .inl (cB, 4096, .inl (oqf))), (x, .inr (0, [.ref wa, .int wc, .ref ra, .ref ma, .ref ua, .ref oa, .int ph, .int dn, .int nx, .int ((sp_Rv_branch w nx fo rg).2)])), (ra, .inl (cI, 32, .inl (rg)))] _ := hP
                  have hD : va_D A [(ma, .inr (1, [.int (nI md), .int (nI bt), .int (nI lo), .int (nI nl), .ref sa, .ref ta, .ref fa, .ref pa, .int (nI pe), .ref ba])), (sa, .inl (cI, rn, .inl (sf))), (ta, .inl (cI, rn, .inl (tf))), (fa, .inl (cI, rn, .inl (uf))), (pa, .inl (cB, pn, .inl (pf))), (ba, .inl (cB, 4000, .inl (fun _ => 0))), (ua, .inr (2, [.ref ur, .int (nI ui), .int (nI uh)])), (ur, .inl (cB, 1000, .inl (uq))), (oa, .inr (2, [.ref orr, .int (nI oi), .int (nI oh)])), (orr, .inl (cB, 4096, .inl (oqf))), (x, .inr (0, [.ref wa, .int wc, .ref ra, .ref ma, .ref ua, .ref oa, .int ph, .int dn, .int nx, .int ((sp_Rv_branch w nx fo rg).2)])), (ra, .inl (cI, 32, .inl (rg)))] := hD
                  have hs : xExec w rg M I O ph nx fo = ((sp_Rv_branch w nx fo rg).1, rg, M, I, O, ph, (sp_Rv_branch w nx fo rg).2) := by rw [xExec, if_neg h1, if_neg h5, if_neg h10, if_neg h14, if_neg h18, if_neg h22, if_neg h26, if_pos h30]
                  have hP9 := hP.sub (ws' := [(x, .inr (0, [.ref wa, .int wc, .ref ra, .ref ma, .ref ua, .ref oa, .int ph, .int dn, .int nx, .int ((sp_Rv_branch w nx fo rg).2)])), (ra, .inl (cI, 32, .inl (rg))), (ma, .inr (1, [.int (nI md), .int (nI bt), .int (nI lo), .int (nI nl), .ref sa, .ref ta, .ref fa, .ref pa, .int (nI pe), .ref ba])), (sa, .inl (cI, rn, .inl (sf))), (ta, .inl (cI, rn, .inl (tf))), (fa, .inl (cI, rn, .inl (uf))), (pa, .inl (cB, pn, .inl (pf))), (ba, .inl (cB, 4000, .inl (fun _ => 0))), (ua, .inr (2, [.ref ur, .int (nI ui), .int (nI uh)])), (ur, .inl (cB, 1000, .inl (uq))), (oa, .inr (2, [.ref orr, .int (nI oi), .int (nI oh)])), (orr, .inl (cB, 4096, .inl (oqf)))]) [10, 11, 0, 1, 2, 3, 4, 5, 6, 7, 8, 9] rfl
                  have hD9 := hD.sub (ws' := [(x, .inr (0, [.ref wa, .int wc, .ref ra, .ref ma, .ref ua, .ref oa, .int ph, .int dn, .int nx, .int ((sp_Rv_branch w nx fo rg).2)])), (ra, .inl (cI, 32, .inl (rg))), (ma, .inr (1, [.int (nI md), .int (nI bt), .int (nI lo), .int (nI nl), .ref sa, .ref ta, .ref fa, .ref pa, .int (nI pe), .ref ba])), (sa, .inl (cI, rn, .inl (sf))), (ta, .inl (cI, rn, .inl (tf))), (fa, .inl (cI, rn, .inl (uf))), (pa, .inl (cB, pn, .inl (pf))), (ba, .inl (cB, 4000, .inl (fun _ => 0))), (ua, .inr (2, [.ref ur, .int (nI ui), .int (nI uh)])), (ur, .inl (cB, 1000, .inl (uq))), (oa, .inr (2, [.ref orr, .int (nI oi), .int (nI oh)])), (orr, .inl (cB, 4096, .inl (oqf)))]) [10, 11, 0, 1, 2, 3, 4, 5, 6, 7, 8, 9] rfl rfl
                  exact zreti hx hb hr rfl hlocks hS (((md, bt, lo, nl, pe), (rn, pn), (sa, ta, fa, pa), (sf, tf, uf, pf)), (ui, uh, uq), (oi, oh, oqf), (0, 0)) ⟨by rw [hs], by rw [hs]; exact ⟨hR, hlo, hr16⟩, by rw [hs]; exact hI, by rw [hs]; exact hO, Nat.le_of_eq (Nat.zero_add _), Nat.le_of_eq (Nat.zero_add _)⟩ rfl (by rw [hs]; exact hP9) (by rw [hs]; exact hD9) d_Rv_execute_157
                · rcases Decidable.em ((w &&& 127) = 103) with h34 | h34
                  · refine lv_lookup (tgt := 146) (off := 142) hx hb d_Rv_execute_4 (by decide) (by rw [h34]; first | done | rfl) (by decide) ?_
                    refine lv_aload_n hx hb d_Rv_execute_146 rfl (lv_at hl 0 rfl) ?_
                    refine lv_iload_n hx hb d_Rv_execute_147 rfl (lv_at hl 1 rfl) ?_
                    refine zgoi (wr := [(ma, .inr (1, [.int (nI md), .int (nI bt), .int (nI lo), .int (nI nl), .ref sa, .ref ta, .ref fa, .ref pa, .int (nI pe), .ref ba])), (sa, .inl (cI, rn, .inl (sf))), (ta, .inl (cI, rn, .inl (tf))), (fa, .inl (cI, rn, .inl (uf))), (pa, .inl (cB, pn, .inl (pf))), (ba, .inl (cB, 4000, .inl (fun _ => 0))), (ua, .inr (2, [.ref ur, .int (nI ui), .int (nI uh)])), (ur, .inl (cB, 1000, .inl (uq))), (oa, .inr (2, [.ref orr, .int (nI oi), .int (nI oh)])), (orr, .inl (cB, 4096, .inl (oqf)))]) (zrunV (n := 1) (As := [.int w]) (rest := []) hE (c_Rv_jumpByRegister l D cI cB cJ _ w x wa wc ra ma ua oa ph dn nx fo rg) cb_Rv_jumpByRegister lk_Rv_129 in_Rv_jumpByRegister se_Rv_jumpByRegister (zpreV (q0 := 0) hK hP hD rfl rfl rfl [0, 1] rfl rfl rfl) ⟨Nat.le_of_ble_eq_true rfl, Nat.le_of_ble_eq_true rfl, Nat.zero_le _, Nat.zero_le _⟩ rfl hl.1 rfl (Nat.le_of_ble_eq_true rfl) d_Rv_execute_148) hP hD hS hA [0, 1] [2, 3, 4, 5, 6, 7, 8, 9, 10, 11] rfl rfl rfl (by decide) (fun r36 u37 H locs hq35 hP hD hS => ?_)
                    subst hq35
                    have hP : va_P D zC [(ma, .inr (1, [.int (nI md), .int (nI bt), .int (nI lo), .int (nI nl), .ref sa, .ref ta, .ref fa, .ref pa, .int (nI pe), .ref ba])), (sa, .inl (cI, rn, .inl (sf))), (ta, .inl (cI, rn, .inl (tf))), (fa, .inl (cI, rn, .inl (uf))), (pa, .inl (cB, pn, .inl (pf))), (ba, .inl (cB, 4000, .inl (fun _ => 0))), (ua, .inr (2, [.ref ur, .int (nI ui), .int (nI uh)])), (ur, .inl (cB, 1000, .inl (uq))), (oa, .inr (2, [.ref orr, .int (nI oi), .int (nI oh)])), (orr, .inl (cB, 4096, .inl (oqf))), (x, .inr (0, [.ref wa, .int wc, .ref ra, .ref ma, .ref ua, .ref oa, .int ph, .int dn, .int nx, .int ((sp_Rv_jumpByRegister w nx fo rg).2.1)])), (ra, .inl (cI, 32, .inl ((sp_Rv_jumpByRegister w nx fo rg).2.2)))] _ := hP
                    have hD : va_D A [(ma, .inr (1, [.int (nI md), .int (nI bt), .int (nI lo), .int (nI nl), .ref sa, .ref ta, .ref fa, .ref pa, .int (nI pe), .ref ba])), (sa, .inl (cI, rn, .inl (sf))), (ta, .inl (cI, rn, .inl (tf))), (fa, .inl (cI, rn, .inl (uf))), (pa, .inl (cB, pn, .inl (pf))), (ba, .inl (cB, 4000, .inl (fun _ => 0))), (ua, .inr (2, [.ref ur, .int (nI ui), .int (nI uh)])), (ur, .inl (cB, 1000, .inl (uq))), (oa, .inr (2, [.ref orr, .int (nI oi), .int (nI oh)])), (orr, .inl (cB, 4096, .inl (oqf))), (x, .inr (0, [.ref wa, .int wc, .ref ra, .ref ma, .ref ua, .ref oa, .int ph, .int dn, .int nx, .int ((sp_Rv_jumpByRegister w nx fo rg).2.1)])), (ra, .inl (cI, 32, .inl ((sp_Rv_jumpByRegister w nx fo rg).2.2)))] := hD
                    have hs : xExec w rg M I O ph nx fo = ((sp_Rv_jumpByRegister w nx fo rg).1, (sp_Rv_jumpByRegister w nx fo rg).2.2, M, I, O, ph, (sp_Rv_jumpByRegister w nx fo rg).2.1) := by rw [xExec, if_neg h1, if_neg h5, if_neg h10, if_neg h14, if_neg h18, if_neg h22, if_neg h26, if_neg h30, if_pos h34]
                    have hP9 := hP.sub (ws' := [(x, .inr (0, [.ref wa, .int wc, .ref ra, .ref ma, .ref ua, .ref oa, .int ph, .int dn, .int nx, .int ((sp_Rv_jumpByRegister w nx fo rg).2.1)])), (ra, .inl (cI, 32, .inl ((sp_Rv_jumpByRegister w nx fo rg).2.2))), (ma, .inr (1, [.int (nI md), .int (nI bt), .int (nI lo), .int (nI nl), .ref sa, .ref ta, .ref fa, .ref pa, .int (nI pe), .ref ba])), (sa, .inl (cI, rn, .inl (sf))), (ta, .inl (cI, rn, .inl (tf))), (fa, .inl (cI, rn, .inl (uf))), (pa, .inl (cB, pn, .inl (pf))), (ba, .inl (cB, 4000, .inl (fun _ => 0))), (ua, .inr (2, [.ref ur, .int (nI ui), .int (nI uh)])), (ur, .inl (cB, 1000, .inl (uq))), (oa, .inr (2, [.ref orr, .int (nI oi), .int (nI oh)])), (orr, .inl (cB, 4096, .inl (oqf)))]) [10, 11, 0, 1, 2, 3, 4, 5, 6, 7, 8, 9] rfl
                    have hD9 := hD.sub (ws' := [(x, .inr (0, [.ref wa, .int wc, .ref ra, .ref ma, .ref ua, .ref oa, .int ph, .int dn, .int nx, .int ((sp_Rv_jumpByRegister w nx fo rg).2.1)])), (ra, .inl (cI, 32, .inl ((sp_Rv_jumpByRegister w nx fo rg).2.2))), (ma, .inr (1, [.int (nI md), .int (nI bt), .int (nI lo), .int (nI nl), .ref sa, .ref ta, .ref fa, .ref pa, .int (nI pe), .ref ba])), (sa, .inl (cI, rn, .inl (sf))), (ta, .inl (cI, rn, .inl (tf))), (fa, .inl (cI, rn, .inl (uf))), (pa, .inl (cB, pn, .inl (pf))), (ba, .inl (cB, 4000, .inl (fun _ => 0))), (ua, .inr (2, [.ref ur, .int (nI ui), .int (nI uh)])), (ur, .inl (cB, 1000, .inl (uq))), (oa, .inr (2, [.ref orr, .int (nI oi), .int (nI oh)])), (orr, .inl (cB, 4096, .inl (oqf)))]) [10, 11, 0, 1, 2, 3, 4, 5, 6, 7, 8, 9] rfl rfl
                    exact zreti hx hb hr rfl hlocks hS (((md, bt, lo, nl, pe), (rn, pn), (sa, ta, fa, pa), (sf, tf, uf, pf)), (ui, uh, uq), (oi, oh, oqf), (0, 0)) ⟨by rw [hs], by rw [hs]; exact ⟨hR, hlo, hr16⟩, by rw [hs]; exact hI, by rw [hs]; exact hO, Nat.le_of_eq (Nat.zero_add _), Nat.le_of_eq (Nat.zero_add _)⟩ rfl (by rw [hs]; exact hP9) (by rw [hs]; exact hD9) d_Rv_execute_151
                  · rcases Decidable.em ((w &&& 127) = 111) with h38 | h38
                    · refine lv_lookup (tgt := 131) (off := 127) hx hb d_Rv_execute_4 (by decide) (by rw [h38]; first | done | rfl) (by decide) ?_
                      refine lv_aload_n hx hb d_Rv_execute_131 rfl (lv_at hl 0 rfl) ?_
                      refine lv_iload_n hx hb d_Rv_execute_132 rfl (lv_at hl 1 rfl) ?_
                      refine lv_aload_n hx hb d_Rv_execute_133 rfl (lv_at hl 0 rfl) ?_
                      refine zget hE hK hP 0 rfl fd_Rv_65 rfl d_Rv_execute_134 ?_
                      refine lv_iload_n hx hb d_Rv_execute_137 rfl (lv_at hl 1 rfl) ?_
                      refine zgoi (wr := [(x, .inr (0, [.ref wa, .int wc, .ref ra, .ref ma, .ref ua, .ref oa, .int ph, .int dn, .int nx, .int fo])), (ra, .inl (cI, 32, .inl (rg))), (ma, .inr (1, [.int (nI md), .int (nI bt), .int (nI lo), .int (nI nl), .ref sa, .ref ta, .ref fa, .ref pa, .int (nI pe), .ref ba])), (sa, .inl (cI, rn, .inl (sf))), (ta, .inl (cI, rn, .inl (tf))), (fa, .inl (cI, rn, .inl (uf))), (pa, .inl (cB, pn, .inl (pf))), (ba, .inl (cB, 4000, .inl (fun _ => 0))), (ua, .inr (2, [.ref ur, .int (nI ui), .int (nI uh)])), (ur, .inl (cB, 1000, .inl (uq))), (oa, .inr (2, [.ref orr, .int (nI oi), .int (nI oh)])), (orr, .inl (cB, 4096, .inl (oqf)))]) (zrunS (n := 1) (As := [.int w]) (rest := [.int nx, .int w, .ref x]) hE (c_Rv_jumpOffset l D _ _ w) cb_Rv_jumpOffset lk_Rv_123 st_Rv_jumpOffset (zpreS hK hP hD [] rfl rfl rfl) ⟨Nat.le_of_ble_eq_true rfl, Nat.le_of_ble_eq_true rfl, Nat.zero_le _, Nat.zero_le _⟩ rfl hl.1 rfl (Nat.le_of_ble_eq_true rfl) d_Rv_execute_138) hP hD hS hA [] [0, 1, 2, 3, 4, 5, 6, 7, 8, 9, 10, 11] rfl rfl rfl (by decide) (fun r40 u41 H locs hq39 hP hD hS => ?_)
                      subst hq39
                      have hP : va_P D zC [(x, .inr (0, [.ref wa, .int wc, .ref ra, .ref ma, .ref ua, .ref oa, .int ph, .int dn, .int nx, .int fo])), (ra, .inl (cI, 32, .inl (rg))), (ma, .inr (1, [.int (nI md), .int (nI bt), .int (nI lo), .int (nI nl), .ref sa, .ref ta, .ref fa, .ref pa, .int (nI pe), .ref ba])), (sa, .inl (cI, rn, .inl (sf))), (ta, .inl (cI, rn, .inl (tf))), (fa, .inl (cI, rn, .inl (uf))), (pa, .inl (cB, pn, .inl (pf))), (ba, .inl (cB, 4000, .inl (fun _ => 0))), (ua, .inr (2, [.ref ur, .int (nI ui), .int (nI uh)])), (ur, .inl (cB, 1000, .inl (uq))), (oa, .inr (2, [.ref orr, .int (nI oi), .int (nI oh)])), (orr, .inl (cB, 4096, .inl (oqf)))] _ := hP
                      have hD : va_D A [(x, .inr (0, [.ref wa, .int wc, .ref ra, .ref ma, .ref ua, .ref oa, .int ph, .int dn, .int nx, .int fo])), (ra, .inl (cI, 32, .inl (rg))), (ma, .inr (1, [.int (nI md), .int (nI bt), .int (nI lo), .int (nI nl), .ref sa, .ref ta, .ref fa, .ref pa, .int (nI pe), .ref ba])), (sa, .inl (cI, rn, .inl (sf))), (ta, .inl (cI, rn, .inl (tf))), (fa, .inl (cI, rn, .inl (uf))), (pa, .inl (cB, pn, .inl (pf))), (ba, .inl (cB, 4000, .inl (fun _ => 0))), (ua, .inr (2, [.ref ur, .int (nI ui), .int (nI uh)])), (ur, .inl (cB, 1000, .inl (uq))), (oa, .inr (2, [.ref orr, .int (nI oi), .int (nI oh)])), (orr, .inl (cB, 4096, .inl (oqf)))] := hD
                      refine lv_iadd hx hb d_Rv_execute_141 ?_
                      refine zgoi (wr := [(ma, .inr (1, [.int (nI md), .int (nI bt), .int (nI lo), .int (nI nl), .ref sa, .ref ta, .ref fa, .ref pa, .int (nI pe), .ref ba])), (sa, .inl (cI, rn, .inl (sf))), (ta, .inl (cI, rn, .inl (tf))), (fa, .inl (cI, rn, .inl (uf))), (pa, .inl (cB, pn, .inl (pf))), (ba, .inl (cB, 4000, .inl (fun _ => 0))), (ua, .inr (2, [.ref ur, .int (nI ui), .int (nI uh)])), (ur, .inl (cB, 1000, .inl (uq))), (oa, .inr (2, [.ref orr, .int (nI oi), .int (nI oh)])), (orr, .inl (cB, 4096, .inl (oqf)))]) (zrunV (n := 2) (As := [.int w, .int (nx + (sp_Rv_jumpOffset w))]) (rest := []) hE (c_Rv_jump l D cI cB cJ _ w (nx + (sp_Rv_jumpOffset w)) x wa wc ra ma ua oa ph dn nx fo rg) cb_Rv_jump lk_Rv_126 in_Rv_jump se_Rv_jump (zpreV (q0 := 0) hK hP hD rfl rfl rfl [0, 1] rfl rfl rfl) ⟨Nat.le_of_ble_eq_true rfl, Nat.le_of_ble_eq_true rfl, Nat.zero_le _, Nat.zero_le _⟩ rfl hl.1 rfl (Nat.le_of_ble_eq_true rfl) d_Rv_execute_142) hP hD hS hA [0, 1] [2, 3, 4, 5, 6, 7, 8, 9, 10, 11] rfl rfl rfl (by decide) (fun r43 u44 H locs hq42 hP hD hS => ?_)
                      subst hq42
                      have hP : va_P D zC [(ma, .inr (1, [.int (nI md), .int (nI bt), .int (nI lo), .int (nI nl), .ref sa, .ref ta, .ref fa, .ref pa, .int (nI pe), .ref ba])), (sa, .inl (cI, rn, .inl (sf))), (ta, .inl (cI, rn, .inl (tf))), (fa, .inl (cI, rn, .inl (uf))), (pa, .inl (cB, pn, .inl (pf))), (ba, .inl (cB, 4000, .inl (fun _ => 0))), (ua, .inr (2, [.ref ur, .int (nI ui), .int (nI uh)])), (ur, .inl (cB, 1000, .inl (uq))), (oa, .inr (2, [.ref orr, .int (nI oi), .int (nI oh)])), (orr, .inl (cB, 4096, .inl (oqf))), (x, .inr (0, [.ref wa, .int wc, .ref ra, .ref ma, .ref ua, .ref oa, .int ph, .int dn, .int nx, .int ((sp_Rv_jump w (nx + (sp_Rv_jumpOffset w)) nx fo rg).2.1)])), (ra, .inl (cI, 32, .inl ((sp_Rv_jump w (nx + (sp_Rv_jumpOffset w)) nx fo rg).2.2)))] _ := hP
                      have hD : va_D A [(ma, .inr (1, [.int (nI md), .int (nI bt), .int (nI lo), .int (nI nl), .ref sa, .ref ta, .ref fa, .ref pa, .int (nI pe), .ref ba])), (sa, .inl (cI, rn, .inl (sf))), (ta, .inl (cI, rn, .inl (tf))), (fa, .inl (cI, rn, .inl (uf))), (pa, .inl (cB, pn, .inl (pf))), (ba, .inl (cB, 4000, .inl (fun _ => 0))), (ua, .inr (2, [.ref ur, .int (nI ui), .int (nI uh)])), (ur, .inl (cB, 1000, .inl (uq))), (oa, .inr (2, [.ref orr, .int (nI oi), .int (nI oh)])), (orr, .inl (cB, 4096, .inl (oqf))), (x, .inr (0, [.ref wa, .int wc, .ref ra, .ref ma, .ref ua, .ref oa, .int ph, .int dn, .int nx, .int ((sp_Rv_jump w (nx + (sp_Rv_jumpOffset w)) nx fo rg).2.1)])), (ra, .inl (cI, 32, .inl ((sp_Rv_jump w (nx + (sp_Rv_jumpOffset w)) nx fo rg).2.2)))] := hD
                      have hs : xExec w rg M I O ph nx fo = ((sp_Rv_jump w (nx + (sp_Rv_jumpOffset w)) nx fo rg).1, (sp_Rv_jump w (nx + (sp_Rv_jumpOffset w)) nx fo rg).2.2, M, I, O, ph, (sp_Rv_jump w (nx + (sp_Rv_jumpOffset w)) nx fo rg).2.1) := by rw [xExec, if_neg h1, if_neg h5, if_neg h10, if_neg h14, if_neg h18, if_neg h22, if_neg h26, if_neg h30, if_neg h34, if_pos h38]
                      have hP9 := hP.sub (ws' := [(x, .inr (0, [.ref wa, .int wc, .ref ra, .ref ma, .ref ua, .ref oa, .int ph, .int dn, .int nx, .int ((sp_Rv_jump w (nx + (sp_Rv_jumpOffset w)) nx fo rg).2.1)])), (ra, .inl (cI, 32, .inl ((sp_Rv_jump w (nx + (sp_Rv_jumpOffset w)) nx fo rg).2.2))), (ma, .inr (1, [.int (nI md), .int (nI bt), .int (nI lo), .int (nI nl), .ref sa, .ref ta, .ref fa, .ref pa, .int (nI pe), .ref ba])), (sa, .inl (cI, rn, .inl (sf))), (ta, .inl (cI, rn, .inl (tf))), (fa, .inl (cI, rn, .inl (uf))), (pa, .inl (cB, pn, .inl (pf))), (ba, .inl (cB, 4000, .inl (fun _ => 0))), (ua, .inr (2, [.ref ur, .int (nI ui), .int (nI uh)])), (ur, .inl (cB, 1000, .inl (uq))), (oa, .inr (2, [.ref orr, .int (nI oi), .int (nI oh)])), (orr, .inl (cB, 4096, .inl (oqf)))]) [10, 11, 0, 1, 2, 3, 4, 5, 6, 7, 8, 9] rfl
                      have hD9 := hD.sub (ws' := [(x, .inr (0, [.ref wa, .int wc, .ref ra, .ref ma, .ref ua, .ref oa, .int ph, .int dn, .int nx, .int ((sp_Rv_jump w (nx + (sp_Rv_jumpOffset w)) nx fo rg).2.1)])), (ra, .inl (cI, 32, .inl ((sp_Rv_jump w (nx + (sp_Rv_jumpOffset w)) nx fo rg).2.2))), (ma, .inr (1, [.int (nI md), .int (nI bt), .int (nI lo), .int (nI nl), .ref sa, .ref ta, .ref fa, .ref pa, .int (nI pe), .ref ba])), (sa, .inl (cI, rn, .inl (sf))), (ta, .inl (cI, rn, .inl (tf))), (fa, .inl (cI, rn, .inl (uf))), (pa, .inl (cB, pn, .inl (pf))), (ba, .inl (cB, 4000, .inl (fun _ => 0))), (ua, .inr (2, [.ref ur, .int (nI ui), .int (nI uh)])), (ur, .inl (cB, 1000, .inl (uq))), (oa, .inr (2, [.ref orr, .int (nI oi), .int (nI oh)])), (orr, .inl (cB, 4096, .inl (oqf)))]) [10, 11, 0, 1, 2, 3, 4, 5, 6, 7, 8, 9] rfl rfl
                      exact zreti hx hb hr rfl hlocks hS (((md, bt, lo, nl, pe), (rn, pn), (sa, ta, fa, pa), (sf, tf, uf, pf)), (ui, uh, uq), (oi, oh, oqf), (0, 0)) ⟨by rw [hs], by rw [hs]; exact ⟨hR, hlo, hr16⟩, by rw [hs]; exact hI, by rw [hs]; exact hO, Nat.le_of_eq (Nat.zero_add _), Nat.le_of_eq (Nat.zero_add _)⟩ rfl (by rw [hs]; exact hP9) (by rw [hs]; exact hD9) d_Rv_execute_145
                    · rcases Decidable.em ((w &&& 127) = 115) with h45 | h45
                      · refine lv_lookup (tgt := 195) (off := 191) hx hb d_Rv_execute_4 (by decide) (by rw [h45]; first | done | rfl) (by decide) ?_
                        refine lv_iload_n hx hb d_Rv_execute_195 rfl (lv_at hl 1 rfl) ?_
                        refine lv_bipush (v := 115) hx hb d_Rv_execute_196 (by decide) ?_
                        refine lv_icmp_ne (tgt := 208) hx hb d_Rv_execute_198 (by decide) (fun h46 => ?_) (fun h46 => ?_)
                        · refine lv_iload_n hx hb d_Rv_execute_208 rfl (lv_at hl 1 rfl) ?_
                          refine lv_ldc (v := 1048691) hx hb hown (hw _ kc_Rv_153) d_Rv_execute_209 ?_
                          refine lv_icmp_ne (tgt := 218) hx hb d_Rv_execute_211 (by decide) (fun h47 => ?_) (fun h47 => ?_)
                          · refine lv_iconst (v := 1) hx hb d_Rv_execute_218 (by decide) ?_
                            have hs : xExec w rg M I O ph nx fo = (1, rg, M, I, O, ph, fo) := by rw [xExec, if_neg h1, if_neg h5, if_neg h10, if_neg h14, if_neg h18, if_neg h22, if_neg h26, if_neg h30, if_neg h34, if_neg h38, if_pos h45, if_neg h46, if_neg h47]
                            have hP9 := hP.sub (ws' := [(x, .inr (0, [.ref wa, .int wc, .ref ra, .ref ma, .ref ua, .ref oa, .int ph, .int dn, .int nx, .int fo])), (ra, .inl (cI, 32, .inl (rg))), (ma, .inr (1, [.int (nI md), .int (nI bt), .int (nI lo), .int (nI nl), .ref sa, .ref ta, .ref fa, .ref pa, .int (nI pe), .ref ba])), (sa, .inl (cI, rn, .inl (sf))), (ta, .inl (cI, rn, .inl (tf))), (fa, .inl (cI, rn, .inl (uf))), (pa, .inl (cB, pn, .inl (pf))), (ba, .inl (cB, 4000, .inl (fun _ => 0))), (ua, .inr (2, [.ref ur, .int (nI ui), .int (nI uh)])), (ur, .inl (cB, 1000, .inl (uq))), (oa, .inr (2, [.ref orr, .int (nI oi), .int (nI oh)])), (orr, .inl (cB, 4096, .inl (oqf)))]) [0, 1, 2, 3, 4, 5, 6, 7, 8, 9, 10, 11] rfl
                            have hD9 := hD.sub (ws' := [(x, .inr (0, [.ref wa, .int wc, .ref ra, .ref ma, .ref ua, .ref oa, .int ph, .int dn, .int nx, .int fo])), (ra, .inl (cI, 32, .inl (rg))), (ma, .inr (1, [.int (nI md), .int (nI bt), .int (nI lo), .int (nI nl), .ref sa, .ref ta, .ref fa, .ref pa, .int (nI pe), .ref ba])), (sa, .inl (cI, rn, .inl (sf))), (ta, .inl (cI, rn, .inl (tf))), (fa, .inl (cI, rn, .inl (uf))), (pa, .inl (cB, pn, .inl (pf))), (ba, .inl (cB, 4000, .inl (fun _ => 0))), (ua, .inr (2, [.ref ur, .int (nI ui), .int (nI uh)])), (ur, .inl (cB, 1000, .inl (uq))), (oa, .inr (2, [.ref orr, .int (nI oi), .int (nI oh)])), (orr, .inl (cB, 4096, .inl (oqf)))]) [0, 1, 2, 3, 4, 5, 6, 7, 8, 9, 10, 11] rfl rfl
                            exact zreti hx hb hr rfl hlocks hS (((md, bt, lo, nl, pe), (rn, pn), (sa, ta, fa, pa), (sf, tf, uf, pf)), (ui, uh, uq), (oi, oh, oqf), (0, 0)) ⟨by rw [hs], by rw [hs]; exact ⟨hR, hlo, hr16⟩, by rw [hs]; exact hI, by rw [hs]; exact hO, Nat.le_of_eq (Nat.zero_add _), Nat.le_of_eq (Nat.zero_add _)⟩ rfl (by rw [hs]; exact hP9) (by rw [hs]; exact hD9) d_Rv_execute_219
                          · refine lv_iconst (v := 5) hx hb d_Rv_execute_214 (by decide) ?_
                            refine lv_goto (tgt := 219) hx hb d_Rv_execute_215 (by decide) ?_
                            have hs : xExec w rg M I O ph nx fo = (5, rg, M, I, O, ph, fo) := by rw [xExec, if_neg h1, if_neg h5, if_neg h10, if_neg h14, if_neg h18, if_neg h22, if_neg h26, if_neg h30, if_neg h34, if_neg h38, if_pos h45, if_neg h46, if_pos h47]
                            have hP9 := hP.sub (ws' := [(x, .inr (0, [.ref wa, .int wc, .ref ra, .ref ma, .ref ua, .ref oa, .int ph, .int dn, .int nx, .int fo])), (ra, .inl (cI, 32, .inl (rg))), (ma, .inr (1, [.int (nI md), .int (nI bt), .int (nI lo), .int (nI nl), .ref sa, .ref ta, .ref fa, .ref pa, .int (nI pe), .ref ba])), (sa, .inl (cI, rn, .inl (sf))), (ta, .inl (cI, rn, .inl (tf))), (fa, .inl (cI, rn, .inl (uf))), (pa, .inl (cB, pn, .inl (pf))), (ba, .inl (cB, 4000, .inl (fun _ => 0))), (ua, .inr (2, [.ref ur, .int (nI ui), .int (nI uh)])), (ur, .inl (cB, 1000, .inl (uq))), (oa, .inr (2, [.ref orr, .int (nI oi), .int (nI oh)])), (orr, .inl (cB, 4096, .inl (oqf)))]) [0, 1, 2, 3, 4, 5, 6, 7, 8, 9, 10, 11] rfl
                            have hD9 := hD.sub (ws' := [(x, .inr (0, [.ref wa, .int wc, .ref ra, .ref ma, .ref ua, .ref oa, .int ph, .int dn, .int nx, .int fo])), (ra, .inl (cI, 32, .inl (rg))), (ma, .inr (1, [.int (nI md), .int (nI bt), .int (nI lo), .int (nI nl), .ref sa, .ref ta, .ref fa, .ref pa, .int (nI pe), .ref ba])), (sa, .inl (cI, rn, .inl (sf))), (ta, .inl (cI, rn, .inl (tf))), (fa, .inl (cI, rn, .inl (uf))), (pa, .inl (cB, pn, .inl (pf))), (ba, .inl (cB, 4000, .inl (fun _ => 0))), (ua, .inr (2, [.ref ur, .int (nI ui), .int (nI uh)])), (ur, .inl (cB, 1000, .inl (uq))), (oa, .inr (2, [.ref orr, .int (nI oi), .int (nI oh)])), (orr, .inl (cB, 4096, .inl (oqf)))]) [0, 1, 2, 3, 4, 5, 6, 7, 8, 9, 10, 11] rfl rfl
                            exact zreti hx hb hr rfl hlocks hS (((md, bt, lo, nl, pe), (rn, pn), (sa, ta, fa, pa), (sf, tf, uf, pf)), (ui, uh, uq), (oi, oh, oqf), (0, 0)) ⟨by rw [hs], by rw [hs]; exact ⟨hR, hlo, hr16⟩, by rw [hs]; exact hI, by rw [hs]; exact hO, Nat.le_of_eq (Nat.zero_add _), Nat.le_of_eq (Nat.zero_add _)⟩ rfl (by rw [hs]; exact hP9) (by rw [hs]; exact hD9) d_Rv_execute_219
                        · refine lv_aload_n hx hb d_Rv_execute_201 rfl (lv_at hl 0 rfl) ?_
                          refine zgoi (wr := []) (zrunV (n := 0) (As := []) (rest := []) hE (c_Rv_serve l D cI cB cJ _ x wa wc ra ma ua oa ph dn nx fo rg md bt lo nl sa ta fa pa pe ba rn sf tf uf pn pf ur ui uh uq orr oi oh oqf M I O hR hlo hr16 hI hO) cb_Rv_serve lk_Rv_150 in_Rv_serve se_Rv_serve (zpreV (q0 := 0) hK hP hD rfl rfl rfl [0, 1, 2, 3, 4, 5, 6, 7, 8, 9, 10, 11] rfl rfl rfl) ⟨Nat.le_of_ble_eq_true rfl, Nat.le_of_ble_eq_true rfl, by show 0 + (phP pn + 3 * phR rn) ≤ phP pn + 3 * phR rn; omega, by show 0 + (80000 * phP pn + 3 * (8001 * phR rn)) ≤ 80000 * phP pn + 3 * (8001 * phR rn); omega⟩ rfl hl.1 rfl (Nat.le_of_ble_eq_true rfl) d_Rv_execute_202) hP hD hS hA [0, 1, 2, 3, 4, 5, 6, 7, 8, 9, 10, 11] [] rfl rfl rfl (by decide) (fun r49 u50 H locs hq48 hP hD hS => ?_)
                          obtain ⟨rfl, hR, hI, hO, hfc, hfs⟩ := hq48
                          have hP : va_P D zC [(x, .inr (0, [.ref wa, .int wc, .ref ra, .ref ma, .ref ua, .ref oa, .int (xServe rg M I O ph).2.2.2.2.2, .int dn, .int nx, .int fo])), (ra, .inl (cI, 32, .inl ((xServe rg M I O ph).2.1))), (ma, .inr (1, [.int (nI (cMd u50.1)), .int (nI (cBt u50.1)), .int (nI (cLo u50.1)), .int (nI (cNl u50.1)), .ref (cSa u50.1), .ref (cTa u50.1), .ref (cFa u50.1), .ref (cPa u50.1), .int (nI (cPe u50.1)), .ref ba])), ((cSa u50.1), .inl (cI, (cRn u50.1), .inl (cSf u50.1))), ((cTa u50.1), .inl (cI, (cRn u50.1), .inl (cTf u50.1))), ((cFa u50.1), .inl (cI, (cRn u50.1), .inl (cUf u50.1))), ((cPa u50.1), .inl (cB, (cPn u50.1), .inl (cPf u50.1))), (ba, .inl (cB, 4000, .inl (fun _ => 0))), (ua, .inr (2, [.ref ur, .int (nI u50.2.1.1), .int (nI u50.2.1.2.1)])), (ur, .inl (cB, 1000, .inl (u50.2.1.2.2))), (oa, .inr (2, [.ref orr, .int (nI u50.2.2.1.1), .int (nI u50.2.2.1.2.1)])), (orr, .inl (cB, 4096, .inl (u50.2.2.1.2.2)))] _ := hP
                          have hD : va_D A [(x, .inr (0, [.ref wa, .int wc, .ref ra, .ref ma, .ref ua, .ref oa, .int (xServe rg M I O ph).2.2.2.2.2, .int dn, .int nx, .int fo])), (ra, .inl (cI, 32, .inl ((xServe rg M I O ph).2.1))), (ma, .inr (1, [.int (nI (cMd u50.1)), .int (nI (cBt u50.1)), .int (nI (cLo u50.1)), .int (nI (cNl u50.1)), .ref (cSa u50.1), .ref (cTa u50.1), .ref (cFa u50.1), .ref (cPa u50.1), .int (nI (cPe u50.1)), .ref ba])), ((cSa u50.1), .inl (cI, (cRn u50.1), .inl (cSf u50.1))), ((cTa u50.1), .inl (cI, (cRn u50.1), .inl (cTf u50.1))), ((cFa u50.1), .inl (cI, (cRn u50.1), .inl (cUf u50.1))), ((cPa u50.1), .inl (cB, (cPn u50.1), .inl (cPf u50.1))), (ba, .inl (cB, 4000, .inl (fun _ => 0))), (ua, .inr (2, [.ref ur, .int (nI u50.2.1.1), .int (nI u50.2.1.2.1)])), (ur, .inl (cB, 1000, .inl (u50.2.1.2.2))), (oa, .inr (2, [.ref orr, .int (nI u50.2.2.1.1), .int (nI u50.2.2.1.2.1)])), (orr, .inl (cB, 4096, .inl (u50.2.2.1.2.2)))] := hD
                          refine lv_goto (tgt := 219) hx hb d_Rv_execute_205 (by decide) ?_
                          have hs : xExec w rg M I O ph nx fo = ((xServe rg M I O ph).1, (xServe rg M I O ph).2.1, (xServe rg M I O ph).2.2.1, (xServe rg M I O ph).2.2.2.1, (xServe rg M I O ph).2.2.2.2.1, (xServe rg M I O ph).2.2.2.2.2, fo) := by rw [xExec, if_neg h1, if_neg h5, if_neg h10, if_neg h14, if_neg h18, if_neg h22, if_neg h26, if_neg h30, if_neg h34, if_neg h38, if_pos h45, if_pos h46]
                          have hP9 := hP.sub (ws' := [(x, .inr (0, [.ref wa, .int wc, .ref ra, .ref ma, .ref ua, .ref oa, .int (xServe rg M I O ph).2.2.2.2.2, .int dn, .int nx, .int fo])), (ra, .inl (cI, 32, .inl ((xServe rg M I O ph).2.1))), (ma, .inr (1, [.int (nI (cMd u50.1)), .int (nI (cBt u50.1)), .int (nI (cLo u50.1)), .int (nI (cNl u50.1)), .ref (cSa u50.1), .ref (cTa u50.1), .ref (cFa u50.1), .ref (cPa u50.1), .int (nI (cPe u50.1)), .ref ba])), ((cSa u50.1), .inl (cI, (cRn u50.1), .inl (cSf u50.1))), ((cTa u50.1), .inl (cI, (cRn u50.1), .inl (cTf u50.1))), ((cFa u50.1), .inl (cI, (cRn u50.1), .inl (cUf u50.1))), ((cPa u50.1), .inl (cB, (cPn u50.1), .inl (cPf u50.1))), (ba, .inl (cB, 4000, .inl (fun _ => 0))), (ua, .inr (2, [.ref ur, .int (nI u50.2.1.1), .int (nI u50.2.1.2.1)])), (ur, .inl (cB, 1000, .inl (u50.2.1.2.2))), (oa, .inr (2, [.ref orr, .int (nI u50.2.2.1.1), .int (nI u50.2.2.1.2.1)])), (orr, .inl (cB, 4096, .inl (u50.2.2.1.2.2)))]) [0, 1, 2, 3, 4, 5, 6, 7, 8, 9, 10, 11] rfl
                          have hD9 := hD.sub (ws' := [(x, .inr (0, [.ref wa, .int wc, .ref ra, .ref ma, .ref ua, .ref oa, .int (xServe rg M I O ph).2.2.2.2.2, .int dn, .int nx, .int fo])), (ra, .inl (cI, 32, .inl ((xServe rg M I O ph).2.1))), (ma, .inr (1, [.int (nI (cMd u50.1)), .int (nI (cBt u50.1)), .int (nI (cLo u50.1)), .int (nI (cNl u50.1)), .ref (cSa u50.1), .ref (cTa u50.1), .ref (cFa u50.1), .ref (cPa u50.1), .int (nI (cPe u50.1)), .ref ba])), ((cSa u50.1), .inl (cI, (cRn u50.1), .inl (cSf u50.1))), ((cTa u50.1), .inl (cI, (cRn u50.1), .inl (cTf u50.1))), ((cFa u50.1), .inl (cI, (cRn u50.1), .inl (cUf u50.1))), ((cPa u50.1), .inl (cB, (cPn u50.1), .inl (cPf u50.1))), (ba, .inl (cB, 4000, .inl (fun _ => 0))), (ua, .inr (2, [.ref ur, .int (nI u50.2.1.1), .int (nI u50.2.1.2.1)])), (ur, .inl (cB, 1000, .inl (u50.2.1.2.2))), (oa, .inr (2, [.ref orr, .int (nI u50.2.2.1.1), .int (nI u50.2.2.1.2.1)])), (orr, .inl (cB, 4096, .inl (u50.2.2.1.2.2)))]) [0, 1, 2, 3, 4, 5, 6, 7, 8, 9, 10, 11] rfl rfl
                          exact zreti hx hb hr rfl hlocks hS ((((cMd u50.1), (cBt u50.1), (cLo u50.1), (cNl u50.1), (cPe u50.1)), ((cRn u50.1), (cPn u50.1)), ((cSa u50.1), (cTa u50.1), (cFa u50.1), (cPa u50.1)), (cSf u50.1, cTf u50.1, cUf u50.1, cPf u50.1)), (u50.2.1.1, u50.2.1.2.1, u50.2.1.2.2), (u50.2.2.1.1, u50.2.2.1.2.1, u50.2.2.1.2.2), (u50.2.2.2.1, u50.2.2.2.2)) ⟨by rw [hs], by rw [hs]; exact hR, by rw [hs]; exact hI, by rw [hs]; exact hO, hfc, hfs⟩ (Prod.ext (Nat.zero_add _).symm (Nat.zero_add _).symm) (by rw [hs]; exact hP9) (by rw [hs]; exact hD9) d_Rv_execute_219
                      · refine lv_lookup (tgt := 220) (off := 216) hx hb d_Rv_execute_4 (by decide) (by rw [lv_osw h1 (show ((3 : Int32)).toInt = 3 from by decide), lv_osw h5 (show ((15 : Int32)).toInt = 15 from by decide), lv_osw h10 (show ((19 : Int32)).toInt = 19 from by decide), lv_osw h14 (show ((23 : Int32)).toInt = 23 from by decide), lv_osw h18 (show ((35 : Int32)).toInt = 35 from by decide), lv_osw h22 (show ((51 : Int32)).toInt = 51 from by decide), lv_osw h26 (show ((55 : Int32)).toInt = 55 from by decide), lv_osw h30 (show ((99 : Int32)).toInt = 99 from by decide), lv_osw h34 (show ((103 : Int32)).toInt = 103 from by decide), lv_osw h38 (show ((111 : Int32)).toInt = 111 from by decide), lv_osw h45 (show ((115 : Int32)).toInt = 115 from by decide)]; first | done | rfl) (by decide) ?_
                        refine lv_iconst (v := 1) hx hb d_Rv_execute_220 (by decide) ?_
                        have hs : xExec w rg M I O ph nx fo = (1, rg, M, I, O, ph, fo) := by rw [xExec, if_neg h1, if_neg h5, if_neg h10, if_neg h14, if_neg h18, if_neg h22, if_neg h26, if_neg h30, if_neg h34, if_neg h38, if_neg h45]
                        have hP9 := hP.sub (ws' := [(x, .inr (0, [.ref wa, .int wc, .ref ra, .ref ma, .ref ua, .ref oa, .int ph, .int dn, .int nx, .int fo])), (ra, .inl (cI, 32, .inl (rg))), (ma, .inr (1, [.int (nI md), .int (nI bt), .int (nI lo), .int (nI nl), .ref sa, .ref ta, .ref fa, .ref pa, .int (nI pe), .ref ba])), (sa, .inl (cI, rn, .inl (sf))), (ta, .inl (cI, rn, .inl (tf))), (fa, .inl (cI, rn, .inl (uf))), (pa, .inl (cB, pn, .inl (pf))), (ba, .inl (cB, 4000, .inl (fun _ => 0))), (ua, .inr (2, [.ref ur, .int (nI ui), .int (nI uh)])), (ur, .inl (cB, 1000, .inl (uq))), (oa, .inr (2, [.ref orr, .int (nI oi), .int (nI oh)])), (orr, .inl (cB, 4096, .inl (oqf)))]) [0, 1, 2, 3, 4, 5, 6, 7, 8, 9, 10, 11] rfl
                        have hD9 := hD.sub (ws' := [(x, .inr (0, [.ref wa, .int wc, .ref ra, .ref ma, .ref ua, .ref oa, .int ph, .int dn, .int nx, .int fo])), (ra, .inl (cI, 32, .inl (rg))), (ma, .inr (1, [.int (nI md), .int (nI bt), .int (nI lo), .int (nI nl), .ref sa, .ref ta, .ref fa, .ref pa, .int (nI pe), .ref ba])), (sa, .inl (cI, rn, .inl (sf))), (ta, .inl (cI, rn, .inl (tf))), (fa, .inl (cI, rn, .inl (uf))), (pa, .inl (cB, pn, .inl (pf))), (ba, .inl (cB, 4000, .inl (fun _ => 0))), (ua, .inr (2, [.ref ur, .int (nI ui), .int (nI uh)])), (ur, .inl (cB, 1000, .inl (uq))), (oa, .inr (2, [.ref orr, .int (nI oi), .int (nI oh)])), (orr, .inl (cB, 4096, .inl (oqf)))]) [0, 1, 2, 3, 4, 5, 6, 7, 8, 9, 10, 11] rfl rfl
                        exact zreti hx hb hr rfl hlocks hS (((md, bt, lo, nl, pe), (rn, pn), (sa, ta, fa, pa), (sf, tf, uf, pf)), (ui, uh, uq), (oi, oh, oqf), (0, 0)) ⟨by rw [hs], by rw [hs]; exact ⟨hR, hlo, hr16⟩, by rw [hs]; exact hI, by rw [hs]; exact hO, Nat.le_of_eq (Nat.zero_add _), Nat.le_of_eq (Nat.zero_add _)⟩ rfl (by rw [hs]; exact hP9) (by rw [hs]; exact hD9) d_Rv_execute_221
end
