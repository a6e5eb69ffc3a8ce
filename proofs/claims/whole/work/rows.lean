section
-- ===== PART A: goes FIRST, ahead of the names: the tables' words, and 'selects' of the private methods out of them =====
/-- a private method of a class that the tables say can be made, by its rows of tables_1 -/
def lw_okq (q : MethodName × Nat) : Prop := (q.1.cls ≠ "java/lang/invoke/MethodHandle" ∧ q.1.cls ≠ "java/lang/invoke/VarHandle") ∧ Cond.instantiable q.1.cls q.2 ∈ tables_1 ∧ Cond.privateMethod q.1 ∈ tables_1 ∧ Cond.instanceMethod q.1 ∈ tables_1
theorem lw_p0 : lw_okq (⟨"RvMachine$Memory", "isThere", "(I)Z"⟩, 10) := ⟨⟨by decide +kernel, by decide +kernel⟩, List.mem_of_getElem? (i := 23) (by decide +kernel), List.mem_of_getElem? (i := 125) (by decide +kernel), List.mem_of_getElem? (i := 126) (by decide +kernel)⟩
theorem lw_p1 : lw_okq (⟨"RvMachine$Memory", "spot", "(I)I"⟩, 10) := ⟨⟨by decide +kernel, by decide +kernel⟩, List.mem_of_getElem? (i := 23) (by decide +kernel), List.mem_of_getElem? (i := 134) (by decide +kernel), List.mem_of_getElem? (i := 135) (by decide +kernel)⟩
theorem lw_p2 : lw_okq (⟨"RvMachine$Bytes", "wrapped", "(I)I"⟩, 3) := ⟨⟨by decide +kernel, by decide +kernel⟩, List.mem_of_getElem? (i := 65) (by decide +kernel), List.mem_of_getElem? (i := 149) (by decide +kernel), List.mem_of_getElem? (i := 150) (by decide +kernel)⟩
theorem lw_p3 : lw_okq (⟨"java/lang/Throwable", "fillInStackTrace", "(I)Ljava/lang/Throwable;"⟩, 6) := ⟨⟨by decide +kernel, by decide +kernel⟩, List.mem_of_getElem? (i := 199) (by decide +kernel), List.mem_of_getElem? (i := 197) (by decide +kernel), List.mem_of_getElem? (i := 198) (by decide +kernel)⟩
theorem lw_p4 : lw_okq (⟨"RvMachine", "doNext", "()V"⟩, 10) := ⟨⟨by decide +kernel, by decide +kernel⟩, List.mem_of_getElem? (i := 15) (by decide +kernel), List.mem_of_getElem? (i := 308) (by decide +kernel), List.mem_of_getElem? (i := 309) (by decide +kernel)⟩
theorem lw_p5 : lw_okq (⟨"RvMachine", "execute", "(I)I"⟩, 10) := ⟨⟨by decide +kernel, by decide +kernel⟩, List.mem_of_getElem? (i := 15) (by decide +kernel), List.mem_of_getElem? (i := 312) (by decide +kernel), List.mem_of_getElem? (i := 313) (by decide +kernel)⟩
theorem lw_p6 : lw_okq (⟨"RvMachine", "keep", "(II)I"⟩, 10) := ⟨⟨by decide +kernel, by decide +kernel⟩, List.mem_of_getElem? (i := 15) (by decide +kernel), List.mem_of_getElem? (i := 316) (by decide +kernel), List.mem_of_getElem? (i := 317) (by decide +kernel)⟩
theorem lw_p7 : lw_okq (⟨"RvMachine", "jump", "(II)I"⟩, 10) := ⟨⟨by decide +kernel, by decide +kernel⟩, List.mem_of_getElem? (i := 15) (by decide +kernel), List.mem_of_getElem? (i := 324) (by decide +kernel), List.mem_of_getElem? (i := 325) (by decide +kernel)⟩
theorem lw_p8 : lw_okq (⟨"RvMachine", "goTo", "(I)I"⟩, 10) := ⟨⟨by decide +kernel, by decide +kernel⟩, List.mem_of_getElem? (i := 15) (by decide +kernel), List.mem_of_getElem? (i := 328) (by decide +kernel), List.mem_of_getElem? (i := 329) (by decide +kernel)⟩
theorem lw_p9 : lw_okq (⟨"RvMachine", "jumpByRegister", "(I)I"⟩, 10) := ⟨⟨by decide +kernel, by decide +kernel⟩, List.mem_of_getElem? (i := 15) (by decide +kernel), List.mem_of_getElem? (i := 332) (by decide +kernel), List.mem_of_getElem? (i := 333) (by decide +kernel)⟩
theorem lw_p10 : lw_okq (⟨"RvMachine", "firstOperand", "(I)I"⟩, 10) := ⟨⟨by decide +kernel, by decide +kernel⟩, List.mem_of_getElem? (i := 15) (by decide +kernel), List.mem_of_getElem? (i := 339) (by decide +kernel), List.mem_of_getElem? (i := 340) (by decide +kernel)⟩
theorem lw_p11 : lw_okq (⟨"RvMachine", "branch", "(I)I"⟩, 10) := ⟨⟨by decide +kernel, by decide +kernel⟩, List.mem_of_getElem? (i := 15) (by decide +kernel), List.mem_of_getElem? (i := 343) (by decide +kernel), List.mem_of_getElem? (i := 344) (by decide +kernel)⟩
theorem lw_p12 : lw_okq (⟨"RvMachine", "secondOperand", "(I)I"⟩, 10) := ⟨⟨by decide +kernel, by decide +kernel⟩, List.mem_of_getElem? (i := 15) (by decide +kernel), List.mem_of_getElem? (i := 347) (by decide +kernel), List.mem_of_getElem? (i := 348) (by decide +kernel)⟩
theorem lw_p13 : lw_okq (⟨"RvMachine", "load", "(I)I"⟩, 10) := ⟨⟨by decide +kernel, by decide +kernel⟩, List.mem_of_getElem? (i := 15) (by decide +kernel), List.mem_of_getElem? (i := 361) (by decide +kernel), List.mem_of_getElem? (i := 362) (by decide +kernel)⟩
theorem lw_p14 : lw_okq (⟨"RvMachine", "store", "(I)I"⟩, 10) := ⟨⟨by decide +kernel, by decide +kernel⟩, List.mem_of_getElem? (i := 15) (by decide +kernel), List.mem_of_getElem? (i := 370) (by decide +kernel), List.mem_of_getElem? (i := 371) (by decide +kernel)⟩
theorem lw_p15 : lw_okq (⟨"RvMachine", "operateWithConstant", "(I)I"⟩, 10) := ⟨⟨by decide +kernel, by decide +kernel⟩, List.mem_of_getElem? (i := 15) (by decide +kernel), List.mem_of_getElem? (i := 381) (by decide +kernel), List.mem_of_getElem? (i := 382) (by decide +kernel)⟩
def lw_privs_1 : List (MethodName × Nat) := [(⟨"RvMachine$Memory", "isThere", "(I)Z"⟩, 10), (⟨"RvMachine$Memory", "spot", "(I)I"⟩, 10), (⟨"RvMachine$Bytes", "wrapped", "(I)I"⟩, 3), (⟨"java/lang/Throwable", "fillInStackTrace", "(I)Ljava/lang/Throwable;"⟩, 6), (⟨"RvMachine", "doNext", "()V"⟩, 10), (⟨"RvMachine", "execute", "(I)I"⟩, 10), (⟨"RvMachine", "keep", "(II)I"⟩, 10), (⟨"RvMachine", "jump", "(II)I"⟩, 10), (⟨"RvMachine", "goTo", "(I)I"⟩, 10), (⟨"RvMachine", "jumpByRegister", "(I)I"⟩, 10), (⟨"RvMachine", "firstOperand", "(I)I"⟩, 10), (⟨"RvMachine", "branch", "(I)I"⟩, 10), (⟨"RvMachine", "secondOperand", "(I)I"⟩, 10), (⟨"RvMachine", "load", "(I)I"⟩, 10), (⟨"RvMachine", "store", "(I)I"⟩, 10), (⟨"RvMachine", "operateWithConstant", "(I)I"⟩, 10)]
theorem lw_r1 : ∀ q ∈ lw_privs_1, lw_okq q := List.forall_mem_cons.mpr ⟨lw_p0, List.forall_mem_cons.mpr ⟨lw_p1, List.forall_mem_cons.mpr ⟨lw_p2, List.forall_mem_cons.mpr ⟨lw_p3, List.forall_mem_cons.mpr ⟨lw_p4, List.forall_mem_cons.mpr ⟨lw_p5, List.forall_mem_cons.mpr ⟨lw_p6, List.forall_mem_cons.mpr ⟨lw_p7, List.forall_mem_cons.mpr ⟨lw_p8, List.forall_mem_cons.mpr ⟨lw_p9, List.forall_mem_cons.mpr ⟨lw_p10, List.forall_mem_cons.mpr ⟨lw_p11, List.forall_mem_cons.mpr ⟨lw_p12, List.forall_mem_cons.mpr ⟨lw_p13, List.forall_mem_cons.mpr ⟨lw_p14, List.forall_mem_cons.mpr ⟨lw_p15, fun _ h => absurd h List.not_mem_nil⟩⟩⟩⟩⟩⟩⟩⟩⟩⟩⟩⟩⟩⟩⟩⟩
theorem lw_p16 : lw_okq (⟨"RvMachine", "operate", "(I)I"⟩, 10) := ⟨⟨by decide +kernel, by decide +kernel⟩, List.mem_of_getElem? (i := 15) (by decide +kernel), List.mem_of_getElem? (i := 391) (by decide +kernel), List.mem_of_getElem? (i := 392) (by decide +kernel)⟩
theorem lw_p17 : lw_okq (⟨"RvMachine", "serve", "()I"⟩, 10) := ⟨⟨by decide +kernel, by decide +kernel⟩, List.mem_of_getElem? (i := 15) (by decide +kernel), List.mem_of_getElem? (i := 401) (by decide +kernel), List.mem_of_getElem? (i := 402) (by decide +kernel)⟩
theorem lw_p18 : lw_okq (⟨"RvMachine$Memory", "tidy", "(I)V"⟩, 10) := ⟨⟨by decide +kernel, by decide +kernel⟩, List.mem_of_getElem? (i := 23) (by decide +kernel), List.mem_of_getElem? (i := 413) (by decide +kernel), List.mem_of_getElem? (i := 414) (by decide +kernel)⟩
theorem lw_p19 : lw_okq (⟨"RvMachine$Memory", "addNumber", "()V"⟩, 10) := ⟨⟨by decide +kernel, by decide +kernel⟩, List.mem_of_getElem? (i := 23) (by decide +kernel), List.mem_of_getElem? (i := 428) (by decide +kernel), List.mem_of_getElem? (i := 429) (by decide +kernel)⟩
theorem lw_p20 : lw_okq (⟨"RvMachine", "answerAddress", "(I)I"⟩, 10) := ⟨⟨by decide +kernel, by decide +kernel⟩, List.mem_of_getElem? (i := 15) (by decide +kernel), List.mem_of_getElem? (i := 433) (by decide +kernel), List.mem_of_getElem? (i := 434) (by decide +kernel)⟩
theorem lw_p21 : lw_okq (⟨"RvMachine$Memory", "drop", "(I)V"⟩, 10) := ⟨⟨by decide +kernel, by decide +kernel⟩, List.mem_of_getElem? (i := 23) (by decide +kernel), List.mem_of_getElem? (i := 441) (by decide +kernel), List.mem_of_getElem? (i := 442) (by decide +kernel)⟩
theorem lw_p22 : lw_okq (⟨"RvMachine", "copyBytes", "(III)I"⟩, 10) := ⟨⟨by decide +kernel, by decide +kernel⟩, List.mem_of_getElem? (i := 15) (by decide +kernel), List.mem_of_getElem? (i := 456) (by decide +kernel), List.mem_of_getElem? (i := 457) (by decide +kernel)⟩
theorem lw_p23 : lw_okq (⟨"RvMachineModel", "kind", "(II)V"⟩, 24) := ⟨⟨by decide +kernel, by decide +kernel⟩, List.mem_of_getElem? (i := 493) (by decide +kernel), List.mem_of_getElem? (i := 500) (by decide +kernel), List.mem_of_getElem? (i := 501) (by decide +kernel)⟩
theorem lw_p24 : lw_okq (⟨"RvMachineModel", "step", "()V"⟩, 24) := ⟨⟨by decide +kernel, by decide +kernel⟩, List.mem_of_getElem? (i := 493) (by decide +kernel), List.mem_of_getElem? (i := 603) (by decide +kernel), List.mem_of_getElem? (i := 604) (by decide +kernel)⟩
theorem lw_p25 : lw_okq (⟨"RvMachineModel", "trap", "(I)V"⟩, 24) := ⟨⟨by decide +kernel, by decide +kernel⟩, List.mem_of_getElem? (i := 493) (by decide +kernel), List.mem_of_getElem? (i := 607) (by decide +kernel), List.mem_of_getElem? (i := 608) (by decide +kernel)⟩
theorem lw_p26 : lw_okq (⟨"RvMachineModel", "jumps", "(II)V"⟩, 24) := ⟨⟨by decide +kernel, by decide +kernel⟩, List.mem_of_getElem? (i := 493) (by decide +kernel), List.mem_of_getElem? (i := 611) (by decide +kernel), List.mem_of_getElem? (i := 612) (by decide +kernel)⟩
theorem lw_p27 : lw_okq (⟨"RvMachineModel", "goesOn", "(II)V"⟩, 24) := ⟨⟨by decide +kernel, by decide +kernel⟩, List.mem_of_getElem? (i := 493) (by decide +kernel), List.mem_of_getElem? (i := 615) (by decide +kernel), List.mem_of_getElem? (i := 616) (by decide +kernel)⟩
theorem lw_p28 : lw_okq (⟨"RvMachineModel", "put", "(II)V"⟩, 24) := ⟨⟨by decide +kernel, by decide +kernel⟩, List.mem_of_getElem? (i := 493) (by decide +kernel), List.mem_of_getElem? (i := 619) (by decide +kernel), List.mem_of_getElem? (i := 620) (by decide +kernel)⟩
theorem lw_p29 : lw_okq (⟨"RvMachineModel", "isGone", "(I)Z"⟩, 24) := ⟨⟨by decide +kernel, by decide +kernel⟩, List.mem_of_getElem? (i := 493) (by decide +kernel), List.mem_of_getElem? (i := 635) (by decide +kernel), List.mem_of_getElem? (i := 636) (by decide +kernel)⟩
theorem lw_p30 : lw_okq (⟨"RvMachineModel", "branch", "(II)V"⟩, 24) := ⟨⟨by decide +kernel, by decide +kernel⟩, List.mem_of_getElem? (i := 493) (by decide +kernel), List.mem_of_getElem? (i := 639) (by decide +kernel), List.mem_of_getElem? (i := 640) (by decide +kernel)⟩
theorem lw_p31 : lw_okq (⟨"RvMachineModel", "load", "(II)V"⟩, 24) := ⟨⟨by decide +kernel, by decide +kernel⟩, List.mem_of_getElem? (i := 493) (by decide +kernel), List.mem_of_getElem? (i := 647) (by decide +kernel), List.mem_of_getElem? (i := 648) (by decide +kernel)⟩
def lw_privs_2 : List (MethodName × Nat) := [(⟨"RvMachine", "operate", "(I)I"⟩, 10), (⟨"RvMachine", "serve", "()I"⟩, 10), (⟨"RvMachine$Memory", "tidy", "(I)V"⟩, 10), (⟨"RvMachine$Memory", "addNumber", "()V"⟩, 10), (⟨"RvMachine", "answerAddress", "(I)I"⟩, 10), (⟨"RvMachine$Memory", "drop", "(I)V"⟩, 10), (⟨"RvMachine", "copyBytes", "(III)I"⟩, 10), (⟨"RvMachineModel", "kind", "(II)V"⟩, 24), (⟨"RvMachineModel", "step", "()V"⟩, 24), (⟨"RvMachineModel", "trap", "(I)V"⟩, 24), (⟨"RvMachineModel", "jumps", "(II)V"⟩, 24), (⟨"RvMachineModel", "goesOn", "(II)V"⟩, 24), (⟨"RvMachineModel", "put", "(II)V"⟩, 24), (⟨"RvMachineModel", "isGone", "(I)Z"⟩, 24), (⟨"RvMachineModel", "branch", "(II)V"⟩, 24), (⟨"RvMachineModel", "load", "(II)V"⟩, 24)]
theorem lw_r2 : ∀ q ∈ lw_privs_2, lw_okq q := List.forall_mem_cons.mpr ⟨lw_p16, List.forall_mem_cons.mpr ⟨lw_p17, List.forall_mem_cons.mpr ⟨lw_p18, List.forall_mem_cons.mpr ⟨lw_p19, List.forall_mem_cons.mpr ⟨lw_p20, List.forall_mem_cons.mpr ⟨lw_p21, List.forall_mem_cons.mpr ⟨lw_p22, List.forall_mem_cons.mpr ⟨lw_p23, List.forall_mem_cons.mpr ⟨lw_p24, List.forall_mem_cons.mpr ⟨lw_p25, List.forall_mem_cons.mpr ⟨lw_p26, List.forall_mem_cons.mpr ⟨lw_p27, List.forall_mem_cons.mpr ⟨lw_p28, List.forall_mem_cons.mpr ⟨lw_p29, List.forall_mem_cons.mpr ⟨lw_p30, List.forall_mem_cons.mpr ⟨lw_p31, fun _ h => absurd h List.not_mem_nil⟩⟩⟩⟩⟩⟩⟩⟩⟩⟩⟩⟩⟩⟩⟩⟩
theorem lw_p32 : lw_okq (⟨"RvMachineModel", "place", "(II)I"⟩, 24) := ⟨⟨by decide +kernel, by decide +kernel⟩, List.mem_of_getElem? (i := 493) (by decide +kernel), List.mem_of_getElem? (i := 651) (by decide +kernel), List.mem_of_getElem? (i := 652) (by decide +kernel)⟩
theorem lw_p33 : lw_okq (⟨"RvMachineModel", "read", "(II)I"⟩, 24) := ⟨⟨by decide +kernel, by decide +kernel⟩, List.mem_of_getElem? (i := 493) (by decide +kernel), List.mem_of_getElem? (i := 656) (by decide +kernel), List.mem_of_getElem? (i := 657) (by decide +kernel)⟩
theorem lw_p34 : lw_okq (⟨"RvMachineModel", "store", "(II)V"⟩, 24) := ⟨⟨by decide +kernel, by decide +kernel⟩, List.mem_of_getElem? (i := 493) (by decide +kernel), List.mem_of_getElem? (i := 660) (by decide +kernel), List.mem_of_getElem? (i := 661) (by decide +kernel)⟩
theorem lw_p35 : lw_okq (⟨"RvMachineModel", "service", "()V"⟩, 24) := ⟨⟨by decide +kernel, by decide +kernel⟩, List.mem_of_getElem? (i := 493) (by decide +kernel), List.mem_of_getElem? (i := 673) (by decide +kernel), List.mem_of_getElem? (i := 674) (by decide +kernel)⟩
theorem lw_p36 : lw_okq (⟨"RvMachineModel", "object", "(II)I"⟩, 24) := ⟨⟨by decide +kernel, by decide +kernel⟩, List.mem_of_getElem? (i := 493) (by decide +kernel), List.mem_of_getElem? (i := 677) (by decide +kernel), List.mem_of_getElem? (i := 678) (by decide +kernel)⟩
theorem lw_p37 : lw_okq (⟨"RvMachineModel", "pack", "()V"⟩, 24) := ⟨⟨by decide +kernel, by decide +kernel⟩, List.mem_of_getElem? (i := 493) (by decide +kernel), List.mem_of_getElem? (i := 685) (by decide +kernel), List.mem_of_getElem? (i := 686) (by decide +kernel)⟩
theorem lw_p38 : lw_okq (⟨"RvMachineModel", "gone", "(I)V"⟩, 24) := ⟨⟨by decide +kernel, by decide +kernel⟩, List.mem_of_getElem? (i := 493) (by decide +kernel), List.mem_of_getElem? (i := 690) (by decide +kernel), List.mem_of_getElem? (i := 691) (by decide +kernel)⟩
def lw_privs_3 : List (MethodName × Nat) := [(⟨"RvMachineModel", "place", "(II)I"⟩, 24), (⟨"RvMachineModel", "read", "(II)I"⟩, 24), (⟨"RvMachineModel", "store", "(II)V"⟩, 24), (⟨"RvMachineModel", "service", "()V"⟩, 24), (⟨"RvMachineModel", "object", "(II)I"⟩, 24), (⟨"RvMachineModel", "pack", "()V"⟩, 24), (⟨"RvMachineModel", "gone", "(I)V"⟩, 24)]
theorem lw_r3 : ∀ q ∈ lw_privs_3, lw_okq q := List.forall_mem_cons.mpr ⟨lw_p32, List.forall_mem_cons.mpr ⟨lw_p33, List.forall_mem_cons.mpr ⟨lw_p34, List.forall_mem_cons.mpr ⟨lw_p35, List.forall_mem_cons.mpr ⟨lw_p36, List.forall_mem_cons.mpr ⟨lw_p37, List.forall_mem_cons.mpr ⟨lw_p38, fun _ h => absurd h List.not_mem_nil⟩⟩⟩⟩⟩⟩⟩
def lw_privs : List (MethodName × Nat) := lw_privs_1 ++ (lw_privs_2 ++ (lw_privs_3))
def lw_tbl : List Cond := k2_sels lw_privs ++ tables_1
theorem lw_privs_ok : ∀ q ∈ lw_privs, lw_okq q := by
  show ∀ q ∈ lw_privs_1 ++ (lw_privs_2 ++ (lw_privs_3)), lw_okq q
  exact List.forall_mem_append.mpr ⟨lw_r1, List.forall_mem_append.mpr ⟨lw_r2, lw_r3⟩⟩
end
section
/-! names: classes, fields, methods (printed by an own program out of the listing) -/
def R_Rv : String := "RvMachine"
def F_Rv : u_T := fun k => match k with
  | 0 => ("RvMachine", "words", "[I", false)
  | 1 => ("RvMachine", "wordCount", "I", false)
  | 2 => ("RvMachine", "registers", "[I", true)
  | 3 => ("RvMachine", "memory", "LRvMachine$Memory;", true)
  | 4 => ("RvMachine", "unread", "LRvMachine$Bytes;", true)
  | 5 => ("RvMachine", "written", "LRvMachine$Bytes;", true)
  | 6 => ("RvMachine", "phase", "I", false)
  | 7 => ("RvMachine", "done", "I", false)
  | 8 => ("RvMachine", "next", "I", false)
  | _ => ("RvMachine", "following", "I", false)
def t_Rv : Nat → FieldType := fun k => match k with
  | 0 => .array .int
  | 1 => .int
  | 2 => .array .int
  | 3 => .object "RvMachine$Memory"
  | 4 => .object "RvMachine$Bytes"
  | 5 => .object "RvMachine$Bytes"
  | 6 => .int
  | 7 => .int
  | 8 => .int
  | _ => .int
theorem n_Rv : ∀ a, a < 10 → ∀ b, b < 10 → a ≠ b → (F_Rv a).2.1 ≠ (F_Rv b).2.1 := by decide +kernel
theorem t_Rv_ok : ∀ k, k < 10 → parseFieldDescriptor (F_Rv k).2.2.1 = some (t_Rv k) := by decide +kernel
def R_Me : String := "RvMachine$Memory"
def F_Me : u_T := fun k => match k with
  | 0 => ("RvMachine$Memory", "made", "I", false)
  | 1 => ("RvMachine$Memory", "bytes", "I", false)
  | 2 => ("RvMachine$Memory", "lastOnes", "I", false)
  | 3 => ("RvMachine$Memory", "newestLast", "I", false)
  | 4 => ("RvMachine$Memory", "sizes", "[I", false)
  | 5 => ("RvMachine$Memory", "starts", "[I", false)
  | 6 => ("RvMachine$Memory", "before", "[I", false)
  | 7 => ("RvMachine$Memory", "pool", "[B", false)
  | 8 => ("RvMachine$Memory", "poolEnd", "I", false)
  | _ => ("RvMachine$Memory", "blank", "[B", true)
def t_Me : Nat → FieldType := fun k => match k with
  | 0 => .int
  | 1 => .int
  | 2 => .int
  | 3 => .int
  | 4 => .array .int
  | 5 => .array .int
  | 6 => .array .int
  | 7 => .array .byte
  | 8 => .int
  | _ => .array .byte
theorem n_Me : ∀ a, a < 10 → ∀ b, b < 10 → a ≠ b → (F_Me a).2.1 ≠ (F_Me b).2.1 := by decide +kernel
theorem t_Me_ok : ∀ k, k < 10 → parseFieldDescriptor (F_Me k).2.2.1 = some (t_Me k) := by decide +kernel
def R_By : String := "RvMachine$Bytes"
def F_By : u_T := fun k => match k with
  | 0 => ("RvMachine$Bytes", "ring", "[B", true)
  | 1 => ("RvMachine$Bytes", "first", "I", false)
  | _ => ("RvMachine$Bytes", "held", "I", false)
def t_By : Nat → FieldType := fun k => match k with
  | 0 => .array .byte
  | 1 => .int
  | _ => .int
theorem n_By : ∀ a, a < 3 → ∀ b, b < 3 → a ≠ b → (F_By a).2.1 ≠ (F_By b).2.1 := by decide +kernel
theorem t_By_ok : ∀ k, k < 3 → parseFieldDescriptor (F_By k).2.2.1 = some (t_By k) := by decide +kernel
def R_Mo : String := "RvMachineModel"
def F_Mo : u_T := fun k => match k with
  | 0 => ("RvMachineModel", "mask", "[I", true)
  | 1 => ("RvMachineModel", "match", "[I", true)
  | 2 => ("RvMachineModel", "kinds", "I", false)
  | 3 => ("RvMachineModel", "word", "[I", true)
  | 4 => ("RvMachineModel", "words", "I", false)
  | 5 => ("RvMachineModel", "reg", "[I", true)
  | 6 => ("RvMachineModel", "pc", "I", false)
  | 7 => ("RvMachineModel", "state", "I", false)
  | 8 => ("RvMachineModel", "done", "I", false)
  | 9 => ("RvMachineModel", "thrown", "I", false)
  | 10 => ("RvMachineModel", "row", "[B", true)
  | 11 => ("RvMachineModel", "at", "[I", true)
  | 12 => ("RvMachineModel", "size", "[I", true)
  | 13 => ("RvMachineModel", "sort", "[I", true)
  | 14 => ("RvMachineModel", "last", "[I", true)
  | 15 => ("RvMachineModel", "made", "I", false)
  | 16 => ("RvMachineModel", "lasts", "I", false)
  | 17 => ("RvMachineModel", "top", "I", false)
  | 18 => ("RvMachineModel", "there", "I", false)
  | 19 => ("RvMachineModel", "input", "[B", true)
  | 20 => ("RvMachineModel", "written", "[B", true)
  | 21 => ("RvMachineModel", "copy", "[B", true)
  | 22 => ("RvMachineModel", "inputs", "I", false)
  | _ => ("RvMachineModel", "outputs", "I", false)
def t_Mo : Nat → FieldType := fun k => match k with
  | 0 => .array .int
  | 1 => .array .int
  | 2 => .int
  | 3 => .array .int
  | 4 => .int
  | 5 => .array .int
  | 6 => .int
  | 7 => .int
  | 8 => .int
  | 9 => .int
  | 10 => .array .byte
  | 11 => .array .int
  | 12 => .array .int
  | 13 => .array .int
  | 14 => .array .int
  | 15 => .int
  | 16 => .int
  | 17 => .int
  | 18 => .int
  | 19 => .array .byte
  | 20 => .array .byte
  | 21 => .array .byte
  | 22 => .int
  | _ => .int
theorem n_Mo : ∀ a, a < 24 → ∀ b, b < 24 → a ≠ b → (F_Mo a).2.1 ≠ (F_Mo b).2.1 := by decide +kernel
theorem t_Mo_ok : ∀ k, k < 24 → parseFieldDescriptor (F_Mo k).2.2.1 = some (t_Mo k) := by decide +kernel
/-- the classes whose objects the worlds hold, by their places -/
abbrev zC : List vw_C := [(R_Rv, F_Rv, 10), (R_Me, F_Me, 10), (R_By, F_By, 3), (R_Mo, F_Mo, 24)]
abbrev b_By_init : ByteArray := prog_2_method_1_code
def y_By_init : MethodName := ⟨"RvMachine$Bytes", "<init>", "(I)V"⟩
abbrev b_By_forgetAll : ByteArray := prog_2_method_2_code
def y_By_forgetAll : MethodName := ⟨"RvMachine$Bytes", "forgetAll", "()V"⟩
abbrev b_By_add : ByteArray := prog_2_method_3_code
def y_By_add : MethodName := ⟨"RvMachine$Bytes", "add", "(I)V"⟩
abbrev b_By_removeFirst : ByteArray := prog_2_method_4_code
def y_By_removeFirst : MethodName := ⟨"RvMachine$Bytes", "removeFirst", "()I"⟩
abbrev b_By_wrapped : ByteArray := prog_2_method_5_code
def y_By_wrapped : MethodName := ⟨"RvMachine$Bytes", "wrapped", "(I)I"⟩
abbrev b_Me_init : ByteArray := prog_3_method_1_code
def y_Me_init : MethodName := ⟨"RvMachine$Memory", "<init>", "()V"⟩
abbrev b_Me_forgetAll : ByteArray := prog_3_method_2_code
def y_Me_forgetAll : MethodName := ⟨"RvMachine$Memory", "forgetAll", "()V"⟩
abbrev b_Me_make : ByteArray := prog_3_method_3_code
def y_Me_make : MethodName := ⟨"RvMachine$Memory", "make", "(IZ)I"⟩
abbrev b_Me_addNumber : ByteArray := prog_3_method_4_code
def y_Me_addNumber : MethodName := ⟨"RvMachine$Memory", "addNumber", "()V"⟩
abbrev b_Me_roundedUp : ByteArray := prog_3_method_5_code
def y_Me_roundedUp : MethodName := ⟨"RvMachine$Memory", "roundedUp", "(I)I"⟩
abbrev b_Me_tidy : ByteArray := prog_3_method_6_code
def y_Me_tidy : MethodName := ⟨"RvMachine$Memory", "tidy", "(I)V"⟩
abbrev b_Me_dropLast : ByteArray := prog_3_method_7_code
def y_Me_dropLast : MethodName := ⟨"RvMachine$Memory", "dropLast", "(I)Z"⟩
abbrev b_Me_dropGiven : ByteArray := prog_3_method_8_code
def y_Me_dropGiven : MethodName := ⟨"RvMachine$Memory", "dropGiven", "(I)Z"⟩
abbrev b_Me_drop : ByteArray := prog_3_method_9_code
def y_Me_drop : MethodName := ⟨"RvMachine$Memory", "drop", "(I)V"⟩
abbrev b_Me_isThere : ByteArray := prog_3_method_10_code
def y_Me_isThere : MethodName := ⟨"RvMachine$Memory", "isThere", "(I)Z"⟩
abbrev b_Me_holds : ByteArray := prog_3_method_11_code
def y_Me_holds : MethodName := ⟨"RvMachine$Memory", "holds", "(II)Z"⟩
abbrev b_Me_holdsAligned : ByteArray := prog_3_method_12_code
def y_Me_holdsAligned : MethodName := ⟨"RvMachine$Memory", "holdsAligned", "(II)Z"⟩
abbrev b_Me_spot : ByteArray := prog_3_method_13_code
def y_Me_spot : MethodName := ⟨"RvMachine$Memory", "spot", "(I)I"⟩
abbrev b_Me_read : ByteArray := prog_3_method_14_code
def y_Me_read : MethodName := ⟨"RvMachine$Memory", "read", "(II)I"⟩
abbrev b_Me_write : ByteArray := prog_3_method_15_code
def y_Me_write : MethodName := ⟨"RvMachine$Memory", "write", "(III)V"⟩
abbrev b_Me_copy : ByteArray := prog_3_method_16_code
def y_Me_copy : MethodName := ⟨"RvMachine$Memory", "copy", "(III)V"⟩
abbrev b_Rv_init : ByteArray := prog_1_method_1_code
def y_Rv_init : MethodName := ⟨"RvMachine", "<init>", "()V"⟩
abbrev b_Rv_word : ByteArray := prog_1_method_2_code
def y_Rv_word : MethodName := ⟨"RvMachine", "word", "(I)I"⟩
abbrev b_Rv_change : ByteArray := prog_1_method_3_code
def y_Rv_change : MethodName := ⟨"RvMachine", "change", "(II)I"⟩
abbrev b_Rv_begin : ByteArray := prog_1_method_4_code
def y_Rv_begin : MethodName := ⟨"RvMachine", "begin", "(I)V"⟩
abbrev b_Rv_run : ByteArray := prog_1_method_5_code
def y_Rv_run : MethodName := ⟨"RvMachine", "run", "(I)I"⟩
abbrev b_Rv_state : ByteArray := prog_1_method_6_code
def y_Rv_state : MethodName := ⟨"RvMachine", "state", "()I"⟩
abbrev b_Rv_register : ByteArray := prog_1_method_7_code
def y_Rv_register : MethodName := ⟨"RvMachine", "register", "(I)I"⟩
abbrev b_Rv_set : ByteArray := prog_1_method_8_code
def y_Rv_set : MethodName := ⟨"RvMachine", "set", "(II)I"⟩
abbrev b_Rv_peek : ByteArray := prog_1_method_9_code
def y_Rv_peek : MethodName := ⟨"RvMachine", "peek", "(I)I"⟩
abbrev b_Rv_input : ByteArray := prog_1_method_10_code
def y_Rv_input : MethodName := ⟨"RvMachine", "input", "(JI)I"⟩
abbrev b_Rv_take : ByteArray := prog_1_method_11_code
def y_Rv_take : MethodName := ⟨"RvMachine", "take", "()J"⟩
abbrev b_Rv_count : ByteArray := prog_1_method_12_code
def y_Rv_count : MethodName := ⟨"RvMachine", "count", "(I)I"⟩
abbrev b_Rv_widened : ByteArray := prog_1_method_13_code
def y_Rv_widened : MethodName := ⟨"RvMachine", "widened", "([III)[I"⟩
abbrev b_Rv_doNext : ByteArray := prog_1_method_14_code
def y_Rv_doNext : MethodName := ⟨"RvMachine", "doNext", "()V"⟩
abbrev b_Rv_execute : ByteArray := prog_1_method_15_code
def y_Rv_execute : MethodName := ⟨"RvMachine", "execute", "(I)I"⟩
abbrev b_Rv_middle : ByteArray := prog_1_method_16_code
def y_Rv_middle : MethodName := ⟨"RvMachine", "middle", "(I)I"⟩
abbrev b_Rv_top : ByteArray := prog_1_method_17_code
def y_Rv_top : MethodName := ⟨"RvMachine", "top", "(I)I"⟩
abbrev b_Rv_firstOperand : ByteArray := prog_1_method_18_code
def y_Rv_firstOperand : MethodName := ⟨"RvMachine", "firstOperand", "(I)I"⟩
abbrev b_Rv_secondOperand : ByteArray := prog_1_method_19_code
def y_Rv_secondOperand : MethodName := ⟨"RvMachine", "secondOperand", "(I)I"⟩
abbrev b_Rv_keep : ByteArray := prog_1_method_20_code
def y_Rv_keep : MethodName := ⟨"RvMachine", "keep", "(II)I"⟩
abbrev b_Rv_jumpOffset : ByteArray := prog_1_method_21_code
def y_Rv_jumpOffset : MethodName := ⟨"RvMachine", "jumpOffset", "(I)I"⟩
abbrev b_Rv_branchOffset : ByteArray := prog_1_method_22_code
def y_Rv_branchOffset : MethodName := ⟨"RvMachine", "branchOffset", "(I)I"⟩
abbrev b_Rv_storeOffset : ByteArray := prog_1_method_23_code
def y_Rv_storeOffset : MethodName := ⟨"RvMachine", "storeOffset", "(I)I"⟩
abbrev b_Rv_goTo : ByteArray := prog_1_method_24_code
def y_Rv_goTo : MethodName := ⟨"RvMachine", "goTo", "(I)I"⟩
abbrev b_Rv_jump : ByteArray := prog_1_method_25_code
def y_Rv_jump : MethodName := ⟨"RvMachine", "jump", "(II)I"⟩
abbrev b_Rv_jumpByRegister : ByteArray := prog_1_method_26_code
def y_Rv_jumpByRegister : MethodName := ⟨"RvMachine", "jumpByRegister", "(I)I"⟩
abbrev b_Rv_branch : ByteArray := prog_1_method_27_code
def y_Rv_branch : MethodName := ⟨"RvMachine", "branch", "(I)I"⟩
abbrev b_Rv_load : ByteArray := prog_1_method_28_code
def y_Rv_load : MethodName := ⟨"RvMachine", "load", "(I)I"⟩
abbrev b_Rv_store : ByteArray := prog_1_method_29_code
def y_Rv_store : MethodName := ⟨"RvMachine", "store", "(I)I"⟩
abbrev b_Rv_operateWithConstant : ByteArray := prog_1_method_30_code
def y_Rv_operateWithConstant : MethodName := ⟨"RvMachine", "operateWithConstant", "(I)I"⟩
abbrev b_Rv_operate : ByteArray := prog_1_method_31_code
def y_Rv_operate : MethodName := ⟨"RvMachine", "operate", "(I)I"⟩
abbrev b_Rv_plainResult : ByteArray := prog_1_method_32_code
def y_Rv_plainResult : MethodName := ⟨"RvMachine", "plainResult", "(III)I"⟩
abbrev b_Rv_product : ByteArray := prog_1_method_33_code
def y_Rv_product : MethodName := ⟨"RvMachine", "product", "(III)I"⟩
abbrev b_Rv_quotient : ByteArray := prog_1_method_34_code
def y_Rv_quotient : MethodName := ⟨"RvMachine", "quotient", "(III)I"⟩
abbrev b_Rv_unsigned : ByteArray := prog_1_method_35_code
def y_Rv_unsigned : MethodName := ⟨"RvMachine", "unsigned", "(I)J"⟩
abbrev b_Rv_isBelow : ByteArray := prog_1_method_36_code
def y_Rv_isBelow : MethodName := ⟨"RvMachine", "isBelow", "(II)Z"⟩
abbrev b_Rv_serve : ByteArray := prog_1_method_37_code
def y_Rv_serve : MethodName := ⟨"RvMachine", "serve", "()I"⟩
abbrev b_Rv_doneIf : ByteArray := prog_1_method_38_code
def y_Rv_doneIf : MethodName := ⟨"RvMachine", "doneIf", "(Z)I"⟩
abbrev b_Rv_answerAddress : ByteArray := prog_1_method_39_code
def y_Rv_answerAddress : MethodName := ⟨"RvMachine", "answerAddress", "(I)I"⟩
abbrev b_Rv_copyBytes : ByteArray := prog_1_method_40_code
def y_Rv_copyBytes : MethodName := ⟨"RvMachine", "copyBytes", "(III)I"⟩
abbrev b_Mo_init : ByteArray := prog_5_method_1_code
def y_Mo_init : MethodName := ⟨"RvMachineModel", "<init>", "()V"⟩
abbrev b_Mo_kind : ByteArray := prog_5_method_2_code
def y_Mo_kind : MethodName := ⟨"RvMachineModel", "kind", "(II)V"⟩
abbrev b_Mo_thrown : ByteArray := prog_5_method_3_code
def y_Mo_thrown : MethodName := ⟨"RvMachineModel", "thrown", "()I"⟩
abbrev b_Mo_bits : ByteArray := prog_5_method_4_code
def y_Mo_bits : MethodName := ⟨"RvMachineModel", "bits", "(III)I"⟩
abbrev b_Mo_signed : ByteArray := prog_5_method_5_code
def y_Mo_signed : MethodName := ⟨"RvMachineModel", "signed", "(II)I"⟩
abbrev b_Mo_byUpper : ByteArray := prog_5_method_6_code
def y_Mo_byUpper : MethodName := ⟨"RvMachineModel", "byUpper", "(I)I"⟩
abbrev b_Mo_byStore : ByteArray := prog_5_method_7_code
def y_Mo_byStore : MethodName := ⟨"RvMachineModel", "byStore", "(I)I"⟩
abbrev b_Mo_byBranch : ByteArray := prog_5_method_8_code
def y_Mo_byBranch : MethodName := ⟨"RvMachineModel", "byBranch", "(I)I"⟩
abbrev b_Mo_byJump : ByteArray := prog_5_method_9_code
def y_Mo_byJump : MethodName := ⟨"RvMachineModel", "byJump", "(I)I"⟩
abbrev b_Mo_up : ByteArray := prog_5_method_10_code
def y_Mo_up : MethodName := ⟨"RvMachineModel", "up", "(I)I"⟩
abbrev b_Mo_place : ByteArray := prog_5_method_11_code
def y_Mo_place : MethodName := ⟨"RvMachineModel", "place", "(II)I"⟩
abbrev b_Mo_read : ByteArray := prog_5_method_12_code
def y_Mo_read : MethodName := ⟨"RvMachineModel", "read", "(II)I"⟩
abbrev b_Mo_object : ByteArray := prog_5_method_13_code
def y_Mo_object : MethodName := ⟨"RvMachineModel", "object", "(II)I"⟩
abbrev b_Mo_pack : ByteArray := prog_5_method_14_code
def y_Mo_pack : MethodName := ⟨"RvMachineModel", "pack", "()V"⟩
abbrev b_Mo_gone : ByteArray := prog_5_method_15_code
def y_Mo_gone : MethodName := ⟨"RvMachineModel", "gone", "(I)V"⟩
abbrev b_Mo_put : ByteArray := prog_5_method_16_code
def y_Mo_put : MethodName := ⟨"RvMachineModel", "put", "(II)V"⟩
abbrev b_Mo_trap : ByteArray := prog_5_method_17_code
def y_Mo_trap : MethodName := ⟨"RvMachineModel", "trap", "(I)V"⟩
abbrev b_Mo_isGone : ByteArray := prog_5_method_18_code
def y_Mo_isGone : MethodName := ⟨"RvMachineModel", "isGone", "(I)Z"⟩
abbrev b_Mo_step : ByteArray := prog_5_method_19_code
def y_Mo_step : MethodName := ⟨"RvMachineModel", "step", "()V"⟩
abbrev b_Mo_goesOn : ByteArray := prog_5_method_20_code
def y_Mo_goesOn : MethodName := ⟨"RvMachineModel", "goesOn", "(II)V"⟩
abbrev b_Mo_jumps : ByteArray := prog_5_method_21_code
def y_Mo_jumps : MethodName := ⟨"RvMachineModel", "jumps", "(II)V"⟩
abbrev b_Mo_branch : ByteArray := prog_5_method_22_code
def y_Mo_branch : MethodName := ⟨"RvMachineModel", "branch", "(II)V"⟩
abbrev b_Mo_load : ByteArray := prog_5_method_23_code
def y_Mo_load : MethodName := ⟨"RvMachineModel", "load", "(II)V"⟩
abbrev b_Mo_store : ByteArray := prog_5_method_24_code
def y_Mo_store : MethodName := ⟨"RvMachineModel", "store", "(II)V"⟩
abbrev b_Mo_plain : ByteArray := prog_5_method_25_code
def y_Mo_plain : MethodName := ⟨"RvMachineModel", "plain", "(IZII)I"⟩
abbrev b_Mo_more : ByteArray := prog_5_method_26_code
def y_Mo_more : MethodName := ⟨"RvMachineModel", "more", "(III)I"⟩
abbrev b_Mo_service : ByteArray := prog_5_method_27_code
def y_Mo_service : MethodName := ⟨"RvMachineModel", "service", "()V"⟩
abbrev b_Mo_word : ByteArray := prog_5_method_28_code
def y_Mo_word : MethodName := ⟨"RvMachineModel", "word", "(I)I"⟩
abbrev b_Mo_change : ByteArray := prog_5_method_29_code
def y_Mo_change : MethodName := ⟨"RvMachineModel", "change", "(II)I"⟩
abbrev b_Mo_begin : ByteArray := prog_5_method_30_code
def y_Mo_begin : MethodName := ⟨"RvMachineModel", "begin", "(I)V"⟩
abbrev b_Mo_run : ByteArray := prog_5_method_31_code
def y_Mo_run : MethodName := ⟨"RvMachineModel", "run", "(I)I"⟩
abbrev b_Mo_state : ByteArray := prog_5_method_32_code
def y_Mo_state : MethodName := ⟨"RvMachineModel", "state", "()I"⟩
abbrev b_Mo_register : ByteArray := prog_5_method_33_code
def y_Mo_register : MethodName := ⟨"RvMachineModel", "register", "(I)I"⟩
abbrev b_Mo_set : ByteArray := prog_5_method_34_code
def y_Mo_set : MethodName := ⟨"RvMachineModel", "set", "(II)I"⟩
abbrev b_Mo_peek : ByteArray := prog_5_method_35_code
def y_Mo_peek : MethodName := ⟨"RvMachineModel", "peek", "(I)I"⟩
abbrev b_Mo_input : ByteArray := prog_5_method_36_code
def y_Mo_input : MethodName := ⟨"RvMachineModel", "input", "(JI)I"⟩
abbrev b_Mo_take : ByteArray := prog_5_method_37_code
def y_Mo_take : MethodName := ⟨"RvMachineModel", "take", "()J"⟩
abbrev b_Mo_count : ByteArray := prog_5_method_38_code
def y_Mo_count : MethodName := ⟨"RvMachineModel", "count", "(I)I"⟩
abbrev b_Ar_copyOfI : ByteArray := prog_15_method_123_code
def y_Ar_copyOfI : MethodName := ⟨"java/util/Arrays", "copyOf", "([II)[I"⟩
abbrev b_Ar_fill : ByteArray := prog_15_method_103_code
def y_Ar_fill : MethodName := ⟨"java/util/Arrays", "fill", "([II)V"⟩
abbrev b_Ar_copyOfB : ByteArray := prog_15_method_121_code
def y_Ar_copyOfB : MethodName := ⟨"java/util/Arrays", "copyOf", "([BI)[B"⟩
end
section
/-! Base rows of this claim: one list of words for all methods (zW), contracts with the cells that were made told apart (zMet), calls over them. -/
/-- the words of the tables that stay so whatever is called: every method's contract takes them all -/
def zW : List Cond := lw_tbl.filter goodWord
theorem zW_in {w : Cond} (i : Nat) (h : lw_tbl[i]? = some w) (g : goodWord w = true) : w ∈ zW := List.mem_filter.mpr ⟨List.mem_of_getElem? h, g⟩
theorem zW_of {w : Cond} (h : w ∈ lw_tbl) (g : goodWord w = true) : w ∈ zW := List.mem_filter.mpr ⟨h, g⟩
theorem z_good {w : Cond} (h : goodWord w = true) : (w.onTables && w.keeps) = true ∨ ∃ ty, w = .arrayClass ty := by
  cases w <;> first | exact Or.inr ⟨_, rfl⟩ | exact Or.inl h
theorem zW_move {args a' : Array Value} {s U : State} (hW : s.WarmedH U.vm) {w : Cond} (h : w ∈ zW) (hb : w.before args s = true) : w.before a' U = true :=
  word_at hW (z_good (List.mem_filter.mp h).2) hb
abbrev zWs (y : MethodName) (cc : ByteArray) (n : Nat) (r : Option FieldType) : List Cond := Cond.code y cc n r :: zW
/-- a contract: what comes back may say how many cells (k) and slots (n) were made -/
def zMet (l : Launch) (y : MethodName) (ws : List Cond) (rm : Room) (Pc : Array Value → State → Prop) (Qc : Array Value → State → Outcome → State → Nat → Nat → Prop) (free : Addr → Prop) : Prop :=
  MetFree l y (headSpec ws rm) Pc (fun _ _ _ _ _ => True) (fun a st o t => ∃ L k n, Qc a st o t k n ∧ FrameEnd st o t L k n ∧ ∀ q ∈ L, free q.base)
def zMQ (below : List Frame) (Qc : Array Value → State → Outcome → State → Nat → Nat → Prop) (a : Array Value) (s : State) (free : Addr → Prop) : State → Prop := fun t =>
  ∃ o, t.status = .running ∧ Ended t below o ∧ ∃ L k n, Qc a s o t k n ∧ FrameEnd s o t L k n ∧ ∀ q ∈ L, free q.base
theorem zMet.ofW {l : Launch} {y : MethodName} {ws ws' : List Cond} {rm : Room} {Pc : Array Value → State → Prop} {Qc : Array Value → State → Outcome → State → Nat → Nat → Prop} {free : Addr → Prop} {cc : ByteArray} {maxL : Nat} {ret : Option FieldType}
    (hy : plainName y.cls = true) (hw : ws = Cond.code y cc maxL ret :: ws')
    (body : ∀ p e s m args below meth c s₁, BodyLoose p l y (headSpec ws rm) cc maxL ret e s m args below meth c s₁ → c.maxLocals = maxL → Pc args s →
      W p l e (headSpec ws rm).room s m args below meth c s.heap [] 0 0 (zMQ below Qc args s free) (entryFrame m args maxL)) : zMet l y ws rm Pc Qc free := by
  refine MetFree.of_bodyS (code := cc) (maxLocals := maxL) (ret := ret) hy ?_ ?_
  · intro args s m h hn
    obtain ⟨meth, c, h1, h2, h3, h4, h5, h6, -, -⟩ := Cond.code_spec hn (atoms_spec (ws := ws) h _ (by rw [hw]; exact List.mem_cons_self))
    exact ⟨meth, c, h1, h2, h3, h4, h5, h6⟩
  · intro p e s m args below meth c s₁ B hml hP _
    have hh0 : s₁.heap = s.heap := by rw [B.state]; rfl
    obtain ⟨t, a1, o, b1, b2, b3⟩ := body p e s m args below meth c s₁ B hml hP s₁ hh0 (Stand.of_body B)
    exact ⟨t, o, a1, b1, b2, b3⟩
/-- a contract's start: the arguments, the world, the classes -/
def zPc (D : va_G) (T : List (ClassId × FieldType)) (sz : Nat) (ws : va_W) (av : List Value) : Array Value → State → Prop :=
  va_Pc av (fun U => U.heap.size = sz ∧ va_P D zC ws U.heap ∧ va_K D zC T U ∧ va_D (fun _ => True) ws)
theorem zPc_blind {D : va_G} {T : List (ClassId × FieldType)} {sz : Nat} {ws : va_W} {av : List Value} : FrameBlind (zPc D T sz ws av) := by
  intro a U g mk q
  obtain ⟨q0, q1, qP, qK, qD⟩ := q
  exact ⟨q0, q1, qP, va_K.moved (u := U) (U := U.calling g mk a) (Vm.Alike.refl U.vm) qK, qD⟩
/-- ends: int, long, void, a reference; K u: the cells and slots that were made -/
def zQi {S : Type} (D : va_G) (A : Nat → Prop) (post : Int32 → S → Prop) (K : S → Nat × Nat) (Wd : S → va_W) : Array Value → State → Outcome → State → Nat → Nat → Prop := fun _ st oc t k n =>
  (∃ (r : Int32) (u : S), oc = .returned (some (.int r)) ∧ post r u ∧ k = (K u).1 ∧ n = (K u).2 ∧ va_P D zC (Wd u) t.heap ∧ va_D A (Wd u)) ∧ va_F A st t
def zQl {S : Type} (D : va_G) (A : Nat → Prop) (post : Int64 → S → Prop) (K : S → Nat × Nat) (Wd : S → va_W) : Array Value → State → Outcome → State → Nat → Nat → Prop := fun _ st oc t k n =>
  (∃ (r : Int64) (u : S), oc = .returned (some (.long r)) ∧ post r u ∧ k = (K u).1 ∧ n = (K u).2 ∧ va_P D zC (Wd u) t.heap ∧ va_D A (Wd u)) ∧ va_F A st t
def zQv {S : Type} (D : va_G) (A : Nat → Prop) (post : S → Prop) (K : S → Nat × Nat) (Wd : S → va_W) : Array Value → State → Outcome → State → Nat → Nat → Prop := fun _ st oc t k n =>
  (∃ (u : S), oc = .returned none ∧ post u ∧ k = (K u).1 ∧ n = (K u).2 ∧ va_P D zC (Wd u) t.heap ∧ va_D A (Wd u)) ∧ va_F A st t
def zQr {S : Type} (D : va_G) (A : Nat → Prop) (post : Nat → S → Prop) (K : S → Nat × Nat) (Wd : S → va_W) : Array Value → State → Outcome → State → Nat → Nat → Prop := fun _ st oc t k n =>
  (∃ (r : Nat) (u : S), oc = .returned (some (.ref r)) ∧ post r u ∧ k = (K u).1 ∧ n = (K u).2 ∧ va_P D zC (Wd u) t.heap ∧ va_D A (Wd u)) ∧ va_F A st t
abbrev z0 : Unit → Nat × Nat := fun _ => (0, 0)
section ZCalls
variable {p : Program} {l : Launch} {e : Env} {R : Room} {s : State} {m : MethodId} {args : Array Value} {below : List Frame} {meth : Method} {c : Code} {H : Heap} {locs : List Loc} {cells slots : Nat} {Q : State → Prop}
variable {y : MethodName} {bytes cc : ByteArray} {maxL nL n index : Nat} {ret : Option FieldType} {rm : Room} {Pc : Array Value → State → Prop} {Qc : Array Value → State → Outcome → State → Nat → Nat → Prop} {free : Addr → Prop} {own C host : String} {b : Addr} {As rest st0 : List Value} {pc : Nat} {ls : Array Slot}
theorem zW_mono {Q' : State → Prop} {g : JFrame} (h : ∀ t, Q t → Q' t) (k : W p l e R s m args below meth c H locs cells slots Q g) : W p l e R s m args below meth c H locs cells slots Q' g := by
  intro T hT X
  obtain ⟨t, a, b⟩ := k T hT X
  exact ⟨t, a, h t b⟩
def zPre (R : Room) (rm : Room) (Pc : Array Value → State → Prop) : Pt → Array Value → Prop := fun A a => A.cells + rm.cells ≤ R.cells ∧ A.slots + rm.slots ≤ R.slots ∧ Pc a A.U
def zPost (Qc : Array Value → State → Outcome → State → Nat → Nat → Prop) (free : Addr → Prop) : Pt → Array Value → Option Value → Pt → Prop := fun A a v B =>
  ∃ (g : JFrame) (mk : MethodId) (t : State) (L : List Loc) (k n : Nat), B.U.heap = t.heap ∧ B.U.vm = t.vm ∧ Qc a (A.U.calling g mk a) (.returned v) t k n ∧ B.locs = A.locs ++ L ∧ (∀ q ∈ L, free q.base) ∧ B.cells = A.cells + k ∧ B.slots = A.slots + n
theorem zback (hM : zMet l y (zWs y bytes maxL ret) rm Pc Qc free) (hblind : FrameBlind Pc) (hfr : rm.frames + 1 ≤ R.frames) (hlo : 8 + (maxL + 11) + rm.locals ≤ R.locals)
    (hw : ∀ w ∈ zW, w.before args s = true) (hcode : Cond.code y bytes maxL ret ∈ zW) (hini : Cond.initialized y.cls ∈ zW) :
    Back l R p e below s args y 3 8 (zPre R rm Pc) (zPost Qc free) := by
  refine Back.of_free (S := headSpec (zWs y bytes maxL ret) rm) (P := Pc) (K := fun _ _ _ _ _ => True) (Q := fun a st o t => ∃ L k n, Qc a st o t k n ∧ FrameEnd st o t L k n ∧ ∀ q ∈ L, free q.base) (bytes := bytes) (maxL := maxL) (ret := ret)
    (E := fun a st o t L k n => Qc a st o t k n ∧ ∀ q ∈ L, free q.base) hM hfr hlo ?_ ?_ (fun _ _ _ _ _ _ _ _ _ => trivial) ?_ ?_
  · intro m meth c A a X hp
    have ok : ∀ w ∈ zW, w.before a A.U = true := fun w h => zW_move X.warmed h (hw w h)
    refine ⟨atoms_intro fun w h => ?_, ok _ hcode, ok _ hini, hp.1, hp.2.1⟩
    rcases List.mem_cons.mp h with rfl | h
    · exact ok _ hcode
    · exact ok w h
  · intro m meth c A a g mk X hp
    exact hblind _ _ _ _ hp.2.2
  · intro a st o t ⟨L, k, n, hq, hF, hL⟩
    exact ⟨L, k, n, hF, hq, hL⟩
  · intro m meth c A a g mk v t L k n X hp _ hF ⟨hq, hL⟩
    exact ⟨g, mk, t, L, k, n, rfl, rfl, hq, rfl, hL, rfl, rfl⟩
/-- a call that comes back -/
def zRun (p : Program) (l : Launch) (e : Env) (R : Room) (s : State) (m : MethodId) (args : Array Value) (below : List Frame) (meth : Method) (c : Code) (H : Heap) (locs : List Loc) (cells slots : Nat) (g : JFrame) (rest : List Value) (Qa : State → Outcome → State → Nat → Nat → Prop) (free : Addr → Prop) : Prop :=
  ∀ T : State, T.heap = H → Stand p l e R s m args below meth c T locs cells slots → ∃ (v : Option Value) (st₀ t T' : State) (L : List Loc) (k n : Nat), st₀.heap = H ∧ Stand p l e R s m args below meth c T' (locs ++ L) (cells + k) (slots + n) ∧ (∀ q ∈ L, free q.base) ∧ T'.heap = t.heap ∧ T'.vm = t.vm ∧ Qa st₀ (.returned v) t k n ∧
    ∀ target, Steps p.tables e below (T'.setTop { g with pc := g.pc + 3, stack := v.toList ++ rest }) target → Steps p.tables e below (T.setTop g) target
/-- what a call's rows say of the callee -/
def zCb (y : MethodName) (bytes : ByteArray) (maxL : Nat) (ret : Option FieldType) (n : Nat) : Prop :=
  Cond.code y bytes maxL ret ∈ zW ∧ Cond.initialized y.cls ∈ zW ∧ (y.cls ≠ "java/lang/invoke/MethodHandle" ∧ y.cls ≠ "java/lang/invoke/VarHandle") ∧ (parseMethodDescriptor y.desc).map (fun d => d.parameters.length) = some n
theorem zCb.len (h : zCb y bytes maxL ret n) : ∀ sig, parseMethodDescriptor y.desc = some sig → n = sig.parameters.length := by
  intro sig hs
  have h2 := h.2.2.2
  rw [hs] at h2
  exact (Option.some.inj h2).symm
def zRm (R rm : Room) (maxL cells slots : Nat) : Prop := rm.frames + 1 ≤ R.frames ∧ 8 + (maxL + 11) + rm.locals ≤ R.locals ∧ cells + rm.cells ≤ R.cells ∧ slots + rm.slots ≤ R.slots
/-- how an instruction names its method: in its own class's pool, or a nest mate's -/
def zLk (own : String) (index : Nat) (y : MethodName) : Prop := Cond.methodLink own index y ∈ zW ∨ ∃ host, Cond.methodLinkNest own index y host ∈ zW
theorem zrunV (S : CallFix p m c cc nL s args zW own) (hM : zMet l y (zWs y bytes maxL ret) rm Pc Qc free) (cb : zCb y bytes maxL ret n) (lk : zLk own index y) (hin : Cond.instanceMethod y ∈ zW) (hse : Cond.selects y.cls y y ∈ zW) (hp : PreV s H y.cls b Pc As) (hR : zRm R rm maxL cells slots)
    (hn : As.length = n) (hsize : ls.size = nL) (hst : st0 = As.reverse ++ .ref b :: rest) (hW : (rest.map fun v => v.category).sum ≤ 8) (hdg : decode cc pc = .ok (.invokevirtual index, 3)) :
    zRun p l e R s m args below meth c H locs cells slots (F0 m pc ls st0) rest (Qc (Value.ref b :: As).toArray) free := by
  obtain ⟨hx, hb, hml, ho, hw⟩ := S
  have hK : Back l R p e below s args y 3 8 (zPre R rm Pc) (zPost Qc free) := zback hM hp.1 hR.1 hR.2.1 hw cb.1 cb.2.1
  obtain ⟨-, ⟨cellB, hcB, hoB, hclB⟩, hPc⟩ := hp
  subst hst
  intro T hT X
  rcases lk with lk | ⟨host, lk⟩
  · obtain ⟨v, vm₁, ⟨U', l2, c2, s2⟩, hW₁, X', ⟨g', mk, t, L, k, n', e1, e2, hq, h1, hL, h2, h3⟩, st⟩ := callV X hx (C := y.cls) (bytes := bytes) (maxL := maxL) (ret := ret) ho (hw _ lk) (hw _ hin) (hw _ hse) (hw _ cb.1) cb.2.2.1 hK (by rw [hT]; exact hcB) hoB hclB (g := F0 m pc ls (As.reverse ++ .ref b :: rest)) rfl (hsize.trans hml.symm) (argsL := As) (rest := rest) (fun sig h => hn.trans (cb.len sig h)) rfl (lv_room hW) (by rw [hb]; exact hdg)
      (fun vm₁ hW₁ => ⟨hR.2.2.1, hR.2.2.2, hPc (T.setVm vm₁) hT hW₁⟩)
    dsimp only [Pt.U, Pt.locs, Pt.cells, Pt.slots] at X' e1 e2 h1 h2 h3 st
    subst h1; subst h2; subst h3
    exact ⟨v, (T.setVm vm₁).calling g' mk (Value.ref b :: As).toArray, t, U', L, k, n', hT, X', hL, e1, e2, hq, st⟩
  · obtain ⟨v, vm₁, ⟨U', l2, c2, s2⟩, hW₁, X', ⟨g', mk, t, L, k, n', e1, e2, hq, h1, hL, h2, h3⟩, st⟩ := va_callVN X hx (C := y.cls) (bytes := bytes) (maxL := maxL) (ret := ret) ho (hw _ lk) (hw _ hin) (hw _ hse) (hw _ cb.1) cb.2.2.1 hK (by rw [hT]; exact hcB) hoB hclB (g := F0 m pc ls (As.reverse ++ .ref b :: rest)) rfl (hsize.trans hml.symm) (argsL := As) (rest := rest) (fun sig h => hn.trans (cb.len sig h)) rfl (lv_room hW) (by rw [hb]; exact hdg)
      (fun vm₁ hW₁ => ⟨hR.2.2.1, hR.2.2.2, hPc (T.setVm vm₁) hT hW₁⟩)
    dsimp only [Pt.U, Pt.locs, Pt.cells, Pt.slots] at X' e1 e2 h1 h2 h3 st
    subst h1; subst h2; subst h3
    exact ⟨v, (T.setVm vm₁).calling g' mk (Value.ref b :: As).toArray, t, U', L, k, n', hT, X', hL, e1, e2, hq, st⟩
theorem zrunS (S : CallFix p m c cc nL s args zW own) (hM : zMet l y (zWs y bytes maxL ret) rm Pc Qc free) (cb : zCb y bytes maxL ret n) (lk : zLk own index y) (hstt : Cond.static y ∈ zW) (hp : PreS s H Pc As) (hR : zRm R rm maxL cells slots)
    (hn : As.length = n) (hsize : ls.size = nL) (hst : st0 = As.reverse ++ rest) (hW : (rest.map fun v => v.category).sum ≤ 8) (hdg : decode cc pc = .ok (.invokestatic index, 3)) :
    zRun p l e R s m args below meth c H locs cells slots (F0 m pc ls st0) rest (Qc As.toArray) free := by
  obtain ⟨hx, hb, hml, ho, hw⟩ := S
  have hK : Back l R p e below s args y 3 8 (zPre R rm Pc) (zPost Qc free) := zback hM hp.1 hR.1 hR.2.1 hw cb.1 cb.2.1
  subst hst
  intro T hT X
  rcases lk with lk | ⟨host, lk⟩
  · obtain ⟨v, vm₁, ⟨U', l2, c2, s2⟩, hW₁, X', ⟨g', mk, t, L, k, n', e1, e2, hq, h1, hL, h2, h3⟩, st⟩ := callS X hx (bytes := bytes) (maxL := maxL) (ret := ret) ho (hw _ lk) (hw _ hstt) (hw _ cb.2.1) (hw _ cb.1) cb.2.2.1 hK (g := F0 m pc ls (As.reverse ++ rest)) rfl (hsize.trans hml.symm) (argsL := As) (rest := rest) (fun sig h => hn.trans (cb.len sig h)) rfl (lv_room hW) (by rw [hb]; exact hdg)
      (fun vm₁ hW₁ => ⟨hR.2.2.1, hR.2.2.2, hp.2 (T.setVm vm₁) hT hW₁⟩)
    dsimp only [Pt.U, Pt.locs, Pt.cells, Pt.slots] at X' e1 e2 h1 h2 h3 st
    subst h1; subst h2; subst h3
    exact ⟨v, (T.setVm vm₁).calling g' mk As.toArray, t, U', L, k, n', hT, X', hL, e1, e2, hq, st⟩
  · obtain ⟨v, vm₁, ⟨U', l2, c2, s2⟩, hW₁, X', ⟨g', mk, t, L, k, n', e1, e2, hq, h1, hL, h2, h3⟩, st⟩ := va_callSN X hx (bytes := bytes) (maxL := maxL) (ret := ret) ho (hw _ lk) (hw _ hstt) (hw _ cb.2.1) (hw _ cb.1) cb.2.2.1 hK (g := F0 m pc ls (As.reverse ++ rest)) rfl (hsize.trans hml.symm) (argsL := As) (rest := rest) (fun sig h => hn.trans (cb.len sig h)) rfl (lv_room hW) (by rw [hb]; exact hdg)
      (fun vm₁ hW₁ => ⟨hR.2.2.1, hR.2.2.2, hp.2 (T.setVm vm₁) hT hW₁⟩)
    dsimp only [Pt.U, Pt.locs, Pt.cells, Pt.slots] at X' e1 e2 h1 h2 h3 st
    subst h1; subst h2; subst h3
    exact ⟨v, (T.setVm vm₁).calling g' mk As.toArray, t, U', L, k, n', hT, X', hL, e1, e2, hq, st⟩
theorem zrunI (S : CallFix p m c cc nL s args zW own) (hM : zMet l y (zWs y bytes maxL none) rm Pc Qc free) (cb : zCb y bytes maxL none n) (lk : zLk own index y) (hin : Cond.instanceMethod y ∈ zW) (hy1 : y.name = "<init>") (hp : PreS s H Pc (.ref b :: As)) (hR : zRm R rm maxL cells slots)
    (hn : As.length = n) (hsize : ls.size = nL) (hst : st0 = As.reverse ++ .ref b :: rest) (hW : (rest.map fun v => v.category).sum ≤ 8) (hdg : decode cc pc = .ok (.invokespecial index, 3)) :
    zRun p l e R s m args below meth c H locs cells slots (F0 m pc ls st0) rest (Qc (Value.ref b :: As).toArray) free := by
  obtain ⟨hx, hb, hml, ho, hw⟩ := S
  have hK : Back l R p e below s args y 3 8 (zPre R rm Pc) (zPost Qc free) := zback hM hp.1 hR.1 hR.2.1 hw cb.1 cb.2.1
  subst hst
  intro T hT X
  rcases lk with lk | ⟨host, lk⟩
  · obtain ⟨v, vm₁, ⟨U', l2, c2, s2⟩, hW₁, X', ⟨g', mk, t, L, k, n', e1, e2, hq, h1, hL, h2, h3⟩, st⟩ := callI X hx (bytes := bytes) (maxL := maxL) ho hy1 (hw _ lk) (hw _ hin) (hw _ cb.1) cb.2.2.1 hK (g := F0 m pc ls (As.reverse ++ .ref b :: rest)) rfl (hsize.trans hml.symm) (a := b) (argsL := As) (rest := rest) (fun sig h => hn.trans (cb.len sig h)) rfl (lv_room hW) (by rw [hb]; exact hdg)
      (fun vm₁ hW₁ => ⟨hR.2.2.1, hR.2.2.2, hp.2 (T.setVm vm₁) hT hW₁⟩)
    dsimp only [Pt.U, Pt.locs, Pt.cells, Pt.slots] at X' e1 e2 h1 h2 h3 st
    subst h1; subst h2; subst h3
    exact ⟨v, (T.setVm vm₁).calling g' mk (Value.ref b :: As).toArray, t, U', L, k, n', hT, X', hL, e1, e2, hq, st⟩
  · obtain ⟨v, vm₁, ⟨U', l2, c2, s2⟩, hW₁, X', ⟨g', mk, t, L, k, n', e1, e2, hq, h1, hL, h2, h3⟩, st⟩ := va_callIN X hx (bytes := bytes) (maxL := maxL) ho hy1 (hw _ lk) (hw _ hin) (hw _ cb.1) cb.2.2.1 hK (g := F0 m pc ls (As.reverse ++ .ref b :: rest)) rfl (hsize.trans hml.symm) (a := b) (argsL := As) (rest := rest) (fun sig h => hn.trans (cb.len sig h)) rfl (lv_room hW) (by rw [hb]; exact hdg)
      (fun vm₁ hW₁ => ⟨hR.2.2.1, hR.2.2.2, hp.2 (T.setVm vm₁) hT hW₁⟩)
    dsimp only [Pt.U, Pt.locs, Pt.cells, Pt.slots] at X' e1 e2 h1 h2 h3 st
    subst h1; subst h2; subst h3
    exact ⟨v, (T.setVm vm₁).calling g' mk (Value.ref b :: As).toArray, t, U', L, k, n', hT, X', hL, e1, e2, hq, st⟩
variable {S : Type} {K : S → Nat × Nat} {Wd : S → va_W} {D : va_G} {T : List (ClassId × FieldType)} {A : Nat → Prop} {ws wc wr : va_W} {av : List Value} {a : Array Value}
/-- the callee's start out of the caller's world -/
theorem zpreS (hK : va_K D zC T s) (hP : va_P D zC ws H) (hD : va_D A ws) (isC : List Nat) (hC : isC.map (fun i => ws[i]?) = wc.map some) (hC2 : isC.filterMap (fun i => ws[i]?) = wc) (hnd : va_nd isC = true) : PreS s H (zPc D T H.size wc av) av :=
  ⟨zPc_blind, fun U hU hW => ⟨rfl, by rw [hU], by rw [hU]; exact hP.sub isC hC2, va_K.moved hW.alike hK, (hD.sub isC hnd hC).weaken (fun _ _ _ _ => trivial)⟩⟩
theorem zpreV {q0 ci : Nat} {fs : List Value} {q : vw_C} (hK : va_K D zC T s) (hP : va_P D zC ws H) (hD : va_D A ws) (he : ws[q0]? = some (b, .inr (ci, fs))) (hc : zC[ci]? = some q) (hq : q.1 = y.cls) (isC : List Nat) (hC : isC.map (fun i => ws[i]?) = wc.map some) (hC2 : isC.filterMap (fun i => ws[i]?) = wc) (hnd : va_nd isC = true) : PreV s H y.cls b (zPc D T H.size wc (.ref b :: As)) As := by
  obtain ⟨cell, h1, h2, h3⟩ := va_recv hK hP hc he
  exact ⟨zPc_blind, ⟨cell, h1, h2, by rw [← hq]; exact h3⟩, (zpreS hK hP hD isC hC hC2 hnd).2⟩
/-- behind a call: the callee's cells as they came back beside the rest -/
theorem zback_S {A1 free : Nat → Prop} {t : State} {T' st₀ : State} {L : List Loc} (hS : va_S A s.heap H locs) (h0 : st₀.heap = H) (e1 : T'.heap = t.heap) (hF : va_F A1 st₀ t) (hA1 : ∀ q, A1 q → A q) (hL : ∀ q ∈ L, A1 q.base) : va_S A s.heap T'.heap (locs ++ L) := by
  obtain ⟨hz, hk⟩ := hF
  rw [h0] at hz hk
  refine ⟨Nat.le_trans hS.1 (by rw [e1]; exact hz), fun q h1 h2 => ?_, fun q hq => ?_⟩
  · rw [e1, hk q (Nat.lt_of_lt_of_le h1 hS.1) (fun z => h2 (hA1 q z))]
    exact hS.2.1 q h1 h2
  · rcases List.mem_append.mp hq with h | h
    · exact hS.2.2 q h
    · exact hA1 _ (hL q h)
theorem zgoi {post : Int32 → S → Prop} (hr : zRun p l e R s m args below meth c H locs cells slots (F0 m pc ls st0) rest (zQi D (va_A wc H.size) post K Wd a) (va_A wc H.size)) (hP : va_P D zC ws H) (hD : va_D A ws) (hS : va_S A s.heap H locs) (hA : ∀ q, s.heap.size ≤ q → A q)
    (isC isR : List Nat) (hC : isC.map (fun i => ws[i]?) = wc.map some) (hR : isR.map (fun i => ws[i]?) = wr.map some) (hn : va_nd isR = true) (hdis : ∀ i ∈ isR, i ∉ isC)
    (kk : ∀ (r : Int32) (u : S) (H1 : Heap) (locs1 : List Loc), post r u → va_P D zC (wr ++ Wd u) H1 → va_D A (wr ++ Wd u) → va_S A s.heap H1 locs1 → W p l e R s m args below meth c H1 locs1 (cells + (K u).1) (slots + (K u).2) Q (F0 m (pc + 3) ls (.int r :: rest))) :
    W p l e R s m args below meth c H locs cells slots Q (F0 m pc ls st0) := by
  intro T0 hT X
  have hF := va_free hD hS hA isC hC
  obtain ⟨v, st₀, t, T', L, k, n, h0, X', hL, e1, e2, ⟨⟨r, u, hv, hp, rfl, rfl, hP1, hD1⟩, hFr⟩, st⟩ := hr T0 hT X
  cases hv
  have hk := hFr.2
  rw [h0] at hk
  obtain ⟨hP2, hD2⟩ := va_join hP hD isC isR hC hR hn hdis hk hF hP1 hD1
  rw [← e1] at hP2
  obtain ⟨t2, a1, b1⟩ := kk r u T'.heap (locs ++ L) hp hP2 hD2 (zback_S (free := A) hS h0 e1 hFr hF hL) T' rfl X'
  exact ⟨t2, st t2 a1, b1⟩
theorem zgol {post : Int64 → S → Prop} (hr : zRun p l e R s m args below meth c H locs cells slots (F0 m pc ls st0) rest (zQl D (va_A wc H.size) post K Wd a) (va_A wc H.size)) (hP : va_P D zC ws H) (hD : va_D A ws) (hS : va_S A s.heap H locs) (hA : ∀ q, s.heap.size ≤ q → A q)
    (isC isR : List Nat) (hC : isC.map (fun i => ws[i]?) = wc.map some) (hR : isR.map (fun i => ws[i]?) = wr.map some) (hn : va_nd isR = true) (hdis : ∀ i ∈ isR, i ∉ isC)
    (kk : ∀ (r : Int64) (u : S) (H1 : Heap) (locs1 : List Loc), post r u → va_P D zC (wr ++ Wd u) H1 → va_D A (wr ++ Wd u) → va_S A s.heap H1 locs1 → W p l e R s m args below meth c H1 locs1 (cells + (K u).1) (slots + (K u).2) Q (F0 m (pc + 3) ls (.long r :: rest))) :
    W p l e R s m args below meth c H locs cells slots Q (F0 m pc ls st0) := by
  intro T0 hT X
  have hF := va_free hD hS hA isC hC
  obtain ⟨v, st₀, t, T', L, k, n, h0, X', hL, e1, e2, ⟨⟨r, u, hv, hp, rfl, rfl, hP1, hD1⟩, hFr⟩, st⟩ := hr T0 hT X
  cases hv
  have hk := hFr.2
  rw [h0] at hk
  obtain ⟨hP2, hD2⟩ := va_join hP hD isC isR hC hR hn hdis hk hF hP1 hD1
  rw [← e1] at hP2
  obtain ⟨t2, a1, b1⟩ := kk r u T'.heap (locs ++ L) hp hP2 hD2 (zback_S (free := A) hS h0 e1 hFr hF hL) T' rfl X'
  exact ⟨t2, st t2 a1, b1⟩
theorem zgor {post : Nat → S → Prop} (hr : zRun p l e R s m args below meth c H locs cells slots (F0 m pc ls st0) rest (zQr D (va_A wc H.size) post K Wd a) (va_A wc H.size)) (hP : va_P D zC ws H) (hD : va_D A ws) (hS : va_S A s.heap H locs) (hA : ∀ q, s.heap.size ≤ q → A q)
    (isC isR : List Nat) (hC : isC.map (fun i => ws[i]?) = wc.map some) (hR : isR.map (fun i => ws[i]?) = wr.map some) (hn : va_nd isR = true) (hdis : ∀ i ∈ isR, i ∉ isC)
    (kk : ∀ (r : Nat) (u : S) (H1 : Heap) (locs1 : List Loc), post r u → va_P D zC (wr ++ Wd u) H1 → va_D A (wr ++ Wd u) → va_S A s.heap H1 locs1 → W p l e R s m args below meth c H1 locs1 (cells + (K u).1) (slots + (K u).2) Q (F0 m (pc + 3) ls (.ref r :: rest))) :
    W p l e R s m args below meth c H locs cells slots Q (F0 m pc ls st0) := by
  intro T0 hT X
  have hF := va_free hD hS hA isC hC
  obtain ⟨v, st₀, t, T', L, k, n, h0, X', hL, e1, e2, ⟨⟨r, u, hv, hp, rfl, rfl, hP1, hD1⟩, hFr⟩, st⟩ := hr T0 hT X
  cases hv
  have hk := hFr.2
  rw [h0] at hk
  obtain ⟨hP2, hD2⟩ := va_join hP hD isC isR hC hR hn hdis hk hF hP1 hD1
  rw [← e1] at hP2
  obtain ⟨t2, a1, b1⟩ := kk r u T'.heap (locs ++ L) hp hP2 hD2 (zback_S (free := A) hS h0 e1 hFr hF hL) T' rfl X'
  exact ⟨t2, st t2 a1, b1⟩
theorem zgov {post : S → Prop} (hr : zRun p l e R s m args below meth c H locs cells slots (F0 m pc ls st0) rest (zQv D (va_A wc H.size) post K Wd a) (va_A wc H.size)) (hP : va_P D zC ws H) (hD : va_D A ws) (hS : va_S A s.heap H locs) (hA : ∀ q, s.heap.size ≤ q → A q)
    (isC isR : List Nat) (hC : isC.map (fun i => ws[i]?) = wc.map some) (hR : isR.map (fun i => ws[i]?) = wr.map some) (hn : va_nd isR = true) (hdis : ∀ i ∈ isR, i ∉ isC)
    (kk : ∀ (u : S) (H1 : Heap) (locs1 : List Loc), post u → va_P D zC (wr ++ Wd u) H1 → va_D A (wr ++ Wd u) → va_S A s.heap H1 locs1 → W p l e R s m args below meth c H1 locs1 (cells + (K u).1) (slots + (K u).2) Q (F0 m (pc + 3) ls rest)) :
    W p l e R s m args below meth c H locs cells slots Q (F0 m pc ls st0) := by
  intro T0 hT X
  have hF := va_free hD hS hA isC hC
  obtain ⟨v, st₀, t, T', L, k, n, h0, X', hL, e1, e2, ⟨⟨u, hv, hp, rfl, rfl, hP1, hD1⟩, hFr⟩, st⟩ := hr T0 hT X
  cases hv
  have hk := hFr.2
  rw [h0] at hk
  obtain ⟨hP2, hD2⟩ := va_join hP hD isC isR hC hR hn hdis hk hF hP1 hD1
  rw [← e1] at hP2
  obtain ⟨t2, a1, b1⟩ := kk u T'.heap (locs ++ L) hp hP2 hD2 (zback_S (free := A) hS h0 e1 hFr hF hL) T' rfl X'
  exact ⟨t2, st t2 a1, b1⟩
end ZCalls
section ZEnds
variable {p : Program} {l : Launch} {e : Env} {R : Room} {s : State} {m : MethodId} {args : Array Value} {below : List Frame} {meth : Method} {c : Code} {H : Heap} {locs : List Loc} {cells slots : Nat}
variable {S : Type} {K : S → Nat × Nat} {Wd : S → va_W} {D : va_G} {A : Nat → Prop} {cc : ByteArray} {pc : Nat} {ls : Array Slot}
theorem zend {Qc : Array Value → State → Outcome → State → Nat → Nat → Prop} {free : Addr → Prop} {g : JFrame} (k : W p l e R s m args below meth c H locs cells slots (MQ below (fun a st o t => Qc a st o t cells slots) args s cells slots free) g) : W p l e R s m args below meth c H locs cells slots (zMQ below Qc args s free) g :=
  zW_mono (fun t ⟨o, h1, h2, h3, L, h4, h5⟩ => ⟨o, h1, h2, L, cells, slots, h3, h4, h5⟩) k
theorem zreti {post : Int32 → S → Prop} {v : Int32} {ty : FieldType} (hx : p.tables.exec = Jvm.exec) (hb : c.code = cc) (hr : meth.sig.returnType = some ty) (hn : narrow ty (.int v) = .int v) (hlocks : meth.locks = false) (hS : va_S A s.heap H locs) (u : S) (hp : post v u) (hk : K u = (cells, slots)) (hP : va_P D zC (Wd u) H) (hD : va_D A (Wd u)) (hdg : decode cc pc = .ok (.ireturn, 1)) :
    W p l e R s m args below meth c H locs cells slots (zMQ below (zQi D A post K Wd) args s A) (F0 m pc ls [.int v]) :=
  zend (W.zret hx hb hr hn (fun t ht _ => ⟨⟨v, u, rfl, hp, by rw [hk], by rw [hk], by rw [ht]; exact hP, hD⟩, hS.F ht⟩) hS.2.2 hdg hlocks)
theorem zretl {post : Int64 → S → Prop} {v : Int64} (hx : p.tables.exec = Jvm.exec) (hb : c.code = cc) (hr : meth.sig.returnType = some .long) (hlocks : meth.locks = false) (hS : va_S A s.heap H locs) (u : S) (hp : post v u) (hk : K u = (cells, slots)) (hP : va_P D zC (Wd u) H) (hD : va_D A (Wd u)) (hdg : decode cc pc = .ok (.lreturn, 1)) :
    W p l e R s m args below meth c H locs cells slots (zMQ below (zQl D A post K Wd) args s A) (F0 m pc ls [.long v]) :=
  zend (W.lret hx hb hr (fun t ht _ => ⟨⟨v, u, rfl, hp, by rw [hk], by rw [hk], by rw [ht]; exact hP, hD⟩, hS.F ht⟩) hS.2.2 hdg hlocks)
theorem zretv {post : S → Prop} (hx : p.tables.exec = Jvm.exec) (hb : c.code = cc) (hr : meth.sig.returnType = none) (hlocks : meth.locks = false) (hS : va_S A s.heap H locs) (u : S) (hp : post u) (hk : K u = (cells, slots)) (hP : va_P D zC (Wd u) H) (hD : va_D A (Wd u)) (hdg : decode cc pc = .ok (.return_, 1)) :
    W p l e R s m args below meth c H locs cells slots (zMQ below (zQv D A post K Wd) args s A) (F0 m pc ls []) :=
  zend (W.vret hx hb hr (fun t ht _ => ⟨⟨u, rfl, hp, by rw [hk], by rw [hk], by rw [ht]; exact hP, hD⟩, hS.F ht⟩) hS.2.2 hdg hlocks)
theorem zretr {post : Nat → S → Prop} {v : Nat} {rt : FieldType} (hx : p.tables.exec = Jvm.exec) (hb : c.code = cc) (hr : meth.sig.returnType = some rt) (hrt : (∃ n, rt = .object n) ∨ ∃ t, rt = .array t) (hlocks : meth.locks = false) (hS : va_S A s.heap H locs) (u : S) (hp : post v u) (hk : K u = (cells, slots)) (hP : va_P D zC (Wd u) H) (hD : va_D A (Wd u)) (hdg : decode cc pc = .ok (.areturn, 1)) :
    W p l e R s m args below meth c H locs cells slots (zMQ below (zQr D A post K Wd) args s A) (F0 m pc ls [.ref v]) :=
  zend (W.aret hx hb hr hrt (Or.inr ⟨v, rfl⟩) (fun t ht _ => ⟨⟨v, u, rfl, hp, by rw [hk], by rw [hk], by rw [ht]; exact hP, hD⟩, hS.F ht⟩) hS.2.2 hdg hlocks)
end ZEnds
section ZFields
variable {p : Program} {l : Launch} {e : Env} {R : Room} {s : State} {m : MethodId} {args : Array Value} {below : List Frame} {meth : Method} {c : Code} {H H0 : Heap} {locs : List Loc} {cells slots : Nat} {Q : State → Prop}
variable {D : va_G} {T : List (ClassId × FieldType)} {A : Nat → Prop} {ws : va_W} {cc : ByteArray} {nL a pc ci k idx : Nat} {own : String} {ls : Array Slot} {rest fs : List Value} {v : Value}
/-- a field that an instruction names: its place among its class's fields -/
def zFd (own : String) (idx ci k : Nat) : Prop := ∃ (C : String) (F : u_T) (N : Nat), zC[ci]? = some (C, F, N) ∧ k < N ∧ (∀ w ∈ u_ws C F N, w ∈ zW) ∧ (F k).1 = C ∧
  (Cond.fieldLink own idx C (F k).2.1 (F k).2.2.1 ∈ zW ∨ ∃ host, Cond.fieldLinkNest own idx C (F k).2.1 (F k).2.2.1 host ∈ zW)
/-- a field's type; the fields' names apart; final or not -/
def zFt (ci k : Nat) (ty : FieldType) (fin : Bool) : Prop := ∃ (C : String) (F : u_T) (N : Nat) (t : Nat → FieldType), zC[ci]? = some (C, F, N) ∧ (∀ k, k < N → parseFieldDescriptor (F k).2.2.1 = some (t k)) ∧ (∀ a, a < N → ∀ b, b < N → a ≠ b → (F a).2.1 ≠ (F b).2.1) ∧ (F k).2.2.2 = fin ∧ t k = ty
theorem zget (S : CallFix p m c cc nL s args zW own) (hK : va_K D zC T s) (hP : va_P D zC ws H) (q0 : Nat) (he : ws[q0]? = some (a, .inr (ci, fs))) (F : zFd own idx ci k) (hv : fs[k]? = some v) (hdg : decode cc pc = .ok (.getfield idx, 3))
    (kk : W p l e R s m args below meth c H locs cells slots Q (F0 m (pc + 3) ls (v :: rest))) : W p l e R s m args below meth c H locs cells slots Q (F0 m pc ls (.ref a :: rest)) := by
  obtain ⟨hx, hb, hml, ho, hw⟩ := S
  obtain ⟨C, G, N, h1, h2, h3, h4, h5 | ⟨host, h5⟩⟩ := F
  · exact va_get hx hb hw h3 ho hK hP q0 he h1 k h2 (hw _ h5) (fun x h => by rw [← h4]; exact h) hv hdg kk
  · exact va_getN hx hb hw h3 ho hK hP q0 he h1 k h2 (hw _ h5) (fun x h => by rw [← h4]; exact h) hv hdg kk
theorem zput {ty : FieldType} (S : CallFix p m c cc nL s args zW own) (hK : va_K D zC T s) (hP : va_P D zC ws H) (hD : va_D A ws) (hS : va_S A H0 H locs) (q0 : Nat) (he : ws[q0]? = some (a, .inr (ci, fs))) (F : zFd own idx ci k) (Ft : zFt ci k ty false) (hn : narrow ty v = v) (hfit : fits ty v = true) (hl : k < fs.length) (hdg : decode cc pc = .ok (.putfield idx, 3))
    (kk : ∀ (H1 : Heap) (locs1 : List Loc), va_P D zC (ws.set q0 (a, .inr (ci, fs.set k v))) H1 → va_D A (ws.set q0 (a, .inr (ci, fs.set k v))) → va_S A H0 H1 locs1 → W p l e R s m args below meth c H1 locs1 cells slots Q (F0 m (pc + 3) ls rest)) : W p l e R s m args below meth c H locs cells slots Q (F0 m pc ls (v :: .ref a :: rest)) := by
  obtain ⟨hx, hb, hml, ho, hw⟩ := S
  obtain ⟨C', G', N', t, g1, g2, g3, g4, g5⟩ := Ft
  obtain ⟨C, G, N, h1, h2, h3, h4, h5 | ⟨host, h5⟩⟩ := F <;> (cases g1.symm.trans h1)
  · exact va_put hx hb hw h3 t g2 g3 ho hK hP hD hS q0 he h1 k h2 (hw _ h5) (fun x h => by rw [← h4]; exact h) g4 (by rw [g2 k h2, g5]) hn hfit hl hdg kk
  · exact va_putN hx hb hw h3 t g2 g3 ho hK hP hD hS q0 he h1 k h2 (hw _ h5) (fun x h => by rw [← h4]; exact h) g4 (by rw [g2 k h2, g5]) hn hfit hl hdg kk
theorem zputF {ty : FieldType} (S : CallFix p m c cc nL s args zW own) (hin : meth.name = "<init>") (hK : va_K D zC T s) (hP : va_P D zC ws H) (hD : va_D A ws) (hS : va_S A H0 H locs) (q0 : Nat) (he : ws[q0]? = some (a, .inr (ci, fs))) {F' : u_T} {N' : Nat} (hc : zC[ci]? = some (own, F', N')) (F : zFd own idx ci k) (Ft : zFt ci k ty true) (hn : narrow ty v = v) (hfit : fits ty v = true) (hl : k < fs.length) (hdg : decode cc pc = .ok (.putfield idx, 3))
    (hlk : Cond.fieldLink own idx own (F' k).2.1 (F' k).2.2.1 ∈ zW)
    (kk : ∀ (H1 : Heap) (locs1 : List Loc), va_P D zC (ws.set q0 (a, .inr (ci, fs.set k v))) H1 → va_D A (ws.set q0 (a, .inr (ci, fs.set k v))) → va_S A H0 H1 locs1 → W p l e R s m args below meth c H1 locs1 cells slots Q (F0 m (pc + 3) ls rest)) : W p l e R s m args below meth c H locs cells slots Q (F0 m pc ls (v :: .ref a :: rest)) := by
  obtain ⟨hx, hb, hml, ho, hw⟩ := S
  obtain ⟨C', G', N'', t, g1, g2, g3, g4, g5⟩ := Ft
  obtain ⟨C, G, N, h1, h2, h3, h4, -⟩ := F
  cases g1.symm.trans h1
  cases hc.symm.trans h1
  exact va_putF hx hb hw h3 t g2 g3 ho hK hP hD hS q0 he h1 k h2 (hw _ hlk) (fun x h => by rw [← h4]; exact h) g4 hin h4 (by rw [g2 k h2, g5]) hn hfit hl hdg kk
end ZFields
/-- >>> of ints -/
def zushr (x y : Int32) : Int32 := (x.toUInt32 >>> (y.toUInt32 &&& Int32.toUInt32 31)).toInt32
def zlushr (x : Int64) (y : Int32) : Int64 := (x.toUInt64 >>> (y.toInt64.toUInt64 &&& Int64.toUInt64 63)).toInt64
def zlshl (x : Int64) (y : Int32) : Int64 := x <<< (y.toInt64 &&& 63)
def zlshr (x : Int64) (y : Int32) : Int64 := x >>> (y.toInt64 &&& 63)
theorem z_ne {x k : Int32} (h : ¬ x = k) {n : Int} (hk : k.toInt = n) : x.toInt ≠ n := fun e => h (Int32.toInt_inj.mp (e.trans hk.symm))
/-- the head of every contract: the machine at the method's entry -/
theorem zstart {l : Launch} {y : MethodName} {cc : ByteArray} {maxL : Nat} {ret : Option FieldType} {rm : Room} {D : va_G} {T : List (ClassId × FieldType)} {sz : Nat} {ws : va_W} {av : List Value} {Qc : (Nat → Prop) → Array Value → State → Outcome → State → Nat → Nat → Prop}
    (hy : plainName y.cls = true) (hmx : (lg_sl av).length ≤ maxL)
    (body : ∀ p e s m below meth c ls A, CallFix p m c cc maxL s av.toArray zW y.cls → meth.sig.returnType = ret → meth.locks = false → meth.name = y.name → s.heap.size = sz → va_K D zC T s → va_P D zC ws s.heap → va_D A ws → va_S A s.heap s.heap [] → (∀ q, s.heap.size ≤ q → A q) → A = va_A ws sz → lv_has ls maxL (lv_args 0 av) →
      W p l e rm s m av.toArray below meth c s.heap [] 0 0 (zMQ below (Qc A) av.toArray s A) (F0 m 0 ls [])) :
    zMet l y (zWs y cc maxL ret) rm (zPc D T sz ws av) (Qc (va_A ws sz)) (va_A ws sz) := by
  refine zMet.ofW (cc := cc) (maxL := maxL) (ret := ret) hy rfl ?_
  intro p e s m args below meth c s₁ B hml hv
  obtain ⟨rfl, hsz, hP, hK, hD0⟩ := hv
  have hts := atoms_spec (ws := zWs y cc maxL ret) B.pre
  have hA : ∀ q : Nat, s.heap.size ≤ q → va_A ws sz q := fun q h => Or.inr (by rw [← hsz]; exact h)
  have hl := lv_entry av (n := maxL) hmx
  rw [lg_entry_eq]
  exact body p e s m below meth c _ (va_A ws sz) ⟨B.exec, B.bytes, hml, findClass_of_methodNamed B.named, fun w h => hts w (List.mem_cons_of_mem _ h)⟩ B.returns B.notSynchronized (name_of_methodNamed B.named B.method).1 hsz hK hP hD0.self va_S.rf hA rfl hl
end
section
/-! the words of the tables that the walks take, each once -/
theorem cb_By_init : zCb y_By_init b_By_init 2 (none) 1 := ⟨zW_in 107 (by decide +kernel) rfl, zW_in 42 (by decide +kernel) rfl, ⟨by decide, by decide⟩, by decide +kernel⟩
theorem in_By_init : Cond.instanceMethod y_By_init ∈ zW := zW_in 106 (by decide +kernel) rfl
theorem cb_By_forgetAll : zCb y_By_forgetAll b_By_forgetAll 1 (none) 0 := ⟨zW_in 322 (by decide +kernel) rfl, zW_in 42 (by decide +kernel) rfl, ⟨by decide, by decide⟩, by decide +kernel⟩
theorem in_By_forgetAll : Cond.instanceMethod y_By_forgetAll ∈ zW := zW_in 320 (by decide +kernel) rfl
theorem se_By_forgetAll : Cond.selects y_By_forgetAll.cls y_By_forgetAll y_By_forgetAll ∈ zW := zW_in 321 (by decide +kernel) rfl
theorem cb_By_add : zCb y_By_add b_By_add 2 (none) 1 := ⟨zW_in 493 (by decide +kernel) rfl, zW_in 42 (by decide +kernel) rfl, ⟨by decide, by decide⟩, by decide +kernel⟩
theorem in_By_add : Cond.instanceMethod y_By_add ∈ zW := zW_in 491 (by decide +kernel) rfl
theorem se_By_add : Cond.selects y_By_add.cls y_By_add y_By_add ∈ zW := zW_in 492 (by decide +kernel) rfl
theorem cb_By_removeFirst : zCb y_By_removeFirst b_By_removeFirst 2 (some .int) 0 := ⟨zW_in 186 (by decide +kernel) rfl, zW_in 42 (by decide +kernel) rfl, ⟨by decide, by decide⟩, by decide +kernel⟩
theorem in_By_removeFirst : Cond.instanceMethod y_By_removeFirst ∈ zW := zW_in 184 (by decide +kernel) rfl
theorem se_By_removeFirst : Cond.selects y_By_removeFirst.cls y_By_removeFirst y_By_removeFirst ∈ zW := zW_in 185 (by decide +kernel) rfl
theorem cb_By_wrapped : zCb y_By_wrapped b_By_wrapped 2 (some .int) 1 := ⟨zW_in 190 (by decide +kernel) rfl, zW_in 42 (by decide +kernel) rfl, ⟨by decide, by decide⟩, by decide +kernel⟩
theorem in_By_wrapped : Cond.instanceMethod y_By_wrapped ∈ zW := zW_in 189 (by decide +kernel) rfl
theorem se_By_wrapped : Cond.selects y_By_wrapped.cls y_By_wrapped y_By_wrapped ∈ zW := zW_in 2 (by decide +kernel) rfl
theorem cb_Me_init : zCb y_Me_init b_Me_init 1 (none) 0 := ⟨zW_in 65 (by decide +kernel) rfl, zW_in 41 (by decide +kernel) rfl, ⟨by decide, by decide⟩, by decide +kernel⟩
theorem in_Me_init : Cond.instanceMethod y_Me_init ∈ zW := zW_in 64 (by decide +kernel) rfl
theorem cb_Me_forgetAll : zCb y_Me_forgetAll b_Me_forgetAll 1 (none) 0 := ⟨zW_in 318 (by decide +kernel) rfl, zW_in 41 (by decide +kernel) rfl, ⟨by decide, by decide⟩, by decide +kernel⟩
theorem in_Me_forgetAll : Cond.instanceMethod y_Me_forgetAll ∈ zW := zW_in 316 (by decide +kernel) rfl
theorem se_Me_forgetAll : Cond.selects y_Me_forgetAll.cls y_Me_forgetAll y_Me_forgetAll ∈ zW := zW_in 317 (by decide +kernel) rfl
theorem cb_Me_make : zCb y_Me_make b_Me_make 4 (some .int) 2 := ⟨zW_in 446 (by decide +kernel) rfl, zW_in 41 (by decide +kernel) rfl, ⟨by decide, by decide⟩, by decide +kernel⟩
theorem in_Me_make : Cond.instanceMethod y_Me_make ∈ zW := zW_in 444 (by decide +kernel) rfl
theorem se_Me_make : Cond.selects y_Me_make.cls y_Me_make y_Me_make ∈ zW := zW_in 445 (by decide +kernel) rfl
theorem cb_Me_addNumber : zCb y_Me_addNumber b_Me_addNumber 1 (none) 0 := ⟨zW_in 469 (by decide +kernel) rfl, zW_in 41 (by decide +kernel) rfl, ⟨by decide, by decide⟩, by decide +kernel⟩
theorem in_Me_addNumber : Cond.instanceMethod y_Me_addNumber ∈ zW := zW_in 468 (by decide +kernel) rfl
theorem se_Me_addNumber : Cond.selects y_Me_addNumber.cls y_Me_addNumber y_Me_addNumber ∈ zW := zW_in 19 (by decide +kernel) rfl
theorem cb_Me_roundedUp : zCb y_Me_roundedUp b_Me_roundedUp 1 (some .int) 1 := ⟨zW_in 449 (by decide +kernel) rfl, zW_in 41 (by decide +kernel) rfl, ⟨by decide, by decide⟩, by decide +kernel⟩
theorem st_Me_roundedUp : Cond.static y_Me_roundedUp ∈ zW := zW_in 448 (by decide +kernel) rfl
theorem cb_Me_tidy : zCb y_Me_tidy b_Me_tidy 5 (none) 1 := ⟨zW_in 454 (by decide +kernel) rfl, zW_in 41 (by decide +kernel) rfl, ⟨by decide, by decide⟩, by decide +kernel⟩
theorem in_Me_tidy : Cond.instanceMethod y_Me_tidy ∈ zW := zW_in 453 (by decide +kernel) rfl
theorem se_Me_tidy : Cond.selects y_Me_tidy.cls y_Me_tidy y_Me_tidy ∈ zW := zW_in 18 (by decide +kernel) rfl
theorem cb_Me_dropLast : zCb y_Me_dropLast b_Me_dropLast 3 (some .boolean) 1 := ⟨zW_in 478 (by decide +kernel) rfl, zW_in 41 (by decide +kernel) rfl, ⟨by decide, by decide⟩, by decide +kernel⟩
theorem in_Me_dropLast : Cond.instanceMethod y_Me_dropLast ∈ zW := zW_in 476 (by decide +kernel) rfl
theorem se_Me_dropLast : Cond.selects y_Me_dropLast.cls y_Me_dropLast y_Me_dropLast ∈ zW := zW_in 477 (by decide +kernel) rfl
theorem cb_Me_dropGiven : zCb y_Me_dropGiven b_Me_dropGiven 3 (some .boolean) 1 := ⟨zW_in 489 (by decide +kernel) rfl, zW_in 41 (by decide +kernel) rfl, ⟨by decide, by decide⟩, by decide +kernel⟩
theorem in_Me_dropGiven : Cond.instanceMethod y_Me_dropGiven ∈ zW := zW_in 487 (by decide +kernel) rfl
theorem se_Me_dropGiven : Cond.selects y_Me_dropGiven.cls y_Me_dropGiven y_Me_dropGiven ∈ zW := zW_in 488 (by decide +kernel) rfl
theorem cb_Me_drop : zCb y_Me_drop b_Me_drop 3 (none) 1 := ⟨zW_in 482 (by decide +kernel) rfl, zW_in 41 (by decide +kernel) rfl, ⟨by decide, by decide⟩, by decide +kernel⟩
theorem in_Me_drop : Cond.instanceMethod y_Me_drop ∈ zW := zW_in 481 (by decide +kernel) rfl
theorem se_Me_drop : Cond.selects y_Me_drop.cls y_Me_drop y_Me_drop ∈ zW := zW_in 21 (by decide +kernel) rfl
theorem cb_Me_isThere : zCb y_Me_isThere b_Me_isThere 2 (some .boolean) 1 := ⟨zW_in 166 (by decide +kernel) rfl, zW_in 41 (by decide +kernel) rfl, ⟨by decide, by decide⟩, by decide +kernel⟩
theorem in_Me_isThere : Cond.instanceMethod y_Me_isThere ∈ zW := zW_in 165 (by decide +kernel) rfl
theorem se_Me_isThere : Cond.selects y_Me_isThere.cls y_Me_isThere y_Me_isThere ∈ zW := zW_in 0 (by decide +kernel) rfl
theorem cb_Me_holds : zCb y_Me_holds b_Me_holds 4 (some .boolean) 2 := ⟨zW_in 162 (by decide +kernel) rfl, zW_in 41 (by decide +kernel) rfl, ⟨by decide, by decide⟩, by decide +kernel⟩
theorem in_Me_holds : Cond.instanceMethod y_Me_holds ∈ zW := zW_in 160 (by decide +kernel) rfl
theorem se_Me_holds : Cond.selects y_Me_holds.cls y_Me_holds y_Me_holds ∈ zW := zW_in 161 (by decide +kernel) rfl
theorem cb_Me_holdsAligned : zCb y_Me_holdsAligned b_Me_holdsAligned 3 (some .boolean) 2 := ⟨zW_in 406 (by decide +kernel) rfl, zW_in 41 (by decide +kernel) rfl, ⟨by decide, by decide⟩, by decide +kernel⟩
theorem in_Me_holdsAligned : Cond.instanceMethod y_Me_holdsAligned ∈ zW := zW_in 404 (by decide +kernel) rfl
theorem se_Me_holdsAligned : Cond.selects y_Me_holdsAligned.cls y_Me_holdsAligned y_Me_holdsAligned ∈ zW := zW_in 405 (by decide +kernel) rfl
theorem cb_Me_spot : zCb y_Me_spot b_Me_spot 2 (some .int) 1 := ⟨zW_in 175 (by decide +kernel) rfl, zW_in 41 (by decide +kernel) rfl, ⟨by decide, by decide⟩, by decide +kernel⟩
theorem in_Me_spot : Cond.instanceMethod y_Me_spot ∈ zW := zW_in 174 (by decide +kernel) rfl
theorem se_Me_spot : Cond.selects y_Me_spot.cls y_Me_spot y_Me_spot ∈ zW := zW_in 1 (by decide +kernel) rfl
theorem cb_Me_read : zCb y_Me_read b_Me_read 6 (some .int) 2 := ⟨zW_in 171 (by decide +kernel) rfl, zW_in 41 (by decide +kernel) rfl, ⟨by decide, by decide⟩, by decide +kernel⟩
theorem in_Me_read : Cond.instanceMethod y_Me_read ∈ zW := zW_in 169 (by decide +kernel) rfl
theorem se_Me_read : Cond.selects y_Me_read.cls y_Me_read y_Me_read ∈ zW := zW_in 170 (by decide +kernel) rfl
theorem cb_Me_write : zCb y_Me_write b_Me_write 6 (none) 3 := ⟨zW_in 418 (by decide +kernel) rfl, zW_in 41 (by decide +kernel) rfl, ⟨by decide, by decide⟩, by decide +kernel⟩
theorem in_Me_write : Cond.instanceMethod y_Me_write ∈ zW := zW_in 416 (by decide +kernel) rfl
theorem se_Me_write : Cond.selects y_Me_write.cls y_Me_write y_Me_write ∈ zW := zW_in 417 (by decide +kernel) rfl
theorem cb_Me_copy : zCb y_Me_copy b_Me_copy 4 (none) 3 := ⟨zW_in 501 (by decide +kernel) rfl, zW_in 41 (by decide +kernel) rfl, ⟨by decide, by decide⟩, by decide +kernel⟩
theorem in_Me_copy : Cond.instanceMethod y_Me_copy ∈ zW := zW_in 499 (by decide +kernel) rfl
theorem se_Me_copy : Cond.selects y_Me_copy.cls y_Me_copy y_Me_copy ∈ zW := zW_in 500 (by decide +kernel) rfl
theorem cb_Rv_init : zCb y_Rv_init b_Rv_init 1 (none) 0 := ⟨zW_in 57 (by decide +kernel) rfl, zW_in 40 (by decide +kernel) rfl, ⟨by decide, by decide⟩, by decide +kernel⟩
theorem in_Rv_init : Cond.instanceMethod y_Rv_init ∈ zW := zW_in 56 (by decide +kernel) rfl
theorem cb_Rv_word : zCb y_Rv_word b_Rv_word 2 (some .int) 1 := ⟨zW_in 198 (by decide +kernel) rfl, zW_in 40 (by decide +kernel) rfl, ⟨by decide, by decide⟩, by decide +kernel⟩
theorem in_Rv_word : Cond.instanceMethod y_Rv_word ∈ zW := zW_in 196 (by decide +kernel) rfl
theorem se_Rv_word : Cond.selects y_Rv_word.cls y_Rv_word y_Rv_word ∈ zW := zW_in 197 (by decide +kernel) rfl
theorem cb_Rv_change : zCb y_Rv_change b_Rv_change 4 (some .int) 2 := ⟨zW_in 289 (by decide +kernel) rfl, zW_in 40 (by decide +kernel) rfl, ⟨by decide, by decide⟩, by decide +kernel⟩
theorem in_Rv_change : Cond.instanceMethod y_Rv_change ∈ zW := zW_in 287 (by decide +kernel) rfl
theorem se_Rv_change : Cond.selects y_Rv_change.cls y_Rv_change y_Rv_change ∈ zW := zW_in 288 (by decide +kernel) rfl
theorem cb_Rv_begin : zCb y_Rv_begin b_Rv_begin 2 (none) 1 := ⟨zW_in 311 (by decide +kernel) rfl, zW_in 40 (by decide +kernel) rfl, ⟨by decide, by decide⟩, by decide +kernel⟩
theorem in_Rv_begin : Cond.instanceMethod y_Rv_begin ∈ zW := zW_in 309 (by decide +kernel) rfl
theorem se_Rv_begin : Cond.selects y_Rv_begin.cls y_Rv_begin y_Rv_begin ∈ zW := zW_in 310 (by decide +kernel) rfl
theorem cb_Rv_run : zCb y_Rv_run b_Rv_run 4 (some .int) 1 := ⟨zW_in 330 (by decide +kernel) rfl, zW_in 40 (by decide +kernel) rfl, ⟨by decide, by decide⟩, by decide +kernel⟩
theorem in_Rv_run : Cond.instanceMethod y_Rv_run ∈ zW := zW_in 328 (by decide +kernel) rfl
theorem se_Rv_run : Cond.selects y_Rv_run.cls y_Rv_run y_Rv_run ∈ zW := zW_in 329 (by decide +kernel) rfl
theorem cb_Rv_state : zCb y_Rv_state b_Rv_state 1 (some .int) 0 := ⟨zW_in 154 (by decide +kernel) rfl, zW_in 40 (by decide +kernel) rfl, ⟨by decide, by decide⟩, by decide +kernel⟩
theorem in_Rv_state : Cond.instanceMethod y_Rv_state ∈ zW := zW_in 152 (by decide +kernel) rfl
theorem se_Rv_state : Cond.selects y_Rv_state.cls y_Rv_state y_Rv_state ∈ zW := zW_in 153 (by decide +kernel) rfl
theorem cb_Rv_register : zCb y_Rv_register b_Rv_register 2 (some .int) 1 := ⟨zW_in 509 (by decide +kernel) rfl, zW_in 40 (by decide +kernel) rfl, ⟨by decide, by decide⟩, by decide +kernel⟩
theorem in_Rv_register : Cond.instanceMethod y_Rv_register ∈ zW := zW_in 507 (by decide +kernel) rfl
theorem se_Rv_register : Cond.selects y_Rv_register.cls y_Rv_register y_Rv_register ∈ zW := zW_in 508 (by decide +kernel) rfl
theorem cb_Rv_set : zCb y_Rv_set b_Rv_set 4 (some .int) 2 := ⟨zW_in 516 (by decide +kernel) rfl, zW_in 40 (by decide +kernel) rfl, ⟨by decide, by decide⟩, by decide +kernel⟩
theorem in_Rv_set : Cond.instanceMethod y_Rv_set ∈ zW := zW_in 514 (by decide +kernel) rfl
theorem se_Rv_set : Cond.selects y_Rv_set.cls y_Rv_set y_Rv_set ∈ zW := zW_in 515 (by decide +kernel) rfl
theorem cb_Rv_peek : zCb y_Rv_peek b_Rv_peek 2 (some .int) 1 := ⟨zW_in 158 (by decide +kernel) rfl, zW_in 40 (by decide +kernel) rfl, ⟨by decide, by decide⟩, by decide +kernel⟩
theorem in_Rv_peek : Cond.instanceMethod y_Rv_peek ∈ zW := zW_in 156 (by decide +kernel) rfl
theorem se_Rv_peek : Cond.selects y_Rv_peek.cls y_Rv_peek y_Rv_peek ∈ zW := zW_in 157 (by decide +kernel) rfl
theorem cb_Rv_input : zCb y_Rv_input b_Rv_input 5 (some .int) 2 := ⟨zW_in 523 (by decide +kernel) rfl, zW_in 40 (by decide +kernel) rfl, ⟨by decide, by decide⟩, by decide +kernel⟩
theorem in_Rv_input : Cond.instanceMethod y_Rv_input ∈ zW := zW_in 521 (by decide +kernel) rfl
theorem se_Rv_input : Cond.selects y_Rv_input.cls y_Rv_input y_Rv_input ∈ zW := zW_in 522 (by decide +kernel) rfl
theorem cb_Rv_take : zCb y_Rv_take b_Rv_take 5 (some .long) 0 := ⟨zW_in 179 (by decide +kernel) rfl, zW_in 40 (by decide +kernel) rfl, ⟨by decide, by decide⟩, by decide +kernel⟩
theorem in_Rv_take : Cond.instanceMethod y_Rv_take ∈ zW := zW_in 177 (by decide +kernel) rfl
theorem se_Rv_take : Cond.selects y_Rv_take.cls y_Rv_take y_Rv_take ∈ zW := zW_in 178 (by decide +kernel) rfl
theorem cb_Rv_count : zCb y_Rv_count b_Rv_count 2 (some .int) 1 := ⟨zW_in 530 (by decide +kernel) rfl, zW_in 40 (by decide +kernel) rfl, ⟨by decide, by decide⟩, by decide +kernel⟩
theorem in_Rv_count : Cond.instanceMethod y_Rv_count ∈ zW := zW_in 528 (by decide +kernel) rfl
theorem se_Rv_count : Cond.selects y_Rv_count.cls y_Rv_count y_Rv_count ∈ zW := zW_in 529 (by decide +kernel) rfl
theorem cb_Rv_widened : zCb y_Rv_widened b_Rv_widened 3 (some (.array .int)) 3 := ⟨zW_in 264 (by decide +kernel) rfl, zW_in 40 (by decide +kernel) rfl, ⟨by decide, by decide⟩, by decide +kernel⟩
theorem st_Rv_widened : Cond.static y_Rv_widened ∈ zW := zW_in 263 (by decide +kernel) rfl
theorem cb_Rv_doNext : zCb y_Rv_doNext b_Rv_doNext 3 (none) 0 := ⟨zW_in 349 (by decide +kernel) rfl, zW_in 40 (by decide +kernel) rfl, ⟨by decide, by decide⟩, by decide +kernel⟩
theorem in_Rv_doNext : Cond.instanceMethod y_Rv_doNext ∈ zW := zW_in 348 (by decide +kernel) rfl
theorem se_Rv_doNext : Cond.selects y_Rv_doNext.cls y_Rv_doNext y_Rv_doNext ∈ zW := zW_in 4 (by decide +kernel) rfl
theorem cb_Rv_execute : zCb y_Rv_execute b_Rv_execute 2 (some .int) 1 := ⟨zW_in 353 (by decide +kernel) rfl, zW_in 40 (by decide +kernel) rfl, ⟨by decide, by decide⟩, by decide +kernel⟩
theorem in_Rv_execute : Cond.instanceMethod y_Rv_execute ∈ zW := zW_in 352 (by decide +kernel) rfl
theorem se_Rv_execute : Cond.selects y_Rv_execute.cls y_Rv_execute y_Rv_execute ∈ zW := zW_in 5 (by decide +kernel) rfl
theorem cb_Rv_middle : zCb y_Rv_middle b_Rv_middle 1 (some .int) 1 := ⟨zW_in 376 (by decide +kernel) rfl, zW_in 40 (by decide +kernel) rfl, ⟨by decide, by decide⟩, by decide +kernel⟩
theorem st_Rv_middle : Cond.static y_Rv_middle ∈ zW := zW_in 375 (by decide +kernel) rfl
theorem cb_Rv_top : zCb y_Rv_top b_Rv_top 1 (some .int) 1 := ⟨zW_in 425 (by decide +kernel) rfl, zW_in 40 (by decide +kernel) rfl, ⟨by decide, by decide⟩, by decide +kernel⟩
theorem st_Rv_top : Cond.static y_Rv_top ∈ zW := zW_in 424 (by decide +kernel) rfl
theorem cb_Rv_firstOperand : zCb y_Rv_firstOperand b_Rv_firstOperand 2 (some .int) 1 := ⟨zW_in 380 (by decide +kernel) rfl, zW_in 40 (by decide +kernel) rfl, ⟨by decide, by decide⟩, by decide +kernel⟩
theorem in_Rv_firstOperand : Cond.instanceMethod y_Rv_firstOperand ∈ zW := zW_in 379 (by decide +kernel) rfl
theorem se_Rv_firstOperand : Cond.selects y_Rv_firstOperand.cls y_Rv_firstOperand y_Rv_firstOperand ∈ zW := zW_in 10 (by decide +kernel) rfl
theorem cb_Rv_secondOperand : zCb y_Rv_secondOperand b_Rv_secondOperand 2 (some .int) 1 := ⟨zW_in 388 (by decide +kernel) rfl, zW_in 40 (by decide +kernel) rfl, ⟨by decide, by decide⟩, by decide +kernel⟩
theorem in_Rv_secondOperand : Cond.instanceMethod y_Rv_secondOperand ∈ zW := zW_in 387 (by decide +kernel) rfl
theorem se_Rv_secondOperand : Cond.selects y_Rv_secondOperand.cls y_Rv_secondOperand y_Rv_secondOperand ∈ zW := zW_in 12 (by decide +kernel) rfl
theorem cb_Rv_keep : zCb y_Rv_keep b_Rv_keep 4 (some .int) 2 := ⟨zW_in 357 (by decide +kernel) rfl, zW_in 40 (by decide +kernel) rfl, ⟨by decide, by decide⟩, by decide +kernel⟩
theorem in_Rv_keep : Cond.instanceMethod y_Rv_keep ∈ zW := zW_in 356 (by decide +kernel) rfl
theorem se_Rv_keep : Cond.selects y_Rv_keep.cls y_Rv_keep y_Rv_keep ∈ zW := zW_in 6 (by decide +kernel) rfl
theorem cb_Rv_jumpOffset : zCb y_Rv_jumpOffset b_Rv_jumpOffset 1 (some .int) 1 := ⟨zW_in 360 (by decide +kernel) rfl, zW_in 40 (by decide +kernel) rfl, ⟨by decide, by decide⟩, by decide +kernel⟩
theorem st_Rv_jumpOffset : Cond.static y_Rv_jumpOffset ∈ zW := zW_in 359 (by decide +kernel) rfl
theorem cb_Rv_branchOffset : zCb y_Rv_branchOffset b_Rv_branchOffset 1 (some .int) 1 := ⟨zW_in 398 (by decide +kernel) rfl, zW_in 40 (by decide +kernel) rfl, ⟨by decide, by decide⟩, by decide +kernel⟩
theorem st_Rv_branchOffset : Cond.static y_Rv_branchOffset ∈ zW := zW_in 397 (by decide +kernel) rfl
theorem cb_Rv_storeOffset : zCb y_Rv_storeOffset b_Rv_storeOffset 1 (some .int) 1 := ⟨zW_in 414 (by decide +kernel) rfl, zW_in 40 (by decide +kernel) rfl, ⟨by decide, by decide⟩, by decide +kernel⟩
theorem st_Rv_storeOffset : Cond.static y_Rv_storeOffset ∈ zW := zW_in 413 (by decide +kernel) rfl
theorem cb_Rv_goTo : zCb y_Rv_goTo b_Rv_goTo 2 (some .int) 1 := ⟨zW_in 369 (by decide +kernel) rfl, zW_in 40 (by decide +kernel) rfl, ⟨by decide, by decide⟩, by decide +kernel⟩
theorem in_Rv_goTo : Cond.instanceMethod y_Rv_goTo ∈ zW := zW_in 368 (by decide +kernel) rfl
theorem se_Rv_goTo : Cond.selects y_Rv_goTo.cls y_Rv_goTo y_Rv_goTo ∈ zW := zW_in 8 (by decide +kernel) rfl
theorem cb_Rv_jump : zCb y_Rv_jump b_Rv_jump 4 (some .int) 2 := ⟨zW_in 365 (by decide +kernel) rfl, zW_in 40 (by decide +kernel) rfl, ⟨by decide, by decide⟩, by decide +kernel⟩
theorem in_Rv_jump : Cond.instanceMethod y_Rv_jump ∈ zW := zW_in 364 (by decide +kernel) rfl
theorem se_Rv_jump : Cond.selects y_Rv_jump.cls y_Rv_jump y_Rv_jump ∈ zW := zW_in 7 (by decide +kernel) rfl
theorem cb_Rv_jumpByRegister : zCb y_Rv_jumpByRegister b_Rv_jumpByRegister 2 (some .int) 1 := ⟨zW_in 373 (by decide +kernel) rfl, zW_in 40 (by decide +kernel) rfl, ⟨by decide, by decide⟩, by decide +kernel⟩
theorem in_Rv_jumpByRegister : Cond.instanceMethod y_Rv_jumpByRegister ∈ zW := zW_in 372 (by decide +kernel) rfl
theorem se_Rv_jumpByRegister : Cond.selects y_Rv_jumpByRegister.cls y_Rv_jumpByRegister y_Rv_jumpByRegister ∈ zW := zW_in 9 (by decide +kernel) rfl
theorem cb_Rv_branch : zCb y_Rv_branch b_Rv_branch 5 (some .int) 1 := ⟨zW_in 384 (by decide +kernel) rfl, zW_in 40 (by decide +kernel) rfl, ⟨by decide, by decide⟩, by decide +kernel⟩
theorem in_Rv_branch : Cond.instanceMethod y_Rv_branch ∈ zW := zW_in 383 (by decide +kernel) rfl
theorem se_Rv_branch : Cond.selects y_Rv_branch.cls y_Rv_branch y_Rv_branch ∈ zW := zW_in 11 (by decide +kernel) rfl
theorem cb_Rv_load : zCb y_Rv_load b_Rv_load 6 (some .int) 1 := ⟨zW_in 402 (by decide +kernel) rfl, zW_in 40 (by decide +kernel) rfl, ⟨by decide, by decide⟩, by decide +kernel⟩
theorem in_Rv_load : Cond.instanceMethod y_Rv_load ∈ zW := zW_in 401 (by decide +kernel) rfl
theorem se_Rv_load : Cond.selects y_Rv_load.cls y_Rv_load y_Rv_load ∈ zW := zW_in 13 (by decide +kernel) rfl
theorem cb_Rv_store : zCb y_Rv_store b_Rv_store 5 (some .int) 1 := ⟨zW_in 411 (by decide +kernel) rfl, zW_in 40 (by decide +kernel) rfl, ⟨by decide, by decide⟩, by decide +kernel⟩
theorem in_Rv_store : Cond.instanceMethod y_Rv_store ∈ zW := zW_in 410 (by decide +kernel) rfl
theorem se_Rv_store : Cond.selects y_Rv_store.cls y_Rv_store y_Rv_store ∈ zW := zW_in 14 (by decide +kernel) rfl
theorem cb_Rv_operateWithConstant : zCb y_Rv_operateWithConstant b_Rv_operateWithConstant 4 (some .int) 1 := ⟨zW_in 422 (by decide +kernel) rfl, zW_in 40 (by decide +kernel) rfl, ⟨by decide, by decide⟩, by decide +kernel⟩
theorem in_Rv_operateWithConstant : Cond.instanceMethod y_Rv_operateWithConstant ∈ zW := zW_in 421 (by decide +kernel) rfl
theorem se_Rv_operateWithConstant : Cond.selects y_Rv_operateWithConstant.cls y_Rv_operateWithConstant y_Rv_operateWithConstant ∈ zW := zW_in 15 (by decide +kernel) rfl
theorem cb_Rv_operate : zCb y_Rv_operate b_Rv_operate 5 (some .int) 1 := ⟨zW_in 432 (by decide +kernel) rfl, zW_in 40 (by decide +kernel) rfl, ⟨by decide, by decide⟩, by decide +kernel⟩
theorem in_Rv_operate : Cond.instanceMethod y_Rv_operate ∈ zW := zW_in 431 (by decide +kernel) rfl
theorem se_Rv_operate : Cond.selects y_Rv_operate.cls y_Rv_operate y_Rv_operate ∈ zW := zW_in 16 (by decide +kernel) rfl
theorem cb_Rv_plainResult : zCb y_Rv_plainResult b_Rv_plainResult 3 (some .int) 3 := ⟨zW_in 428 (by decide +kernel) rfl, zW_in 40 (by decide +kernel) rfl, ⟨by decide, by decide⟩, by decide +kernel⟩
theorem st_Rv_plainResult : Cond.static y_Rv_plainResult ∈ zW := zW_in 427 (by decide +kernel) rfl
theorem cb_Rv_product : zCb y_Rv_product b_Rv_product 3 (some .int) 3 := ⟨zW_in 435 (by decide +kernel) rfl, zW_in 40 (by decide +kernel) rfl, ⟨by decide, by decide⟩, by decide +kernel⟩
theorem st_Rv_product : Cond.static y_Rv_product ∈ zW := zW_in 434 (by decide +kernel) rfl
theorem cb_Rv_quotient : zCb y_Rv_quotient b_Rv_quotient 3 (some .int) 3 := ⟨zW_in 438 (by decide +kernel) rfl, zW_in 40 (by decide +kernel) rfl, ⟨by decide, by decide⟩, by decide +kernel⟩
theorem st_Rv_quotient : Cond.static y_Rv_quotient ∈ zW := zW_in 437 (by decide +kernel) rfl
theorem cb_Rv_unsigned : zCb y_Rv_unsigned b_Rv_unsigned 1 (some .long) 1 := ⟨zW_in 394 (by decide +kernel) rfl, zW_in 40 (by decide +kernel) rfl, ⟨by decide, by decide⟩, by decide +kernel⟩
theorem st_Rv_unsigned : Cond.static y_Rv_unsigned ∈ zW := zW_in 393 (by decide +kernel) rfl
theorem cb_Rv_isBelow : zCb y_Rv_isBelow b_Rv_isBelow 2 (some .boolean) 2 := ⟨zW_in 391 (by decide +kernel) rfl, zW_in 40 (by decide +kernel) rfl, ⟨by decide, by decide⟩, by decide +kernel⟩
theorem st_Rv_isBelow : Cond.static y_Rv_isBelow ∈ zW := zW_in 390 (by decide +kernel) rfl
theorem cb_Rv_serve : zCb y_Rv_serve b_Rv_serve 2 (some .int) 0 := ⟨zW_in 442 (by decide +kernel) rfl, zW_in 40 (by decide +kernel) rfl, ⟨by decide, by decide⟩, by decide +kernel⟩
theorem in_Rv_serve : Cond.instanceMethod y_Rv_serve ∈ zW := zW_in 441 (by decide +kernel) rfl
theorem se_Rv_serve : Cond.selects y_Rv_serve.cls y_Rv_serve y_Rv_serve ∈ zW := zW_in 17 (by decide +kernel) rfl
theorem cb_Rv_doneIf : zCb y_Rv_doneIf b_Rv_doneIf 1 (some .int) 1 := ⟨zW_in 485 (by decide +kernel) rfl, zW_in 40 (by decide +kernel) rfl, ⟨by decide, by decide⟩, by decide +kernel⟩
theorem st_Rv_doneIf : Cond.static y_Rv_doneIf ∈ zW := zW_in 484 (by decide +kernel) rfl
theorem cb_Rv_answerAddress : zCb y_Rv_answerAddress b_Rv_answerAddress 2 (some .int) 1 := ⟨zW_in 474 (by decide +kernel) rfl, zW_in 40 (by decide +kernel) rfl, ⟨by decide, by decide⟩, by decide +kernel⟩
theorem in_Rv_answerAddress : Cond.instanceMethod y_Rv_answerAddress ∈ zW := zW_in 473 (by decide +kernel) rfl
theorem se_Rv_answerAddress : Cond.selects y_Rv_answerAddress.cls y_Rv_answerAddress y_Rv_answerAddress ∈ zW := zW_in 20 (by decide +kernel) rfl
theorem cb_Rv_copyBytes : zCb y_Rv_copyBytes b_Rv_copyBytes 4 (some .int) 3 := ⟨zW_in 497 (by decide +kernel) rfl, zW_in 40 (by decide +kernel) rfl, ⟨by decide, by decide⟩, by decide +kernel⟩
theorem in_Rv_copyBytes : Cond.instanceMethod y_Rv_copyBytes ∈ zW := zW_in 496 (by decide +kernel) rfl
theorem se_Rv_copyBytes : Cond.selects y_Rv_copyBytes.cls y_Rv_copyBytes y_Rv_copyBytes ∈ zW := zW_in 22 (by decide +kernel) rfl
theorem cb_Mo_init : zCb y_Mo_init b_Mo_init 2 (none) 0 := ⟨zW_in 535 (by decide +kernel) rfl, zW_in 43 (by decide +kernel) rfl, ⟨by decide, by decide⟩, by decide +kernel⟩
theorem in_Mo_init : Cond.instanceMethod y_Mo_init ∈ zW := zW_in 534 (by decide +kernel) rfl
theorem cb_Mo_kind : zCb y_Mo_kind b_Mo_kind 3 (none) 2 := ⟨zW_in 541 (by decide +kernel) rfl, zW_in 43 (by decide +kernel) rfl, ⟨by decide, by decide⟩, by decide +kernel⟩
theorem in_Mo_kind : Cond.instanceMethod y_Mo_kind ∈ zW := zW_in 540 (by decide +kernel) rfl
theorem se_Mo_kind : Cond.selects y_Mo_kind.cls y_Mo_kind y_Mo_kind ∈ zW := zW_in 23 (by decide +kernel) rfl
theorem cb_Mo_thrown : zCb y_Mo_thrown b_Mo_thrown 1 (some .int) 0 := ⟨zW_in 624 (by decide +kernel) rfl, zW_in 43 (by decide +kernel) rfl, ⟨by decide, by decide⟩, by decide +kernel⟩
theorem in_Mo_thrown : Cond.instanceMethod y_Mo_thrown ∈ zW := zW_in 622 (by decide +kernel) rfl
theorem se_Mo_thrown : Cond.selects y_Mo_thrown.cls y_Mo_thrown y_Mo_thrown ∈ zW := zW_in 623 (by decide +kernel) rfl
theorem cb_Mo_bits : zCb y_Mo_bits b_Mo_bits 3 (some .int) 3 := ⟨zW_in 663 (by decide +kernel) rfl, zW_in 43 (by decide +kernel) rfl, ⟨by decide, by decide⟩, by decide +kernel⟩
theorem st_Mo_bits : Cond.static y_Mo_bits ∈ zW := zW_in 662 (by decide +kernel) rfl
theorem cb_Mo_signed : zCb y_Mo_signed b_Mo_signed 2 (some .int) 2 := ⟨zW_in 669 (by decide +kernel) rfl, zW_in 43 (by decide +kernel) rfl, ⟨by decide, by decide⟩, by decide +kernel⟩
theorem st_Mo_signed : Cond.static y_Mo_signed ∈ zW := zW_in 668 (by decide +kernel) rfl
theorem cb_Mo_byUpper : zCb y_Mo_byUpper b_Mo_byUpper 1 (some .int) 1 := ⟨zW_in 672 (by decide +kernel) rfl, zW_in 43 (by decide +kernel) rfl, ⟨by decide, by decide⟩, by decide +kernel⟩
theorem st_Mo_byUpper : Cond.static y_Mo_byUpper ∈ zW := zW_in 671 (by decide +kernel) rfl
theorem cb_Mo_byStore : zCb y_Mo_byStore b_Mo_byStore 1 (some .int) 1 := ⟨zW_in 704 (by decide +kernel) rfl, zW_in 43 (by decide +kernel) rfl, ⟨by decide, by decide⟩, by decide +kernel⟩
theorem st_Mo_byStore : Cond.static y_Mo_byStore ∈ zW := zW_in 703 (by decide +kernel) rfl
theorem cb_Mo_byBranch : zCb y_Mo_byBranch b_Mo_byBranch 1 (some .int) 1 := ⟨zW_in 684 (by decide +kernel) rfl, zW_in 43 (by decide +kernel) rfl, ⟨by decide, by decide⟩, by decide +kernel⟩
theorem st_Mo_byBranch : Cond.static y_Mo_byBranch ∈ zW := zW_in 683 (by decide +kernel) rfl
theorem cb_Mo_byJump : zCb y_Mo_byJump b_Mo_byJump 1 (some .int) 1 := ⟨zW_in 666 (by decide +kernel) rfl, zW_in 43 (by decide +kernel) rfl, ⟨by decide, by decide⟩, by decide +kernel⟩
theorem st_Mo_byJump : Cond.static y_Mo_byJump ∈ zW := zW_in 665 (by decide +kernel) rfl
theorem cb_Mo_up : zCb y_Mo_up b_Mo_up 1 (some .int) 1 := ⟨zW_in 721 (by decide +kernel) rfl, zW_in 43 (by decide +kernel) rfl, ⟨by decide, by decide⟩, by decide +kernel⟩
theorem st_Mo_up : Cond.static y_Mo_up ∈ zW := zW_in 720 (by decide +kernel) rfl
theorem cb_Mo_place : zCb y_Mo_place b_Mo_place 5 (some .int) 2 := ⟨zW_in 692 (by decide +kernel) rfl, zW_in 43 (by decide +kernel) rfl, ⟨by decide, by decide⟩, by decide +kernel⟩
theorem in_Mo_place : Cond.instanceMethod y_Mo_place ∈ zW := zW_in 691 (by decide +kernel) rfl
theorem se_Mo_place : Cond.selects y_Mo_place.cls y_Mo_place y_Mo_place ∈ zW := zW_in 32 (by decide +kernel) rfl
theorem cb_Mo_read : zCb y_Mo_read b_Mo_read 5 (some .int) 2 := ⟨zW_in 697 (by decide +kernel) rfl, zW_in 43 (by decide +kernel) rfl, ⟨by decide, by decide⟩, by decide +kernel⟩
theorem in_Mo_read : Cond.instanceMethod y_Mo_read ∈ zW := zW_in 696 (by decide +kernel) rfl
theorem se_Mo_read : Cond.selects y_Mo_read.cls y_Mo_read y_Mo_read ∈ zW := zW_in 33 (by decide +kernel) rfl
theorem cb_Mo_object : zCb y_Mo_object b_Mo_object 4 (some .int) 2 := ⟨zW_in 718 (by decide +kernel) rfl, zW_in 43 (by decide +kernel) rfl, ⟨by decide, by decide⟩, by decide +kernel⟩
theorem in_Mo_object : Cond.instanceMethod y_Mo_object ∈ zW := zW_in 717 (by decide +kernel) rfl
theorem se_Mo_object : Cond.selects y_Mo_object.cls y_Mo_object y_Mo_object ∈ zW := zW_in 36 (by decide +kernel) rfl
theorem cb_Mo_pack : zCb y_Mo_pack b_Mo_pack 2 (none) 0 := ⟨zW_in 726 (by decide +kernel) rfl, zW_in 43 (by decide +kernel) rfl, ⟨by decide, by decide⟩, by decide +kernel⟩
theorem in_Mo_pack : Cond.instanceMethod y_Mo_pack ∈ zW := zW_in 725 (by decide +kernel) rfl
theorem se_Mo_pack : Cond.selects y_Mo_pack.cls y_Mo_pack y_Mo_pack ∈ zW := zW_in 37 (by decide +kernel) rfl
theorem cb_Mo_gone : zCb y_Mo_gone b_Mo_gone 2 (none) 1 := ⟨zW_in 731 (by decide +kernel) rfl, zW_in 43 (by decide +kernel) rfl, ⟨by decide, by decide⟩, by decide +kernel⟩
theorem in_Mo_gone : Cond.instanceMethod y_Mo_gone ∈ zW := zW_in 730 (by decide +kernel) rfl
theorem se_Mo_gone : Cond.selects y_Mo_gone.cls y_Mo_gone y_Mo_gone ∈ zW := zW_in 38 (by decide +kernel) rfl
theorem cb_Mo_put : zCb y_Mo_put b_Mo_put 4 (none) 2 := ⟨zW_in 660 (by decide +kernel) rfl, zW_in 43 (by decide +kernel) rfl, ⟨by decide, by decide⟩, by decide +kernel⟩
theorem in_Mo_put : Cond.instanceMethod y_Mo_put ∈ zW := zW_in 659 (by decide +kernel) rfl
theorem se_Mo_put : Cond.selects y_Mo_put.cls y_Mo_put y_Mo_put ∈ zW := zW_in 28 (by decide +kernel) rfl
theorem cb_Mo_trap : zCb y_Mo_trap b_Mo_trap 2 (none) 1 := ⟨zW_in 648 (by decide +kernel) rfl, zW_in 43 (by decide +kernel) rfl, ⟨by decide, by decide⟩, by decide +kernel⟩
theorem in_Mo_trap : Cond.instanceMethod y_Mo_trap ∈ zW := zW_in 647 (by decide +kernel) rfl
theorem se_Mo_trap : Cond.selects y_Mo_trap.cls y_Mo_trap y_Mo_trap ∈ zW := zW_in 25 (by decide +kernel) rfl
theorem cb_Mo_isGone : zCb y_Mo_isGone b_Mo_isGone 2 (some .boolean) 1 := ⟨zW_in 676 (by decide +kernel) rfl, zW_in 43 (by decide +kernel) rfl, ⟨by decide, by decide⟩, by decide +kernel⟩
theorem in_Mo_isGone : Cond.instanceMethod y_Mo_isGone ∈ zW := zW_in 675 (by decide +kernel) rfl
theorem se_Mo_isGone : Cond.selects y_Mo_isGone.cls y_Mo_isGone y_Mo_isGone ∈ zW := zW_in 29 (by decide +kernel) rfl
theorem cb_Mo_step : zCb y_Mo_step b_Mo_step 3 (none) 0 := ⟨zW_in 644 (by decide +kernel) rfl, zW_in 43 (by decide +kernel) rfl, ⟨by decide, by decide⟩, by decide +kernel⟩
theorem in_Mo_step : Cond.instanceMethod y_Mo_step ∈ zW := zW_in 643 (by decide +kernel) rfl
theorem se_Mo_step : Cond.selects y_Mo_step.cls y_Mo_step y_Mo_step ∈ zW := zW_in 24 (by decide +kernel) rfl
theorem cb_Mo_goesOn : zCb y_Mo_goesOn b_Mo_goesOn 3 (none) 2 := ⟨zW_in 656 (by decide +kernel) rfl, zW_in 43 (by decide +kernel) rfl, ⟨by decide, by decide⟩, by decide +kernel⟩
theorem in_Mo_goesOn : Cond.instanceMethod y_Mo_goesOn ∈ zW := zW_in 655 (by decide +kernel) rfl
theorem se_Mo_goesOn : Cond.selects y_Mo_goesOn.cls y_Mo_goesOn y_Mo_goesOn ∈ zW := zW_in 27 (by decide +kernel) rfl
theorem cb_Mo_jumps : zCb y_Mo_jumps b_Mo_jumps 5 (none) 2 := ⟨zW_in 652 (by decide +kernel) rfl, zW_in 43 (by decide +kernel) rfl, ⟨by decide, by decide⟩, by decide +kernel⟩
theorem in_Mo_jumps : Cond.instanceMethod y_Mo_jumps ∈ zW := zW_in 651 (by decide +kernel) rfl
theorem se_Mo_jumps : Cond.selects y_Mo_jumps.cls y_Mo_jumps y_Mo_jumps ∈ zW := zW_in 26 (by decide +kernel) rfl
theorem cb_Mo_branch : zCb y_Mo_branch b_Mo_branch 8 (none) 2 := ⟨zW_in 680 (by decide +kernel) rfl, zW_in 43 (by decide +kernel) rfl, ⟨by decide, by decide⟩, by decide +kernel⟩
theorem in_Mo_branch : Cond.instanceMethod y_Mo_branch ∈ zW := zW_in 679 (by decide +kernel) rfl
theorem se_Mo_branch : Cond.selects y_Mo_branch.cls y_Mo_branch y_Mo_branch ∈ zW := zW_in 30 (by decide +kernel) rfl
theorem cb_Mo_load : zCb y_Mo_load b_Mo_load 6 (none) 2 := ⟨zW_in 688 (by decide +kernel) rfl, zW_in 43 (by decide +kernel) rfl, ⟨by decide, by decide⟩, by decide +kernel⟩
theorem in_Mo_load : Cond.instanceMethod y_Mo_load ∈ zW := zW_in 687 (by decide +kernel) rfl
theorem se_Mo_load : Cond.selects y_Mo_load.cls y_Mo_load y_Mo_load ∈ zW := zW_in 31 (by decide +kernel) rfl
theorem cb_Mo_store : zCb y_Mo_store b_Mo_store 7 (none) 2 := ⟨zW_in 701 (by decide +kernel) rfl, zW_in 43 (by decide +kernel) rfl, ⟨by decide, by decide⟩, by decide +kernel⟩
theorem in_Mo_store : Cond.instanceMethod y_Mo_store ∈ zW := zW_in 700 (by decide +kernel) rfl
theorem se_Mo_store : Cond.selects y_Mo_store.cls y_Mo_store y_Mo_store ∈ zW := zW_in 34 (by decide +kernel) rfl
theorem cb_Mo_plain : zCb y_Mo_plain b_Mo_plain 4 (some .int) 4 := ⟨zW_in 707 (by decide +kernel) rfl, zW_in 43 (by decide +kernel) rfl, ⟨by decide, by decide⟩, by decide +kernel⟩
theorem st_Mo_plain : Cond.static y_Mo_plain ∈ zW := zW_in 706 (by decide +kernel) rfl
theorem cb_Mo_more : zCb y_Mo_more b_Mo_more 11 (some .int) 3 := ⟨zW_in 710 (by decide +kernel) rfl, zW_in 43 (by decide +kernel) rfl, ⟨by decide, by decide⟩, by decide +kernel⟩
theorem st_Mo_more : Cond.static y_Mo_more ∈ zW := zW_in 709 (by decide +kernel) rfl
theorem cb_Mo_service : zCb y_Mo_service b_Mo_service 6 (none) 0 := ⟨zW_in 714 (by decide +kernel) rfl, zW_in 43 (by decide +kernel) rfl, ⟨by decide, by decide⟩, by decide +kernel⟩
theorem in_Mo_service : Cond.instanceMethod y_Mo_service ∈ zW := zW_in 713 (by decide +kernel) rfl
theorem se_Mo_service : Cond.selects y_Mo_service.cls y_Mo_service y_Mo_service ∈ zW := zW_in 35 (by decide +kernel) rfl
theorem cb_Mo_word : zCb y_Mo_word b_Mo_word 2 (some .int) 1 := ⟨zW_in 628 (by decide +kernel) rfl, zW_in 43 (by decide +kernel) rfl, ⟨by decide, by decide⟩, by decide +kernel⟩
theorem in_Mo_word : Cond.instanceMethod y_Mo_word ∈ zW := zW_in 626 (by decide +kernel) rfl
theorem se_Mo_word : Cond.selects y_Mo_word.cls y_Mo_word y_Mo_word ∈ zW := zW_in 627 (by decide +kernel) rfl
theorem cb_Mo_change : zCb y_Mo_change b_Mo_change 4 (some .int) 2 := ⟨zW_in 632 (by decide +kernel) rfl, zW_in 43 (by decide +kernel) rfl, ⟨by decide, by decide⟩, by decide +kernel⟩
theorem in_Mo_change : Cond.instanceMethod y_Mo_change ∈ zW := zW_in 630 (by decide +kernel) rfl
theorem se_Mo_change : Cond.selects y_Mo_change.cls y_Mo_change y_Mo_change ∈ zW := zW_in 631 (by decide +kernel) rfl
theorem cb_Mo_begin : zCb y_Mo_begin b_Mo_begin 3 (none) 1 := ⟨zW_in 636 (by decide +kernel) rfl, zW_in 43 (by decide +kernel) rfl, ⟨by decide, by decide⟩, by decide +kernel⟩
theorem in_Mo_begin : Cond.instanceMethod y_Mo_begin ∈ zW := zW_in 634 (by decide +kernel) rfl
theorem se_Mo_begin : Cond.selects y_Mo_begin.cls y_Mo_begin y_Mo_begin ∈ zW := zW_in 635 (by decide +kernel) rfl
theorem cb_Mo_run : zCb y_Mo_run b_Mo_run 3 (some .int) 1 := ⟨zW_in 640 (by decide +kernel) rfl, zW_in 43 (by decide +kernel) rfl, ⟨by decide, by decide⟩, by decide +kernel⟩
theorem in_Mo_run : Cond.instanceMethod y_Mo_run ∈ zW := zW_in 638 (by decide +kernel) rfl
theorem se_Mo_run : Cond.selects y_Mo_run.cls y_Mo_run y_Mo_run ∈ zW := zW_in 639 (by decide +kernel) rfl
theorem cb_Mo_state : zCb y_Mo_state b_Mo_state 1 (some .int) 0 := ⟨zW_in 735 (by decide +kernel) rfl, zW_in 43 (by decide +kernel) rfl, ⟨by decide, by decide⟩, by decide +kernel⟩
theorem in_Mo_state : Cond.instanceMethod y_Mo_state ∈ zW := zW_in 733 (by decide +kernel) rfl
theorem se_Mo_state : Cond.selects y_Mo_state.cls y_Mo_state y_Mo_state ∈ zW := zW_in 734 (by decide +kernel) rfl
theorem cb_Mo_register : zCb y_Mo_register b_Mo_register 2 (some .int) 1 := ⟨zW_in 739 (by decide +kernel) rfl, zW_in 43 (by decide +kernel) rfl, ⟨by decide, by decide⟩, by decide +kernel⟩
theorem in_Mo_register : Cond.instanceMethod y_Mo_register ∈ zW := zW_in 737 (by decide +kernel) rfl
theorem se_Mo_register : Cond.selects y_Mo_register.cls y_Mo_register y_Mo_register ∈ zW := zW_in 738 (by decide +kernel) rfl
theorem cb_Mo_set : zCb y_Mo_set b_Mo_set 4 (some .int) 2 := ⟨zW_in 743 (by decide +kernel) rfl, zW_in 43 (by decide +kernel) rfl, ⟨by decide, by decide⟩, by decide +kernel⟩
theorem in_Mo_set : Cond.instanceMethod y_Mo_set ∈ zW := zW_in 741 (by decide +kernel) rfl
theorem se_Mo_set : Cond.selects y_Mo_set.cls y_Mo_set y_Mo_set ∈ zW := zW_in 742 (by decide +kernel) rfl
theorem cb_Mo_peek : zCb y_Mo_peek b_Mo_peek 3 (some .int) 1 := ⟨zW_in 747 (by decide +kernel) rfl, zW_in 43 (by decide +kernel) rfl, ⟨by decide, by decide⟩, by decide +kernel⟩
theorem in_Mo_peek : Cond.instanceMethod y_Mo_peek ∈ zW := zW_in 745 (by decide +kernel) rfl
theorem se_Mo_peek : Cond.selects y_Mo_peek.cls y_Mo_peek y_Mo_peek ∈ zW := zW_in 746 (by decide +kernel) rfl
theorem cb_Mo_input : zCb y_Mo_input b_Mo_input 5 (some .int) 2 := ⟨zW_in 751 (by decide +kernel) rfl, zW_in 43 (by decide +kernel) rfl, ⟨by decide, by decide⟩, by decide +kernel⟩
theorem in_Mo_input : Cond.instanceMethod y_Mo_input ∈ zW := zW_in 749 (by decide +kernel) rfl
theorem se_Mo_input : Cond.selects y_Mo_input.cls y_Mo_input y_Mo_input ∈ zW := zW_in 750 (by decide +kernel) rfl
theorem cb_Mo_take : zCb y_Mo_take b_Mo_take 5 (some .long) 0 := ⟨zW_in 755 (by decide +kernel) rfl, zW_in 43 (by decide +kernel) rfl, ⟨by decide, by decide⟩, by decide +kernel⟩
theorem in_Mo_take : Cond.instanceMethod y_Mo_take ∈ zW := zW_in 753 (by decide +kernel) rfl
theorem se_Mo_take : Cond.selects y_Mo_take.cls y_Mo_take y_Mo_take ∈ zW := zW_in 754 (by decide +kernel) rfl
theorem cb_Mo_count : zCb y_Mo_count b_Mo_count 2 (some .int) 1 := ⟨zW_in 759 (by decide +kernel) rfl, zW_in 43 (by decide +kernel) rfl, ⟨by decide, by decide⟩, by decide +kernel⟩
theorem in_Mo_count : Cond.instanceMethod y_Mo_count ∈ zW := zW_in 757 (by decide +kernel) rfl
theorem se_Mo_count : Cond.selects y_Mo_count.cls y_Mo_count y_Mo_count ∈ zW := zW_in 758 (by decide +kernel) rfl
theorem cb_Ar_copyOfI : zCb y_Ar_copyOfI b_Ar_copyOfI 3 (some (.array .int)) 2 := ⟨zW_in 270 (by decide +kernel) rfl, zW_in 49 (by decide +kernel) rfl, ⟨by decide, by decide⟩, by decide +kernel⟩
theorem st_Ar_copyOfI : Cond.static y_Ar_copyOfI ∈ zW := zW_in 269 (by decide +kernel) rfl
theorem cb_Ar_fill : zCb y_Ar_fill b_Ar_fill 4 (none) 2 := ⟨zW_in 314 (by decide +kernel) rfl, zW_in 49 (by decide +kernel) rfl, ⟨by decide, by decide⟩, by decide +kernel⟩
theorem st_Ar_fill : Cond.static y_Ar_fill ∈ zW := zW_in 313 (by decide +kernel) rfl
theorem cb_Ar_copyOfB : zCb y_Ar_copyOfB b_Ar_copyOfB 3 (some (.array .byte)) 2 := ⟨zW_in 460 (by decide +kernel) rfl, zW_in 49 (by decide +kernel) rfl, ⟨by decide, by decide⟩, by decide +kernel⟩
theorem st_Ar_copyOfB : Cond.static y_Ar_copyOfB ∈ zW := zW_in 459 (by decide +kernel) rfl
theorem lk_La_43 : zLk "RvMachineLaw" 43 y_Rv_init := Or.inl (zW_in 55 (by decide +kernel) rfl)
theorem lk_Rv_18 : zLk "RvMachine" 18 y_Me_init := Or.inl (zW_in 63 (by decide +kernel) rfl)
theorem lk_Rv_25 : zLk "RvMachine" 25 y_By_init := Or.inl (zW_in 105 (by decide +kernel) rfl)
theorem lk_La_68 : zLk "RvMachineLaw" 68 y_Rv_state := Or.inl (zW_in 151 (by decide +kernel) rfl)
theorem lk_La_78 : zLk "RvMachineLaw" 78 y_Rv_peek := Or.inl (zW_in 155 (by decide +kernel) rfl)
theorem lk_Rv_74 : zLk "RvMachine" 74 y_Me_holds := Or.inl (zW_in 159 (by decide +kernel) rfl)
theorem lk_Me_83 : zLk "RvMachine$Memory" 83 y_Me_isThere := Or.inl (zW_in 163 (by decide +kernel) rfl)
theorem kc_Me_82 : Cond.constant "RvMachine$Memory" 82 (65535) ∈ zW := zW_in 167 (by decide +kernel) rfl
theorem lk_Rv_78 : zLk "RvMachine" 78 y_Me_read := Or.inl (zW_in 168 (by decide +kernel) rfl)
theorem lk_Me_91 : zLk "RvMachine$Memory" 91 y_Me_spot := Or.inl (zW_in 172 (by decide +kernel) rfl)
theorem lk_La_88 : zLk "RvMachineLaw" 88 y_Rv_take := Or.inl (zW_in 176 (by decide +kernel) rfl)
theorem lk_Rv_93 : zLk "RvMachine" 93 y_By_removeFirst := Or.inl (zW_in 183 (by decide +kernel) rfl)
theorem lk_By_20 : zLk "RvMachine$Bytes" 20 y_By_wrapped := Or.inl (zW_in 187 (by decide +kernel) rfl)
theorem lk_La_7 : zLk "RvMachineLaw" 7 y_Rv_word := Or.inl (zW_in 195 (by decide +kernel) rfl)
theorem lk_Rv_45 : zLk "RvMachine" 45 y_Rv_widened := Or.inl (zW_in 262 (by decide +kernel) rfl)
theorem lk_Rv_109 : zLk "RvMachine" 109 y_Ar_copyOfI := Or.inl (zW_in 268 (by decide +kernel) rfl)
theorem lk_La_15 : zLk "RvMachineLaw" 15 y_Rv_change := Or.inl (zW_in 286 (by decide +kernel) rfl)
theorem lk_La_21 : zLk "RvMachineLaw" 21 y_Rv_begin := Or.inl (zW_in 308 (by decide +kernel) rfl)
theorem lk_Rv_52 : zLk "RvMachine" 52 y_Ar_fill := Or.inl (zW_in 312 (by decide +kernel) rfl)
theorem lk_Rv_58 : zLk "RvMachine" 58 y_Me_forgetAll := Or.inl (zW_in 315 (by decide +kernel) rfl)
theorem lk_Rv_61 : zLk "RvMachine" 61 y_By_forgetAll := Or.inl (zW_in 319 (by decide +kernel) rfl)
theorem lk_La_25 : zLk "RvMachineLaw" 25 y_Rv_run := Or.inl (zW_in 327 (by decide +kernel) rfl)
theorem lk_Rv_71 : zLk "RvMachine" 71 y_Rv_doNext := Or.inl (zW_in 346 (by decide +kernel) rfl)
theorem lk_Rv_116 : zLk "RvMachine" 116 y_Rv_execute := Or.inl (zW_in 350 (by decide +kernel) rfl)
theorem lk_Rv_120 : zLk "RvMachine" 120 y_Rv_keep := Or.inl (zW_in 354 (by decide +kernel) rfl)
theorem lk_Rv_123 : zLk "RvMachine" 123 y_Rv_jumpOffset := Or.inl (zW_in 358 (by decide +kernel) rfl)
theorem kc_Rv_154 : Cond.constant "RvMachine" 154 (1044480) ∈ zW := zW_in 361 (by decide +kernel) rfl
theorem lk_Rv_126 : zLk "RvMachine" 126 y_Rv_jump := Or.inl (zW_in 362 (by decide +kernel) rfl)
theorem lk_Rv_155 : zLk "RvMachine" 155 y_Rv_goTo := Or.inl (zW_in 366 (by decide +kernel) rfl)
theorem lk_Rv_129 : zLk "RvMachine" 129 y_Rv_jumpByRegister := Or.inl (zW_in 370 (by decide +kernel) rfl)
theorem lk_Rv_147 : zLk "RvMachine" 147 y_Rv_middle := Or.inl (zW_in 374 (by decide +kernel) rfl)
theorem lk_Rv_158 : zLk "RvMachine" 158 y_Rv_firstOperand := Or.inl (zW_in 377 (by decide +kernel) rfl)
theorem lk_Rv_132 : zLk "RvMachine" 132 y_Rv_branch := Or.inl (zW_in 381 (by decide +kernel) rfl)
theorem lk_Rv_161 : zLk "RvMachine" 161 y_Rv_secondOperand := Or.inl (zW_in 385 (by decide +kernel) rfl)
theorem lk_Rv_164 : zLk "RvMachine" 164 y_Rv_isBelow := Or.inl (zW_in 389 (by decide +kernel) rfl)
theorem lk_Rv_193 : zLk "RvMachine" 193 y_Rv_unsigned := Or.inl (zW_in 392 (by decide +kernel) rfl)
theorem kc_Rv_197 : Cond.constantLong "RvMachine" 197 (4294967295) ∈ zW := zW_in 395 (by decide +kernel) rfl
theorem lk_Rv_167 : zLk "RvMachine" 167 y_Rv_branchOffset := Or.inl (zW_in 396 (by decide +kernel) rfl)
theorem lk_Rv_135 : zLk "RvMachine" 135 y_Rv_load := Or.inl (zW_in 399 (by decide +kernel) rfl)
theorem lk_Rv_170 : zLk "RvMachine" 170 y_Me_holdsAligned := Or.inl (zW_in 403 (by decide +kernel) rfl)
theorem lk_Me_87 : zLk "RvMachine$Memory" 87 y_Me_holds := Or.inl (zW_in 407 (by decide +kernel) rfl)
theorem lk_Rv_138 : zLk "RvMachine" 138 y_Rv_store := Or.inl (zW_in 408 (by decide +kernel) rfl)
theorem lk_Rv_173 : zLk "RvMachine" 173 y_Rv_storeOffset := Or.inl (zW_in 412 (by decide +kernel) rfl)
theorem lk_Rv_176 : zLk "RvMachine" 176 y_Me_write := Or.inl (zW_in 415 (by decide +kernel) rfl)
theorem lk_Rv_141 : zLk "RvMachine" 141 y_Rv_operateWithConstant := Or.inl (zW_in 419 (by decide +kernel) rfl)
theorem lk_Rv_180 : zLk "RvMachine" 180 y_Rv_top := Or.inl (zW_in 423 (by decide +kernel) rfl)
theorem lk_Rv_183 : zLk "RvMachine" 183 y_Rv_plainResult := Or.inl (zW_in 426 (by decide +kernel) rfl)
theorem lk_Rv_144 : zLk "RvMachine" 144 y_Rv_operate := Or.inl (zW_in 429 (by decide +kernel) rfl)
theorem lk_Rv_187 : zLk "RvMachine" 187 y_Rv_product := Or.inl (zW_in 433 (by decide +kernel) rfl)
theorem lk_Rv_190 : zLk "RvMachine" 190 y_Rv_quotient := Or.inl (zW_in 436 (by decide +kernel) rfl)
theorem lk_Rv_150 : zLk "RvMachine" 150 y_Rv_serve := Or.inl (zW_in 439 (by decide +kernel) rfl)
theorem lk_Rv_199 : zLk "RvMachine" 199 y_Me_make := Or.inl (zW_in 443 (by decide +kernel) rfl)
theorem lk_Me_42 : zLk "RvMachine$Memory" 42 y_Me_roundedUp := Or.inl (zW_in 447 (by decide +kernel) rfl)
theorem kc_Me_46 : Cond.constant "RvMachine$Memory" 46 (40000) ∈ zW := zW_in 450 (by decide +kernel) rfl
theorem lk_Me_47 : zLk "RvMachine$Memory" 47 y_Me_tidy := Or.inl (zW_in 451 (by decide +kernel) rfl)
theorem kc_Me_66 : Cond.constant "RvMachine$Memory" 66 (80000) ∈ zW := zW_in 456 (by decide +kernel) rfl
theorem lk_Me_73 : zLk "RvMachine$Memory" 73 y_Ar_copyOfB := Or.inl (zW_in 458 (by decide +kernel) rfl)
theorem lk_Me_51 : zLk "RvMachine$Memory" 51 y_Me_addNumber := Or.inl (zW_in 466 (by decide +kernel) rfl)
theorem lk_Me_60 : zLk "RvMachine$Memory" 60 y_Rv_widened := Or.inr ⟨"RvMachine", zW_in 470 (by decide +kernel) rfl⟩
theorem lk_Rv_203 : zLk "RvMachine" 203 y_Rv_answerAddress := Or.inl (zW_in 471 (by decide +kernel) rfl)
theorem lk_Rv_206 : zLk "RvMachine" 206 y_Me_dropLast := Or.inl (zW_in 475 (by decide +kernel) rfl)
theorem lk_Me_79 : zLk "RvMachine$Memory" 79 y_Me_drop := Or.inl (zW_in 479 (by decide +kernel) rfl)
theorem lk_Rv_210 : zLk "RvMachine" 210 y_Rv_doneIf := Or.inl (zW_in 483 (by decide +kernel) rfl)
theorem lk_Rv_214 : zLk "RvMachine" 214 y_Me_dropGiven := Or.inl (zW_in 486 (by decide +kernel) rfl)
theorem lk_Rv_85 : zLk "RvMachine" 85 y_By_add := Or.inl (zW_in 490 (by decide +kernel) rfl)
theorem lk_Rv_217 : zLk "RvMachine" 217 y_Rv_copyBytes := Or.inl (zW_in 494 (by decide +kernel) rfl)
theorem lk_Rv_220 : zLk "RvMachine" 220 y_Me_copy := Or.inl (zW_in 498 (by decide +kernel) rfl)
theorem kc_Rv_153 : Cond.constant "RvMachine" 153 (1048691) ∈ zW := zW_in 502 (by decide +kernel) rfl
theorem lk_La_30 : zLk "RvMachineLaw" 30 y_Rv_register := Or.inl (zW_in 506 (by decide +kernel) rfl)
theorem lk_La_33 : zLk "RvMachineLaw" 33 y_Rv_set := Or.inl (zW_in 513 (by decide +kernel) rfl)
theorem lk_La_36 : zLk "RvMachineLaw" 36 y_Rv_input := Or.inl (zW_in 520 (by decide +kernel) rfl)
theorem lk_La_40 : zLk "RvMachineLaw" 40 y_Rv_count := Or.inl (zW_in 527 (by decide +kernel) rfl)
theorem lk_La_46 : zLk "RvMachineLaw" 46 y_Mo_init := Or.inl (zW_in 533 (by decide +kernel) rfl)
theorem kc_Mo_22 : Cond.constant "RvMachineModel" 22 (90000) ∈ zW := zW_in 537 (by decide +kernel) rfl
theorem lk_Mo_48 : zLk "RvMachineModel" 48 y_Mo_kind := Or.inl (zW_in 538 (by decide +kernel) rfl)
theorem kc_Mo_52 : Cond.constant "RvMachineModel" 52 (-33525633) ∈ zW := zW_in 542 (by decide +kernel) rfl
theorem kc_Mo_53 : Cond.constant "RvMachineModel" 53 (1073762323) ∈ zW := zW_in 543 (by decide +kernel) rfl
theorem kc_Mo_54 : Cond.constant "RvMachineModel" 54 (1073741875) ∈ zW := zW_in 544 (by decide +kernel) rfl
theorem kc_Mo_55 : Cond.constant "RvMachineModel" 55 (1073762355) ∈ zW := zW_in 545 (by decide +kernel) rfl
theorem kc_Mo_56 : Cond.constant "RvMachineModel" 56 (33554432) ∈ zW := zW_in 546 (by decide +kernel) rfl
theorem kc_Mo_57 : Cond.constant "RvMachineModel" 57 (1048691) ∈ zW := zW_in 547 (by decide +kernel) rfl
theorem lk_La_53 : zLk "RvMachineLaw" 53 y_Mo_thrown := Or.inl (zW_in 621 (by decide +kernel) rfl)
theorem lk_La_52 : zLk "RvMachineLaw" 52 y_Mo_word := Or.inl (zW_in 625 (by decide +kernel) rfl)
theorem lk_La_60 : zLk "RvMachineLaw" 60 y_Mo_change := Or.inl (zW_in 629 (by decide +kernel) rfl)
theorem lk_La_64 : zLk "RvMachineLaw" 64 y_Mo_begin := Or.inl (zW_in 633 (by decide +kernel) rfl)
theorem lk_La_67 : zLk "RvMachineLaw" 67 y_Mo_run := Or.inl (zW_in 637 (by decide +kernel) rfl)
theorem lk_Mo_180 : zLk "RvMachineModel" 180 y_Mo_step := Or.inl (zW_in 641 (by decide +kernel) rfl)
theorem lk_Mo_100 : zLk "RvMachineModel" 100 y_Mo_trap := Or.inl (zW_in 645 (by decide +kernel) rfl)
theorem lk_Mo_110 : zLk "RvMachineModel" 110 y_Mo_jumps := Or.inl (zW_in 649 (by decide +kernel) rfl)
theorem lk_Mo_129 : zLk "RvMachineModel" 129 y_Mo_goesOn := Or.inl (zW_in 653 (by decide +kernel) rfl)
theorem lk_Mo_138 : zLk "RvMachineModel" 138 y_Mo_put := Or.inl (zW_in 657 (by decide +kernel) rfl)
theorem lk_Mo_65 : zLk "RvMachineModel" 65 y_Mo_bits := Or.inl (zW_in 661 (by decide +kernel) rfl)
theorem lk_Mo_141 : zLk "RvMachineModel" 141 y_Mo_byJump := Or.inl (zW_in 664 (by decide +kernel) rfl)
theorem lk_Mo_69 : zLk "RvMachineModel" 69 y_Mo_signed := Or.inl (zW_in 667 (by decide +kernel) rfl)
theorem lk_Mo_122 : zLk "RvMachineModel" 122 y_Mo_byUpper := Or.inl (zW_in 670 (by decide +kernel) rfl)
theorem lk_Mo_144 : zLk "RvMachineModel" 144 y_Mo_isGone := Or.inl (zW_in 673 (by decide +kernel) rfl)
theorem lk_Mo_113 : zLk "RvMachineModel" 113 y_Mo_branch := Or.inl (zW_in 677 (by decide +kernel) rfl)
theorem kc_Mo_148 : Cond.constantLong "RvMachineModel" 148 (4294967295) ∈ zW := zW_in 681 (by decide +kernel) rfl
theorem lk_Mo_150 : zLk "RvMachineModel" 150 y_Mo_byBranch := Or.inl (zW_in 682 (by decide +kernel) rfl)
theorem lk_Mo_116 : zLk "RvMachineModel" 116 y_Mo_load := Or.inl (zW_in 685 (by decide +kernel) rfl)
theorem lk_Mo_153 : zLk "RvMachineModel" 153 y_Mo_place := Or.inl (zW_in 689 (by decide +kernel) rfl)
theorem kc_Mo_73 : Cond.constant "RvMachineModel" 73 (65535) ∈ zW := zW_in 693 (by decide +kernel) rfl
theorem lk_Mo_156 : zLk "RvMachineModel" 156 y_Mo_read := Or.inl (zW_in 694 (by decide +kernel) rfl)
theorem lk_Mo_119 : zLk "RvMachineModel" 119 y_Mo_store := Or.inl (zW_in 698 (by decide +kernel) rfl)
theorem lk_Mo_159 : zLk "RvMachineModel" 159 y_Mo_byStore := Or.inl (zW_in 702 (by decide +kernel) rfl)
theorem lk_Mo_125 : zLk "RvMachineModel" 125 y_Mo_plain := Or.inl (zW_in 705 (by decide +kernel) rfl)
theorem lk_Mo_132 : zLk "RvMachineModel" 132 y_Mo_more := Or.inl (zW_in 708 (by decide +kernel) rfl)
theorem lk_Mo_135 : zLk "RvMachineModel" 135 y_Mo_service := Or.inl (zW_in 711 (by decide +kernel) rfl)
theorem lk_Mo_162 : zLk "RvMachineModel" 162 y_Mo_object := Or.inl (zW_in 715 (by decide +kernel) rfl)
theorem lk_Mo_80 : zLk "RvMachineModel" 80 y_Mo_up := Or.inl (zW_in 719 (by decide +kernel) rfl)
theorem kc_Mo_84 : Cond.constant "RvMachineModel" 84 (40000) ∈ zW := zW_in 722 (by decide +kernel) rfl
theorem lk_Mo_88 : zLk "RvMachineModel" 88 y_Mo_pack := Or.inl (zW_in 723 (by decide +kernel) rfl)
theorem lk_Mo_168 : zLk "RvMachineModel" 168 y_Mo_gone := Or.inl (zW_in 728 (by decide +kernel) rfl)
theorem lk_La_71 : zLk "RvMachineLaw" 71 y_Mo_state := Or.inl (zW_in 732 (by decide +kernel) rfl)
theorem lk_La_74 : zLk "RvMachineLaw" 74 y_Mo_register := Or.inl (zW_in 736 (by decide +kernel) rfl)
theorem lk_La_77 : zLk "RvMachineLaw" 77 y_Mo_set := Or.inl (zW_in 740 (by decide +kernel) rfl)
theorem lk_La_81 : zLk "RvMachineLaw" 81 y_Mo_peek := Or.inl (zW_in 744 (by decide +kernel) rfl)
theorem lk_La_87 : zLk "RvMachineLaw" 87 y_Mo_input := Or.inl (zW_in 748 (by decide +kernel) rfl)
theorem lk_La_92 : zLk "RvMachineLaw" 92 y_Mo_take := Or.inl (zW_in 752 (by decide +kernel) rfl)
theorem lk_La_95 : zLk "RvMachineLaw" 95 y_Mo_count := Or.inl (zW_in 756 (by decide +kernel) rfl)
theorem kc_La_82 : Cond.constantLong "RvMachineLaw" 82 (4294967295) ∈ zW := zW_in 760 (by decide +kernel) rfl
theorem ly_Rv : ∀ w ∈ u_ws R_Rv F_Rv 10, w ∈ zW := by
  intro w hw
  obtain ⟨k, hk, rfl⟩ := List.mem_map.mp hw
  have hk := List.mem_range.mp hk
  have h : lw_tbl[([130, 132, 134, 136, 138, 140, 142, 144, 146, 148] : List Nat).getD k 0]? = some (u_lay R_Rv F_Rv k) ∧ goodWord (u_lay R_Rv F_Rv k) = true := by revert k; decide +kernel
  exact zW_in _ h.1 h.2
theorem ft_Rv_0 : zFt 0 0 (.array .int) false := ⟨R_Rv, F_Rv, 10, t_Rv, rfl, t_Rv_ok, n_Rv, rfl, rfl⟩
theorem ft_Rv_1 : zFt 0 1 (.int) false := ⟨R_Rv, F_Rv, 10, t_Rv, rfl, t_Rv_ok, n_Rv, rfl, rfl⟩
theorem ft_Rv_2 : zFt 0 2 (.array .int) true := ⟨R_Rv, F_Rv, 10, t_Rv, rfl, t_Rv_ok, n_Rv, rfl, rfl⟩
theorem ft_Rv_3 : zFt 0 3 (.object "RvMachine$Memory") true := ⟨R_Rv, F_Rv, 10, t_Rv, rfl, t_Rv_ok, n_Rv, rfl, rfl⟩
theorem ft_Rv_4 : zFt 0 4 (.object "RvMachine$Bytes") true := ⟨R_Rv, F_Rv, 10, t_Rv, rfl, t_Rv_ok, n_Rv, rfl, rfl⟩
theorem ft_Rv_5 : zFt 0 5 (.object "RvMachine$Bytes") true := ⟨R_Rv, F_Rv, 10, t_Rv, rfl, t_Rv_ok, n_Rv, rfl, rfl⟩
theorem ft_Rv_6 : zFt 0 6 (.int) false := ⟨R_Rv, F_Rv, 10, t_Rv, rfl, t_Rv_ok, n_Rv, rfl, rfl⟩
theorem ft_Rv_7 : zFt 0 7 (.int) false := ⟨R_Rv, F_Rv, 10, t_Rv, rfl, t_Rv_ok, n_Rv, rfl, rfl⟩
theorem ft_Rv_8 : zFt 0 8 (.int) false := ⟨R_Rv, F_Rv, 10, t_Rv, rfl, t_Rv_ok, n_Rv, rfl, rfl⟩
theorem ft_Rv_9 : zFt 0 9 (.int) false := ⟨R_Rv, F_Rv, 10, t_Rv, rfl, t_Rv_ok, n_Rv, rfl, rfl⟩
theorem ly_Me : ∀ w ∈ u_ws R_Me F_Me 10, w ∈ zW := by
  intro w hw
  obtain ⟨k, hk, rfl⟩ := List.mem_map.mp hw
  have hk := List.mem_range.mp hk
  have h : lw_tbl[([80, 82, 84, 86, 88, 90, 92, 94, 96, 98] : List Nat).getD k 0]? = some (u_lay R_Me F_Me k) ∧ goodWord (u_lay R_Me F_Me k) = true := by revert k; decide +kernel
  exact zW_in _ h.1 h.2
theorem ft_Me_0 : zFt 1 0 (.int) false := ⟨R_Me, F_Me, 10, t_Me, rfl, t_Me_ok, n_Me, rfl, rfl⟩
theorem ft_Me_1 : zFt 1 1 (.int) false := ⟨R_Me, F_Me, 10, t_Me, rfl, t_Me_ok, n_Me, rfl, rfl⟩
theorem ft_Me_2 : zFt 1 2 (.int) false := ⟨R_Me, F_Me, 10, t_Me, rfl, t_Me_ok, n_Me, rfl, rfl⟩
theorem ft_Me_3 : zFt 1 3 (.int) false := ⟨R_Me, F_Me, 10, t_Me, rfl, t_Me_ok, n_Me, rfl, rfl⟩
theorem ft_Me_4 : zFt 1 4 (.array .int) false := ⟨R_Me, F_Me, 10, t_Me, rfl, t_Me_ok, n_Me, rfl, rfl⟩
theorem ft_Me_5 : zFt 1 5 (.array .int) false := ⟨R_Me, F_Me, 10, t_Me, rfl, t_Me_ok, n_Me, rfl, rfl⟩
theorem ft_Me_6 : zFt 1 6 (.array .int) false := ⟨R_Me, F_Me, 10, t_Me, rfl, t_Me_ok, n_Me, rfl, rfl⟩
theorem ft_Me_7 : zFt 1 7 (.array .byte) false := ⟨R_Me, F_Me, 10, t_Me, rfl, t_Me_ok, n_Me, rfl, rfl⟩
theorem ft_Me_8 : zFt 1 8 (.int) false := ⟨R_Me, F_Me, 10, t_Me, rfl, t_Me_ok, n_Me, rfl, rfl⟩
theorem ft_Me_9 : zFt 1 9 (.array .byte) true := ⟨R_Me, F_Me, 10, t_Me, rfl, t_Me_ok, n_Me, rfl, rfl⟩
theorem ly_By : ∀ w ∈ u_ws R_By F_By 3, w ∈ zW := by
  intro w hw
  obtain ⟨k, hk, rfl⟩ := List.mem_map.mp hw
  have hk := List.mem_range.mp hk
  have h : lw_tbl[([113, 115, 117] : List Nat).getD k 0]? = some (u_lay R_By F_By k) ∧ goodWord (u_lay R_By F_By k) = true := by revert k; decide +kernel
  exact zW_in _ h.1 h.2
theorem ft_By_0 : zFt 2 0 (.array .byte) true := ⟨R_By, F_By, 3, t_By, rfl, t_By_ok, n_By, rfl, rfl⟩
theorem ft_By_1 : zFt 2 1 (.int) false := ⟨R_By, F_By, 3, t_By, rfl, t_By_ok, n_By, rfl, rfl⟩
theorem ft_By_2 : zFt 2 2 (.int) false := ⟨R_By, F_By, 3, t_By, rfl, t_By_ok, n_By, rfl, rfl⟩
theorem ly_Mo : ∀ w ∈ u_ws R_Mo F_Mo 24, w ∈ zW := by
  intro w hw
  obtain ⟨k, hk, rfl⟩ := List.mem_map.mp hw
  have hk := List.mem_range.mp hk
  have h : lw_tbl[([572, 574, 576, 578, 580, 582, 584, 586, 588, 590, 592, 594, 596, 598, 600, 602, 604, 606, 608, 610, 612, 614, 616, 618] : List Nat).getD k 0]? = some (u_lay R_Mo F_Mo k) ∧ goodWord (u_lay R_Mo F_Mo k) = true := by revert k; decide +kernel
  exact zW_in _ h.1 h.2
theorem ft_Mo_0 : zFt 3 0 (.array .int) true := ⟨R_Mo, F_Mo, 24, t_Mo, rfl, t_Mo_ok, n_Mo, rfl, rfl⟩
theorem ft_Mo_1 : zFt 3 1 (.array .int) true := ⟨R_Mo, F_Mo, 24, t_Mo, rfl, t_Mo_ok, n_Mo, rfl, rfl⟩
theorem ft_Mo_2 : zFt 3 2 (.int) false := ⟨R_Mo, F_Mo, 24, t_Mo, rfl, t_Mo_ok, n_Mo, rfl, rfl⟩
theorem ft_Mo_3 : zFt 3 3 (.array .int) true := ⟨R_Mo, F_Mo, 24, t_Mo, rfl, t_Mo_ok, n_Mo, rfl, rfl⟩
theorem ft_Mo_4 : zFt 3 4 (.int) false := ⟨R_Mo, F_Mo, 24, t_Mo, rfl, t_Mo_ok, n_Mo, rfl, rfl⟩
theorem ft_Mo_5 : zFt 3 5 (.array .int) true := ⟨R_Mo, F_Mo, 24, t_Mo, rfl, t_Mo_ok, n_Mo, rfl, rfl⟩
theorem ft_Mo_6 : zFt 3 6 (.int) false := ⟨R_Mo, F_Mo, 24, t_Mo, rfl, t_Mo_ok, n_Mo, rfl, rfl⟩
theorem ft_Mo_7 : zFt 3 7 (.int) false := ⟨R_Mo, F_Mo, 24, t_Mo, rfl, t_Mo_ok, n_Mo, rfl, rfl⟩
theorem ft_Mo_8 : zFt 3 8 (.int) false := ⟨R_Mo, F_Mo, 24, t_Mo, rfl, t_Mo_ok, n_Mo, rfl, rfl⟩
theorem ft_Mo_9 : zFt 3 9 (.int) false := ⟨R_Mo, F_Mo, 24, t_Mo, rfl, t_Mo_ok, n_Mo, rfl, rfl⟩
theorem ft_Mo_10 : zFt 3 10 (.array .byte) true := ⟨R_Mo, F_Mo, 24, t_Mo, rfl, t_Mo_ok, n_Mo, rfl, rfl⟩
theorem ft_Mo_11 : zFt 3 11 (.array .int) true := ⟨R_Mo, F_Mo, 24, t_Mo, rfl, t_Mo_ok, n_Mo, rfl, rfl⟩
theorem ft_Mo_12 : zFt 3 12 (.array .int) true := ⟨R_Mo, F_Mo, 24, t_Mo, rfl, t_Mo_ok, n_Mo, rfl, rfl⟩
theorem ft_Mo_13 : zFt 3 13 (.array .int) true := ⟨R_Mo, F_Mo, 24, t_Mo, rfl, t_Mo_ok, n_Mo, rfl, rfl⟩
theorem ft_Mo_14 : zFt 3 14 (.array .int) true := ⟨R_Mo, F_Mo, 24, t_Mo, rfl, t_Mo_ok, n_Mo, rfl, rfl⟩
theorem ft_Mo_15 : zFt 3 15 (.int) false := ⟨R_Mo, F_Mo, 24, t_Mo, rfl, t_Mo_ok, n_Mo, rfl, rfl⟩
theorem ft_Mo_16 : zFt 3 16 (.int) false := ⟨R_Mo, F_Mo, 24, t_Mo, rfl, t_Mo_ok, n_Mo, rfl, rfl⟩
theorem ft_Mo_17 : zFt 3 17 (.int) false := ⟨R_Mo, F_Mo, 24, t_Mo, rfl, t_Mo_ok, n_Mo, rfl, rfl⟩
theorem ft_Mo_18 : zFt 3 18 (.int) false := ⟨R_Mo, F_Mo, 24, t_Mo, rfl, t_Mo_ok, n_Mo, rfl, rfl⟩
theorem ft_Mo_19 : zFt 3 19 (.array .byte) true := ⟨R_Mo, F_Mo, 24, t_Mo, rfl, t_Mo_ok, n_Mo, rfl, rfl⟩
theorem ft_Mo_20 : zFt 3 20 (.array .byte) true := ⟨R_Mo, F_Mo, 24, t_Mo, rfl, t_Mo_ok, n_Mo, rfl, rfl⟩
theorem ft_Mo_21 : zFt 3 21 (.array .byte) true := ⟨R_Mo, F_Mo, 24, t_Mo, rfl, t_Mo_ok, n_Mo, rfl, rfl⟩
theorem ft_Mo_22 : zFt 3 22 (.int) false := ⟨R_Mo, F_Mo, 24, t_Mo, rfl, t_Mo_ok, n_Mo, rfl, rfl⟩
theorem ft_Mo_23 : zFt 3 23 (.int) false := ⟨R_Mo, F_Mo, 24, t_Mo, rfl, t_Mo_ok, n_Mo, rfl, rfl⟩
theorem fd_Me_26 : zFd "RvMachine$Memory" 26 1 0 := ⟨R_Me, F_Me, 10, rfl, by decide, ly_Me, rfl, Or.inl (zW_in 67 (by decide +kernel) rfl)⟩
theorem fd_Rv_97 : zFd "RvMachine" 97 1 0 := ⟨R_Me, F_Me, 10, rfl, by decide, ly_Me, rfl, Or.inr ⟨"RvMachine", zW_in 68 (by decide +kernel) rfl⟩⟩
theorem fd_Me_30 : zFd "RvMachine$Memory" 30 1 1 := ⟨R_Me, F_Me, 10, rfl, by decide, ly_Me, rfl, Or.inl (zW_in 69 (by decide +kernel) rfl)⟩
theorem fd_Rv_100 : zFd "RvMachine" 100 1 1 := ⟨R_Me, F_Me, 10, rfl, by decide, ly_Me, rfl, Or.inr ⟨"RvMachine", zW_in 70 (by decide +kernel) rfl⟩⟩
theorem fd_Me_33 : zFd "RvMachine$Memory" 33 1 2 := ⟨R_Me, F_Me, 10, rfl, by decide, ly_Me, rfl, Or.inl (zW_in 71 (by decide +kernel) rfl)⟩
theorem fd_Rv_103 : zFd "RvMachine" 103 1 2 := ⟨R_Me, F_Me, 10, rfl, by decide, ly_Me, rfl, Or.inr ⟨"RvMachine", zW_in 72 (by decide +kernel) rfl⟩⟩
theorem fd_Me_36 : zFd "RvMachine$Memory" 36 1 3 := ⟨R_Me, F_Me, 10, rfl, by decide, ly_Me, rfl, Or.inl (zW_in 73 (by decide +kernel) rfl)⟩
theorem fd_Me_9 : zFd "RvMachine$Memory" 9 1 4 := ⟨R_Me, F_Me, 10, rfl, by decide, ly_Me, rfl, Or.inl (zW_in 74 (by decide +kernel) rfl)⟩
theorem fd_Me_13 : zFd "RvMachine$Memory" 13 1 5 := ⟨R_Me, F_Me, 10, rfl, by decide, ly_Me, rfl, Or.inl (zW_in 75 (by decide +kernel) rfl)⟩
theorem fd_Me_16 : zFd "RvMachine$Memory" 16 1 6 := ⟨R_Me, F_Me, 10, rfl, by decide, ly_Me, rfl, Or.inl (zW_in 76 (by decide +kernel) rfl)⟩
theorem fd_Me_19 : zFd "RvMachine$Memory" 19 1 7 := ⟨R_Me, F_Me, 10, rfl, by decide, ly_Me, rfl, Or.inl (zW_in 77 (by decide +kernel) rfl)⟩
theorem fd_Me_39 : zFd "RvMachine$Memory" 39 1 8 := ⟨R_Me, F_Me, 10, rfl, by decide, ly_Me, rfl, Or.inl (zW_in 78 (by decide +kernel) rfl)⟩
theorem fd_Me_23 : zFd "RvMachine$Memory" 23 1 9 := ⟨R_Me, F_Me, 10, rfl, by decide, ly_Me, rfl, Or.inl (zW_in 79 (by decide +kernel) rfl)⟩
theorem fd_By_7 : zFd "RvMachine$Bytes" 7 2 0 := ⟨R_By, F_By, 3, rfl, by decide, ly_By, rfl, Or.inl (zW_in 109 (by decide +kernel) rfl)⟩
theorem fd_By_13 : zFd "RvMachine$Bytes" 13 2 1 := ⟨R_By, F_By, 3, rfl, by decide, ly_By, rfl, Or.inl (zW_in 110 (by decide +kernel) rfl)⟩
theorem fd_By_17 : zFd "RvMachine$Bytes" 17 2 2 := ⟨R_By, F_By, 3, rfl, by decide, ly_By, rfl, Or.inl (zW_in 111 (by decide +kernel) rfl)⟩
theorem fd_Rv_82 : zFd "RvMachine" 82 2 2 := ⟨R_By, F_By, 3, rfl, by decide, ly_By, rfl, Or.inr ⟨"RvMachine", zW_in 112 (by decide +kernel) rfl⟩⟩
theorem fd_Rv_7 : zFd "RvMachine" 7 0 0 := ⟨R_Rv, F_Rv, 10, rfl, by decide, ly_Rv, rfl, Or.inl (zW_in 120 (by decide +kernel) rfl)⟩
theorem fd_Rv_39 : zFd "RvMachine" 39 0 1 := ⟨R_Rv, F_Rv, 10, rfl, by decide, ly_Rv, rfl, Or.inl (zW_in 121 (by decide +kernel) rfl)⟩
theorem fd_Rv_13 : zFd "RvMachine" 13 0 2 := ⟨R_Rv, F_Rv, 10, rfl, by decide, ly_Rv, rfl, Or.inl (zW_in 122 (by decide +kernel) rfl)⟩
theorem fd_Rv_19 : zFd "RvMachine" 19 0 3 := ⟨R_Rv, F_Rv, 10, rfl, by decide, ly_Rv, rfl, Or.inl (zW_in 123 (by decide +kernel) rfl)⟩
theorem fd_Rv_28 : zFd "RvMachine" 28 0 4 := ⟨R_Rv, F_Rv, 10, rfl, by decide, ly_Rv, rfl, Or.inl (zW_in 124 (by decide +kernel) rfl)⟩
theorem fd_Rv_32 : zFd "RvMachine" 32 0 5 := ⟨R_Rv, F_Rv, 10, rfl, by decide, ly_Rv, rfl, Or.inl (zW_in 125 (by decide +kernel) rfl)⟩
theorem fd_Rv_35 : zFd "RvMachine" 35 0 6 := ⟨R_Rv, F_Rv, 10, rfl, by decide, ly_Rv, rfl, Or.inl (zW_in 126 (by decide +kernel) rfl)⟩
theorem fd_Rv_62 : zFd "RvMachine" 62 0 7 := ⟨R_Rv, F_Rv, 10, rfl, by decide, ly_Rv, rfl, Or.inl (zW_in 127 (by decide +kernel) rfl)⟩
theorem fd_Rv_65 : zFd "RvMachine" 65 0 8 := ⟨R_Rv, F_Rv, 10, rfl, by decide, ly_Rv, rfl, Or.inl (zW_in 128 (by decide +kernel) rfl)⟩
theorem fd_Rv_113 : zFd "RvMachine" 113 0 9 := ⟨R_Rv, F_Rv, 10, rfl, by decide, ly_Rv, rfl, Or.inl (zW_in 129 (by decide +kernel) rfl)⟩
theorem fd_Mo_7 : zFd "RvMachineModel" 7 3 0 := ⟨R_Mo, F_Mo, 24, rfl, by decide, ly_Mo, rfl, Or.inl (zW_in 548 (by decide +kernel) rfl)⟩
theorem fd_Mo_13 : zFd "RvMachineModel" 13 3 1 := ⟨R_Mo, F_Mo, 24, rfl, by decide, ly_Mo, rfl, Or.inl (zW_in 549 (by decide +kernel) rfl)⟩
theorem fd_Mo_58 : zFd "RvMachineModel" 58 3 2 := ⟨R_Mo, F_Mo, 24, rfl, by decide, ly_Mo, rfl, Or.inl (zW_in 550 (by decide +kernel) rfl)⟩
theorem fd_Mo_16 : zFd "RvMachineModel" 16 3 3 := ⟨R_Mo, F_Mo, 24, rfl, by decide, ly_Mo, rfl, Or.inl (zW_in 551 (by decide +kernel) rfl)⟩
theorem fd_Mo_107 : zFd "RvMachineModel" 107 3 4 := ⟨R_Mo, F_Mo, 24, rfl, by decide, ly_Mo, rfl, Or.inl (zW_in 552 (by decide +kernel) rfl)⟩
theorem fd_Mo_19 : zFd "RvMachineModel" 19 3 5 := ⟨R_Mo, F_Mo, 24, rfl, by decide, ly_Mo, rfl, Or.inl (zW_in 553 (by decide +kernel) rfl)⟩
theorem fd_Mo_104 : zFd "RvMachineModel" 104 3 6 := ⟨R_Mo, F_Mo, 24, rfl, by decide, ly_Mo, rfl, Or.inl (zW_in 554 (by decide +kernel) rfl)⟩
theorem fd_Mo_97 : zFd "RvMachineModel" 97 3 7 := ⟨R_Mo, F_Mo, 24, rfl, by decide, ly_Mo, rfl, Or.inl (zW_in 555 (by decide +kernel) rfl)⟩
theorem fd_Mo_177 : zFd "RvMachineModel" 177 3 8 := ⟨R_Mo, F_Mo, 24, rfl, by decide, ly_Mo, rfl, Or.inl (zW_in 556 (by decide +kernel) rfl)⟩
theorem fd_Mo_62 : zFd "RvMachineModel" 62 3 9 := ⟨R_Mo, F_Mo, 24, rfl, by decide, ly_Mo, rfl, Or.inl (zW_in 557 (by decide +kernel) rfl)⟩
theorem fd_Mo_23 : zFd "RvMachineModel" 23 3 10 := ⟨R_Mo, F_Mo, 24, rfl, by decide, ly_Mo, rfl, Or.inl (zW_in 558 (by decide +kernel) rfl)⟩
theorem fd_Mo_27 : zFd "RvMachineModel" 27 3 11 := ⟨R_Mo, F_Mo, 24, rfl, by decide, ly_Mo, rfl, Or.inl (zW_in 559 (by decide +kernel) rfl)⟩
theorem fd_Mo_30 : zFd "RvMachineModel" 30 3 12 := ⟨R_Mo, F_Mo, 24, rfl, by decide, ly_Mo, rfl, Or.inl (zW_in 560 (by decide +kernel) rfl)⟩
theorem fd_Mo_33 : zFd "RvMachineModel" 33 3 13 := ⟨R_Mo, F_Mo, 24, rfl, by decide, ly_Mo, rfl, Or.inl (zW_in 561 (by decide +kernel) rfl)⟩
theorem fd_Mo_36 : zFd "RvMachineModel" 36 3 14 := ⟨R_Mo, F_Mo, 24, rfl, by decide, ly_Mo, rfl, Or.inl (zW_in 562 (by decide +kernel) rfl)⟩
theorem fd_Mo_74 : zFd "RvMachineModel" 74 3 15 := ⟨R_Mo, F_Mo, 24, rfl, by decide, ly_Mo, rfl, Or.inl (zW_in 563 (by decide +kernel) rfl)⟩
theorem fd_Mo_165 : zFd "RvMachineModel" 165 3 16 := ⟨R_Mo, F_Mo, 24, rfl, by decide, ly_Mo, rfl, Or.inl (zW_in 564 (by decide +kernel) rfl)⟩
theorem fd_Mo_85 : zFd "RvMachineModel" 85 3 17 := ⟨R_Mo, F_Mo, 24, rfl, by decide, ly_Mo, rfl, Or.inl (zW_in 565 (by decide +kernel) rfl)⟩
theorem fd_Mo_77 : zFd "RvMachineModel" 77 3 18 := ⟨R_Mo, F_Mo, 24, rfl, by decide, ly_Mo, rfl, Or.inl (zW_in 566 (by decide +kernel) rfl)⟩
theorem fd_Mo_39 : zFd "RvMachineModel" 39 3 19 := ⟨R_Mo, F_Mo, 24, rfl, by decide, ly_Mo, rfl, Or.inl (zW_in 567 (by decide +kernel) rfl)⟩
theorem fd_Mo_42 : zFd "RvMachineModel" 42 3 20 := ⟨R_Mo, F_Mo, 24, rfl, by decide, ly_Mo, rfl, Or.inl (zW_in 568 (by decide +kernel) rfl)⟩
theorem fd_Mo_45 : zFd "RvMachineModel" 45 3 21 := ⟨R_Mo, F_Mo, 24, rfl, by decide, ly_Mo, rfl, Or.inl (zW_in 569 (by decide +kernel) rfl)⟩
theorem fd_Mo_174 : zFd "RvMachineModel" 174 3 22 := ⟨R_Mo, F_Mo, 24, rfl, by decide, ly_Mo, rfl, Or.inl (zW_in 570 (by decide +kernel) rfl)⟩
theorem fd_Mo_171 : zFd "RvMachineModel" 171 3 23 := ⟨R_Mo, F_Mo, 24, rfl, by decide, ly_Mo, rfl, Or.inl (zW_in 571 (by decide +kernel) rfl)⟩
end
