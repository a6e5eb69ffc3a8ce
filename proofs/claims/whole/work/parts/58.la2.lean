/-! methods with a table of handlers, and what must hold where something may be thrown -/
def xNc (U : State) : Prop := ∃ c1 c2, U.vm.findClass "java/lang/IllegalStateException" = some c1 ∧ U.vm.findClass "java/lang/IllegalArgumentException" = some c2 ∧ U.vm.assignable c1 c2 = false
def xOk (U : State) : Prop := xSt U ∧ xNc U
theorem xs_keep {s U : State} (hal : s.vm.Alike U.vm) (hk : ∀ (q : Addr) (c : Cell), s.heap[q]? = some c → U.heap[q]? = some c) {c n d : String} {a a' : Array Value} (hl : (Cond.laysStatic c n d).before a s = true) (h : (Cond.isRef (.static c n d)).before a s = true) :
    (Cond.laysStatic c n d).before a' U = true ∧ (Cond.isRef (.static c n d)).before a' U = true := by
  obtain ⟨cc, k, ix, f, ad, cell, h1, h2, h3, h4, h5, h6, h7, h8, h9⟩ := Cond.laysStatic_spec hl
  obtain ⟨k', hf', he⟩ := State.fieldFound?_setVm hal h2
  have hf2 : U.fieldFound? c n d = some (cc, k', ix, f) := hf'
  have h4' : k'.statics = some ad := by rw [he]; exact h4
  have h5' := hk ad cell h5
  refine ⟨Cond.laysStatic_of (s := U) (by rw [hal.findClass]; exact h1) hf2 h3 h4' h5' h6 h7 h8 (by rw [he]; exact h9), ?_⟩
  cases hv : (Term.static c n d).eval a s none [] s with
  | none => simp [Cond.before, Cond.holds, Cond.value, hv] at h
  | some v =>
    obtain ⟨-, ad2, cell2, g1, g2, -, g3⟩ := Term.static_spec h2 hv
    cases h4.symm.trans g1
    cases h5.symm.trans g2
    have hv' : (Term.static c n d).eval a' U none [] U = some v := Term.static_eval (s := U) hf2 h3 h4' h5' h6 g3
    simp only [Cond.before, Cond.holds, Cond.value, hv, hv'] at h ⊢
    exact h
theorem xOk_move {s U : State} (hW : s.WarmedH U.vm) (hk : ∀ (q : Addr) (c : Cell), s.heap[q]? = some c → U.heap[q]? = some c) (h : xOk s) : xOk U := by
  have hal := hW.alike
  obtain ⟨⟨h1, h2, h3, h4⟩, c1, c2, h5, h6, h7⟩ := h
  have k1 := xs_keep (a' := #[]) hal hk h3 h1
  have k2 := xs_keep (a' := #[]) hal hk h4 h2
  exact ⟨⟨k1.2, k2.2, k1.1, k2.1⟩, c1, c2, by rw [hal.findClass]; exact h5, by rw [hal.findClass]; exact h6, by rw [hal.assignable]; exact h7⟩
theorem xNc_of {args : Array Value} {s : State} (h : (Cond.not (Cond.castable "java/lang/IllegalStateException" "java/lang/IllegalArgumentException")).before args s = true) : xNc s := by
  simp only [Cond.before, Cond.holds, Cond.value] at h
  cases h1 : s.vm.findClass "java/lang/IllegalStateException" with
  | none => simp [h1] at h
  | some c1 =>
    cases h2 : s.vm.findClass "java/lang/IllegalArgumentException" with
    | none => simp [h1, h2] at h
    | some c2 => exact ⟨c1, c2, h1, h2, by simpa [h1, h2] using h⟩
abbrev zWH (y : MethodName) (cc : ByteArray) (n : Nat) (r : Option FieldType) (hs : List (Nat × Nat × Nat × Nat)) : List Cond := Cond.codeWith y cc n r hs :: zW
def hPc (D : va_G) (T : List (ClassId × FieldType)) (sz : Nat) (ws : va_W) (av : List Value) : Array Value → State → Prop := fun a U => zPc D T sz ws av a U ∧ xOk U
theorem hPc_blind {D : va_G} {T : List (ClassId × FieldType)} {sz : Nat} {ws : va_W} {av : List Value} : FrameBlind (hPc D T sz ws av) := fun a U g mk q => ⟨zPc_blind a U g mk q.1, q.2⟩
theorem zMetH.ofW {l : Launch} {y : MethodName} {ws ws' : List Cond} {rm : Room} {Pc : Array Value → State → Prop} {Qc : Array Value → State → Outcome → State → Nat → Nat → Prop} {free : Addr → Prop} {cc : ByteArray} {maxL : Nat} {ret : Option FieldType} {hs : List (Nat × Nat × Nat × Nat)}
    (hy : plainName y.cls = true) (hw : ws = Cond.codeWith y cc maxL ret hs :: ws')
    (body : ∀ p e s m args below meth c s₁, BodyLoose p l y (headSpec ws rm) cc maxL ret e s m args below meth c s₁ → c.maxLocals = maxL → c.exceptionTable.toList = tableOf hs → Pc args s →
      W p l e (headSpec ws rm).room s m args below meth c s.heap [] 0 0 (zMQ below Qc args s free) (entryFrame m args maxL)) : zMet l y ws rm Pc Qc free := by
  refine MetFree.of_bodyS (code := cc) (maxLocals := maxL) (ret := ret) hy ?_ ?_
  · intro args s m h hn
    obtain ⟨m', meth, c, hname', hmeth, hcode, hbytes, hlocals, -, hret, hlocks, -⟩ := Cond.codeWith_spec (atoms_spec (ws := ws) h (Cond.codeWith y cc maxL ret hs) (by rw [hw]; exact List.mem_cons_self))
    cases hn.symm.trans hname'
    exact ⟨meth, c, hmeth, hcode, hbytes, hlocals, hret, hlocks⟩
  · intro p e s m args below meth c s₁ B hml hP _
    obtain ⟨m', meth', c', hname', hmeth, hcode, -, -, htable, -, -, -⟩ := Cond.codeWith_spec (atoms_spec (ws := ws) B.pre (Cond.codeWith y cc maxL ret hs) (by rw [hw]; exact List.mem_cons_self))
    cases B.named.symm.trans hname'
    cases B.method.symm.trans hmeth
    cases (Stand.of_body B).code.symm.trans hcode
    have hh0 : s₁.heap = s.heap := by rw [B.state]; rfl
    obtain ⟨t, a1, o, b1, b2, b3⟩ := body p e s m args below meth c s₁ B hml (by rw [← htable, table_eq]) hP s₁ hh0 (Stand.of_body B)
    exact ⟨t, o, a1, b1, b2, b3⟩
theorem zstartH {l : Launch} {y : MethodName} {cc : ByteArray} {maxL : Nat} {ret : Option FieldType} {hs : List (Nat × Nat × Nat × Nat)} {rm : Room} {D : va_G} {T : List (ClassId × FieldType)} {sz : Nat} {ws : va_W} {av : List Value} {Qc : (Nat → Prop) → Array Value → State → Outcome → State → Nat → Nat → Prop}
    (hy : plainName y.cls = true) (hmx : (lg_sl av).length ≤ maxL)
    (body : ∀ p e s m below meth c ls A, CallFix p m c cc maxL s av.toArray zW y.cls → meth.sig.returnType = ret → meth.locks = false → meth.name = y.name → c.exceptionTable.toList = tableOf hs → xOk s → s.heap.size = sz → va_K D zC T s → va_P D zC ws s.heap → va_D A ws → va_S A s.heap s.heap [] → (∀ q, s.heap.size ≤ q → A q) → A = va_A ws sz → lv_has ls maxL (lv_args 0 av) →
      W p l e rm s m av.toArray below meth c s.heap [] 0 0 (zMQ below (Qc A) av.toArray s A) (F0 m 0 ls [])) :
    zMet l y (zWH y cc maxL ret hs) rm (hPc D T sz ws av) (Qc (va_A ws sz)) (va_A ws sz) := by
  refine zMetH.ofW (cc := cc) (maxL := maxL) (ret := ret) (hs := hs) hy rfl ?_
  intro p e s m args below meth c s₁ B hml htab hv
  obtain ⟨⟨rfl, hsz, hP, hK, hD0⟩, hst⟩ := hv
  have hts := atoms_spec (ws := zWH y cc maxL ret hs) B.pre
  have hA : ∀ q : Nat, s.heap.size ≤ q → va_A ws sz q := fun q h => Or.inr (by rw [← hsz]; exact h)
  have hl := lv_entry av (n := maxL) hmx
  rw [lg_entry_eq]
  exact body p e s m below meth c _ (va_A ws sz) ⟨B.exec, B.bytes, hml, findClass_of_methodNamed B.named, fun w h => hts w (List.mem_cons_of_mem _ h)⟩ B.returns B.notSynchronized (name_of_methodNamed B.named B.method).1 htab hst hsz hK hP hD0.self va_S.rf hA rfl hl
def zCbH (y : MethodName) (bytes : ByteArray) (maxL : Nat) (ret : Option FieldType) (hs : List (Nat × Nat × Nat × Nat)) (n : Nat) : Prop :=
  Cond.codeWith y bytes maxL ret hs ∈ zW ∧ Cond.initialized y.cls ∈ zW ∧ (y.cls ≠ "java/lang/invoke/MethodHandle" ∧ y.cls ≠ "java/lang/invoke/VarHandle") ∧ (parseMethodDescriptor y.desc).map (fun d => d.parameters.length) = some n
section HCalls
variable {p : Program} {l : Launch} {e : Env} {R : Room} {s : State} {m : MethodId} {args : Array Value} {below : List Frame} {meth : Method} {c : Code} {H : Heap} {T : State} {locs : List Loc} {cells slots : Nat} {Q : State → Prop}
variable {y : MethodName} {bytes cc : ByteArray} {maxL nL n index : Nat} {ret : Option FieldType} {hs : List (Nat × Nat × Nat × Nat)} {rm : Room} {Pc : Array Value → State → Prop} {Qc : Array Value → State → Outcome → State → Nat → Nat → Prop} {free : Addr → Prop} {own cls cls1 : String} {b : Addr} {As rest st0 : List Value} {pc : Nat} {ls : Array Slot}
theorem zbackH (hM : zMet l y (zWH y bytes maxL ret hs) rm Pc Qc free) (hblind : FrameBlind Pc) (hfr : rm.frames + 1 ≤ R.frames) (hlo : 8 + (maxL + 11) + rm.locals ≤ R.locals)
    (hw : ∀ w ∈ zW, w.before args s = true) (hcode : Cond.codeWith y bytes maxL ret hs ∈ zW) (hini : Cond.initialized y.cls ∈ zW) :
    Back l R p e below s args y 3 8 (zPre R rm Pc) (zPost Qc free) := by
  refine Back.of_freeWith (handlers := hs) (S := headSpec (zWH y bytes maxL ret hs) rm) (P := Pc) (K := fun _ _ _ _ _ => True) (Q := fun a st o t => ∃ L k n, Qc a st o t k n ∧ FrameEnd st o t L k n ∧ ∀ q ∈ L, free q.base) (bytes := bytes) (maxL := maxL) (ret := ret)
    (E := fun a st o t L k n => Qc a st o t k n ∧ ∀ q ∈ L, free q.base) hM hfr hlo ?_ ?_ (fun _ _ _ _ _ _ _ _ _ => trivial) ?_ ?_
  · intro m meth c A a X hp
    have ok : ∀ w ∈ zW, w.before a A.U = true := fun w h => zW_move X.warmed h (hw w h)
    refine ⟨atoms_intro fun w h => ?_, ok _ hcode, ok _ hini, hp.1, hp.2.1⟩
    rcases List.mem_cons.mp h with rfl | h
    · exact ok _ hcode
    · exact ok w h
  · intro m meth c A a g mk X hp
    exact hblind _ _ _ _ hp.2.2
  · intro a st o t ⟨L, k, n, hq, hF, hL⟩
    exact ⟨L, k, n, hF, hq, hL⟩
  · intro m meth c A a g mk v t L k n X hp _ hF ⟨hq, hL⟩
    exact ⟨g, mk, t, L, k, n, rfl, rfl, hq, rfl, hL, rfl, rfl⟩
theorem callSH (X : Stand p l e R s m args below meth c T locs cells slots) (hexec : p.tables.exec = Jvm.exec)
    (hown : s.vm.findClass own = some m.cls) (hlink : (Cond.methodLink own index y).before args s = true) (hstat : (Cond.static y).before args s = true) (hinit : (Cond.initialized y.cls).before args s = true)
    (hcode : (Cond.codeWith y bytes maxL ret hs).before args s = true) (hy : y.cls ≠ "java/lang/invoke/MethodHandle" ∧ y.cls ≠ "java/lang/invoke/VarHandle")
    {W : Nat} {Pre : Pt → Array Value → Prop} {Post : Pt → Array Value → Option Value → Pt → Prop} (hK : Back l R p e below s args y 3 W Pre Post)
    {g : JFrame} (hg : g.method = m) (hsize : g.locals.size = c.maxLocals) {argsL rest : List Value} (hlen : ∀ sig, parseMethodDescriptor y.desc = some sig → argsL.length = sig.parameters.length)
    (hstack : g.stack = argsL.reverse ++ rest) (hW : 2 * g.monitorRoom + (rest.map fun v => v.category).sum ≤ W) (hdg : decode c.code g.pc = .ok (.invokestatic index, 3))
    (hpre : ∀ vm₁, s.WarmedH vm₁ → Pre ⟨T.setVm vm₁, locs, cells, slots⟩ argsL.toArray) :
    ∃ (v : Option Value) (vm₁ : Vm) (B : Pt), s.WarmedH vm₁ ∧ Stand p l e R s m args below meth c B.U B.locs B.cells B.slots ∧ Post ⟨T.setVm vm₁, locs, cells, slots⟩ argsL.toArray v B ∧
      ∀ target, Steps p.tables e below (B.U.setTop { g with pc := g.pc + 3, stack := v.toList ++ rest }) target → Steps p.tables e below (T.setTop g) target := by
  obtain ⟨mk, methM, cM, hnamed, hmethM, -, -, -, -, -, -, hsigM⟩ := Cond.codeWith_spec hcode
  have hstatic : methM.isStatic = true := Cond.static_spec hnamed hmethM hstat
  obtain ⟨kP, hkP, -⟩ := className_of_methodNamed hnamed
  have hinitP : kP.init = .initialized := Cond.initialized_spec (findClass_of_methodNamed hnamed) hkP hinit
  obtain ⟨vm₁, X₁, hstep₁⟩ := X.invokestatic hexec hown hlink hnamed hmethM hstatic hkP hinitP hy (g := g) hg (argsL := argsL) (rest := rest) (hlen _ hsigM) hstack hdg
  obtain ⟨v, B, X', hpost, hsteps⟩ := hK m meth c ⟨T.setVm vm₁, locs, cells, slots⟩ { g with stack := rest } (.invokestatic index) mk argsL.toArray X₁ hg hsize hdg hW (X₁.named hnamed) (hpre vm₁ X₁.warmed)
  exact ⟨v, vm₁, B, X₁.warmed, X', hpost, fun target h => hstep₁ _ fun acts => by rw [doInvoke_state]; exact hsteps.trans h⟩
theorem zrunSH (S : CallFix p m c cc nL s args zW own) (hM : zMet l y (zWH y bytes maxL ret hs) rm Pc Qc free) (cb : zCbH y bytes maxL ret hs n) (lk : Cond.methodLink own index y ∈ zW) (hstt : Cond.static y ∈ zW) (hp : PreS s H Pc As) (hR : zRm R rm maxL cells slots)
    (hn : As.length = n) (hsize : ls.size = nL) (hst : st0 = As.reverse ++ rest) (hW : (rest.map fun v => v.category).sum ≤ 8) (hdg : decode cc pc = .ok (.invokestatic index, 3)) :
    zRun p l e R s m args below meth c H locs cells slots (F0 m pc ls st0) rest (Qc As.toArray) free := by
  obtain ⟨hx, hb, hml, ho, hw⟩ := S
  have hK : Back l R p e below s args y 3 8 (zPre R rm Pc) (zPost Qc free) := zbackH hM hp.1 hR.1 hR.2.1 hw cb.1 cb.2.1
  have hlen : ∀ sig, parseMethodDescriptor y.desc = some sig → As.length = sig.parameters.length := by
    intro sig hs
    have h2 := cb.2.2.2
    rw [hs] at h2
    exact hn.trans (Option.some.inj h2).symm
  subst hst
  intro T hT X
  obtain ⟨v, vm₁, ⟨U', l2, c2, s2⟩, hW₁, X', ⟨g', mk, t, L, k, n', e1, e2, hq, h1, hL, h2, h3⟩, st⟩ := callSH X hx (bytes := bytes) (maxL := maxL) (ret := ret) (hs := hs) ho (hw _ lk) (hw _ hstt) (hw _ cb.2.1) (hw _ cb.1) cb.2.2.1 hK (g := F0 m pc ls (As.reverse ++ rest)) rfl (hsize.trans hml.symm) (argsL := As) (rest := rest) hlen rfl (lv_room hW) (by rw [hb]; exact hdg)
    (fun vm₁ hW₁ => ⟨hR.2.2.1, hR.2.2.2, hp.2 (T.setVm vm₁) hT hW₁⟩)
  dsimp only [Pt.U, Pt.locs, Pt.cells, Pt.slots] at X' e1 e2 h1 h2 h3 st
  subst h1; subst h2; subst h3
  exact ⟨v, (T.setVm vm₁).calling g' mk As.toArray, t, U', L, k, n', hT, X', hL, e1, e2, hq, st⟩
variable {D : va_G} {TT : List (ClassId × FieldType)} {A : Nat → Prop} {ws wc : va_W} {av : List Value}
theorem hpreS (hx : xOk s) (hkeep : ∀ (q : Addr) (c : Cell), s.heap[q]? = some c → H[q]? = some c) (hK : va_K D zC TT s) (hP : va_P D zC ws H) (hD : va_D A ws) (isC : List Nat) (hC : isC.map (fun i => ws[i]?) = wc.map some) (hC2 : isC.filterMap (fun i => ws[i]?) = wc) (hnd : va_nd isC = true) : PreS s H (hPc D TT H.size wc av) av :=
  ⟨hPc_blind, fun U hU hW => ⟨(zpreS hK hP hD isC hC hC2 hnd).2 U hU hW, xOk_move hW (by rw [hU]; exact hkeep) hx⟩⟩
theorem xpreV {q0 ci : Nat} {fs : List Value} {q : vw_C} (hx : xOk s) (hkeep : ∀ (q : Addr) (c : Cell), s.heap[q]? = some c → H[q]? = some c) (hK : va_K D zC TT s) (hP : va_P D zC ws H) (hD : va_D A ws) (he : ws[q0]? = some (b, .inr (ci, fs))) (hc : zC[ci]? = some q) (hq : q.1 = y.cls) (isC : List Nat) (hC : isC.map (fun i => ws[i]?) = wc.map some) (hC2 : isC.filterMap (fun i => ws[i]?) = wc) (hnd : va_nd isC = true) : PreV s H y.cls b (xPc D TT H.size wc (.ref b :: As)) As := by
  obtain ⟨cell, h1, h2, h3⟩ := va_recv hK hP hc he
  exact ⟨xPc_blind, ⟨cell, h1, h2, by rw [← hq]; exact h3⟩, fun U hU hW => ⟨(zpreS hK hP hD isC hC hC2 hnd).2 U hU hW, (xOk_move hW (by rw [hU]; exact hkeep) hx).1⟩⟩
/-- the second row of the table takes it -/
theorem xcall2 (S : CallFix p m c cc nL s args zW own) (hM : xMet l y (zWs y bytes maxL ret) rm Pc cls) (cb : zCb y bytes maxL ret n) (lk : Cond.methodLink own index y ∈ zW) (hin : Cond.instanceMethod y ∈ zW) (hse : Cond.selects y.cls y y ∈ zW) (hp : PreV s H y.cls b Pc As) (hR : zRm R rm maxL cells slots)
    (hn : As.length = n) (hsize : ls.size = nL) (hst : st0 = As.reverse ++ .ref b :: rest) (hW : (rest.map fun v => v.category).sum ≤ 8) (hdg : decode cc pc = .ok (.invokevirtual index, 3))
    {x1 x2 : ExceptionTableEntry} {more : List ExceptionTableEntry} (htab : c.exceptionTable.toList = x1 :: x2 :: more) (hcov1 : covers x1 pc = true) (h01 : x1.catchType ≠ 0) (hlk1 : Cond.classLink own x1.catchType cls1 ∈ zW)
    (hno : ∃ c1 c2, s.vm.findClass cls = some c1 ∧ s.vm.findClass cls1 = some c2 ∧ s.vm.assignable c1 c2 = false) (hcov2 : covers x2 pc = true) (h02 : x2.catchType ≠ 0) (hlk2 : Cond.classLink own x2.catchType cls ∈ zW) (hcast : Cond.castable cls cls ∈ zW)
    (kk : ∀ (a : Nat) (H1 : Heap), H.size ≤ H1.size → (∀ q : Nat, q < H.size → H1[q]? = H[q]?) → W p l e R s m args below meth c H1 locs (cells + 1) (slots + 6) Q (F0 m x2.handlerPc ls [.ref a])) :
    W p l e R s m args below meth c H locs cells slots Q (F0 m pc ls st0) := by
  intro T hT X
  obtain ⟨T', a, ce, X', ha, hce, hvm, hfc, hz, hk, hs⟩ := xrunV S hM cb lk hin hse hp hR hn hsize hst hW hdg hT X
  obtain ⟨hx, hb, hml, ho, hw⟩ := S
  have hpl : e.platform.magicAccessors = ({} : Platform).magicAccessors := by rw [X.admits.platform]
  obtain ⟨cN, hcN, hclN⟩ := Cond.classLink_spec ho (hw _ hlk1) e.platform hpl
  obtain ⟨cT, hcT, hcl⟩ := Cond.classLink_spec ho (hw _ hlk2) e.platform hpl
  obtain ⟨c3, c4, hc3, hc4, hasg⟩ := Cond.castable_spec (hw _ hcast)
  cases hcT.symm.trans hc4
  cases hfc.symm.trans hc3
  obtain ⟨c5, c6, hc5, hc6, hasgN⟩ := hno
  cases hfc.symm.trans hc5
  cases hcN.symm.trans hc6
  obtain ⟨dk, _, _, kt, hd, _, _, _, _, hkt, _, hop⟩ := hcl.here
  obtain ⟨dkN, _, _, ktN, hdN, _, _, _, _, hktN, _, hopN⟩ := hclN.here
  have hal := X'.warmed.alike
  obtain ⟨kt', hkt', -⟩ := hal.2.2 _ _ hkt
  obtain ⟨ktN', hktN', -⟩ := hal.2.2 _ _ hktN
  have hfit : T'.vm.assignable ce.cls cT = true := by rw [hal.assignable]; exact hasg
  have hfitN : T'.vm.assignable ce.cls cN = false := by rw [hal.assignable]; exact hasgN
  have hobj : ∀ k, ce.vm ≠ .statics k := fun k h => by rw [hvm] at h; cases h
  have X1 := X'.noted (X'.warmed.noted hdN hopN (State.rightAt_cls hclN))
  have hal1 := X1.warmed.alike
  obtain ⟨kt1, hkt1, -⟩ := hal1.2.2 _ _ hkt
  have hfit1 : (T'.vm.noted m.cls x1.catchType (.cls cN)).assignable ce.cls cT = true := by
    have q := hal1.assignable ce.cls cT
    exact q.trans hasg
  have hf : xFinds e ((T'.setTop (F0 m pc ls rest)).pushFrame (.throwing a)) (F0 m pc ls rest) a (.found x2.handlerPc) ((T'.vm.noted m.cls x1.catchType (.cls cN)).noted m.cls x2.catchType (.cls cT)) := by
    intro Q' E d acts
    rw [W.findHandler_eq (meth := meth) (code := c) X'.method' X'.code, htab]
    refine (xrow (s := (T'.setTop (F0 m pc ls rest)).pushFrame (.throwing a)) (f := F0 m pc ls rest) (a := a) (c := cN) (cell := ce) hcov1 h01 (X'.warmed.classLinks hclN) hce hobj (Vm.classAt_of_assignable hfit ⟨kt', hkt'⟩) ⟨ktN', hktN'⟩).trans ?_
    have hfit2 : ¬ ((T'.setTop (F0 m pc ls rest)).pushFrame (.throwing a)).vm.assignable ce.cls cN = true := fun q => by
      have q : T'.vm.assignable ce.cls cN = true := q
      rw [hfitN] at q
      cases q
    rw [if_neg hfit2]
    refine (xrow (s := ((T'.setTop (F0 m pc ls rest)).pushFrame (.throwing a)).setVm (T'.vm.noted m.cls x1.catchType (.cls cN))) (f := F0 m pc ls rest) (a := a) (c := cT) (cell := ce) hcov2 h02 (X1.warmed.classLinks hcl) hce hobj (Vm.classAt_of_assignable hfit1 ⟨kt1, hkt1⟩) ⟨kt1, hkt1⟩).trans ?_
    have hfit3 : (((T'.setTop (F0 m pc ls rest)).pushFrame (.throwing a)).setVm (T'.vm.noted m.cls x1.catchType (.cls cN))).vm.assignable ce.cls cT = true := hfit1
    rw [if_pos hfit3]
    exact Iff.rfl
  have XV := X1.noted (X1.warmed.noted hd hop (State.rightAt_cls hcl))
  obtain ⟨t, t1, t2⟩ := kk a T'.heap hz hk (T'.setVm ((T'.vm.noted m.cls x1.catchType (.cls cN)).noted m.cls x2.catchType (.cls cT))) rfl XV
  exact ⟨t, hs.trans (xcaught (f := F0 m pc ls rest) X'.here hf t1), t2⟩
end HCalls
theorem hkept {D : va_G} {ws : va_W} {H H1 : Heap} (hP : va_P D zC ws H) (hk : ∀ q : Nat, q < H.size → H1[q]? = H[q]?) : va_P D zC ws H1 := hP.kept (fun k q hq => hk q.1 (hP k q hq).lt)

/-! names and words of the law -/
abbrev b_La_word : ByteArray := method_3_code
def y_La_word : MethodName := ⟨"RvMachineLaw", "word", "(LRvMachine;I[J)I"⟩
theorem cbh_La_word : zCbH y_La_word b_La_word 4 (some .int) [(0, 9, 12, 13)] 3 := ⟨zt_1 154 rfl rfl, zt_1 0 rfl rfl, ⟨by decide, by decide⟩, by decide +kernel⟩
theorem st_La_word : Cond.static y_La_word ∈ zW := zt_1 153 rfl rfl
abbrev b_La_change : ByteArray := method_4_code
def y_La_change : MethodName := ⟨"RvMachineLaw", "change", "(LRvMachine;II[J)I"⟩
theorem cbh_La_change : zCbH y_La_change b_La_change 5 (some .int) [(0, 10, 13, 19)] 4 := ⟨zt_2 5 rfl rfl, zt_1 0 rfl rfl, ⟨by decide, by decide⟩, by decide +kernel⟩
theorem st_La_change : Cond.static y_La_change ∈ zW := zt_2 4 rfl rfl
abbrev b_La_begin : ByteArray := method_5_code
def y_La_begin : MethodName := ⟨"RvMachineLaw", "begin", "(LRvMachine;I)I"⟩
theorem cbh_La_begin : zCbH y_La_begin b_La_begin 3 (some .int) [(0, 5, 8, 19)] 2 := ⟨zt_2 28 rfl rfl, zt_1 0 rfl rfl, ⟨by decide, by decide⟩, by decide +kernel⟩
theorem st_La_begin : Cond.static y_La_begin ∈ zW := zt_2 27 rfl rfl
abbrev b_La_run : ByteArray := method_6_code
def y_La_run : MethodName := ⟨"RvMachineLaw", "run", "(LRvMachine;I[J)I"⟩
theorem cbh_La_run : zCbH y_La_run b_La_run 4 (some .int) [(0, 9, 12, 28), (0, 9, 15, 13)] 3 := ⟨zt_2 46 rfl rfl, zt_1 0 rfl rfl, ⟨by decide, by decide⟩, by decide +kernel⟩
theorem st_La_run : Cond.static y_La_run ∈ zW := zt_2 45 rfl rfl
abbrev b_La_register : ByteArray := method_7_code
def y_La_register : MethodName := ⟨"RvMachineLaw", "register", "(LRvMachine;I[J)I"⟩
theorem cbh_La_register : zCbH y_La_register b_La_register 4 (some .int) [(0, 9, 12, 19)] 3 := ⟨zt_2 226 rfl rfl, zt_1 0 rfl rfl, ⟨by decide, by decide⟩, by decide +kernel⟩
theorem st_La_register : Cond.static y_La_register ∈ zW := zt_2 225 rfl rfl
abbrev b_La_set : ByteArray := method_8_code
def y_La_set : MethodName := ⟨"RvMachineLaw", "set", "(LRvMachine;II[J)I"⟩
theorem cbh_La_set : zCbH y_La_set b_La_set 5 (some .int) [(0, 10, 13, 19)] 4 := ⟨zt_2 233 rfl rfl, zt_1 0 rfl rfl, ⟨by decide, by decide⟩, by decide +kernel⟩
theorem st_La_set : Cond.static y_La_set ∈ zW := zt_2 232 rfl rfl
abbrev b_La_input : ByteArray := method_9_code
def y_La_input : MethodName := ⟨"RvMachineLaw", "input", "(LRvMachine;JI[J)I"⟩
theorem cbh_La_input : zCbH y_La_input b_La_input 6 (some .int) [(0, 11, 14, 28), (0, 11, 18, 13)] 4 := ⟨zt_3 0 rfl rfl, zt_1 0 rfl rfl, ⟨by decide, by decide⟩, by decide +kernel⟩
theorem st_La_input : Cond.static y_La_input ∈ zW := zt_2 239 rfl rfl
abbrev b_La_count : ByteArray := method_10_code
def y_La_count : MethodName := ⟨"RvMachineLaw", "count", "(LRvMachine;I[J)I"⟩
theorem cbh_La_count : zCbH y_La_count b_La_count 4 (some .int) [(0, 9, 12, 28)] 3 := ⟨zt_3 7 rfl rfl, zt_1 0 rfl rfl, ⟨by decide, by decide⟩, by decide +kernel⟩
theorem st_La_count : Cond.static y_La_count ∈ zW := zt_3 6 rfl rfl
theorem lr_La_43 : Cond.methodLink "RvMachineLaw" 43 y_Rv_init ∈ zW := zt_1 16 rfl rfl
theorem lr_La_68 : Cond.methodLink "RvMachineLaw" 68 y_Rv_state ∈ zW := zt_1 112 rfl rfl
theorem lr_La_78 : Cond.methodLink "RvMachineLaw" 78 y_Rv_peek ∈ zW := zt_1 116 rfl rfl
theorem lr_La_88 : Cond.methodLink "RvMachineLaw" 88 y_Rv_take ∈ zW := zt_1 137 rfl rfl
theorem lr_La_47 : Cond.methodLink "RvMachineLaw" 47 y_La_word ∈ zW := zt_1 152 rfl rfl
theorem lr_La_7 : Cond.methodLink "RvMachineLaw" 7 y_Rv_word ∈ zW := zt_1 156 rfl rfl
theorem lr_La_57 : Cond.methodLink "RvMachineLaw" 57 y_La_change ∈ zW := zt_2 3 rfl rfl
theorem lr_La_15 : Cond.methodLink "RvMachineLaw" 15 y_Rv_change ∈ zW := zt_2 7 rfl rfl
theorem lr_La_61 : Cond.methodLink "RvMachineLaw" 61 y_La_begin ∈ zW := zt_2 26 rfl rfl
theorem lr_La_21 : Cond.methodLink "RvMachineLaw" 21 y_Rv_begin ∈ zW := zt_2 29 rfl rfl
theorem lr_La_65 : Cond.methodLink "RvMachineLaw" 65 y_La_run ∈ zW := zt_2 44 rfl rfl
theorem lr_La_25 : Cond.methodLink "RvMachineLaw" 25 y_Rv_run ∈ zW := zt_2 48 rfl rfl
theorem lr_La_72 : Cond.methodLink "RvMachineLaw" 72 y_La_register ∈ zW := zt_2 224 rfl rfl
theorem lr_La_30 : Cond.methodLink "RvMachineLaw" 30 y_Rv_register ∈ zW := zt_2 227 rfl rfl
theorem lr_La_75 : Cond.methodLink "RvMachineLaw" 75 y_La_set ∈ zW := zt_2 231 rfl rfl
theorem lr_La_33 : Cond.methodLink "RvMachineLaw" 33 y_Rv_set ∈ zW := zt_2 234 rfl rfl
theorem lr_La_84 : Cond.methodLink "RvMachineLaw" 84 y_La_input ∈ zW := zt_2 238 rfl rfl
theorem lr_La_36 : Cond.methodLink "RvMachineLaw" 36 y_Rv_input ∈ zW := zt_3 1 rfl rfl
theorem lr_La_93 : Cond.methodLink "RvMachineLaw" 93 y_La_count ∈ zW := zt_3 5 rfl rfl
theorem lr_La_40 : Cond.methodLink "RvMachineLaw" 40 y_Rv_count ∈ zW := zt_3 8 rfl rfl
theorem lr_La_46 : Cond.methodLink "RvMachineLaw" 46 y_Mo_init ∈ zW := zt_3 14 rfl rfl
theorem lr_La_53 : Cond.methodLink "RvMachineLaw" 53 y_Mo_thrown ∈ zW := zt_3 102 rfl rfl
theorem lr_La_52 : Cond.methodLink "RvMachineLaw" 52 y_Mo_word ∈ zW := zt_3 106 rfl rfl
theorem lr_La_60 : Cond.methodLink "RvMachineLaw" 60 y_Mo_change ∈ zW := zt_3 110 rfl rfl
theorem lr_La_64 : Cond.methodLink "RvMachineLaw" 64 y_Mo_begin ∈ zW := zt_3 114 rfl rfl
theorem lr_La_67 : Cond.methodLink "RvMachineLaw" 67 y_Mo_run ∈ zW := zt_3 118 rfl rfl
theorem lr_La_71 : Cond.methodLink "RvMachineLaw" 71 y_Mo_state ∈ zW := zt_3 213 rfl rfl
theorem lr_La_74 : Cond.methodLink "RvMachineLaw" 74 y_Mo_register ∈ zW := zt_3 217 rfl rfl
theorem lr_La_77 : Cond.methodLink "RvMachineLaw" 77 y_Mo_set ∈ zW := zt_3 221 rfl rfl
theorem lr_La_81 : Cond.methodLink "RvMachineLaw" 81 y_Mo_peek ∈ zW := zt_3 225 rfl rfl
theorem lr_La_87 : Cond.methodLink "RvMachineLaw" 87 y_Mo_input ∈ zW := zt_3 229 rfl rfl
theorem lr_La_92 : Cond.methodLink "RvMachineLaw" 92 y_Mo_take ∈ zW := zt_3 233 rfl rfl
theorem lr_La_95 : Cond.methodLink "RvMachineLaw" 95 y_Mo_count ∈ zW := zt_3 237 rfl rfl
theorem ca_ISE : Cond.castable "java/lang/IllegalStateException" "java/lang/IllegalStateException" ∈ zW := zt_1 162 rfl rfl
theorem ca_IOB : Cond.castable "java/lang/IndexOutOfBoundsException" "java/lang/IndexOutOfBoundsException" ∈ zW := zt_2 13 rfl rfl
theorem ca_IAE : Cond.castable "java/lang/IllegalArgumentException" "java/lang/IllegalArgumentException" ∈ zW := zt_2 54 rfl rfl
abbrev b_La_law : ByteArray := code

/-! decode rows -/
theorem d_La_word_0 : decode b_La_word 0 = .ok (.aload_n 2, 1) := by decide +kernel
theorem d_La_word_1 : decode b_La_word 1 = .ok (.iconst 0, 1) := by decide +kernel
theorem d_La_word_2 : decode b_La_word 2 = .ok (.aload_n 0, 1) := by decide +kernel
theorem d_La_word_3 : decode b_La_word 3 = .ok (.iload_n 1, 1) := by decide +kernel
theorem d_La_word_4 : decode b_La_word 4 = .ok (.invokevirtual 7, 3) := by decide +kernel
theorem d_La_word_7 : decode b_La_word 7 = .ok (.i2l, 1) := by decide +kernel
theorem d_La_word_8 : decode b_La_word 8 = .ok (.lastore, 1) := by decide +kernel
theorem d_La_word_9 : decode b_La_word 9 = .ok (.goto 6, 3) := by decide +kernel
theorem d_La_word_12 : decode b_La_word 12 = .ok (.astore_n 3, 1) := by decide +kernel
theorem d_La_word_13 : decode b_La_word 13 = .ok (.iconst 1, 1) := by decide +kernel
theorem d_La_word_14 : decode b_La_word 14 = .ok (.ireturn, 1) := by decide +kernel
theorem d_La_word_15 : decode b_La_word 15 = .ok (.iconst 0, 1) := by decide +kernel
theorem d_La_word_16 : decode b_La_word 16 = .ok (.ireturn, 1) := by decide +kernel
theorem d_La_change_0 : decode b_La_change 0 = .ok (.aload_n 3, 1) := by decide +kernel
theorem d_La_change_1 : decode b_La_change 1 = .ok (.iconst 0, 1) := by decide +kernel
theorem d_La_change_2 : decode b_La_change 2 = .ok (.aload_n 0, 1) := by decide +kernel
theorem d_La_change_3 : decode b_La_change 3 = .ok (.iload_n 1, 1) := by decide +kernel
theorem d_La_change_4 : decode b_La_change 4 = .ok (.iload_n 2, 1) := by decide +kernel
theorem d_La_change_5 : decode b_La_change 5 = .ok (.invokevirtual 15, 3) := by decide +kernel
theorem d_La_change_8 : decode b_La_change 8 = .ok (.i2l, 1) := by decide +kernel
theorem d_La_change_9 : decode b_La_change 9 = .ok (.lastore, 1) := by decide +kernel
theorem d_La_change_10 : decode b_La_change 10 = .ok (.goto 7, 3) := by decide +kernel
theorem d_La_change_13 : decode b_La_change 13 = .ok (.astore 4, 2) := by decide +kernel
theorem d_La_change_15 : decode b_La_change 15 = .ok (.iconst 1, 1) := by decide +kernel
theorem d_La_change_16 : decode b_La_change 16 = .ok (.ireturn, 1) := by decide +kernel
theorem d_La_change_17 : decode b_La_change 17 = .ok (.iconst 0, 1) := by decide +kernel
theorem d_La_change_18 : decode b_La_change 18 = .ok (.ireturn, 1) := by decide +kernel
theorem d_La_begin_0 : decode b_La_begin 0 = .ok (.aload_n 0, 1) := by decide +kernel
theorem d_La_begin_1 : decode b_La_begin 1 = .ok (.iload_n 1, 1) := by decide +kernel
theorem d_La_begin_2 : decode b_La_begin 2 = .ok (.invokevirtual 21, 3) := by decide +kernel
theorem d_La_begin_5 : decode b_La_begin 5 = .ok (.goto 6, 3) := by decide +kernel
theorem d_La_begin_8 : decode b_La_begin 8 = .ok (.astore_n 2, 1) := by decide +kernel
theorem d_La_begin_9 : decode b_La_begin 9 = .ok (.iconst 1, 1) := by decide +kernel
theorem d_La_begin_10 : decode b_La_begin 10 = .ok (.ireturn, 1) := by decide +kernel
theorem d_La_begin_11 : decode b_La_begin 11 = .ok (.iconst 0, 1) := by decide +kernel
theorem d_La_begin_12 : decode b_La_begin 12 = .ok (.ireturn, 1) := by decide +kernel
theorem d_La_run_0 : decode b_La_run 0 = .ok (.aload_n 2, 1) := by decide +kernel
theorem d_La_run_1 : decode b_La_run 1 = .ok (.iconst 0, 1) := by decide +kernel
theorem d_La_run_2 : decode b_La_run 2 = .ok (.aload_n 0, 1) := by decide +kernel
theorem d_La_run_3 : decode b_La_run 3 = .ok (.iload_n 1, 1) := by decide +kernel
theorem d_La_run_4 : decode b_La_run 4 = .ok (.invokevirtual 25, 3) := by decide +kernel
theorem d_La_run_7 : decode b_La_run 7 = .ok (.i2l, 1) := by decide +kernel
theorem d_La_run_8 : decode b_La_run 8 = .ok (.lastore, 1) := by decide +kernel
theorem d_La_run_9 : decode b_La_run 9 = .ok (.goto 9, 3) := by decide +kernel
theorem d_La_run_12 : decode b_La_run 12 = .ok (.astore_n 3, 1) := by decide +kernel
theorem d_La_run_13 : decode b_La_run 13 = .ok (.iconst 1, 1) := by decide +kernel
theorem d_La_run_14 : decode b_La_run 14 = .ok (.ireturn, 1) := by decide +kernel
theorem d_La_run_15 : decode b_La_run 15 = .ok (.astore_n 3, 1) := by decide +kernel
theorem d_La_run_16 : decode b_La_run 16 = .ok (.iconst 2, 1) := by decide +kernel
theorem d_La_run_17 : decode b_La_run 17 = .ok (.ireturn, 1) := by decide +kernel
theorem d_La_run_18 : decode b_La_run 18 = .ok (.iconst 0, 1) := by decide +kernel
theorem d_La_run_19 : decode b_La_run 19 = .ok (.ireturn, 1) := by decide +kernel
theorem d_La_register_0 : decode b_La_register 0 = .ok (.aload_n 2, 1) := by decide +kernel
theorem d_La_register_1 : decode b_La_register 1 = .ok (.iconst 0, 1) := by decide +kernel
theorem d_La_register_2 : decode b_La_register 2 = .ok (.aload_n 0, 1) := by decide +kernel
theorem d_La_register_3 : decode b_La_register 3 = .ok (.iload_n 1, 1) := by decide +kernel
theorem d_La_register_4 : decode b_La_register 4 = .ok (.invokevirtual 30, 3) := by decide +kernel
theorem d_La_register_7 : decode b_La_register 7 = .ok (.i2l, 1) := by decide +kernel
theorem d_La_register_8 : decode b_La_register 8 = .ok (.lastore, 1) := by decide +kernel
theorem d_La_register_9 : decode b_La_register 9 = .ok (.goto 6, 3) := by decide +kernel
theorem d_La_register_12 : decode b_La_register 12 = .ok (.astore_n 3, 1) := by decide +kernel
theorem d_La_register_13 : decode b_La_register 13 = .ok (.iconst 1, 1) := by decide +kernel
theorem d_La_register_14 : decode b_La_register 14 = .ok (.ireturn, 1) := by decide +kernel
theorem d_La_register_15 : decode b_La_register 15 = .ok (.iconst 0, 1) := by decide +kernel
theorem d_La_register_16 : decode b_La_register 16 = .ok (.ireturn, 1) := by decide +kernel
theorem d_La_set_0 : decode b_La_set 0 = .ok (.aload_n 3, 1) := by decide +kernel
theorem d_La_set_1 : decode b_La_set 1 = .ok (.iconst 0, 1) := by decide +kernel
theorem d_La_set_2 : decode b_La_set 2 = .ok (.aload_n 0, 1) := by decide +kernel
theorem d_La_set_3 : decode b_La_set 3 = .ok (.iload_n 1, 1) := by decide +kernel
theorem d_La_set_4 : decode b_La_set 4 = .ok (.iload_n 2, 1) := by decide +kernel
theorem d_La_set_5 : decode b_La_set 5 = .ok (.invokevirtual 33, 3) := by decide +kernel
theorem d_La_set_8 : decode b_La_set 8 = .ok (.i2l, 1) := by decide +kernel
theorem d_La_set_9 : decode b_La_set 9 = .ok (.lastore, 1) := by decide +kernel
theorem d_La_set_10 : decode b_La_set 10 = .ok (.goto 7, 3) := by decide +kernel
theorem d_La_set_13 : decode b_La_set 13 = .ok (.astore 4, 2) := by decide +kernel
theorem d_La_set_15 : decode b_La_set 15 = .ok (.iconst 1, 1) := by decide +kernel
theorem d_La_set_16 : decode b_La_set 16 = .ok (.ireturn, 1) := by decide +kernel
theorem d_La_set_17 : decode b_La_set 17 = .ok (.iconst 0, 1) := by decide +kernel
theorem d_La_set_18 : decode b_La_set 18 = .ok (.ireturn, 1) := by decide +kernel
theorem d_La_input_0 : decode b_La_input 0 = .ok (.aload 4, 2) := by decide +kernel
theorem d_La_input_2 : decode b_La_input 2 = .ok (.iconst 0, 1) := by decide +kernel
theorem d_La_input_3 : decode b_La_input 3 = .ok (.aload_n 0, 1) := by decide +kernel
theorem d_La_input_4 : decode b_La_input 4 = .ok (.lload_n 1, 1) := by decide +kernel
theorem d_La_input_5 : decode b_La_input 5 = .ok (.iload_n 3, 1) := by decide +kernel
theorem d_La_input_6 : decode b_La_input 6 = .ok (.invokevirtual 36, 3) := by decide +kernel
theorem d_La_input_9 : decode b_La_input 9 = .ok (.i2l, 1) := by decide +kernel
theorem d_La_input_10 : decode b_La_input 10 = .ok (.lastore, 1) := by decide +kernel
theorem d_La_input_11 : decode b_La_input 11 = .ok (.goto 11, 3) := by decide +kernel
theorem d_La_input_14 : decode b_La_input 14 = .ok (.astore 5, 2) := by decide +kernel
theorem d_La_input_16 : decode b_La_input 16 = .ok (.iconst 1, 1) := by decide +kernel
theorem d_La_input_17 : decode b_La_input 17 = .ok (.ireturn, 1) := by decide +kernel
theorem d_La_input_18 : decode b_La_input 18 = .ok (.astore 5, 2) := by decide +kernel
theorem d_La_input_20 : decode b_La_input 20 = .ok (.iconst 2, 1) := by decide +kernel
theorem d_La_input_21 : decode b_La_input 21 = .ok (.ireturn, 1) := by decide +kernel
theorem d_La_input_22 : decode b_La_input 22 = .ok (.iconst 0, 1) := by decide +kernel
theorem d_La_input_23 : decode b_La_input 23 = .ok (.ireturn, 1) := by decide +kernel
theorem d_La_count_0 : decode b_La_count 0 = .ok (.aload_n 2, 1) := by decide +kernel
theorem d_La_count_1 : decode b_La_count 1 = .ok (.iconst 0, 1) := by decide +kernel
theorem d_La_count_2 : decode b_La_count 2 = .ok (.aload_n 0, 1) := by decide +kernel
theorem d_La_count_3 : decode b_La_count 3 = .ok (.iload_n 1, 1) := by decide +kernel
theorem d_La_count_4 : decode b_La_count 4 = .ok (.invokevirtual 40, 3) := by decide +kernel
theorem d_La_count_7 : decode b_La_count 7 = .ok (.i2l, 1) := by decide +kernel
theorem d_La_count_8 : decode b_La_count 8 = .ok (.lastore, 1) := by decide +kernel
theorem d_La_count_9 : decode b_La_count 9 = .ok (.goto 6, 3) := by decide +kernel
theorem d_La_count_12 : decode b_La_count 12 = .ok (.astore_n 3, 1) := by decide +kernel
theorem d_La_count_13 : decode b_La_count 13 = .ok (.iconst 1, 1) := by decide +kernel
theorem d_La_count_14 : decode b_La_count 14 = .ok (.ireturn, 1) := by decide +kernel
theorem d_La_count_15 : decode b_La_count 15 = .ok (.iconst 0, 1) := by decide +kernel
theorem d_La_count_16 : decode b_La_count 16 = .ok (.ireturn, 1) := by decide +kernel

set_option maxHeartbeats 4000000 in
theorem h_La_word_n (l : Launch) (D : va_G) (cI cB cJ : ClassId) (sz : Nat) (x : Nat) (p0 : Int32) (ou : Nat) (wa : Nat) (wn1 : Nat) (ra : Nat) (ma : Nat) (ua : Nat) (oa : Nat) (ph : Int32) (dn : Int32) (nx : Int32) (fo : Int32) (wl : Nat) (wf : Nat → Int32) (uo : Nat → Int64) (hwn : wn1 < 4000) (hwl : wn1 ≤ wl) (hwl4 : wl ≤ 4000) (hwz : ∀ j, wn1 ≤ j → wf j = 0) : zMet l y_La_word (zWH y_La_word b_La_word 4 (some .int) [(0, 9, 12, 13)]) { frames := 7, cells := wkc wl (wn1 + 1), slots := wks wl (wn1 + 1) 4000, locals := 131 } (hPc D (zT cI cB cJ) sz [(x, .inr (0, [.ref wa, .int (nI wn1), .ref ra, .ref ma, .ref ua, .ref oa, .int ph, .int dn, .int nx, .int fo])), (wa, .inl (cI, wl, .inl (wf))), (ou, .inl (cJ, 1, .inr (.inl (uo))))] [.ref x, .int p0, .ref ou]) (zQi D (va_A [(x, .inr (0, [.ref wa, .int (nI wn1), .ref ra, .ref ma, .ref ua, .ref oa, .int ph, .int dn, .int nx, .int fo])), (wa, .inl (cI, wl, .inl (wf))), (ou, .inl (cJ, 1, .inr (.inl (uo))))] sz) (fun r (U : Nat) => r = 0) (fun _ => (wkc wl (wn1 + 1), wks wl (wn1 + 1) 4000)) (fun (U : Nat) => [(x, .inr (0, [.ref U, .int (nI (wn1 + 1)), .ref ra, .ref ma, .ref ua, .ref oa, .int ph, .int dn, .int nx, .int fo])), (U, .inl (cI, (wdl wl (wn1 + 1) 4000), .inl (upd wf wn1 p0))), (ou, .inl (cJ, 1, .inr (.inl (vp_updL uo 0 (((nI (wn1 + 1)) : Int32).toInt64)))))])) (va_A [(x, .inr (0, [.ref wa, .int (nI wn1), .ref ra, .ref ma, .ref ua, .ref oa, .int ph, .int dn, .int nx, .int fo])), (wa, .inl (cI, wl, .inl (wf))), (ou, .inl (cJ, 1, .inr (.inl (uo))))] sz) := by
  refine zstartH (Qc := fun A => zQi D A (fun r (U : Nat) => r = 0) (fun _ => (wkc wl (wn1 + 1), wks wl (wn1 + 1) 4000)) (fun (U : Nat) => [(x, .inr (0, [.ref U, .int (nI (wn1 + 1)), .ref ra, .ref ma, .ref ua, .ref oa, .int ph, .int dn, .int nx, .int fo])), (U, .inl (cI, (wdl wl (wn1 + 1) 4000), .inl (upd wf wn1 p0))), (ou, .inl (cJ, 1, .inr (.inl (vp_updL uo 0 (((nI (wn1 + 1)) : Int32).toInt64)))))])) (by decide) (Nat.le_of_ble_eq_true rfl) ?_
  intro p e s m below meth c ls A hE hr hlocks hin htab hst hsz hK hP hD hS hA hAe hl
  have hx := hE.1
  have hb := hE.2.1
  have hown := hE.2.2.2.1
  have hw := hE.2.2.2.2
  have hl : lv_has ls 4 [(0, .ref x), (1, .int p0), (2, .ref ou)] := hl
  refine lv_aload_n hx hb d_La_word_0 rfl (lv_at hl 2 rfl) ?_
  refine lv_iconst (v := 0) hx hb d_La_word_1 (by decide) ?_
  refine lv_aload_n hx hb d_La_word_2 rfl (lv_at hl 0 rfl) ?_
  refine lv_iload_n hx hb d_La_word_3 rfl (lv_at hl 1 rfl) ?_
  refine zgoi (wr := [(ou, .inl (cJ, 1, .inr (.inl (uo))))]) (zrunV (n := 1) (As := [.int p0]) (rest := [.int 0, .ref ou]) hE (c_Rv_word l D cI cB cJ _ p0 x wa wn1 ra ma ua oa ph dn nx fo wl wf hwn hwl hwl4 hwz) cb_Rv_word lk_La_7 in_Rv_word se_Rv_word (zpreV (q0 := 0) hK hP hD rfl rfl rfl [0, 1] rfl rfl rfl) ⟨Nat.le_of_ble_eq_true rfl, Nat.le_of_ble_eq_true rfl, Nat.le_of_eq (Nat.zero_add _), Nat.le_of_eq (Nat.zero_add _)⟩ rfl hl.1 rfl (Nat.le_of_ble_eq_true rfl) d_La_word_4) hP hD hS hA [0, 1] [2] rfl rfl rfl (by decide) (fun r2 u3 H locs hq1 hP hD hS => ?_)
  subst hq1
  have hP : va_P D zC [(ou, .inl (cJ, 1, .inr (.inl (uo)))), (x, .inr (0, [.ref u3, .int (nI (wn1 + 1)), .ref ra, .ref ma, .ref ua, .ref oa, .int ph, .int dn, .int nx, .int fo])), (u3, .inl (cI, (wdl wl (wn1 + 1) 4000), .inl (upd wf wn1 p0)))] _ := hP
  have hD : va_D A [(ou, .inl (cJ, 1, .inr (.inl (uo)))), (x, .inr (0, [.ref u3, .int (nI (wn1 + 1)), .ref ra, .ref ma, .ref ua, .ref oa, .int ph, .int dn, .int nx, .int fo])), (u3, .inl (cI, (wdl wl (wn1 + 1) 4000), .inl (upd wf wn1 p0)))] := hD
  refine lv_i2l (v := ((nI (wn1 + 1)) : Int32).toInt64) hx hb d_La_word_7 rfl ?_
  refine va_last hx hb hK hP hD hS 0 2 rfl rfl (by unfold vp_in; decide) d_La_word_8 (fun H locs hP hD hS => ?_)
  have hP : va_P D zC [(ou, .inl (cJ, 1, .inr (.inl (vp_updL uo 0 (((nI (wn1 + 1)) : Int32).toInt64))))), (x, .inr (0, [.ref u3, .int (nI (wn1 + 1)), .ref ra, .ref ma, .ref ua, .ref oa, .int ph, .int dn, .int nx, .int fo])), (u3, .inl (cI, (wdl wl (wn1 + 1) 4000), .inl (upd wf wn1 p0)))] _ := hP
  have hD : va_D A [(ou, .inl (cJ, 1, .inr (.inl (vp_updL uo 0 (((nI (wn1 + 1)) : Int32).toInt64))))), (x, .inr (0, [.ref u3, .int (nI (wn1 + 1)), .ref ra, .ref ma, .ref ua, .ref oa, .int ph, .int dn, .int nx, .int fo])), (u3, .inl (cI, (wdl wl (wn1 + 1) 4000), .inl (upd wf wn1 p0)))] := hD
  refine lv_goto (tgt := 15) hx hb d_La_word_9 (by decide) ?_
  refine lv_iconst (v := 0) hx hb d_La_word_15 (by decide) ?_
  have hP9 := hP.sub (ws' := [(x, .inr (0, [.ref u3, .int (nI (wn1 + 1)), .ref ra, .ref ma, .ref ua, .ref oa, .int ph, .int dn, .int nx, .int fo])), (u3, .inl (cI, (wdl wl (wn1 + 1) 4000), .inl (upd wf wn1 p0))), (ou, .inl (cJ, 1, .inr (.inl (vp_updL uo 0 (((nI (wn1 + 1)) : Int32).toInt64)))))]) [1, 2, 0] rfl
  have hD9 := hD.sub (ws' := [(x, .inr (0, [.ref u3, .int (nI (wn1 + 1)), .ref ra, .ref ma, .ref ua, .ref oa, .int ph, .int dn, .int nx, .int fo])), (u3, .inl (cI, (wdl wl (wn1 + 1) 4000), .inl (upd wf wn1 p0))), (ou, .inl (cJ, 1, .inr (.inl (vp_updL uo 0 (((nI (wn1 + 1)) : Int32).toInt64)))))]) [1, 2, 0] rfl rfl
  exact zreti hx hb hr rfl hlocks hS u3 rfl (Prod.ext (Nat.zero_add _).symm (Nat.zero_add _).symm) hP9 hD9 d_La_word_16

set_option maxHeartbeats 4000000 in
theorem h_La_change_n (l : Launch) (D : va_G) (cI cB cJ : ClassId) (sz : Nat) (x : Nat) (p0 : Int32) (p1 : Int32) (ou : Nat) (wa : Nat) (wn1 : Nat) (ra : Nat) (ma : Nat) (ua : Nat) (oa : Nat) (ph : Int32) (dn : Int32) (nx : Int32) (fo : Int32) (wl : Nat) (wf : Nat → Int32) (uo : Nat → Int64) (hk : 0 ≤ p0.toInt ∧ p0.toInt < (nI wn1).toInt) (hwl : (nI wn1).toInt ≤ wl) : zMet l y_La_change (zWH y_La_change b_La_change 5 (some .int) [(0, 10, 13, 19)]) { frames := 7, cells := 0, slots := 0, locals := 133 } (hPc D (zT cI cB cJ) sz [(x, .inr (0, [.ref wa, .int (nI wn1), .ref ra, .ref ma, .ref ua, .ref oa, .int ph, .int dn, .int nx, .int fo])), (wa, .inl (cI, wl, .inl (wf))), (ou, .inl (cJ, 1, .inr (.inl (uo))))] [.ref x, .int p0, .int p1, .ref ou]) (zQi D (va_A [(x, .inr (0, [.ref wa, .int (nI wn1), .ref ra, .ref ma, .ref ua, .ref oa, .int ph, .int dn, .int nx, .int fo])), (wa, .inl (cI, wl, .inl (wf))), (ou, .inl (cJ, 1, .inr (.inl (uo))))] sz) (fun r (_ : Unit) => r = 0) (z0) (fun _ => [(x, .inr (0, [.ref wa, .int (nI wn1), .ref ra, .ref ma, .ref ua, .ref oa, .int ph, .int dn, .int nx, .int fo])), (wa, .inl (cI, wl, .inl ((sp_Rv_change p0 p1 wf).2))), (ou, .inl (cJ, 1, .inr (.inl (vp_updL uo 0 (((sp_Rv_change p0 p1 wf).1 : Int32).toInt64)))))])) (va_A [(x, .inr (0, [.ref wa, .int (nI wn1), .ref ra, .ref ma, .ref ua, .ref oa, .int ph, .int dn, .int nx, .int fo])), (wa, .inl (cI, wl, .inl (wf))), (ou, .inl (cJ, 1, .inr (.inl (uo))))] sz) := by
  refine zstartH (Qc := fun A => zQi D A (fun r (_ : Unit) => r = 0) (z0) (fun _ => [(x, .inr (0, [.ref wa, .int (nI wn1), .ref ra, .ref ma, .ref ua, .ref oa, .int ph, .int dn, .int nx, .int fo])), (wa, .inl (cI, wl, .inl ((sp_Rv_change p0 p1 wf).2))), (ou, .inl (cJ, 1, .inr (.inl (vp_updL uo 0 (((sp_Rv_change p0 p1 wf).1 : Int32).toInt64)))))])) (by decide) (Nat.le_of_ble_eq_true rfl) ?_
  intro p e s m below meth c ls A hE hr hlocks hin htab hst hsz hK hP hD hS hA hAe hl
  have hx := hE.1
  have hb := hE.2.1
  have hown := hE.2.2.2.1
  have hw := hE.2.2.2.2
  have hl : lv_has ls 5 [(0, .ref x), (1, .int p0), (2, .int p1), (3, .ref ou)] := hl
  refine lv_aload_n hx hb d_La_change_0 rfl (lv_at hl 3 rfl) ?_
  refine lv_iconst (v := 0) hx hb d_La_change_1 (by decide) ?_
  refine lv_aload_n hx hb d_La_change_2 rfl (lv_at hl 0 rfl) ?_
  refine lv_iload_n hx hb d_La_change_3 rfl (lv_at hl 1 rfl) ?_
  refine lv_iload_n hx hb d_La_change_4 rfl (lv_at hl 2 rfl) ?_
  refine zgoi (wr := [(ou, .inl (cJ, 1, .inr (.inl (uo))))]) (zrunV (n := 2) (As := [.int p0, .int p1]) (rest := [.int 0, .ref ou]) hE (c_Rv_change l D cI cB cJ _ p0 p1 x wa (nI wn1) ra ma ua oa ph dn nx fo wl wf hk hwl) cb_Rv_change lk_La_15 in_Rv_change se_Rv_change (zpreV (q0 := 0) hK hP hD rfl rfl rfl [0, 1] rfl rfl rfl) ⟨Nat.le_of_ble_eq_true rfl, Nat.le_of_ble_eq_true rfl, Nat.le_of_ble_eq_true rfl, Nat.le_of_ble_eq_true rfl⟩ rfl hl.1 rfl (Nat.le_of_ble_eq_true rfl) d_La_change_5) hP hD hS hA [0, 1] [2] rfl rfl rfl (by decide) (fun r2 u3 H locs hq1 hP hD hS => ?_)
  subst hq1
  have hP : va_P D zC [(ou, .inl (cJ, 1, .inr (.inl (uo)))), (x, .inr (0, [.ref wa, .int (nI wn1), .ref ra, .ref ma, .ref ua, .ref oa, .int ph, .int dn, .int nx, .int fo])), (wa, .inl (cI, wl, .inl ((sp_Rv_change p0 p1 wf).2)))] _ := hP
  have hD : va_D A [(ou, .inl (cJ, 1, .inr (.inl (uo)))), (x, .inr (0, [.ref wa, .int (nI wn1), .ref ra, .ref ma, .ref ua, .ref oa, .int ph, .int dn, .int nx, .int fo])), (wa, .inl (cI, wl, .inl ((sp_Rv_change p0 p1 wf).2)))] := hD
  refine lv_i2l (v := ((sp_Rv_change p0 p1 wf).1 : Int32).toInt64) hx hb d_La_change_8 rfl ?_
  refine va_last hx hb hK hP hD hS 0 2 rfl rfl (by unfold vp_in; decide) d_La_change_9 (fun H locs hP hD hS => ?_)
  have hP : va_P D zC [(ou, .inl (cJ, 1, .inr (.inl (vp_updL uo 0 (((sp_Rv_change p0 p1 wf).1 : Int32).toInt64))))), (x, .inr (0, [.ref wa, .int (nI wn1), .ref ra, .ref ma, .ref ua, .ref oa, .int ph, .int dn, .int nx, .int fo])), (wa, .inl (cI, wl, .inl ((sp_Rv_change p0 p1 wf).2)))] _ := hP
  have hD : va_D A [(ou, .inl (cJ, 1, .inr (.inl (vp_updL uo 0 (((sp_Rv_change p0 p1 wf).1 : Int32).toInt64))))), (x, .inr (0, [.ref wa, .int (nI wn1), .ref ra, .ref ma, .ref ua, .ref oa, .int ph, .int dn, .int nx, .int fo])), (wa, .inl (cI, wl, .inl ((sp_Rv_change p0 p1 wf).2)))] := hD
  refine lv_goto (tgt := 17) hx hb d_La_change_10 (by decide) ?_
  refine lv_iconst (v := 0) hx hb d_La_change_17 (by decide) ?_
  have hP9 := hP.sub (ws' := [(x, .inr (0, [.ref wa, .int (nI wn1), .ref ra, .ref ma, .ref ua, .ref oa, .int ph, .int dn, .int nx, .int fo])), (wa, .inl (cI, wl, .inl ((sp_Rv_change p0 p1 wf).2))), (ou, .inl (cJ, 1, .inr (.inl (vp_updL uo 0 (((sp_Rv_change p0 p1 wf).1 : Int32).toInt64)))))]) [1, 2, 0] rfl
  have hD9 := hD.sub (ws' := [(x, .inr (0, [.ref wa, .int (nI wn1), .ref ra, .ref ma, .ref ua, .ref oa, .int ph, .int dn, .int nx, .int fo])), (wa, .inl (cI, wl, .inl ((sp_Rv_change p0 p1 wf).2))), (ou, .inl (cJ, 1, .inr (.inl (vp_updL uo 0 (((sp_Rv_change p0 p1 wf).1 : Int32).toInt64)))))]) [1, 2, 0] rfl rfl
  exact zreti hx hb hr rfl hlocks hS () rfl rfl hP9 hD9 d_La_change_18

set_option maxHeartbeats 4000000 in
theorem h_La_begin_n (l : Launch) (D : va_G) (cI cB cJ : ClassId) (sz : Nat) (x : Nat) (p0 : Int32) (wa : Nat) (wn1 : Nat) (ra : Nat) (ma : Nat) (ua : Nat) (oa : Nat) (ph : Int32) (dn : Int32) (nx : Int32) (fo : Int32) (rg : Nat → Int32) (md : Nat) (bt : Nat) (lo : Nat) (nl : Nat) (sa : Nat) (ta : Nat) (fa : Nat) (pa : Nat) (pe : Nat) (ba : Nat) (orr : Nat) (oi : Nat) (oh : Nat) (hk : 0 ≤ p0.toInt ∧ p0.toInt < (nI wn1).toInt) : zMet l y_La_begin (zWH y_La_begin b_La_begin 3 (some .int) [(0, 5, 8, 19)]) { frames := 7, cells := 0, slots := 0, locals := 131 } (hPc D (zT cI cB cJ) sz [(x, .inr (0, [.ref wa, .int (nI wn1), .ref ra, .ref ma, .ref ua, .ref oa, .int ph, .int dn, .int nx, .int fo])), (ra, .inl (cI, 32, .inl (rg))), (ma, .inr (1, [.int (nI md), .int (nI bt), .int (nI lo), .int (nI nl), .ref sa, .ref ta, .ref fa, .ref pa, .int (nI pe), .ref ba])), (oa, .inr (2, [.ref orr, .int (nI oi), .int (nI oh)]))] [.ref x, .int p0]) (zQi D (va_A [(x, .inr (0, [.ref wa, .int (nI wn1), .ref ra, .ref ma, .ref ua, .ref oa, .int ph, .int dn, .int nx, .int fo])), (ra, .inl (cI, 32, .inl (rg))), (ma, .inr (1, [.int (nI md), .int (nI bt), .int (nI lo), .int (nI nl), .ref sa, .ref ta, .ref fa, .ref pa, .int (nI pe), .ref ba])), (oa, .inr (2, [.ref orr, .int (nI oi), .int (nI oh)]))] sz) (fun r (_ : Unit) => r = 0) (z0) (fun _ => [(x, .inr (0, [.ref wa, .int (nI wn1), .ref ra, .ref ma, .ref ua, .ref oa, .int 1, .int 0, .int (4 * p0), .int fo])), (ra, .inl (cI, 32, .inl (fun _ => 0))), (ma, .inr (1, [.int (nI 0), .int (nI 0), .int (nI 0), .int (nI 0), .ref sa, .ref ta, .ref fa, .ref pa, .int (nI 0), .ref ba])), (oa, .inr (2, [.ref orr, .int (nI 0), .int (nI 0)]))])) (va_A [(x, .inr (0, [.ref wa, .int (nI wn1), .ref ra, .ref ma, .ref ua, .ref oa, .int ph, .int dn, .int nx, .int fo])), (ra, .inl (cI, 32, .inl (rg))), (ma, .inr (1, [.int (nI md), .int (nI bt), .int (nI lo), .int (nI nl), .ref sa, .ref ta, .ref fa, .ref pa, .int (nI pe), .ref ba])), (oa, .inr (2, [.ref orr, .int (nI oi), .int (nI oh)]))] sz) := by
  refine zstartH (Qc := fun A => zQi D A (fun r (_ : Unit) => r = 0) (z0) (fun _ => [(x, .inr (0, [.ref wa, .int (nI wn1), .ref ra, .ref ma, .ref ua, .ref oa, .int 1, .int 0, .int (4 * p0), .int fo])), (ra, .inl (cI, 32, .inl (fun _ => 0))), (ma, .inr (1, [.int (nI 0), .int (nI 0), .int (nI 0), .int (nI 0), .ref sa, .ref ta, .ref fa, .ref pa, .int (nI 0), .ref ba])), (oa, .inr (2, [.ref orr, .int (nI 0), .int (nI 0)]))])) (by decide) (Nat.le_of_ble_eq_true rfl) ?_
  intro p e s m below meth c ls A hE hr hlocks hin htab hst hsz hK hP hD hS hA hAe hl
  have hx := hE.1
  have hb := hE.2.1
  have hown := hE.2.2.2.1
  have hw := hE.2.2.2.2
  have hl : lv_has ls 3 [(0, .ref x), (1, .int p0)] := hl
  refine lv_aload_n hx hb d_La_begin_0 rfl (lv_at hl 0 rfl) ?_
  refine lv_iload_n hx hb d_La_begin_1 rfl (lv_at hl 1 rfl) ?_
  refine zgov (wr := []) (zrunV (n := 1) (As := [.int p0]) (rest := []) hE (c_Rv_begin l D cI cB cJ _ p0 x wa (nI wn1) ra ma ua oa ph dn nx fo rg md bt lo nl sa ta fa pa pe ba orr oi oh hk) cb_Rv_begin lk_La_21 in_Rv_begin se_Rv_begin (zpreV (q0 := 0) hK hP hD rfl rfl rfl [0, 1, 2, 3] rfl rfl rfl) ⟨Nat.le_of_ble_eq_true rfl, Nat.le_of_ble_eq_true rfl, Nat.le_of_ble_eq_true rfl, Nat.le_of_ble_eq_true rfl⟩ rfl hl.1 rfl (Nat.le_of_ble_eq_true rfl) d_La_begin_2) hP hD hS hA [0, 1, 2, 3] [] rfl rfl rfl (by decide) (fun u3 H locs hq1 hP hD hS => ?_)
  clear hq1
  have hP : va_P D zC [(x, .inr (0, [.ref wa, .int (nI wn1), .ref ra, .ref ma, .ref ua, .ref oa, .int 1, .int 0, .int (4 * p0), .int fo])), (ra, .inl (cI, 32, .inl (fun _ => 0))), (ma, .inr (1, [.int (nI 0), .int (nI 0), .int (nI 0), .int (nI 0), .ref sa, .ref ta, .ref fa, .ref pa, .int (nI 0), .ref ba])), (oa, .inr (2, [.ref orr, .int (nI 0), .int (nI 0)]))] _ := hP
  have hD : va_D A [(x, .inr (0, [.ref wa, .int (nI wn1), .ref ra, .ref ma, .ref ua, .ref oa, .int 1, .int 0, .int (4 * p0), .int fo])), (ra, .inl (cI, 32, .inl (fun _ => 0))), (ma, .inr (1, [.int (nI 0), .int (nI 0), .int (nI 0), .int (nI 0), .ref sa, .ref ta, .ref fa, .ref pa, .int (nI 0), .ref ba])), (oa, .inr (2, [.ref orr, .int (nI 0), .int (nI 0)]))] := hD
  refine lv_goto (tgt := 11) hx hb d_La_begin_5 (by decide) ?_
  refine lv_iconst (v := 0) hx hb d_La_begin_11 (by decide) ?_
  have hP9 := hP.sub (ws' := [(x, .inr (0, [.ref wa, .int (nI wn1), .ref ra, .ref ma, .ref ua, .ref oa, .int 1, .int 0, .int (4 * p0), .int fo])), (ra, .inl (cI, 32, .inl (fun _ => 0))), (ma, .inr (1, [.int (nI 0), .int (nI 0), .int (nI 0), .int (nI 0), .ref sa, .ref ta, .ref fa, .ref pa, .int (nI 0), .ref ba])), (oa, .inr (2, [.ref orr, .int (nI 0), .int (nI 0)]))]) [0, 1, 2, 3] rfl
  have hD9 := hD.sub (ws' := [(x, .inr (0, [.ref wa, .int (nI wn1), .ref ra, .ref ma, .ref ua, .ref oa, .int 1, .int 0, .int (4 * p0), .int fo])), (ra, .inl (cI, 32, .inl (fun _ => 0))), (ma, .inr (1, [.int (nI 0), .int (nI 0), .int (nI 0), .int (nI 0), .ref sa, .ref ta, .ref fa, .ref pa, .int (nI 0), .ref ba])), (oa, .inr (2, [.ref orr, .int (nI 0), .int (nI 0)]))]) [0, 1, 2, 3] rfl rfl
  exact zreti hx hb hr rfl hlocks hS () rfl rfl hP9 hD9 d_La_begin_12

set_option maxHeartbeats 4000000 in
theorem h_La_run_n (l : Launch) (D : va_G) (cI cB cJ : ClassId) (sz : Nat) (x : Nat) (p0 : Int32) (ou : Nat) (wa : Nat) (wn1 : Nat) (ra : Nat) (ma : Nat) (ua : Nat) (oa : Nat) (ph : Int32) (dn : Int32) (nx : Int32) (fo : Int32) (wl : Nat) (wf : Nat → Int32) (rg : Nat → Int32) (md : Nat) (bt : Nat) (lo : Nat) (nl : Nat) (sa : Nat) (ta : Nat) (fa : Nat) (pa : Nat) (pe : Nat) (ba : Nat) (rn : Nat) (sf : Nat → Int32) (tf : Nat → Int32) (uf : Nat → Int32) (pn : Nat) (pf : Nat → Int32) (ur : Nat) (ui : Nat) (uh : Nat) (uq : Nat → Int32) (orr : Nat) (oi : Nat) (oh : Nat) (oqf : Nat → Int32) (uo : Nat → Int64) (M : MM) (I : List Int32) (O : List Int32) (hR : cRep M md bt nl pe rn pn sf tf uf pf) (hlo : lo = (mLs M).length) (hr16 : 16 ≤ rn) (hI : bR 1000 I ui uh uq) (hO : bR 4096 O oi oh oqf) (hwl : (nI wn1).toInt ≤ wl) (hn : 1 ≤ p0.toInt ∧ p0.toInt ≤ 10000) (hph : ph = 1) : zMet l y_La_run (zWH y_La_run b_La_run 4 (some .int) [(0, 9, 12, 28), (0, 9, 15, 13)]) { frames := 9, cells := phP pn + 3 * phR rn, slots := 80000 * phP pn + 3 * (8001 * phR rn), locals := 234 } (hPc D (zT cI cB cJ) sz [(x, .inr (0, [.ref wa, .int (nI wn1), .ref ra, .ref ma, .ref ua, .ref oa, .int ph, .int dn, .int nx, .int fo])), (wa, .inl (cI, wl, .inl (wf))), (ra, .inl (cI, 32, .inl (rg))), (ma, .inr (1, [.int (nI md), .int (nI bt), .int (nI lo), .int (nI nl), .ref sa, .ref ta, .ref fa, .ref pa, .int (nI pe), .ref ba])), (sa, .inl (cI, rn, .inl (sf))), (ta, .inl (cI, rn, .inl (tf))), (fa, .inl (cI, rn, .inl (uf))), (pa, .inl (cB, pn, .inl (pf))), (ba, .inl (cB, 4000, .inl (fun _ => 0))), (ua, .inr (2, [.ref ur, .int (nI ui), .int (nI uh)])), (ur, .inl (cB, 1000, .inl (uq))), (oa, .inr (2, [.ref orr, .int (nI oi), .int (nI oh)])), (orr, .inl (cB, 4096, .inl (oqf))), (ou, .inl (cJ, 1, .inr (.inl (uo))))] [.ref x, .int p0, .ref ou]) (zQi D (va_A [(x, .inr (0, [.ref wa, .int (nI wn1), .ref ra, .ref ma, .ref ua, .ref oa, .int ph, .int dn, .int nx, .int fo])), (wa, .inl (cI, wl, .inl (wf))), (ra, .inl (cI, 32, .inl (rg))), (ma, .inr (1, [.int (nI md), .int (nI bt), .int (nI lo), .int (nI nl), .ref sa, .ref ta, .ref fa, .ref pa, .int (nI pe), .ref ba])), (sa, .inl (cI, rn, .inl (sf))), (ta, .inl (cI, rn, .inl (tf))), (fa, .inl (cI, rn, .inl (uf))), (pa, .inl (cB, pn, .inl (pf))), (ba, .inl (cB, 4000, .inl (fun _ => 0))), (ua, .inr (2, [.ref ur, .int (nI ui), .int (nI uh)])), (ur, .inl (cB, 1000, .inl (uq))), (oa, .inr (2, [.ref orr, .int (nI oi), .int (nI oh)])), (orr, .inl (cB, 4096, .inl (oqf))), (ou, .inl (cJ, 1, .inr (.inl (uo))))] sz) (fun r (U : (CM × (Nat × Nat × (Nat → Int32)) × (Nat × Nat × (Nat → Int32)) × (Nat × Nat))) => r = 0 ∧ cR (xRun (nI wn1) wf (zN p0) (rg, M, I, O, ph, dn, nx, fo)).2.1 U.1 ∧ bR 1000 (xRun (nI wn1) wf (zN p0) (rg, M, I, O, ph, dn, nx, fo)).2.2.1 U.2.1.1 U.2.1.2.1 U.2.1.2.2 ∧ bR 4096 (xRun (nI wn1) wf (zN p0) (rg, M, I, O, ph, dn, nx, fo)).2.2.2.1 U.2.2.1.1 U.2.2.1.2.1 U.2.2.1.2.2 ∧ U.2.2.2.1 + fuC U.1 ≤ phP pn + 3 * phR rn ∧ U.2.2.2.2 + fuS U.1 ≤ 80000 * phP pn + 3 * (8001 * phR rn)) (fun U => U.2.2.2) (fun (U : (CM × (Nat × Nat × (Nat → Int32)) × (Nat × Nat × (Nat → Int32)) × (Nat × Nat))) => [(x, .inr (0, [.ref wa, .int (nI wn1), .ref ra, .ref ma, .ref ua, .ref oa, .int (xRun (nI wn1) wf (zN p0) (rg, M, I, O, ph, dn, nx, fo)).2.2.2.2.1, .int (xRun (nI wn1) wf (zN p0) (rg, M, I, O, ph, dn, nx, fo)).2.2.2.2.2.1, .int (xRun (nI wn1) wf (zN p0) (rg, M, I, O, ph, dn, nx, fo)).2.2.2.2.2.2.1, .int (xRun (nI wn1) wf (zN p0) (rg, M, I, O, ph, dn, nx, fo)).2.2.2.2.2.2.2])), (wa, .inl (cI, wl, .inl (wf))), (ra, .inl (cI, 32, .inl ((xRun (nI wn1) wf (zN p0) (rg, M, I, O, ph, dn, nx, fo)).1))), (ma, .inr (1, [.int (nI (cMd U.1)), .int (nI (cBt U.1)), .int (nI (cLo U.1)), .int (nI (cNl U.1)), .ref (cSa U.1), .ref (cTa U.1), .ref (cFa U.1), .ref (cPa U.1), .int (nI (cPe U.1)), .ref ba])), ((cSa U.1), .inl (cI, (cRn U.1), .inl (cSf U.1))), ((cTa U.1), .inl (cI, (cRn U.1), .inl (cTf U.1))), ((cFa U.1), .inl (cI, (cRn U.1), .inl (cUf U.1))), ((cPa U.1), .inl (cB, (cPn U.1), .inl (cPf U.1))), (ba, .inl (cB, 4000, .inl (fun _ => 0))), (ua, .inr (2, [.ref ur, .int (nI U.2.1.1), .int (nI U.2.1.2.1)])), (ur, .inl (cB, 1000, .inl (U.2.1.2.2))), (oa, .inr (2, [.ref orr, .int (nI U.2.2.1.1), .int (nI U.2.2.1.2.1)])), (orr, .inl (cB, 4096, .inl (U.2.2.1.2.2))), (ou, .inl (cJ, 1, .inr (.inl (vp_updL uo 0 ((((xRun (nI wn1) wf (zN p0) (rg, M, I, O, ph, dn, nx, fo)).2.2.2.2.2.1 - dn) : Int32).toInt64)))))])) (va_A [(x, .inr (0, [.ref wa, .int (nI wn1), .ref ra, .ref ma, .ref ua, .ref oa, .int ph, .int dn, .int nx, .int fo])), (wa, .inl (cI, wl, .inl (wf))), (ra, .inl (cI, 32, .inl (rg))), (ma, .inr (1, [.int (nI md), .int (nI bt), .int (nI lo), .int (nI nl), .ref sa, .ref ta, .ref fa, .ref pa, .int (nI pe), .ref ba])), (sa, .inl (cI, rn, .inl (sf))), (ta, .inl (cI, rn, .inl (tf))), (fa, .inl (cI, rn, .inl (uf))), (pa, .inl (cB, pn, .inl (pf))), (ba, .inl (cB, 4000, .inl (fun _ => 0))), (ua, .inr (2, [.ref ur, .int (nI ui), .int (nI uh)])), (ur, .inl (cB, 1000, .inl (uq))), (oa, .inr (2, [.ref orr, .int (nI oi), .int (nI oh)])), (orr, .inl (cB, 4096, .inl (oqf))), (ou, .inl (cJ, 1, .inr (.inl (uo))))] sz) := by
  refine zstartH (Qc := fun A => zQi D A (fun r (U : (CM × (Nat × Nat × (Nat → Int32)) × (Nat × Nat × (Nat → Int32)) × (Nat × Nat))) => r = 0 ∧ cR (xRun (nI wn1) wf (zN p0) (rg, M, I, O, ph, dn, nx, fo)).2.1 U.1 ∧ bR 1000 (xRun (nI wn1) wf (zN p0) (rg, M, I, O, ph, dn, nx, fo)).2.2.1 U.2.1.1 U.2.1.2.1 U.2.1.2.2 ∧ bR 4096 (xRun (nI wn1) wf (zN p0) (rg, M, I, O, ph, dn, nx, fo)).2.2.2.1 U.2.2.1.1 U.2.2.1.2.1 U.2.2.1.2.2 ∧ U.2.2.2.1 + fuC U.1 ≤ phP pn + 3 * phR rn ∧ U.2.2.2.2 + fuS U.1 ≤ 80000 * phP pn + 3 * (8001 * phR rn)) (fun U => U.2.2.2) (fun (U : (CM × (Nat × Nat × (Nat → Int32)) × (Nat × Nat × (Nat → Int32)) × (Nat × Nat))) => [(x, .inr (0, [.ref wa, .int (nI wn1), .ref ra, .ref ma, .ref ua, .ref oa, .int (xRun (nI wn1) wf (zN p0) (rg, M, I, O, ph, dn, nx, fo)).2.2.2.2.1, .int (xRun (nI wn1) wf (zN p0) (rg, M, I, O, ph, dn, nx, fo)).2.2.2.2.2.1, .int (xRun (nI wn1) wf (zN p0) (rg, M, I, O, ph, dn, nx, fo)).2.2.2.2.2.2.1, .int (xRun (nI wn1) wf (zN p0) (rg, M, I, O, ph, dn, nx, fo)).2.2.2.2.2.2.2])), (wa, .inl (cI, wl, .inl (wf))), (ra, .inl (cI, 32, .inl ((xRun (nI wn1) wf (zN p0) (rg, M, I, O, ph, dn, nx, fo)).1))), (ma, .inr (1, [.int (nI (cMd U.1)), .int (nI (cBt U.1)), .int (nI (cLo U.1)), .int (nI (cNl U.1)), .ref (cSa U.1), .ref (cTa U.1), .ref (cFa U.1), .ref (cPa U.1), .int (nI (cPe U.1)), .ref ba])), ((cSa U.1), .inl (cI, (cRn U.1), .inl (cSf U.1))), ((cTa U.1), .inl (cI, (cRn U.1), .inl (cTf U.1))), ((cFa U.1), .inl (cI, (cRn U.1), .inl (cUf U.1))), ((cPa U.1), .inl (cB, (cPn U.1), .inl (cPf U.1))), (ba, .inl (cB, 4000, .inl (fun _ => 0))), (ua, .inr (2, [.ref ur, .int (nI U.2.1.1), .int (nI U.2.1.2.1)])), (ur, .inl (cB, 1000, .inl (U.2.1.2.2))), (oa, .inr (2, [.ref orr, .int (nI U.2.2.1.1), .int (nI U.2.2.1.2.1)])), (orr, .inl (cB, 4096, .inl (U.2.2.1.2.2))), (ou, .inl (cJ, 1, .inr (.inl (vp_updL uo 0 ((((xRun (nI wn1) wf (zN p0) (rg, M, I, O, ph, dn, nx, fo)).2.2.2.2.2.1 - dn) : Int32).toInt64)))))])) (by decide) (Nat.le_of_ble_eq_true rfl) ?_
  intro p e s m below meth c ls A hE hr hlocks hin htab hst hsz hK hP hD hS hA hAe hl
  have hx := hE.1
  have hb := hE.2.1
  have hown := hE.2.2.2.1
  have hw := hE.2.2.2.2
  have hl : lv_has ls 4 [(0, .ref x), (1, .int p0), (2, .ref ou)] := hl
  refine lv_aload_n hx hb d_La_run_0 rfl (lv_at hl 2 rfl) ?_
  refine lv_iconst (v := 0) hx hb d_La_run_1 (by decide) ?_
  refine lv_aload_n hx hb d_La_run_2 rfl (lv_at hl 0 rfl) ?_
  refine lv_iload_n hx hb d_La_run_3 rfl (lv_at hl 1 rfl) ?_
  refine zgoi (wr := [(ou, .inl (cJ, 1, .inr (.inl (uo))))]) (zrunV (n := 1) (As := [.int p0]) (rest := [.int 0, .ref ou]) hE (c_Rv_run l D cI cB cJ _ p0 x wa (nI wn1) ra ma ua oa ph dn nx fo wl wf rg md bt lo nl sa ta fa pa pe ba rn sf tf uf pn pf ur ui uh uq orr oi oh oqf M I O hR hlo hr16 hI hO hwl hn hph) cb_Rv_run lk_La_25 in_Rv_run se_Rv_run (zpreV (q0 := 0) hK hP hD rfl rfl rfl [0, 1, 2, 3, 4, 5, 6, 7, 8, 9, 10, 11, 12] rfl rfl rfl) ⟨Nat.le_of_ble_eq_true rfl, Nat.le_of_ble_eq_true rfl, by show 0 + (phP pn + 3 * phR rn) ≤ phP pn + 3 * phR rn; omega, by show 0 + (80000 * phP pn + 3 * (8001 * phR rn)) ≤ 80000 * phP pn + 3 * (8001 * phR rn); omega⟩ rfl hl.1 rfl (Nat.le_of_ble_eq_true rfl) d_La_run_4) hP hD hS hA [0, 1, 2, 3, 4, 5, 6, 7, 8, 9, 10, 11, 12] [13] rfl rfl rfl (by decide) (fun r2 u3 H locs hq1 hP hD hS => ?_)
  obtain ⟨rfl, hR, hI, hO, hfc, hfs⟩ := hq1
  have hP : va_P D zC [(ou, .inl (cJ, 1, .inr (.inl (uo)))), (x, .inr (0, [.ref wa, .int (nI wn1), .ref ra, .ref ma, .ref ua, .ref oa, .int (xRun (nI wn1) wf (zN p0) (rg, M, I, O, ph, dn, nx, fo)).2.2.2.2.1, .int (xRun (nI wn1) wf (zN p0) (rg, M, I, O, ph, dn, nx, fo)).2.2.2.2.2.1, .int (xRun (nI wn1) wf (zN p0) (rg, M, I, O, ph, dn, nx, fo)).2.2.2.2.2.2.1, .int (xRun (nI wn1) wf (zN p0) (rg, M, I, O, ph, dn, nx, fo)).2.2.2.2.2.2.2])), (wa, .inl (cI, wl, .inl (wf))), (ra, .inl (cI, 32, .inl ((xRun (nI wn1) wf (zN p0) (rg, M, I, O, ph, dn, nx, fo)).1))), (ma, .inr (1, [.int (nI (cMd u3.1)), .int (nI (cBt u3.1)), .int (nI (cLo u3.1)), .int (nI (cNl u3.1)), .ref (cSa u3.1), .ref (cTa u3.1), .ref (cFa u3.1), .ref (cPa u3.1), .int (nI (cPe u3.1)), .ref ba])), ((cSa u3.1), .inl (cI, (cRn u3.1), .inl (cSf u3.1))), ((cTa u3.1), .inl (cI, (cRn u3.1), .inl (cTf u3.1))), ((cFa u3.1), .inl (cI, (cRn u3.1), .inl (cUf u3.1))), ((cPa u3.1), .inl (cB, (cPn u3.1), .inl (cPf u3.1))), (ba, .inl (cB, 4000, .inl (fun _ => 0))), (ua, .inr (2, [.ref ur, .int (nI u3.2.1.1), .int (nI u3.2.1.2.1)])), (ur, .inl (cB, 1000, .inl (u3.2.1.2.2))), (oa, .inr (2, [.ref orr, .int (nI u3.2.2.1.1), .int (nI u3.2.2.1.2.1)])), (orr, .inl (cB, 4096, .inl (u3.2.2.1.2.2)))] _ := hP
  have hD : va_D A [(ou, .inl (cJ, 1, .inr (.inl (uo)))), (x, .inr (0, [.ref wa, .int (nI wn1), .ref ra, .ref ma, .ref ua, .ref oa, .int (xRun (nI wn1) wf (zN p0) (rg, M, I, O, ph, dn, nx, fo)).2.2.2.2.1, .int (xRun (nI wn1) wf (zN p0) (rg, M, I, O, ph, dn, nx, fo)).2.2.2.2.2.1, .int (xRun (nI wn1) wf (zN p0) (rg, M, I, O, ph, dn, nx, fo)).2.2.2.2.2.2.1, .int (xRun (nI wn1) wf (zN p0) (rg, M, I, O, ph, dn, nx, fo)).2.2.2.2.2.2.2])), (wa, .inl (cI, wl, .inl (wf))), (ra, .inl (cI, 32, .inl ((xRun (nI wn1) wf (zN p0) (rg, M, I, O, ph, dn, nx, fo)).1))), (ma, .inr (1, [.int (nI (cMd u3.1)), .int (nI (cBt u3.1)), .int (nI (cLo u3.1)), .int (nI (cNl u3.1)), .ref (cSa u3.1), .ref (cTa u3.1), .ref (cFa u3.1), .ref (cPa u3.1), .int (nI (cPe u3.1)), .ref ba])), ((cSa u3.1), .inl (cI, (cRn u3.1), .inl (cSf u3.1))), ((cTa u3.1), .inl (cI, (cRn u3.1), .inl (cTf u3.1))), ((cFa u3.1), .inl (cI, (cRn u3.1), .inl (cUf u3.1))), ((cPa u3.1), .inl (cB, (cPn u3.1), .inl (cPf u3.1))), (ba, .inl (cB, 4000, .inl (fun _ => 0))), (ua, .inr (2, [.ref ur, .int (nI u3.2.1.1), .int (nI u3.2.1.2.1)])), (ur, .inl (cB, 1000, .inl (u3.2.1.2.2))), (oa, .inr (2, [.ref orr, .int (nI u3.2.2.1.1), .int (nI u3.2.2.1.2.1)])), (orr, .inl (cB, 4096, .inl (u3.2.2.1.2.2)))] := hD
  refine lv_i2l (v := (((xRun (nI wn1) wf (zN p0) (rg, M, I, O, ph, dn, nx, fo)).2.2.2.2.2.1 - dn) : Int32).toInt64) hx hb d_La_run_7 rfl ?_
  refine va_last hx hb hK hP hD hS 0 2 rfl rfl (by unfold vp_in; decide) d_La_run_8 (fun H locs hP hD hS => ?_)
  have hP : va_P D zC [(ou, .inl (cJ, 1, .inr (.inl (vp_updL uo 0 ((((xRun (nI wn1) wf (zN p0) (rg, M, I, O, ph, dn, nx, fo)).2.2.2.2.2.1 - dn) : Int32).toInt64))))), (x, .inr (0, [.ref wa, .int (nI wn1), .ref ra, .ref ma, .ref ua, .ref oa, .int (xRun (nI wn1) wf (zN p0) (rg, M, I, O, ph, dn, nx, fo)).2.2.2.2.1, .int (xRun (nI wn1) wf (zN p0) (rg, M, I, O, ph, dn, nx, fo)).2.2.2.2.2.1, .int (xRun (nI wn1) wf (zN p0) (rg, M, I, O, ph, dn, nx, fo)).2.2.2.2.2.2.1, .int (xRun (nI wn1) wf (zN p0) (rg, M, I, O, ph, dn, nx, fo)).2.2.2.2.2.2.2])), (wa, .inl (cI, wl, .inl (wf))), (ra, .inl (cI, 32, .inl ((xRun (nI wn1) wf (zN p0) (rg, M, I, O, ph, dn, nx, fo)).1))), (ma, .inr (1, [.int (nI (cMd u3.1)), .int (nI (cBt u3.1)), .int (nI (cLo u3.1)), .int (nI (cNl u3.1)), .ref (cSa u3.1), .ref (cTa u3.1), .ref (cFa u3.1), .ref (cPa u3.1), .int (nI (cPe u3.1)), .ref ba])), ((cSa u3.1), .inl (cI, (cRn u3.1), .inl (cSf u3.1))), ((cTa u3.1), .inl (cI, (cRn u3.1), .inl (cTf u3.1))), ((cFa u3.1), .inl (cI, (cRn u3.1), .inl (cUf u3.1))), ((cPa u3.1), .inl (cB, (cPn u3.1), .inl (cPf u3.1))), (ba, .inl (cB, 4000, .inl (fun _ => 0))), (ua, .inr (2, [.ref ur, .int (nI u3.2.1.1), .int (nI u3.2.1.2.1)])), (ur, .inl (cB, 1000, .inl (u3.2.1.2.2))), (oa, .inr (2, [.ref orr, .int (nI u3.2.2.1.1), .int (nI u3.2.2.1.2.1)])), (orr, .inl (cB, 4096, .inl (u3.2.2.1.2.2)))] _ := hP
  have hD : va_D A [(ou, .inl (cJ, 1, .inr (.inl (vp_updL uo 0 ((((xRun (nI wn1) wf (zN p0) (rg, M, I, O, ph, dn, nx, fo)).2.2.2.2.2.1 - dn) : Int32).toInt64))))), (x, .inr (0, [.ref wa, .int (nI wn1), .ref ra, .ref ma, .ref ua, .ref oa, .int (xRun (nI wn1) wf (zN p0) (rg, M, I, O, ph, dn, nx, fo)).2.2.2.2.1, .int (xRun (nI wn1) wf (zN p0) (rg, M, I, O, ph, dn, nx, fo)).2.2.2.2.2.1, .int (xRun (nI wn1) wf (zN p0) (rg, M, I, O, ph, dn, nx, fo)).2.2.2.2.2.2.1, .int (xRun (nI wn1) wf (zN p0) (rg, M, I, O, ph, dn, nx, fo)).2.2.2.2.2.2.2])), (wa, .inl (cI, wl, .inl (wf))), (ra, .inl (cI, 32, .inl ((xRun (nI wn1) wf (zN p0) (rg, M, I, O, ph, dn, nx, fo)).1))), (ma, .inr (1, [.int (nI (cMd u3.1)), .int (nI (cBt u3.1)), .int (nI (cLo u3.1)), .int (nI (cNl u3.1)), .ref (cSa u3.1), .ref (cTa u3.1), .ref (cFa u3.1), .ref (cPa u3.1), .int (nI (cPe u3.1)), .ref ba])), ((cSa u3.1), .inl (cI, (cRn u3.1), .inl (cSf u3.1))), ((cTa u3.1), .inl (cI, (cRn u3.1), .inl (cTf u3.1))), ((cFa u3.1), .inl (cI, (cRn u3.1), .inl (cUf u3.1))), ((cPa u3.1), .inl (cB, (cPn u3.1), .inl (cPf u3.1))), (ba, .inl (cB, 4000, .inl (fun _ => 0))), (ua, .inr (2, [.ref ur, .int (nI u3.2.1.1), .int (nI u3.2.1.2.1)])), (ur, .inl (cB, 1000, .inl (u3.2.1.2.2))), (oa, .inr (2, [.ref orr, .int (nI u3.2.2.1.1), .int (nI u3.2.2.1.2.1)])), (orr, .inl (cB, 4096, .inl (u3.2.2.1.2.2)))] := hD
  refine lv_goto (tgt := 18) hx hb d_La_run_9 (by decide) ?_
  refine lv_iconst (v := 0) hx hb d_La_run_18 (by decide) ?_
  have hP9 := hP.sub (ws' := [(x, .inr (0, [.ref wa, .int (nI wn1), .ref ra, .ref ma, .ref ua, .ref oa, .int (xRun (nI wn1) wf (zN p0) (rg, M, I, O, ph, dn, nx, fo)).2.2.2.2.1, .int (xRun (nI wn1) wf (zN p0) (rg, M, I, O, ph, dn, nx, fo)).2.2.2.2.2.1, .int (xRun (nI wn1) wf (zN p0) (rg, M, I, O, ph, dn, nx, fo)).2.2.2.2.2.2.1, .int (xRun (nI wn1) wf (zN p0) (rg, M, I, O, ph, dn, nx, fo)).2.2.2.2.2.2.2])), (wa, .inl (cI, wl, .inl (wf))), (ra, .inl (cI, 32, .inl ((xRun (nI wn1) wf (zN p0) (rg, M, I, O, ph, dn, nx, fo)).1))), (ma, .inr (1, [.int (nI (cMd u3.1)), .int (nI (cBt u3.1)), .int (nI (cLo u3.1)), .int (nI (cNl u3.1)), .ref (cSa u3.1), .ref (cTa u3.1), .ref (cFa u3.1), .ref (cPa u3.1), .int (nI (cPe u3.1)), .ref ba])), ((cSa u3.1), .inl (cI, (cRn u3.1), .inl (cSf u3.1))), ((cTa u3.1), .inl (cI, (cRn u3.1), .inl (cTf u3.1))), ((cFa u3.1), .inl (cI, (cRn u3.1), .inl (cUf u3.1))), ((cPa u3.1), .inl (cB, (cPn u3.1), .inl (cPf u3.1))), (ba, .inl (cB, 4000, .inl (fun _ => 0))), (ua, .inr (2, [.ref ur, .int (nI u3.2.1.1), .int (nI u3.2.1.2.1)])), (ur, .inl (cB, 1000, .inl (u3.2.1.2.2))), (oa, .inr (2, [.ref orr, .int (nI u3.2.2.1.1), .int (nI u3.2.2.1.2.1)])), (orr, .inl (cB, 4096, .inl (u3.2.2.1.2.2))), (ou, .inl (cJ, 1, .inr (.inl (vp_updL uo 0 ((((xRun (nI wn1) wf (zN p0) (rg, M, I, O, ph, dn, nx, fo)).2.2.2.2.2.1 - dn) : Int32).toInt64)))))]) [1, 2, 3, 4, 5, 6, 7, 8, 9, 10, 11, 12, 13, 0] rfl
  have hD9 := hD.sub (ws' := [(x, .inr (0, [.ref wa, .int (nI wn1), .ref ra, .ref ma, .ref ua, .ref oa, .int (xRun (nI wn1) wf (zN p0) (rg, M, I, O, ph, dn, nx, fo)).2.2.2.2.1, .int (xRun (nI wn1) wf (zN p0) (rg, M, I, O, ph, dn, nx, fo)).2.2.2.2.2.1, .int (xRun (nI wn1) wf (zN p0) (rg, M, I, O, ph, dn, nx, fo)).2.2.2.2.2.2.1, .int (xRun (nI wn1) wf (zN p0) (rg, M, I, O, ph, dn, nx, fo)).2.2.2.2.2.2.2])), (wa, .inl (cI, wl, .inl (wf))), (ra, .inl (cI, 32, .inl ((xRun (nI wn1) wf (zN p0) (rg, M, I, O, ph, dn, nx, fo)).1))), (ma, .inr (1, [.int (nI (cMd u3.1)), .int (nI (cBt u3.1)), .int (nI (cLo u3.1)), .int (nI (cNl u3.1)), .ref (cSa u3.1), .ref (cTa u3.1), .ref (cFa u3.1), .ref (cPa u3.1), .int (nI (cPe u3.1)), .ref ba])), ((cSa u3.1), .inl (cI, (cRn u3.1), .inl (cSf u3.1))), ((cTa u3.1), .inl (cI, (cRn u3.1), .inl (cTf u3.1))), ((cFa u3.1), .inl (cI, (cRn u3.1), .inl (cUf u3.1))), ((cPa u3.1), .inl (cB, (cPn u3.1), .inl (cPf u3.1))), (ba, .inl (cB, 4000, .inl (fun _ => 0))), (ua, .inr (2, [.ref ur, .int (nI u3.2.1.1), .int (nI u3.2.1.2.1)])), (ur, .inl (cB, 1000, .inl (u3.2.1.2.2))), (oa, .inr (2, [.ref orr, .int (nI u3.2.2.1.1), .int (nI u3.2.2.1.2.1)])), (orr, .inl (cB, 4096, .inl (u3.2.2.1.2.2))), (ou, .inl (cJ, 1, .inr (.inl (vp_updL uo 0 ((((xRun (nI wn1) wf (zN p0) (rg, M, I, O, ph, dn, nx, fo)).2.2.2.2.2.1 - dn) : Int32).toInt64)))))]) [1, 2, 3, 4, 5, 6, 7, 8, 9, 10, 11, 12, 13, 0] rfl rfl
  exact zreti hx hb hr rfl hlocks hS u3 ⟨rfl, hR, hI, hO, hfc, hfs⟩ (Prod.ext (Nat.zero_add _).symm (Nat.zero_add _).symm) hP9 hD9 d_La_run_19

set_option maxHeartbeats 4000000 in
theorem h_La_register_n (l : Launch) (D : va_G) (cI cB cJ : ClassId) (sz : Nat) (x : Nat) (p0 : Int32) (ou : Nat) (wa : Nat) (wn1 : Nat) (ra : Nat) (ma : Nat) (ua : Nat) (oa : Nat) (ph : Int32) (dn : Int32) (nx : Int32) (fo : Int32) (rg : Nat → Int32) (uo : Nat → Int64) (hk : 0 ≤ p0.toInt ∧ p0.toInt ≤ 32) : zMet l y_La_register (zWH y_La_register b_La_register 4 (some .int) [(0, 9, 12, 19)]) { frames := 7, cells := 0, slots := 0, locals := 131 } (hPc D (zT cI cB cJ) sz [(x, .inr (0, [.ref wa, .int (nI wn1), .ref ra, .ref ma, .ref ua, .ref oa, .int ph, .int dn, .int nx, .int fo])), (ra, .inl (cI, 32, .inl (rg))), (ou, .inl (cJ, 1, .inr (.inl (uo))))] [.ref x, .int p0, .ref ou]) (zQi D (va_A [(x, .inr (0, [.ref wa, .int (nI wn1), .ref ra, .ref ma, .ref ua, .ref oa, .int ph, .int dn, .int nx, .int fo])), (ra, .inl (cI, 32, .inl (rg))), (ou, .inl (cJ, 1, .inr (.inl (uo))))] sz) (fun r (_ : Unit) => r = 0) (z0) (fun _ => [(x, .inr (0, [.ref wa, .int (nI wn1), .ref ra, .ref ma, .ref ua, .ref oa, .int ph, .int dn, .int nx, .int fo])), (ra, .inl (cI, 32, .inl (rg))), (ou, .inl (cJ, 1, .inr (.inl (vp_updL uo 0 (((sp_Rv_register p0 nx rg) : Int32).toInt64)))))])) (va_A [(x, .inr (0, [.ref wa, .int (nI wn1), .ref ra, .ref ma, .ref ua, .ref oa, .int ph, .int dn, .int nx, .int fo])), (ra, .inl (cI, 32, .inl (rg))), (ou, .inl (cJ, 1, .inr (.inl (uo))))] sz) := by
  refine zstartH (Qc := fun A => zQi D A (fun r (_ : Unit) => r = 0) (z0) (fun _ => [(x, .inr (0, [.ref wa, .int (nI wn1), .ref ra, .ref ma, .ref ua, .ref oa, .int ph, .int dn, .int nx, .int fo])), (ra, .inl (cI, 32, .inl (rg))), (ou, .inl (cJ, 1, .inr (.inl (vp_updL uo 0 (((sp_Rv_register p0 nx rg) : Int32).toInt64)))))])) (by decide) (Nat.le_of_ble_eq_true rfl) ?_
  intro p e s m below meth c ls A hE hr hlocks hin htab hst hsz hK hP hD hS hA hAe hl
  have hx := hE.1
  have hb := hE.2.1
  have hown := hE.2.2.2.1
  have hw := hE.2.2.2.2
  have hl : lv_has ls 4 [(0, .ref x), (1, .int p0), (2, .ref ou)] := hl
  refine lv_aload_n hx hb d_La_register_0 rfl (lv_at hl 2 rfl) ?_
  refine lv_iconst (v := 0) hx hb d_La_register_1 (by decide) ?_
  refine lv_aload_n hx hb d_La_register_2 rfl (lv_at hl 0 rfl) ?_
  refine lv_iload_n hx hb d_La_register_3 rfl (lv_at hl 1 rfl) ?_
  refine zgoi (wr := [(ou, .inl (cJ, 1, .inr (.inl (uo))))]) (zrunV (n := 1) (As := [.int p0]) (rest := [.int 0, .ref ou]) hE (c_Rv_register l D cI cB cJ _ p0 x wa (nI wn1) ra ma ua oa ph dn nx fo rg hk) cb_Rv_register lk_La_30 in_Rv_register se_Rv_register (zpreV (q0 := 0) hK hP hD rfl rfl rfl [0, 1] rfl rfl rfl) ⟨Nat.le_of_ble_eq_true rfl, Nat.le_of_ble_eq_true rfl, Nat.le_of_ble_eq_true rfl, Nat.le_of_ble_eq_true rfl⟩ rfl hl.1 rfl (Nat.le_of_ble_eq_true rfl) d_La_register_4) hP hD hS hA [0, 1] [2] rfl rfl rfl (by decide) (fun r2 u3 H locs hq1 hP hD hS => ?_)
  subst hq1
  have hP : va_P D zC [(ou, .inl (cJ, 1, .inr (.inl (uo)))), (x, .inr (0, [.ref wa, .int (nI wn1), .ref ra, .ref ma, .ref ua, .ref oa, .int ph, .int dn, .int nx, .int fo])), (ra, .inl (cI, 32, .inl (rg)))] _ := hP
  have hD : va_D A [(ou, .inl (cJ, 1, .inr (.inl (uo)))), (x, .inr (0, [.ref wa, .int (nI wn1), .ref ra, .ref ma, .ref ua, .ref oa, .int ph, .int dn, .int nx, .int fo])), (ra, .inl (cI, 32, .inl (rg)))] := hD
  refine lv_i2l (v := ((sp_Rv_register p0 nx rg) : Int32).toInt64) hx hb d_La_register_7 rfl ?_
  refine va_last hx hb hK hP hD hS 0 2 rfl rfl (by unfold vp_in; decide) d_La_register_8 (fun H locs hP hD hS => ?_)
  have hP : va_P D zC [(ou, .inl (cJ, 1, .inr (.inl (vp_updL uo 0 (((sp_Rv_register p0 nx rg) : Int32).toInt64))))), (x, .inr (0, [.ref wa, .int (nI wn1), .ref ra, .ref ma, .ref ua, .ref oa, .int ph, .int dn, .int nx, .int fo])), (ra, .inl (cI, 32, .inl (rg)))] _ := hP
  have hD : va_D A [(ou, .inl (cJ, 1, .inr (.inl (vp_updL uo 0 (((sp_Rv_register p0 nx rg) : Int32).toInt64))))), (x, .inr (0, [.ref wa, .int (nI wn1), .ref ra, .ref ma, .ref ua, .ref oa, .int ph, .int dn, .int nx, .int fo])), (ra, .inl (cI, 32, .inl (rg)))] := hD
  refine lv_goto (tgt := 15) hx hb d_La_register_9 (by decide) ?_
  refine lv_iconst (v := 0) hx hb d_La_register_15 (by decide) ?_
  have hP9 := hP.sub (ws' := [(x, .inr (0, [.ref wa, .int (nI wn1), .ref ra, .ref ma, .ref ua, .ref oa, .int ph, .int dn, .int nx, .int fo])), (ra, .inl (cI, 32, .inl (rg))), (ou, .inl (cJ, 1, .inr (.inl (vp_updL uo 0 (((sp_Rv_register p0 nx rg) : Int32).toInt64)))))]) [1, 2, 0] rfl
  have hD9 := hD.sub (ws' := [(x, .inr (0, [.ref wa, .int (nI wn1), .ref ra, .ref ma, .ref ua, .ref oa, .int ph, .int dn, .int nx, .int fo])), (ra, .inl (cI, 32, .inl (rg))), (ou, .inl (cJ, 1, .inr (.inl (vp_updL uo 0 (((sp_Rv_register p0 nx rg) : Int32).toInt64)))))]) [1, 2, 0] rfl rfl
  exact zreti hx hb hr rfl hlocks hS () rfl rfl hP9 hD9 d_La_register_16

set_option maxHeartbeats 4000000 in
theorem h_La_set_n (l : Launch) (D : va_G) (cI cB cJ : ClassId) (sz : Nat) (x : Nat) (p0 : Int32) (p1 : Int32) (ou : Nat) (wa : Nat) (wn1 : Nat) (ra : Nat) (ma : Nat) (ua : Nat) (oa : Nat) (ph : Int32) (dn : Int32) (nx : Int32) (fo : Int32) (rg : Nat → Int32) (uo : Nat → Int64) (hk : 1 ≤ p0.toInt ∧ p0.toInt ≤ 31) : zMet l y_La_set (zWH y_La_set b_La_set 5 (some .int) [(0, 10, 13, 19)]) { frames := 7, cells := 0, slots := 0, locals := 133 } (hPc D (zT cI cB cJ) sz [(x, .inr (0, [.ref wa, .int (nI wn1), .ref ra, .ref ma, .ref ua, .ref oa, .int ph, .int dn, .int nx, .int fo])), (ra, .inl (cI, 32, .inl (rg))), (ou, .inl (cJ, 1, .inr (.inl (uo))))] [.ref x, .int p0, .int p1, .ref ou]) (zQi D (va_A [(x, .inr (0, [.ref wa, .int (nI wn1), .ref ra, .ref ma, .ref ua, .ref oa, .int ph, .int dn, .int nx, .int fo])), (ra, .inl (cI, 32, .inl (rg))), (ou, .inl (cJ, 1, .inr (.inl (uo))))] sz) (fun r (_ : Unit) => r = 0) (z0) (fun _ => [(x, .inr (0, [.ref wa, .int (nI wn1), .ref ra, .ref ma, .ref ua, .ref oa, .int ph, .int dn, .int nx, .int fo])), (ra, .inl (cI, 32, .inl ((sp_Rv_set p0 p1 rg).2))), (ou, .inl (cJ, 1, .inr (.inl (vp_updL uo 0 (((sp_Rv_set p0 p1 rg).1 : Int32).toInt64)))))])) (va_A [(x, .inr (0, [.ref wa, .int (nI wn1), .ref ra, .ref ma, .ref ua, .ref oa, .int ph, .int dn, .int nx, .int fo])), (ra, .inl (cI, 32, .inl (rg))), (ou, .inl (cJ, 1, .inr (.inl (uo))))] sz) := by
  refine zstartH (Qc := fun A => zQi D A (fun r (_ : Unit) => r = 0) (z0) (fun _ => [(x, .inr (0, [.ref wa, .int (nI wn1), .ref ra, .ref ma, .ref ua, .ref oa, .int ph, .int dn, .int nx, .int fo])), (ra, .inl (cI, 32, .inl ((sp_Rv_set p0 p1 rg).2))), (ou, .inl (cJ, 1, .inr (.inl (vp_updL uo 0 (((sp_Rv_set p0 p1 rg).1 : Int32).toInt64)))))])) (by decide) (Nat.le_of_ble_eq_true rfl) ?_
  intro p e s m below meth c ls A hE hr hlocks hin htab hst hsz hK hP hD hS hA hAe hl
  have hx := hE.1
  have hb := hE.2.1
  have hown := hE.2.2.2.1
  have hw := hE.2.2.2.2
  have hl : lv_has ls 5 [(0, .ref x), (1, .int p0), (2, .int p1), (3, .ref ou)] := hl
  refine lv_aload_n hx hb d_La_set_0 rfl (lv_at hl 3 rfl) ?_
  refine lv_iconst (v := 0) hx hb d_La_set_1 (by decide) ?_
  refine lv_aload_n hx hb d_La_set_2 rfl (lv_at hl 0 rfl) ?_
  refine lv_iload_n hx hb d_La_set_3 rfl (lv_at hl 1 rfl) ?_
  refine lv_iload_n hx hb d_La_set_4 rfl (lv_at hl 2 rfl) ?_
  refine zgoi (wr := [(ou, .inl (cJ, 1, .inr (.inl (uo))))]) (zrunV (n := 2) (As := [.int p0, .int p1]) (rest := [.int 0, .ref ou]) hE (c_Rv_set l D cI cB cJ _ p0 p1 x wa (nI wn1) ra ma ua oa ph dn nx fo rg hk) cb_Rv_set lk_La_33 in_Rv_set se_Rv_set (zpreV (q0 := 0) hK hP hD rfl rfl rfl [0, 1] rfl rfl rfl) ⟨Nat.le_of_ble_eq_true rfl, Nat.le_of_ble_eq_true rfl, Nat.le_of_ble_eq_true rfl, Nat.le_of_ble_eq_true rfl⟩ rfl hl.1 rfl (Nat.le_of_ble_eq_true rfl) d_La_set_5) hP hD hS hA [0, 1] [2] rfl rfl rfl (by decide) (fun r2 u3 H locs hq1 hP hD hS => ?_)
  subst hq1
  have hP : va_P D zC [(ou, .inl (cJ, 1, .inr (.inl (uo)))), (x, .inr (0, [.ref wa, .int (nI wn1), .ref ra, .ref ma, .ref ua, .ref oa, .int ph, .int dn, .int nx, .int fo])), (ra, .inl (cI, 32, .inl ((sp_Rv_set p0 p1 rg).2)))] _ := hP
  have hD : va_D A [(ou, .inl (cJ, 1, .inr (.inl (uo)))), (x, .inr (0, [.ref wa, .int (nI wn1), .ref ra, .ref ma, .ref ua, .ref oa, .int ph, .int dn, .int nx, .int fo])), (ra, .inl (cI, 32, .inl ((sp_Rv_set p0 p1 rg).2)))] := hD
  refine lv_i2l (v := ((sp_Rv_set p0 p1 rg).1 : Int32).toInt64) hx hb d_La_set_8 rfl ?_
  refine va_last hx hb hK hP hD hS 0 2 rfl rfl (by unfold vp_in; decide) d_La_set_9 (fun H locs hP hD hS => ?_)
  have hP : va_P D zC [(ou, .inl (cJ, 1, .inr (.inl (vp_updL uo 0 (((sp_Rv_set p0 p1 rg).1 : Int32).toInt64))))), (x, .inr (0, [.ref wa, .int (nI wn1), .ref ra, .ref ma, .ref ua, .ref oa, .int ph, .int dn, .int nx, .int fo])), (ra, .inl (cI, 32, .inl ((sp_Rv_set p0 p1 rg).2)))] _ := hP
  have hD : va_D A [(ou, .inl (cJ, 1, .inr (.inl (vp_updL uo 0 (((sp_Rv_set p0 p1 rg).1 : Int32).toInt64))))), (x, .inr (0, [.ref wa, .int (nI wn1), .ref ra, .ref ma, .ref ua, .ref oa, .int ph, .int dn, .int nx, .int fo])), (ra, .inl (cI, 32, .inl ((sp_Rv_set p0 p1 rg).2)))] := hD
  refine lv_goto (tgt := 17) hx hb d_La_set_10 (by decide) ?_
  refine lv_iconst (v := 0) hx hb d_La_set_17 (by decide) ?_
  have hP9 := hP.sub (ws' := [(x, .inr (0, [.ref wa, .int (nI wn1), .ref ra, .ref ma, .ref ua, .ref oa, .int ph, .int dn, .int nx, .int fo])), (ra, .inl (cI, 32, .inl ((sp_Rv_set p0 p1 rg).2))), (ou, .inl (cJ, 1, .inr (.inl (vp_updL uo 0 (((sp_Rv_set p0 p1 rg).1 : Int32).toInt64)))))]) [1, 2, 0] rfl
  have hD9 := hD.sub (ws' := [(x, .inr (0, [.ref wa, .int (nI wn1), .ref ra, .ref ma, .ref ua, .ref oa, .int ph, .int dn, .int nx, .int fo])), (ra, .inl (cI, 32, .inl ((sp_Rv_set p0 p1 rg).2))), (ou, .inl (cJ, 1, .inr (.inl (vp_updL uo 0 (((sp_Rv_set p0 p1 rg).1 : Int32).toInt64)))))]) [1, 2, 0] rfl rfl
  exact zreti hx hb hr rfl hlocks hS () rfl rfl hP9 hD9 d_La_set_18

set_option maxHeartbeats 4000000 in
theorem h_La_input_n (l : Launch) (D : va_G) (cI cB cJ : ClassId) (sz : Nat) (x : Nat) (w : Int64) (p1 : Int32) (ou : Nat) (wa : Nat) (wn1 : Nat) (ra : Nat) (ma : Nat) (ua : Nat) (oa : Nat) (ph : Int32) (dn : Int32) (nx : Int32) (fo : Int32) (ur : Nat) (ui : Nat) (uh : Nat) (uq : Nat → Int32) (uo : Nat → Int64) (I : List Int32) (hI : bR 1000 I ui uh uq) (hn : 0 ≤ p1.toInt ∧ p1.toInt ≤ 8) (hn2 : (uh : Int) + p1.toInt ≤ 1000) : zMet l y_La_input (zWH y_La_input b_La_input 6 (some .int) [(0, 11, 14, 28), (0, 11, 18, 13)]) { frames := 7, cells := 0, slots := 0, locals := 134 } (hPc D (zT cI cB cJ) sz [(x, .inr (0, [.ref wa, .int (nI wn1), .ref ra, .ref ma, .ref ua, .ref oa, .int ph, .int dn, .int nx, .int fo])), (ua, .inr (2, [.ref ur, .int (nI ui), .int (nI uh)])), (ur, .inl (cB, 1000, .inl (uq))), (ou, .inl (cJ, 1, .inr (.inl (uo))))] [.ref x, .long w, .int p1, .ref ou]) (zQi D (va_A [(x, .inr (0, [.ref wa, .int (nI wn1), .ref ra, .ref ma, .ref ua, .ref oa, .int ph, .int dn, .int nx, .int fo])), (ua, .inr (2, [.ref ur, .int (nI ui), .int (nI uh)])), (ur, .inl (cB, 1000, .inl (uq))), (ou, .inl (cJ, 1, .inr (.inl (uo))))] sz) (fun r (U : (Nat × Nat × (Nat → Int32))) => r = 0 ∧ bR 1000 (xIn w (zN p1) I) U.1 U.2.1 U.2.2) (fun _ => (0, 0)) (fun (U : (Nat × Nat × (Nat → Int32))) => [(x, .inr (0, [.ref wa, .int (nI wn1), .ref ra, .ref ma, .ref ua, .ref oa, .int ph, .int dn, .int nx, .int fo])), (ua, .inr (2, [.ref ur, .int (nI U.1), .int (nI U.2.1)])), (ur, .inl (cB, 1000, .inl (U.2.2))), (ou, .inl (cJ, 1, .inr (.inl (vp_updL uo 0 (((nI (xIn w (zN p1) I).length) : Int32).toInt64)))))])) (va_A [(x, .inr (0, [.ref wa, .int (nI wn1), .ref ra, .ref ma, .ref ua, .ref oa, .int ph, .int dn, .int nx, .int fo])), (ua, .inr (2, [.ref ur, .int (nI ui), .int (nI uh)])), (ur, .inl (cB, 1000, .inl (uq))), (ou, .inl (cJ, 1, .inr (.inl (uo))))] sz) := by
  refine zstartH (Qc := fun A => zQi D A (fun r (U : (Nat × Nat × (Nat → Int32))) => r = 0 ∧ bR 1000 (xIn w (zN p1) I) U.1 U.2.1 U.2.2) (fun _ => (0, 0)) (fun (U : (Nat × Nat × (Nat → Int32))) => [(x, .inr (0, [.ref wa, .int (nI wn1), .ref ra, .ref ma, .ref ua, .ref oa, .int ph, .int dn, .int nx, .int fo])), (ua, .inr (2, [.ref ur, .int (nI U.1), .int (nI U.2.1)])), (ur, .inl (cB, 1000, .inl (U.2.2))), (ou, .inl (cJ, 1, .inr (.inl (vp_updL uo 0 (((nI (xIn w (zN p1) I).length) : Int32).toInt64)))))])) (by decide) (Nat.le_of_ble_eq_true rfl) ?_
  intro p e s m below meth c ls A hE hr hlocks hin htab hst hsz hK hP hD hS hA hAe hl
  have hx := hE.1
  have hb := hE.2.1
  have hown := hE.2.2.2.1
  have hw := hE.2.2.2.2
  have hl : lv_has ls 6 [(0, .ref x), (1, .long w), (3, .int p1), (4, .ref ou)] := hl
  refine lv_aload hx hb d_La_input_0 (lv_at hl 3 rfl) ?_
  refine lv_iconst (v := 0) hx hb d_La_input_2 (by decide) ?_
  refine lv_aload_n hx hb d_La_input_3 rfl (lv_at hl 0 rfl) ?_
  refine lv_lload_n hx hb d_La_input_4 rfl (lv_at hl 1 rfl) ?_
  refine lv_iload_n hx hb d_La_input_5 rfl (lv_at hl 2 rfl) ?_
  refine zgoi (wr := [(ou, .inl (cJ, 1, .inr (.inl (uo))))]) (zrunV (n := 2) (As := [.long w, .int p1]) (rest := [.int 0, .ref ou]) hE (c_Rv_input l D cI cB cJ _ w p1 x wa (nI wn1) ra ma ua oa ph dn nx fo ur ui uh uq I hI hn hn2) cb_Rv_input lk_La_36 in_Rv_input se_Rv_input (zpreV (q0 := 0) hK hP hD rfl rfl rfl [0, 1, 2] rfl rfl rfl) ⟨Nat.le_of_ble_eq_true rfl, Nat.le_of_ble_eq_true rfl, Nat.le_of_ble_eq_true rfl, Nat.le_of_ble_eq_true rfl⟩ rfl hl.1 rfl (Nat.le_of_ble_eq_true rfl) d_La_input_6) hP hD hS hA [0, 1, 2] [3] rfl rfl rfl (by decide) (fun r2 u3 H locs hq1 hP hD hS => ?_)
  obtain ⟨rfl, hI⟩ := hq1
  have hP : va_P D zC [(ou, .inl (cJ, 1, .inr (.inl (uo)))), (x, .inr (0, [.ref wa, .int (nI wn1), .ref ra, .ref ma, .ref ua, .ref oa, .int ph, .int dn, .int nx, .int fo])), (ua, .inr (2, [.ref ur, .int (nI u3.1), .int (nI u3.2.1)])), (ur, .inl (cB, 1000, .inl (u3.2.2)))] _ := hP
  have hD : va_D A [(ou, .inl (cJ, 1, .inr (.inl (uo)))), (x, .inr (0, [.ref wa, .int (nI wn1), .ref ra, .ref ma, .ref ua, .ref oa, .int ph, .int dn, .int nx, .int fo])), (ua, .inr (2, [.ref ur, .int (nI u3.1), .int (nI u3.2.1)])), (ur, .inl (cB, 1000, .inl (u3.2.2)))] := hD
  refine lv_i2l (v := ((nI (xIn w (zN p1) I).length) : Int32).toInt64) hx hb d_La_input_9 rfl ?_
  refine va_last hx hb hK hP hD hS 0 2 rfl rfl (by unfold vp_in; decide) d_La_input_10 (fun H locs hP hD hS => ?_)
  have hP : va_P D zC [(ou, .inl (cJ, 1, .inr (.inl (vp_updL uo 0 (((nI (xIn w (zN p1) I).length) : Int32).toInt64))))), (x, .inr (0, [.ref wa, .int (nI wn1), .ref ra, .ref ma, .ref ua, .ref oa, .int ph, .int dn, .int nx, .int fo])), (ua, .inr (2, [.ref ur, .int (nI u3.1), .int (nI u3.2.1)])), (ur, .inl (cB, 1000, .inl (u3.2.2)))] _ := hP
  have hD : va_D A [(ou, .inl (cJ, 1, .inr (.inl (vp_updL uo 0 (((nI (xIn w (zN p1) I).length) : Int32).toInt64))))), (x, .inr (0, [.ref wa, .int (nI wn1), .ref ra, .ref ma, .ref ua, .ref oa, .int ph, .int dn, .int nx, .int fo])), (ua, .inr (2, [.ref ur, .int (nI u3.1), .int (nI u3.2.1)])), (ur, .inl (cB, 1000, .inl (u3.2.2)))] := hD
  refine lv_goto (tgt := 22) hx hb d_La_input_11 (by decide) ?_
  refine lv_iconst (v := 0) hx hb d_La_input_22 (by decide) ?_
  have hP9 := hP.sub (ws' := [(x, .inr (0, [.ref wa, .int (nI wn1), .ref ra, .ref ma, .ref ua, .ref oa, .int ph, .int dn, .int nx, .int fo])), (ua, .inr (2, [.ref ur, .int (nI u3.1), .int (nI u3.2.1)])), (ur, .inl (cB, 1000, .inl (u3.2.2))), (ou, .inl (cJ, 1, .inr (.inl (vp_updL uo 0 (((nI (xIn w (zN p1) I).length) : Int32).toInt64)))))]) [1, 2, 3, 0] rfl
  have hD9 := hD.sub (ws' := [(x, .inr (0, [.ref wa, .int (nI wn1), .ref ra, .ref ma, .ref ua, .ref oa, .int ph, .int dn, .int nx, .int fo])), (ua, .inr (2, [.ref ur, .int (nI u3.1), .int (nI u3.2.1)])), (ur, .inl (cB, 1000, .inl (u3.2.2))), (ou, .inl (cJ, 1, .inr (.inl (vp_updL uo 0 (((nI (xIn w (zN p1) I).length) : Int32).toInt64)))))]) [1, 2, 3, 0] rfl rfl
  exact zreti hx hb hr rfl hlocks hS u3 ⟨rfl, hI⟩ rfl hP9 hD9 d_La_input_23

set_option maxHeartbeats 4000000 in
theorem h_La_count_n (l : Launch) (D : va_G) (cI cB cJ : ClassId) (sz : Nat) (x : Nat) (p0 : Int32) (ou : Nat) (wa : Nat) (wn1 : Nat) (ra : Nat) (ma : Nat) (ua : Nat) (oa : Nat) (ph : Int32) (dn : Int32) (nx : Int32) (fo : Int32) (md : Nat) (bt : Nat) (lo : Nat) (nl : Nat) (sa : Nat) (ta : Nat) (fa : Nat) (pa : Nat) (pe : Nat) (ba : Nat) (ur : Nat) (ui : Nat) (uh : Nat) (orr : Nat) (oi : Nat) (oh : Nat) (uo : Nat → Int64) (hk : 0 ≤ p0.toInt ∧ p0.toInt ≤ 6) : zMet l y_La_count (zWH y_La_count b_La_count 4 (some .int) [(0, 9, 12, 28)]) { frames := 7, cells := 0, slots := 0, locals := 131 } (hPc D (zT cI cB cJ) sz [(x, .inr (0, [.ref wa, .int (nI wn1), .ref ra, .ref ma, .ref ua, .ref oa, .int ph, .int dn, .int nx, .int fo])), (ma, .inr (1, [.int (nI md), .int (nI bt), .int (nI lo), .int (nI nl), .ref sa, .ref ta, .ref fa, .ref pa, .int (nI pe), .ref ba])), (ua, .inr (2, [.ref ur, .int (nI ui), .int (nI uh)])), (oa, .inr (2, [.ref orr, .int (nI oi), .int (nI oh)])), (ou, .inl (cJ, 1, .inr (.inl (uo))))] [.ref x, .int p0, .ref ou]) (zQi D (va_A [(x, .inr (0, [.ref wa, .int (nI wn1), .ref ra, .ref ma, .ref ua, .ref oa, .int ph, .int dn, .int nx, .int fo])), (ma, .inr (1, [.int (nI md), .int (nI bt), .int (nI lo), .int (nI nl), .ref sa, .ref ta, .ref fa, .ref pa, .int (nI pe), .ref ba])), (ua, .inr (2, [.ref ur, .int (nI ui), .int (nI uh)])), (oa, .inr (2, [.ref orr, .int (nI oi), .int (nI oh)])), (ou, .inl (cJ, 1, .inr (.inl (uo))))] sz) (fun r (_ : Unit) => r = 0) (z0) (fun _ => [(x, .inr (0, [.ref wa, .int (nI wn1), .ref ra, .ref ma, .ref ua, .ref oa, .int ph, .int dn, .int nx, .int fo])), (ma, .inr (1, [.int (nI md), .int (nI bt), .int (nI lo), .int (nI nl), .ref sa, .ref ta, .ref fa, .ref pa, .int (nI pe), .ref ba])), (ua, .inr (2, [.ref ur, .int (nI ui), .int (nI uh)])), (oa, .inr (2, [.ref orr, .int (nI oi), .int (nI oh)])), (ou, .inl (cJ, 1, .inr (.inl (vp_updL uo 0 (((sp_Rv_count p0 (nI wn1) dn md bt lo uh oh) : Int32).toInt64)))))])) (va_A [(x, .inr (0, [.ref wa, .int (nI wn1), .ref ra, .ref ma, .ref ua, .ref oa, .int ph, .int dn, .int nx, .int fo])), (ma, .inr (1, [.int (nI md), .int (nI bt), .int (nI lo), .int (nI nl), .ref sa, .ref ta, .ref fa, .ref pa, .int (nI pe), .ref ba])), (ua, .inr (2, [.ref ur, .int (nI ui), .int (nI uh)])), (oa, .inr (2, [.ref orr, .int (nI oi), .int (nI oh)])), (ou, .inl (cJ, 1, .inr (.inl (uo))))] sz) := by
  refine zstartH (Qc := fun A => zQi D A (fun r (_ : Unit) => r = 0) (z0) (fun _ => [(x, .inr (0, [.ref wa, .int (nI wn1), .ref ra, .ref ma, .ref ua, .ref oa, .int ph, .int dn, .int nx, .int fo])), (ma, .inr (1, [.int (nI md), .int (nI bt), .int (nI lo), .int (nI nl), .ref sa, .ref ta, .ref fa, .ref pa, .int (nI pe), .ref ba])), (ua, .inr (2, [.ref ur, .int (nI ui), .int (nI uh)])), (oa, .inr (2, [.ref orr, .int (nI oi), .int (nI oh)])), (ou, .inl (cJ, 1, .inr (.inl (vp_updL uo 0 (((sp_Rv_count p0 (nI wn1) dn md bt lo uh oh) : Int32).toInt64)))))])) (by decide) (Nat.le_of_ble_eq_true rfl) ?_
  intro p e s m below meth c ls A hE hr hlocks hin htab hst hsz hK hP hD hS hA hAe hl
  have hx := hE.1
  have hb := hE.2.1
  have hown := hE.2.2.2.1
  have hw := hE.2.2.2.2
  have hl : lv_has ls 4 [(0, .ref x), (1, .int p0), (2, .ref ou)] := hl
  refine lv_aload_n hx hb d_La_count_0 rfl (lv_at hl 2 rfl) ?_
  refine lv_iconst (v := 0) hx hb d_La_count_1 (by decide) ?_
  refine lv_aload_n hx hb d_La_count_2 rfl (lv_at hl 0 rfl) ?_
  refine lv_iload_n hx hb d_La_count_3 rfl (lv_at hl 1 rfl) ?_
  refine zgoi (wr := [(ou, .inl (cJ, 1, .inr (.inl (uo))))]) (zrunV (n := 1) (As := [.int p0]) (rest := [.int 0, .ref ou]) hE (c_Rv_count l D cI cB cJ _ p0 x wa (nI wn1) ra ma ua oa ph dn nx fo md bt lo nl sa ta fa pa pe ba ur ui uh orr oi oh hk) cb_Rv_count lk_La_40 in_Rv_count se_Rv_count (zpreV (q0 := 0) hK hP hD rfl rfl rfl [0, 1, 2, 3] rfl rfl rfl) ⟨Nat.le_of_ble_eq_true rfl, Nat.le_of_ble_eq_true rfl, Nat.le_of_ble_eq_true rfl, Nat.le_of_ble_eq_true rfl⟩ rfl hl.1 rfl (Nat.le_of_ble_eq_true rfl) d_La_count_4) hP hD hS hA [0, 1, 2, 3] [4] rfl rfl rfl (by decide) (fun r2 u3 H locs hq1 hP hD hS => ?_)
  subst hq1
  have hP : va_P D zC [(ou, .inl (cJ, 1, .inr (.inl (uo)))), (x, .inr (0, [.ref wa, .int (nI wn1), .ref ra, .ref ma, .ref ua, .ref oa, .int ph, .int dn, .int nx, .int fo])), (ma, .inr (1, [.int (nI md), .int (nI bt), .int (nI lo), .int (nI nl), .ref sa, .ref ta, .ref fa, .ref pa, .int (nI pe), .ref ba])), (ua, .inr (2, [.ref ur, .int (nI ui), .int (nI uh)])), (oa, .inr (2, [.ref orr, .int (nI oi), .int (nI oh)]))] _ := hP
  have hD : va_D A [(ou, .inl (cJ, 1, .inr (.inl (uo)))), (x, .inr (0, [.ref wa, .int (nI wn1), .ref ra, .ref ma, .ref ua, .ref oa, .int ph, .int dn, .int nx, .int fo])), (ma, .inr (1, [.int (nI md), .int (nI bt), .int (nI lo), .int (nI nl), .ref sa, .ref ta, .ref fa, .ref pa, .int (nI pe), .ref ba])), (ua, .inr (2, [.ref ur, .int (nI ui), .int (nI uh)])), (oa, .inr (2, [.ref orr, .int (nI oi), .int (nI oh)]))] := hD
  refine lv_i2l (v := ((sp_Rv_count p0 (nI wn1) dn md bt lo uh oh) : Int32).toInt64) hx hb d_La_count_7 rfl ?_
  refine va_last hx hb hK hP hD hS 0 2 rfl rfl (by unfold vp_in; decide) d_La_count_8 (fun H locs hP hD hS => ?_)
  have hP : va_P D zC [(ou, .inl (cJ, 1, .inr (.inl (vp_updL uo 0 (((sp_Rv_count p0 (nI wn1) dn md bt lo uh oh) : Int32).toInt64))))), (x, .inr (0, [.ref wa, .int (nI wn1), .ref ra, .ref ma, .ref ua, .ref oa, .int ph, .int dn, .int nx, .int fo])), (ma, .inr (1, [.int (nI md), .int (nI bt), .int (nI lo), .int (nI nl), .ref sa, .ref ta, .ref fa, .ref pa, .int (nI pe), .ref ba])), (ua, .inr (2, [.ref ur, .int (nI ui), .int (nI uh)])), (oa, .inr (2, [.ref orr, .int (nI oi), .int (nI oh)]))] _ := hP
  have hD : va_D A [(ou, .inl (cJ, 1, .inr (.inl (vp_updL uo 0 (((sp_Rv_count p0 (nI wn1) dn md bt lo uh oh) : Int32).toInt64))))), (x, .inr (0, [.ref wa, .int (nI wn1), .ref ra, .ref ma, .ref ua, .ref oa, .int ph, .int dn, .int nx, .int fo])), (ma, .inr (1, [.int (nI md), .int (nI bt), .int (nI lo), .int (nI nl), .ref sa, .ref ta, .ref fa, .ref pa, .int (nI pe), .ref ba])), (ua, .inr (2, [.ref ur, .int (nI ui), .int (nI uh)])), (oa, .inr (2, [.ref orr, .int (nI oi), .int (nI oh)]))] := hD
  refine lv_goto (tgt := 15) hx hb d_La_count_9 (by decide) ?_
  refine lv_iconst (v := 0) hx hb d_La_count_15 (by decide) ?_
  have hP9 := hP.sub (ws' := [(x, .inr (0, [.ref wa, .int (nI wn1), .ref ra, .ref ma, .ref ua, .ref oa, .int ph, .int dn, .int nx, .int fo])), (ma, .inr (1, [.int (nI md), .int (nI bt), .int (nI lo), .int (nI nl), .ref sa, .ref ta, .ref fa, .ref pa, .int (nI pe), .ref ba])), (ua, .inr (2, [.ref ur, .int (nI ui), .int (nI uh)])), (oa, .inr (2, [.ref orr, .int (nI oi), .int (nI oh)])), (ou, .inl (cJ, 1, .inr (.inl (vp_updL uo 0 (((sp_Rv_count p0 (nI wn1) dn md bt lo uh oh) : Int32).toInt64)))))]) [1, 2, 3, 4, 0] rfl
  have hD9 := hD.sub (ws' := [(x, .inr (0, [.ref wa, .int (nI wn1), .ref ra, .ref ma, .ref ua, .ref oa, .int ph, .int dn, .int nx, .int fo])), (ma, .inr (1, [.int (nI md), .int (nI bt), .int (nI lo), .int (nI nl), .ref sa, .ref ta, .ref fa, .ref pa, .int (nI pe), .ref ba])), (ua, .inr (2, [.ref ur, .int (nI ui), .int (nI uh)])), (oa, .inr (2, [.ref orr, .int (nI oi), .int (nI oh)])), (ou, .inl (cJ, 1, .inr (.inl (vp_updL uo 0 (((sp_Rv_count p0 (nI wn1) dn md bt lo uh oh) : Int32).toInt64)))))]) [1, 2, 3, 4, 0] rfl rfl
  exact zreti hx hb hr rfl hlocks hS () rfl rfl hP9 hD9 d_La_count_16

set_option maxHeartbeats 4000000 in
theorem h_La_word_t1 (l : Launch) (htr : l.stackTraces = false) (D : va_G) (cI cB cJ : ClassId) (sz : Nat) (x : Nat) (p0 : Int32) (ou : Nat) (wa : Nat) (wn1 : Nat) (ra : Nat) (ma : Nat) (ua : Nat) (oa : Nat) (ph : Int32) (dn : Int32) (nx : Int32) (fo : Int32) (ht : 4000 ≤ (nI wn1).toInt) : zMet l y_La_word (zWH y_La_word b_La_word 4 (some .int) [(0, 9, 12, 13)]) { frames := 7, cells := 1, slots := 6, locals := 131 } (hPc D (zT cI cB cJ) sz [(x, .inr (0, [.ref wa, .int (nI wn1), .ref ra, .ref ma, .ref ua, .ref oa, .int ph, .int dn, .int nx, .int fo]))] [.ref x, .int p0, .ref ou]) (zQi D (va_A [(x, .inr (0, [.ref wa, .int (nI wn1), .ref ra, .ref ma, .ref ua, .ref oa, .int ph, .int dn, .int nx, .int fo]))] sz) (fun r (_ : Unit) => r = 1) (fun _ => (1, 6)) (fun _ => [(x, .inr (0, [.ref wa, .int (nI wn1), .ref ra, .ref ma, .ref ua, .ref oa, .int ph, .int dn, .int nx, .int fo]))])) (va_A [(x, .inr (0, [.ref wa, .int (nI wn1), .ref ra, .ref ma, .ref ua, .ref oa, .int ph, .int dn, .int nx, .int fo]))] sz) := by
  refine zstartH (Qc := fun A => zQi D A (fun r (_ : Unit) => r = 1) (fun _ => (1, 6)) (fun _ => [(x, .inr (0, [.ref wa, .int (nI wn1), .ref ra, .ref ma, .ref ua, .ref oa, .int ph, .int dn, .int nx, .int fo]))])) (by decide) (Nat.le_of_ble_eq_true rfl) ?_
  intro p e s m below meth c ls A hE hr hlocks hin htab hst hsz hK hP hD hS hA hAe hl
  have hx := hE.1
  have hb := hE.2.1
  have hown := hE.2.2.2.1
  have hw := hE.2.2.2.2
  have hl : lv_has ls 4 [(0, .ref x), (1, .int p0), (2, .ref ou)] := hl
  refine lv_aload_n hx hb d_La_word_0 rfl (lv_at hl 2 rfl) ?_
  refine lv_iconst (v := 0) hx hb d_La_word_1 (by decide) ?_
  refine lv_aload_n hx hb d_La_word_2 rfl (lv_at hl 0 rfl) ?_
  refine lv_iload_n hx hb d_La_word_3 rfl (lv_at hl 1 rfl) ?_
  refine xcall1 (As := [.int p0]) (rest := [.int 0, .ref ou]) hE (t_Rv_word l htr D cI cB cJ _ p0 x wa (nI wn1) ra ma ua oa ph dn nx fo ht) cb_Rv_word lr_La_7 in_Rv_word se_Rv_word (xpreV (q0 := 0) hst (fun q c h => h) hK hP hD rfl rfl rfl [0] rfl rfl rfl) ⟨Nat.le_of_ble_eq_true rfl, Nat.le_of_ble_eq_true rfl, Nat.le_of_ble_eq_true rfl, Nat.le_of_ble_eq_true rfl⟩ rfl hl.1 rfl (Nat.le_of_ble_eq_true rfl) d_La_word_4 htab rfl (by decide) cl_La_13 ca_ISE (fun ax H1 hz1 hk1 => ?_)
  have hP := hkept hP hk1
  have hS : va_S A s.heap H1 [] := ⟨hz1, fun q h1 _ => hk1 q h1, hS.2.2⟩
  refine lv_astore_n (lv' := [(3, .ref ax), (0, .ref x), (1, .int p0), (2, .ref ou)]) hx hb d_La_word_12 rfl hl (by decide) rfl (fun ls hl => ?_)
  refine lv_iconst (v := 1) hx hb d_La_word_13 (by decide) ?_
  have hP9 := hP.sub (ws' := [(x, .inr (0, [.ref wa, .int (nI wn1), .ref ra, .ref ma, .ref ua, .ref oa, .int ph, .int dn, .int nx, .int fo]))]) [0] rfl
  have hD9 := hD.sub (ws' := [(x, .inr (0, [.ref wa, .int (nI wn1), .ref ra, .ref ma, .ref ua, .ref oa, .int ph, .int dn, .int nx, .int fo]))]) [0] rfl rfl
  exact zreti hx hb hr rfl hlocks hS () rfl rfl hP9 hD9 d_La_word_14

set_option maxHeartbeats 4000000 in
theorem h_La_change_t1 (l : Launch) (htr : l.stackTraces = false) (D : va_G) (cI cB cJ : ClassId) (sz : Nat) (x : Nat) (p0 : Int32) (p1 : Int32) (ou : Nat) (wa : Nat) (wn1 : Nat) (ra : Nat) (ma : Nat) (ua : Nat) (oa : Nat) (ph : Int32) (dn : Int32) (nx : Int32) (fo : Int32) (ht : p0.toInt < 0 ∨ (nI wn1).toInt ≤ p0.toInt) : zMet l y_La_change (zWH y_La_change b_La_change 5 (some .int) [(0, 10, 13, 19)]) { frames := 7, cells := 1, slots := 6, locals := 133 } (hPc D (zT cI cB cJ) sz [(x, .inr (0, [.ref wa, .int (nI wn1), .ref ra, .ref ma, .ref ua, .ref oa, .int ph, .int dn, .int nx, .int fo]))] [.ref x, .int p0, .int p1, .ref ou]) (zQi D (va_A [(x, .inr (0, [.ref wa, .int (nI wn1), .ref ra, .ref ma, .ref ua, .ref oa, .int ph, .int dn, .int nx, .int fo]))] sz) (fun r (_ : Unit) => r = 1) (fun _ => (1, 6)) (fun _ => [(x, .inr (0, [.ref wa, .int (nI wn1), .ref ra, .ref ma, .ref ua, .ref oa, .int ph, .int dn, .int nx, .int fo]))])) (va_A [(x, .inr (0, [.ref wa, .int (nI wn1), .ref ra, .ref ma, .ref ua, .ref oa, .int ph, .int dn, .int nx, .int fo]))] sz) := by
  refine zstartH (Qc := fun A => zQi D A (fun r (_ : Unit) => r = 1) (fun _ => (1, 6)) (fun _ => [(x, .inr (0, [.ref wa, .int (nI wn1), .ref ra, .ref ma, .ref ua, .ref oa, .int ph, .int dn, .int nx, .int fo]))])) (by decide) (Nat.le_of_ble_eq_true rfl) ?_
  intro p e s m below meth c ls A hE hr hlocks hin htab hst hsz hK hP hD hS hA hAe hl
  have hx := hE.1
  have hb := hE.2.1
  have hown := hE.2.2.2.1
  have hw := hE.2.2.2.2
  have hl : lv_has ls 5 [(0, .ref x), (1, .int p0), (2, .int p1), (3, .ref ou)] := hl
  refine lv_aload_n hx hb d_La_change_0 rfl (lv_at hl 3 rfl) ?_
  refine lv_iconst (v := 0) hx hb d_La_change_1 (by decide) ?_
  refine lv_aload_n hx hb d_La_change_2 rfl (lv_at hl 0 rfl) ?_
  refine lv_iload_n hx hb d_La_change_3 rfl (lv_at hl 1 rfl) ?_
  refine lv_iload_n hx hb d_La_change_4 rfl (lv_at hl 2 rfl) ?_
  refine xcall1 (As := [.int p0, .int p1]) (rest := [.int 0, .ref ou]) hE (t_Rv_change l htr D cI cB cJ _ p0 p1 x wa (nI wn1) ra ma ua oa ph dn nx fo ht) cb_Rv_change lr_La_15 in_Rv_change se_Rv_change (xpreV (q0 := 0) hst (fun q c h => h) hK hP hD rfl rfl rfl [0] rfl rfl rfl) ⟨Nat.le_of_ble_eq_true rfl, Nat.le_of_ble_eq_true rfl, Nat.le_of_ble_eq_true rfl, Nat.le_of_ble_eq_true rfl⟩ rfl hl.1 rfl (Nat.le_of_ble_eq_true rfl) d_La_change_5 htab rfl (by decide) cl_La_19 ca_IOB (fun ax H1 hz1 hk1 => ?_)
  have hP := hkept hP hk1
  have hS : va_S A s.heap H1 [] := ⟨hz1, fun q h1 _ => hk1 q h1, hS.2.2⟩
  refine lv_astore (lv' := [(4, .ref ax), (0, .ref x), (1, .int p0), (2, .int p1), (3, .ref ou)]) hx hb d_La_change_13 hl (by decide) rfl (fun ls hl => ?_)
  refine lv_iconst (v := 1) hx hb d_La_change_15 (by decide) ?_
  have hP9 := hP.sub (ws' := [(x, .inr (0, [.ref wa, .int (nI wn1), .ref ra, .ref ma, .ref ua, .ref oa, .int ph, .int dn, .int nx, .int fo]))]) [0] rfl
  have hD9 := hD.sub (ws' := [(x, .inr (0, [.ref wa, .int (nI wn1), .ref ra, .ref ma, .ref ua, .ref oa, .int ph, .int dn, .int nx, .int fo]))]) [0] rfl rfl
  exact zreti hx hb hr rfl hlocks hS () rfl rfl hP9 hD9 d_La_change_16

set_option maxHeartbeats 4000000 in
theorem h_La_begin_t1 (l : Launch) (htr : l.stackTraces = false) (D : va_G) (cI cB cJ : ClassId) (sz : Nat) (x : Nat) (p0 : Int32) (wa : Nat) (wn1 : Nat) (ra : Nat) (ma : Nat) (ua : Nat) (oa : Nat) (ph : Int32) (dn : Int32) (nx : Int32) (fo : Int32) (ht : p0.toInt < 0 ∨ (nI wn1).toInt ≤ p0.toInt) : zMet l y_La_begin (zWH y_La_begin b_La_begin 3 (some .int) [(0, 5, 8, 19)]) { frames := 7, cells := 1, slots := 6, locals := 131 } (hPc D (zT cI cB cJ) sz [(x, .inr (0, [.ref wa, .int (nI wn1), .ref ra, .ref ma, .ref ua, .ref oa, .int ph, .int dn, .int nx, .int fo]))] [.ref x, .int p0]) (zQi D (va_A [(x, .inr (0, [.ref wa, .int (nI wn1), .ref ra, .ref ma, .ref ua, .ref oa, .int ph, .int dn, .int nx, .int fo]))] sz) (fun r (_ : Unit) => r = 1) (fun _ => (1, 6)) (fun _ => [(x, .inr (0, [.ref wa, .int (nI wn1), .ref ra, .ref ma, .ref ua, .ref oa, .int ph, .int dn, .int nx, .int fo]))])) (va_A [(x, .inr (0, [.ref wa, .int (nI wn1), .ref ra, .ref ma, .ref ua, .ref oa, .int ph, .int dn, .int nx, .int fo]))] sz) := by
  refine zstartH (Qc := fun A => zQi D A (fun r (_ : Unit) => r = 1) (fun _ => (1, 6)) (fun _ => [(x, .inr (0, [.ref wa, .int (nI wn1), .ref ra, .ref ma, .ref ua, .ref oa, .int ph, .int dn, .int nx, .int fo]))])) (by decide) (Nat.le_of_ble_eq_true rfl) ?_
  intro p e s m below meth c ls A hE hr hlocks hin htab hst hsz hK hP hD hS hA hAe hl
  have hx := hE.1
  have hb := hE.2.1
  have hown := hE.2.2.2.1
  have hw := hE.2.2.2.2
  have hl : lv_has ls 3 [(0, .ref x), (1, .int p0)] := hl
  refine lv_aload_n hx hb d_La_begin_0 rfl (lv_at hl 0 rfl) ?_
  refine lv_iload_n hx hb d_La_begin_1 rfl (lv_at hl 1 rfl) ?_
  refine xcall1 (As := [.int p0]) (rest := []) hE (t_Rv_begin l htr D cI cB cJ _ p0 x wa (nI wn1) ra ma ua oa ph dn nx fo ht) cb_Rv_begin lr_La_21 in_Rv_begin se_Rv_begin (xpreV (q0 := 0) hst (fun q c h => h) hK hP hD rfl rfl rfl [0] rfl rfl rfl) ⟨Nat.le_of_ble_eq_true rfl, Nat.le_of_ble_eq_true rfl, Nat.le_of_ble_eq_true rfl, Nat.le_of_ble_eq_true rfl⟩ rfl hl.1 rfl (Nat.le_of_ble_eq_true rfl) d_La_begin_2 htab rfl (by decide) cl_La_19 ca_IOB (fun ax H1 hz1 hk1 => ?_)
  have hP := hkept hP hk1
  have hS : va_S A s.heap H1 [] := ⟨hz1, fun q h1 _ => hk1 q h1, hS.2.2⟩
  refine lv_astore_n (lv' := [(2, .ref ax), (0, .ref x), (1, .int p0)]) hx hb d_La_begin_8 rfl hl (by decide) rfl (fun ls hl => ?_)
  refine lv_iconst (v := 1) hx hb d_La_begin_9 (by decide) ?_
  have hP9 := hP.sub (ws' := [(x, .inr (0, [.ref wa, .int (nI wn1), .ref ra, .ref ma, .ref ua, .ref oa, .int ph, .int dn, .int nx, .int fo]))]) [0] rfl
  have hD9 := hD.sub (ws' := [(x, .inr (0, [.ref wa, .int (nI wn1), .ref ra, .ref ma, .ref ua, .ref oa, .int ph, .int dn, .int nx, .int fo]))]) [0] rfl rfl
  exact zreti hx hb hr rfl hlocks hS () rfl rfl hP9 hD9 d_La_begin_10

set_option maxHeartbeats 4000000 in
theorem h_La_run_t1 (l : Launch) (htr : l.stackTraces = false) (D : va_G) (cI cB cJ : ClassId) (sz : Nat) (x : Nat) (p0 : Int32) (ou : Nat) (wa : Nat) (wn1 : Nat) (ra : Nat) (ma : Nat) (ua : Nat) (oa : Nat) (ph : Int32) (dn : Int32) (nx : Int32) (fo : Int32) (ht : p0.toInt < 1 ∨ 10000 < p0.toInt) : zMet l y_La_run (zWH y_La_run b_La_run 4 (some .int) [(0, 9, 12, 28), (0, 9, 15, 13)]) { frames := 9, cells := 1, slots := 6, locals := 234 } (hPc D (zT cI cB cJ) sz [(x, .inr (0, [.ref wa, .int (nI wn1), .ref ra, .ref ma, .ref ua, .ref oa, .int ph, .int dn, .int nx, .int fo]))] [.ref x, .int p0, .ref ou]) (zQi D (va_A [(x, .inr (0, [.ref wa, .int (nI wn1), .ref ra, .ref ma, .ref ua, .ref oa, .int ph, .int dn, .int nx, .int fo]))] sz) (fun r (_ : Unit) => r = 1) (fun _ => (1, 6)) (fun _ => [(x, .inr (0, [.ref wa, .int (nI wn1), .ref ra, .ref ma, .ref ua, .ref oa, .int ph, .int dn, .int nx, .int fo]))])) (va_A [(x, .inr (0, [.ref wa, .int (nI wn1), .ref ra, .ref ma, .ref ua, .ref oa, .int ph, .int dn, .int nx, .int fo]))] sz) := by
  refine zstartH (Qc := fun A => zQi D A (fun r (_ : Unit) => r = 1) (fun _ => (1, 6)) (fun _ => [(x, .inr (0, [.ref wa, .int (nI wn1), .ref ra, .ref ma, .ref ua, .ref oa, .int ph, .int dn, .int nx, .int fo]))])) (by decide) (Nat.le_of_ble_eq_true rfl) ?_
  intro p e s m below meth c ls A hE hr hlocks hin htab hst hsz hK hP hD hS hA hAe hl
  have hx := hE.1
  have hb := hE.2.1
  have hown := hE.2.2.2.1
  have hw := hE.2.2.2.2
  have hl : lv_has ls 4 [(0, .ref x), (1, .int p0), (2, .ref ou)] := hl
  refine lv_aload_n hx hb d_La_run_0 rfl (lv_at hl 2 rfl) ?_
  refine lv_iconst (v := 0) hx hb d_La_run_1 (by decide) ?_
  refine lv_aload_n hx hb d_La_run_2 rfl (lv_at hl 0 rfl) ?_
  refine lv_iload_n hx hb d_La_run_3 rfl (lv_at hl 1 rfl) ?_
  refine xcall1 (As := [.int p0]) (rest := [.int 0, .ref ou]) hE (t_Rv_run1 l htr D cI cB cJ _ p0 x wa (nI wn1) ra ma ua oa ph dn nx fo ht) cb_Rv_run lr_La_25 in_Rv_run se_Rv_run (xpreV (q0 := 0) hst (fun q c h => h) hK hP hD rfl rfl rfl [0] rfl rfl rfl) ⟨Nat.le_of_ble_eq_true rfl, Nat.le_of_ble_eq_true rfl, Nat.le_of_ble_eq_true rfl, Nat.le_of_ble_eq_true rfl⟩ rfl hl.1 rfl (Nat.le_of_ble_eq_true rfl) d_La_run_4 htab rfl (by decide) cl_La_28 ca_IAE (fun ax H1 hz1 hk1 => ?_)
  have hP := hkept hP hk1
  have hS : va_S A s.heap H1 [] := ⟨hz1, fun q h1 _ => hk1 q h1, hS.2.2⟩
  refine lv_astore_n (lv' := [(3, .ref ax), (0, .ref x), (1, .int p0), (2, .ref ou)]) hx hb d_La_run_12 rfl hl (by decide) rfl (fun ls hl => ?_)
  refine lv_iconst (v := 1) hx hb d_La_run_13 (by decide) ?_
  have hP9 := hP.sub (ws' := [(x, .inr (0, [.ref wa, .int (nI wn1), .ref ra, .ref ma, .ref ua, .ref oa, .int ph, .int dn, .int nx, .int fo]))]) [0] rfl
  have hD9 := hD.sub (ws' := [(x, .inr (0, [.ref wa, .int (nI wn1), .ref ra, .ref ma, .ref ua, .ref oa, .int ph, .int dn, .int nx, .int fo]))]) [0] rfl rfl
  exact zreti hx hb hr rfl hlocks hS () rfl rfl hP9 hD9 d_La_run_14

set_option maxHeartbeats 4000000 in
theorem h_La_run_t2 (l : Launch) (htr : l.stackTraces = false) (D : va_G) (cI cB cJ : ClassId) (sz : Nat) (x : Nat) (p0 : Int32) (ou : Nat) (wa : Nat) (wn1 : Nat) (ra : Nat) (ma : Nat) (ua : Nat) (oa : Nat) (ph : Int32) (dn : Int32) (nx : Int32) (fo : Int32) (hn : 1 ≤ p0.toInt ∧ p0.toInt ≤ 10000) (ht : ph.toInt ≠ 1) : zMet l y_La_run (zWH y_La_run b_La_run 4 (some .int) [(0, 9, 12, 28), (0, 9, 15, 13)]) { frames := 9, cells := 1, slots := 6, locals := 234 } (hPc D (zT cI cB cJ) sz [(x, .inr (0, [.ref wa, .int (nI wn1), .ref ra, .ref ma, .ref ua, .ref oa, .int ph, .int dn, .int nx, .int fo]))] [.ref x, .int p0, .ref ou]) (zQi D (va_A [(x, .inr (0, [.ref wa, .int (nI wn1), .ref ra, .ref ma, .ref ua, .ref oa, .int ph, .int dn, .int nx, .int fo]))] sz) (fun r (_ : Unit) => r = 2) (fun _ => (1, 6)) (fun _ => [(x, .inr (0, [.ref wa, .int (nI wn1), .ref ra, .ref ma, .ref ua, .ref oa, .int ph, .int dn, .int nx, .int fo]))])) (va_A [(x, .inr (0, [.ref wa, .int (nI wn1), .ref ra, .ref ma, .ref ua, .ref oa, .int ph, .int dn, .int nx, .int fo]))] sz) := by
  refine zstartH (Qc := fun A => zQi D A (fun r (_ : Unit) => r = 2) (fun _ => (1, 6)) (fun _ => [(x, .inr (0, [.ref wa, .int (nI wn1), .ref ra, .ref ma, .ref ua, .ref oa, .int ph, .int dn, .int nx, .int fo]))])) (by decide) (Nat.le_of_ble_eq_true rfl) ?_
  intro p e s m below meth c ls A hE hr hlocks hin htab hst hsz hK hP hD hS hA hAe hl
  have hx := hE.1
  have hb := hE.2.1
  have hown := hE.2.2.2.1
  have hw := hE.2.2.2.2
  have hl : lv_has ls 4 [(0, .ref x), (1, .int p0), (2, .ref ou)] := hl
  refine lv_aload_n hx hb d_La_run_0 rfl (lv_at hl 2 rfl) ?_
  refine lv_iconst (v := 0) hx hb d_La_run_1 (by decide) ?_
  refine lv_aload_n hx hb d_La_run_2 rfl (lv_at hl 0 rfl) ?_
  refine lv_iload_n hx hb d_La_run_3 rfl (lv_at hl 1 rfl) ?_
  refine xcall2 (As := [.int p0]) (rest := [.int 0, .ref ou]) hE (t_Rv_run2 l htr D cI cB cJ _ p0 x wa (nI wn1) ra ma ua oa ph dn nx fo hn ht) cb_Rv_run lr_La_25 in_Rv_run se_Rv_run (xpreV (q0 := 0) hst (fun q c h => h) hK hP hD rfl rfl rfl [0] rfl rfl rfl) ⟨Nat.le_of_ble_eq_true rfl, Nat.le_of_ble_eq_true rfl, Nat.le_of_ble_eq_true rfl, Nat.le_of_ble_eq_true rfl⟩ rfl hl.1 rfl (Nat.le_of_ble_eq_true rfl) d_La_run_4 htab rfl (by decide) cl_La_28 hst.2 rfl (by decide) cl_La_13 ca_ISE (fun ax H1 hz1 hk1 => ?_)
  have hP := hkept hP hk1
  have hS : va_S A s.heap H1 [] := ⟨hz1, fun q h1 _ => hk1 q h1, hS.2.2⟩
  refine lv_astore_n (lv' := [(3, .ref ax), (0, .ref x), (1, .int p0), (2, .ref ou)]) hx hb d_La_run_15 rfl hl (by decide) rfl (fun ls hl => ?_)
  refine lv_iconst (v := 2) hx hb d_La_run_16 (by decide) ?_
  have hP9 := hP.sub (ws' := [(x, .inr (0, [.ref wa, .int (nI wn1), .ref ra, .ref ma, .ref ua, .ref oa, .int ph, .int dn, .int nx, .int fo]))]) [0] rfl
  have hD9 := hD.sub (ws' := [(x, .inr (0, [.ref wa, .int (nI wn1), .ref ra, .ref ma, .ref ua, .ref oa, .int ph, .int dn, .int nx, .int fo]))]) [0] rfl rfl
  exact zreti hx hb hr rfl hlocks hS () rfl rfl hP9 hD9 d_La_run_17

set_option maxHeartbeats 4000000 in
theorem h_La_register_t1 (l : Launch) (htr : l.stackTraces = false) (D : va_G) (cI cB cJ : ClassId) (sz : Nat) (x : Nat) (p0 : Int32) (ou : Nat) (wa : Nat) (wn1 : Nat) (ra : Nat) (ma : Nat) (ua : Nat) (oa : Nat) (ph : Int32) (dn : Int32) (nx : Int32) (fo : Int32) (ht : p0.toInt < 0 ∨ 32 < p0.toInt) : zMet l y_La_register (zWH y_La_register b_La_register 4 (some .int) [(0, 9, 12, 19)]) { frames := 7, cells := 1, slots := 6, locals := 131 } (hPc D (zT cI cB cJ) sz [(x, .inr (0, [.ref wa, .int (nI wn1), .ref ra, .ref ma, .ref ua, .ref oa, .int ph, .int dn, .int nx, .int fo]))] [.ref x, .int p0, .ref ou]) (zQi D (va_A [(x, .inr (0, [.ref wa, .int (nI wn1), .ref ra, .ref ma, .ref ua, .ref oa, .int ph, .int dn, .int nx, .int fo]))] sz) (fun r (_ : Unit) => r = 1) (fun _ => (1, 6)) (fun _ => [(x, .inr (0, [.ref wa, .int (nI wn1), .ref ra, .ref ma, .ref ua, .ref oa, .int ph, .int dn, .int nx, .int fo]))])) (va_A [(x, .inr (0, [.ref wa, .int (nI wn1), .ref ra, .ref ma, .ref ua, .ref oa, .int ph, .int dn, .int nx, .int fo]))] sz) := by
  refine zstartH (Qc := fun A => zQi D A (fun r (_ : Unit) => r = 1) (fun _ => (1, 6)) (fun _ => [(x, .inr (0, [.ref wa, .int (nI wn1), .ref ra, .ref ma, .ref ua, .ref oa, .int ph, .int dn, .int nx, .int fo]))])) (by decide) (Nat.le_of_ble_eq_true rfl) ?_
  intro p e s m below meth c ls A hE hr hlocks hin htab hst hsz hK hP hD hS hA hAe hl
  have hx := hE.1
  have hb := hE.2.1
  have hown := hE.2.2.2.1
  have hw := hE.2.2.2.2
  have hl : lv_has ls 4 [(0, .ref x), (1, .int p0), (2, .ref ou)] := hl
  refine lv_aload_n hx hb d_La_register_0 rfl (lv_at hl 2 rfl) ?_
  refine lv_iconst (v := 0) hx hb d_La_register_1 (by decide) ?_
  refine lv_aload_n hx hb d_La_register_2 rfl (lv_at hl 0 rfl) ?_
  refine lv_iload_n hx hb d_La_register_3 rfl (lv_at hl 1 rfl) ?_
  refine xcall1 (As := [.int p0]) (rest := [.int 0, .ref ou]) hE (t_Rv_register l htr D cI cB cJ _ p0 x wa (nI wn1) ra ma ua oa ph dn nx fo ht) cb_Rv_register lr_La_30 in_Rv_register se_Rv_register (xpreV (q0 := 0) hst (fun q c h => h) hK hP hD rfl rfl rfl [0] rfl rfl rfl) ⟨Nat.le_of_ble_eq_true rfl, Nat.le_of_ble_eq_true rfl, Nat.le_of_ble_eq_true rfl, Nat.le_of_ble_eq_true rfl⟩ rfl hl.1 rfl (Nat.le_of_ble_eq_true rfl) d_La_register_4 htab rfl (by decide) cl_La_19 ca_IOB (fun ax H1 hz1 hk1 => ?_)
  have hP := hkept hP hk1
  have hS : va_S A s.heap H1 [] := ⟨hz1, fun q h1 _ => hk1 q h1, hS.2.2⟩
  refine lv_astore_n (lv' := [(3, .ref ax), (0, .ref x), (1, .int p0), (2, .ref ou)]) hx hb d_La_register_12 rfl hl (by decide) rfl (fun ls hl => ?_)
  refine lv_iconst (v := 1) hx hb d_La_register_13 (by decide) ?_
  have hP9 := hP.sub (ws' := [(x, .inr (0, [.ref wa, .int (nI wn1), .ref ra, .ref ma, .ref ua, .ref oa, .int ph, .int dn, .int nx, .int fo]))]) [0] rfl
  have hD9 := hD.sub (ws' := [(x, .inr (0, [.ref wa, .int (nI wn1), .ref ra, .ref ma, .ref ua, .ref oa, .int ph, .int dn, .int nx, .int fo]))]) [0] rfl rfl
  exact zreti hx hb hr rfl hlocks hS () rfl rfl hP9 hD9 d_La_register_14

set_option maxHeartbeats 4000000 in
theorem h_La_set_t1 (l : Launch) (htr : l.stackTraces = false) (D : va_G) (cI cB cJ : ClassId) (sz : Nat) (x : Nat) (p0 : Int32) (p1 : Int32) (ou : Nat) (wa : Nat) (wn1 : Nat) (ra : Nat) (ma : Nat) (ua : Nat) (oa : Nat) (ph : Int32) (dn : Int32) (nx : Int32) (fo : Int32) (ht : p0.toInt < 1 ∨ 31 < p0.toInt) : zMet l y_La_set (zWH y_La_set b_La_set 5 (some .int) [(0, 10, 13, 19)]) { frames := 7, cells := 1, slots := 6, locals := 133 } (hPc D (zT cI cB cJ) sz [(x, .inr (0, [.ref wa, .int (nI wn1), .ref ra, .ref ma, .ref ua, .ref oa, .int ph, .int dn, .int nx, .int fo]))] [.ref x, .int p0, .int p1, .ref ou]) (zQi D (va_A [(x, .inr (0, [.ref wa, .int (nI wn1), .ref ra, .ref ma, .ref ua, .ref oa, .int ph, .int dn, .int nx, .int fo]))] sz) (fun r (_ : Unit) => r = 1) (fun _ => (1, 6)) (fun _ => [(x, .inr (0, [.ref wa, .int (nI wn1), .ref ra, .ref ma, .ref ua, .ref oa, .int ph, .int dn, .int nx, .int fo]))])) (va_A [(x, .inr (0, [.ref wa, .int (nI wn1), .ref ra, .ref ma, .ref ua, .ref oa, .int ph, .int dn, .int nx, .int fo]))] sz) := by
  refine zstartH (Qc := fun A => zQi D A (fun r (_ : Unit) => r = 1) (fun _ => (1, 6)) (fun _ => [(x, .inr (0, [.ref wa, .int (nI wn1), .ref ra, .ref ma, .ref ua, .ref oa, .int ph, .int dn, .int nx, .int fo]))])) (by decide) (Nat.le_of_ble_eq_true rfl) ?_
  intro p e s m below meth c ls A hE hr hlocks hin htab hst hsz hK hP hD hS hA hAe hl
  have hx := hE.1
  have hb := hE.2.1
  have hown := hE.2.2.2.1
  have hw := hE.2.2.2.2
  have hl : lv_has ls 5 [(0, .ref x), (1, .int p0), (2, .int p1), (3, .ref ou)] := hl
  refine lv_aload_n hx hb d_La_set_0 rfl (lv_at hl 3 rfl) ?_
  refine lv_iconst (v := 0) hx hb d_La_set_1 (by decide) ?_
  refine lv_aload_n hx hb d_La_set_2 rfl (lv_at hl 0 rfl) ?_
  refine lv_iload_n hx hb d_La_set_3 rfl (lv_at hl 1 rfl) ?_
  refine lv_iload_n hx hb d_La_set_4 rfl (lv_at hl 2 rfl) ?_
  refine xcall1 (As := [.int p0, .int p1]) (rest := [.int 0, .ref ou]) hE (t_Rv_set l htr D cI cB cJ _ p0 p1 x wa (nI wn1) ra ma ua oa ph dn nx fo ht) cb_Rv_set lr_La_33 in_Rv_set se_Rv_set (xpreV (q0 := 0) hst (fun q c h => h) hK hP hD rfl rfl rfl [0] rfl rfl rfl) ⟨Nat.le_of_ble_eq_true rfl, Nat.le_of_ble_eq_true rfl, Nat.le_of_ble_eq_true rfl, Nat.le_of_ble_eq_true rfl⟩ rfl hl.1 rfl (Nat.le_of_ble_eq_true rfl) d_La_set_5 htab rfl (by decide) cl_La_19 ca_IOB (fun ax H1 hz1 hk1 => ?_)
  have hP := hkept hP hk1
  have hS : va_S A s.heap H1 [] := ⟨hz1, fun q h1 _ => hk1 q h1, hS.2.2⟩
  refine lv_astore (lv' := [(4, .ref ax), (0, .ref x), (1, .int p0), (2, .int p1), (3, .ref ou)]) hx hb d_La_set_13 hl (by decide) rfl (fun ls hl => ?_)
  refine lv_iconst (v := 1) hx hb d_La_set_15 (by decide) ?_
  have hP9 := hP.sub (ws' := [(x, .inr (0, [.ref wa, .int (nI wn1), .ref ra, .ref ma, .ref ua, .ref oa, .int ph, .int dn, .int nx, .int fo]))]) [0] rfl
  have hD9 := hD.sub (ws' := [(x, .inr (0, [.ref wa, .int (nI wn1), .ref ra, .ref ma, .ref ua, .ref oa, .int ph, .int dn, .int nx, .int fo]))]) [0] rfl rfl
  exact zreti hx hb hr rfl hlocks hS () rfl rfl hP9 hD9 d_La_set_16

set_option maxHeartbeats 4000000 in
theorem h_La_input_t1 (l : Launch) (htr : l.stackTraces = false) (D : va_G) (cI cB cJ : ClassId) (sz : Nat) (x : Nat) (w : Int64) (p1 : Int32) (ou : Nat) (wa : Nat) (wn1 : Nat) (ra : Nat) (ma : Nat) (ua : Nat) (oa : Nat) (ph : Int32) (dn : Int32) (nx : Int32) (fo : Int32) (ht : p1.toInt < 0 ∨ 8 < p1.toInt) : zMet l y_La_input (zWH y_La_input b_La_input 6 (some .int) [(0, 11, 14, 28), (0, 11, 18, 13)]) { frames := 7, cells := 1, slots := 6, locals := 134 } (hPc D (zT cI cB cJ) sz [(x, .inr (0, [.ref wa, .int (nI wn1), .ref ra, .ref ma, .ref ua, .ref oa, .int ph, .int dn, .int nx, .int fo]))] [.ref x, .long w, .int p1, .ref ou]) (zQi D (va_A [(x, .inr (0, [.ref wa, .int (nI wn1), .ref ra, .ref ma, .ref ua, .ref oa, .int ph, .int dn, .int nx, .int fo]))] sz) (fun r (_ : Unit) => r = 1) (fun _ => (1, 6)) (fun _ => [(x, .inr (0, [.ref wa, .int (nI wn1), .ref ra, .ref ma, .ref ua, .ref oa, .int ph, .int dn, .int nx, .int fo]))])) (va_A [(x, .inr (0, [.ref wa, .int (nI wn1), .ref ra, .ref ma, .ref ua, .ref oa, .int ph, .int dn, .int nx, .int fo]))] sz) := by
  refine zstartH (Qc := fun A => zQi D A (fun r (_ : Unit) => r = 1) (fun _ => (1, 6)) (fun _ => [(x, .inr (0, [.ref wa, .int (nI wn1), .ref ra, .ref ma, .ref ua, .ref oa, .int ph, .int dn, .int nx, .int fo]))])) (by decide) (Nat.le_of_ble_eq_true rfl) ?_
  intro p e s m below meth c ls A hE hr hlocks hin htab hst hsz hK hP hD hS hA hAe hl
  have hx := hE.1
  have hb := hE.2.1
  have hown := hE.2.2.2.1
  have hw := hE.2.2.2.2
  have hl : lv_has ls 6 [(0, .ref x), (1, .long w), (3, .int p1), (4, .ref ou)] := hl
  refine lv_aload hx hb d_La_input_0 (lv_at hl 3 rfl) ?_
  refine lv_iconst (v := 0) hx hb d_La_input_2 (by decide) ?_
  refine lv_aload_n hx hb d_La_input_3 rfl (lv_at hl 0 rfl) ?_
  refine lv_lload_n hx hb d_La_input_4 rfl (lv_at hl 1 rfl) ?_
  refine lv_iload_n hx hb d_La_input_5 rfl (lv_at hl 2 rfl) ?_
  refine xcall1 (As := [.long w, .int p1]) (rest := [.int 0, .ref ou]) hE (t_Rv_input1 l htr D cI cB cJ _ w p1 x wa (nI wn1) ra ma ua oa ph dn nx fo ht) cb_Rv_input lr_La_36 in_Rv_input se_Rv_input (xpreV (q0 := 0) hst (fun q c h => h) hK hP hD rfl rfl rfl [0] rfl rfl rfl) ⟨Nat.le_of_ble_eq_true rfl, Nat.le_of_ble_eq_true rfl, Nat.le_of_ble_eq_true rfl, Nat.le_of_ble_eq_true rfl⟩ rfl hl.1 rfl (Nat.le_of_ble_eq_true rfl) d_La_input_6 htab rfl (by decide) cl_La_28 ca_IAE (fun ax H1 hz1 hk1 => ?_)
  have hP := hkept hP hk1
  have hS : va_S A s.heap H1 [] := ⟨hz1, fun q h1 _ => hk1 q h1, hS.2.2⟩
  refine lv_astore (lv' := [(5, .ref ax), (0, .ref x), (1, .long w), (3, .int p1), (4, .ref ou)]) hx hb d_La_input_14 hl (by decide) rfl (fun ls hl => ?_)
  refine lv_iconst (v := 1) hx hb d_La_input_16 (by decide) ?_
  have hP9 := hP.sub (ws' := [(x, .inr (0, [.ref wa, .int (nI wn1), .ref ra, .ref ma, .ref ua, .ref oa, .int ph, .int dn, .int nx, .int fo]))]) [0] rfl
  have hD9 := hD.sub (ws' := [(x, .inr (0, [.ref wa, .int (nI wn1), .ref ra, .ref ma, .ref ua, .ref oa, .int ph, .int dn, .int nx, .int fo]))]) [0] rfl rfl
  exact zreti hx hb hr rfl hlocks hS () rfl rfl hP9 hD9 d_La_input_17

set_option maxHeartbeats 4000000 in
theorem h_La_input_t2 (l : Launch) (htr : l.stackTraces = false) (D : va_G) (cI cB cJ : ClassId) (sz : Nat) (x : Nat) (w : Int64) (p1 : Int32) (ou : Nat) (wa : Nat) (wn1 : Nat) (ra : Nat) (ma : Nat) (ua : Nat) (oa : Nat) (ph : Int32) (dn : Int32) (nx : Int32) (fo : Int32) (ur : Nat) (ui : Nat) (uh : Nat) (huh : uh ≤ 1000) (hn : 0 ≤ p1.toInt ∧ p1.toInt ≤ 8) (ht : 1000 < (uh : Int) + p1.toInt) : zMet l y_La_input (zWH y_La_input b_La_input 6 (some .int) [(0, 11, 14, 28), (0, 11, 18, 13)]) { frames := 7, cells := 1, slots := 6, locals := 134 } (hPc D (zT cI cB cJ) sz [(x, .inr (0, [.ref wa, .int (nI wn1), .ref ra, .ref ma, .ref ua, .ref oa, .int ph, .int dn, .int nx, .int fo])), (ua, .inr (2, [.ref ur, .int (nI ui), .int (nI uh)]))] [.ref x, .long w, .int p1, .ref ou]) (zQi D (va_A [(x, .inr (0, [.ref wa, .int (nI wn1), .ref ra, .ref ma, .ref ua, .ref oa, .int ph, .int dn, .int nx, .int fo])), (ua, .inr (2, [.ref ur, .int (nI ui), .int (nI uh)]))] sz) (fun r (_ : Unit) => r = 2) (fun _ => (1, 6)) (fun _ => [(x, .inr (0, [.ref wa, .int (nI wn1), .ref ra, .ref ma, .ref ua, .ref oa, .int ph, .int dn, .int nx, .int fo])), (ua, .inr (2, [.ref ur, .int (nI ui), .int (nI uh)]))])) (va_A [(x, .inr (0, [.ref wa, .int (nI wn1), .ref ra, .ref ma, .ref ua, .ref oa, .int ph, .int dn, .int nx, .int fo])), (ua, .inr (2, [.ref ur, .int (nI ui), .int (nI uh)]))] sz) := by
  refine zstartH (Qc := fun A => zQi D A (fun r (_ : Unit) => r = 2) (fun _ => (1, 6)) (fun _ => [(x, .inr (0, [.ref wa, .int (nI wn1), .ref ra, .ref ma, .ref ua, .ref oa, .int ph, .int dn, .int nx, .int fo])), (ua, .inr (2, [.ref ur, .int (nI ui), .int (nI uh)]))])) (by decide) (Nat.le_of_ble_eq_true rfl) ?_
  intro p e s m below meth c ls A hE hr hlocks hin htab hst hsz hK hP hD hS hA hAe hl
  have hx := hE.1
  have hb := hE.2.1
  have hown := hE.2.2.2.1
  have hw := hE.2.2.2.2
  have hl : lv_has ls 6 [(0, .ref x), (1, .long w), (3, .int p1), (4, .ref ou)] := hl
  refine lv_aload hx hb d_La_input_0 (lv_at hl 3 rfl) ?_
  refine lv_iconst (v := 0) hx hb d_La_input_2 (by decide) ?_
  refine lv_aload_n hx hb d_La_input_3 rfl (lv_at hl 0 rfl) ?_
  refine lv_lload_n hx hb d_La_input_4 rfl (lv_at hl 1 rfl) ?_
  refine lv_iload_n hx hb d_La_input_5 rfl (lv_at hl 2 rfl) ?_
  refine xcall2 (As := [.long w, .int p1]) (rest := [.int 0, .ref ou]) hE (t_Rv_input2 l htr D cI cB cJ _ w p1 x wa (nI wn1) ra ma ua oa ph dn nx fo ur ui uh huh hn ht) cb_Rv_input lr_La_36 in_Rv_input se_Rv_input (xpreV (q0 := 0) hst (fun q c h => h) hK hP hD rfl rfl rfl [0, 1] rfl rfl rfl) ⟨Nat.le_of_ble_eq_true rfl, Nat.le_of_ble_eq_true rfl, Nat.le_of_ble_eq_true rfl, Nat.le_of_ble_eq_true rfl⟩ rfl hl.1 rfl (Nat.le_of_ble_eq_true rfl) d_La_input_6 htab rfl (by decide) cl_La_28 hst.2 rfl (by decide) cl_La_13 ca_ISE (fun ax H1 hz1 hk1 => ?_)
  have hP := hkept hP hk1
  have hS : va_S A s.heap H1 [] := ⟨hz1, fun q h1 _ => hk1 q h1, hS.2.2⟩
  refine lv_astore (lv' := [(5, .ref ax), (0, .ref x), (1, .long w), (3, .int p1), (4, .ref ou)]) hx hb d_La_input_18 hl (by decide) rfl (fun ls hl => ?_)
  refine lv_iconst (v := 2) hx hb d_La_input_20 (by decide) ?_
  have hP9 := hP.sub (ws' := [(x, .inr (0, [.ref wa, .int (nI wn1), .ref ra, .ref ma, .ref ua, .ref oa, .int ph, .int dn, .int nx, .int fo])), (ua, .inr (2, [.ref ur, .int (nI ui), .int (nI uh)]))]) [0, 1] rfl
  have hD9 := hD.sub (ws' := [(x, .inr (0, [.ref wa, .int (nI wn1), .ref ra, .ref ma, .ref ua, .ref oa, .int ph, .int dn, .int nx, .int fo])), (ua, .inr (2, [.ref ur, .int (nI ui), .int (nI uh)]))]) [0, 1] rfl rfl
  exact zreti hx hb hr rfl hlocks hS () rfl rfl hP9 hD9 d_La_input_21

set_option maxHeartbeats 4000000 in
theorem h_La_count_t1 (l : Launch) (htr : l.stackTraces = false) (D : va_G) (cI cB cJ : ClassId) (sz : Nat) (x : Nat) (p0 : Int32) (ou : Nat) (wa : Nat) (wn1 : Nat) (ra : Nat) (ma : Nat) (ua : Nat) (oa : Nat) (ph : Int32) (dn : Int32) (nx : Int32) (fo : Int32) (ht : p0.toInt < 0 ∨ 6 < p0.toInt) : zMet l y_La_count (zWH y_La_count b_La_count 4 (some .int) [(0, 9, 12, 28)]) { frames := 7, cells := 1, slots := 6, locals := 131 } (hPc D (zT cI cB cJ) sz [(x, .inr (0, [.ref wa, .int (nI wn1), .ref ra, .ref ma, .ref ua, .ref oa, .int ph, .int dn, .int nx, .int fo]))] [.ref x, .int p0, .ref ou]) (zQi D (va_A [(x, .inr (0, [.ref wa, .int (nI wn1), .ref ra, .ref ma, .ref ua, .ref oa, .int ph, .int dn, .int nx, .int fo]))] sz) (fun r (_ : Unit) => r = 1) (fun _ => (1, 6)) (fun _ => [(x, .inr (0, [.ref wa, .int (nI wn1), .ref ra, .ref ma, .ref ua, .ref oa, .int ph, .int dn, .int nx, .int fo]))])) (va_A [(x, .inr (0, [.ref wa, .int (nI wn1), .ref ra, .ref ma, .ref ua, .ref oa, .int ph, .int dn, .int nx, .int fo]))] sz) := by
  refine zstartH (Qc := fun A => zQi D A (fun r (_ : Unit) => r = 1) (fun _ => (1, 6)) (fun _ => [(x, .inr (0, [.ref wa, .int (nI wn1), .ref ra, .ref ma, .ref ua, .ref oa, .int ph, .int dn, .int nx, .int fo]))])) (by decide) (Nat.le_of_ble_eq_true rfl) ?_
  intro p e s m below meth c ls A hE hr hlocks hin htab hst hsz hK hP hD hS hA hAe hl
  have hx := hE.1
  have hb := hE.2.1
  have hown := hE.2.2.2.1
  have hw := hE.2.2.2.2
  have hl : lv_has ls 4 [(0, .ref x), (1, .int p0), (2, .ref ou)] := hl
  refine lv_aload_n hx hb d_La_count_0 rfl (lv_at hl 2 rfl) ?_
  refine lv_iconst (v := 0) hx hb d_La_count_1 (by decide) ?_
  refine lv_aload_n hx hb d_La_count_2 rfl (lv_at hl 0 rfl) ?_
  refine lv_iload_n hx hb d_La_count_3 rfl (lv_at hl 1 rfl) ?_
  refine xcall1 (As := [.int p0]) (rest := [.int 0, .ref ou]) hE (t_Rv_count l htr D cI cB cJ _ p0 x wa (nI wn1) ra ma ua oa ph dn nx fo ht) cb_Rv_count lr_La_40 in_Rv_count se_Rv_count (xpreV (q0 := 0) hst (fun q c h => h) hK hP hD rfl rfl rfl [0] rfl rfl rfl) ⟨Nat.le_of_ble_eq_true rfl, Nat.le_of_ble_eq_true rfl, Nat.le_of_ble_eq_true rfl, Nat.le_of_ble_eq_true rfl⟩ rfl hl.1 rfl (Nat.le_of_ble_eq_true rfl) d_La_count_4 htab rfl (by decide) cl_La_28 ca_IAE (fun ax H1 hz1 hk1 => ?_)
  have hP := hkept hP hk1
  have hS : va_S A s.heap H1 [] := ⟨hz1, fun q h1 _ => hk1 q h1, hS.2.2⟩
  refine lv_astore_n (lv' := [(3, .ref ax), (0, .ref x), (1, .int p0), (2, .ref ou)]) hx hb d_La_count_12 rfl hl (by decide) rfl (fun ls hl => ?_)
  refine lv_iconst (v := 1) hx hb d_La_count_13 (by decide) ?_
  have hP9 := hP.sub (ws' := [(x, .inr (0, [.ref wa, .int (nI wn1), .ref ra, .ref ma, .ref ua, .ref oa, .int ph, .int dn, .int nx, .int fo]))]) [0] rfl
  have hD9 := hD.sub (ws' := [(x, .inr (0, [.ref wa, .int (nI wn1), .ref ra, .ref ma, .ref ua, .ref oa, .int ph, .int dn, .int nx, .int fo]))]) [0] rfl rfl
  exact zreti hx hb hr rfl hlocks hS () rfl rfl hP9 hD9 d_La_count_14
