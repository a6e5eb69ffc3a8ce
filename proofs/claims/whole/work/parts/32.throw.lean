/-! A method that throws what it has just made, and a caller that catches it (the launch keeps no stack traces). -/
section XFind
variable {e : Env} {s : State} {f : JFrame} {a : Addr}
/-- the search for a handler ends so, and leaves these tables -/
def xFinds (e : Env) (s : State) (f : JFrame) (a : Addr) (h : Handler) (vm' : Vm) : Prop :=
  ∀ (Q : Handler → Pre) (E : CtlPost) (d : Bool) (acts : List Action), wp (findHandler f a) Q E e d acts s ↔ Q h d acts (s.setVm vm')
/-- one row of the table that covers the pc and names a class: the pool's entry is linked, then the classes are compared -/
theorem xrow {Q : Handler → Pre} {E : CtlPost} {d : Bool} {acts : List Action} {x : ExceptionTableEntry} {t : List ExceptionTableEntry} {c : ClassId} {cell : Cell} (hx : covers x f.pc = true) (h0 : x.catchType ≠ 0)
    (hl : s.vm.ClassLinks e.platform f.method.cls x.catchType c) (hcell : s.heap[a]? = some cell) (hobj : ∀ k, cell.vm ≠ .statics k)
    (hk : ∃ k, s.vm.classes[cell.cls]? = some k) (hc : ∃ k, s.vm.classes[c]? = some k) :
    wp (findHandler.go f a (x :: t)) Q E e d acts s ↔
      if s.vm.assignable cell.cls c = true then Q (.found x.handlerPc) d acts (s.setVm (s.vm.noted f.method.cls x.catchType (.cls c)))
      else wp (findHandler.go f a t) Q E e d acts (s.setVm (s.vm.noted f.method.cls x.catchType (.cls c))) := by
  obtain ⟨ha, ht⟩ := (resolveClass_links e.toSetting hl).op (op := VmOp.resolveClass f.method.cls x.catchType) rfl
  have hal : s.vm.Alike (s.vm.noted f.method.cls x.catchType (.cls c)) := (Vm.Alike.refl s.vm).noted _ _ _
  obtain ⟨k1, hk1⟩ := hk
  obtain ⟨k2, hk2⟩ := hc
  obtain ⟨k1', hk1', -⟩ := hal.2.2 _ _ hk1
  obtain ⟨k2', hk2', -⟩ := hal.2.2 _ _ hk2
  have hasg : (s.vm.noted f.method.cls x.catchType (.cls c)).assignable cell.cls c = s.vm.assignable cell.cls c := hal.assignable _ _
  simp only [covers] at hx
  cases hf : s.vm.assignable cell.cls c with
  | true =>
    rw [hf] at hasg
    simp [findHandler.go, hx, h0, ha, ht, hcell, hobj, hk1', hk2', hasg, VmOp.dirties, VmOp.acts]
  | false =>
    rw [hf] at hasg
    simp [findHandler.go, hx, h0, ha, ht, hcell, hobj, hk1', hk2', hasg, VmOp.dirties, VmOp.acts]
theorem xcatch_step {r : List Frame} {pc : Nat} {vm' : Vm} (h : xFinds e s f a (.found pc) vm') :
    (stepThrowing e s a (.java f :: r)).Is ((s.setVm vm').setFrames (.java { f with pc := pc, stack := [.ref a] } :: r)) [] := by
  simp only [stepThrowing, searchFrame, vmDo]
  generalize hr : Sem.go _ e false [] s = res
  obtain ⟨as, rfl, ha⟩ := Sem.eq_ok_of hr (a := Handler.found pc) (s' := s.setVm vm') (acts' := []) (by simp [h _ _ _ _])
  exact ⟨rfl, ha⟩
theorem xcaught {tb : Tables} {target : State} {c : Code} {below : List Frame} (h : At s f.method c below) {pc : Nat} {vm' : Vm}
    (hf : xFinds e ((s.setTop f).pushFrame (.throwing a)) f a (.found pc) vm') (hrest : Steps tb e below ((s.setVm vm').setTop { f with pc := pc, stack := [.ref a] }) target) :
    Steps tb e below ((s.setTop f).pushFrame (.throwing a)) target := by
  obtain ⟨hgo, hw⟩ := h.throwing a
  refine Steps.head hgo hw ?_
  rw [stepThread_throwing (frames_entered h.top _), (xcatch_step (s := (s.setTop f).pushFrame (.throwing a)) hf).1]
  obtain ⟨g₀, hg⟩ := Option.isSome_iff_exists.mp h.top
  obtain ⟨r, hr⟩ := State.topJava?_eq_some.mp hg
  have hr' : (s.setVm vm').frames = .java g₀ :: r := hr
  have swap : ∀ (u : State) (F G : List Frame), ((u.setFrames F).setVm vm').setFrames G = (u.setVm vm').setFrames G := fun u F G => by
    have q : (u.setFrames F).setVm vm' = (u.setVm vm').setFrames F := rfl
    rw [q, State.setFrames_setFrames]
  rw [State.setTop_of_frames _ hr'] at hrest
  rw [hr, List.tail_cons, State.pushFrame, swap, State.setTop_of_frames _ hr, swap]
  exact hrest
end XFind
/-- what a throwing call leaves: a new object of the class, all that was there as it was -/
def xQ (cls : String) (st : State) (o : Outcome) (t : State) : Prop := ∃ (a : Addr) (ce : Cell), o = .threw a ∧ st.heap.size ≤ a ∧ t.heap[a]? = some ce ∧ ce.vm = .none ∧ st.vm.findClass cls = some ce.cls ∧ st.heap.size ≤ t.heap.size ∧ ∀ q : Nat, q < st.heap.size → t.heap[q]? = st.heap[q]?
def xFT (first : State) (o : Outcome) (t : State) : Prop := (∃ x, o = .threw x) ∧ first.WarmedH t.vm ∧ first.sameButNew ({ t with vm := first.vm } : State) [] 1 6
def xMet (l : Launch) (y : MethodName) (ws : List Cond) (rm : Room) (Pc : Array Value → State → Prop) (cls : String) : Prop :=
  MetFree l y (headSpec ws rm) Pc (fun _ _ _ _ _ => True) (fun _ st o t => xQ cls st o t ∧ xFT st o t)
def xMQ (below : List Frame) (cls : String) (s : State) : State → Prop := fun t => ∃ o, t.status = .running ∧ Ended t below o ∧ xQ cls s o t ∧ xFT s o t
theorem xMet.ofW {l : Launch} {y : MethodName} {ws ws' : List Cond} {rm : Room} {Pc : Array Value → State → Prop} {cls : String} {cc : ByteArray} {maxL : Nat} {ret : Option FieldType}
    (hy : plainName y.cls = true) (hw : ws = Cond.code y cc maxL ret :: ws')
    (body : ∀ p e s m args below meth c s₁, BodyLoose p l y (headSpec ws rm) cc maxL ret e s m args below meth c s₁ → c.maxLocals = maxL → Pc args s →
      W p l e (headSpec ws rm).room s m args below meth c s.heap [] 0 0 (xMQ below cls s) (entryFrame m args maxL)) : xMet l y ws rm Pc cls := by
  refine MetFree.of_bodyS (code := cc) (maxLocals := maxL) (ret := ret) hy ?_ ?_
  · intro args s m h hn
    obtain ⟨meth, c, h1, h2, h3, h4, h5, h6, -, -⟩ := Cond.code_spec hn (atoms_spec (ws := ws) h _ (by rw [hw]; exact List.mem_cons_self))
    exact ⟨meth, c, h1, h2, h3, h4, h5, h6⟩
  · intro p e s m args below meth c s₁ B hml hP _
    have hh0 : s₁.heap = s.heap := by rw [B.state]; rfl
    obtain ⟨t, a1, o, b1, b2, b3⟩ := body p e s m args below meth c s₁ B hml hP s₁ hh0 (Stand.of_body B)
    exact ⟨t, o, a1, b1, b2, b3⟩
theorem xsame {s u : State} {k n : Nat} (h : s.sameButNew u [] k n) : s.heap.size ≤ u.heap.size ∧ ∀ q : Nat, q < s.heap.size → u.heap[q]? = s.heap[q]? := by
  obtain ⟨-, h1, -, -, -, h2⟩ := h
  refine ⟨h1, fun q hq => ?_⟩
  obtain ⟨c', g1, g2, g3, g4⟩ := h2 q s.heap[q] (Array.getElem?_eq_getElem hq)
  have g5 : c'.slots = s.heap[q].slots := Array.ext_getElem? fun i => g4 i (by simp)
  rw [g1, Array.getElem?_eq_getElem hq, g2, g5]
section XThrow
variable {p : Program} {l : Launch} {e : Env} {R : Room} {s : State} {m : MethodId} {args : Array Value} {below : List Frame} {meth : Method} {c : Code} {H : Heap} {locs : List Loc} {cells slots : Nat} {Q : State → Prop}
variable {cc : ByteArray} {nL pc : Nat} {own cls : String} {ls : Array Slot} {rest : List Value}
/-- new X; dup; invokespecial X(); athrow -/
theorem xthrow (S : CallFix p m c cc nL s args zW own) (htr : l.stackTraces = false) (hlocks : meth.locks = false) (hno : c.exceptionTable.isEmpty = true) {names : List String} {idx ic : Nat}
    (hl : Cond.classLink own idx cls ∈ zW) (hi : Cond.instantiable cls 6 ∈ zW) (hini : Cond.initialized cls ∈ zW) (hf : Bundle.fit cls = true) (hfn : ∀ n ∈ names, Bundle.fit n = true) (hat : ∀ a ∈ Bundle.ownAtoms0 own ic cls names, a.before args s = true)
    (hls : ls.size = nL) (h0 : decode cc pc = .ok (.new idx, 3)) (h3 : decode cc (pc + 3) = .ok (.dup, 1)) (h4 : decode cc (pc + 4) = .ok (.invokespecial ic, 3)) (h7 : decode cc (pc + 7) = .ok (.athrow, 1))
    (hrest : (rest.map fun v => v.category).sum ≤ 8) (hR : 1 ≤ R.cells ∧ 6 ≤ R.slots ∧ names.length + 3 < R.frames ∧ 9 + (13 * (names.length + 1) + 41) ≤ R.locals) :
    W p l e R s m args below meth c s.heap [] 0 0 (xMQ below cls s) (F0 m pc ls rest) := by
  obtain ⟨hx, hb, hml, ho, hw⟩ := S
  refine W.newc hx hb ho (hw _ hl) (hw _ hi) (hw _ hini) (g := F0 m pc ls rest) rfl h0 (by omega) (by omega) (fun cC kC hfC hkC _ hnC => ?_)
  refine W.eq (g2 := F0 m (pc + 3) ls (.ref s.heap.size :: rest)) rfl ?_
  refine lv_dup hx hb h3 rfl ?_
  intro T hT X
  have htr' : e.platform.stackTraces = false := by rw [X.admits.platform]; exact htr
  subst hb
  obtain ⟨U, hsteps, hrun, hend, hWm, hsame, ce, hce, K⟩ := X.ctorThrow0 hx htr' (own := own) (cls := cls) (names := names) (ic := ic) ho hf hfn hat (fun x h => by cases h) (a := s.heap.size) (cX := cC) (kX := kC) hfC hkC
    (by rw [hT, Array.getElem?_push_size]) (Nat.le_refl _) (g := F0 m (pc + 4) ls (.ref s.heap.size :: .ref s.heap.size :: rest)) rfl (hls.trans hml.symm) rfl rfl (rest := rest) rfl h4 h7 (covers_of_empty hno _) hR.2.2.1
    (by have hr2 : ((Value.ref s.heap.size :: rest).map fun v => v.category).sum = 1 + (rest.map fun v => v.category).sum := by simp [Value.category]
        have hm0 : (F0 m (pc + 4) ls (.ref s.heap.size :: .ref s.heap.size :: rest)).monitorRoom = 0 := rfl
        rw [hr2, hm0]; have := hR.2.2.2; omega) hlocks
  have hz := xsame hsame
  exact ⟨U, hsteps, .threw s.heap.size, hrun, hend, ⟨s.heap.size, ce, rfl, Nat.le_refl _, hce, K.vm, K.cls, hz.1, hz.2⟩, ⟨⟨_, rfl⟩, hWm, hsame.weaken (fun _ h _ => h) (by omega) (by omega)⟩⟩
end XThrow
section XCall
variable {p : Program} {l : Launch} {e : Env} {R : Room} {s : State} {m : MethodId} {args : Array Value} {below : List Frame} {meth : Method} {c : Code} {H : Heap} {locs : List Loc} {cells slots : Nat} {Q : State → Prop}
variable {y : MethodName} {bytes cc : ByteArray} {maxL nL n index : Nat} {ret : Option FieldType} {rm : Room} {Pc : Array Value → State → Prop} {own cls : String} {b : Addr} {As rest st0 : List Value} {pc : Nat} {ls : Array Slot}
/-- a call that throws: the state in which the exception lies over the caller's frame -/
theorem xrunV (S : CallFix p m c cc nL s args zW own) (hM : xMet l y (zWs y bytes maxL ret) rm Pc cls) (cb : zCb y bytes maxL ret n) (lk : Cond.methodLink own index y ∈ zW) (hin : Cond.instanceMethod y ∈ zW) (hse : Cond.selects y.cls y y ∈ zW) (hp : PreV s H y.cls b Pc As) (hR : zRm R rm maxL cells slots)
    (hn : As.length = n) (hsize : ls.size = nL) (hst : st0 = As.reverse ++ .ref b :: rest) (hW : (rest.map fun v => v.category).sum ≤ 8) (hdg : decode cc pc = .ok (.invokevirtual index, 3))
    {T : State} (hT : T.heap = H) (X : Stand p l e R s m args below meth c T locs cells slots) :
    ∃ (T' : State) (a : Addr) (ce : Cell), Stand p l e R s m args below meth c T' locs (cells + 1) (slots + 6) ∧ H.size ≤ a ∧ T'.heap[a]? = some ce ∧ ce.vm = .none ∧ s.vm.findClass cls = some ce.cls ∧ H.size ≤ T'.heap.size ∧ (∀ q : Nat, q < H.size → T'.heap[q]? = H[q]?) ∧
      Steps p.tables e below (T.setTop (F0 m pc ls st0)) ((T'.setTop (F0 m pc ls rest)).pushFrame (.throwing a)) := by
  obtain ⟨hx, hb, hml, ho, hw⟩ := S
  obtain ⟨hbl, ⟨cellB, hcB, hoB, hclB⟩, hPc⟩ := hp
  subst hst
  obtain ⟨mk, methM, hnamed, hmethM, hstM, habM⟩ := Cond.instanceMethod_spec (hw _ hin)
  obtain ⟨methM', cM, hmethM', hcM, -, hlM, -, -, -, hsigM⟩ := Cond.code_spec hnamed (hw _ cb.1)
  cases hmethM.symm.trans hmethM'
  obtain ⟨c2, r2, m2, q1, q2, q3, q4, kP, hkP, hkPi⟩ := Cond.selects_spec (hw _ hse)
  cases hclB.symm.trans q1
  cases (State.methodFound?_of_named hnamed cb.2.2.1).symm.trans q2
  cases hnamed.symm.trans q3
  have hselP : selectMethod e.platform s.vm cellB.cls mk = .method mk := by rw [Launch.admits_selectMethod X.admits]; exact q4
  have hinitP : kP.init = .initialized := Cond.initialized_spec (findClass_of_methodNamed hnamed) hkP (hw _ cb.2.1)
  obtain ⟨vm₁, X₁, hstep₁⟩ := X.invokevirtual hx ho (hw _ lk) hnamed hmethM hstM hkP hkPi cb.2.2.1 (a := b) (cell := cellB) (by rw [hT]; exact hcB)
    (fun z h => by rw [h] at hoB; cases hoB) hselP hmethM habM hkP hkPi (g := F0 m pc ls (As.reverse ++ .ref b :: rest)) rfl (argsL := As) (rest := rest) (hn.trans (cb.len _ hsigM)) rfl (by rw [hb]; exact hdg)
  have ok : ∀ w ∈ zW, ∀ (a' : Array Value), w.before a' (T.setVm vm₁) = true := fun w h a' => zW_move X₁.warmed h (hw w h)
  obtain ⟨kY, hkY, hinitY⟩ : ∃ k, (T.setVm vm₁).vm.classes[mk.cls]? = some k ∧ k.init = .initialized := by
    have hnm := X₁.named hnamed
    obtain ⟨k, hk, -⟩ := className_of_methodNamed hnm
    exact ⟨k, hk, Cond.initialized_spec (findClass_of_methodNamed hnm) hk (ok _ cb.2.1 args)⟩
  have hnm := X₁.named hnamed
  obtain ⟨methY, cY, hmY, hcY, -, hlY, -, -, -, -⟩ := Cond.code_spec hnm (ok _ cb.1 (Value.ref b :: As).toArray)
  have hroom : _ := X₁.room_calling (g := F0 m pc ls rest) (args' := (Value.ref b :: As).toArray) (R' := rm) (show ls.size = c.maxLocals from hsize.trans hml.symm) hmY hcY hR.1
    (by rw [hlY]; have h8 := lv_room (m := m) (pc := pc) (ls := ls) (rest := rest) hW; have h9 : ((F0 m pc ls rest).stack.map fun v => v.category).sum = (rest.map fun v => v.category).sum := rfl; have := hR.2.1; omega) hR.2.2.1 hR.2.2.2
  have happ : (headSpec (zWs y bytes maxL ret) rm).appliesLoose y e.platform ((T.setVm vm₁).calling (F0 m pc ls rest) mk (Value.ref b :: As).toArray) = true :=
    Spec.appliesLoose_calling (g := F0 m pc ls rest) X₁.here (by rw [hb]; exact hdg) hnm hkY hinitY hroom
      (atoms_intro fun w h => by
        rcases List.mem_cons.mp h with rfl | h
        · exact ok _ cb.1 _
        · exact ok w h _)
  obtain ⟨mid, hmid⟩ := X₁.here.above
  have hfr : ((T.setVm vm₁).setTop (F0 m pc ls rest)).frames = (.java (F0 m pc ls rest) :: mid) ++ below := by rw [State.frames_setTop' (F0 m pc ls rest) X₁.here.top, hmid]; rfl
  obtain ⟨o, s₂, hsteps, -, hend, hq, hft⟩ := Steps.callFree hM p X₁.admits X₁.cas X₁.clock (acts := []) hfr happ (hbl _ _ _ _ (hPc (T.setVm vm₁) hT X₁.warmed)) trivial
  obtain ⟨a, ce, rfl, h1, h2, h3, h4, h5, h6⟩ := hq
  rw [State.frames_setTop' (F0 m pc ls rest) X₁.here.top, X₁.tail] at hend
  obtain ⟨T', X', hW', hs', ht'⟩ := X₁.outOfThrown (g := F0 m pc ls rest) rfl (mk := mk) (a := (Value.ref b :: As).toArray) hend hft.2.1 hft.2.2
  have hh : s₂.heap = T'.heap := by rw [ht']; simp [State.pushFrame, State.setFrames, State.setTop, State.modifyTopJava]
  refine ⟨T', a, ce, by simpa using X', ?_, ?_, h3, ?_, ?_, ?_, ?_⟩
  · rw [← hT]; exact h1
  · rw [← hh]; exact h2
  · rw [← X₁.warmed.alike.findClass]; exact h4
  · rw [← hh, ← hT]; exact h5
  · intro q hq
    rw [← hh, ← hT]; exact h6 q (by rw [← hT] at hq; exact hq)
  · rw [← ht']
    exact hstep₁ _ fun acts => by rw [doInvoke_state]; exact hsteps
/-- the first row of the table takes it -/
theorem xcall1 (S : CallFix p m c cc nL s args zW own) (hM : xMet l y (zWs y bytes maxL ret) rm Pc cls) (cb : zCb y bytes maxL ret n) (lk : Cond.methodLink own index y ∈ zW) (hin : Cond.instanceMethod y ∈ zW) (hse : Cond.selects y.cls y y ∈ zW) (hp : PreV s H y.cls b Pc As) (hR : zRm R rm maxL cells slots)
    (hn : As.length = n) (hsize : ls.size = nL) (hst : st0 = As.reverse ++ .ref b :: rest) (hW : (rest.map fun v => v.category).sum ≤ 8) (hdg : decode cc pc = .ok (.invokevirtual index, 3))
    {x : ExceptionTableEntry} {more : List ExceptionTableEntry} (htab : c.exceptionTable.toList = x :: more) (hcov : covers x pc = true) (h0 : x.catchType ≠ 0) (hlk : Cond.classLink own x.catchType cls ∈ zW) (hcast : Cond.castable cls cls ∈ zW)
    (kk : ∀ (a : Nat) (H1 : Heap), H.size ≤ H1.size → (∀ q : Nat, q < H.size → H1[q]? = H[q]?) → W p l e R s m args below meth c H1 locs (cells + 1) (slots + 6) Q (F0 m x.handlerPc ls [.ref a])) :
    W p l e R s m args below meth c H locs cells slots Q (F0 m pc ls st0) := by
  intro T hT X
  obtain ⟨T', a, ce, X', ha, hce, hvm, hfc, hz, hk, hs⟩ := xrunV S hM cb lk hin hse hp hR hn hsize hst hW hdg hT X
  obtain ⟨hx, hb, hml, ho, hw⟩ := S
  have hpl : e.platform.magicAccessors = ({} : Platform).magicAccessors := by rw [X.admits.platform]
  obtain ⟨cT, hcT, hcl⟩ := Cond.classLink_spec ho (hw _ hlk) e.platform hpl
  obtain ⟨c3, c4, hc3, hc4, hasg⟩ := Cond.castable_spec (hw _ hcast)
  cases hcT.symm.trans hc4
  cases hfc.symm.trans hc3
  obtain ⟨dk, _, _, kt, hd, _, _, _, _, hkt, _, hopen⟩ := hcl.here
  have hal := X'.warmed.alike
  obtain ⟨kt', hkt', -⟩ := hal.2.2 _ _ hkt
  have hfit : T'.vm.assignable ce.cls cT = true := by rw [hal.assignable]; exact hasg
  have hobj : ∀ k, ce.vm ≠ .statics k := fun k h => by rw [hvm] at h; cases h
  have hf : xFinds e ((T'.setTop (F0 m pc ls rest)).pushFrame (.throwing a)) (F0 m pc ls rest) a (.found x.handlerPc) (T'.vm.noted m.cls x.catchType (.cls cT)) := by
    intro Q' E d acts
    rw [W.findHandler_eq (meth := meth) (code := c) X'.method' X'.code, htab]
    refine (xrow (s := (T'.setTop (F0 m pc ls rest)).pushFrame (.throwing a)) (f := F0 m pc ls rest) (a := a) (c := cT) (cell := ce) hcov h0 (X'.warmed.classLinks hcl) hce hobj (Vm.classAt_of_assignable hfit ⟨kt', hkt'⟩) ⟨kt', hkt'⟩).trans ?_
    have hfit2 : ((T'.setTop (F0 m pc ls rest)).pushFrame (.throwing a)).vm.assignable ce.cls cT = true := hfit
    rw [if_pos hfit2]
    exact Iff.rfl
  have XV := X'.noted (X'.warmed.noted hd hopen (State.rightAt_cls hcl))
  obtain ⟨t, t1, t2⟩ := kk a T'.heap hz hk (T'.setVm (T'.vm.noted m.cls x.catchType (.cls cT))) rfl XV
  exact ⟨t, hs.trans (xcaught (f := F0 m pc ls rest) X'.here hf t1), t2⟩
end XCall
/-- what a new exception reads of Throwable's statics -/
def xSt (U : State) : Prop := (Cond.isRef (.static Bundle.tN "UNASSIGNED_STACK" Bundle.steD)).before #[] U = true ∧ (Cond.isRef (.static Bundle.tN "SUPPRESSED_SENTINEL" Bundle.listD)).before #[] U = true ∧ (Cond.laysStatic Bundle.tN "UNASSIGNED_STACK" Bundle.steD).before #[] U = true ∧ (Cond.laysStatic Bundle.tN "SUPPRESSED_SENTINEL" Bundle.listD).before #[] U = true
def xPc (D : va_G) (T : List (ClassId × FieldType)) (sz : Nat) (ws : va_W) (av : List Value) : Array Value → State → Prop := fun a U => zPc D T sz ws av a U ∧ xSt U
theorem xPc_blind {D : va_G} {T : List (ClassId × FieldType)} {sz : Nat} {ws : va_W} {av : List Value} : FrameBlind (xPc D T sz ws av) := fun a U g mk q => ⟨zPc_blind a U g mk q.1, q.2⟩
/-- what a new exception asks of the tables, but for the statics -/
def xAt (own : String) (ic : Nat) (cls : String) : Prop := ∀ a ∈ Bundle.ownAtoms0 own ic cls ["java/lang/RuntimeException", "java/lang/Exception"], a ∈ zW ∨ a = .isRef (.static Bundle.tN "UNASSIGNED_STACK" Bundle.steD) ∨ a = .isRef (.static Bundle.tN "SUPPRESSED_SENTINEL" Bundle.listD) ∨ a = .laysStatic Bundle.tN "UNASSIGNED_STACK" Bundle.steD ∨ a = .laysStatic Bundle.tN "SUPPRESSED_SENTINEL" Bundle.listD
theorem xAt.all {own : String} {ic : Nat} {cls : String} (h : xAt own ic cls) {args : Array Value} {s : State} (hw : ∀ w ∈ zW, w.before args s = true) (hs : xSt s) : ∀ a ∈ Bundle.ownAtoms0 own ic cls ["java/lang/RuntimeException", "java/lang/Exception"], a.before args s = true := by
  intro a ha
  rcases h a ha with q | q | q | q | q
  · exact hw a q
  · rw [q]
    exact hs.1
  · rw [q]
    exact hs.2.1
  · rw [q]
    exact hs.2.2.1
  · rw [q]
    exact hs.2.2.2
theorem xAt_of {own : String} {ic : Nat} {cls : String} (h : (Bundle.ownAtoms0 own ic cls ["java/lang/RuntimeException", "java/lang/Exception"]).all (fun a => (decide (a ∈ lw_tbl) && zgood a) || decide (a = .isRef (.static Bundle.tN "UNASSIGNED_STACK" Bundle.steD)) || decide (a = .isRef (.static Bundle.tN "SUPPRESSED_SENTINEL" Bundle.listD)) || decide (a = .laysStatic Bundle.tN "UNASSIGNED_STACK" Bundle.steD) || decide (a = .laysStatic Bundle.tN "SUPPRESSED_SENTINEL" Bundle.listD)) = true) : xAt own ic cls := by
  intro a ha
  have q := List.all_eq_true.mp h a ha
  simp only [Bool.or_eq_true, Bool.and_eq_true, decide_eq_true_eq] at q
  rcases q with (((⟨q1, q2⟩ | q) | q) | q) | q
  · exact Or.inl (zW_of q1 q2)
  · exact Or.inr (Or.inl q)
  · exact Or.inr (Or.inr (Or.inl q))
  · exact Or.inr (Or.inr (Or.inr (Or.inl q)))
  · exact Or.inr (Or.inr (Or.inr (Or.inr q)))
theorem xa_44 : xAt "RvMachine" 44 "java/lang/IllegalStateException" := xAt_of (by decide +kernel)
theorem xa_51 : xAt "RvMachine" 51 "java/lang/IndexOutOfBoundsException" := xAt_of (by decide +kernel)
theorem xa_70 : xAt "RvMachine" 70 "java/lang/IllegalArgumentException" := xAt_of (by decide +kernel)
theorem xstart {l : Launch} {y : MethodName} {cc : ByteArray} {maxL : Nat} {ret : Option FieldType} {rm : Room} {D : va_G} {T : List (ClassId × FieldType)} {sz : Nat} {ws : va_W} {av : List Value} {cls : String}
    (hy : plainName y.cls = true) (hmx : (lg_sl av).length ≤ maxL)
    (body : ∀ p e s m below meth c ls, CallFix p m c cc maxL s av.toArray zW y.cls → meth.locks = false → c.exceptionTable.isEmpty = true → va_K D zC T s → va_P D zC ws s.heap → xSt s → lv_has ls maxL (lv_args 0 av) →
      W p l e rm s m av.toArray below meth c s.heap [] 0 0 (xMQ below cls s) (F0 m 0 ls [])) :
    xMet l y (zWs y cc maxL ret) rm (xPc D T sz ws av) cls := by
  refine xMet.ofW (cc := cc) (maxL := maxL) (ret := ret) hy rfl ?_
  intro p e s m args below meth c s₁ B hml hv
  obtain ⟨⟨rfl, hsz, hP, hK, hD0⟩, hst⟩ := hv
  have hts := atoms_spec (ws := zWs y cc maxL ret) B.pre
  have hl := lv_entry av (n := maxL) hmx
  rw [lg_entry_eq]
  exact body p e s m below meth c _ ⟨B.exec, B.bytes, hml, findClass_of_methodNamed B.named, fun w h => hts w (List.mem_cons_of_mem _ h)⟩ B.notSynchronized (B.noHandlers (hts _ List.mem_cons_self)) hK hP hst hl
