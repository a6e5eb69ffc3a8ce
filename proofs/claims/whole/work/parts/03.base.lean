/-! Base rows of this claim: one list of words for all methods (zW), contracts with the cells that were made told apart (zMet), calls over them. -/
/-- the words of the tables that stay so whatever is called: every method's contract takes them all -/
def zgood : Cond → Bool
  | .fieldLinkNest .. => true
  | .methodLinkNest .. => true
  | .castable .. => true
  | .declares .. => true
  | w => goodWord w
def zW : List Cond := lw_tbl.filter zgood
theorem zW_of {w : Cond} (h : w ∈ lw_tbl) (g : zgood w = true) : w ∈ zW := List.mem_filter.mpr ⟨h, g⟩
theorem zt_1 {w : Cond} (i : Nat) (h : tables_1_1[i]? = some w) (g : zgood w = true) : w ∈ zW := zW_of (List.mem_append_right _ (List.mem_append_left _ (List.mem_of_getElem? h))) g
theorem zt_2 {w : Cond} (i : Nat) (h : tables_1_2[i]? = some w) (g : zgood w = true) : w ∈ zW := zW_of (List.mem_append_right _ (List.mem_append_right _ (List.mem_append_left _ (List.mem_of_getElem? h)))) g
theorem zt_3 {w : Cond} (i : Nat) (h : tables_1_3[i]? = some w) (g : zgood w = true) : w ∈ zW := zW_of (List.mem_append_right _ (List.mem_append_right _ (List.mem_append_right _ (List.mem_append_left _ (List.mem_of_getElem? h))))) g
theorem zt_4 {w : Cond} (i : Nat) (h : tables_1_4[i]? = some w) (g : zgood w = true) : w ∈ zW := zW_of (List.mem_append_right _ (List.mem_append_right _ (List.mem_append_right _ (List.mem_append_right _ (List.mem_of_getElem? h))))) g
theorem zt_0 {y : MethodName} {n : Nat} (i : Nat) (h : lw_privs[i]? = some (y, n)) : Cond.selects y.cls y y ∈ zW := zW_of (List.mem_append_left _ (List.mem_map.mpr ⟨(y, n), List.mem_of_getElem? h, rfl⟩)) rfl
theorem z_good {w : Cond} (h : goodWord w = true) : (w.onTables && w.keeps) = true ∨ ∃ ty, w = .arrayClass ty := by
  cases w <;> first | exact Or.inr ⟨_, rfl⟩ | exact Or.inl h
theorem zW_move {args a' : Array Value} {s U : State} (hW : s.WarmedH U.vm) {w : Cond} (h : w ∈ zW) (hb : w.before args s = true) : w.before a' U = true := by
  have g := (List.mem_filter.mp h).2
  cases w <;> first | exact word_at hW (z_good g) hb | exact va_Nw.use rfl (va_Nw.warmF hW (va_Nw.of rfl hb)) | exact va_Nw.use rfl (va_Nw.warmM hW (va_Nw.of rfl hb)) | exact va_Nw.use rfl (va_Nw.warmC hW (va_Nw.of rfl hb)) | exact va_Nw.use rfl (va_Nw.warmD hW (va_Nw.of rfl hb))
abbrev zWs (y : MethodName) (cc : ByteArray) (n : Nat) (r : Option FieldType) : List Cond := Cond.code y cc n r :: zW
/-- a contract: what comes back may say how many cells (k) and slots (n) were made -/
def zMet (l : Launch) (y : MethodName) (ws : List Cond) (rm : Room) (Pc : Array Value → State → Prop) (Qc : Array Value → State → Outcome → State → Nat → Nat → Prop) (free : Addr → Prop) : Prop :=
  MetFree l y (headSpec ws rm) Pc (fun _ _ _ _ _ => True) (fun a st o t => ∃ L k n, Qc a st o t k n ∧ FrameEnd st o t L k n ∧ ∀ q ∈ L, free q.base)
def zMQ (below : List Frame) (Qc : Array Value → State → Outcome → State → Nat → Nat → Prop) (a : Array Value) (s : State) (free : Addr → Prop) : State → Prop := fun t =>
  ∃ o, t.status = .running ∧ Ended t below o ∧ ∃ L k n, Qc a s o t k n ∧ FrameEnd s o t L k n ∧ ∀ q ∈ L, free q.base
theorem zMet.ofW {l : Launch} {y : MethodName} {ws ws' : List Cond} {rm : Room} {Pc : Array Value → State → Prop} {Qc : Array Value → State → Outcome → State → Nat → Nat → Prop} {free : Addr → Prop} {cc : ByteArray} {maxL : Nat} {ret : Option FieldType}
    (hy : plainName y.cls = true) (hw : ws = Cond.code y cc maxL ret :: ws')
    (body : ∀ p e s m args below meth c s₁, BodyLoose p l y (headSpec ws rm) cc maxL ret e s m args below meth c s₁ → c.maxLocals = maxL → Pc args s →
      W p l e (headSpec ws rm).room s m args below meth c s.heap [] 0 0 (zMQ below Qc args s free) (entryFrame m args maxL)) : zMet l y ws rm Pc Qc free := by
  refine MetFree.of_bodyS (code := cc) (maxLocals := maxL) (ret := ret) hy ?_ ?_
  · intro args s m h hn
    obtain ⟨meth, c, h1, h2, h3, h4, h5, h6, -, -⟩ := Cond.code_spec hn (atoms_spec (ws := ws) h _ (by rw [hw]; exact List.mem_cons_self))
    exact ⟨meth, c, h1, h2, h3, h4, h5, h6⟩
  · intro p e s m args below meth c s₁ B hml hP _
    have hh0 : s₁.heap = s.heap := by rw [B.state]; rfl
    obtain ⟨t, a1, o, b1, b2, b3⟩ := body p e s m args below meth c s₁ B hml hP s₁ hh0 (Stand.of_body B)
    exact ⟨t, o, a1, b1, b2, b3⟩
/-- a contract's start: the arguments, the world, the classes -/
def zPc (D : va_G) (T : List (ClassId × FieldType)) (sz : Nat) (ws : va_W) (av : List Value) : Array Value → State → Prop :=
  va_Pc av (fun U => U.heap.size = sz ∧ va_P D zC ws U.heap ∧ va_K D zC T U ∧ va_D (fun _ => True) ws)
theorem zPc_blind {D : va_G} {T : List (ClassId × FieldType)} {sz : Nat} {ws : va_W} {av : List Value} : FrameBlind (zPc D T sz ws av) := by
  intro a U g mk q
  obtain ⟨q0, q1, qP, qK, qD⟩ := q
  exact ⟨q0, q1, qP, va_K.moved (u := U) (U := U.calling g mk a) (Vm.Alike.refl U.vm) qK, qD⟩
/-- ends: int, long, void, a reference; K u: the cells and slots that were made -/
def zQi {S : Type} (D : va_G) (A : Nat → Prop) (post : Int32 → S → Prop) (K : S → Nat × Nat) (Wd : S → va_W) : Array Value → State → Outcome → State → Nat → Nat → Prop := fun _ st oc t k n =>
  (∃ (r : Int32) (u : S), oc = .returned (some (.int r)) ∧ post r u ∧ k = (K u).1 ∧ n = (K u).2 ∧ va_P D zC (Wd u) t.heap ∧ va_D A (Wd u)) ∧ va_F A st t
def zQl {S : Type} (D : va_G) (A : Nat → Prop) (post : Int64 → S → Prop) (K : S → Nat × Nat) (Wd : S → va_W) : Array Value → State → Outcome → State → Nat → Nat → Prop := fun _ st oc t k n =>
  (∃ (r : Int64) (u : S), oc = .returned (some (.long r)) ∧ post r u ∧ k = (K u).1 ∧ n = (K u).2 ∧ va_P D zC (Wd u) t.heap ∧ va_D A (Wd u)) ∧ va_F A st t
def zQv {S : Type} (D : va_G) (A : Nat → Prop) (post : S → Prop) (K : S → Nat × Nat) (Wd : S → va_W) : Array Value → State → Outcome → State → Nat → Nat → Prop := fun _ st oc t k n =>
  (∃ (u : S), oc = .returned none ∧ post u ∧ k = (K u).1 ∧ n = (K u).2 ∧ va_P D zC (Wd u) t.heap ∧ va_D A (Wd u)) ∧ va_F A st t
def zQr {S : Type} (D : va_G) (A : Nat → Prop) (post : Nat → S → Prop) (K : S → Nat × Nat) (Wd : S → va_W) : Array Value → State → Outcome → State → Nat → Nat → Prop := fun _ st oc t k n =>
  (∃ (r : Nat) (u : S), oc = .returned (some (.ref r)) ∧ post r u ∧ k = (K u).1 ∧ n = (K u).2 ∧ va_P D zC (Wd u) t.heap ∧ va_D A (Wd u)) ∧ va_F A st t
abbrev z0 : Unit → Nat × Nat := fun _ => (0, 0)
section ZCalls
variable {p : Program} {l : Launch} {e : Env} {R : Room} {s : State} {m : MethodId} {args : Array Value} {below : List Frame} {meth : Method} {c : Code} {H : Heap} {locs : List Loc} {cells slots : Nat} {Q : State → Prop}
variable {y : MethodName} {bytes cc : ByteArray} {maxL nL n index : Nat} {ret : Option FieldType} {rm : Room} {Pc : Array Value → State → Prop} {Qc : Array Value → State → Outcome → State → Nat → Nat → Prop} {free : Addr → Prop} {own C host : String} {b : Addr} {As rest st0 : List Value} {pc : Nat} {ls : Array Slot}
theorem zW_mono {Q' : State → Prop} {g : JFrame} (h : ∀ t, Q t → Q' t) (k : W p l e R s m args below meth c H locs cells slots Q g) : W p l e R s m args below meth c H locs cells slots Q' g := by
  intro T hT X
  obtain ⟨t, a, b⟩ := k T hT X
  exact ⟨t, a, h t b⟩
def zPre (R : Room) (rm : Room) (Pc : Array Value → State → Prop) : Pt → Array Value → Prop := fun A a => A.cells + rm.cells ≤ R.cells ∧ A.slots + rm.slots ≤ R.slots ∧ Pc a A.U
def zPost (Qc : Array Value → State → Outcome → State → Nat → Nat → Prop) (free : Addr → Prop) : Pt → Array Value → Option Value → Pt → Prop := fun A a v B =>
  ∃ (g : JFrame) (mk : MethodId) (t : State) (L : List Loc) (k n : Nat), B.U.heap = t.heap ∧ B.U.vm = t.vm ∧ Qc a (A.U.calling g mk a) (.returned v) t k n ∧ B.locs = A.locs ++ L ∧ (∀ q ∈ L, free q.base) ∧ B.cells = A.cells + k ∧ B.slots = A.slots + n
theorem zback (hM : zMet l y (zWs y bytes maxL ret) rm Pc Qc free) (hblind : FrameBlind Pc) (hfr : rm.frames + 1 ≤ R.frames) (hlo : 8 + (maxL + 11) + rm.locals ≤ R.locals)
    (hw : ∀ w ∈ zW, w.before args s = true) (hcode : Cond.code y bytes maxL ret ∈ zW) (hini : Cond.initialized y.cls ∈ zW) :
    Back l R p e below s args y 3 8 (zPre R rm Pc) (zPost Qc free) := by
  refine Back.of_free (S := headSpec (zWs y bytes maxL ret) rm) (P := Pc) (K := fun _ _ _ _ _ => True) (Q := fun a st o t => ∃ L k n, Qc a st o t k n ∧ FrameEnd st o t L k n ∧ ∀ q ∈ L, free q.base) (bytes := bytes) (maxL := maxL) (ret := ret)
    (E := fun a st o t L k n => Qc a st o t k n ∧ ∀ q ∈ L, free q.base) hM hfr hlo ?_ ?_ (fun _ _ _ _ _ _ _ _ _ => trivial) ?_ ?_
  · intro m meth c A a X hp
    have ok : ∀ w ∈ zW, w.before a A.U = true := fun w h => zW_move X.warmed h (hw w h)
    refine ⟨atoms_intro fun w h => ?_, ok _ hcode, ok _ hini, hp.1, hp.2.1⟩
    rcases List.mem_cons.mp h with rfl | h
    · exact ok _ hcode
    · exact ok w h
  · intro m meth c A a g mk X hp
    exact hblind _ _ _ _ hp.2.2
  · intro a st o t ⟨L, k, n, hq, hF, hL⟩
    exact ⟨L, k, n, hF, hq, hL⟩
  · intro m meth c A a g mk v t L k n X hp _ hF ⟨hq, hL⟩
    exact ⟨g, mk, t, L, k, n, rfl, rfl, hq, rfl, hL, rfl, rfl⟩
/-- a call that comes back -/
def zRun (p : Program) (l : Launch) (e : Env) (R : Room) (s : State) (m : MethodId) (args : Array Value) (below : List Frame) (meth : Method) (c : Code) (H : Heap) (locs : List Loc) (cells slots : Nat) (g : JFrame) (rest : List Value) (Qa : State → Outcome → State → Nat → Nat → Prop) (free : Addr → Prop) : Prop :=
  ∀ T : State, T.heap = H → Stand p l e R s m args below meth c T locs cells slots → ∃ (v : Option Value) (st₀ t T' : State) (L : List Loc) (k n : Nat), st₀.heap = H ∧ Stand p l e R s m args below meth c T' (locs ++ L) (cells + k) (slots + n) ∧ (∀ q ∈ L, free q.base) ∧ T'.heap = t.heap ∧ T'.vm = t.vm ∧ Qa st₀ (.returned v) t k n ∧
    ∀ target, Steps p.tables e below (T'.setTop { g with pc := g.pc + 3, stack := v.toList ++ rest }) target → Steps p.tables e below (T.setTop g) target
/-- what a call's rows say of the callee -/
def zCb (y : MethodName) (bytes : ByteArray) (maxL : Nat) (ret : Option FieldType) (n : Nat) : Prop :=
  Cond.code y bytes maxL ret ∈ zW ∧ Cond.initialized y.cls ∈ zW ∧ (y.cls ≠ "java/lang/invoke/MethodHandle" ∧ y.cls ≠ "java/lang/invoke/VarHandle") ∧ (parseMethodDescriptor y.desc).map (fun d => d.parameters.length) = some n
theorem zCb.len (h : zCb y bytes maxL ret n) : ∀ sig, parseMethodDescriptor y.desc = some sig → n = sig.parameters.length := by
  intro sig hs
  have h2 := h.2.2.2
  rw [hs] at h2
  exact (Option.some.inj h2).symm
def zRm (R rm : Room) (maxL cells slots : Nat) : Prop := rm.frames + 1 ≤ R.frames ∧ 8 + (maxL + 11) + rm.locals ≤ R.locals ∧ cells + rm.cells ≤ R.cells ∧ slots + rm.slots ≤ R.slots
/-- how an instruction names its method: in its own class's pool, or a nest mate's -/
def zLk (own : String) (index : Nat) (y : MethodName) : Prop := Cond.methodLink own index y ∈ zW ∨ ∃ host, Cond.methodLinkNest own index y host ∈ zW
theorem zrunV (S : CallFix p m c cc nL s args zW own) (hM : zMet l y (zWs y bytes maxL ret) rm Pc Qc free) (cb : zCb y bytes maxL ret n) (lk : zLk own index y) (hin : Cond.instanceMethod y ∈ zW) (hse : Cond.selects y.cls y y ∈ zW) (hp : PreV s H y.cls b Pc As) (hR : zRm R rm maxL cells slots)
    (hn : As.length = n) (hsize : ls.size = nL) (hst : st0 = As.reverse ++ .ref b :: rest) (hW : (rest.map fun v => v.category).sum ≤ 8) (hdg : decode cc pc = .ok (.invokevirtual index, 3)) :
    zRun p l e R s m args below meth c H locs cells slots (F0 m pc ls st0) rest (Qc (Value.ref b :: As).toArray) free := by
  obtain ⟨hx, hb, hml, ho, hw⟩ := S
  have hK : Back l R p e below s args y 3 8 (zPre R rm Pc) (zPost Qc free) := zback hM hp.1 hR.1 hR.2.1 hw cb.1 cb.2.1
  obtain ⟨-, ⟨cellB, hcB, hoB, hclB⟩, hPc⟩ := hp
  subst hst
  intro T hT X
  rcases lk with lk | ⟨host, lk⟩
  · obtain ⟨v, vm₁, ⟨U', l2, c2, s2⟩, hW₁, X', ⟨g', mk, t, L, k, n', e1, e2, hq, h1, hL, h2, h3⟩, st⟩ := callV X hx (C := y.cls) (bytes := bytes) (maxL := maxL) (ret := ret) ho (hw _ lk) (hw _ hin) (hw _ hse) (hw _ cb.1) cb.2.2.1 hK (by rw [hT]; exact hcB) hoB hclB (g := F0 m pc ls (As.reverse ++ .ref b :: rest)) rfl (hsize.trans hml.symm) (argsL := As) (rest := rest) (fun sig h => hn.trans (cb.len sig h)) rfl (lv_room hW) (by rw [hb]; exact hdg)
      (fun vm₁ hW₁ => ⟨hR.2.2.1, hR.2.2.2, hPc (T.setVm vm₁) hT hW₁⟩)
    dsimp only [Pt.U, Pt.locs, Pt.cells, Pt.slots] at X' e1 e2 h1 h2 h3 st
    subst h1; subst h2; subst h3
    exact ⟨v, (T.setVm vm₁).calling g' mk (Value.ref b :: As).toArray, t, U', L, k, n', hT, X', hL, e1, e2, hq, st⟩
  · obtain ⟨v, vm₁, ⟨U', l2, c2, s2⟩, hW₁, X', ⟨g', mk, t, L, k, n', e1, e2, hq, h1, hL, h2, h3⟩, st⟩ := va_callVN X hx (C := y.cls) (bytes := bytes) (maxL := maxL) (ret := ret) ho (hw _ lk) (hw _ hin) (hw _ hse) (hw _ cb.1) cb.2.2.1 hK (by rw [hT]; exact hcB) hoB hclB (g := F0 m pc ls (As.reverse ++ .ref b :: rest)) rfl (hsize.trans hml.symm) (argsL := As) (rest := rest) (fun sig h => hn.trans (cb.len sig h)) rfl (lv_room hW) (by rw [hb]; exact hdg)
      (fun vm₁ hW₁ => ⟨hR.2.2.1, hR.2.2.2, hPc (T.setVm vm₁) hT hW₁⟩)
    dsimp only [Pt.U, Pt.locs, Pt.cells, Pt.slots] at X' e1 e2 h1 h2 h3 st
    subst h1; subst h2; subst h3
    exact ⟨v, (T.setVm vm₁).calling g' mk (Value.ref b :: As).toArray, t, U', L, k, n', hT, X', hL, e1, e2, hq, st⟩
theorem zrunS (S : CallFix p m c cc nL s args zW own) (hM : zMet l y (zWs y bytes maxL ret) rm Pc Qc free) (cb : zCb y bytes maxL ret n) (lk : zLk own index y) (hstt : Cond.static y ∈ zW) (hp : PreS s H Pc As) (hR : zRm R rm maxL cells slots)
    (hn : As.length = n) (hsize : ls.size = nL) (hst : st0 = As.reverse ++ rest) (hW : (rest.map fun v => v.category).sum ≤ 8) (hdg : decode cc pc = .ok (.invokestatic index, 3)) :
    zRun p l e R s m args below meth c H locs cells slots (F0 m pc ls st0) rest (Qc As.toArray) free := by
  obtain ⟨hx, hb, hml, ho, hw⟩ := S
  have hK : Back l R p e below s args y 3 8 (zPre R rm Pc) (zPost Qc free) := zback hM hp.1 hR.1 hR.2.1 hw cb.1 cb.2.1
  subst hst
  intro T hT X
  rcases lk with lk | ⟨host, lk⟩
  · obtain ⟨v, vm₁, ⟨U', l2, c2, s2⟩, hW₁, X', ⟨g', mk, t, L, k, n', e1, e2, hq, h1, hL, h2, h3⟩, st⟩ := callS X hx (bytes := bytes) (maxL := maxL) (ret := ret) ho (hw _ lk) (hw _ hstt) (hw _ cb.2.1) (hw _ cb.1) cb.2.2.1 hK (g := F0 m pc ls (As.reverse ++ rest)) rfl (hsize.trans hml.symm) (argsL := As) (rest := rest) (fun sig h => hn.trans (cb.len sig h)) rfl (lv_room hW) (by rw [hb]; exact hdg)
      (fun vm₁ hW₁ => ⟨hR.2.2.1, hR.2.2.2, hp.2 (T.setVm vm₁) hT hW₁⟩)
    dsimp only [Pt.U, Pt.locs, Pt.cells, Pt.slots] at X' e1 e2 h1 h2 h3 st
    subst h1; subst h2; subst h3
    exact ⟨v, (T.setVm vm₁).calling g' mk As.toArray, t, U', L, k, n', hT, X', hL, e1, e2, hq, st⟩
  · obtain ⟨v, vm₁, ⟨U', l2, c2, s2⟩, hW₁, X', ⟨g', mk, t, L, k, n', e1, e2, hq, h1, hL, h2, h3⟩, st⟩ := va_callSN X hx (bytes := bytes) (maxL := maxL) (ret := ret) ho (hw _ lk) (hw _ hstt) (hw _ cb.2.1) (hw _ cb.1) cb.2.2.1 hK (g := F0 m pc ls (As.reverse ++ rest)) rfl (hsize.trans hml.symm) (argsL := As) (rest := rest) (fun sig h => hn.trans (cb.len sig h)) rfl (lv_room hW) (by rw [hb]; exact hdg)
      (fun vm₁ hW₁ => ⟨hR.2.2.1, hR.2.2.2, hp.2 (T.setVm vm₁) hT hW₁⟩)
    dsimp only [Pt.U, Pt.locs, Pt.cells, Pt.slots] at X' e1 e2 h1 h2 h3 st
    subst h1; subst h2; subst h3
    exact ⟨v, (T.setVm vm₁).calling g' mk As.toArray, t, U', L, k, n', hT, X', hL, e1, e2, hq, st⟩
theorem zrunI (S : CallFix p m c cc nL s args zW own) (hM : zMet l y (zWs y bytes maxL none) rm Pc Qc free) (cb : zCb y bytes maxL none n) (lk : zLk own index y) (hin : Cond.instanceMethod y ∈ zW) (hy1 : y.name = "<init>") (hp : PreS s H Pc (.ref b :: As)) (hR : zRm R rm maxL cells slots)
    (hn : As.length = n) (hsize : ls.size = nL) (hst : st0 = As.reverse ++ .ref b :: rest) (hW : (rest.map fun v => v.category).sum ≤ 8) (hdg : decode cc pc = .ok (.invokespecial index, 3)) :
    zRun p l e R s m args below meth c H locs cells slots (F0 m pc ls st0) rest (Qc (Value.ref b :: As).toArray) free := by
  obtain ⟨hx, hb, hml, ho, hw⟩ := S
  have hK : Back l R p e below s args y 3 8 (zPre R rm Pc) (zPost Qc free) := zback hM hp.1 hR.1 hR.2.1 hw cb.1 cb.2.1
  subst hst
  intro T hT X
  rcases lk with lk | ⟨host, lk⟩
  · obtain ⟨v, vm₁, ⟨U', l2, c2, s2⟩, hW₁, X', ⟨g', mk, t, L, k, n', e1, e2, hq, h1, hL, h2, h3⟩, st⟩ := callI X hx (bytes := bytes) (maxL := maxL) ho hy1 (hw _ lk) (hw _ hin) (hw _ cb.1) cb.2.2.1 hK (g := F0 m pc ls (As.reverse ++ .ref b :: rest)) rfl (hsize.trans hml.symm) (a := b) (argsL := As) (rest := rest) (fun sig h => hn.trans (cb.len sig h)) rfl (lv_room hW) (by rw [hb]; exact hdg)
      (fun vm₁ hW₁ => ⟨hR.2.2.1, hR.2.2.2, hp.2 (T.setVm vm₁) hT hW₁⟩)
    dsimp only [Pt.U, Pt.locs, Pt.cells, Pt.slots] at X' e1 e2 h1 h2 h3 st
    subst h1; subst h2; subst h3
    exact ⟨v, (T.setVm vm₁).calling g' mk (Value.ref b :: As).toArray, t, U', L, k, n', hT, X', hL, e1, e2, hq, st⟩
  · obtain ⟨v, vm₁, ⟨U', l2, c2, s2⟩, hW₁, X', ⟨g', mk, t, L, k, n', e1, e2, hq, h1, hL, h2, h3⟩, st⟩ := va_callIN X hx (bytes := bytes) (maxL := maxL) ho hy1 (hw _ lk) (hw _ hin) (hw _ cb.1) cb.2.2.1 hK (g := F0 m pc ls (As.reverse ++ .ref b :: rest)) rfl (hsize.trans hml.symm) (a := b) (argsL := As) (rest := rest) (fun sig h => hn.trans (cb.len sig h)) rfl (lv_room hW) (by rw [hb]; exact hdg)
      (fun vm₁ hW₁ => ⟨hR.2.2.1, hR.2.2.2, hp.2 (T.setVm vm₁) hT hW₁⟩)
    dsimp only [Pt.U, Pt.locs, Pt.cells, Pt.slots] at X' e1 e2 h1 h2 h3 st
    subst h1; subst h2; subst h3
    exact ⟨v, (T.setVm vm₁).calling g' mk (Value.ref b :: As).toArray, t, U', L, k, n', hT, X', hL, e1, e2, hq, st⟩
variable {S : Type} {K : S → Nat × Nat} {Wd : S → va_W} {D : va_G} {T : List (ClassId × FieldType)} {A : Nat → Prop} {ws wc wr : va_W} {av : List Value} {a : Array Value}
/-- the callee's start out of the caller's world -/
theorem zpreS (hK : va_K D zC T s) (hP : va_P D zC ws H) (hD : va_D A ws) (isC : List Nat) (hC : isC.map (fun i => ws[i]?) = wc.map some) (hC2 : isC.filterMap (fun i => ws[i]?) = wc) (hnd : va_nd isC = true) : PreS s H (zPc D T H.size wc av) av :=
  ⟨zPc_blind, fun U hU hW => ⟨rfl, by rw [hU], by rw [hU]; exact hP.sub isC hC2, va_K.moved hW.alike hK, (hD.sub isC hnd hC).weaken (fun _ _ _ _ => trivial)⟩⟩
theorem zpreV {q0 ci : Nat} {fs : List Value} {q : vw_C} (hK : va_K D zC T s) (hP : va_P D zC ws H) (hD : va_D A ws) (he : ws[q0]? = some (b, .inr (ci, fs))) (hc : zC[ci]? = some q) (hq : q.1 = y.cls) (isC : List Nat) (hC : isC.map (fun i => ws[i]?) = wc.map some) (hC2 : isC.filterMap (fun i => ws[i]?) = wc) (hnd : va_nd isC = true) : PreV s H y.cls b (zPc D T H.size wc (.ref b :: As)) As := by
  obtain ⟨cell, h1, h2, h3⟩ := va_recv hK hP hc he
  exact ⟨zPc_blind, ⟨cell, h1, h2, by rw [← hq]; exact h3⟩, (zpreS hK hP hD isC hC hC2 hnd).2⟩
/-- behind a call: the callee's cells as they came back beside the rest -/
theorem zback_S {A1 free : Nat → Prop} {t : State} {T' st₀ : State} {L : List Loc} (hS : va_S A s.heap H locs) (h0 : st₀.heap = H) (e1 : T'.heap = t.heap) (hF : va_F A1 st₀ t) (hA1 : ∀ q, A1 q → A q) (hL : ∀ q ∈ L, A1 q.base) : va_S A s.heap T'.heap (locs ++ L) := by
  obtain ⟨hz, hk⟩ := hF
  rw [h0] at hz hk
  refine ⟨Nat.le_trans hS.1 (by rw [e1]; exact hz), fun q h1 h2 => ?_, fun q hq => ?_⟩
  · rw [e1, hk q (Nat.lt_of_lt_of_le h1 hS.1) (fun z => h2 (hA1 q z))]
    exact hS.2.1 q h1 h2
  · rcases List.mem_append.mp hq with h | h
    · exact hS.2.2 q h
    · exact hA1 _ (hL q h)
theorem zgoi {post : Int32 → S → Prop} (hr : zRun p l e R s m args below meth c H locs cells slots (F0 m pc ls st0) rest (zQi D (va_A wc H.size) post K Wd a) (va_A wc H.size)) (hP : va_P D zC ws H) (hD : va_D A ws) (hS : va_S A s.heap H locs) (hA : ∀ q, s.heap.size ≤ q → A q)
    (isC isR : List Nat) (hC : isC.map (fun i => ws[i]?) = wc.map some) (hR : isR.map (fun i => ws[i]?) = wr.map some) (hn : va_nd isR = true) (hdis : ∀ i ∈ isR, i ∉ isC)
    (kk : ∀ (r : Int32) (u : S) (H1 : Heap) (locs1 : List Loc), post r u → va_P D zC (wr ++ Wd u) H1 → va_D A (wr ++ Wd u) → va_S A s.heap H1 locs1 → W p l e R s m args below meth c H1 locs1 (cells + (K u).1) (slots + (K u).2) Q (F0 m (pc + 3) ls (.int r :: rest))) :
    W p l e R s m args below meth c H locs cells slots Q (F0 m pc ls st0) := by
  intro T0 hT X
  have hF := va_free hD hS hA isC hC
  obtain ⟨v, st₀, t, T', L, k, n, h0, X', hL, e1, e2, ⟨⟨r, u, hv, hp, rfl, rfl, hP1, hD1⟩, hFr⟩, st⟩ := hr T0 hT X
  cases hv
  have hk := hFr.2
  rw [h0] at hk
  obtain ⟨hP2, hD2⟩ := va_join hP hD isC isR hC hR hn hdis hk hF hP1 hD1
  rw [← e1] at hP2
  obtain ⟨t2, a1, b1⟩ := kk r u T'.heap (locs ++ L) hp hP2 hD2 (zback_S (free := A) hS h0 e1 hFr hF hL) T' rfl X'
  exact ⟨t2, st t2 a1, b1⟩
theorem zgol {post : Int64 → S → Prop} (hr : zRun p l e R s m args below meth c H locs cells slots (F0 m pc ls st0) rest (zQl D (va_A wc H.size) post K Wd a) (va_A wc H.size)) (hP : va_P D zC ws H) (hD : va_D A ws) (hS : va_S A s.heap H locs) (hA : ∀ q, s.heap.size ≤ q → A q)
    (isC isR : List Nat) (hC : isC.map (fun i => ws[i]?) = wc.map some) (hR : isR.map (fun i => ws[i]?) = wr.map some) (hn : va_nd isR = true) (hdis : ∀ i ∈ isR, i ∉ isC)
    (kk : ∀ (r : Int64) (u : S) (H1 : Heap) (locs1 : List Loc), post r u → va_P D zC (wr ++ Wd u) H1 → va_D A (wr ++ Wd u) → va_S A s.heap H1 locs1 → W p l e R s m args below meth c H1 locs1 (cells + (K u).1) (slots + (K u).2) Q (F0 m (pc + 3) ls (.long r :: rest))) :
    W p l e R s m args below meth c H locs cells slots Q (F0 m pc ls st0) := by
  intro T0 hT X
  have hF := va_free hD hS hA isC hC
  obtain ⟨v, st₀, t, T', L, k, n, h0, X', hL, e1, e2, ⟨⟨r, u, hv, hp, rfl, rfl, hP1, hD1⟩, hFr⟩, st⟩ := hr T0 hT X
  cases hv
  have hk := hFr.2
  rw [h0] at hk
  obtain ⟨hP2, hD2⟩ := va_join hP hD isC isR hC hR hn hdis hk hF hP1 hD1
  rw [← e1] at hP2
  obtain ⟨t2, a1, b1⟩ := kk r u T'.heap (locs ++ L) hp hP2 hD2 (zback_S (free := A) hS h0 e1 hFr hF hL) T' rfl X'
  exact ⟨t2, st t2 a1, b1⟩
theorem zgor {post : Nat → S → Prop} (hr : zRun p l e R s m args below meth c H locs cells slots (F0 m pc ls st0) rest (zQr D (va_A wc H.size) post K Wd a) (va_A wc H.size)) (hP : va_P D zC ws H) (hD : va_D A ws) (hS : va_S A s.heap H locs) (hA : ∀ q, s.heap.size ≤ q → A q)
    (isC isR : List Nat) (hC : isC.map (fun i => ws[i]?) = wc.map some) (hR : isR.map (fun i => ws[i]?) = wr.map some) (hn : va_nd isR = true) (hdis : ∀ i ∈ isR, i ∉ isC)
    (kk : ∀ (r : Nat) (u : S) (H1 : Heap) (locs1 : List Loc), post r u → va_P D zC (wr ++ Wd u) H1 → va_D A (wr ++ Wd u) → va_S A s.heap H1 locs1 → W p l e R s m args below meth c H1 locs1 (cells + (K u).1) (slots + (K u).2) Q (F0 m (pc + 3) ls (.ref r :: rest))) :
    W p l e R s m args below meth c H locs cells slots Q (F0 m pc ls st0) := by
  intro T0 hT X
  have hF := va_free hD hS hA isC hC
  obtain ⟨v, st₀, t, T', L, k, n, h0, X', hL, e1, e2, ⟨⟨r, u, hv, hp, rfl, rfl, hP1, hD1⟩, hFr⟩, st⟩ := hr T0 hT X
  cases hv
  have hk := hFr.2
  rw [h0] at hk
  obtain ⟨hP2, hD2⟩ := va_join hP hD isC isR hC hR hn hdis hk hF hP1 hD1
  rw [← e1] at hP2
  obtain ⟨t2, a1, b1⟩ := kk r u T'.heap (locs ++ L) hp hP2 hD2 (zback_S (free := A) hS h0 e1 hFr hF hL) T' rfl X'
  exact ⟨t2, st t2 a1, b1⟩
theorem zgov {post : S → Prop} (hr : zRun p l e R s m args below meth c H locs cells slots (F0 m pc ls st0) rest (zQv D (va_A wc H.size) post K Wd a) (va_A wc H.size)) (hP : va_P D zC ws H) (hD : va_D A ws) (hS : va_S A s.heap H locs) (hA : ∀ q, s.heap.size ≤ q → A q)
    (isC isR : List Nat) (hC : isC.map (fun i => ws[i]?) = wc.map some) (hR : isR.map (fun i => ws[i]?) = wr.map some) (hn : va_nd isR = true) (hdis : ∀ i ∈ isR, i ∉ isC)
    (kk : ∀ (u : S) (H1 : Heap) (locs1 : List Loc), post u → va_P D zC (wr ++ Wd u) H1 → va_D A (wr ++ Wd u) → va_S A s.heap H1 locs1 → W p l e R s m args below meth c H1 locs1 (cells + (K u).1) (slots + (K u).2) Q (F0 m (pc + 3) ls rest)) :
    W p l e R s m args below meth c H locs cells slots Q (F0 m pc ls st0) := by
  intro T0 hT X
  have hF := va_free hD hS hA isC hC
  obtain ⟨v, st₀, t, T', L, k, n, h0, X', hL, e1, e2, ⟨⟨u, hv, hp, rfl, rfl, hP1, hD1⟩, hFr⟩, st⟩ := hr T0 hT X
  cases hv
  have hk := hFr.2
  rw [h0] at hk
  obtain ⟨hP2, hD2⟩ := va_join hP hD isC isR hC hR hn hdis hk hF hP1 hD1
  rw [← e1] at hP2
  obtain ⟨t2, a1, b1⟩ := kk u T'.heap (locs ++ L) hp hP2 hD2 (zback_S (free := A) hS h0 e1 hFr hF hL) T' rfl X'
  exact ⟨t2, st t2 a1, b1⟩
end ZCalls
section ZEnds
variable {p : Program} {l : Launch} {e : Env} {R : Room} {s : State} {m : MethodId} {args : Array Value} {below : List Frame} {meth : Method} {c : Code} {H : Heap} {locs : List Loc} {cells slots : Nat}
variable {S : Type} {K : S → Nat × Nat} {Wd : S → va_W} {D : va_G} {A : Nat → Prop} {cc : ByteArray} {pc : Nat} {ls : Array Slot}
theorem zend {Qc : Array Value → State → Outcome → State → Nat → Nat → Prop} {free : Addr → Prop} {g : JFrame} (k : W p l e R s m args below meth c H locs cells slots (MQ below (fun a st o t => Qc a st o t cells slots) args s cells slots free) g) : W p l e R s m args below meth c H locs cells slots (zMQ below Qc args s free) g :=
  zW_mono (fun t ⟨o, h1, h2, h3, L, h4, h5⟩ => ⟨o, h1, h2, L, cells, slots, h3, h4, h5⟩) k
theorem zreti {post : Int32 → S → Prop} {v : Int32} {ty : FieldType} (hx : p.tables.exec = Jvm.exec) (hb : c.code = cc) (hr : meth.sig.returnType = some ty) (hn : narrow ty (.int v) = .int v) (hlocks : meth.locks = false) (hS : va_S A s.heap H locs) (u : S) (hp : post v u) (hk : K u = (cells, slots)) (hP : va_P D zC (Wd u) H) (hD : va_D A (Wd u)) (hdg : decode cc pc = .ok (.ireturn, 1)) :
    W p l e R s m args below meth c H locs cells slots (zMQ below (zQi D A post K Wd) args s A) (F0 m pc ls [.int v]) :=
  zend (W.zret hx hb hr hn (fun t ht _ => ⟨⟨v, u, rfl, hp, by rw [hk], by rw [hk], by rw [ht]; exact hP, hD⟩, hS.F ht⟩) hS.2.2 hdg hlocks)
theorem zretl {post : Int64 → S → Prop} {v : Int64} (hx : p.tables.exec = Jvm.exec) (hb : c.code = cc) (hr : meth.sig.returnType = some .long) (hlocks : meth.locks = false) (hS : va_S A s.heap H locs) (u : S) (hp : post v u) (hk : K u = (cells, slots)) (hP : va_P D zC (Wd u) H) (hD : va_D A (Wd u)) (hdg : decode cc pc = .ok (.lreturn, 1)) :
    W p l e R s m args below meth c H locs cells slots (zMQ below (zQl D A post K Wd) args s A) (F0 m pc ls [.long v]) :=
  zend (W.lret hx hb hr (fun t ht _ => ⟨⟨v, u, rfl, hp, by rw [hk], by rw [hk], by rw [ht]; exact hP, hD⟩, hS.F ht⟩) hS.2.2 hdg hlocks)
theorem zretv {post : S → Prop} (hx : p.tables.exec = Jvm.exec) (hb : c.code = cc) (hr : meth.sig.returnType = none) (hlocks : meth.locks = false) (hS : va_S A s.heap H locs) (u : S) (hp : post u) (hk : K u = (cells, slots)) (hP : va_P D zC (Wd u) H) (hD : va_D A (Wd u)) (hdg : decode cc pc = .ok (.return_, 1)) :
    W p l e R s m args below meth c H locs cells slots (zMQ below (zQv D A post K Wd) args s A) (F0 m pc ls []) :=
  zend (W.vret hx hb hr (fun t ht _ => ⟨⟨u, rfl, hp, by rw [hk], by rw [hk], by rw [ht]; exact hP, hD⟩, hS.F ht⟩) hS.2.2 hdg hlocks)
theorem zretr {post : Nat → S → Prop} {v : Nat} {rt : FieldType} (hx : p.tables.exec = Jvm.exec) (hb : c.code = cc) (hr : meth.sig.returnType = some rt) (hrt : (∃ n, rt = .object n) ∨ ∃ t, rt = .array t) (hlocks : meth.locks = false) (hS : va_S A s.heap H locs) (u : S) (hp : post v u) (hk : K u = (cells, slots)) (hP : va_P D zC (Wd u) H) (hD : va_D A (Wd u)) (hdg : decode cc pc = .ok (.areturn, 1)) :
    W p l e R s m args below meth c H locs cells slots (zMQ below (zQr D A post K Wd) args s A) (F0 m pc ls [.ref v]) :=
  zend (W.aret hx hb hr hrt (Or.inr ⟨v, rfl⟩) (fun t ht _ => ⟨⟨v, u, rfl, hp, by rw [hk], by rw [hk], by rw [ht]; exact hP, hD⟩, hS.F ht⟩) hS.2.2 hdg hlocks)
end ZEnds
section ZFields
variable {p : Program} {l : Launch} {e : Env} {R : Room} {s : State} {m : MethodId} {args : Array Value} {below : List Frame} {meth : Method} {c : Code} {H H0 : Heap} {locs : List Loc} {cells slots : Nat} {Q : State → Prop}
variable {D : va_G} {T : List (ClassId × FieldType)} {A : Nat → Prop} {ws : va_W} {cc : ByteArray} {nL a pc ci k idx : Nat} {own : String} {ls : Array Slot} {rest fs : List Value} {v : Value}
/-- a field that an instruction names: its place among its class's fields -/
def zFd (own : String) (idx ci k : Nat) : Prop := ∃ (C : String) (F : u_T) (N : Nat), zC[ci]? = some (C, F, N) ∧ k < N ∧ (∀ w ∈ u_ws C F N, w ∈ zW) ∧ (F k).1 = C ∧
  (Cond.fieldLink own idx C (F k).2.1 (F k).2.2.1 ∈ zW ∨ ∃ host, Cond.fieldLinkNest own idx C (F k).2.1 (F k).2.2.1 host ∈ zW)
/-- a field's type; the fields' names apart; final or not -/
def zFt (ci k : Nat) (ty : FieldType) (fin : Bool) : Prop := ∃ (C : String) (F : u_T) (N : Nat) (t : Nat → FieldType), zC[ci]? = some (C, F, N) ∧ (∀ k, k < N → parseFieldDescriptor (F k).2.2.1 = some (t k)) ∧ (∀ a, a < N → ∀ b, b < N → a ≠ b → (F a).2.1 ≠ (F b).2.1) ∧ (F k).2.2.2 = fin ∧ t k = ty
theorem zget (S : CallFix p m c cc nL s args zW own) (hK : va_K D zC T s) (hP : va_P D zC ws H) (q0 : Nat) (he : ws[q0]? = some (a, .inr (ci, fs))) (F : zFd own idx ci k) (hv : fs[k]? = some v) (hdg : decode cc pc = .ok (.getfield idx, 3))
    (kk : W p l e R s m args below meth c H locs cells slots Q (F0 m (pc + 3) ls (v :: rest))) : W p l e R s m args below meth c H locs cells slots Q (F0 m pc ls (.ref a :: rest)) := by
  obtain ⟨hx, hb, hml, ho, hw⟩ := S
  obtain ⟨C, G, N, h1, h2, h3, h4, h5 | ⟨host, h5⟩⟩ := F
  · exact va_get hx hb hw h3 ho hK hP q0 he h1 k h2 (hw _ h5) (fun x h => by rw [← h4]; exact h) hv hdg kk
  · exact va_getN hx hb hw h3 ho hK hP q0 he h1 k h2 (hw _ h5) (fun x h => by rw [← h4]; exact h) hv hdg kk
theorem zput {ty : FieldType} (S : CallFix p m c cc nL s args zW own) (hK : va_K D zC T s) (hP : va_P D zC ws H) (hD : va_D A ws) (hS : va_S A H0 H locs) (q0 : Nat) (he : ws[q0]? = some (a, .inr (ci, fs))) (F : zFd own idx ci k) (Ft : zFt ci k ty false) (hn : narrow ty v = v) (hfit : fits ty v = true) (hl : k < fs.length) (hdg : decode cc pc = .ok (.putfield idx, 3))
    (kk : ∀ (H1 : Heap) (locs1 : List Loc), va_P D zC (ws.set q0 (a, .inr (ci, fs.set k v))) H1 → va_D A (ws.set q0 (a, .inr (ci, fs.set k v))) → va_S A H0 H1 locs1 → W p l e R s m args below meth c H1 locs1 cells slots Q (F0 m (pc + 3) ls rest)) : W p l e R s m args below meth c H locs cells slots Q (F0 m pc ls (v :: .ref a :: rest)) := by
  obtain ⟨hx, hb, hml, ho, hw⟩ := S
  obtain ⟨C', G', N', t, g1, g2, g3, g4, g5⟩ := Ft
  obtain ⟨C, G, N, h1, h2, h3, h4, h5 | ⟨host, h5⟩⟩ := F <;> (cases g1.symm.trans h1)
  · exact va_put hx hb hw h3 t g2 g3 ho hK hP hD hS q0 he h1 k h2 (hw _ h5) (fun x h => by rw [← h4]; exact h) g4 (by rw [g2 k h2, g5]) hn hfit hl hdg kk
  · exact va_putN hx hb hw h3 t g2 g3 ho hK hP hD hS q0 he h1 k h2 (hw _ h5) (fun x h => by rw [← h4]; exact h) g4 (by rw [g2 k h2, g5]) hn hfit hl hdg kk
theorem zputF {ty : FieldType} (S : CallFix p m c cc nL s args zW own) (hin : meth.name = "<init>") (hK : va_K D zC T s) (hP : va_P D zC ws H) (hD : va_D A ws) (hS : va_S A H0 H locs) (q0 : Nat) (he : ws[q0]? = some (a, .inr (ci, fs))) {F' : u_T} {N' : Nat} (hc : zC[ci]? = some (own, F', N')) (F : zFd own idx ci k) (Ft : zFt ci k ty true) (hn : narrow ty v = v) (hfit : fits ty v = true) (hl : k < fs.length) (hdg : decode cc pc = .ok (.putfield idx, 3))
    (hlk : Cond.fieldLink own idx own (F' k).2.1 (F' k).2.2.1 ∈ zW)
    (kk : ∀ (H1 : Heap) (locs1 : List Loc), va_P D zC (ws.set q0 (a, .inr (ci, fs.set k v))) H1 → va_D A (ws.set q0 (a, .inr (ci, fs.set k v))) → va_S A H0 H1 locs1 → W p l e R s m args below meth c H1 locs1 cells slots Q (F0 m (pc + 3) ls rest)) : W p l e R s m args below meth c H locs cells slots Q (F0 m pc ls (v :: .ref a :: rest)) := by
  obtain ⟨hx, hb, hml, ho, hw⟩ := S
  obtain ⟨C', G', N'', t, g1, g2, g3, g4, g5⟩ := Ft
  obtain ⟨C, G, N, h1, h2, h3, h4, -⟩ := F
  cases g1.symm.trans h1
  cases hc.symm.trans h1
  exact va_putF hx hb hw h3 t g2 g3 ho hK hP hD hS q0 he h1 k h2 (hw _ hlk) (fun x h => by rw [← h4]; exact h) g4 hin h4 (by rw [g2 k h2, g5]) hn hfit hl hdg kk
end ZFields
/-- >>> of ints -/
def zushr (x y : Int32) : Int32 := (x.toUInt32 >>> (y.toUInt32 &&& Int32.toUInt32 31)).toInt32
def zlushr (x : Int64) (y : Int32) : Int64 := (x.toUInt64 >>> (y.toInt64.toUInt64 &&& Int64.toUInt64 63)).toInt64
def zlshl (x : Int64) (y : Int32) : Int64 := x <<< (y.toInt64 &&& 63)
def zlshr (x : Int64) (y : Int32) : Int64 := x >>> (y.toInt64 &&& 63)
theorem z_ne {x k : Int32} (h : ¬ x = k) {n : Int} (hk : k.toInt = n) : x.toInt ≠ n := fun e => h (Int32.toInt_inj.mp (e.trans hk.symm))
/-- the head of every contract: the machine at the method's entry -/
theorem zstart {l : Launch} {y : MethodName} {cc : ByteArray} {maxL : Nat} {ret : Option FieldType} {rm : Room} {D : va_G} {T : List (ClassId × FieldType)} {sz : Nat} {ws : va_W} {av : List Value} {Qc : (Nat → Prop) → Array Value → State → Outcome → State → Nat → Nat → Prop}
    (hy : plainName y.cls = true) (hmx : (lg_sl av).length ≤ maxL)
    (body : ∀ p e s m below meth c ls A, CallFix p m c cc maxL s av.toArray zW y.cls → meth.sig.returnType = ret → meth.locks = false → meth.name = y.name → s.heap.size = sz → va_K D zC T s → va_P D zC ws s.heap → va_D A ws → va_S A s.heap s.heap [] → (∀ q, s.heap.size ≤ q → A q) → A = va_A ws sz → lv_has ls maxL (lv_args 0 av) →
      W p l e rm s m av.toArray below meth c s.heap [] 0 0 (zMQ below (Qc A) av.toArray s A) (F0 m 0 ls [])) :
    zMet l y (zWs y cc maxL ret) rm (zPc D T sz ws av) (Qc (va_A ws sz)) (va_A ws sz) := by
  refine zMet.ofW (cc := cc) (maxL := maxL) (ret := ret) hy rfl ?_
  intro p e s m args below meth c s₁ B hml hv
  obtain ⟨rfl, hsz, hP, hK, hD0⟩ := hv
  have hts := atoms_spec (ws := zWs y cc maxL ret) B.pre
  have hA : ∀ q : Nat, s.heap.size ≤ q → va_A ws sz q := fun q h => Or.inr (by rw [← hsz]; exact h)
  have hl := lv_entry av (n := maxL) hmx
  rw [lg_entry_eq]
  exact body p e s m below meth c _ (va_A ws sz) ⟨B.exec, B.bytes, hml, findClass_of_methodNamed B.named, fun w h => hts w (List.mem_cons_of_mem _ h)⟩ B.returns B.notSynchronized (name_of_methodNamed B.named B.method).1 hsz hK hP hD0.self va_S.rf hA rfl hl
