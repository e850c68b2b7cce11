/-! THE CALL THAT THROWS, AND THE CATCH -/
section TC
variable {p : Program} {l : Launch} {e : Env} {R : Room} {s : State} {m : MethodId} {args : Array Value} {below : List Frame} {meth : Method} {c : Code} {T : State} {locs : List Loc} {cells slots : Nat}
theorem tc_same {st t : State} {k n : Nat} (h : st.sameButNew t [] k n) (a : Nat) (c : Cell) (hc : st.heap[a]? = some c) : t.heap[a]? = some c := by
  obtain ⟨-, -, -, -, -, h⟩ := h
  obtain ⟨c', h1, h2, h3, h4⟩ := h a c hc
  have e : c'.slots = c.slots := Array.ext_getElem? fun i => h4 i (fun q => by cases q)
  rw [h1, h2, e]
set_option maxHeartbeats 1000000 in
/-- 'invokevirtual' of a method that throws -/
theorem tc_call (X : Stand p l e R s m args below meth c T locs cells slots) (hexec : p.tables.exec = Jvm.exec) {own C : String} {index maxL n : Nat} {y : MethodName} {bytes : ByteArray} {ret : Option FieldType} {wy : List Cond} {rm : Room} {Pc : Array Value → State → Prop} (hown : s.vm.findClass own = some m.cls)
    (hM : MetFree l y (headSpec wy rm) Pc (fun _ _ _ _ _ => True) (fun _ st o t => TE st o t)) (hbl : FrameBlind Pc) (cw : CallW R s args own C index y bytes maxL ret wy rm 1 6 n)
    {b : Addr} {cellB : Cell} (hcell : T.heap[b]? = some cellB) (hobj : cellB.vm.isStatics = false) (hcls : s.vm.findClass C = some cellB.cls)
    {g : JFrame} (hg : g.method = m) (hsize : g.locals.size = c.maxLocals) {As rest : List Value} (hlen : As.length = n) (hstack : g.stack = As.reverse ++ .ref b :: rest) (hW : 2 * g.monitorRoom + (rest.map fun v => v.category).sum ≤ 8) (hdg : decode c.code g.pc = .ok (.invokevirtual index, 3))
    (hf : cells + 1 ≤ R.cells ∧ slots + 6 ≤ R.slots) (hpre : ∀ vm₁, s.WarmedH vm₁ → Pc (Value.ref b :: As).toArray (T.setVm vm₁)) :
    ∃ (q : Nat) (ce : Cell) (T' : State), Stand p l e R s m args below meth c T' locs (cells + 1) (slots + 6) ∧ T.heap.size ≤ T'.heap.size ∧ (∀ (a : Nat) (d : Cell), T.heap[a]? = some d → T'.heap[a]? = some d) ∧ T'.heap[q]? = some ce ∧ s.vm.findClass RJx00060 = some ce.cls ∧ ce.vm = .none ∧ s.vm.assignable ce.cls ce.cls = true ∧
      Steps p.tables e below (T.setTop g) ((T'.setTop { g with stack := rest }).pushFrame (.throwing q)) := by
  obtain ⟨⟨hrc, hrs, hfr, hlo, hws, hcw, hcode, hini, hy, hln, hlink⟩, hinst, hsel⟩ := cw
  obtain ⟨mk, methM, hnamed, hmethM, hstM, habM⟩ := Cond.instanceMethod_spec hinst
  obtain ⟨methM', cM, hmethM', -, -, -, -, -, -, hsigM⟩ := Cond.code_spec hnamed hcode
  cases hmethM.symm.trans hmethM'
  obtain ⟨c2, r2, m2, q1, q2, q3, q4, kP, hkP, hkPi⟩ := Cond.selects_spec hsel
  cases hcls.symm.trans q1
  cases (State.methodFound?_of_named hnamed hy).symm.trans q2
  cases hnamed.symm.trans q3
  have hselP : selectMethod e.platform s.vm cellB.cls mk = .method mk := by rw [Launch.admits_selectMethod X.admits]; exact q4
  obtain ⟨vm₁, X₁, hstep₁⟩ := X.invokevirtual hexec hown hlink hnamed hmethM hstM hkP hkPi hy (a := b) (cell := cellB) hcell
    (fun z h => by rw [h] at hobj; cases hobj) hselP hmethM habM hkP hkPi (g := g) hg (argsL := As) (rest := rest) (hlen.trans (hln _ hsigM)) hstack hdg
  have hn₁ := X₁.named hnamed
  have hPc := hpre vm₁ X₁.warmed
  obtain ⟨U, hU⟩ : ∃ U, U = T.setVm vm₁ := ⟨_, rfl⟩
  have hUh : U.heap = T.heap := by rw [hU]; rfl
  rw [← hU] at X₁ hn₁ hPc hstep₁
  have hWU : s.WarmedH U.vm := X₁.warmed
  obtain ⟨methY, cY, hmY, hcY, -, hlY, -, -, -, -⟩ := Cond.code_spec hn₁ (hws _ hcw (Value.ref b :: As).toArray U hWU)
  obtain ⟨kY, hkY, -⟩ := className_of_methodNamed hn₁
  have hinitY : kY.init = .initialized := Cond.initialized_spec (findClass_of_methodNamed hn₁) hkY (word_at (a' := (Value.ref b :: As).toArray) hWU (Or.inl (by first | rfl | simp [Cond.onTables, Cond.keeps, Cond.steady])) hini)
  obtain ⟨g2, hg2⟩ : ∃ g2 : JFrame, g2 = { g with stack := rest } := ⟨_, rfl⟩
  have hg2m : g2.method = m := by rw [hg2]; exact hg
  have h : At U g2.method c below := by rw [hg2m]; exact X₁.here
  have hdg2 : decode c.code g2.pc = .ok (.invokevirtual index, 3) := by rw [hg2]; exact hdg
  have hsize2 : g2.locals.size = c.maxLocals := by rw [hg2]; exact hsize
  have hW2 : 2 * g2.monitorRoom + (g2.stack.map fun v => v.category).sum ≤ 8 := by rw [hg2]; exact hW
  have happ : (headSpec wy rm).appliesLoose y e.platform (U.calling g2 mk (Value.ref b :: As).toArray) = true :=
    Spec.appliesLoose_calling (g := g2) h hdg2 hn₁ hkY hinitY
      (X₁.room_calling (g := g2) (R' := (headSpec wy rm).room) hsize2 hmY hcY hfr (by rw [hlY]; show _ + _ + rm.locals ≤ R.locals; omega) (by show cells + rm.cells ≤ _; rw [hrc]; exact hf.1) (by show slots + rm.slots ≤ _; rw [hrs]; exact hf.2)) (atoms_intro fun w hw => hws w hw _ _ hWU)
  obtain ⟨mid, hmid⟩ := h.above
  have hfrm : (U.setTop g2).frames = (.java g2 :: mid) ++ below := by rw [State.frames_setTop' g2 h.top, hmid]; rfl
  obtain ⟨o, s₂, hsteps, -, hend, hq⟩ := Steps.callFree hM p X₁.admits X₁.cas X₁.clock (acts := []) hfrm happ (hbl _ U g2 mk hPc) trivial
  rw [State.frames_setTop' g2 h.top] at hend
  obtain ⟨q, ce, rfl, hW₃, hsame, hce, hce1, hce2, hce3⟩ := hq
  obtain ⟨e2, w2, w3, w4, w5, w6⟩ := id hsame
  have hW' : U.WarmedH s₂.vm := hW₃
  have e3 : s₂ = ({ (U.calling g2 mk (Value.ref b :: As).toArray).setFrames s₂.frames with heap := s₂.heap, slotsUsed := s₂.slotsUsed } : State).setVm s₂.vm := by
    have : s₂ = ({ s₂ with vm := (U.calling g2 mk (Value.ref b :: As).toArray).vm } : State).setVm s₂.vm := rfl
    rw [show ({ s₂ with vm := (U.calling g2 mk (Value.ref b :: As).toArray).vm } : State) = _ from e2] at this
    exact this
  have hf₂ : s₂.frames = .throwing q :: .java g2 :: U.frames.tail := hend
  obtain ⟨g₀, hg0⟩ := Option.isSome_iff_exists.mp h.top
  obtain ⟨r, hr⟩ := State.topJava?_eq_some.mp hg0
  have hs₂ : s₂ = ((({ U with heap := s₂.heap, slotsUsed := s₂.slotsUsed } : State).setVm s₂.vm).setTop g2).pushFrame (.throwing q) := by
    have hr' : (({ U with heap := s₂.heap, slotsUsed := s₂.slotsUsed } : State).setVm s₂.vm).frames = .java g₀ :: r := hr
    refine e3.trans ?_
    rw [hf₂, State.calling_eq h.top, State.setFrames_setFrames, State.pushFrame, State.frames_setTop _ hr', State.setTop_of_frames _ hr', State.setFrames_setFrames, hr]
    rfl
  have hsameU : U.sameButNew ({ U with heap := s₂.heap, slotsUsed := s₂.slotsUsed } : State) [] 1 6 := by
    refine ⟨?_, w2, w3, w4, w5, w6⟩
    obtain ⟨t, ht, -⟩ := State.frames_cons hr
    show ({ U with heap := s₂.heap, slotsUsed := s₂.slotsUsed } : State) = { U.setFrames U.frames with heap := s₂.heap, slotsUsed := s₂.slotsUsed }
    rw [State.setFrames_self ht]
  have hsameX := X₁.same.trans (hsameU.setVm s.vm)
  rw [List.append_nil] at hsameX
  refine ⟨q, ce, ({ U with heap := s₂.heap, slotsUsed := s₂.slotsUsed } : State).setVm s₂.vm, ⟨X₁.admits, X₁.cas, X₁.clock, X₁.frames, X₁.room, X₁.hears, X₁.method, X₁.code, (X₁.here.setHeapUsed s₂.heap s₂.slotsUsed).setVm hW'.alike, X₁.tail, State.WarmedH.trans X₁.warmed hW', X₁.limits, X₁.bytes, hsameX⟩,
    by rw [← hUh]; exact w2, fun a d ha => tc_same hsameU a d (by rw [hUh]; exact ha), hce, by rw [← hWU.alike.findClass]; exact hce1, hce2, by rw [← hWU.alike.assignable]; exact hce3, ?_⟩
  rw [← hg2, ← hs₂]
  exact hstep₁ _ fun acts => by rw [doInvoke_state, ← hg2]; exact hsteps
set_option maxHeartbeats 1000000 in
/-- the one entry of the method's table takes the thrown object -/
theorem tc_catch (X : Stand p l e R s m args below meth c T locs cells slots) (q : Nat) {g : JFrame} (hg : g.method = m) {own nm : String} (hown : s.vm.findClass own = some m.cls) {x : ExceptionTableEntry} (htab : c.exceptionTable.toList = [x]) (hx : covers x g.pc = true) (h0 : x.catchType ≠ 0)
    (hlink : (Cond.classLink own x.catchType nm).before args s = true) {ce : Cell} (hcell : T.heap[q]? = some ce) (hfc : s.vm.findClass nm = some ce.cls) (hvm : ce.vm = .none) (hfit : s.vm.assignable ce.cls ce.cls = true) :
    ∃ vm', Stand p l e R s m args below meth c (T.setVm vm') locs cells slots ∧
      ∀ tg, Steps p.tables e below ((T.setVm vm').setTop { g with pc := x.handlerPc, stack := [.ref q] }) tg → Steps p.tables e below ((T.setTop g).pushFrame (.throwing q)) tg := by
  have hpl : e.platform.magicAccessors = ({} : Platform).magicAccessors := by rw [X.admits.platform]
  obtain ⟨c', hc', hcl⟩ := Cond.classLink_spec hown hlink e.platform hpl
  cases hfc.symm.trans hc'
  obtain ⟨dk, _, _, kt, hd, _, _, _, _, hkt, _, hopen⟩ := hcl.here
  have hclT := X.warmed.classLinks hcl
  have hW' : s.WarmedH (T.vm.noted m.cls x.catchType (.cls ce.cls)) := X.warmed.noted hd hopen (State.rightAt_cls hcl)
  have hal := X.warmed.alike
  have hal2 : T.vm.Alike (T.vm.noted m.cls x.catchType (.cls ce.cls)) := (Vm.Alike.refl T.vm).noted _ _ _
  obtain ⟨kt', hkt', -⟩ := hal.2.2 _ _ hkt
  obtain ⟨kt2, hkt2, -⟩ := hal2.2.2 _ _ hkt'
  have hfit' : T.vm.assignable ce.cls ce.cls = true := by rw [hal.assignable]; exact hfit
  have hfit2 : (T.vm.noted m.cls x.catchType (.cls ce.cls)).assignable ce.cls ce.cls = true := by rw [hal2.assignable]; exact hfit'
  subst hg
  refine ⟨_, X.noted hW', fun tg hrest => ?_⟩
  have h := X.here
  have hfind : ∀ (Q : Handler → Pre) (E : CtlPost) (d : Bool) (acts : List Action), wp (findHandler g q) Q E e d acts ((T.setTop g).pushFrame (.throwing q)) ↔ Q (.found x.handlerPc) d acts (((T.setTop g).pushFrame (.throwing q)).setVm (T.vm.noted g.method.cls x.catchType (.cls ce.cls))) := by
    intro Q E d acts
    have hxx := hx
    simp only [covers] at hxx
    have hcell2 : ((T.setTop g).pushFrame (.throwing q)).heap[q]? = some ce := hcell
    have hobj : ∀ k, ce.vm ≠ .statics k := fun k => by rw [hvm]; exact fun z => by cases z
    have hl2 : ((T.setTop g).pushFrame (.throwing q)).vm.ClassLinks e.platform g.method.cls x.catchType ce.cls := hclT
    obtain ⟨ha, ht⟩ := (resolveClass_links e.toSetting hl2).op (op := VmOp.resolveClass g.method.cls x.catchType) rfl
    rw [Jvm.W.findHandler_eq (s := (T.setTop g).pushFrame (.throwing q)) (meth := meth) (code := c) X.method' X.code, htab]
    have hvmS : ((T.setTop g).pushFrame (.throwing q)).vm = T.vm := rfl
    rw [hvmS] at ha ht
    simp [findHandler.go, hxx, h0, ha, ht, hcell2, hobj, hkt2, hfit2, VmOp.dirties, VmOp.acts, hvmS]
  obtain ⟨hgo, hw⟩ := h.throwing q
  refine Steps.head hgo hw ?_
  have his : ∀ r : List Frame, (stepThrowing e ((T.setTop g).pushFrame (.throwing q)) q (.java g :: r)).Is ((((T.setTop g).pushFrame (.throwing q)).setVm (T.vm.noted g.method.cls x.catchType (.cls ce.cls))).setFrames (.java { g with pc := x.handlerPc, stack := [.ref q] } :: r)) [] := by
    intro r
    simp only [stepThrowing, searchFrame, vmDo]
    generalize hres : Sem.go _ e false [] ((T.setTop g).pushFrame (.throwing q)) = res
    obtain ⟨as, rfl, ha⟩ := Sem.eq_ok_of hres (a := Handler.found x.handlerPc) (s' := ((T.setTop g).pushFrame (.throwing q)).setVm (T.vm.noted g.method.cls x.catchType (.cls ce.cls))) (acts' := []) (by simp [hfind _ _ _ _])
    exact ⟨rfl, ha⟩
  rw [stepThread_throwing (frames_entered h.top _), (his _).1]
  obtain ⟨g₀, hg0⟩ := Option.isSome_iff_exists.mp h.top
  obtain ⟨r, hr⟩ := State.topJava?_eq_some.mp hg0
  have hr' : (T.setVm (T.vm.noted g.method.cls x.catchType (.cls ce.cls))).frames = .java g₀ :: r := hr
  rw [State.setTop_of_frames _ hr'] at hrest
  have hsw : ∀ (u : State) (v : Vm) (F G : List Frame), ((u.setFrames F).setVm v).setFrames G = (u.setVm v).setFrames G := fun u v F G => by
    rw [show (u.setFrames F).setVm v = (u.setVm v).setFrames F from rfl, State.setFrames_setFrames]
  rw [hr, List.tail_cons, State.pushFrame, hsw, State.setTop_of_frames _ hr, hsw]
  exact hrest
end TC
