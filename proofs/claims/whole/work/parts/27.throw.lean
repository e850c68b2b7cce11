/-! THE THROW: byteAt of a row that isn't known, and the law's catch -/
section TH
/-- the names above the exception's class -/
def thX : List String := ["java/lang/IndexOutOfBoundsException", "java/lang/RuntimeException", "java/lang/Exception"]
/-- the words that the making of the exception asks -/
def thW : List Cond := Bundle.ownAtoms RX3 102 RJx00060 thX
def thT : String := "no such row is known"
def thk : Cond → Bool
  | .declares _ => true
  | .castable _ _ => true
  | .laysStatic _ _ _ => true
  | .isRef (.static C n d) => decide (Cond.laysStatic C n d ∈ thW)
  | w => w.onTables && w.keeps
theorem thk_all : ∀ w ∈ thW, thk w = true := by decide +kernel
theorem th_lays {C n d : String} {a0 a : Array Value} {s0 U : State} (hW : s0.WarmedH U.vm) (hq : ∀ (q : Nat) (c : Cell), s0.heap[q]? = some c → U.heap[q]? = some c) (h : (Cond.laysStatic C n d).before a0 s0 = true) : (Cond.laysStatic C n d).before a U = true := by
  obtain ⟨c, k, i, f, a1, cell, hc, hi, hst, ha, hcell, hs, hcls, hlt, hty⟩ := Cond.laysStatic_spec h
  obtain ⟨k', hi', hek⟩ := State.fieldFound?_setVm hW.alike hi
  exact Cond.laysStatic_of (s := U) (by rw [hW.alike.findClass]; exact hc) hi' hst (by rw [hek]; exact ha) (hq _ _ hcell) hs hcls hlt (by rw [hek]; exact hty)
theorem th_ref {C n d : String} {a0 a : Array Value} {s0 U : State} (hW : s0.WarmedH U.vm) (hq : ∀ (q : Nat) (c : Cell), s0.heap[q]? = some c → U.heap[q]? = some c) (hl : (Cond.laysStatic C n d).before a0 s0 = true) (h : (Cond.isRef (.static C n d)).before a0 s0 = true) : (Cond.isRef (.static C n d)).before a U = true := by
  obtain ⟨c, k, i, f, a1, cell, hc, hi, hst, ha, hcell, hs, hcls, hlt, hty⟩ := Cond.laysStatic_spec hl
  obtain ⟨k', hi', hek⟩ := State.fieldFound?_setVm hW.alike hi
  have hi2 : U.fieldFound? C n d = some (c, k', i, f) := hi'
  have ha' : k'.statics = some a1 := by rw [hek]; exact ha
  have hcell' := hq _ _ hcell
  have hv : cell.slots[f.slot]? = some cell.slots[f.slot] := Array.getElem?_eq_getElem hlt
  have e1 : (Term.static C n d).eval a0 s0 none [] s0 = some cell.slots[f.slot] := by simp [Term.eval, State.fieldNamed?, hi, hst, ha, hcell, hs, hv]
  have e2 : (Term.static C n d).eval a U none [] U = some cell.slots[f.slot] := by simp [Term.eval, State.fieldNamed?, hi2, hst, ha', hcell', hs, hv]
  simp only [Cond.before, Cond.holds, Cond.value, e1] at h
  simp only [Cond.before, Cond.holds, Cond.value, e2]
  exact h
/-- what is carried for the throw: the words held at an earlier state whose cells all stand -/
def JT (U : State) : Prop := (∃ sa : Nat, vk_R RX3 100 thT sa U) ∧ ∃ (s0 : State) (a0 : Array Value), (∀ w ∈ thW, w.before a0 s0 = true) ∧ s0.WarmedH U.vm ∧ ∀ (q : Nat) (c : Cell), s0.heap[q]? = some c → U.heap[q]? = some c
theorem JT_use {U : State} (h : JT U) (a : Array Value) : ∀ w ∈ thW, w.before a U = true := by
  obtain ⟨-, s0, a0, hw, hW, hq⟩ := h
  intro w hm
  have hk := thk_all w hm
  have h1 := hw w hm
  unfold thk at hk
  split at hk
  · exact va_tabs rfl (rfl : (s0.setVm U.vm).vm = U.vm) (by rw [Cond.declares_setVm hW.alike]; exact h1)
  · exact va_tabs rfl (rfl : (s0.setVm U.vm).vm = U.vm) (by rw [Cond.castable_setVm hW.alike]; exact h1)
  · exact th_lays hW hq h1
  · exact th_ref hW hq (hw _ (of_decide_eq_true hk)) h1
  · exact word_at hW (Or.inl hk) h1
theorem JT_warm {u U : State} (hW : u.WarmedH U.vm) (hh : ∀ (q : Nat) (c : Cell), u.heap[q]? = some c → U.heap[q]? = some c) (h : JT u) : JT U := by
  obtain ⟨⟨sa, h1⟩, s0, a0, hw, hW0, hq⟩ := h
  exact ⟨⟨sa, h1.warm hW⟩, s0, a0, hw, State.WarmedH.trans hW0 hW, fun q c hc => hh q c (hq q c hc)⟩
theorem JT_same {u U : State} (hv : U.vm = u.vm) (hh : U.heap = u.heap) (h : JT u) : JT U := by
  obtain ⟨⟨sa, h1⟩, s0, a0, hw, hW0, hq⟩ := h
  exact ⟨⟨sa, h1.same hv⟩, s0, a0, hw, by rw [hv]; exact hW0, fun q c hc => by rw [hh]; exact hq q c hc⟩
/-- a method's end: it threw; one cell more, nothing else has changed -/
def TE (st : State) (o : Outcome) (t : State) : Prop := ∃ (q : Nat) (ce : Cell), o = .threw q ∧ st.WarmedH t.vm ∧ st.sameButNew ({ t with vm := st.vm } : State) [] 1 6 ∧ t.heap[q]? = some ce ∧ st.vm.findClass RJx00060 = some ce.cls ∧ ce.vm = .none ∧ st.vm.assignable ce.cls ce.cls = true
def Cth (l : Launch) (D : va_G) (cl : List vw_C) (tys : List (ClassId × FieldType)) (y : MethodName) (wy : List Cond) (rm : Room) (av : List Value) (ws : va_W) : Prop :=
  ∀ sz : Nat, MetFree l y (headSpec wy rm) (va_Pc av (fun U => U.heap.size = sz ∧ va_P D cl ws U.heap ∧ va_K D cl tys U ∧ va_D (fun _ => True) ws ∧ JT U)) (fun _ _ _ _ _ => True) (fun _ st o t => TE st o t)
abbrev rmX3_byteAtT : Room := { frames := 8, cells := 1, slots := 6, locals := 110 }
theorem nw_X3_byteAt_c : Cond.classLink RX3 98 RJx00060 ∈ wsX3_byteAt := by decide +kernel
theorem nw_X3_byteAt_i : Cond.instantiable RJx00060 6 ∈ wsX3_byteAt := by decide +kernel
theorem nw_X3_byteAt_n : Cond.initialized RJx00060 ∈ wsX3_byteAt := by decide +kernel
theorem th_fl : Cond.fieldLink RX3 49 "MirrorLog" "known" "I" ∈ wsX3_byteAt := by decide +kernel
theorem th_ui : ∀ w ∈ wsX30, w ∈ wsX3_byteAt := by decide +kernel
theorem th_fit : Bundle.fit RJx00060 = true := by decide +kernel
theorem th_fits : ∀ n ∈ thX, Bundle.fit n = true := by decide +kernel
end TH
section TH2
variable {p : Program} {l : Launch} {e : Env} {s : State} {m : MethodId} {args : Array Value} {below : List Frame} {meth : Method} {c : Code}
set_option maxHeartbeats 1000000 in
/-- from the 'new' on: the method ends in the throw -/
theorem th_throw (hx : p.tables.exec = Jvm.exec) (hb : c.code = cX3_byteAt) (hml : c.maxLocals = 3) (hown : s.vm.findClass RX3 = some m.cls) (hts : ∀ w ∈ wsX3_byteAt, w.before args s = true) (hJ : JT s) (htr : l.stackTraces = false)
    (hout : ∀ x ∈ c.exceptionTable.toList, covers x 21 = false) (hlocks : meth.locks = false) {ls : Array Slot} (hls : ls.size = 3) :
    W p l e rmX3_byteAtT s m args below meth c s.heap [] 0 0 (fun t => ∃ o, t.status = .running ∧ Ended t below o ∧ TE s o t) (F0 m 12 ls []) := by
  obtain ⟨cX, kX0, hfX, -⟩ := Cond.instantiable_spec (hts _ nw_X3_byteAt_i)
  obtain ⟨sa, hsa⟩ := hJ.1
  refine W.newcK hx hb hown (hts _ nw_X3_byteAt_c) (hts _ nw_X3_byteAt_i) (hts _ nw_X3_byteAt_n) rfl dX3_byteAt_12 (Nat.le_refl _) (Nat.le_refl _) hfX rfl fun H1 kX hkX hcell hz ho => ?_
  refine lv_dup hx hb (pc := 15) dX3_byteAt_15 rfl ?_
  refine va_ldcS hx hb hown hsa (pc := 16) dX3_byteAt_16 ?_
  intro T hT X
  have htr' : e.platform.stackTraces = false := by rw [Jvm.Example.NoTraceControls.admits_follows X.admits]; exact htr
  obtain ⟨U, hsteps, hrun, hend, hW, hsame, ce, hce, K⟩ := X.ctorThrowS hx htr' (own := RX3) (cls := RJx00060) (names := thX) (ic := 102) hown th_fit th_fits (JT_use hJ args) (fun y hy => by cases hy) hfX hkX (a := s.heap.size) (by rw [hT]; exact hcell) (Nat.le_refl _) (msg := .ref sa) rfl
    (g := F0 m 18 ls [.ref sa, .ref s.heap.size, .ref s.heap.size]) rfl (hls.trans hml.symm) rfl rfl (rest := []) rfl (by rw [hb]; exact dX3_byteAt_18) (by rw [hb]; exact dX3_byteAt_21) hout (by decide) (Nat.le_of_ble_eq_true rfl) hlocks
  exact ⟨U, hsteps, .threw s.heap.size, hrun, hend, s.heap.size, ce, rfl, hW, hsame, hce, K.cls, K.vm, K.self⟩
end TH2
set_option maxRecDepth 100000 in
set_option maxHeartbeats 4000000 in
/-- byteAt of a row that isn't known throws -/
theorem c_X3_byteAt_thr (l : Launch) (htr : l.stackTraces = false) (D : va_G) (cB cI cZ cJ : ClassId) (m0 : Nat) (m1 : Nat) (a0 : Nat) (a1 : Nat) (b0 : Nat) (b1 : Nat) (t0 : Nat) (t1 : Nat) (t2 : Nat) (t3 : Nat) (t4 : Nat) (fc : Nat) (mv : Nat) (kn : Nat) (sh : Bool) (rp : Nat) (bad : Int32) (F : Nat → UInt8) (n : Nat) (g : Nat → UInt8) (n2 : Nat) (g2 : Nat → UInt8) (c : Nat) (S : Nat → Nat) (Ln : Nat → Nat) (Z : Nat → Bool) (K : Nat → UInt8) (x y : Int32) (hx : x < 0 ∨ nI kn ≤ x) : Cth l D vwCl (tyl cB cI cZ cJ) yX3_byteAt wsX3_byteAt rmX3_byteAtT [.ref m0, .int x, .int y] [(m0, .inr (3, [.ref a0, .ref b0, .ref t0, .ref m1, .int (nI fc), .int (nI mv), .int (nI kn), .int (if sh = true then 1 else 0), .int (nI rp), .int bad])), (m1, .inl (cB, 64, .inl (bf F))), (a0, .inr (1, [.ref a1, .int (nI n)])), (a1, .inl (cB, 8192, .inl (bf g))), (b0, .inr (1, [.ref b1, .int (nI n2)])), (b1, .inl (cB, 8192, .inl (bf g2))), (t0, .inr (2, [.ref t1, .ref t2, .ref t3, .ref t4, .int (nI c)])), (t1, .inl (cI, 600, .inl (nf S))), (t2, .inl (cI, 600, .inl (nf Ln))), (t3, .inl (cZ, 600, .inl (zf Z))), (t4, .inl (cB, 38400, .inl (bf K)))] := by
  intro sz
  refine MetFree.of_bodyS (code := cX3_byteAt) (maxLocals := 3) (ret := some .int) (by decide) ?_ ?_
  · intro args s m h hn
    obtain ⟨meth, c, h1, h2, h3, h4, h5, h6, -, -⟩ := Cond.code_spec hn (atoms_spec (ws := wsX3_byteAt) h _ List.mem_cons_self)
    exact ⟨meth, c, h1, h2, h3, h4, h5, h6⟩
  · intro p e s m args below meth c s₁ B hml hv _
    obtain ⟨rfl, hsz, hP, hK, hD0, hJ⟩ := hv
    have hh0 : s₁.heap = s.heap := by rw [B.state]; rfl
    have hts := atoms_spec (ws := wsX3_byteAt) B.pre
    have hown : s.vm.findClass RX3 = some m.cls := findClass_of_methodNamed B.named
    have hno := covers_of_empty (B.noHandlers (hts _ List.mem_cons_self)) 21
    have key : ∀ ls : Array Slot, lv_has ls 3 (lv_args 0 [.ref m0, .int x, .int y]) → W p l e rmX3_byteAtT s m ([.ref m0, .int x, .int y] : List Value).toArray below meth c s.heap [] 0 0 (fun t => ∃ o, t.status = .running ∧ Ended t below o ∧ TE s o t) (F0 m 0 ls []) := by
      intro ls hl
      have hth := th_throw (l := l) (e := e) (below := below) (ls := ls) B.exec B.bytes hml hown hts hJ htr hno B.notSynchronized hl.1
      refine lv_iload_n B.exec B.bytes dX3_byteAt_0 rfl (lv_at hl 1 rfl) ?_
      refine lv_if_lt B.exec B.bytes (tgt := 12) dX3_byteAt_1 (by decide) (fun _ => hth) (fun h1 => ?_)
      refine lv_iload_n B.exec B.bytes dX3_byteAt_4 rfl (lv_at hl 1 rfl) ?_
      refine lv_aload_n B.exec B.bytes dX3_byteAt_5 rfl (lv_at hl 0 rfl) ?_
      refine va_get (T := TX3) (N := 10) B.exec B.bytes hts th_ui hown hK hP 0 rfl rfl 6 (by decide) (hts _ th_fl) (fun _ h => h) rfl dX3_byteAt_6 ?_
      refine lv_icmp_lt B.exec B.bytes (tgt := 22) dX3_byteAt_9 (by decide) (fun h => ?_) (fun _ => hth)
      exact absurd hx (fun q => q.elim h1 (fun q => Int32.not_lt.mpr q h))
    obtain ⟨t, a1, o, b1, b2, b3⟩ : ∃ t, Steps p.tables e below (s₁.setTop (entryFrame m ([.ref m0, .int x, .int y] : List Value).toArray 3)) t ∧ ∃ o, t.status = .running ∧ Ended t below o ∧ TE s o t := by
      rw [lg_entry_eq]
      exact key _ (lv_entry _ (Nat.le_of_ble_eq_true rfl)) s₁ hh0 (Stand.of_body B)
    exact ⟨t, o, a1, b1, b2, b3⟩
