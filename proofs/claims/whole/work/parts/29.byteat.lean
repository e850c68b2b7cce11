abbrev rmL_byteAt : Room := { frames := 9, cells := 1, slots := 6, locals := 140 }
abbrev rmX3_byteAt : Room := { frames := 3, cells := 0, slots := 0, locals := 64 }
theorem fl_X3_byteAt_49 : Cond.fieldLink RX3 49 "MirrorLog" "known" "I" ∈ wsX3_byteAt := by decide +kernel
theorem ui_X3_byteAt_X3 : ∀ w ∈ wsX30, w ∈ wsX3_byteAt := by decide +kernel
theorem fl_X3_byteAt_22 : Cond.fieldLink RX3 22 "MirrorLog" "table" "LMirrorLog$RowTable;" ∈ wsX3_byteAt := by decide +kernel
set_option maxRecDepth 100000 in
set_option maxHeartbeats 4000000 in
theorem c_X3_byteAt_ok (l : Launch) (D : va_G) (cB cI cZ cJ : ClassId) (m0 : Nat) (m1 : Nat) (a0 : Nat) (a1 : Nat) (b0 : Nat) (b1 : Nat) (t0 : Nat) (t1 : Nat) (t2 : Nat) (t3 : Nat) (t4 : Nat) (fc : Nat) (mv : Nat) (kn : Nat) (sh : Bool) (rp : Nat) (bad : Int32) (F : Nat → UInt8) (n : Nat) (g : Nat → UInt8) (n2 : Nat) (g2 : Nat → UInt8) (c : Nat) (S : Nat → Nat) (Ln : Nat → Nat) (Z : Nat → Bool) (K : Nat → UInt8) (k : Nat) (y : Int32) (hc : c ≤ 600) (hkn : kn ≤ c) (hk : k < kn) (hl : Ln k ≤ 64) : Ct l D vwCl (tyl cB cI cZ cJ) yX3_byteAt wsX3_byteAt rmX3_byteAt [.ref m0, .int (nI k), .int y] [(m0, .inr (3, [.ref a0, .ref b0, .ref t0, .ref m1, .int (nI fc), .int (nI mv), .int (nI kn), .int (if sh = true then 1 else 0), .int (nI rp), .int bad])), (m1, .inl (cB, 64, .inl (bf F))), (a0, .inr (1, [.ref a1, .int (nI n)])), (a1, .inl (cB, 8192, .inl (bf g))), (b0, .inr (1, [.ref b1, .int (nI n2)])), (b1, .inl (cB, 8192, .inl (bf g2))), (t0, .inr (2, [.ref t1, .ref t2, .ref t3, .ref t4, .int (nI c)])), (t1, .inl (cI, 600, .inl (nf S))), (t2, .inl (cI, 600, .inl (nf Ln))), (t3, .inl (cZ, 600, .inl (zf Z))), (t4, .inl (cB, 38400, .inl (bf K)))] (some (.int (cAt (Ln k) (fun j => K (k * 64 + j)) y))) [(m0, .inr (3, [.ref a0, .ref b0, .ref t0, .ref m1, .int (nI fc), .int (nI mv), .int (nI kn), .int (if sh = true then 1 else 0), .int (nI rp), .int bad])), (m1, .inl (cB, 64, .inl (bf F))), (a0, .inr (1, [.ref a1, .int (nI n)])), (a1, .inl (cB, 8192, .inl (bf g))), (b0, .inr (1, [.ref b1, .int (nI n2)])), (b1, .inl (cB, 8192, .inl (bf g2))), (t0, .inr (2, [.ref t1, .ref t2, .ref t3, .ref t4, .int (nI c)])), (t1, .inl (cI, 600, .inl (nf S))), (t2, .inl (cI, 600, .inl (nf Ln))), (t3, .inl (cZ, 600, .inl (zf Z))), (t4, .inl (cB, 38400, .inl (bf K)))] := by
  refine x_start (cc := cX3_byteAt) (maxL := 3) (ret := (some .int)) (by decide) rfl (Nat.le_of_ble_eq_true rfl) ?_
  intro xp xe xs xm xb xt xc xA E hr hlocks hnm
  obtain ⟨-, -, -, hown, hts, hK, hA⟩ := id E
  refine x_lve (lv' := [(0, .ref m0), (1, .int (nI k)), (2, .int y)]) rfl ?_
  refine x_iload_n E 1 dX3_byteAt_0 rfl ?_
  refine x_nif_lt E 12 dX3_byteAt_1 (by decide) (by omega) (fun h => absurd h (fun h => Nat.not_lt_zero _ h)) (fun h1 => ?_)
  refine x_iload_n E 1 dX3_byteAt_4 rfl ?_
  refine x_aload_n E 0 dX3_byteAt_5 rfl ?_
  refine x_get E 0 6 dX3_byteAt_6 ui_X3_byteAt_X3 rfl rfl (by decide) fl_X3_byteAt_49 rfl rfl ?_
  refine x_ncmp_lt E 22 dX3_byteAt_9 (by decide) (by omega) (by omega) (fun h9 => ?_) (fun h => False.elim (by omega))
  refine x_aload_n E 0 dX3_byteAt_22 rfl ?_
  refine x_get E 0 2 dX3_byteAt_23 ui_X3_byteAt_X3 rfl rfl (by decide) fl_X3_byteAt_22 rfl rfl ?_
  refine x_iload_n E 1 dX3_byteAt_26 rfl ?_
  refine x_iload_n E 2 dX3_byteAt_27 rfl ?_
  refine x_cV E [.int (nI k), .int y] [] [.int (cAt (Ln k) (fun j => K (k * 64 + j)) y)] [(m0, .inr (3, [.ref a0, .ref b0, .ref t0, .ref m1, .int (nI fc), .int (nI mv), .int (nI kn), .int (if sh = true then 1 else 0), .int (nI rp), .int bad])), (m1, .inl (cB, 64, .inl (bf F))), (a0, .inr (1, [.ref a1, .int (nI n)])), (a1, .inl (cB, 8192, .inl (bf g))), (b0, .inr (1, [.ref b1, .int (nI n2)])), (b1, .inl (cB, 8192, .inl (bf g2))), (t0, .inr (2, [.ref t1, .ref t2, .ref t3, .ref t4, .int (nI c)])), (t1, .inl (cI, 600, .inl (nf S))), (t2, .inl (cI, 600, .inl (nf Ln))), (t3, .inl (cZ, 600, .inl (zf Z))), (t4, .inl (cB, 38400, .inl (bf K)))] (c_X2_contentAt l D cB cI cZ cJ t0 t1 t2 t3 t4 c S Ln Z K k y (by omega) (by omega) (by omega)) 0 rfl rfl (cwV 2 hts gX3_byteAt_X2_contentAt rfl rfl rfl (by decide +kernel) ⟨Nat.le_of_ble_eq_true rfl, Nat.le_of_ble_eq_true rfl⟩) [6, 7, 8, 9, 10] [0, 1, 2, 3, 4, 5] rfl rfl (by decide) (by decide) (by decide) [0, 1, 2, 3, 4, 5, 6, 7, 8, 9, 10] (by decide) rfl rfl (Nat.le_of_ble_eq_true rfl) dX3_byteAt_28 ⟨Nat.zero_le _, Nat.zero_le _⟩ rfl rfl ?_
  exact x_iret E hr hlocks dX3_byteAt_31 ⟨rfl, rfl⟩
section XR3
variable {p : Program} {l : Launch} {e : Env} {R : Room} {s : State} {m : MethodId} {args : Array Value} {below : List Frame} {meth : Method} {c : Code} {D : va_G} {cl : List vw_C} {A : Nat → Prop} {nL cells slots : Nat} {Q : State → Prop}
variable {cc : ByteArray} {own : String} {Ts : List Cond} {tys : List (ClassId × FieldType)} {ws ws' : va_W} {lv lv' : List (Nat × Value)} {pc : Nat} {st : List Value}
theorem x_startW {y : MethodName} {wy wy' : List Cond} {rm : Room} {mc ms maxL : Nat} {ret : Option FieldType} {av : List Value} {J : State → Prop} {P : Option Value → va_W → Prop} {hh : List (Nat × Nat × Nat × Nat)} (hy : plainName y.cls = true) (hw : wy = Cond.codeWith y cc maxL ret hh :: wy') (hav : (lg_sl av).length ≤ maxL)
    (body : ∀ (p : Program) (e : Env) (s : State) (m : MethodId) (below : List Frame) (meth : Method) (c : Code) (A : Nat → Prop), En p s m av.toArray c cc maxL y.cls wy D cl tys A → meth.sig.returnType = ret → meth.locks = false → J s →
      Xs p l e rm s m av.toArray below meth c D cl A maxL 0 0 (MQ below (CQ D cl tys A P) av.toArray s mc ms A) ws (lv_args 0 av) 0 []) : Cj l D cl tys y wy rm mc ms av ws J P := by
  intro sz
  refine va_MetW (cc := cc) (maxL := maxL) (ret := ret) (hh := hh) hy hw ?_
  intro p e s m args below meth c s₁ B hml hv
  obtain ⟨rfl, hsz, hP, hK, hD0, hJ⟩ := hv
  subst hsz
  have hD := hD0.self (sz := s.heap.size)
  rw [lg_entry_eq]
  exact body p e s m below meth c (va_A ws s.heap.size) ⟨B.exec, B.bytes, hml, findClass_of_methodNamed B.named, atoms_spec (ws := wy) B.pre, hK, fun q h => Or.inr h⟩ B.returns B.notSynchronized hJ s.heap [] _ hP hD va_S.rf (lv_entry av hav)
theorem x_last (E : En p s m args c cc nL own Ts D cl tys A) {a n i : Nat} {cA : ClassId} {f : Nat → Int64} {x : Int64} (q0 t0 : Nat) (ws' : va_W) (hd : decode cc pc = .ok (.lastore, 1)) (ha : ws[q0]? = some (a, .inl (cA, n, .inr (.inl f)))) (ht : tys[t0]? = some (cA, .long)) (hi : i < n) (hn : n < 2 ^ 31) (hw : ws.set q0 (a, .inl (cA, n, .inr (.inl (vp_updL f i x)))) = ws')
    (k : Xs p l e R s m args below meth c D cl A nL cells slots Q (ws') (lv) (pc + 1) (st)) : Xs p l e R s m args below meth c D cl A nL cells slots Q (ws) (lv) (pc) (.long x :: .int (nI i) :: .ref a :: st) := by
  obtain ⟨hx, hb, hml, hown, hts, hK, hA⟩ := E
  intro H locs ls hP hD hS hl
  subst hw
  refine va_last hx hb hK hP hD hS q0 t0 ha ht (vp_in_nI hi hn) hd (fun H1 locs1 hP1 hD1 hS1 => ?_)
  rw [x_ncl hi hn] at hP1 hD1
  exact k H1 locs1 ls hP1 hD1 hS1 hl
theorem x_lald (E : En p s m args c cc nL own Ts D cl tys A) {a n i : Nat} {cA : ClassId} {f : Nat → Int64} (q0 t0 : Nat) (hd : decode cc pc = .ok (.laload, 1)) (ha : ws[q0]? = some (a, .inl (cA, n, .inr (.inl f)))) (ht : tys[t0]? = some (cA, .long)) (hi : i < n) (hn : n < 2 ^ 31)
    (k : Xs p l e R s m args below meth c D cl A nL cells slots Q (ws) (lv) (pc + 1) (.long (f i) :: st)) : Xs p l e R s m args below meth c D cl A nL cells slots Q (ws) (lv) (pc) (.int (nI i) :: .ref a :: st) := by
  obtain ⟨hx, hb, hml, hown, hts, hK, hA⟩ := E
  intro H locs ls hP hD hS hl
  exact va_lald hx hb hK hP q0 t0 ha ht (vp_in_nI hi hn) hd (by rw [x_ncl hi hn]; exact (k H locs ls hP hD hS hl))
theorem x_lcmp (E : En p s m args c cc nL own Ts D cl tys A) {x y : Int64} (hd : decode cc pc = .ok (.lcmp, 1))
    (k : Xs p l e R s m args below meth c D cl A nL cells slots Q (ws) (lv) (pc + 1) (.int (lg_cmp x y) :: st)) : Xs p l e R s m args below meth c D cl A nL cells slots Q (ws) (lv) (pc) (.long y :: .long x :: st) := by
  obtain ⟨hx, hb, hml, hown, hts, hK, hA⟩ := E
  intro H locs ls hP hD hS hl
  exact W.lcmp hx hb hd (k H locs ls hP hD hS hl)
/-- a static method with an exception table is called -/
theorem x_runSW {y : MethodName} {bytes : ByteArray} {maxL mc ms n index : Nat} {ret : Option FieldType} {hh : List (Nat × Nat × Nat × Nat)} {wy wy' : List Cond} {rm : Room} {Pc : Array Value → State → Prop} {Qc : Array Value → State → Outcome → State → Prop} {free : Addr → Prop} {H : Heap} {locs : List Loc} {As rest : List Value} {g : JFrame}
    (S : CallFix p m c cc nL s args Ts own) (hM : Met l y wy rm Pc Qc mc ms free) (hw : wy = Cond.codeWith y bytes maxL ret hh :: wy') (hT : GoodIn Ts (va_wsS own index y wy)) (hrc : rm.cells = mc) (hrs : rm.slots = ms)
    (hd : y.cls ≠ "java/lang/invoke/MethodHandle" ∧ y.cls ≠ "java/lang/invoke/VarHandle" ∧ (parseMethodDescriptor y.desc).map (fun d => d.parameters.length) = some n) (hR : rm.frames + 1 ≤ R.frames ∧ 8 + (maxL + 11) + rm.locals ≤ R.locals) (hp : PreS s H Pc As)
    (hg : g.method = m) (hn : As.length = n) (hsize : g.locals.size = nL) (hstack : g.stack = As.reverse ++ rest) (hW : 2 * g.monitorRoom + (rest.map fun v => v.category).sum ≤ 8) (hdg : decode cc g.pc = .ok (.invokestatic index, 3)) (hf : cells + mc ≤ R.cells ∧ slots + ms ≤ R.slots) :
    va_Run p l e R s m args below meth c H locs cells slots mc ms g rest (Qc As.toArray) (free) := by
  obtain ⟨hx, hb, hml, ho, ht⟩ := S
  have ok : ∀ w ∈ va_wsS own index y wy, w.before args s = true := fun w h => ht w (hT w h).1
  have hG : GoodIn Ts wy := fun w h => hT w (by unfold va_wsS; exact List.mem_append_right _ h)
  have hc : Cond.codeWith y bytes maxL ret hh ∈ wy := by rw [hw]; exact List.mem_cons_self
  have hini : (Cond.initialized y.cls).before args s = true := ok _ (by simp [va_wsS])
  have hlink : (Cond.methodLink own index y).before args s = true := ok _ (by simp [va_wsS])
  have hsta : (Cond.static y).before args s = true := ok _ (by simp [va_wsS])
  have hK : Back l R p e below s args y 3 8 (PreOf R mc ms Pc) (PostOf Qc mc ms free) := va_backW (hh := hh) (bytes := bytes) (maxL := maxL) (ret := ret) hM hp.1 hrc hrs hR.1 hR.2 (pay_in ht hG) hc (fun a' U hW => word_at hW (Or.inl (by first | rfl | simp [Cond.onTables, Cond.keeps, Cond.steady])) hini)
  intro T hT0 X
  obtain ⟨mk, methM, cM, hnamed, hmethM, -, -, -, -, -, -, hsigM⟩ := Cond.codeWith_spec (ht _ (hG _ hc).1)
  have hstatic : methM.isStatic = true := Cond.static_spec hnamed hmethM hsta
  obtain ⟨kP, hkP, -⟩ := className_of_methodNamed hnamed
  have hinitP : kP.init = .initialized := Cond.initialized_spec (findClass_of_methodNamed hnamed) hkP hini
  have hlen : As.length = methM.sig.parameters.length := by
    have h2 := hd.2.2
    rw [hsigM] at h2
    exact hn.trans (Option.some.inj h2).symm
  obtain ⟨vm₁, X₁, hstep₁⟩ := X.invokestatic hx ho hlink hnamed hmethM hstatic hkP hinitP ⟨hd.1, hd.2.1⟩ (g := g) hg (argsL := As) (rest := rest) hlen hstack (by rw [hb]; exact hdg)
  obtain ⟨v, ⟨U', l2, c2, s2⟩, X', ⟨g', mk2, t, L, e1, e2, hq, h1, hL, h2, h3⟩, hsteps⟩ := hK m meth c ⟨T.setVm vm₁, locs, cells, slots⟩ { g with stack := rest } (.invokestatic index) mk As.toArray X₁ hg (hsize.trans hml.symm) (by rw [hb]; exact hdg) hW (X₁.named hnamed) ⟨hf.1, hf.2, hp.2 (T.setVm vm₁) hT0 X₁.warmed⟩
  dsimp only [Pt.U, Pt.locs, Pt.cells, Pt.slots] at X' e1 e2 h1 h2 h3 hsteps
  subst h1; subst h2; subst h3
  exact ⟨v, (T.setVm vm₁).calling g' mk2 As.toArray, t, U', L, hT0, X', hL, e1, e2, hq, fun target h => hstep₁ _ fun acts => by rw [doInvoke_state]; exact hsteps.trans h⟩
theorem x_gSW (E : En p s m args c cc nL own Ts D cl tys A) {y : MethodName} {bytes : ByteArray} {maxL mc ms n index : Nat} {ret : Option FieldType} {hh : List (Nat × Nat × Nat × Nat)} {wy wy' : List Cond} {rm : Room} {wc wr : va_W} {P : Option Value → va_W → Prop} {J : State → Prop} (As : List Value) (hM : Cj l D cl tys y wy rm mc ms As wc J P)
    (hJ1 : ∀ (a : Array Value) (U : State) (g : JFrame) (mk : MethodId), J U → J (U.calling g mk a)) (hJ2 : ∀ (H : Heap) (locs : List Loc) (U : State), va_S A s.heap H locs → U.heap = H → s.WarmedH U.vm → J U)
    (hw : wy = Cond.codeWith y bytes maxL ret hh :: wy') (hT : GoodIn Ts (va_wsS own index y wy)) (hrc : rm.cells = mc) (hrs : rm.slots = ms) (hdd : y.cls ≠ "java/lang/invoke/MethodHandle" ∧ y.cls ≠ "java/lang/invoke/VarHandle" ∧ (parseMethodDescriptor y.desc).map (fun d => d.parameters.length) = some n) (hR0 : rm.frames + 1 ≤ R.frames ∧ 8 + (maxL + 11) + rm.locals ≤ R.locals)
    (isC isR : List Nat) (hC : isC.map (fun i => ws[i]?) = wc.map some) (hR : isR.map (fun i => ws[i]?) = wr.map some) (hnC : va_nd isC = true) (hnR : va_nd isR = true) (hdis : ∀ i ∈ isR, i ∉ isC) (hlen : As.length = n) (hroom : (st.map fun v => v.category).sum ≤ 8) (hd : decode cc pc = .ok (.invokestatic index, 3)) (hf : cells + mc ≤ R.cells ∧ slots + ms ≤ R.slots) {st0 : List Value} (hst : st0 = As.reverse ++ st)
    (k : ∀ (r : Option Value) (u : va_W), P r u → Xs p l e R s m args below meth c D cl A nL (cells + mc) (slots + ms) Q (wr ++ u) (lv) (pc + 3) (r.toList ++ st)) : Xs p l e R s m args below meth c D cl A nL cells slots Q (ws) (lv) (pc) (st0) := by
  obtain ⟨hx, hb, hml, hown, hts, hK, hA⟩ := E
  refine x_after (tys := tys) (mc := mc) (ms := ms) (a := As.toArray) (rm := rm) hA isC isR hC hR hnR hdis (fun H locs ls hP hD hS hl => ?_) k
  have hPc := hP.sub isC (x_fm hC)
  have hDc := hD.sub isC hnC hC
  exact x_runSW (As := As) (rest := st) ⟨hx, hb, hml, hown, hts⟩ (hM H.size) hw hT hrc hrs hdd hR0 ⟨fun a U g mk q => by
    obtain ⟨q0, q1, qP, qK, qD, qJ⟩ := q
    exact ⟨q0, q1, qP, va_K.moved (u := U) (U := U.calling g mk a) (Vm.Alike.refl U.vm) qK, qD, hJ1 a U g mk qJ⟩, fun U hU hW => ⟨rfl, by rw [hU], by rw [hU]; exact hPc, va_K.moved hW.alike hK, hDc.weaken (fun _ _ _ _ => trivial), hJ2 H locs U hS hU hW⟩⟩ rfl hlen hl.1 hst (lv_room hroom) hd hf
end XR3
/-- what the law's byteAt is handed for the throw and the catch -/
def JL (U : State) : Prop := JT U ∧ (Cond.classLink RL 13 RJx00060).before #[] U = true
theorem JL_same {u U : State} (hv : U.vm = u.vm) (hh : U.heap = u.heap) (h : JL u) : JL U := ⟨JT_same hv hh h.1, va_tabs rfl hv.symm h.2⟩
theorem JL_warm {u U : State} (hW : u.WarmedH U.vm) (hh : ∀ (q : Nat) (c : Cell), u.heap[q]? = some c → U.heap[q]? = some c) (h : JL u) : JL U := ⟨JT_warm hW hh h.1, word_at hW (Or.inl rfl) h.2⟩
set_option maxRecDepth 100000 in
set_option maxHeartbeats 4000000 in
theorem c_L_byteAt_ok (l : Launch) (D : va_G) (cB cI cZ cJ : ClassId) (m0 : Nat) (m1 : Nat) (a0 : Nat) (a1 : Nat) (b0 : Nat) (b1 : Nat) (t0 : Nat) (t1 : Nat) (t2 : Nat) (t3 : Nat) (t4 : Nat) (fc : Nat) (mv : Nat) (kn : Nat) (sh : Bool) (rp : Nat) (bad : Int32) (F : Nat → UInt8) (n : Nat) (g : Nat → UInt8) (n2 : Nat) (g2 : Nat → UInt8) (c : Nat) (S : Nat → Nat) (Ln : Nat → Nat) (Z : Nat → Bool) (K : Nat → UInt8) (k : Nat) (y : Int32) (o0 : Nat) (f : Nat → Int64) (hc : c ≤ 600) (hkn : kn ≤ c) (hk : k < kn) (hl : Ln k ≤ 64) : Cj l D vwCl (tyl cB cI cZ cJ) yL_byteAt wsL_byteAt rmL_byteAt 1 6 [.ref m0, .int (nI k), .int y, .ref o0] [(m0, .inr (3, [.ref a0, .ref b0, .ref t0, .ref m1, .int (nI fc), .int (nI mv), .int (nI kn), .int (if sh = true then 1 else 0), .int (nI rp), .int bad])), (m1, .inl (cB, 64, .inl (bf F))), (a0, .inr (1, [.ref a1, .int (nI n)])), (a1, .inl (cB, 8192, .inl (bf g))), (b0, .inr (1, [.ref b1, .int (nI n2)])), (b1, .inl (cB, 8192, .inl (bf g2))), (t0, .inr (2, [.ref t1, .ref t2, .ref t3, .ref t4, .int (nI c)])), (t1, .inl (cI, 600, .inl (nf S))), (t2, .inl (cI, 600, .inl (nf Ln))), (t3, .inl (cZ, 600, .inl (zf Z))), (t4, .inl (cB, 38400, .inl (bf K))), (o0, .inl (cJ, 1, .inr (.inl f)))] JL (fun r u => r = some (.int (nI 0)) ∧ u = [(m0, .inr (3, [.ref a0, .ref b0, .ref t0, .ref m1, .int (nI fc), .int (nI mv), .int (nI kn), .int (if sh = true then 1 else 0), .int (nI rp), .int bad])), (m1, .inl (cB, 64, .inl (bf F))), (a0, .inr (1, [.ref a1, .int (nI n)])), (a1, .inl (cB, 8192, .inl (bf g))), (b0, .inr (1, [.ref b1, .int (nI n2)])), (b1, .inl (cB, 8192, .inl (bf g2))), (t0, .inr (2, [.ref t1, .ref t2, .ref t3, .ref t4, .int (nI c)])), (t1, .inl (cI, 600, .inl (nf S))), (t2, .inl (cI, 600, .inl (nf Ln))), (t3, .inl (cZ, 600, .inl (zf Z))), (t4, .inl (cB, 38400, .inl (bf K))), (o0, .inl (cJ, 1, .inr (.inl (vp_updL f 0 (cAt (Ln k) (fun j => K (k * 64 + j)) y).toInt64))))]) := by
  refine x_startW (cc := cL_byteAt) (maxL := 5) (ret := some .int) (hh := [(0, 10, 13, 13)]) (by decide) rfl (Nat.le_of_ble_eq_true rfl) ?_
  intro xp xe xs xm xb xt xc xA E hr hlocks _
  obtain ⟨-, -, -, hown, hts, hK, hA⟩ := id E
  refine x_lve (lv' := [(0, .ref m0), (1, .int (nI k)), (2, .int y), (3, .ref o0)]) rfl ?_
  refine x_aload_n E 3 dL_byteAt_0 rfl ?_
  refine x_iconst E (v := nI 0) dL_byteAt_1 (by decide) ?_
  refine x_aload_n E 0 dL_byteAt_2 rfl ?_
  refine x_iload_n E 1 dL_byteAt_3 rfl ?_
  refine x_iload_n E 2 dL_byteAt_4 rfl ?_
  refine x_cV E [.int (nI k), .int y] [.int (nI 0), .ref o0] [.int (cAt (Ln k) (fun j => K (k * 64 + j)) y), .int (nI 0), .ref o0] [(m0, .inr (3, [.ref a0, .ref b0, .ref t0, .ref m1, .int (nI fc), .int (nI mv), .int (nI kn), .int (if sh = true then 1 else 0), .int (nI rp), .int bad])), (m1, .inl (cB, 64, .inl (bf F))), (a0, .inr (1, [.ref a1, .int (nI n)])), (a1, .inl (cB, 8192, .inl (bf g))), (b0, .inr (1, [.ref b1, .int (nI n2)])), (b1, .inl (cB, 8192, .inl (bf g2))), (t0, .inr (2, [.ref t1, .ref t2, .ref t3, .ref t4, .int (nI c)])), (t1, .inl (cI, 600, .inl (nf S))), (t2, .inl (cI, 600, .inl (nf Ln))), (t3, .inl (cZ, 600, .inl (zf Z))), (t4, .inl (cB, 38400, .inl (bf K))), (o0, .inl (cJ, 1, .inr (.inl f)))] (c_X3_byteAt_ok l D cB cI cZ cJ m0 m1 a0 a1 b0 b1 t0 t1 t2 t3 t4 fc mv kn sh rp bad F n g n2 g2 c S Ln Z K k y (by omega) (by omega) (by omega) (by omega)) 0 rfl rfl (cwV 2 hts gL_byteAt_X3_byteAt rfl rfl rfl (by decide +kernel) ⟨Nat.le_of_ble_eq_true rfl, Nat.le_of_ble_eq_true rfl⟩) [0, 1, 2, 3, 4, 5, 6, 7, 8, 9, 10] [11] rfl rfl (by decide) (by decide) (by decide) [1, 2, 3, 4, 5, 6, 7, 8, 9, 10, 11, 0] (by decide) rfl rfl (Nat.le_of_ble_eq_true rfl) dL_byteAt_5 ⟨Nat.zero_le _, Nat.zero_le _⟩ rfl rfl ?_
  refine x_i2l E dL_byteAt_8 ?_
  refine x_last E 11 3 [(m0, .inr (3, [.ref a0, .ref b0, .ref t0, .ref m1, .int (nI fc), .int (nI mv), .int (nI kn), .int (if sh = true then 1 else 0), .int (nI rp), .int bad])), (m1, .inl (cB, 64, .inl (bf F))), (a0, .inr (1, [.ref a1, .int (nI n)])), (a1, .inl (cB, 8192, .inl (bf g))), (b0, .inr (1, [.ref b1, .int (nI n2)])), (b1, .inl (cB, 8192, .inl (bf g2))), (t0, .inr (2, [.ref t1, .ref t2, .ref t3, .ref t4, .int (nI c)])), (t1, .inl (cI, 600, .inl (nf S))), (t2, .inl (cI, 600, .inl (nf Ln))), (t3, .inl (cZ, 600, .inl (zf Z))), (t4, .inl (cB, 38400, .inl (bf K))), (o0, .inl (cJ, 1, .inr (.inl (vp_updL f 0 (cAt (Ln k) (fun j => K (k * 64 + j)) y).toInt64))))] dL_byteAt_9 rfl rfl (by decide) (by decide) rfl ?_
  refine x_goto E 17 dL_byteAt_10 (by decide) ?_
  refine x_iconst E (v := nI 0) dL_byteAt_17 (by decide) ?_
  refine x_wide (Nat.zero_le 1) (Nat.zero_le 6) ?_
  exact x_iret E hr hlocks dL_byteAt_18 ⟨rfl, rfl⟩
set_option maxRecDepth 100000 in
set_option maxHeartbeats 4000000 in
/-- the law's byteAt over a row that isn't known: caught, 1 -/
theorem c_L_byteAt_thr (l : Launch) (htr : l.stackTraces = false) (D : va_G) (cB cI cZ cJ : ClassId) (m0 : Nat) (m1 : Nat) (a0 : Nat) (a1 : Nat) (b0 : Nat) (b1 : Nat) (t0 : Nat) (t1 : Nat) (t2 : Nat) (t3 : Nat) (t4 : Nat) (fc : Nat) (mv : Nat) (kn : Nat) (sh : Bool) (rp : Nat) (bad : Int32) (F : Nat → UInt8) (n : Nat) (g : Nat → UInt8) (n2 : Nat) (g2 : Nat → UInt8) (c : Nat) (S : Nat → Nat) (Ln : Nat → Nat) (Z : Nat → Bool) (K : Nat → UInt8) (x y : Int32) (o0 : Nat) (f : Nat → Int64) (hx : x < 0 ∨ nI kn ≤ x) : Cj l D vwCl (tyl cB cI cZ cJ) yL_byteAt wsL_byteAt rmL_byteAt 1 6 [.ref m0, .int x, .int y, .ref o0] [(m0, .inr (3, [.ref a0, .ref b0, .ref t0, .ref m1, .int (nI fc), .int (nI mv), .int (nI kn), .int (if sh = true then 1 else 0), .int (nI rp), .int bad])), (m1, .inl (cB, 64, .inl (bf F))), (a0, .inr (1, [.ref a1, .int (nI n)])), (a1, .inl (cB, 8192, .inl (bf g))), (b0, .inr (1, [.ref b1, .int (nI n2)])), (b1, .inl (cB, 8192, .inl (bf g2))), (t0, .inr (2, [.ref t1, .ref t2, .ref t3, .ref t4, .int (nI c)])), (t1, .inl (cI, 600, .inl (nf S))), (t2, .inl (cI, 600, .inl (nf Ln))), (t3, .inl (cZ, 600, .inl (zf Z))), (t4, .inl (cB, 38400, .inl (bf K))), (o0, .inl (cJ, 1, .inr (.inl f)))] JL (fun r u => r = some (.int (nI 1)) ∧ u = [(m0, .inr (3, [.ref a0, .ref b0, .ref t0, .ref m1, .int (nI fc), .int (nI mv), .int (nI kn), .int (if sh = true then 1 else 0), .int (nI rp), .int bad])), (m1, .inl (cB, 64, .inl (bf F))), (a0, .inr (1, [.ref a1, .int (nI n)])), (a1, .inl (cB, 8192, .inl (bf g))), (b0, .inr (1, [.ref b1, .int (nI n2)])), (b1, .inl (cB, 8192, .inl (bf g2))), (t0, .inr (2, [.ref t1, .ref t2, .ref t3, .ref t4, .int (nI c)])), (t1, .inl (cI, 600, .inl (nf S))), (t2, .inl (cI, 600, .inl (nf Ln))), (t3, .inl (cZ, 600, .inl (zf Z))), (t4, .inl (cB, 38400, .inl (bf K))), (o0, .inl (cJ, 1, .inr (.inl f)))]) := by
  intro sz
  refine va_MetW (cc := cL_byteAt) (maxL := 5) (ret := some .int) (hh := [(0, 10, 13, 13)]) (by decide) rfl ?_
  intro p e s m args below meth cd s₁ B hml hv
  obtain ⟨rfl, hsz, hP, hK, hD0, hJ⟩ := hv
  subst hsz
  have hD := hD0.self (sz := s.heap.size)
  have hts := atoms_spec (ws := wsL_byteAt) B.pre
  have hown : s.vm.findClass RL = some m.cls := findClass_of_methodNamed B.named
  obtain ⟨m9, meth9, c9, hn9, hm9, hc9, -, -, htab9, -⟩ := Cond.codeWith_spec (hts _ List.mem_cons_self)
  cases hn9.symm.trans B.named
  cases hm9.symm.trans B.method
  cases hc9.symm.trans (Stand.of_body B).code
  obtain ⟨x0, hx0, hx1⟩ : ∃ x0, cd.exceptionTable.toList = [x0] ∧ (x0.startPc, x0.endPc, x0.handlerPc, x0.catchType) = (0, 10, 13, 13) := by
    cases ht : cd.exceptionTable.toList with
    | nil => rw [ht] at htab9; cases htab9
    | cons a r =>
      cases r with
      | nil => rw [ht] at htab9; exact ⟨a, rfl, (List.cons.inj htab9).1⟩
      | cons a2 r2 => rw [ht] at htab9; cases (List.cons.inj htab9).2
  obtain ⟨x2, hx1⟩ := Prod.mk.inj hx1
  obtain ⟨x3, hx1⟩ := Prod.mk.inj hx1
  obtain ⟨x4, x5⟩ := Prod.mk.inj hx1
  rw [lg_entry_eq]
  have hl := lv_entry ([.ref m0, .int x, .int y, .ref o0] : List Value) (n := 5) (Nat.le_of_ble_eq_true rfl)
  generalize (lg_sl ([.ref m0, .int x, .int y, .ref o0] : List Value) ++ List.replicate (5 - (lg_sl ([.ref m0, .int x, .int y, .ref o0] : List Value)).length) Slot.unset).toArray = ls at hl ⊢
  refine lv_aload_n B.exec B.bytes dL_byteAt_0 rfl (lv_at hl 3 rfl) ?_
  refine lv_iconst B.exec B.bytes dL_byteAt_1 (v := nI 0) (by decide) ?_
  refine lv_aload_n B.exec B.bytes dL_byteAt_2 rfl (lv_at hl 0 rfl) ?_
  refine lv_iload_n B.exec B.bytes dL_byteAt_3 rfl (lv_at hl 1 rfl) ?_
  refine lv_iload_n B.exec B.bytes dL_byteAt_4 rfl (lv_at hl 2 rfl) ?_
  intro T hT X
  have hPc : va_P D vwCl [(m0, .inr (3, [.ref a0, .ref b0, .ref t0, .ref m1, .int (nI fc), .int (nI mv), .int (nI kn), .int (if sh = true then 1 else 0), .int (nI rp), .int bad])), (m1, .inl (cB, 64, .inl (bf F))), (a0, .inr (1, [.ref a1, .int (nI n)])), (a1, .inl (cB, 8192, .inl (bf g))), (b0, .inr (1, [.ref b1, .int (nI n2)])), (b1, .inl (cB, 8192, .inl (bf g2))), (t0, .inr (2, [.ref t1, .ref t2, .ref t3, .ref t4, .int (nI c)])), (t1, .inl (cI, 600, .inl (nf S))), (t2, .inl (cI, 600, .inl (nf Ln))), (t3, .inl (cZ, 600, .inl (zf Z))), (t4, .inl (cB, 38400, .inl (bf K)))] s.heap := hP.sub [0, 1, 2, 3, 4, 5, 6, 7, 8, 9, 10] rfl
  have hDc : va_D (va_A [(m0, .inr (3, [.ref a0, .ref b0, .ref t0, .ref m1, .int (nI fc), .int (nI mv), .int (nI kn), .int (if sh = true then 1 else 0), .int (nI rp), .int bad])), (m1, .inl (cB, 64, .inl (bf F))), (a0, .inr (1, [.ref a1, .int (nI n)])), (a1, .inl (cB, 8192, .inl (bf g))), (b0, .inr (1, [.ref b1, .int (nI n2)])), (b1, .inl (cB, 8192, .inl (bf g2))), (t0, .inr (2, [.ref t1, .ref t2, .ref t3, .ref t4, .int (nI c)])), (t1, .inl (cI, 600, .inl (nf S))), (t2, .inl (cI, 600, .inl (nf Ln))), (t3, .inl (cZ, 600, .inl (zf Z))), (t4, .inl (cB, 38400, .inl (bf K))), (o0, .inl (cJ, 1, .inr (.inl f)))] s.heap.size) [(m0, .inr (3, [.ref a0, .ref b0, .ref t0, .ref m1, .int (nI fc), .int (nI mv), .int (nI kn), .int (if sh = true then 1 else 0), .int (nI rp), .int bad])), (m1, .inl (cB, 64, .inl (bf F))), (a0, .inr (1, [.ref a1, .int (nI n)])), (a1, .inl (cB, 8192, .inl (bf g))), (b0, .inr (1, [.ref b1, .int (nI n2)])), (b1, .inl (cB, 8192, .inl (bf g2))), (t0, .inr (2, [.ref t1, .ref t2, .ref t3, .ref t4, .int (nI c)])), (t1, .inl (cI, 600, .inl (nf S))), (t2, .inl (cI, 600, .inl (nf Ln))), (t3, .inl (cZ, 600, .inl (zf Z))), (t4, .inl (cB, 38400, .inl (bf K)))] := hD.sub [0, 1, 2, 3, 4, 5, 6, 7, 8, 9, 10] (by decide) rfl
  obtain ⟨cellB, hcB, hoB, hclB⟩ := va_recv (q0 := 0) (ci := 3) (q := (RX3, TX3, 10)) hK hPc rfl rfl
  obtain ⟨q, ce, T', X', hz, hk, hce, hc1, hc2, hc3, hst⟩ := tc_call X B.exec hown (c_X3_byteAt_thr l htr D cB cI cZ cJ m0 m1 a0 a1 b0 b1 t0 t1 t2 t3 t4 fc mv kn sh rp bad F n g n2 g2 c S Ln Z K x y hx s.heap.size) (fun a U g mk q => by
      obtain ⟨q0, q1, qP, qK, qD, qJ⟩ := q
      exact ⟨q0, q1, qP, va_K.moved (u := U) (U := U.calling g mk a) (Vm.Alike.refl U.vm) qK, qD, JT_same (u := U) rfl rfl qJ⟩)
    (cwV 2 hts gL_byteAt_X3_byteAt rfl rfl rfl (by decide +kernel) ⟨Nat.le_of_ble_eq_true rfl, Nat.le_of_ble_eq_true rfl⟩) (by rw [hT]; exact hcB) hoB hclB (g := F0 m 5 ls [.int y, .int x, .ref m0, .int (nI 0), .ref o0]) rfl (hl.1.trans hml.symm) (As := [.int x, .int y]) (rest := [.int (nI 0), .ref o0]) rfl rfl (Nat.le_of_ble_eq_true rfl) (by rw [B.bytes]; exact dL_byteAt_5) ⟨Nat.le_of_ble_eq_true rfl, Nat.le_of_ble_eq_true rfl⟩
    (fun vm₁ hW₁ => ⟨rfl, by rw [← hT]; rfl, by rw [← hT] at hPc; exact hPc, va_K.moved (U := T.setVm vm₁) hW₁.alike hK, hDc.weaken (fun _ _ _ _ => trivial), JT_warm (U := T.setVm vm₁) hW₁ (fun q c h => by rw [← hT] at h; exact h) hJ.1⟩)
  obtain ⟨vm', X2, hst2⟩ := tc_catch X' q (g := F0 m 5 ls [.int (nI 0), .ref o0]) rfl hown hx0 (by simp [covers, x2, x3]) (by rw [x5]; decide) (nm := RJx00060) (by rw [x5]; exact va_tabs rfl rfl hJ.2) hce hc1 hc2 hc3
  rw [x4] at hst2
  have hP2 : va_P D vwCl [(m0, .inr (3, [.ref a0, .ref b0, .ref t0, .ref m1, .int (nI fc), .int (nI mv), .int (nI kn), .int (if sh = true then 1 else 0), .int (nI rp), .int bad])), (m1, .inl (cB, 64, .inl (bf F))), (a0, .inr (1, [.ref a1, .int (nI n)])), (a1, .inl (cB, 8192, .inl (bf g))), (b0, .inr (1, [.ref b1, .int (nI n2)])), (b1, .inl (cB, 8192, .inl (bf g2))), (t0, .inr (2, [.ref t1, .ref t2, .ref t3, .ref t4, .int (nI c)])), (t1, .inl (cI, 600, .inl (nf S))), (t2, .inl (cI, 600, .inl (nf Ln))), (t3, .inl (cZ, 600, .inl (zf Z))), (t4, .inl (cB, 38400, .inl (bf K))), (o0, .inl (cJ, 1, .inr (.inl f)))] T'.heap := hP.kept (fun k z hz2 => by
    have h1 := (hP k z hz2).lt
    rw [← hT] at h1 ⊢
    rw [hk z.1 _ (Array.getElem?_eq_getElem h1), Array.getElem?_eq_getElem h1])
  have K2 : W p l e rmL_byteAt s m ([.ref m0, .int x, .int y, .ref o0] : List Value).toArray below meth cd T'.heap [] 1 6 (MQ below (CQ D vwCl (tyl cB cI cZ cJ) (va_A [(m0, .inr (3, [.ref a0, .ref b0, .ref t0, .ref m1, .int (nI fc), .int (nI mv), .int (nI kn), .int (if sh = true then 1 else 0), .int (nI rp), .int bad])), (m1, .inl (cB, 64, .inl (bf F))), (a0, .inr (1, [.ref a1, .int (nI n)])), (a1, .inl (cB, 8192, .inl (bf g))), (b0, .inr (1, [.ref b1, .int (nI n2)])), (b1, .inl (cB, 8192, .inl (bf g2))), (t0, .inr (2, [.ref t1, .ref t2, .ref t3, .ref t4, .int (nI c)])), (t1, .inl (cI, 600, .inl (nf S))), (t2, .inl (cI, 600, .inl (nf Ln))), (t3, .inl (cZ, 600, .inl (zf Z))), (t4, .inl (cB, 38400, .inl (bf K))), (o0, .inl (cJ, 1, .inr (.inl f)))] s.heap.size) (fun r u => r = some (.int (nI 1)) ∧ u = [(m0, .inr (3, [.ref a0, .ref b0, .ref t0, .ref m1, .int (nI fc), .int (nI mv), .int (nI kn), .int (if sh = true then 1 else 0), .int (nI rp), .int bad])), (m1, .inl (cB, 64, .inl (bf F))), (a0, .inr (1, [.ref a1, .int (nI n)])), (a1, .inl (cB, 8192, .inl (bf g))), (b0, .inr (1, [.ref b1, .int (nI n2)])), (b1, .inl (cB, 8192, .inl (bf g2))), (t0, .inr (2, [.ref t1, .ref t2, .ref t3, .ref t4, .int (nI c)])), (t1, .inl (cI, 600, .inl (nf S))), (t2, .inl (cI, 600, .inl (nf Ln))), (t3, .inl (cZ, 600, .inl (zf Z))), (t4, .inl (cB, 38400, .inl (bf K))), (o0, .inl (cJ, 1, .inr (.inl f)))])) ([.ref m0, .int x, .int y, .ref o0] : List Value).toArray s 1 6 (va_A [(m0, .inr (3, [.ref a0, .ref b0, .ref t0, .ref m1, .int (nI fc), .int (nI mv), .int (nI kn), .int (if sh = true then 1 else 0), .int (nI rp), .int bad])), (m1, .inl (cB, 64, .inl (bf F))), (a0, .inr (1, [.ref a1, .int (nI n)])), (a1, .inl (cB, 8192, .inl (bf g))), (b0, .inr (1, [.ref b1, .int (nI n2)])), (b1, .inl (cB, 8192, .inl (bf g2))), (t0, .inr (2, [.ref t1, .ref t2, .ref t3, .ref t4, .int (nI c)])), (t1, .inl (cI, 600, .inl (nf S))), (t2, .inl (cI, 600, .inl (nf Ln))), (t3, .inl (cZ, 600, .inl (zf Z))), (t4, .inl (cB, 38400, .inl (bf K))), (o0, .inl (cJ, 1, .inr (.inl f)))] s.heap.size)) (F0 m 13 ls [.ref q]) := by
    refine lv_astore B.exec B.bytes dL_byteAt_13 hl (by decide) rfl (fun ls' hl' => ?_)
    refine lv_iconst B.exec B.bytes dL_byteAt_15 (v := nI 1) (by decide) ?_
    exact W.iret (v := nI 1) B.exec B.bytes B.returns (fun t ht hW => ⟨⟨some (.int (nI 1)), _, rfl, ⟨rfl, rfl⟩, by rw [ht]; exact hP2, va_K.moved hW.alike hK, hD⟩, by rw [ht, ← hT]; exact hz, fun q hq _ => by
      rw [← hT] at hq ⊢
      rw [ht, hk q _ (Array.getElem?_eq_getElem hq), Array.getElem?_eq_getElem hq]⟩) (fun q hq => by cases hq) dL_byteAt_16 B.notSynchronized
  obtain ⟨t, a1, b1⟩ := K2 (T'.setVm vm') rfl X2
  exact ⟨t, hst.trans (hst2 t a1), b1⟩
