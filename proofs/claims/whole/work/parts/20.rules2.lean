section XR2
variable {p : Program} {l : Launch} {e : Env} {R : Room} {s : State} {m : MethodId} {args : Array Value} {below : List Frame} {meth : Method} {c : Code} {D : va_G} {cl : List vw_C} {A : Nat → Prop} {nL cells slots : Nat} {Q : State → Prop}
variable {cc : ByteArray} {own : String} {Ts : List Cond} {tys : List (ClassId × FieldType)} {ws ws' : va_W} {lv lv' : List (Nat × Value)} {pc : Nat} {st : List Value}
theorem x_objInit (E : En p s m args c cc nL own Ts D cl tys A) {a idx : Nat} (hd : decode cc pc = .ok (.invokespecial idx, 3)) (h1 : Cond.methodLink own idx objectInit ∈ Ts) (h2 : Cond.instanceMethod objectInit ∈ Ts) (h3 : Cond.code objectInit ⟨#[0xb1]⟩ 1 none ∈ Ts) (hf : 1 ≤ R.frames) (hlo : (st.map fun v => v.category).sum + 12 ≤ R.locals)
    (k : Xs p l e R s m args below meth c D cl A nL cells slots Q (ws) (lv) (pc + 3) (st)) : Xs p l e R s m args below meth c D cl A nL cells slots Q (ws) (lv) (pc) (.ref a :: st) := by
  obtain ⟨hx, hb, hml, hown, hts, hK, hA⟩ := E
  intro H locs ls hP hD hS hl
  refine W.objInit hx hb hown (hts _ h1) (hts _ h2) (hts _ h3) rfl (by rw [hml]; exact hl.1) rfl hd hf (by show 2 * 0 + _ + 12 ≤ _; omega) ?_
  exact W.eq (g2 := F0 m (pc + 3) ls st) rfl (k H locs ls hP hD hS hl)
theorem x_new (E : En p s m args c cc nL own Ts D cl tys A) {C : String} {T : u_T} {N ci index : Nat} {fs : List Value} {ty0 : Nat → FieldType} (hd : decode cc pc = .ok (.new index, 3)) (hin : ∀ w ∈ u_ws C T N, w ∈ Ts) (hty : ∀ k, k < N → parseFieldDescriptor (T k).2.2.1 = some (ty0 k)) (hcl : Cond.classLink own index C ∈ Ts) (hinst : Cond.instantiable C N ∈ Ts) (hini : Cond.initialized C ∈ Ts) (hc : cl[ci]? = some (C, T, N)) (hfs : ∀ j, j < N → defaultValue (ty0 j) = vp_V fs j) (hcells : cells + 1 ≤ R.cells) (hslots : slots + N ≤ R.slots)
    (k : ∀ q : Nat, Xs p l e R s m args below meth c D cl A nL (cells + 1) (slots + N) Q (ws ++ [(q, .inr (ci, fs))]) (lv) (pc + 3) (.ref q :: st)) : Xs p l e R s m args below meth c D cl A nL cells slots Q (ws) (lv) (pc) (st) := by
  obtain ⟨hx, hb, hml, hown, hts, hK, hA⟩ := E
  intro H locs ls hP hD hS hl
  exact va_new hx hb hts hin ty0 hty hown (hts _ hcl) (hts _ hinst) (hts _ hini) hK hP hD hS hA hc hfs hcells hslots hd (fun q H1 hP1 hD1 hS1 => k q H1 locs ls hP1 hD1 hS1 hl)
theorem x_newa (E : En p s m args c cc nL own Ts D cl tys A) {atype : ArrayType} {ty : FieldType} {cA0 : ClassId} {N : Nat} {a0 : vp_A} (t0 : Nat) (hd : decode cc pc = .ok (.newarray atype, 2)) (ht : tys[t0]? = some (cA0, ty)) (hty : newarray.typeOf atype = ty) (hp : ∀ (U : State) (cA : ClassId), va_RA U cA ty → U.vm.findClass ("[" ++ ty.toString) = some cA) (harr : Cond.arrayClass (newarray.typeOf atype) ∈ Ts) (ha : ∀ cA : ClassId, vp_cell cA a0 = arrV cA N (fun _ => defaultValue ty)) (hn : N < 2 ^ 31) (hbytes : N * componentBytes ty ≤ 536870912) (hcells : cells + 1 ≤ R.cells) (hslots : slots + N ≤ R.slots)
    (k : ∀ q : Nat, Xs p l e R s m args below meth c D cl A nL (cells + 1) (slots + N) Q (ws ++ [(q, .inl (cA0, a0))]) (lv) (pc + 2) (.ref q :: st)) : Xs p l e R s m args below meth c D cl A nL cells slots Q (ws) (lv) (pc) (.int (nI N) :: st) := by
  obtain ⟨hx, hb, hml, hown, hts, hK, hA⟩ := E
  intro H locs ls hP hD hS hl
  refine va_newa hx hb (hts _ harr) hty hK hP hD hS hA ha (nI_pos hn) (nI_clamp hn) hbytes hcells hslots hd (fun q cA H1 hK1 hP1 hD1 hS1 => ?_)
  have e1 := hp s cA0 (hK.2 t0 _ ht).2
  have e2 := hp s cA (hK1.2 tys.length (cA, ty) (by simp)).2
  have e3 : cA = cA0 := Option.some.inj (e2.symm.trans e1)
  subst e3
  exact k q H1 locs ls hP1 hD1 hS1 hl
/-- a contract with a premise on the tables -/
def Cj (l : Launch) (D : va_G) (cl : List vw_C) (tys : List (ClassId × FieldType)) (y : MethodName) (wy : List Cond) (rm : Room) (mc ms : Nat) (av : List Value) (ws : va_W) (J : State → Prop) (P : Option Value → va_W → Prop) : Prop :=
  ∀ sz : Nat, Met l y wy rm (va_Pc av (fun U => U.heap.size = sz ∧ va_P D cl ws U.heap ∧ va_K D cl tys U ∧ va_D (fun _ => True) ws ∧ J U)) (CQ D cl tys (va_A ws sz) P) mc ms (va_A ws sz)
theorem x_startJ {y : MethodName} {wy wy' : List Cond} {rm : Room} {mc ms maxL : Nat} {ret : Option FieldType} {av : List Value} {J : State → Prop} {P : Option Value → va_W → Prop} (hy : plainName y.cls = true) (hw : wy = Cond.code y cc maxL ret :: wy') (hav : (lg_sl av).length ≤ maxL)
    (body : ∀ (p : Program) (e : Env) (s : State) (m : MethodId) (below : List Frame) (meth : Method) (c : Code) (A : Nat → Prop), En p s m av.toArray c cc maxL y.cls wy D cl tys A → meth.sig.returnType = ret → meth.locks = false → meth.name = y.name → J s →
      Xs p l e rm s m av.toArray below meth c D cl A maxL 0 0 (MQ below (CQ D cl tys A P) av.toArray s mc ms A) ws (lv_args 0 av) 0 []) : Cj l D cl tys y wy rm mc ms av ws J P := by
  intro sz
  refine Met.ofW (cc := cc) (maxL := maxL) (ret := ret) hy hw ?_
  intro p e s m args below meth c s₁ B hml hv
  obtain ⟨rfl, hsz, hP, hK, hD0, hJ⟩ := hv
  subst hsz
  have hD := hD0.self (sz := s.heap.size)
  rw [lg_entry_eq]
  exact body p e s m below meth c (va_A ws s.heap.size) ⟨B.exec, B.bytes, hml, findClass_of_methodNamed B.named, atoms_spec (ws := wy) B.pre, hK, fun q h => Or.inr h⟩ B.returns B.notSynchronized (name_of_methodNamed B.named B.method).1 hJ s.heap [] _ hP hD va_S.rf (lv_entry av hav)
/-- a constructor with a premise on the tables is called -/
theorem x_gIJ (E : En p s m args c cc nL own Ts D cl tys A) {y : MethodName} {bytes : ByteArray} {maxL mc ms n index : Nat} {wy : List Cond} {rm : Room} {wc wr : va_W} {P : Option Value → va_W → Prop} {b : Nat} {J : State → Prop} (As : List Value) (hM : Cj l D cl tys y wy rm mc ms (.ref b :: As) wc J P) (hJ1 : ∀ (a : Array Value) (U : State) (g : JFrame) (mk : MethodId), J U → J (U.calling g mk a)) (hJ2 : ∀ U : State, s.WarmedH U.vm → J U) (cw : CallB R s args own index y bytes maxL none wy rm mc ms n ∧ y.name = "<init>" ∧ (Cond.instanceMethod y).before args s = true) (isC isR : List Nat) (hC : isC.map (fun i => ws[i]?) = wc.map some) (hR : isR.map (fun i => ws[i]?) = wr.map some) (hnC : va_nd isC = true) (hnR : va_nd isR = true) (hdis : ∀ i ∈ isR, i ∉ isC) (hlen : As.length = n) (hroom : (st.map fun v => v.category).sum ≤ 8) (hd : decode cc pc = .ok (.invokespecial index, 3)) (hf : cells + mc ≤ R.cells ∧ slots + ms ≤ R.slots) {st0 : List Value} (hst : st0 = As.reverse ++ .ref b :: st)
    (k : ∀ (r : Option Value) (u : va_W), P r u → Xs p l e R s m args below meth c D cl A nL (cells + mc) (slots + ms) Q (wr ++ u) (lv) (pc + 3) (r.toList ++ st)) : Xs p l e R s m args below meth c D cl A nL cells slots Q (ws) (lv) (pc) (st0) := by
  obtain ⟨hx, hb, hml, hown, hts, hK, hA⟩ := E
  refine x_after (tys := tys) (mc := mc) (ms := ms) (a := (.ref b :: As).toArray) (rm := rm) hA isC isR hC hR hnR hdis (fun H locs ls hP hD hS hl => ?_) k
  have hPc := hP.sub isC (x_fm hC)
  have hDc := hD.sub isC hnC hC
  exact va_runI (As := As) (rest := st) ⟨hx, hb, hml, hown, hts⟩ (hM H.size) cw ⟨fun a U g mk q => by
    obtain ⟨q0, q1, qP, qK, qD, qJ⟩ := q
    exact ⟨q0, q1, qP, va_K.moved (u := U) (U := U.calling g mk a) (Vm.Alike.refl U.vm) qK, qD, hJ1 a U g mk qJ⟩, fun U hU hW => ⟨rfl, by rw [hU], by rw [hU]; exact hPc, va_K.moved hW.alike hK, hDc.weaken (fun _ _ _ _ => trivial), hJ2 U hW⟩⟩ rfl hlen hl.1 hst (lv_room hroom) hd hf
end XR2
