/-! MY RULES: a judgement over the kit's W that carries world, locals and stack as lists; one rule an instruction -/
section XR
variable {p : Program} {l : Launch} {e : Env} {R : Room} {s : State} {m : MethodId} {args : Array Value} {below : List Frame} {meth : Method} {c : Code} {D : va_G} {cl : List vw_C} {A : Nat → Prop} {nL cells slots : Nat} {Q : State → Prop}
variable {cc : ByteArray} {own : String} {Ts : List Cond} {tys : List (ClassId × FieldType)} {ws ws' : va_W} {lv lv' : List (Nat × Value)} {pc : Nat} {st : List Value}
/-- the walk stands at pc, with the world ws, the locals lv, the stack st -/
def Xs (p : Program) (l : Launch) (e : Env) (R : Room) (s : State) (m : MethodId) (args : Array Value) (below : List Frame) (meth : Method) (c : Code) (D : va_G) (cl : List vw_C) (A : Nat → Prop) (nL cells slots : Nat) (Q : State → Prop) (ws : va_W) (lv : List (Nat × Value)) (pc : Nat) (st : List Value) : Prop :=
  ∀ (H : Heap) (locs : List Loc) (ls : Array Slot), va_P D cl ws H → va_D A ws → va_S A s.heap H locs → lv_has ls nL lv → W p l e R s m args below meth c H locs cells slots Q (F0 m pc ls st)
/-- what stays over a method's walk -/
def En (p : Program) (s : State) (m : MethodId) (args : Array Value) (c : Code) (cc : ByteArray) (nL : Nat) (own : String) (Ts : List Cond) (D : va_G) (cl : List vw_C) (tys : List (ClassId × FieldType)) (A : Nat → Prop) : Prop :=
  p.tables.exec = Jvm.exec ∧ c.code = cc ∧ c.maxLocals = nL ∧ s.vm.findClass own = some m.cls ∧ (∀ w ∈ Ts, w.before args s = true) ∧ va_K D cl tys s ∧ ∀ q : Nat, s.heap.size ≤ q → A q
/-- a method's end: its answer and its world, as the predicate says; nothing else has changed -/
def CQ (D : va_G) (cl : List vw_C) (tys : List (ClassId × FieldType)) (A : Nat → Prop) (P : Option Value → va_W → Prop) : Array Value → State → Outcome → State → Prop := fun _ st oc t => (∃ (r : Option Value) (u : va_W), oc = .returned r ∧ P r u ∧ va_P D cl u t.heap ∧ va_K D cl tys t ∧ va_D A u) ∧ va_F A st t
/-- a method's contract: the arguments, the world before, what holds of answer and world behind -/
def Cg (l : Launch) (D : va_G) (cl : List vw_C) (tys : List (ClassId × FieldType)) (y : MethodName) (wy : List Cond) (rm : Room) (mc ms : Nat) (av : List Value) (ws : va_W) (P : Option Value → va_W → Prop) : Prop :=
  ∀ sz : Nat, Met l y wy rm (va_Pc av (fun U => U.heap.size = sz ∧ va_P D cl ws U.heap ∧ va_K D cl tys U ∧ va_D (fun _ => True) ws)) (CQ D cl tys (va_A ws sz) P) mc ms (va_A ws sz)
/-- .. of one answer and one world -/
def Ct (l : Launch) (D : va_G) (cl : List vw_C) (tys : List (ClassId × FieldType)) (y : MethodName) (wy : List Cond) (rm : Room) (av : List Value) (ws : va_W) (r0 : Option Value) (w1 : va_W) : Prop :=
  Cg l D cl tys y wy rm 0 0 av ws (fun r u => r = r0 ∧ u = w1)
theorem x_fm {ws wc : va_W} {is : List Nat} (h : is.map (fun i => ws[i]?) = wc.map some) : is.filterMap (fun i => ws[i]?) = wc := by
  have h1 : (is.map (fun i => ws[i]?)).filterMap id = is.filterMap (fun i => ws[i]?) := by rw [List.filterMap_map]; rfl
  rw [← h1, h, List.filterMap_map]
  simp
/-- the beginning of a method's walk -/
theorem x_start {y : MethodName} {wy wy' : List Cond} {rm : Room} {mc ms maxL : Nat} {ret : Option FieldType} {av : List Value} {P : Option Value → va_W → Prop} (hy : plainName y.cls = true) (hw : wy = Cond.code y cc maxL ret :: wy') (hav : (lg_sl av).length ≤ maxL)
    (body : ∀ (p : Program) (e : Env) (s : State) (m : MethodId) (below : List Frame) (meth : Method) (c : Code) (A : Nat → Prop), En p s m av.toArray c cc maxL y.cls wy D cl tys A → meth.sig.returnType = ret → meth.locks = false → meth.name = y.name →
      Xs p l e rm s m av.toArray below meth c D cl A maxL 0 0 (MQ below (CQ D cl tys A P) av.toArray s mc ms A) ws (lv_args 0 av) 0 []) : Cg l D cl tys y wy rm mc ms av ws P := by
  intro sz
  refine Met.ofW (cc := cc) (maxL := maxL) (ret := ret) hy hw ?_
  intro p e s m args below meth c s₁ B hml hv
  obtain ⟨rfl, hsz, hP, hK, hD0⟩ := hv
  subst hsz
  have hD := hD0.self (sz := s.heap.size)
  rw [lg_entry_eq]
  exact body p e s m below meth c (va_A ws s.heap.size) ⟨B.exec, B.bytes, hml, findClass_of_methodNamed B.named, atoms_spec (ws := wy) B.pre, hK, fun q h => Or.inr h⟩ B.returns B.notSynchronized (name_of_methodNamed B.named B.method).1 s.heap [] _ hP hD va_S.rf (lv_entry av hav)
/-- fewer cells, in another order -/
theorem x_perm (is : List Nat) (hn : va_nd is = true) (hs : is.map (fun i => ws[i]?) = ws'.map some) (k : Xs p l e R s m args below meth c D cl A nL cells slots Q (ws') (lv) (pc) (st)) : Xs p l e R s m args below meth c D cl A nL cells slots Q (ws) (lv) (pc) (st) :=
  fun H locs ls hP hD hS hl => k H locs ls (hP.sub is (x_fm hs)) (hD.sub is hn hs) hS hl
theorem x_ws (h : ws = ws') (k : Xs p l e R s m args below meth c D cl A nL cells slots Q (ws') (lv) (pc) (st)) : Xs p l e R s m args below meth c D cl A nL cells slots Q (ws) (lv) (pc) (st) := by
  subst h
  exact k
theorem x_lv (ks : List Nat) (h : lv_pick lv ks = lv') (k : Xs p l e R s m args below meth c D cl A nL cells slots Q (ws) (lv') (pc) (st)) : Xs p l e R s m args below meth c D cl A nL cells slots Q (ws) (lv) (pc) (st) :=
  fun H locs ls hP hD hS hl => k H locs ls hP hD hS (lv_sub hl ks h)
theorem x_top {v w : Value} (h : v = w) (k : Xs p l e R s m args below meth c D cl A nL cells slots Q (ws) (lv) (pc) (w :: st)) : Xs p l e R s m args below meth c D cl A nL cells slots Q (ws) (lv) (pc) (v :: st) := by
  subst h
  exact k
theorem x_wide {k n : Nat} (h1 : cells ≤ k) (h2 : slots ≤ n) (kk : Xs p l e R s m args below meth c D cl A nL k n Q (ws) (lv) (pc) (st)) : Xs p l e R s m args below meth c D cl A nL cells slots Q (ws) (lv) (pc) (st) :=
  fun H locs ls hP hD hS hl => W.widen h1 h2 (kk H locs ls hP hD hS hl)

theorem x_lve (h : lv = lv') (k : Xs p l e R s m args below meth c D cl A nL cells slots Q (ws) (lv') (pc) (st)) : Xs p l e R s m args below meth c D cl A nL cells slots Q (ws) (lv) (pc) (st) := by
  subst h
  exact k
theorem x_iconst (E : En p s m args c cc nL own Ts D cl tys A) {n : Int} {v : Int32} (hd : decode cc pc = .ok (.iconst n, 1)) (hv : Int32.ofInt n = v)
    (k : Xs p l e R s m args below meth c D cl A nL cells slots Q (ws) (lv) (pc + 1) (.int v :: st)) : Xs p l e R s m args below meth c D cl A nL cells slots Q (ws) (lv) (pc) (st) := by
  obtain ⟨hx, hb, hml, hown, hts, hK, hA⟩ := E
  intro H locs ls hP hD hS hl
  exact lv_iconst hx hb hd hv (k H locs ls hP hD hS hl)
theorem x_bipush (E : En p s m args c cc nL own Ts D cl tys A) {n : Int} {v : Int32} (hd : decode cc pc = .ok (.bipush n, 2)) (hv : (Int8.ofInt n).toInt32 = v)
    (k : Xs p l e R s m args below meth c D cl A nL cells slots Q (ws) (lv) (pc + 2) (.int v :: st)) : Xs p l e R s m args below meth c D cl A nL cells slots Q (ws) (lv) (pc) (st) := by
  obtain ⟨hx, hb, hml, hown, hts, hK, hA⟩ := E
  intro H locs ls hP hD hS hl
  exact lv_bipush hx hb hd hv (k H locs ls hP hD hS hl)
theorem x_sipush (E : En p s m args c cc nL own Ts D cl tys A) {n : Int} {v : Int32} (hd : decode cc pc = .ok (.sipush n, 3)) (hv : (Int16.ofInt n).toInt32 = v)
    (k : Xs p l e R s m args below meth c D cl A nL cells slots Q (ws) (lv) (pc + 3) (.int v :: st)) : Xs p l e R s m args below meth c D cl A nL cells slots Q (ws) (lv) (pc) (st) := by
  obtain ⟨hx, hb, hml, hown, hts, hK, hA⟩ := E
  intro H locs ls hP hD hS hl
  exact lv_sipush hx hb hd hv (k H locs ls hP hD hS hl)
theorem x_ldc (E : En p s m args c cc nL own Ts D cl tys A) {index : Nat} {v w : Int32} (hd : decode cc pc = .ok (.ldc index, 2)) (hc : Jvm.Cond.constant own index w ∈ Ts) (hv : w = v)
    (k : Xs p l e R s m args below meth c D cl A nL cells slots Q (ws) (lv) (pc + 2) (.int v :: st)) : Xs p l e R s m args below meth c D cl A nL cells slots Q (ws) (lv) (pc) (st) := by
  obtain ⟨hx, hb, hml, hown, hts, hK, hA⟩ := E
  intro H locs ls hP hD hS hl
  exact lv_ldc hx hb hown (hts _ hc) hd (by rw [hv]; exact (k H locs ls hP hD hS hl))
theorem x_iload_n (E : En p s m args c cc nL own Ts D cl tys A) {i : Fin 4} {x : Int32} (ps : Nat) (hd : decode cc pc = .ok (.iload_n i, 1)) (hp : lv[ps]? = some ((i : Nat), .int x))
    (k : Xs p l e R s m args below meth c D cl A nL cells slots Q (ws) (lv) (pc + 1) (.int x :: st)) : Xs p l e R s m args below meth c D cl A nL cells slots Q (ws) (lv) (pc) (st) := by
  obtain ⟨hx, hb, hml, hown, hts, hK, hA⟩ := E
  intro H locs ls hP hD hS hl
  exact lv_iload_n hx hb hd rfl (lv_at hl ps hp) (k H locs ls hP hD hS hl)
theorem x_iload (E : En p s m args c cc nL own Ts D cl tys A) {i : Nat} {x : Int32} (ps : Nat) (hd : decode cc pc = .ok (.iload i, 2)) (hp : lv[ps]? = some (i, .int x))
    (k : Xs p l e R s m args below meth c D cl A nL cells slots Q (ws) (lv) (pc + 2) (.int x :: st)) : Xs p l e R s m args below meth c D cl A nL cells slots Q (ws) (lv) (pc) (st) := by
  obtain ⟨hx, hb, hml, hown, hts, hK, hA⟩ := E
  intro H locs ls hP hD hS hl
  exact lv_iload hx hb hd (lv_at hl ps hp) (k H locs ls hP hD hS hl)
theorem x_aload_n (E : En p s m args c cc nL own Ts D cl tys A) {i : Fin 4} {x : Nat} (ps : Nat) (hd : decode cc pc = .ok (.aload_n i, 1)) (hp : lv[ps]? = some ((i : Nat), .ref x))
    (k : Xs p l e R s m args below meth c D cl A nL cells slots Q (ws) (lv) (pc + 1) (.ref x :: st)) : Xs p l e R s m args below meth c D cl A nL cells slots Q (ws) (lv) (pc) (st) := by
  obtain ⟨hx, hb, hml, hown, hts, hK, hA⟩ := E
  intro H locs ls hP hD hS hl
  exact lv_aload_n hx hb hd rfl (lv_at hl ps hp) (k H locs ls hP hD hS hl)
theorem x_aload (E : En p s m args c cc nL own Ts D cl tys A) {i : Nat} {x : Nat} (ps : Nat) (hd : decode cc pc = .ok (.aload i, 2)) (hp : lv[ps]? = some (i, .ref x))
    (k : Xs p l e R s m args below meth c D cl A nL cells slots Q (ws) (lv) (pc + 2) (.ref x :: st)) : Xs p l e R s m args below meth c D cl A nL cells slots Q (ws) (lv) (pc) (st) := by
  obtain ⟨hx, hb, hml, hown, hts, hK, hA⟩ := E
  intro H locs ls hP hD hS hl
  exact lv_aload hx hb hd (lv_at hl ps hp) (k H locs ls hP hD hS hl)
theorem x_istore_n (E : En p s m args c cc nL own Ts D cl tys A) {i : Fin 4} {x : Int32} (lv' : List (Nat × Value)) (hd : decode cc pc = .ok (.istore_n i, 1)) (hn : (i : Nat) < nL) (hl0 : ((i : Nat), Value.int x) :: lv.filter (fun q => !(q.1 == (i : Nat)) && !(q.1 + 1 == (i : Nat) && q.2.category == 2)) = lv')
    (k : Xs p l e R s m args below meth c D cl A nL cells slots Q (ws) (lv') (pc + 1) (st)) : Xs p l e R s m args below meth c D cl A nL cells slots Q (ws) (lv) (pc) (.int x :: st) := by
  obtain ⟨hx, hb, hml, hown, hts, hK, hA⟩ := E
  intro H locs ls hP hD hS hl
  exact lv_istore_n hx hb hd rfl hl hn hl0 (fun ls' hl' => k H locs ls' hP hD hS hl')
theorem x_istore (E : En p s m args c cc nL own Ts D cl tys A) {i : Nat} {x : Int32} (lv' : List (Nat × Value)) (hd : decode cc pc = .ok (.istore i, 2)) (hn : i < nL) (hl0 : (i, Value.int x) :: lv.filter (fun q => !(q.1 == i) && !(q.1 + 1 == i && q.2.category == 2)) = lv')
    (k : Xs p l e R s m args below meth c D cl A nL cells slots Q (ws) (lv') (pc + 2) (st)) : Xs p l e R s m args below meth c D cl A nL cells slots Q (ws) (lv) (pc) (.int x :: st) := by
  obtain ⟨hx, hb, hml, hown, hts, hK, hA⟩ := E
  intro H locs ls hP hD hS hl
  exact lv_istore hx hb hd hl hn hl0 (fun ls' hl' => k H locs ls' hP hD hS hl')
theorem x_astore_n (E : En p s m args c cc nL own Ts D cl tys A) {i : Fin 4} {x : Nat} (lv' : List (Nat × Value)) (hd : decode cc pc = .ok (.astore_n i, 1)) (hn : (i : Nat) < nL) (hl0 : ((i : Nat), Value.ref x) :: lv.filter (fun q => !(q.1 == (i : Nat)) && !(q.1 + 1 == (i : Nat) && q.2.category == 2)) = lv')
    (k : Xs p l e R s m args below meth c D cl A nL cells slots Q (ws) (lv') (pc + 1) (st)) : Xs p l e R s m args below meth c D cl A nL cells slots Q (ws) (lv) (pc) (.ref x :: st) := by
  obtain ⟨hx, hb, hml, hown, hts, hK, hA⟩ := E
  intro H locs ls hP hD hS hl
  exact lv_astore_n hx hb hd rfl hl hn hl0 (fun ls' hl' => k H locs ls' hP hD hS hl')
theorem x_astore (E : En p s m args c cc nL own Ts D cl tys A) {i : Nat} {x : Nat} (lv' : List (Nat × Value)) (hd : decode cc pc = .ok (.astore i, 2)) (hn : i < nL) (hl0 : (i, Value.ref x) :: lv.filter (fun q => !(q.1 == i) && !(q.1 + 1 == i && q.2.category == 2)) = lv')
    (k : Xs p l e R s m args below meth c D cl A nL cells slots Q (ws) (lv') (pc + 2) (st)) : Xs p l e R s m args below meth c D cl A nL cells slots Q (ws) (lv) (pc) (.ref x :: st) := by
  obtain ⟨hx, hb, hml, hown, hts, hK, hA⟩ := E
  intro H locs ls hP hD hS hl
  exact lv_astore hx hb hd hl hn hl0 (fun ls' hl' => k H locs ls' hP hD hS hl')
theorem x_iinc (E : En p s m args c cc nL own Ts D cl tys A) {i : Nat} {n : Int} {x v : Int32} (ps : Nat) (lv' : List (Nat × Value)) (hd : decode cc pc = .ok (.iinc i n, 3)) (hp : lv[ps]? = some (i, .int x)) (hv : x + Int32.ofInt n = v) (hn : i < nL) (hl0 : (i, Value.int v) :: lv.filter (fun q => !(q.1 == i) && !(q.1 + 1 == i && q.2.category == 2)) = lv')
    (k : Xs p l e R s m args below meth c D cl A nL cells slots Q (ws) (lv') (pc + 3) (st)) : Xs p l e R s m args below meth c D cl A nL cells slots Q (ws) (lv) (pc) (st) := by
  obtain ⟨hx, hb, hml, hown, hts, hK, hA⟩ := E
  intro H locs ls hP hD hS hl
  exact lv_iinc hx hb hd hl hp hv hn hl0 (fun ls' hl' => k H locs ls' hP hD hS hl')
theorem x_iadd (E : En p s m args c cc nL own Ts D cl tys A) {x y : Int32} (hd : decode cc pc = .ok (.iadd, 1))
    (k : Xs p l e R s m args below meth c D cl A nL cells slots Q (ws) (lv) (pc + 1) (.int (x + y) :: st)) : Xs p l e R s m args below meth c D cl A nL cells slots Q (ws) (lv) (pc) (.int y :: .int x :: st) := by
  obtain ⟨hx, hb, hml, hown, hts, hK, hA⟩ := E
  intro H locs ls hP hD hS hl
  exact lv_iadd hx hb hd (k H locs ls hP hD hS hl)
theorem x_iadd' (E : En p s m args c cc nL own Ts D cl tys A) {x y z : Int32} (hd : decode cc pc = .ok (.iadd, 1)) (hz : x + y = z)
    (k : Xs p l e R s m args below meth c D cl A nL cells slots Q (ws) (lv) (pc + 1) (.int z :: st)) : Xs p l e R s m args below meth c D cl A nL cells slots Q (ws) (lv) (pc) (.int y :: .int x :: st) := by
  subst hz
  exact x_iadd E hd k
theorem x_isub (E : En p s m args c cc nL own Ts D cl tys A) {x y : Int32} (hd : decode cc pc = .ok (.isub, 1))
    (k : Xs p l e R s m args below meth c D cl A nL cells slots Q (ws) (lv) (pc + 1) (.int (x - y) :: st)) : Xs p l e R s m args below meth c D cl A nL cells slots Q (ws) (lv) (pc) (.int y :: .int x :: st) := by
  obtain ⟨hx, hb, hml, hown, hts, hK, hA⟩ := E
  intro H locs ls hP hD hS hl
  exact lv_isub hx hb hd (k H locs ls hP hD hS hl)
theorem x_isub' (E : En p s m args c cc nL own Ts D cl tys A) {x y z : Int32} (hd : decode cc pc = .ok (.isub, 1)) (hz : x - y = z)
    (k : Xs p l e R s m args below meth c D cl A nL cells slots Q (ws) (lv) (pc + 1) (.int z :: st)) : Xs p l e R s m args below meth c D cl A nL cells slots Q (ws) (lv) (pc) (.int y :: .int x :: st) := by
  subst hz
  exact x_isub E hd k
theorem x_imul (E : En p s m args c cc nL own Ts D cl tys A) {x y : Int32} (hd : decode cc pc = .ok (.imul, 1))
    (k : Xs p l e R s m args below meth c D cl A nL cells slots Q (ws) (lv) (pc + 1) (.int (x * y) :: st)) : Xs p l e R s m args below meth c D cl A nL cells slots Q (ws) (lv) (pc) (.int y :: .int x :: st) := by
  obtain ⟨hx, hb, hml, hown, hts, hK, hA⟩ := E
  intro H locs ls hP hD hS hl
  exact lv_imul hx hb hd (k H locs ls hP hD hS hl)
theorem x_imul' (E : En p s m args c cc nL own Ts D cl tys A) {x y z : Int32} (hd : decode cc pc = .ok (.imul, 1)) (hz : x * y = z)
    (k : Xs p l e R s m args below meth c D cl A nL cells slots Q (ws) (lv) (pc + 1) (.int z :: st)) : Xs p l e R s m args below meth c D cl A nL cells slots Q (ws) (lv) (pc) (.int y :: .int x :: st) := by
  subst hz
  exact x_imul E hd k
theorem x_iand (E : En p s m args c cc nL own Ts D cl tys A) {x y : Int32} (hd : decode cc pc = .ok (.iand, 1))
    (k : Xs p l e R s m args below meth c D cl A nL cells slots Q (ws) (lv) (pc + 1) (.int (x &&& y) :: st)) : Xs p l e R s m args below meth c D cl A nL cells slots Q (ws) (lv) (pc) (.int y :: .int x :: st) := by
  obtain ⟨hx, hb, hml, hown, hts, hK, hA⟩ := E
  intro H locs ls hP hD hS hl
  exact lv_iand hx hb hd (k H locs ls hP hD hS hl)
theorem x_iand' (E : En p s m args c cc nL own Ts D cl tys A) {x y z : Int32} (hd : decode cc pc = .ok (.iand, 1)) (hz : x &&& y = z)
    (k : Xs p l e R s m args below meth c D cl A nL cells slots Q (ws) (lv) (pc + 1) (.int z :: st)) : Xs p l e R s m args below meth c D cl A nL cells slots Q (ws) (lv) (pc) (.int y :: .int x :: st) := by
  subst hz
  exact x_iand E hd k
theorem x_ior (E : En p s m args c cc nL own Ts D cl tys A) {x y : Int32} (hd : decode cc pc = .ok (.ior, 1))
    (k : Xs p l e R s m args below meth c D cl A nL cells slots Q (ws) (lv) (pc + 1) (.int (x ||| y) :: st)) : Xs p l e R s m args below meth c D cl A nL cells slots Q (ws) (lv) (pc) (.int y :: .int x :: st) := by
  obtain ⟨hx, hb, hml, hown, hts, hK, hA⟩ := E
  intro H locs ls hP hD hS hl
  exact lv_ior hx hb hd (k H locs ls hP hD hS hl)
theorem x_ior' (E : En p s m args c cc nL own Ts D cl tys A) {x y z : Int32} (hd : decode cc pc = .ok (.ior, 1)) (hz : x ||| y = z)
    (k : Xs p l e R s m args below meth c D cl A nL cells slots Q (ws) (lv) (pc + 1) (.int z :: st)) : Xs p l e R s m args below meth c D cl A nL cells slots Q (ws) (lv) (pc) (.int y :: .int x :: st) := by
  subst hz
  exact x_ior E hd k
theorem x_ixor (E : En p s m args c cc nL own Ts D cl tys A) {x y : Int32} (hd : decode cc pc = .ok (.ixor, 1))
    (k : Xs p l e R s m args below meth c D cl A nL cells slots Q (ws) (lv) (pc + 1) (.int (x ^^^ y) :: st)) : Xs p l e R s m args below meth c D cl A nL cells slots Q (ws) (lv) (pc) (.int y :: .int x :: st) := by
  obtain ⟨hx, hb, hml, hown, hts, hK, hA⟩ := E
  intro H locs ls hP hD hS hl
  exact lv_ixor hx hb hd (k H locs ls hP hD hS hl)
theorem x_ixor' (E : En p s m args c cc nL own Ts D cl tys A) {x y z : Int32} (hd : decode cc pc = .ok (.ixor, 1)) (hz : x ^^^ y = z)
    (k : Xs p l e R s m args below meth c D cl A nL cells slots Q (ws) (lv) (pc + 1) (.int z :: st)) : Xs p l e R s m args below meth c D cl A nL cells slots Q (ws) (lv) (pc) (.int y :: .int x :: st) := by
  subst hz
  exact x_ixor E hd k
theorem x_ishl (E : En p s m args c cc nL own Ts D cl tys A) {x y : Int32} (hd : decode cc pc = .ok (.ishl, 1))
    (k : Xs p l e R s m args below meth c D cl A nL cells slots Q (ws) (lv) (pc + 1) (.int (x <<< (y &&& 31)) :: st)) : Xs p l e R s m args below meth c D cl A nL cells slots Q (ws) (lv) (pc) (.int y :: .int x :: st) := by
  obtain ⟨hx, hb, hml, hown, hts, hK, hA⟩ := E
  intro H locs ls hP hD hS hl
  exact lv_ishl hx hb hd (k H locs ls hP hD hS hl)
theorem x_ishl' (E : En p s m args c cc nL own Ts D cl tys A) {x y z : Int32} (hd : decode cc pc = .ok (.ishl, 1)) (hz : x <<< (y &&& 31) = z)
    (k : Xs p l e R s m args below meth c D cl A nL cells slots Q (ws) (lv) (pc + 1) (.int z :: st)) : Xs p l e R s m args below meth c D cl A nL cells slots Q (ws) (lv) (pc) (.int y :: .int x :: st) := by
  subst hz
  exact x_ishl E hd k
theorem x_ineg (E : En p s m args c cc nL own Ts D cl tys A) {x : Int32} (hd : decode cc pc = .ok (.ineg, 1))
    (k : Xs p l e R s m args below meth c D cl A nL cells slots Q (ws) (lv) (pc + 1) (.int (-x) :: st)) : Xs p l e R s m args below meth c D cl A nL cells slots Q (ws) (lv) (pc) (.int x :: st) := by
  obtain ⟨hx, hb, hml, hown, hts, hK, hA⟩ := E
  intro H locs ls hP hD hS hl
  exact lv_ineg hx hb hd (k H locs ls hP hD hS hl)
theorem x_idiv (E : En p s m args c cc nL own Ts D cl tys A) {x y : Int32} (hd : decode cc pc = .ok (.idiv, 1)) (hne : ¬ y = 0)
    (k : Xs p l e R s m args below meth c D cl A nL cells slots Q (ws) (lv) (pc + 1) (.int (x / y) :: st)) : Xs p l e R s m args below meth c D cl A nL cells slots Q (ws) (lv) (pc) (.int y :: .int x :: st) := by
  obtain ⟨hx, hb, hml, hown, hts, hK, hA⟩ := E
  intro H locs ls hP hD hS hl
  exact lv_idiv hx hb hd hne (k H locs ls hP hD hS hl)
theorem x_irem (E : En p s m args c cc nL own Ts D cl tys A) {x y : Int32} (hd : decode cc pc = .ok (.irem, 1)) (hne : ¬ y = 0)
    (k : Xs p l e R s m args below meth c D cl A nL cells slots Q (ws) (lv) (pc + 1) (.int (x - x / y * y) :: st)) : Xs p l e R s m args below meth c D cl A nL cells slots Q (ws) (lv) (pc) (.int y :: .int x :: st) := by
  obtain ⟨hx, hb, hml, hown, hts, hK, hA⟩ := E
  intro H locs ls hP hD hS hl
  exact lv_irem hx hb hd hne (k H locs ls hP hD hS hl)
theorem x_iushr (E : En p s m args c cc nL own Ts D cl tys A) {x y v : Int32} (hd : decode cc pc = .ok (.iushr, 1)) (hv : (x.toUInt32 >>> (y.toUInt32 &&& Int32.toUInt32 31)).toInt32 = v)
    (k : Xs p l e R s m args below meth c D cl A nL cells slots Q (ws) (lv) (pc + 1) (.int v :: st)) : Xs p l e R s m args below meth c D cl A nL cells slots Q (ws) (lv) (pc) (.int y :: .int x :: st) := by
  obtain ⟨hx, hb, hml, hown, hts, hK, hA⟩ := E
  intro H locs ls hP hD hS hl
  exact lv_iushr hx hb hd hv (k H locs ls hP hD hS hl)
theorem x_i2b (E : En p s m args c cc nL own Ts D cl tys A) {x : Int32} (hd : decode cc pc = .ok (.i2b, 1))
    (k : Xs p l e R s m args below meth c D cl A nL cells slots Q (ws) (lv) (pc + 1) (.int x.toInt8.toInt32 :: st)) : Xs p l e R s m args below meth c D cl A nL cells slots Q (ws) (lv) (pc) (.int x :: st) := by
  obtain ⟨hx, hb, hml, hown, hts, hK, hA⟩ := E
  intro H locs ls hP hD hS hl
  exact lv_i2b hx hb hd rfl (k H locs ls hP hD hS hl)
theorem x_i2l (E : En p s m args c cc nL own Ts D cl tys A) {x : Int32} (hd : decode cc pc = .ok (.i2l, 1))
    (k : Xs p l e R s m args below meth c D cl A nL cells slots Q (ws) (lv) (pc + 1) (.long x.toInt64 :: st)) : Xs p l e R s m args below meth c D cl A nL cells slots Q (ws) (lv) (pc) (.int x :: st) := by
  obtain ⟨hx, hb, hml, hown, hts, hK, hA⟩ := E
  intro H locs ls hP hD hS hl
  exact lv_i2l hx hb hd rfl (k H locs ls hP hD hS hl)
theorem x_dup (E : En p s m args c cc nL own Ts D cl tys A) {va : Value} (hd : decode cc pc = .ok (.dup, 1)) (hv : va.category = 1)
    (k : Xs p l e R s m args below meth c D cl A nL cells slots Q (ws) (lv) (pc + 1) (va :: va :: st)) : Xs p l e R s m args below meth c D cl A nL cells slots Q (ws) (lv) (pc) (va :: st) := by
  obtain ⟨hx, hb, hml, hown, hts, hK, hA⟩ := E
  intro H locs ls hP hD hS hl
  exact lv_dup hx hb hd hv (k H locs ls hP hD hS hl)
theorem x_pop (E : En p s m args c cc nL own Ts D cl tys A) {va : Value} (hd : decode cc pc = .ok (.pop, 1)) (hv : va.category = 1)
    (k : Xs p l e R s m args below meth c D cl A nL cells slots Q (ws) (lv) (pc + 1) (st)) : Xs p l e R s m args below meth c D cl A nL cells slots Q (ws) (lv) (pc) (va :: st) := by
  obtain ⟨hx, hb, hml, hown, hts, hK, hA⟩ := E
  intro H locs ls hP hD hS hl
  exact lv_pop hx hb hd hv (k H locs ls hP hD hS hl)
theorem x_dup_x1 (E : En p s m args c cc nL own Ts D cl tys A) {va vb : Value} (hd : decode cc pc = .ok (.dup_x1, 1)) (hv : va.category = 1) (hw : vb.category = 1)
    (k : Xs p l e R s m args below meth c D cl A nL cells slots Q (ws) (lv) (pc + 1) (va :: vb :: va :: st)) : Xs p l e R s m args below meth c D cl A nL cells slots Q (ws) (lv) (pc) (va :: vb :: st) := by
  obtain ⟨hx, hb, hml, hown, hts, hK, hA⟩ := E
  intro H locs ls hP hD hS hl
  exact lv_dup_x1 hx hb hd hv hw (k H locs ls hP hD hS hl)
theorem x_dup2 (E : En p s m args c cc nL own Ts D cl tys A) {va vb : Value} (hd : decode cc pc = .ok (.dup2, 1)) (hv : va.category = 1) (hw : vb.category = 1)
    (k : Xs p l e R s m args below meth c D cl A nL cells slots Q (ws) (lv) (pc + 1) (va :: vb :: va :: vb :: st)) : Xs p l e R s m args below meth c D cl A nL cells slots Q (ws) (lv) (pc) (va :: vb :: st) := by
  obtain ⟨hx, hb, hml, hown, hts, hK, hA⟩ := E
  intro H locs ls hP hD hS hl
  exact lv_dup2_11 hx hb hd hv hw (k H locs ls hP hD hS hl)
theorem x_goto (E : En p s m args c cc nL own Ts D cl tys A) {off : Int} (tgt : Nat) (hd : decode cc pc = .ok (.goto off, 3)) (ht : (pc : Int) + off = (tgt : Int))
    (k : Xs p l e R s m args below meth c D cl A nL cells slots Q (ws) (lv) (tgt) (st)) : Xs p l e R s m args below meth c D cl A nL cells slots Q (ws) (lv) (pc) (st) := by
  obtain ⟨hx, hb, hml, hown, hts, hK, hA⟩ := E
  intro H locs ls hP hD hS hl
  exact lv_goto hx hb hd ht (k H locs ls hP hD hS hl)
theorem x_icmp_eq (E : En p s m args c cc nL own Ts D cl tys A) {x y : Int32} {off : Int} (tgt : Nat) (hd : decode cc pc = .ok (.if_icmp .eq off, 3)) (ht : (pc : Int) + off = (tgt : Int))
    (kt : x = y → Xs p l e R s m args below meth c D cl A nL cells slots Q (ws) (lv) (tgt) (st)) (kf : ¬ x = y → Xs p l e R s m args below meth c D cl A nL cells slots Q (ws) (lv) (pc + 3) (st)) : Xs p l e R s m args below meth c D cl A nL cells slots Q (ws) (lv) (pc) (.int y :: .int x :: st) := by
  obtain ⟨hx, hb, hml, hown, hts, hK, hA⟩ := E
  intro H locs ls hP hD hS hl
  exact lv_icmp_eq hx hb hd ht (fun h => kt h H locs ls hP hD hS hl) (fun h => kf h H locs ls hP hD hS hl)
theorem x_if_eq (E : En p s m args c cc nL own Ts D cl tys A) {x : Int32} {off : Int} (tgt : Nat) (hd : decode cc pc = .ok (.ifCond .eq off, 3)) (ht : (pc : Int) + off = (tgt : Int))
    (kt : x = 0 → Xs p l e R s m args below meth c D cl A nL cells slots Q (ws) (lv) (tgt) (st)) (kf : ¬ x = 0 → Xs p l e R s m args below meth c D cl A nL cells slots Q (ws) (lv) (pc + 3) (st)) : Xs p l e R s m args below meth c D cl A nL cells slots Q (ws) (lv) (pc) (.int x :: st) := by
  obtain ⟨hx, hb, hml, hown, hts, hK, hA⟩ := E
  intro H locs ls hP hD hS hl
  exact lv_if_eq hx hb hd ht (fun h => kt h H locs ls hP hD hS hl) (fun h => kf h H locs ls hP hD hS hl)
theorem x_ncmp_eq (E : En p s m args c cc nL own Ts D cl tys A) {a b : Nat} {off : Int} (tgt : Nat) (hd : decode cc pc = .ok (.if_icmp .eq off, 3)) (ht : (pc : Int) + off = (tgt : Int)) (ha : a < 2 ^ 31) (hb0 : b < 2 ^ 31)
    (kt : a = b → Xs p l e R s m args below meth c D cl A nL cells slots Q (ws) (lv) (tgt) (st)) (kf : ¬ a = b → Xs p l e R s m args below meth c D cl A nL cells slots Q (ws) (lv) (pc + 3) (st)) : Xs p l e R s m args below meth c D cl A nL cells slots Q (ws) (lv) (pc) (.int (nI b) :: .int (nI a) :: st) :=
  x_icmp_eq E tgt hd ht (fun h => kt ((nI_eq ha hb0).mp h)) (fun h => kf (fun q => h ((nI_eq ha hb0).mpr q)))
theorem x_nif_eq (E : En p s m args c cc nL own Ts D cl tys A) {a : Nat} {off : Int} (tgt : Nat) (hd : decode cc pc = .ok (.ifCond .eq off, 3)) (ht : (pc : Int) + off = (tgt : Int)) (ha : a < 2 ^ 31)
    (kt : a = 0 → Xs p l e R s m args below meth c D cl A nL cells slots Q (ws) (lv) (tgt) (st)) (kf : ¬ a = 0 → Xs p l e R s m args below meth c D cl A nL cells slots Q (ws) (lv) (pc + 3) (st)) : Xs p l e R s m args below meth c D cl A nL cells slots Q (ws) (lv) (pc) (.int (nI a) :: st) :=
  x_if_eq E tgt hd ht (fun h => kt ((nI_eq ha (by omega : 0 < 2 ^ 31)).mp h)) (fun h => kf (fun q => h ((nI_eq ha (by omega : 0 < 2 ^ 31)).mpr q)))
theorem x_icmp_ne (E : En p s m args c cc nL own Ts D cl tys A) {x y : Int32} {off : Int} (tgt : Nat) (hd : decode cc pc = .ok (.if_icmp .ne off, 3)) (ht : (pc : Int) + off = (tgt : Int))
    (kt : ¬ x = y → Xs p l e R s m args below meth c D cl A nL cells slots Q (ws) (lv) (tgt) (st)) (kf : x = y → Xs p l e R s m args below meth c D cl A nL cells slots Q (ws) (lv) (pc + 3) (st)) : Xs p l e R s m args below meth c D cl A nL cells slots Q (ws) (lv) (pc) (.int y :: .int x :: st) := by
  obtain ⟨hx, hb, hml, hown, hts, hK, hA⟩ := E
  intro H locs ls hP hD hS hl
  exact lv_icmp_ne hx hb hd ht (fun h => kt h H locs ls hP hD hS hl) (fun h => kf h H locs ls hP hD hS hl)
theorem x_if_ne (E : En p s m args c cc nL own Ts D cl tys A) {x : Int32} {off : Int} (tgt : Nat) (hd : decode cc pc = .ok (.ifCond .ne off, 3)) (ht : (pc : Int) + off = (tgt : Int))
    (kt : ¬ x = 0 → Xs p l e R s m args below meth c D cl A nL cells slots Q (ws) (lv) (tgt) (st)) (kf : x = 0 → Xs p l e R s m args below meth c D cl A nL cells slots Q (ws) (lv) (pc + 3) (st)) : Xs p l e R s m args below meth c D cl A nL cells slots Q (ws) (lv) (pc) (.int x :: st) := by
  obtain ⟨hx, hb, hml, hown, hts, hK, hA⟩ := E
  intro H locs ls hP hD hS hl
  exact lv_if_ne hx hb hd ht (fun h => kt h H locs ls hP hD hS hl) (fun h => kf h H locs ls hP hD hS hl)
theorem x_ncmp_ne (E : En p s m args c cc nL own Ts D cl tys A) {a b : Nat} {off : Int} (tgt : Nat) (hd : decode cc pc = .ok (.if_icmp .ne off, 3)) (ht : (pc : Int) + off = (tgt : Int)) (ha : a < 2 ^ 31) (hb0 : b < 2 ^ 31)
    (kt : ¬ a = b → Xs p l e R s m args below meth c D cl A nL cells slots Q (ws) (lv) (tgt) (st)) (kf : a = b → Xs p l e R s m args below meth c D cl A nL cells slots Q (ws) (lv) (pc + 3) (st)) : Xs p l e R s m args below meth c D cl A nL cells slots Q (ws) (lv) (pc) (.int (nI b) :: .int (nI a) :: st) :=
  x_icmp_ne E tgt hd ht (fun h => kt (fun q => h ((nI_eq ha hb0).mpr q))) (fun h => kf ((nI_eq ha hb0).mp h))
theorem x_nif_ne (E : En p s m args c cc nL own Ts D cl tys A) {a : Nat} {off : Int} (tgt : Nat) (hd : decode cc pc = .ok (.ifCond .ne off, 3)) (ht : (pc : Int) + off = (tgt : Int)) (ha : a < 2 ^ 31)
    (kt : ¬ a = 0 → Xs p l e R s m args below meth c D cl A nL cells slots Q (ws) (lv) (tgt) (st)) (kf : a = 0 → Xs p l e R s m args below meth c D cl A nL cells slots Q (ws) (lv) (pc + 3) (st)) : Xs p l e R s m args below meth c D cl A nL cells slots Q (ws) (lv) (pc) (.int (nI a) :: st) :=
  x_if_ne E tgt hd ht (fun h => kt (fun q => h ((nI_eq ha (by omega : 0 < 2 ^ 31)).mpr q))) (fun h => kf ((nI_eq ha (by omega : 0 < 2 ^ 31)).mp h))
theorem x_icmp_lt (E : En p s m args c cc nL own Ts D cl tys A) {x y : Int32} {off : Int} (tgt : Nat) (hd : decode cc pc = .ok (.if_icmp .lt off, 3)) (ht : (pc : Int) + off = (tgt : Int))
    (kt : x < y → Xs p l e R s m args below meth c D cl A nL cells slots Q (ws) (lv) (tgt) (st)) (kf : ¬ x < y → Xs p l e R s m args below meth c D cl A nL cells slots Q (ws) (lv) (pc + 3) (st)) : Xs p l e R s m args below meth c D cl A nL cells slots Q (ws) (lv) (pc) (.int y :: .int x :: st) := by
  obtain ⟨hx, hb, hml, hown, hts, hK, hA⟩ := E
  intro H locs ls hP hD hS hl
  exact lv_icmp_lt hx hb hd ht (fun h => kt h H locs ls hP hD hS hl) (fun h => kf h H locs ls hP hD hS hl)
theorem x_if_lt (E : En p s m args c cc nL own Ts D cl tys A) {x : Int32} {off : Int} (tgt : Nat) (hd : decode cc pc = .ok (.ifCond .lt off, 3)) (ht : (pc : Int) + off = (tgt : Int))
    (kt : x < 0 → Xs p l e R s m args below meth c D cl A nL cells slots Q (ws) (lv) (tgt) (st)) (kf : ¬ x < 0 → Xs p l e R s m args below meth c D cl A nL cells slots Q (ws) (lv) (pc + 3) (st)) : Xs p l e R s m args below meth c D cl A nL cells slots Q (ws) (lv) (pc) (.int x :: st) := by
  obtain ⟨hx, hb, hml, hown, hts, hK, hA⟩ := E
  intro H locs ls hP hD hS hl
  exact lv_if_lt hx hb hd ht (fun h => kt h H locs ls hP hD hS hl) (fun h => kf h H locs ls hP hD hS hl)
theorem x_ncmp_lt (E : En p s m args c cc nL own Ts D cl tys A) {a b : Nat} {off : Int} (tgt : Nat) (hd : decode cc pc = .ok (.if_icmp .lt off, 3)) (ht : (pc : Int) + off = (tgt : Int)) (ha : a < 2 ^ 31) (hb0 : b < 2 ^ 31)
    (kt : a < b → Xs p l e R s m args below meth c D cl A nL cells slots Q (ws) (lv) (tgt) (st)) (kf : ¬ a < b → Xs p l e R s m args below meth c D cl A nL cells slots Q (ws) (lv) (pc + 3) (st)) : Xs p l e R s m args below meth c D cl A nL cells slots Q (ws) (lv) (pc) (.int (nI b) :: .int (nI a) :: st) :=
  x_icmp_lt E tgt hd ht (fun h => kt ((nI_ltI ha hb0).mp h)) (fun h => kf (fun q => h ((nI_ltI ha hb0).mpr q)))
theorem x_nif_lt (E : En p s m args c cc nL own Ts D cl tys A) {a : Nat} {off : Int} (tgt : Nat) (hd : decode cc pc = .ok (.ifCond .lt off, 3)) (ht : (pc : Int) + off = (tgt : Int)) (ha : a < 2 ^ 31)
    (kt : a < 0 → Xs p l e R s m args below meth c D cl A nL cells slots Q (ws) (lv) (tgt) (st)) (kf : ¬ a < 0 → Xs p l e R s m args below meth c D cl A nL cells slots Q (ws) (lv) (pc + 3) (st)) : Xs p l e R s m args below meth c D cl A nL cells slots Q (ws) (lv) (pc) (.int (nI a) :: st) :=
  x_if_lt E tgt hd ht (fun h => kt ((nI_ltI ha (by omega : 0 < 2 ^ 31)).mp h)) (fun h => kf (fun q => h ((nI_ltI ha (by omega : 0 < 2 ^ 31)).mpr q)))
theorem x_icmp_ge (E : En p s m args c cc nL own Ts D cl tys A) {x y : Int32} {off : Int} (tgt : Nat) (hd : decode cc pc = .ok (.if_icmp .ge off, 3)) (ht : (pc : Int) + off = (tgt : Int))
    (kt : y ≤ x → Xs p l e R s m args below meth c D cl A nL cells slots Q (ws) (lv) (tgt) (st)) (kf : ¬ y ≤ x → Xs p l e R s m args below meth c D cl A nL cells slots Q (ws) (lv) (pc + 3) (st)) : Xs p l e R s m args below meth c D cl A nL cells slots Q (ws) (lv) (pc) (.int y :: .int x :: st) := by
  obtain ⟨hx, hb, hml, hown, hts, hK, hA⟩ := E
  intro H locs ls hP hD hS hl
  exact lv_icmp_ge hx hb hd ht (fun h => kt h H locs ls hP hD hS hl) (fun h => kf h H locs ls hP hD hS hl)
theorem x_if_ge (E : En p s m args c cc nL own Ts D cl tys A) {x : Int32} {off : Int} (tgt : Nat) (hd : decode cc pc = .ok (.ifCond .ge off, 3)) (ht : (pc : Int) + off = (tgt : Int))
    (kt : 0 ≤ x → Xs p l e R s m args below meth c D cl A nL cells slots Q (ws) (lv) (tgt) (st)) (kf : ¬ 0 ≤ x → Xs p l e R s m args below meth c D cl A nL cells slots Q (ws) (lv) (pc + 3) (st)) : Xs p l e R s m args below meth c D cl A nL cells slots Q (ws) (lv) (pc) (.int x :: st) := by
  obtain ⟨hx, hb, hml, hown, hts, hK, hA⟩ := E
  intro H locs ls hP hD hS hl
  exact lv_if_ge hx hb hd ht (fun h => kt h H locs ls hP hD hS hl) (fun h => kf h H locs ls hP hD hS hl)
theorem x_ncmp_ge (E : En p s m args c cc nL own Ts D cl tys A) {a b : Nat} {off : Int} (tgt : Nat) (hd : decode cc pc = .ok (.if_icmp .ge off, 3)) (ht : (pc : Int) + off = (tgt : Int)) (ha : a < 2 ^ 31) (hb0 : b < 2 ^ 31)
    (kt : b ≤ a → Xs p l e R s m args below meth c D cl A nL cells slots Q (ws) (lv) (tgt) (st)) (kf : ¬ b ≤ a → Xs p l e R s m args below meth c D cl A nL cells slots Q (ws) (lv) (pc + 3) (st)) : Xs p l e R s m args below meth c D cl A nL cells slots Q (ws) (lv) (pc) (.int (nI b) :: .int (nI a) :: st) :=
  x_icmp_ge E tgt hd ht (fun h => kt ((nI_leI hb0 ha).mp h)) (fun h => kf (fun q => h ((nI_leI hb0 ha).mpr q)))
theorem x_nif_ge (E : En p s m args c cc nL own Ts D cl tys A) {a : Nat} {off : Int} (tgt : Nat) (hd : decode cc pc = .ok (.ifCond .ge off, 3)) (ht : (pc : Int) + off = (tgt : Int)) (ha : a < 2 ^ 31)
    (kt : 0 ≤ a → Xs p l e R s m args below meth c D cl A nL cells slots Q (ws) (lv) (tgt) (st)) (kf : ¬ 0 ≤ a → Xs p l e R s m args below meth c D cl A nL cells slots Q (ws) (lv) (pc + 3) (st)) : Xs p l e R s m args below meth c D cl A nL cells slots Q (ws) (lv) (pc) (.int (nI a) :: st) :=
  x_if_ge E tgt hd ht (fun h => kt ((nI_leI (by omega : 0 < 2 ^ 31) ha).mp h)) (fun h => kf (fun q => h ((nI_leI (by omega : 0 < 2 ^ 31) ha).mpr q)))
theorem x_icmp_gt (E : En p s m args c cc nL own Ts D cl tys A) {x y : Int32} {off : Int} (tgt : Nat) (hd : decode cc pc = .ok (.if_icmp .gt off, 3)) (ht : (pc : Int) + off = (tgt : Int))
    (kt : y < x → Xs p l e R s m args below meth c D cl A nL cells slots Q (ws) (lv) (tgt) (st)) (kf : ¬ y < x → Xs p l e R s m args below meth c D cl A nL cells slots Q (ws) (lv) (pc + 3) (st)) : Xs p l e R s m args below meth c D cl A nL cells slots Q (ws) (lv) (pc) (.int y :: .int x :: st) := by
  obtain ⟨hx, hb, hml, hown, hts, hK, hA⟩ := E
  intro H locs ls hP hD hS hl
  exact lv_icmp_gt hx hb hd ht (fun h => kt h H locs ls hP hD hS hl) (fun h => kf h H locs ls hP hD hS hl)
theorem x_if_gt (E : En p s m args c cc nL own Ts D cl tys A) {x : Int32} {off : Int} (tgt : Nat) (hd : decode cc pc = .ok (.ifCond .gt off, 3)) (ht : (pc : Int) + off = (tgt : Int))
    (kt : 0 < x → Xs p l e R s m args below meth c D cl A nL cells slots Q (ws) (lv) (tgt) (st)) (kf : ¬ 0 < x → Xs p l e R s m args below meth c D cl A nL cells slots Q (ws) (lv) (pc + 3) (st)) : Xs p l e R s m args below meth c D cl A nL cells slots Q (ws) (lv) (pc) (.int x :: st) := by
  obtain ⟨hx, hb, hml, hown, hts, hK, hA⟩ := E
  intro H locs ls hP hD hS hl
  exact lv_if_gt hx hb hd ht (fun h => kt h H locs ls hP hD hS hl) (fun h => kf h H locs ls hP hD hS hl)
theorem x_ncmp_gt (E : En p s m args c cc nL own Ts D cl tys A) {a b : Nat} {off : Int} (tgt : Nat) (hd : decode cc pc = .ok (.if_icmp .gt off, 3)) (ht : (pc : Int) + off = (tgt : Int)) (ha : a < 2 ^ 31) (hb0 : b < 2 ^ 31)
    (kt : b < a → Xs p l e R s m args below meth c D cl A nL cells slots Q (ws) (lv) (tgt) (st)) (kf : ¬ b < a → Xs p l e R s m args below meth c D cl A nL cells slots Q (ws) (lv) (pc + 3) (st)) : Xs p l e R s m args below meth c D cl A nL cells slots Q (ws) (lv) (pc) (.int (nI b) :: .int (nI a) :: st) :=
  x_icmp_gt E tgt hd ht (fun h => kt ((nI_ltI hb0 ha).mp h)) (fun h => kf (fun q => h ((nI_ltI hb0 ha).mpr q)))
theorem x_nif_gt (E : En p s m args c cc nL own Ts D cl tys A) {a : Nat} {off : Int} (tgt : Nat) (hd : decode cc pc = .ok (.ifCond .gt off, 3)) (ht : (pc : Int) + off = (tgt : Int)) (ha : a < 2 ^ 31)
    (kt : 0 < a → Xs p l e R s m args below meth c D cl A nL cells slots Q (ws) (lv) (tgt) (st)) (kf : ¬ 0 < a → Xs p l e R s m args below meth c D cl A nL cells slots Q (ws) (lv) (pc + 3) (st)) : Xs p l e R s m args below meth c D cl A nL cells slots Q (ws) (lv) (pc) (.int (nI a) :: st) :=
  x_if_gt E tgt hd ht (fun h => kt ((nI_ltI (by omega : 0 < 2 ^ 31) ha).mp h)) (fun h => kf (fun q => h ((nI_ltI (by omega : 0 < 2 ^ 31) ha).mpr q)))
theorem x_icmp_le (E : En p s m args c cc nL own Ts D cl tys A) {x y : Int32} {off : Int} (tgt : Nat) (hd : decode cc pc = .ok (.if_icmp .le off, 3)) (ht : (pc : Int) + off = (tgt : Int))
    (kt : x ≤ y → Xs p l e R s m args below meth c D cl A nL cells slots Q (ws) (lv) (tgt) (st)) (kf : ¬ x ≤ y → Xs p l e R s m args below meth c D cl A nL cells slots Q (ws) (lv) (pc + 3) (st)) : Xs p l e R s m args below meth c D cl A nL cells slots Q (ws) (lv) (pc) (.int y :: .int x :: st) := by
  obtain ⟨hx, hb, hml, hown, hts, hK, hA⟩ := E
  intro H locs ls hP hD hS hl
  exact lv_icmp_le hx hb hd ht (fun h => kt h H locs ls hP hD hS hl) (fun h => kf h H locs ls hP hD hS hl)
theorem x_if_le (E : En p s m args c cc nL own Ts D cl tys A) {x : Int32} {off : Int} (tgt : Nat) (hd : decode cc pc = .ok (.ifCond .le off, 3)) (ht : (pc : Int) + off = (tgt : Int))
    (kt : x ≤ 0 → Xs p l e R s m args below meth c D cl A nL cells slots Q (ws) (lv) (tgt) (st)) (kf : ¬ x ≤ 0 → Xs p l e R s m args below meth c D cl A nL cells slots Q (ws) (lv) (pc + 3) (st)) : Xs p l e R s m args below meth c D cl A nL cells slots Q (ws) (lv) (pc) (.int x :: st) := by
  obtain ⟨hx, hb, hml, hown, hts, hK, hA⟩ := E
  intro H locs ls hP hD hS hl
  exact lv_if_le hx hb hd ht (fun h => kt h H locs ls hP hD hS hl) (fun h => kf h H locs ls hP hD hS hl)
theorem x_ncmp_le (E : En p s m args c cc nL own Ts D cl tys A) {a b : Nat} {off : Int} (tgt : Nat) (hd : decode cc pc = .ok (.if_icmp .le off, 3)) (ht : (pc : Int) + off = (tgt : Int)) (ha : a < 2 ^ 31) (hb0 : b < 2 ^ 31)
    (kt : a ≤ b → Xs p l e R s m args below meth c D cl A nL cells slots Q (ws) (lv) (tgt) (st)) (kf : ¬ a ≤ b → Xs p l e R s m args below meth c D cl A nL cells slots Q (ws) (lv) (pc + 3) (st)) : Xs p l e R s m args below meth c D cl A nL cells slots Q (ws) (lv) (pc) (.int (nI b) :: .int (nI a) :: st) :=
  x_icmp_le E tgt hd ht (fun h => kt ((nI_leI ha hb0).mp h)) (fun h => kf (fun q => h ((nI_leI ha hb0).mpr q)))
theorem x_nif_le (E : En p s m args c cc nL own Ts D cl tys A) {a : Nat} {off : Int} (tgt : Nat) (hd : decode cc pc = .ok (.ifCond .le off, 3)) (ht : (pc : Int) + off = (tgt : Int)) (ha : a < 2 ^ 31)
    (kt : a ≤ 0 → Xs p l e R s m args below meth c D cl A nL cells slots Q (ws) (lv) (tgt) (st)) (kf : ¬ a ≤ 0 → Xs p l e R s m args below meth c D cl A nL cells slots Q (ws) (lv) (pc + 3) (st)) : Xs p l e R s m args below meth c D cl A nL cells slots Q (ws) (lv) (pc) (.int (nI a) :: st) :=
  x_if_le E tgt hd ht (fun h => kt ((nI_leI ha (by omega : 0 < 2 ^ 31)).mp h)) (fun h => kf (fun q => h ((nI_leI ha (by omega : 0 < 2 ^ 31)).mpr q)))
theorem x_qif_eq (E : En p s m args c cc nL own Ts D cl tys A) {b : Bool} {off : Int} (tgt : Nat) (hd : decode cc pc = .ok (.ifCond .eq off, 3)) (ht : (pc : Int) + off = (tgt : Int))
    (kt : b = false → Xs p l e R s m args below meth c D cl A nL cells slots Q (ws) (lv) (tgt) (st)) (kf : b = true → Xs p l e R s m args below meth c D cl A nL cells slots Q (ws) (lv) (pc + 3) (st)) : Xs p l e R s m args below meth c D cl A nL cells slots Q (ws) (lv) (pc) (.int (if b = true then 1 else 0) :: st) :=
  x_if_eq E tgt hd ht (fun h => kt (by cases b with | false => rfl | true => exact absurd h (by decide))) (fun h => kf (by cases b with | true => rfl | false => exact absurd rfl h))
theorem x_qif_ne (E : En p s m args c cc nL own Ts D cl tys A) {b : Bool} {off : Int} (tgt : Nat) (hd : decode cc pc = .ok (.ifCond .ne off, 3)) (ht : (pc : Int) + off = (tgt : Int))
    (kt : b = true → Xs p l e R s m args below meth c D cl A nL cells slots Q (ws) (lv) (tgt) (st)) (kf : b = false → Xs p l e R s m args below meth c D cl A nL cells slots Q (ws) (lv) (pc + 3) (st)) : Xs p l e R s m args below meth c D cl A nL cells slots Q (ws) (lv) (pc) (.int (if b = true then 1 else 0) :: st) :=
  x_if_ne E tgt hd ht (fun h => kt (by cases b with | true => rfl | false => exact absurd rfl h)) (fun h => kf (by cases b with | false => rfl | true => exact absurd h (by decide)))
theorem q_nar (b : Bool) : narrow .boolean (.int (if b = true then 1 else 0)) = .int (if b = true then 1 else 0) := by cases b <;> rfl
theorem q_fit (b : Bool) : fits .boolean (.int (if b = true then 1 else 0)) = true := by cases b <;> rfl
theorem q_t {b : Bool} (h : b = true) : nI 1 = if b = true then 1 else 0 := by subst h; rfl
theorem q_f {b : Bool} (h : b = false) : nI 0 = if b = true then 1 else 0 := by subst h; rfl
theorem q_t' {b : Bool} (h : b = true) : some (Value.int (nI 1)) = some (.int (if b = true then 1 else 0)) := by subst h; rfl
theorem q_f' {b : Bool} (h : b = false) : some (Value.int (nI 0)) = some (.int (if b = true then 1 else 0)) := by subst h; rfl
theorem x_niadd (E : En p s m args c cc nL own Ts D cl tys A) {a b : Nat} (hd : decode cc pc = .ok (.iadd, 1))
    (k : Xs p l e R s m args below meth c D cl A nL cells slots Q (ws) (lv) (pc + 1) (.int (nI (a + b)) :: st)) : Xs p l e R s m args below meth c D cl A nL cells slots Q (ws) (lv) (pc) (.int (nI b) :: .int (nI a) :: st) := by
  obtain ⟨hx, hb, hml, hown, hts, hK, hA⟩ := E
  intro H locs ls hP hD hS hl
  exact lv_iadd hx hb hd (by rw [nI_add]; exact (k H locs ls hP hD hS hl))
theorem x_nimul (E : En p s m args c cc nL own Ts D cl tys A) {a b : Nat} (hd : decode cc pc = .ok (.imul, 1))
    (k : Xs p l e R s m args below meth c D cl A nL cells slots Q (ws) (lv) (pc + 1) (.int (nI (a * b)) :: st)) : Xs p l e R s m args below meth c D cl A nL cells slots Q (ws) (lv) (pc) (.int (nI b) :: .int (nI a) :: st) := by
  obtain ⟨hx, hb, hml, hown, hts, hK, hA⟩ := E
  intro H locs ls hP hD hS hl
  exact lv_imul hx hb hd (by rw [pk_mul]; exact (k H locs ls hP hD hS hl))
theorem x_nisub (E : En p s m args c cc nL own Ts D cl tys A) {a b : Nat} (hd : decode cc pc = .ok (.isub, 1)) (h : b ≤ a)
    (k : Xs p l e R s m args below meth c D cl A nL cells slots Q (ws) (lv) (pc + 1) (.int (nI (a - b)) :: st)) : Xs p l e R s m args below meth c D cl A nL cells slots Q (ws) (lv) (pc) (.int (nI b) :: .int (nI a) :: st) := by
  obtain ⟨hx, hb, hml, hown, hts, hK, hA⟩ := E
  intro H locs ls hP hD hS hl
  exact lv_isub hx hb hd (by rw [pk_sub h]; exact (k H locs ls hP hD hS hl))
theorem x_nidiv (E : En p s m args c cc nL own Ts D cl tys A) {a b : Nat} (hd : decode cc pc = .ok (.idiv, 1)) (ha : a < 2 ^ 31) (h0 : 0 < b) (hb0 : b < 2 ^ 31)
    (k : Xs p l e R s m args below meth c D cl A nL cells slots Q (ws) (lv) (pc + 1) (.int (nI (a / b)) :: st)) : Xs p l e R s m args below meth c D cl A nL cells slots Q (ws) (lv) (pc) (.int (nI b) :: .int (nI a) :: st) := by
  obtain ⟨hx, hb, hml, hown, hts, hK, hA⟩ := E
  intro H locs ls hP hD hS hl
  exact lv_idiv hx hb hd (nI_ne0 h0 hb0) (by rw [pk_div ha h0 hb0]; exact (k H locs ls hP hD hS hl))
theorem x_get (E : En p s m args c cc nL own Ts D cl tys A) {ref C : String} {T : u_T} {N ci index a : Nat} (q0 f : Nat) {fs : List Value} {v : Value} (hd : decode cc pc = .ok (.getfield index, 3)) (hin : ∀ w ∈ u_ws C T N, w ∈ Ts) (he : ws[q0]? = some (a, .inr (ci, fs))) (hc : cl[ci]? = some (C, T, N)) (hk : f < N) (hlink : Cond.fieldLink own index ref (T f).2.1 (T f).2.2.1 ∈ Ts) (href : (T f).1 = ref) (hv : fs[f]? = some v)
    (k : Xs p l e R s m args below meth c D cl A nL cells slots Q (ws) (lv) (pc + 3) (v :: st)) : Xs p l e R s m args below meth c D cl A nL cells slots Q (ws) (lv) (pc) (.ref a :: st) := by
  obtain ⟨hx, hb, hml, hown, hts, hK, hA⟩ := E
  intro H locs ls hP hD hS hl
  exact va_get hx hb hts hin hown hK hP q0 he hc f hk (hts _ hlink) (fun _ h => by rw [← href]; exact h) hv hd (k H locs ls hP hD hS hl)
theorem x_put (E : En p s m args c cc nL own Ts D cl tys A) {ref C : String} {T : u_T} {N ci index a : Nat} (q0 f : Nat) (ws' : va_W) {fs : List Value} {v : Value} {ty0 : Nat → FieldType} (hd : decode cc pc = .ok (.putfield index, 3)) (hin : ∀ w ∈ u_ws C T N, w ∈ Ts) (hty : ∀ k, k < N → parseFieldDescriptor (T k).2.2.1 = some (ty0 k)) (hnm : ∀ a, a < N → ∀ b, b < N → a ≠ b → (T a).2.1 ≠ (T b).2.1) (he : ws[q0]? = some (a, .inr (ci, fs))) (hc : cl[ci]? = some (C, T, N)) (hk : f < N) (hlink : Cond.fieldLink own index ref (T f).2.1 (T f).2.2.1 ∈ Ts) (href : (T f).1 = ref) (hfin : (T f).2.2.2 = false) (hnr : narrow (ty0 f) v = v) (hfit : fits (ty0 f) v = true) (hlen : f < fs.length) (hw : ws.set q0 (a, .inr (ci, fs.set f v)) = ws')
    (k : Xs p l e R s m args below meth c D cl A nL cells slots Q (ws') (lv) (pc + 3) (st)) : Xs p l e R s m args below meth c D cl A nL cells slots Q (ws) (lv) (pc) (v :: .ref a :: st) := by
  obtain ⟨hx, hb, hml, hown, hts, hK, hA⟩ := E
  intro H locs ls hP hD hS hl
  subst hw
  exact va_put hx hb hts hin ty0 hty hnm hown hK hP hD hS q0 he hc f hk (hts _ hlink) (fun _ h => by rw [← href]; exact h) hfin (hty f hk) hnr hfit hlen hd (fun H1 locs1 hP1 hD1 hS1 => k H1 locs1 ls hP1 hD1 hS1 hl)
theorem x_putF (E : En p s m args c cc nL own Ts D cl tys A) {ref C : String} {T : u_T} {N ci index a : Nat} (q0 f : Nat) (ws' : va_W) {fs : List Value} {v : Value} {ty0 : Nat → FieldType} (hd : decode cc pc = .ok (.putfield index, 3)) (hin : ∀ w ∈ u_ws C T N, w ∈ Ts) (hty : ∀ k, k < N → parseFieldDescriptor (T k).2.2.1 = some (ty0 k)) (hnm : ∀ a, a < N → ∀ b, b < N → a ≠ b → (T a).2.1 ≠ (T b).2.1) (he : ws[q0]? = some (a, .inr (ci, fs))) (hc : cl[ci]? = some (C, T, N)) (hk : f < N) (hlink : Cond.fieldLink own index ref (T f).2.1 (T f).2.2.1 ∈ Ts) (href : (T f).1 = ref) (hfin : (T f).2.2.2 = true) (hin2 : meth.name = "<init>") (hdecl : (T f).1 = own) (hnr : narrow (ty0 f) v = v) (hfit : fits (ty0 f) v = true) (hlen : f < fs.length) (hw : ws.set q0 (a, .inr (ci, fs.set f v)) = ws')
    (k : Xs p l e R s m args below meth c D cl A nL cells slots Q (ws') (lv) (pc + 3) (st)) : Xs p l e R s m args below meth c D cl A nL cells slots Q (ws) (lv) (pc) (v :: .ref a :: st) := by
  obtain ⟨hx, hb, hml, hown, hts, hK, hA⟩ := E
  intro H locs ls hP hD hS hl
  subst hw
  exact va_putF hx hb hts hin ty0 hty hnm hown hK hP hD hS q0 he hc f hk (hts _ hlink) (fun _ h => by rw [← href]; exact h) hfin hin2 hdecl (hty f hk) hnr hfit hlen hd (fun H1 locs1 hP1 hD1 hS1 => k H1 locs1 ls hP1 hD1 hS1 hl)
/-- a row of bytes, as the cells hold it -/
def bf (g : Nat → UInt8) : Nat → Int32 := fun j => (g j).toInt8.toInt32
def u8 (x : Int32) : UInt8 := x.toInt8.toUInt8
def zf (g : Nat → Bool) : Nat → Int32 := fun j => if g j = true then 1 else 0
theorem bf_up (g : Nat → UInt8) (k : Nat) (v : UInt8) : upd (bf g) k v.toInt8.toInt32 = bf (va_up g k v) := by
  funext j
  by_cases h : j = k
  · subst h; simp [upd, bf, va_up]
  · simp [upd, bf, va_up, h]
theorem zf_up (g : Nat → Bool) (k : Nat) (v : Bool) : upd (zf g) k (if v = true then 1 else 0) = zf (va_up g k v) := by
  funext j
  by_cases h : j = k
  · subst h; simp [upd, zf, va_up]
  · simp [upd, zf, va_up, h]
theorem bf_cpy (f g : Nat → UInt8) (a b n : Nat) : va_cpy (bf f) (bf g) a b n = bf (va_cpy f g a b n) := by
  funext j
  simp only [va_cpy, bf]
  split <;> rfl
theorem u8_nar (x : Int32) : vp_nar .byte x = (u8 x).toInt8.toInt32 := by
  rw [vp_nar_byte]
  simp [u8]
theorem bf_255 (u : UInt8) : u.toInt8.toInt32 &&& 255 = nI u.toNat := by
  have h : ∀ n : Fin 256, (UInt8.ofNat n.val).toInt8.toInt32 &&& 255 = nI n.val := by decide +kernel
  have h2 := h ⟨u.toNat, u.toNat_lt⟩
  simpa using h2
theorem bf_fit (u : UInt8) : fits .byte (.int u.toInt8.toInt32) = true := by
  have h : ∀ n : Fin 256, fits .byte (.int (UInt8.ofNat n.val).toInt8.toInt32) = true := by decide +kernel
  have h2 := h ⟨u.toNat, u.toNat_lt⟩
  simpa using h2
theorem bf_n255 (g : Nat → UInt8) (k : Nat) : bf g k &&& nI 255 = nI (g k).toNat := bf_255 (g k)
theorem u_n255 (u : UInt8) : nI u.toNat &&& nI 255 = nI u.toNat := by
  have h : ∀ n : Fin 256, nI (UInt8.ofNat n.val).toNat &&& nI 255 = nI (UInt8.ofNat n.val).toNat := by decide +kernel
  have h2 := h ⟨u.toNat, u.toNat_lt⟩
  simpa using h2
theorem u8lt (u : UInt8) : u.toNat < 2 ^ 31 := Nat.lt_of_lt_of_le u.toNat_lt (by decide)
theorem u8l (u : UInt8) : u.toNat < 256 := u.toNat_lt
/-- rows of ints that hold numbers, or bytes -/
def nf (f : Nat → Nat) : Nat → Int32 := fun j => nI (f j)
def uf (g : Nat → UInt8) : Nat → Int32 := fun j => nI (g j).toNat
theorem nf_up (g : Nat → Nat) (k v : Nat) : upd (nf g) k (nI v) = nf (va_up g k v) := by
  funext j
  by_cases h : j = k
  · subst h; simp [upd, nf, va_up]
  · simp [upd, nf, va_up, h]
theorem uf_up (g : Nat → UInt8) (k : Nat) (v : UInt8) : upd (uf g) k (nI v.toNat) = uf (va_up g k v) := by
  funext j
  by_cases h : j = k
  · subst h; simp [upd, uf, va_up]
  · simp [upd, uf, va_up, h]
abbrev tyl (cB cI cZ cJ : ClassId) : List (ClassId × FieldType) := [(cB, .byte), (cI, .int), (cZ, .boolean), (cJ, .long)]
theorem x_ncl {n k : Nat} (h : k < n) (hn : n < 2 ^ 31) : (nI k).toNatClampNeg = k := nI_clamp (by omega)
theorem x_iald (E : En p s m args c cc nL own Ts D cl tys A) {a n i : Nat} {cA : ClassId} {f : Nat → Int32} (q0 t0 : Nat) (hd : decode cc pc = .ok (.iaload, 1)) (ha : ws[q0]? = some (a, .inl (cA, n, .inl (f)))) (ht : tys[t0]? = some (cA, .int)) (hi : i < n) (hn : n < 2 ^ 31)
    (k : Xs p l e R s m args below meth c D cl A nL cells slots Q (ws) (lv) (pc + 1) (.int ((f) i) :: st)) : Xs p l e R s m args below meth c D cl A nL cells slots Q (ws) (lv) (pc) (.int (nI i) :: .ref a :: st) := by
  obtain ⟨hx, hb, hml, hown, hts, hK, hA⟩ := E
  intro H locs ls hP hD hS hl
  exact va_iald hx hb hK hP q0 t0 ha ht (vp_in_nI hi hn) hd (by rw [x_ncl hi hn]; exact (k H locs ls hP hD hS hl))
theorem x_bald (E : En p s m args c cc nL own Ts D cl tys A) {a n i : Nat} {cA : ClassId} {g : Nat → UInt8} (q0 t0 : Nat) (hd : decode cc pc = .ok (.baload, 1)) (ha : ws[q0]? = some (a, .inl (cA, n, .inl (bf g)))) (ht : tys[t0]? = some (cA, .byte)) (hi : i < n) (hn : n < 2 ^ 31)
    (k : Xs p l e R s m args below meth c D cl A nL cells slots Q (ws) (lv) (pc + 1) (.int ((bf g) i) :: st)) : Xs p l e R s m args below meth c D cl A nL cells slots Q (ws) (lv) (pc) (.int (nI i) :: .ref a :: st) := by
  obtain ⟨hx, hb, hml, hown, hts, hK, hA⟩ := E
  intro H locs ls hP hD hS hl
  exact va_bald hx hb hK hP q0 t0 ha ht (vp_in_nI hi hn) hd (by rw [x_ncl hi hn]; exact (k H locs ls hP hD hS hl))
theorem x_zald (E : En p s m args c cc nL own Ts D cl tys A) {a n i : Nat} {cA : ClassId} {g : Nat → Bool} (q0 t0 : Nat) (hd : decode cc pc = .ok (.baload, 1)) (ha : ws[q0]? = some (a, .inl (cA, n, .inl (zf g)))) (ht : tys[t0]? = some (cA, .boolean)) (hi : i < n) (hn : n < 2 ^ 31)
    (k : Xs p l e R s m args below meth c D cl A nL cells slots Q (ws) (lv) (pc + 1) (.int ((zf g) i) :: st)) : Xs p l e R s m args below meth c D cl A nL cells slots Q (ws) (lv) (pc) (.int (nI i) :: .ref a :: st) := by
  obtain ⟨hx, hb, hml, hown, hts, hK, hA⟩ := E
  intro H locs ls hP hD hS hl
  exact va_zald hx hb hK hP q0 t0 ha ht (vp_in_nI hi hn) hd (by rw [x_ncl hi hn]; exact (k H locs ls hP hD hS hl))
theorem x_nald (E : En p s m args c cc nL own Ts D cl tys A) {a n i : Nat} {cA : ClassId} {f : Nat → Nat} (q0 t0 : Nat) (hd : decode cc pc = .ok (.iaload, 1)) (ha : ws[q0]? = some (a, .inl (cA, n, .inl (nf f)))) (ht : tys[t0]? = some (cA, .int)) (hi : i < n) (hn : n < 2 ^ 31)
    (k : Xs p l e R s m args below meth c D cl A nL cells slots Q (ws) (lv) (pc + 1) (.int (nI (f i)) :: st)) : Xs p l e R s m args below meth c D cl A nL cells slots Q (ws) (lv) (pc) (.int (nI i) :: .ref a :: st) := x_iald E q0 t0 hd ha ht hi hn k
theorem x_uald (E : En p s m args c cc nL own Ts D cl tys A) {a n i : Nat} {cA : ClassId} {g : Nat → UInt8} (q0 t0 : Nat) (hd : decode cc pc = .ok (.iaload, 1)) (ha : ws[q0]? = some (a, .inl (cA, n, .inl (uf g)))) (ht : tys[t0]? = some (cA, .int)) (hi : i < n) (hn : n < 2 ^ 31)
    (k : Xs p l e R s m args below meth c D cl A nL cells slots Q (ws) (lv) (pc + 1) (.int (nI (g i).toNat) :: st)) : Xs p l e R s m args below meth c D cl A nL cells slots Q (ws) (lv) (pc) (.int (nI i) :: .ref a :: st) := x_iald E q0 t0 hd ha ht hi hn k
theorem x_nast (E : En p s m args c cc nL own Ts D cl tys A) {a n i : Nat} {cA : ClassId} {f : Nat → Nat} {v : Nat} (q0 t0 : Nat) (ws' : va_W) (hd : decode cc pc = .ok (.iastore, 1)) (ha : ws[q0]? = some (a, .inl (cA, n, .inl (nf f)))) (ht : tys[t0]? = some (cA, .int)) (hi : i < n) (hn : n < 2 ^ 31) (hw : ws.set q0 (a, .inl (cA, n, .inl (nf (va_up f i v)))) = ws')
    (k : Xs p l e R s m args below meth c D cl A nL cells slots Q (ws') (lv) (pc + 1) (st)) : Xs p l e R s m args below meth c D cl A nL cells slots Q (ws) (lv) (pc) (.int (nI v) :: .int (nI i) :: .ref a :: st) := by
  obtain ⟨hx, hb, hml, hown, hts, hK, hA⟩ := E
  intro H locs ls hP hD hS hl
  subst hw
  refine va_iast hx hb hK hP hD hS q0 t0 ha ht (vp_in_nI hi hn) hd (fun H1 locs1 hP1 hD1 hS1 => ?_)
  rw [x_ncl hi hn, nf_up] at hP1 hD1
  exact k H1 locs1 ls hP1 hD1 hS1 hl
theorem x_uast (E : En p s m args c cc nL own Ts D cl tys A) {a n i : Nat} {cA : ClassId} {g : Nat → UInt8} {x : Int32} {v : UInt8} (q0 t0 : Nat) (ws' : va_W) (hd : decode cc pc = .ok (.iastore, 1)) (ha : ws[q0]? = some (a, .inl (cA, n, .inl (uf g)))) (ht : tys[t0]? = some (cA, .int)) (hi : i < n) (hn : n < 2 ^ 31) (hv : x = nI v.toNat) (hw : ws.set q0 (a, .inl (cA, n, .inl (uf (va_up g i v)))) = ws')
    (k : Xs p l e R s m args below meth c D cl A nL cells slots Q (ws') (lv) (pc + 1) (st)) : Xs p l e R s m args below meth c D cl A nL cells slots Q (ws) (lv) (pc) (.int (x) :: .int (nI i) :: .ref a :: st) := by
  obtain ⟨hx, hb, hml, hown, hts, hK, hA⟩ := E
  intro H locs ls hP hD hS hl
  subst hw; subst hv
  refine va_iast hx hb hK hP hD hS q0 t0 ha ht (vp_in_nI hi hn) hd (fun H1 locs1 hP1 hD1 hS1 => ?_)
  rw [x_ncl hi hn, uf_up] at hP1 hD1
  exact k H1 locs1 ls hP1 hD1 hS1 hl
theorem x_iast (E : En p s m args c cc nL own Ts D cl tys A) {a n i : Nat} {cA : ClassId} {f : Nat → Int32} {x : Int32} (q0 t0 : Nat) (ws' : va_W) (hd : decode cc pc = .ok (.iastore, 1)) (ha : ws[q0]? = some (a, .inl (cA, n, .inl f))) (ht : tys[t0]? = some (cA, .int)) (hi : i < n) (hn : n < 2 ^ 31) (hw : ws.set q0 (a, .inl (cA, n, .inl (upd f i x))) = ws')
    (k : Xs p l e R s m args below meth c D cl A nL cells slots Q (ws') (lv) (pc + 1) (st)) : Xs p l e R s m args below meth c D cl A nL cells slots Q (ws) (lv) (pc) (.int x :: .int (nI i) :: .ref a :: st) := by
  obtain ⟨hx, hb, hml, hown, hts, hK, hA⟩ := E
  intro H locs ls hP hD hS hl
  subst hw
  refine va_iast hx hb hK hP hD hS q0 t0 ha ht (vp_in_nI hi hn) hd (fun H1 locs1 hP1 hD1 hS1 => ?_)
  rw [x_ncl hi hn] at hP1 hD1
  exact k H1 locs1 ls hP1 hD1 hS1 hl
theorem x_bast (E : En p s m args c cc nL own Ts D cl tys A) {a n i : Nat} {cA : ClassId} {g : Nat → UInt8} {x : Int32} {v : UInt8} (q0 t0 : Nat) (ws' : va_W) (hd : decode cc pc = .ok (.bastore, 1)) (ha : ws[q0]? = some (a, .inl (cA, n, .inl (bf g)))) (ht : tys[t0]? = some (cA, .byte)) (hi : i < n) (hn : n < 2 ^ 31) (hv : u8 x = v) (hw : ws.set q0 (a, .inl (cA, n, .inl (bf (va_up g i v)))) = ws')
    (k : Xs p l e R s m args below meth c D cl A nL cells slots Q (ws') (lv) (pc + 1) (st)) : Xs p l e R s m args below meth c D cl A nL cells slots Q (ws) (lv) (pc) (.int x :: .int (nI i) :: .ref a :: st) := by
  obtain ⟨hx, hb, hml, hown, hts, hK, hA⟩ := E
  intro H locs ls hP hD hS hl
  subst hw; subst hv
  refine va_bast hx hb hK hP hD hS q0 t0 ha ht (vp_in_nI hi hn) hd (fun H1 locs1 hP1 hD1 hS1 => ?_)
  rw [x_ncl hi hn, u8_nar, bf_up] at hP1 hD1
  exact k H1 locs1 ls hP1 hD1 hS1 hl
theorem x_zast (E : En p s m args c cc nL own Ts D cl tys A) {a n i : Nat} {cA : ClassId} {g : Nat → Bool} {x : Int32} {v : Bool} (q0 t0 : Nat) (ws' : va_W) (hd : decode cc pc = .ok (.bastore, 1)) (ha : ws[q0]? = some (a, .inl (cA, n, .inl (zf g)))) (ht : tys[t0]? = some (cA, .boolean)) (hi : i < n) (hn : n < 2 ^ 31) (hv : vp_nar .boolean x = if v = true then 1 else 0) (hw : ws.set q0 (a, .inl (cA, n, .inl (zf (va_up g i v)))) = ws')
    (k : Xs p l e R s m args below meth c D cl A nL cells slots Q (ws') (lv) (pc + 1) (st)) : Xs p l e R s m args below meth c D cl A nL cells slots Q (ws) (lv) (pc) (.int x :: .int (nI i) :: .ref a :: st) := by
  obtain ⟨hx, hb, hml, hown, hts, hK, hA⟩ := E
  intro H locs ls hP hD hS hl
  subst hw
  refine va_zast hx hb hK hP hD hS q0 t0 ha ht (vp_in_nI hi hn) hd (fun H1 locs1 hP1 hD1 hS1 => ?_)
  rw [x_ncl hi hn, hv, zf_up] at hP1 hD1
  exact k H1 locs1 ls hP1 hD1 hS1 hl
theorem x_alen (E : En p s m args c cc nL own Ts D cl tys A) {a : Nat} {cA : ClassId} {x : vp_A} {ty : FieldType} (q0 t0 n : Nat) (hd : decode cc pc = .ok (.arraylength, 1)) (ha : ws[q0]? = some (a, .inl (cA, x))) (ht : tys[t0]? = some (cA, ty)) (hn : x.1 = n)
    (k : Xs p l e R s m args below meth c D cl A nL cells slots Q (ws) (lv) (pc + 1) (.int (nI n) :: st)) : Xs p l e R s m args below meth c D cl A nL cells slots Q (ws) (lv) (pc) (.ref a :: st) := by
  obtain ⟨hx, hb, hml, hown, hts, hK, hA⟩ := E
  intro H locs ls hP hD hS hl
  subst hn
  exact va_alen hx hb hK hP q0 t0 ha ht rfl hd (k H locs ls hP hD hS hl)
/-- System.arraycopy of a row of bytes upon itself -/
theorem x_bcopy (E : En p s m args c cc nL own Ts D cl tys A) {a n sp dp k0 index : Nat} {cA : ClassId} {g : Nat → UInt8} (q0 t0 : Nat) (ws' : va_W) (hd : decode cc pc = .ok (.invokestatic index, 3)) (ha : ws[q0]? = some (a, .inl (cA, n, .inl (bf g)))) (ht : tys[t0]? = some (cA, .byte)) (hn : n < 2 ^ 31) (h1 : sp + k0 ≤ n) (h2 : dp + k0 ≤ n) (hlink : Cond.methodLink own index arraycopyName ∈ Ts) (hnat : Cond.native arraycopyName ∈ Ts) (hstat : Cond.static arraycopyName ∈ Ts) (hini : Cond.initialized "java/lang/System" ∈ Ts) (hf : 1 ≤ R.frames) (hlo : (st.map fun v => v.category).sum + (nativeFrameWords "java/lang/System" "arraycopy" 5 + 11) ≤ R.locals) (hw : ws.set q0 (a, .inl (cA, n, .inl (bf (va_cpy g g sp dp k0)))) = ws')
    (k : Xs p l e R s m args below meth c D cl A nL cells slots Q (ws') (lv) (pc + 3) (st)) : Xs p l e R s m args below meth c D cl A nL cells slots Q (ws) (lv) (pc) (.int (nI k0) :: .int (nI dp) :: .ref a :: .int (nI sp) :: .ref a :: st) := by
  obtain ⟨hx, hb, hml, hown, hts, hK, hA⟩ := E
  intro H locs ls hP hD hS hl
  subst hw
  have e1 : (nI sp).toNatClampNeg = sp := nI_clamp (by omega)
  have e2 : (nI dp).toNatClampNeg = dp := nI_clamp (by omega)
  have e3 : (nI k0).toNatClampNeg = k0 := nI_clamp (by omega)
  refine va_copyi hx hb (hml.trans hl.1.symm) hown (hts _ hlink) (hts _ hnat) (hts _ hstat) (hts _ hini) hK hP hD hS q0 q0 t0 t0 ha ha ht ht rfl (nI_pos (by omega)) (nI_pos (by omega)) (nI_pos (by omega)) (by rw [e1, e3]; exact h1) (by rw [e2, e3]; exact h2) (fun i _ => bf_fit _) hf hlo hd (fun H1 locs1 hP1 hD1 hS1 => ?_)
  rw [e1, e2, e3, bf_cpy] at hP1 hD1
  exact k H1 locs1 ls hP1 hD1 hS1 hl
theorem x_iret {P : Option Value → va_W → Prop} {v : Int32} (E : En p s m args c cc nL own Ts D cl tys A) (hr : meth.sig.returnType = some .int) (hlocks : meth.locks = false) (hd : decode cc pc = .ok (.ireturn, 1)) (hp : P (some (.int v)) ws) :
    Xs p l e R s m args below meth c D cl A nL cells slots (MQ below (CQ D cl tys A P) args s cells slots A) ws lv pc [.int v] := by
  obtain ⟨hx, hb, hml, hown, hts, hK, hA⟩ := E
  intro H locs ls hP hD hS hl
  exact W.iret (v := v) hx hb hr (fun t ht hW => ⟨⟨some (.int v), ws, rfl, hp, by rw [ht]; exact hP, va_K.moved hW.alike hK, hD⟩, hS.F ht⟩) hS.2.2 hd
theorem x_vret {P : Option Value → va_W → Prop}  (E : En p s m args c cc nL own Ts D cl tys A) (hr : meth.sig.returnType = none) (hlocks : meth.locks = false) (hd : decode cc pc = .ok (.return_, 1)) (hp : P (none) ws) :
    Xs p l e R s m args below meth c D cl A nL cells slots (MQ below (CQ D cl tys A P) args s cells slots A) ws lv pc [] := by
  obtain ⟨hx, hb, hml, hown, hts, hK, hA⟩ := E
  intro H locs ls hP hD hS hl
  exact W.vret hx hb hr (fun t ht hW => ⟨⟨none, ws, rfl, hp, by rw [ht]; exact hP, va_K.moved hW.alike hK, hD⟩, hS.F ht⟩) hS.2.2 hd
theorem x_zret {P : Option Value → va_W → Prop} {v : Int32} {ty : FieldType} (E : En p s m args c cc nL own Ts D cl tys A) (hr : meth.sig.returnType = some ty) (hlocks : meth.locks = false) (hd : decode cc pc = .ok (.ireturn, 1)) (hn : narrow ty (.int v) = .int v) (hp : P (some (.int v)) ws) :
    Xs p l e R s m args below meth c D cl A nL cells slots (MQ below (CQ D cl tys A P) args s cells slots A) ws lv pc [.int v] := by
  obtain ⟨hx, hb, hml, hown, hts, hK, hA⟩ := E
  intro H locs ls hP hD hS hl
  exact W.zret (v := v) hx hb hr hn (fun t ht hW => ⟨⟨some (.int v), ws, rfl, hp, by rw [ht]; exact hP, va_K.moved hW.alike hK, hD⟩, hS.F ht⟩) hS.2.2 hd
theorem x_aret {P : Option Value → va_W → Prop} {a : Nat} {ty : FieldType} (E : En p s m args c cc nL own Ts D cl tys A) (hr : meth.sig.returnType = some ty) (hlocks : meth.locks = false) (hd : decode cc pc = .ok (.areturn, 1)) (hrt : (∃ n, ty = .object n) ∨ ∃ t, ty = .array t) (hp : P (some (.ref a)) ws) :
    Xs p l e R s m args below meth c D cl A nL cells slots (MQ below (CQ D cl tys A P) args s cells slots A) ws lv pc [.ref a] := by
  obtain ⟨hx, hb, hml, hown, hts, hK, hA⟩ := E
  intro H locs ls hP hD hS hl
  exact W.aret (v := .ref a) hx hb hr hrt (Or.inr ⟨a, rfl⟩) (fun t ht hW => ⟨⟨some (.ref a), ws, rfl, hp, by rw [ht]; exact hP, va_K.moved hW.alike hK, hD⟩, hS.F ht⟩) hS.2.2 hd
/-- behind a call: the callee's part of the world is its own, the rest is as it was -/
theorem x_after {rm : Room} {mc ms : Nat} {wc wr : va_W} {P : Option Value → va_W → Prop} {st0 : List Value} {a : Array Value} (hA : ∀ q : Nat, s.heap.size ≤ q → A q) (isC isR : List Nat) (hC : isC.map (fun i => ws[i]?) = wc.map some) (hR : isR.map (fun i => ws[i]?) = wr.map some) (hn : va_nd isR = true) (hdis : ∀ i ∈ isR, i ∉ isC)
    (hrun : ∀ (H : Heap) (locs : List Loc) (ls : Array Slot), va_P D cl ws H → va_D A ws → va_S A s.heap H locs → lv_has ls nL lv → va_Run p l e R s m args below meth c H locs cells slots mc ms (F0 m pc ls st0) st (CQ D cl tys (va_A wc H.size) P a) (va_A wc H.size))
    (k : ∀ (r : Option Value) (u : va_W), P r u → Xs p l e R s m args below meth c D cl A nL (cells + mc) (slots + ms) Q (wr ++ u) (lv) (pc + 3) (r.toList ++ st)) : Xs p l e R s m args below meth c D cl A nL cells slots Q (ws) (lv) (pc) (st0) := by
  intro H locs ls hP hD hS hl
  have hFc := va_free (wc := wc) hD hS hA isC hC
  intro T hT X
  obtain ⟨v, st₀, t, T', L, h0, X', hL, e1, e2, ⟨⟨r, u, hv, hp, hP1, hK1, hD1⟩, hz, hk⟩, stp⟩ := hrun H locs ls hP hD hS hl T hT X
  cases hv
  rw [h0] at hz hk
  have hP2 : va_P D cl u T'.heap := by rw [e1]; exact hP1
  have hk2 : ∀ q : Nat, q < H.size → ¬ va_A wc H.size q → T'.heap[q]? = H[q]? := by rw [e1]; exact hk
  obtain ⟨hP3, hD3⟩ := va_join hP hD isC isR hC hR hn hdis hk2 hFc hP2 hD1
  have hS3 : va_S A s.heap T'.heap (locs ++ L) := ⟨Nat.le_trans hS.1 (by rw [e1]; exact hz), fun q h1 h2 => by rw [hk2 q (Nat.lt_of_lt_of_le h1 hS.1) (fun z => h2 (hFc q z))]; exact hS.2.1 q h1 h2, fun q hq => by
    rcases List.mem_append.mp hq with h | h
    · exact hS.2.2 q h
    · exact hFc _ (hL q h)⟩
  obtain ⟨t2, a1, b1⟩ := k v u hp T'.heap (locs ++ L) ls hP3 hD3 hS3 hl T' rfl X'
  exact ⟨t2, stp t2 a1, b1⟩
theorem x_blind {av : List Value} {sz : Nat} {wc : va_W} : FrameBlind (va_Pc av (fun U => U.heap.size = sz ∧ va_P D cl wc U.heap ∧ va_K D cl tys U ∧ va_D (fun _ => True) wc)) := fun a U g mk q => by
  obtain ⟨q0, q1, qP, qK, qD⟩ := q
  exact ⟨q0, q1, qP, va_K.moved (u := U) (U := U.calling g mk a) (Vm.Alike.refl U.vm) qK, qD⟩

theorem x_gV (E : En p s m args c cc nL own Ts D cl tys A) {y : MethodName} {bytes : ByteArray} {maxL mc ms n index : Nat} {ret : Option FieldType} {wy : List Cond} {rm : Room} {wc wr : va_W} {P : Option Value → va_W → Prop} {b : Nat} {C : String} {T : u_T} {N ci : Nat} {fs : List Value}  (As : List Value) (hM : Cg l D cl tys y wy rm mc ms (.ref b :: As) wc P) (q0 : Nat) (he : wc[q0]? = some (b, .inr (ci, fs))) (hcl : cl[ci]? = some (C, T, N)) (cw : CallW R s args own C index y bytes maxL ret wy rm mc ms n) (isC isR : List Nat) (hC : isC.map (fun i => ws[i]?) = wc.map some) (hR : isR.map (fun i => ws[i]?) = wr.map some) (hnC : va_nd isC = true) (hnR : va_nd isR = true) (hdis : ∀ i ∈ isR, i ∉ isC) (hlen : As.length = n) (hroom : (st.map fun v => v.category).sum ≤ 8) (hd : decode cc pc = .ok (.invokevirtual index, 3)) (hf : cells + mc ≤ R.cells ∧ slots + ms ≤ R.slots) {st0 : List Value} (hst : st0 = As.reverse ++ .ref b :: st)
    (k : ∀ (r : Option Value) (u : va_W), P r u → Xs p l e R s m args below meth c D cl A nL (cells + mc) (slots + ms) Q (wr ++ u) (lv) (pc + 3) (r.toList ++ st)) : Xs p l e R s m args below meth c D cl A nL cells slots Q (ws) (lv) (pc) (st0) := by
  obtain ⟨hx, hb, hml, hown, hts, hK, hA⟩ := E
  refine x_after (tys := tys) (mc := mc) (ms := ms) (a := (.ref b :: As).toArray) (rm := rm) hA isC isR hC hR hnR hdis (fun H locs ls hP hD hS hl => ?_) k
  have hPc := hP.sub isC (x_fm hC)
  have hDc := hD.sub isC hnC hC
  exact va_runV (As := As) (rest := st) ⟨hx, hb, hml, hown, hts⟩ (hM H.size) cw ⟨x_blind, va_recv hK hPc hcl he, fun U hU hW => ⟨rfl, by rw [hU], by rw [hU]; exact hPc, va_K.moved hW.alike hK, hDc.weaken (fun _ _ _ _ => trivial)⟩⟩ rfl hlen hl.1 hst (lv_room hroom) hd hf
theorem x_gS (E : En p s m args c cc nL own Ts D cl tys A) {y : MethodName} {bytes : ByteArray} {maxL mc ms n index : Nat} {ret : Option FieldType} {wy : List Cond} {rm : Room} {wc wr : va_W} {P : Option Value → va_W → Prop}  (As : List Value) (hM : Cg l D cl tys y wy rm mc ms (As) wc P)  (cw : CallB R s args own index y bytes maxL ret wy rm mc ms n ∧ (Cond.static y).before args s = true) (isC isR : List Nat) (hC : isC.map (fun i => ws[i]?) = wc.map some) (hR : isR.map (fun i => ws[i]?) = wr.map some) (hnC : va_nd isC = true) (hnR : va_nd isR = true) (hdis : ∀ i ∈ isR, i ∉ isC) (hlen : As.length = n) (hroom : (st.map fun v => v.category).sum ≤ 8) (hd : decode cc pc = .ok (.invokestatic index, 3)) (hf : cells + mc ≤ R.cells ∧ slots + ms ≤ R.slots) {st0 : List Value} (hst : st0 = As.reverse ++ st)
    (k : ∀ (r : Option Value) (u : va_W), P r u → Xs p l e R s m args below meth c D cl A nL (cells + mc) (slots + ms) Q (wr ++ u) (lv) (pc + 3) (r.toList ++ st)) : Xs p l e R s m args below meth c D cl A nL cells slots Q (ws) (lv) (pc) (st0) := by
  obtain ⟨hx, hb, hml, hown, hts, hK, hA⟩ := E
  refine x_after (tys := tys) (mc := mc) (ms := ms) (a := (As).toArray) (rm := rm) hA isC isR hC hR hnR hdis (fun H locs ls hP hD hS hl => ?_) k
  have hPc := hP.sub isC (x_fm hC)
  have hDc := hD.sub isC hnC hC
  exact va_runS (As := As) (rest := st) ⟨hx, hb, hml, hown, hts⟩ (hM H.size) cw ⟨x_blind, fun U hU hW => ⟨rfl, by rw [hU], by rw [hU]; exact hPc, va_K.moved hW.alike hK, hDc.weaken (fun _ _ _ _ => trivial)⟩⟩ rfl hlen hl.1 hst (lv_room hroom) hd hf
theorem x_gVN (E : En p s m args c cc nL own Ts D cl tys A) {y : MethodName} {bytes : ByteArray} {maxL mc ms n index : Nat} {ret : Option FieldType} {wy : List Cond} {rm : Room} {wc wr : va_W} {P : Option Value → va_W → Prop} {b : Nat} {host : String} {C : String} {T : u_T} {N ci : Nat} {fs : List Value}  (As : List Value) (hM : Cg l D cl tys y wy rm mc ms (.ref b :: As) wc P) (q0 : Nat) (he : wc[q0]? = some (b, .inr (ci, fs))) (hcl : cl[ci]? = some (C, T, N)) (cw : va_CN R s args own index y host bytes maxL ret wy rm mc ms n ∧ (Cond.instanceMethod y).before args s = true ∧ (Cond.selects C y y).before args s = true) (isC isR : List Nat) (hC : isC.map (fun i => ws[i]?) = wc.map some) (hR : isR.map (fun i => ws[i]?) = wr.map some) (hnC : va_nd isC = true) (hnR : va_nd isR = true) (hdis : ∀ i ∈ isR, i ∉ isC) (hlen : As.length = n) (hroom : (st.map fun v => v.category).sum ≤ 8) (hd : decode cc pc = .ok (.invokevirtual index, 3)) (hf : cells + mc ≤ R.cells ∧ slots + ms ≤ R.slots) {st0 : List Value} (hst : st0 = As.reverse ++ .ref b :: st)
    (k : ∀ (r : Option Value) (u : va_W), P r u → Xs p l e R s m args below meth c D cl A nL (cells + mc) (slots + ms) Q (wr ++ u) (lv) (pc + 3) (r.toList ++ st)) : Xs p l e R s m args below meth c D cl A nL cells slots Q (ws) (lv) (pc) (st0) := by
  obtain ⟨hx, hb, hml, hown, hts, hK, hA⟩ := E
  refine x_after (tys := tys) (mc := mc) (ms := ms) (a := (.ref b :: As).toArray) (rm := rm) hA isC isR hC hR hnR hdis (fun H locs ls hP hD hS hl => ?_) k
  have hPc := hP.sub isC (x_fm hC)
  have hDc := hD.sub isC hnC hC
  exact va_runVN (As := As) (rest := st) ⟨hx, hb, hml, hown, hts⟩ (hM H.size) cw ⟨x_blind, va_recv hK hPc hcl he, fun U hU hW => ⟨rfl, by rw [hU], by rw [hU]; exact hPc, va_K.moved hW.alike hK, hDc.weaken (fun _ _ _ _ => trivial)⟩⟩ rfl hlen hl.1 hst (lv_room hroom) hd hf
theorem x_gSN (E : En p s m args c cc nL own Ts D cl tys A) {y : MethodName} {bytes : ByteArray} {maxL mc ms n index : Nat} {ret : Option FieldType} {wy : List Cond} {rm : Room} {wc wr : va_W} {P : Option Value → va_W → Prop} {host : String} (As : List Value) (hM : Cg l D cl tys y wy rm mc ms (As) wc P)  (cw : va_CN R s args own index y host bytes maxL ret wy rm mc ms n ∧ (Cond.static y).before args s = true ∧ True) (isC isR : List Nat) (hC : isC.map (fun i => ws[i]?) = wc.map some) (hR : isR.map (fun i => ws[i]?) = wr.map some) (hnC : va_nd isC = true) (hnR : va_nd isR = true) (hdis : ∀ i ∈ isR, i ∉ isC) (hlen : As.length = n) (hroom : (st.map fun v => v.category).sum ≤ 8) (hd : decode cc pc = .ok (.invokestatic index, 3)) (hf : cells + mc ≤ R.cells ∧ slots + ms ≤ R.slots) {st0 : List Value} (hst : st0 = As.reverse ++ st)
    (k : ∀ (r : Option Value) (u : va_W), P r u → Xs p l e R s m args below meth c D cl A nL (cells + mc) (slots + ms) Q (wr ++ u) (lv) (pc + 3) (r.toList ++ st)) : Xs p l e R s m args below meth c D cl A nL cells slots Q (ws) (lv) (pc) (st0) := by
  obtain ⟨hx, hb, hml, hown, hts, hK, hA⟩ := E
  refine x_after (tys := tys) (mc := mc) (ms := ms) (a := (As).toArray) (rm := rm) hA isC isR hC hR hnR hdis (fun H locs ls hP hD hS hl => ?_) k
  have hPc := hP.sub isC (x_fm hC)
  have hDc := hD.sub isC hnC hC
  exact va_runSN (As := As) (rest := st) ⟨hx, hb, hml, hown, hts⟩ (hM H.size) cw ⟨x_blind, fun U hU hW => ⟨rfl, by rw [hU], by rw [hU]; exact hPc, va_K.moved hW.alike hK, hDc.weaken (fun _ _ _ _ => trivial)⟩⟩ rfl hlen hl.1 hst (lv_room hroom) hd hf
theorem x_gI (E : En p s m args c cc nL own Ts D cl tys A) {y : MethodName} {bytes : ByteArray} {maxL mc ms n index : Nat} {ret : Option FieldType} {wy : List Cond} {rm : Room} {wc wr : va_W} {P : Option Value → va_W → Prop} {b : Nat}  (As : List Value) (hM : Cg l D cl tys y wy rm mc ms (.ref b :: As) wc P)  (cw : CallB R s args own index y bytes maxL none wy rm mc ms n ∧ y.name = "<init>" ∧ (Cond.instanceMethod y).before args s = true) (isC isR : List Nat) (hC : isC.map (fun i => ws[i]?) = wc.map some) (hR : isR.map (fun i => ws[i]?) = wr.map some) (hnC : va_nd isC = true) (hnR : va_nd isR = true) (hdis : ∀ i ∈ isR, i ∉ isC) (hlen : As.length = n) (hroom : (st.map fun v => v.category).sum ≤ 8) (hd : decode cc pc = .ok (.invokespecial index, 3)) (hf : cells + mc ≤ R.cells ∧ slots + ms ≤ R.slots) {st0 : List Value} (hst : st0 = As.reverse ++ .ref b :: st)
    (k : ∀ (r : Option Value) (u : va_W), P r u → Xs p l e R s m args below meth c D cl A nL (cells + mc) (slots + ms) Q (wr ++ u) (lv) (pc + 3) (r.toList ++ st)) : Xs p l e R s m args below meth c D cl A nL cells slots Q (ws) (lv) (pc) (st0) := by
  obtain ⟨hx, hb, hml, hown, hts, hK, hA⟩ := E
  refine x_after (tys := tys) (mc := mc) (ms := ms) (a := (.ref b :: As).toArray) (rm := rm) hA isC isR hC hR hnR hdis (fun H locs ls hP hD hS hl => ?_) k
  have hPc := hP.sub isC (x_fm hC)
  have hDc := hD.sub isC hnC hC
  exact va_runI (As := As) (rest := st) ⟨hx, hb, hml, hown, hts⟩ (hM H.size) cw ⟨x_blind, fun U hU hW => ⟨rfl, by rw [hU], by rw [hU]; exact hPc, va_K.moved hW.alike hK, hDc.weaken (fun _ _ _ _ => trivial)⟩⟩ rfl hlen hl.1 hst (lv_room hroom) hd hf
theorem x_gIN (E : En p s m args c cc nL own Ts D cl tys A) {y : MethodName} {bytes : ByteArray} {maxL mc ms n index : Nat} {ret : Option FieldType} {wy : List Cond} {rm : Room} {wc wr : va_W} {P : Option Value → va_W → Prop} {b : Nat} {host : String} (As : List Value) (hM : Cg l D cl tys y wy rm mc ms (.ref b :: As) wc P)  (cw : va_CN R s args own index y host bytes maxL none wy rm mc ms n ∧ y.name = "<init>" ∧ (Cond.instanceMethod y).before args s = true) (isC isR : List Nat) (hC : isC.map (fun i => ws[i]?) = wc.map some) (hR : isR.map (fun i => ws[i]?) = wr.map some) (hnC : va_nd isC = true) (hnR : va_nd isR = true) (hdis : ∀ i ∈ isR, i ∉ isC) (hlen : As.length = n) (hroom : (st.map fun v => v.category).sum ≤ 8) (hd : decode cc pc = .ok (.invokespecial index, 3)) (hf : cells + mc ≤ R.cells ∧ slots + ms ≤ R.slots) {st0 : List Value} (hst : st0 = As.reverse ++ .ref b :: st)
    (k : ∀ (r : Option Value) (u : va_W), P r u → Xs p l e R s m args below meth c D cl A nL (cells + mc) (slots + ms) Q (wr ++ u) (lv) (pc + 3) (r.toList ++ st)) : Xs p l e R s m args below meth c D cl A nL cells slots Q (ws) (lv) (pc) (st0) := by
  obtain ⟨hx, hb, hml, hown, hts, hK, hA⟩ := E
  refine x_after (tys := tys) (mc := mc) (ms := ms) (a := (.ref b :: As).toArray) (rm := rm) hA isC isR hC hR hnR hdis (fun H locs ls hP hD hS hl => ?_) k
  have hPc := hP.sub isC (x_fm hC)
  have hDc := hD.sub isC hnC hC
  exact va_runIN (As := As) (rest := st) ⟨hx, hb, hml, hown, hts⟩ (hM H.size) cw ⟨x_blind, fun U hU hW => ⟨rfl, by rw [hU], by rw [hU]; exact hPc, va_K.moved hW.alike hK, hDc.weaken (fun _ _ _ _ => trivial)⟩⟩ rfl hlen hl.1 hst (lv_room hroom) hd hf
theorem x_cV (E : En p s m args c cc nL own Ts D cl tys A) {y : MethodName} {bytes : ByteArray} {maxL n index : Nat} {ret : Option FieldType} {wy : List Cond} {rm : Room} {wc : va_W} {r0 : Option Value} {w1 : va_W} {b : Nat} {C : String} {T : u_T} {N ci : Nat} {fs : List Value}  (As st st1 : List Value) (ws' : va_W) (hM : Ct l D cl tys y wy rm (.ref b :: As) wc r0 w1) (q0 : Nat) (he : wc[q0]? = some (b, .inr (ci, fs))) (hcl : cl[ci]? = some (C, T, N)) (cw : CallW R s args own C index y bytes maxL ret wy rm 0 0 n) (isC isR : List Nat) (hC : isC.map (fun i => ws[i]?) = wc.map some) (hR : isR.map (fun i => ws[i]?) = (isR.filterMap (fun i => ws[i]?)).map some) (hnC : va_nd isC = true) (hnR : va_nd isR = true) (hdis : ∀ i ∈ isR, i ∉ isC) (ord : List Nat) (hno : va_nd ord = true) (hord : ord.map (fun i => (isR.filterMap (fun i => ws[i]?) ++ w1)[i]?) = ws'.map some) (hlen : As.length = n) (hroom : (st.map fun v => v.category).sum ≤ 8) (hd : decode cc pc = .ok (.invokevirtual index, 3)) (hf : cells ≤ R.cells ∧ slots ≤ R.slots) {st0 : List Value} (hst : st0 = As.reverse ++ .ref b :: st) (hst1 : r0.toList ++ st = st1)
    (k : Xs p l e R s m args below meth c D cl A nL cells slots Q (ws') (lv) (pc + 3) (st1)) : Xs p l e R s m args below meth c D cl A nL cells slots Q (ws) (lv) (pc) (st0) :=
  x_gV E As hM q0 he hcl cw isC isR hC hR hnC hnR hdis hlen hroom hd hf hst (fun r u hru => by
    obtain ⟨rfl, rfl⟩ := hru
    subst hst1
    exact x_perm ord hno hord k)
theorem x_cS (E : En p s m args c cc nL own Ts D cl tys A) {y : MethodName} {bytes : ByteArray} {maxL n index : Nat} {ret : Option FieldType} {wy : List Cond} {rm : Room} {wc : va_W} {r0 : Option Value} {w1 : va_W}  (As st st1 : List Value) (ws' : va_W) (hM : Ct l D cl tys y wy rm (As) wc r0 w1)  (cw : CallB R s args own index y bytes maxL ret wy rm 0 0 n ∧ (Cond.static y).before args s = true) (isC isR : List Nat) (hC : isC.map (fun i => ws[i]?) = wc.map some) (hR : isR.map (fun i => ws[i]?) = (isR.filterMap (fun i => ws[i]?)).map some) (hnC : va_nd isC = true) (hnR : va_nd isR = true) (hdis : ∀ i ∈ isR, i ∉ isC) (ord : List Nat) (hno : va_nd ord = true) (hord : ord.map (fun i => (isR.filterMap (fun i => ws[i]?) ++ w1)[i]?) = ws'.map some) (hlen : As.length = n) (hroom : (st.map fun v => v.category).sum ≤ 8) (hd : decode cc pc = .ok (.invokestatic index, 3)) (hf : cells ≤ R.cells ∧ slots ≤ R.slots) {st0 : List Value} (hst : st0 = As.reverse ++ st) (hst1 : r0.toList ++ st = st1)
    (k : Xs p l e R s m args below meth c D cl A nL cells slots Q (ws') (lv) (pc + 3) (st1)) : Xs p l e R s m args below meth c D cl A nL cells slots Q (ws) (lv) (pc) (st0) :=
  x_gS E As hM cw isC isR hC hR hnC hnR hdis hlen hroom hd hf hst (fun r u hru => by
    obtain ⟨rfl, rfl⟩ := hru
    subst hst1
    exact x_perm ord hno hord k)
theorem x_cVN (E : En p s m args c cc nL own Ts D cl tys A) {y : MethodName} {bytes : ByteArray} {maxL n index : Nat} {ret : Option FieldType} {wy : List Cond} {rm : Room} {wc : va_W} {r0 : Option Value} {w1 : va_W} {b : Nat} {host : String} {C : String} {T : u_T} {N ci : Nat} {fs : List Value}  (As st st1 : List Value) (ws' : va_W) (hM : Ct l D cl tys y wy rm (.ref b :: As) wc r0 w1) (q0 : Nat) (he : wc[q0]? = some (b, .inr (ci, fs))) (hcl : cl[ci]? = some (C, T, N)) (cw : va_CN R s args own index y host bytes maxL ret wy rm 0 0 n ∧ (Cond.instanceMethod y).before args s = true ∧ (Cond.selects C y y).before args s = true) (isC isR : List Nat) (hC : isC.map (fun i => ws[i]?) = wc.map some) (hR : isR.map (fun i => ws[i]?) = (isR.filterMap (fun i => ws[i]?)).map some) (hnC : va_nd isC = true) (hnR : va_nd isR = true) (hdis : ∀ i ∈ isR, i ∉ isC) (ord : List Nat) (hno : va_nd ord = true) (hord : ord.map (fun i => (isR.filterMap (fun i => ws[i]?) ++ w1)[i]?) = ws'.map some) (hlen : As.length = n) (hroom : (st.map fun v => v.category).sum ≤ 8) (hd : decode cc pc = .ok (.invokevirtual index, 3)) (hf : cells ≤ R.cells ∧ slots ≤ R.slots) {st0 : List Value} (hst : st0 = As.reverse ++ .ref b :: st) (hst1 : r0.toList ++ st = st1)
    (k : Xs p l e R s m args below meth c D cl A nL cells slots Q (ws') (lv) (pc + 3) (st1)) : Xs p l e R s m args below meth c D cl A nL cells slots Q (ws) (lv) (pc) (st0) :=
  x_gVN E As hM q0 he hcl cw isC isR hC hR hnC hnR hdis hlen hroom hd hf hst (fun r u hru => by
    obtain ⟨rfl, rfl⟩ := hru
    subst hst1
    exact x_perm ord hno hord k)
theorem x_cSN (E : En p s m args c cc nL own Ts D cl tys A) {y : MethodName} {bytes : ByteArray} {maxL n index : Nat} {ret : Option FieldType} {wy : List Cond} {rm : Room} {wc : va_W} {r0 : Option Value} {w1 : va_W} {host : String} (As st st1 : List Value) (ws' : va_W) (hM : Ct l D cl tys y wy rm (As) wc r0 w1)  (cw : va_CN R s args own index y host bytes maxL ret wy rm 0 0 n ∧ (Cond.static y).before args s = true ∧ True) (isC isR : List Nat) (hC : isC.map (fun i => ws[i]?) = wc.map some) (hR : isR.map (fun i => ws[i]?) = (isR.filterMap (fun i => ws[i]?)).map some) (hnC : va_nd isC = true) (hnR : va_nd isR = true) (hdis : ∀ i ∈ isR, i ∉ isC) (ord : List Nat) (hno : va_nd ord = true) (hord : ord.map (fun i => (isR.filterMap (fun i => ws[i]?) ++ w1)[i]?) = ws'.map some) (hlen : As.length = n) (hroom : (st.map fun v => v.category).sum ≤ 8) (hd : decode cc pc = .ok (.invokestatic index, 3)) (hf : cells ≤ R.cells ∧ slots ≤ R.slots) {st0 : List Value} (hst : st0 = As.reverse ++ st) (hst1 : r0.toList ++ st = st1)
    (k : Xs p l e R s m args below meth c D cl A nL cells slots Q (ws') (lv) (pc + 3) (st1)) : Xs p l e R s m args below meth c D cl A nL cells slots Q (ws) (lv) (pc) (st0) :=
  x_gSN E As hM cw isC isR hC hR hnC hnR hdis hlen hroom hd hf hst (fun r u hru => by
    obtain ⟨rfl, rfl⟩ := hru
    subst hst1
    exact x_perm ord hno hord k)
end XR
