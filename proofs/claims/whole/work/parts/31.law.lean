def R_law : String := "MirrorLogLaw"
def lw_P (b : Addr) (xs : List Int32) (args : Array Value) (s : State) : Prop := args = #[.ref b] ∧ s.IntsAt b xs ∧ xs.length ≤ 2048 ∧ (Jvm.Cond.and given_1 narrow_1).before args s = true
def lw_Q (_ : Array Value) (s : State) (o : Outcome) (t : State) : Prop := o = .returned (some (.int 1)) ∧ Framed s o t [] 601024 7293034
def lw_Z (below : List Frame) (a : Array Value) (s : State) : State → Prop := fun t => ∃ o, t.status = .running ∧ Ended t below o ∧ lw_Q a s o t
/-- the law's own end, with 1 on the stack, nothing written that was there before, its room as the claim has it -/
theorem lw_ret {p : Program} {l : Launch} {e : Env} {s : State} {m : MethodId} {below : List Frame} {meth : Method} {c : Code} {b : Nat} (hx : p.tables.exec = Jvm.exec) (hb : c.code = code) (hr : meth.sig.returnType = ret) (hlocks : meth.locks = false) {pc : Nat} {H : Heap} {ls : Array Slot} (hdg : decode code pc = .ok (.ireturn, 1)) : W p l e room_1 s m #[Value.ref b] below meth c H [] 601024 7293034 (lw_Z below #[Value.ref b] s) (F0 m pc ls [.int 1]) := by
  intro T hT X
  obtain ⟨fs, hret, hrun, hended, hW, hframe⟩ := X.leave (v := some (.int 1)) (hlocks := hlocks) (fun h => by rw [hr] at h; cases h)
  have hmeth' : T.vm.method? m = some meth := X.method'
  refine ⟨T.setFrames fs, ?_, .returned (some (.int 1)), hrun, hended, rfl, ⟨_, rfl⟩, hW, hframe⟩
  jvm_step X.here [X.here.top, hx, hb, hdg, hmeth', hr, ret, narrow_b1]
  (try refine ⟨rfl, ?_⟩); (try refine ⟨rfl, ?_⟩)
  first | (intro acts; rw [hret _ acts rfl rfl rfl]) | rw [hret _ _ rfl rfl rfl]
  exact Steps.refl _
/-- what holds at the law's entry: the machine, the code, the tables' words (any of lw_tbl by 'hts w (by decide +kernel)'), the script of L ints xs at the cell b, what the Statement gives of the start (any of its parts by flat_of_before) -/
def lw_At (p : Program) (s : State) (m : MethodId) (meth : Method) (c : Code) (b L : Nat) (xs : Nat → Int32) : Prop :=
  p.tables.exec = Jvm.exec ∧ c.code = code ∧ meth.sig.returnType = ret ∧ c.maxLocals = 7 ∧ s.vm.findClass R_law = some m.cls ∧ (∀ w ∈ lw_tbl, w.before #[Value.ref b] s = true) ∧ va_X b L xs s s.heap ∧ b < s.heap.size ∧ meth.locks = false ∧ (Jvm.Cond.and given_1 narrow_1).before #[Value.ref b] s = true
theorem and15 (v : Int32) : ∃ k : Nat, k < 16 ∧ v &&& nI 15 = nI k := by
  refine ⟨(v.toBitVec &&& 15#32).toNat, ?_, ?_⟩
  · rw [BitVec.toNat_and]
    have : v.toBitVec.toNat &&& (15#32).toNat ≤ 15 := Nat.and_le_right
    omega
  · apply Int32.toBitVec_inj.mp
    show v.toBitVec &&& (Int32.ofNat 15).toBitVec = (Int32.ofNat _).toBitVec
    simp
theorem len4 {L i : Nat} (hL : L ≤ 2048) (hi : i ≤ 4000) (h : ¬ nI L - nI 4 < nI i) : i + 4 ≤ L := by
  by_cases h4 : 4 ≤ L
  · rw [pk_sub h4] at h
    have : ¬ L - 4 < i := fun q => h ((nI_ltI (a := L - 4) (b := i) (by omega) (by omega)).mpr q)
    omega
  · exfalso
    apply h
    have h0 : (0 : Int32) ≤ nI i := nI_pos' (by omega)
    have : L = 0 ∨ L = 1 ∨ L = 2 ∨ L = 3 := by omega
    rcases this with rfl | rfl | rfl | rfl <;> exact Int32.lt_of_lt_of_le (by decide) h0
section LW
variable {p : Program} {l : Launch} {e : Env} {R : Room} {s : State} {m : MethodId} {args : Array Value} {below : List Frame} {meth : Method} {c : Code} {D : va_G} {cl : List vw_C} {A : Nat → Prop} {nL cells slots : Nat} {Q : State → Prop}
variable {cc : ByteArray} {own : String} {Ts : List Cond} {tys : List (ClassId × FieldType)} {ws ws' : va_W} {lv lv' : List (Nat × Value)} {pc : Nat} {st : List Value} {b L : Nat} {xs : Nat → Int32}
theorem x_nsld (E : En p s m args c cc nL own Ts D cl tys A) {i : Nat} (hX : va_X b L xs s s.heap) (hbl : b < s.heap.size) (hbA : ¬ A b) (hd : decode cc pc = .ok (.iaload, 1)) (hi : i < L) (hL : L < 2 ^ 31)
    (k : Xs p l e R s m args below meth c D cl A nL cells slots Q (ws) (lv) (pc + 1) (.int (xs i) :: st)) : Xs p l e R s m args below meth c D cl A nL cells slots Q (ws) (lv) (pc) (.int (nI i) :: .ref b :: st) := by
  obtain ⟨hx, hb, hml, hown, hts, hK, hA⟩ := E
  intro H locs ls hP hD hS hl
  exact va_sld hx hb hX hbl hbA hS (vp_in_nI hi hL) hd (by rw [x_ncl hi hL]; exact k H locs ls hP hD hS hl)
theorem x_slen (E : En p s m args c cc nL own Ts D cl tys A) (hX : va_X b L xs s s.heap) (hbl : b < s.heap.size) (hbA : ¬ A b) (hd : decode cc pc = .ok (.arraylength, 1))
    (k : Xs p l e R s m args below meth c D cl A nL cells slots Q (ws) (lv) (pc + 1) (.int (nI L) :: st)) : Xs p l e R s m args below meth c D cl A nL cells slots Q (ws) (lv) (pc) (.ref b :: st) := by
  obtain ⟨hx, hb, hml, hown, hts, hK, hA⟩ := E
  intro H locs ls hP hD hS hl
  exact va_slen hx hb hX hbl hbA hS hd (k H locs ls hP hD hS hl)
theorem x_tabIn (E : En p s m args c cc nL own Ts D cl tys A) {dflt lo hi : Int} {offs : Array Int} {len : Nat} {x : Int32} {off : Int} (tgt : Nat) (hd : decode cc pc = .ok (.tableswitch dflt lo hi offs, len)) (h1 : ¬ x.toInt < lo) (h2 : ¬ hi < x.toInt) (ho : offs[(x.toInt - lo).toNat]? = some off) (ht : (pc : Int) + off = (tgt : Int))
    (k : Xs p l e R s m args below meth c D cl A nL cells slots Q (ws) (lv) (tgt) (st)) : Xs p l e R s m args below meth c D cl A nL cells slots Q (ws) (lv) (pc) (.int x :: st) := by
  obtain ⟨hx, hb, hml, hown, hts, hK, hA⟩ := E
  intro H locs ls hP hD hS hl
  exact lv_tableIn hx hb hd h1 h2 ho ht (k H locs ls hP hD hS hl)
theorem x_tabOut (E : En p s m args c cc nL own Ts D cl tys A) {dflt lo hi : Int} {offs : Array Int} {len : Nat} {x : Int32} (tgt : Nat) (hd : decode cc pc = .ok (.tableswitch dflt lo hi offs, len)) (h : x.toInt < lo ∨ hi < x.toInt) (ht : (pc : Int) + dflt = (tgt : Int))
    (k : Xs p l e R s m args below meth c D cl A nL cells slots Q (ws) (lv) (tgt) (st)) : Xs p l e R s m args below meth c D cl A nL cells slots Q (ws) (lv) (pc) (.int x :: st) := by
  obtain ⟨hx, hb, hml, hown, hts, hK, hA⟩ := E
  intro H locs ls hP hD hS hl
  exact lv_tableOut hx hb hd h ht (k H locs ls hP hD hS hl)
theorem x_lawret (E : En p s m #[Value.ref b] c code nL own Ts D cl tys (fun q => s.heap.size ≤ q)) (hr : meth.sig.returnType = ret) (hlocks : meth.locks = false) (hd : decode code pc = .ok (.ireturn, 1)) (h1 : cells ≤ 601024) (h2 : slots ≤ 7293034) :
    Xs p l e room_1 s m #[Value.ref b] below meth c D cl (fun q => s.heap.size ≤ q) nL cells slots (lw_Z below #[Value.ref b] s) ws lv pc [.int 1] := by
  obtain ⟨hx, hb, hml, hown, hts, hK, hA⟩ := E
  intro H locs ls hP hD hS hl
  exact va_forget (fun q hq => hS.2.2 q hq) (W.widen h1 h2 (lw_ret hx hb hr hlocks hd))
end LW
/-- the law's walk, with the two objects and the long at their cells -/
abbrev XL (p : Program) (l : Launch) (e : Env) (s : State) (m : MethodId) (below : List Frame) (meth : Method) (c : Code) (D : va_G) (cB cI cZ cJ : ClassId) (am ar : Nat → Nat) (o0 b cells slots i : Nat) (x : CS) (y : RS) (f : Nat → Int64) (pc : Nat) : Prop :=
  Xs p l e room_1 s m #[Value.ref b] below meth c D vwCl (fun q => s.heap.size ≤ q) 7 cells slots (lw_Z below #[Value.ref b] s) (WM cB cI cZ am x ++ (WR cI ar y ++ [(o0, .inl (cJ, 1, .inr (.inl f)))])) [(4, .int (nI i)), (3, .ref o0), (2, .ref (ar 0)), (1, .ref (am 0)), (0, .ref b)] pc []
section LC
variable {p : Program} {l : Launch} {e : Env} {s : State} {m : MethodId} {below : List Frame} {meth : Method} {c : Code} {D : va_G} {cB cI cZ cJ : ClassId} {am ar : Nat → Nat} {o0 b L : Nat} {xs : Nat → Int32} {i cells slots : Nat} {x : CS} {y : RS} {f : Nat → Int64}
set_option maxRecDepth 100000 in
set_option maxHeartbeats 2000000 in
theorem lw_feed (E : En p s m #[Value.ref b] c code 7 RL wsL_law D vwCl (tyl cB cI cZ cJ) (fun q => s.heap.size ≤ q)) (hX : va_X b L xs s s.heap) (hbl : b < s.heap.size) (hL : L ≤ 2048) (hi : i + 4 ≤ L) (hcc : cells ≤ 601000) (hss : slots ≤ 7290000) (h : Rel x y) (k : ∀ (x' : CS) (y' : RS), Rel x' y' → XL p l e s m below meth c D cB cI cZ cJ am ar o0 b cells slots i x' y' f 419) : XL p l e s m below meth c D cB cI cZ cJ am ar o0 b cells slots i x y f 100 := by
  obtain ⟨x', y', r, hC, hR, h'⟩ := op_feed (l := l) (D := D) (cB := cB) (cI := cI) (cZ := cZ) (cJ := cJ) (am := am) (ar := ar) (xs (i + 1)) h
  have hts := E.2.2.2.2.1
  refine x_aload_n E 3 dL_law_100 rfl ?_
  refine x_aload_n E 4 dL_law_101 rfl ?_
  refine x_iload E 0 dL_law_102 rfl ?_
  refine x_iconst E (v := nI 1) dL_law_104 (by decide) ?_
  refine x_niadd E dL_law_105 ?_
  refine x_nsld E hX hbl (Nat.not_le.mpr hbl) dL_law_106 (by omega) (by omega) ?_
  refine x_cV E [.int (xs (i + 1))] [] [.int r] (WM cB cI cZ am x' ++ (WR cI ar y ++ [(o0, .inl (cJ, 1, .inr (.inl f)))])) hC 0 rfl rfl (cwV 1 hts gL_law_X3_feed rfl rfl rfl (by decide +kernel) ⟨Nat.le_of_ble_eq_true rfl, Nat.le_of_ble_eq_true rfl⟩) [0, 1, 2, 3, 4, 5, 6, 7, 8, 9, 10] [11, 12, 13, 14, 15, 16, 17, 18, 19, 20, 21, 22, 23] rfl rfl (by decide) (by decide) (by decide) [13, 14, 15, 16, 17, 18, 19, 20, 21, 22, 23, 0, 1, 2, 3, 4, 5, 6, 7, 8, 9, 10, 11, 12] (by decide) rfl rfl (Nat.le_of_ble_eq_true rfl) dL_law_107 ⟨Nat.le_trans hcc (by decide), Nat.le_trans hss (by decide)⟩ rfl rfl ?_
  refine x_aload_n E 2 dL_law_110 rfl ?_
  refine x_aload_n E 4 dL_law_111 rfl ?_
  refine x_iload E 0 dL_law_112 rfl ?_
  refine x_iconst E (v := nI 1) dL_law_114 (by decide) ?_
  refine x_niadd E dL_law_115 ?_
  refine x_nsld E hX hbl (Nat.not_le.mpr hbl) dL_law_116 (by omega) (by omega) ?_
  refine x_cV E [.int (xs (i + 1))] [.int r] [.int r, .int r] (WM cB cI cZ am x' ++ (WR cI ar y' ++ [(o0, .inl (cJ, 1, .inr (.inl f)))])) hR 0 rfl rfl (cwV 1 hts gL_law_X4_feed rfl rfl rfl (by decide +kernel) ⟨Nat.le_of_ble_eq_true rfl, Nat.le_of_ble_eq_true rfl⟩) [11, 12, 13, 14, 15, 16, 17, 18, 19, 20, 21, 22] [0, 1, 2, 3, 4, 5, 6, 7, 8, 9, 10, 23] rfl rfl (by decide) (by decide) (by decide) [0, 1, 2, 3, 4, 5, 6, 7, 8, 9, 10, 12, 13, 14, 15, 16, 17, 18, 19, 20, 21, 22, 23, 11] (by decide) rfl rfl (Nat.le_of_ble_eq_true rfl) dL_law_117 ⟨Nat.le_trans hcc (by decide), Nat.le_trans hss (by decide)⟩ rfl rfl ?_
  exact x_icmp_eq E 419 dL_law_120 (by decide) (fun _ => k x' y' h') (fun q => absurd rfl q)
set_option maxRecDepth 100000 in
set_option maxHeartbeats 2000000 in
theorem lw_row (E : En p s m #[Value.ref b] c code 7 RL wsL_law D vwCl (tyl cB cI cZ cJ) (fun q => s.heap.size ≤ q)) (hX : va_X b L xs s s.heap) (hbl : b < s.heap.size) (hL : L ≤ 2048) (hi : i + 4 ≤ L) (hcc : cells ≤ 601000) (hss : slots ≤ 7290000) (h : Rel x y) (k : ∀ (x' : CS) (y' : RS), Rel x' y' → XL p l e s m below meth c D cB cI cZ cJ am ar o0 b cells slots i x' y' f 419) : XL p l e s m below meth c D cB cI cZ cJ am ar o0 b cells slots i x y f 125 := by
  obtain ⟨x', y', r, hC, hR, h'⟩ := op_row (l := l) (D := D) (cB := cB) (cI := cI) (cZ := cZ) (cJ := cJ) (am := am) (ar := ar) (xs (i + 1)) h
  have hts := E.2.2.2.2.1
  refine x_aload_n E 3 dL_law_125 rfl ?_
  refine x_aload_n E 4 dL_law_126 rfl ?_
  refine x_iload E 0 dL_law_127 rfl ?_
  refine x_iconst E (v := nI 1) dL_law_129 (by decide) ?_
  refine x_niadd E dL_law_130 ?_
  refine x_nsld E hX hbl (Nat.not_le.mpr hbl) dL_law_131 (by omega) (by omega) ?_
  refine x_cV E [.int (xs (i + 1))] [] [.int r] (WM cB cI cZ am x' ++ (WR cI ar y ++ [(o0, .inl (cJ, 1, .inr (.inl f)))])) hC 0 rfl rfl (cwV 1 hts gL_law_X3_row rfl rfl rfl (by decide +kernel) ⟨Nat.le_of_ble_eq_true rfl, Nat.le_of_ble_eq_true rfl⟩) [0, 1, 2, 3, 4, 5, 6, 7, 8, 9, 10] [11, 12, 13, 14, 15, 16, 17, 18, 19, 20, 21, 22, 23] rfl rfl (by decide) (by decide) (by decide) [13, 14, 15, 16, 17, 18, 19, 20, 21, 22, 23, 0, 1, 2, 3, 4, 5, 6, 7, 8, 9, 10, 11, 12] (by decide) rfl rfl (Nat.le_of_ble_eq_true rfl) dL_law_132 ⟨Nat.le_trans hcc (by decide), Nat.le_trans hss (by decide)⟩ rfl rfl ?_
  refine x_aload_n E 2 dL_law_135 rfl ?_
  refine x_aload_n E 4 dL_law_136 rfl ?_
  refine x_iload E 0 dL_law_137 rfl ?_
  refine x_iconst E (v := nI 1) dL_law_139 (by decide) ?_
  refine x_niadd E dL_law_140 ?_
  refine x_nsld E hX hbl (Nat.not_le.mpr hbl) dL_law_141 (by omega) (by omega) ?_
  refine x_cV E [.int (xs (i + 1))] [.int r] [.int r, .int r] (WM cB cI cZ am x' ++ (WR cI ar y' ++ [(o0, .inl (cJ, 1, .inr (.inl f)))])) hR 0 rfl rfl (cwV 1 hts gL_law_X4_row rfl rfl rfl (by decide +kernel) ⟨Nat.le_of_ble_eq_true rfl, Nat.le_of_ble_eq_true rfl⟩) [11, 12, 13, 14, 15, 16, 17, 18, 19, 20, 21, 22] [0, 1, 2, 3, 4, 5, 6, 7, 8, 9, 10, 23] rfl rfl (by decide) (by decide) (by decide) [0, 1, 2, 3, 4, 5, 6, 7, 8, 9, 10, 12, 13, 14, 15, 16, 17, 18, 19, 20, 21, 22, 23, 11] (by decide) rfl rfl (Nat.le_of_ble_eq_true rfl) dL_law_142 ⟨Nat.le_trans hcc (by decide), Nat.le_trans hss (by decide)⟩ rfl rfl ?_
  exact x_icmp_eq E 419 dL_law_145 (by decide) (fun _ => k x' y' h') (fun q => absurd rfl q)
set_option maxRecDepth 100000 in
set_option maxHeartbeats 2000000 in
theorem lw_endGroup (E : En p s m #[Value.ref b] c code 7 RL wsL_law D vwCl (tyl cB cI cZ cJ) (fun q => s.heap.size ≤ q)) (hX : va_X b L xs s s.heap) (hbl : b < s.heap.size) (hL : L ≤ 2048) (hi : i + 4 ≤ L) (hcc : cells ≤ 601000) (hss : slots ≤ 7290000) (h : Rel x y) (k : ∀ (x' : CS) (y' : RS), Rel x' y' → XL p l e s m below meth c D cB cI cZ cJ am ar o0 b cells slots i x' y' f 419) : XL p l e s m below meth c D cB cI cZ cJ am ar o0 b cells slots i x y f 150 := by
  obtain ⟨x', y', r, hC, hR, h'⟩ := op_endGroup (l := l) (D := D) (cB := cB) (cI := cI) (cZ := cZ) (cJ := cJ) (am := am) (ar := ar)  h
  have hts := E.2.2.2.2.1
  refine x_aload_n E 3 dL_law_150 rfl ?_
  refine x_cV E [] [] [.int r] (WM cB cI cZ am x' ++ (WR cI ar y ++ [(o0, .inl (cJ, 1, .inr (.inl f)))])) hC 0 rfl rfl (cwV 0 hts gL_law_X3_endGroup rfl rfl rfl (by decide +kernel) ⟨Nat.le_of_ble_eq_true rfl, Nat.le_of_ble_eq_true rfl⟩) [0, 1, 2, 3, 4, 5, 6, 7, 8, 9, 10] [11, 12, 13, 14, 15, 16, 17, 18, 19, 20, 21, 22, 23] rfl rfl (by decide) (by decide) (by decide) [13, 14, 15, 16, 17, 18, 19, 20, 21, 22, 23, 0, 1, 2, 3, 4, 5, 6, 7, 8, 9, 10, 11, 12] (by decide) rfl rfl (Nat.le_of_ble_eq_true rfl) dL_law_151 ⟨Nat.le_trans hcc (by decide), Nat.le_trans hss (by decide)⟩ rfl rfl ?_
  refine x_aload_n E 2 dL_law_154 rfl ?_
  refine x_cV E [] [.int r] [.int r, .int r] (WM cB cI cZ am x' ++ (WR cI ar y' ++ [(o0, .inl (cJ, 1, .inr (.inl f)))])) hR 0 rfl rfl (cwV 0 hts gL_law_X4_endGroup rfl rfl rfl (by decide +kernel) ⟨Nat.le_of_ble_eq_true rfl, Nat.le_of_ble_eq_true rfl⟩) [11, 12, 13, 14, 15, 16, 17, 18, 19, 20, 21, 22] [0, 1, 2, 3, 4, 5, 6, 7, 8, 9, 10, 23] rfl rfl (by decide) (by decide) (by decide) [0, 1, 2, 3, 4, 5, 6, 7, 8, 9, 10, 12, 13, 14, 15, 16, 17, 18, 19, 20, 21, 22, 23, 11] (by decide) rfl rfl (Nat.le_of_ble_eq_true rfl) dL_law_155 ⟨Nat.le_trans hcc (by decide), Nat.le_trans hss (by decide)⟩ rfl rfl ?_
  exact x_icmp_eq E 419 dL_law_158 (by decide) (fun _ => k x' y' h') (fun q => absurd rfl q)
set_option maxRecDepth 100000 in
set_option maxHeartbeats 2000000 in
theorem lw_crash (E : En p s m #[Value.ref b] c code 7 RL wsL_law D vwCl (tyl cB cI cZ cJ) (fun q => s.heap.size ≤ q)) (hX : va_X b L xs s s.heap) (hbl : b < s.heap.size) (hL : L ≤ 2048) (hi : i + 4 ≤ L) (hcc : cells ≤ 601000) (hss : slots ≤ 7290000) (h : Rel x y) (k : ∀ (x' : CS) (y' : RS), Rel x' y' → XL p l e s m below meth c D cB cI cZ cJ am ar o0 b cells slots i x' y' f 419) : XL p l e s m below meth c D cB cI cZ cJ am ar o0 b cells slots i x y f 163 := by
  obtain ⟨x', y', r, hC, hR, h'⟩ := op_crash (l := l) (D := D) (cB := cB) (cI := cI) (cZ := cZ) (cJ := cJ) (am := am) (ar := ar) (xs (i + 1)) (xs (i + 2)) h
  have hts := E.2.2.2.2.1
  refine x_aload_n E 3 dL_law_163 rfl ?_
  refine x_aload_n E 4 dL_law_164 rfl ?_
  refine x_iload E 0 dL_law_165 rfl ?_
  refine x_iconst E (v := nI 1) dL_law_167 (by decide) ?_
  refine x_niadd E dL_law_168 ?_
  refine x_nsld E hX hbl (Nat.not_le.mpr hbl) dL_law_169 (by omega) (by omega) ?_
  refine x_aload_n E 4 dL_law_170 rfl ?_
  refine x_iload E 0 dL_law_171 rfl ?_
  refine x_iconst E (v := nI 2) dL_law_173 (by decide) ?_
  refine x_niadd E dL_law_174 ?_
  refine x_nsld E hX hbl (Nat.not_le.mpr hbl) dL_law_175 (by omega) (by omega) ?_
  refine x_cV E [.int (xs (i + 1)), .int (xs (i + 2))] [] [.int r] (WM cB cI cZ am x' ++ (WR cI ar y ++ [(o0, .inl (cJ, 1, .inr (.inl f)))])) hC 0 rfl rfl (cwV 2 hts gL_law_X3_crash rfl rfl rfl (by decide +kernel) ⟨Nat.le_of_ble_eq_true rfl, Nat.le_of_ble_eq_true rfl⟩) [0, 1, 2, 3, 4, 5, 6, 7, 8, 9, 10] [11, 12, 13, 14, 15, 16, 17, 18, 19, 20, 21, 22, 23] rfl rfl (by decide) (by decide) (by decide) [13, 14, 15, 16, 17, 18, 19, 20, 21, 22, 23, 0, 1, 2, 3, 4, 5, 6, 7, 8, 9, 10, 11, 12] (by decide) rfl rfl (Nat.le_of_ble_eq_true rfl) dL_law_176 ⟨Nat.le_trans hcc (by decide), Nat.le_trans hss (by decide)⟩ rfl rfl ?_
  refine x_aload_n E 2 dL_law_179 rfl ?_
  refine x_aload_n E 4 dL_law_180 rfl ?_
  refine x_iload E 0 dL_law_181 rfl ?_
  refine x_iconst E (v := nI 1) dL_law_183 (by decide) ?_
  refine x_niadd E dL_law_184 ?_
  refine x_nsld E hX hbl (Nat.not_le.mpr hbl) dL_law_185 (by omega) (by omega) ?_
  refine x_aload_n E 4 dL_law_186 rfl ?_
  refine x_iload E 0 dL_law_187 rfl ?_
  refine x_iconst E (v := nI 2) dL_law_189 (by decide) ?_
  refine x_niadd E dL_law_190 ?_
  refine x_nsld E hX hbl (Nat.not_le.mpr hbl) dL_law_191 (by omega) (by omega) ?_
  refine x_cV E [.int (xs (i + 1)), .int (xs (i + 2))] [.int r] [.int r, .int r] (WM cB cI cZ am x' ++ (WR cI ar y' ++ [(o0, .inl (cJ, 1, .inr (.inl f)))])) hR 0 rfl rfl (cwV 2 hts gL_law_X4_crash rfl rfl rfl (by decide +kernel) ⟨Nat.le_of_ble_eq_true rfl, Nat.le_of_ble_eq_true rfl⟩) [11, 12, 13, 14, 15, 16, 17, 18, 19, 20, 21, 22] [0, 1, 2, 3, 4, 5, 6, 7, 8, 9, 10, 23] rfl rfl (by decide) (by decide) (by decide) [0, 1, 2, 3, 4, 5, 6, 7, 8, 9, 10, 12, 13, 14, 15, 16, 17, 18, 19, 20, 21, 22, 23, 11] (by decide) rfl rfl (Nat.le_of_ble_eq_true rfl) dL_law_192 ⟨Nat.le_trans hcc (by decide), Nat.le_trans hss (by decide)⟩ rfl rfl ?_
  exact x_icmp_eq E 419 dL_law_195 (by decide) (fun _ => k x' y' h') (fun q => absurd rfl q)
set_option maxRecDepth 100000 in
set_option maxHeartbeats 2000000 in
theorem lw_reopen (E : En p s m #[Value.ref b] c code 7 RL wsL_law D vwCl (tyl cB cI cZ cJ) (fun q => s.heap.size ≤ q)) (hX : va_X b L xs s s.heap) (hbl : b < s.heap.size) (hL : L ≤ 2048) (hi : i + 4 ≤ L) (hcc : cells ≤ 601000) (hss : slots ≤ 7290000) (h : Rel x y) (k : ∀ (x' : CS) (y' : RS), Rel x' y' → XL p l e s m below meth c D cB cI cZ cJ am ar o0 b cells slots i x' y' f 419) : XL p l e s m below meth c D cB cI cZ cJ am ar o0 b cells slots i x y f 200 := by
  obtain ⟨x', y', r, hC, hR, h'⟩ := op_reopen (l := l) (D := D) (cB := cB) (cI := cI) (cZ := cZ) (cJ := cJ) (am := am) (ar := ar)  h
  have hts := E.2.2.2.2.1
  refine x_aload_n E 3 dL_law_200 rfl ?_
  refine x_cV E [] [] [.int r] (WM cB cI cZ am x' ++ (WR cI ar y ++ [(o0, .inl (cJ, 1, .inr (.inl f)))])) hC 0 rfl rfl (cwV 0 hts gL_law_X3_reopen rfl rfl rfl (by decide +kernel) ⟨Nat.le_of_ble_eq_true rfl, Nat.le_of_ble_eq_true rfl⟩) [0, 1, 2, 3, 4, 5, 6, 7, 8, 9, 10] [11, 12, 13, 14, 15, 16, 17, 18, 19, 20, 21, 22, 23] rfl rfl (by decide) (by decide) (by decide) [13, 14, 15, 16, 17, 18, 19, 20, 21, 22, 23, 0, 1, 2, 3, 4, 5, 6, 7, 8, 9, 10, 11, 12] (by decide) rfl rfl (Nat.le_of_ble_eq_true rfl) dL_law_201 ⟨Nat.le_trans hcc (by decide), Nat.le_trans hss (by decide)⟩ rfl rfl ?_
  refine x_aload_n E 2 dL_law_204 rfl ?_
  refine x_cV E [] [.int r] [.int r, .int r] (WM cB cI cZ am x' ++ (WR cI ar y' ++ [(o0, .inl (cJ, 1, .inr (.inl f)))])) hR 0 rfl rfl (cwV 0 hts gL_law_X4_reopen rfl rfl rfl (by decide +kernel) ⟨Nat.le_of_ble_eq_true rfl, Nat.le_of_ble_eq_true rfl⟩) [11, 12, 13, 14, 15, 16, 17, 18, 19, 20, 21, 22] [0, 1, 2, 3, 4, 5, 6, 7, 8, 9, 10, 23] rfl rfl (by decide) (by decide) (by decide) [0, 1, 2, 3, 4, 5, 6, 7, 8, 9, 10, 12, 13, 14, 15, 16, 17, 18, 19, 20, 21, 22, 23, 11] (by decide) rfl rfl (Nat.le_of_ble_eq_true rfl) dL_law_205 ⟨Nat.le_trans hcc (by decide), Nat.le_trans hss (by decide)⟩ rfl rfl ?_
  exact x_icmp_eq E 419 dL_law_208 (by decide) (fun _ => k x' y' h') (fun q => absurd rfl q)
set_option maxRecDepth 100000 in
set_option maxHeartbeats 2000000 in
theorem lw_poke (E : En p s m #[Value.ref b] c code 7 RL wsL_law D vwCl (tyl cB cI cZ cJ) (fun q => s.heap.size ≤ q)) (hX : va_X b L xs s s.heap) (hbl : b < s.heap.size) (hL : L ≤ 2048) (hi : i + 4 ≤ L) (hcc : cells ≤ 601000) (hss : slots ≤ 7290000) (h : Rel x y) (k : ∀ (x' : CS) (y' : RS), Rel x' y' → XL p l e s m below meth c D cB cI cZ cJ am ar o0 b cells slots i x' y' f 419) : XL p l e s m below meth c D cB cI cZ cJ am ar o0 b cells slots i x y f 281 := by
  obtain ⟨x', y', r, hC, hR, h'⟩ := op_poke (l := l) (D := D) (cB := cB) (cI := cI) (cZ := cZ) (cJ := cJ) (am := am) (ar := ar) (xs (i + 1)) (xs (i + 2)) (xs (i + 3)) h
  have hts := E.2.2.2.2.1
  refine x_aload_n E 3 dL_law_281 rfl ?_
  refine x_aload_n E 4 dL_law_282 rfl ?_
  refine x_iload E 0 dL_law_283 rfl ?_
  refine x_iconst E (v := nI 1) dL_law_285 (by decide) ?_
  refine x_niadd E dL_law_286 ?_
  refine x_nsld E hX hbl (Nat.not_le.mpr hbl) dL_law_287 (by omega) (by omega) ?_
  refine x_aload_n E 4 dL_law_288 rfl ?_
  refine x_iload E 0 dL_law_289 rfl ?_
  refine x_iconst E (v := nI 2) dL_law_291 (by decide) ?_
  refine x_niadd E dL_law_292 ?_
  refine x_nsld E hX hbl (Nat.not_le.mpr hbl) dL_law_293 (by omega) (by omega) ?_
  refine x_aload_n E 4 dL_law_294 rfl ?_
  refine x_iload E 0 dL_law_295 rfl ?_
  refine x_iconst E (v := nI 3) dL_law_297 (by decide) ?_
  refine x_niadd E dL_law_298 ?_
  refine x_nsld E hX hbl (Nat.not_le.mpr hbl) dL_law_299 (by omega) (by omega) ?_
  refine x_cV E [.int (xs (i + 1)), .int (xs (i + 2)), .int (xs (i + 3))] [] [.int r] (WM cB cI cZ am x' ++ (WR cI ar y ++ [(o0, .inl (cJ, 1, .inr (.inl f)))])) hC 0 rfl rfl (cwV 3 hts gL_law_X3_poke rfl rfl rfl (by decide +kernel) ⟨Nat.le_of_ble_eq_true rfl, Nat.le_of_ble_eq_true rfl⟩) [0, 1, 2, 3, 4, 5, 6, 7, 8, 9, 10] [11, 12, 13, 14, 15, 16, 17, 18, 19, 20, 21, 22, 23] rfl rfl (by decide) (by decide) (by decide) [13, 14, 15, 16, 17, 18, 19, 20, 21, 22, 23, 0, 1, 2, 3, 4, 5, 6, 7, 8, 9, 10, 11, 12] (by decide) rfl rfl (Nat.le_of_ble_eq_true rfl) dL_law_300 ⟨Nat.le_trans hcc (by decide), Nat.le_trans hss (by decide)⟩ rfl rfl ?_
  refine x_aload_n E 2 dL_law_303 rfl ?_
  refine x_aload_n E 4 dL_law_304 rfl ?_
  refine x_iload E 0 dL_law_305 rfl ?_
  refine x_iconst E (v := nI 1) dL_law_307 (by decide) ?_
  refine x_niadd E dL_law_308 ?_
  refine x_nsld E hX hbl (Nat.not_le.mpr hbl) dL_law_309 (by omega) (by omega) ?_
  refine x_aload_n E 4 dL_law_310 rfl ?_
  refine x_iload E 0 dL_law_311 rfl ?_
  refine x_iconst E (v := nI 2) dL_law_313 (by decide) ?_
  refine x_niadd E dL_law_314 ?_
  refine x_nsld E hX hbl (Nat.not_le.mpr hbl) dL_law_315 (by omega) (by omega) ?_
  refine x_aload_n E 4 dL_law_316 rfl ?_
  refine x_iload E 0 dL_law_317 rfl ?_
  refine x_iconst E (v := nI 3) dL_law_319 (by decide) ?_
  refine x_niadd E dL_law_320 ?_
  refine x_nsld E hX hbl (Nat.not_le.mpr hbl) dL_law_321 (by omega) (by omega) ?_
  refine x_cV E [.int (xs (i + 1)), .int (xs (i + 2)), .int (xs (i + 3))] [.int r] [.int r, .int r] (WM cB cI cZ am x' ++ (WR cI ar y' ++ [(o0, .inl (cJ, 1, .inr (.inl f)))])) hR 0 rfl rfl (cwV 3 hts gL_law_X4_poke rfl rfl rfl (by decide +kernel) ⟨Nat.le_of_ble_eq_true rfl, Nat.le_of_ble_eq_true rfl⟩) [11, 12, 13, 14, 15, 16, 17, 18, 19, 20, 21, 22] [0, 1, 2, 3, 4, 5, 6, 7, 8, 9, 10, 23] rfl rfl (by decide) (by decide) (by decide) [0, 1, 2, 3, 4, 5, 6, 7, 8, 9, 10, 12, 13, 14, 15, 16, 17, 18, 19, 20, 21, 22, 23, 11] (by decide) rfl rfl (Nat.le_of_ble_eq_true rfl) dL_law_322 ⟨Nat.le_trans hcc (by decide), Nat.le_trans hss (by decide)⟩ rfl rfl ?_
  exact x_icmp_eq E 419 dL_law_325 (by decide) (fun _ => k x' y' h') (fun q => absurd rfl q)
set_option maxRecDepth 100000 in
set_option maxHeartbeats 2000000 in
theorem lw_repaired (E : En p s m #[Value.ref b] c code 7 RL wsL_law D vwCl (tyl cB cI cZ cJ) (fun q => s.heap.size ≤ q)) (hX : va_X b L xs s s.heap) (hbl : b < s.heap.size) (hL : L ≤ 2048) (hi : i + 4 ≤ L) (hcc : cells ≤ 601000) (hss : slots ≤ 7290000) (h : Rel x y) (k : ∀ (x' : CS) (y' : RS), Rel x' y' → XL p l e s m below meth c D cB cI cZ cJ am ar o0 b cells slots i x' y' f 419) : XL p l e s m below meth c D cB cI cZ cJ am ar o0 b cells slots i x y f 330 := by
  obtain ⟨x', y', r, hC, hR, h'⟩ := op_repaired (l := l) (D := D) (cB := cB) (cI := cI) (cZ := cZ) (cJ := cJ) (am := am) (ar := ar)  h
  have hts := E.2.2.2.2.1
  refine x_aload_n E 3 dL_law_330 rfl ?_
  refine x_cV E [] [] [.int r] (WM cB cI cZ am x' ++ (WR cI ar y ++ [(o0, .inl (cJ, 1, .inr (.inl f)))])) hC 0 rfl rfl (cwV 0 hts gL_law_X3_repaired rfl rfl rfl (by decide +kernel) ⟨Nat.le_of_ble_eq_true rfl, Nat.le_of_ble_eq_true rfl⟩) [0, 1, 2, 3, 4, 5, 6, 7, 8, 9, 10] [11, 12, 13, 14, 15, 16, 17, 18, 19, 20, 21, 22, 23] rfl rfl (by decide) (by decide) (by decide) [13, 14, 15, 16, 17, 18, 19, 20, 21, 22, 23, 0, 1, 2, 3, 4, 5, 6, 7, 8, 9, 10, 11, 12] (by decide) rfl rfl (Nat.le_of_ble_eq_true rfl) dL_law_331 ⟨Nat.le_trans hcc (by decide), Nat.le_trans hss (by decide)⟩ rfl rfl ?_
  refine x_aload_n E 2 dL_law_334 rfl ?_
  refine x_cV E [] [.int r] [.int r, .int r] (WM cB cI cZ am x' ++ (WR cI ar y' ++ [(o0, .inl (cJ, 1, .inr (.inl f)))])) hR 0 rfl rfl (cwV 0 hts gL_law_X4_repaired rfl rfl rfl (by decide +kernel) ⟨Nat.le_of_ble_eq_true rfl, Nat.le_of_ble_eq_true rfl⟩) [11, 12, 13, 14, 15, 16, 17, 18, 19, 20, 21, 22] [0, 1, 2, 3, 4, 5, 6, 7, 8, 9, 10, 23] rfl rfl (by decide) (by decide) (by decide) [0, 1, 2, 3, 4, 5, 6, 7, 8, 9, 10, 12, 13, 14, 15, 16, 17, 18, 19, 20, 21, 22, 23, 11] (by decide) rfl rfl (Nat.le_of_ble_eq_true rfl) dL_law_335 ⟨Nat.le_trans hcc (by decide), Nat.le_trans hss (by decide)⟩ rfl rfl ?_
  exact x_icmp_eq E 419 dL_law_338 (by decide) (fun _ => k x' y' h') (fun q => absurd rfl q)
set_option maxRecDepth 100000 in
set_option maxHeartbeats 2000000 in
theorem lw_badAt (E : En p s m #[Value.ref b] c code 7 RL wsL_law D vwCl (tyl cB cI cZ cJ) (fun q => s.heap.size ≤ q)) (hX : va_X b L xs s s.heap) (hbl : b < s.heap.size) (hL : L ≤ 2048) (hi : i + 4 ≤ L) (hcc : cells ≤ 601000) (hss : slots ≤ 7290000) (h : Rel x y) (k : ∀ (x' : CS) (y' : RS), Rel x' y' → XL p l e s m below meth c D cB cI cZ cJ am ar o0 b cells slots i x' y' f 419) : XL p l e s m below meth c D cB cI cZ cJ am ar o0 b cells slots i x y f 343 := by
  obtain ⟨x', y', r, hC, hR, h'⟩ := op_badAt (l := l) (D := D) (cB := cB) (cI := cI) (cZ := cZ) (cJ := cJ) (am := am) (ar := ar)  h
  have hts := E.2.2.2.2.1
  refine x_aload_n E 3 dL_law_343 rfl ?_
  refine x_cV E [] [] [.int r] (WM cB cI cZ am x' ++ (WR cI ar y ++ [(o0, .inl (cJ, 1, .inr (.inl f)))])) hC 0 rfl rfl (cwV 0 hts gL_law_X3_badAt rfl rfl rfl (by decide +kernel) ⟨Nat.le_of_ble_eq_true rfl, Nat.le_of_ble_eq_true rfl⟩) [0, 1, 2, 3, 4, 5, 6, 7, 8, 9, 10] [11, 12, 13, 14, 15, 16, 17, 18, 19, 20, 21, 22, 23] rfl rfl (by decide) (by decide) (by decide) [13, 14, 15, 16, 17, 18, 19, 20, 21, 22, 23, 0, 1, 2, 3, 4, 5, 6, 7, 8, 9, 10, 11, 12] (by decide) rfl rfl (Nat.le_of_ble_eq_true rfl) dL_law_344 ⟨Nat.le_trans hcc (by decide), Nat.le_trans hss (by decide)⟩ rfl rfl ?_
  refine x_aload_n E 2 dL_law_347 rfl ?_
  refine x_cV E [] [.int r] [.int r, .int r] (WM cB cI cZ am x' ++ (WR cI ar y' ++ [(o0, .inl (cJ, 1, .inr (.inl f)))])) hR 0 rfl rfl (cwV 0 hts gL_law_X4_badAt rfl rfl rfl (by decide +kernel) ⟨Nat.le_of_ble_eq_true rfl, Nat.le_of_ble_eq_true rfl⟩) [11, 12, 13, 14, 15, 16, 17, 18, 19, 20, 21, 22] [0, 1, 2, 3, 4, 5, 6, 7, 8, 9, 10, 23] rfl rfl (by decide) (by decide) (by decide) [0, 1, 2, 3, 4, 5, 6, 7, 8, 9, 10, 12, 13, 14, 15, 16, 17, 18, 19, 20, 21, 22, 23, 11] (by decide) rfl rfl (Nat.le_of_ble_eq_true rfl) dL_law_348 ⟨Nat.le_trans hcc (by decide), Nat.le_trans hss (by decide)⟩ rfl rfl ?_
  exact x_icmp_eq E 419 dL_law_351 (by decide) (fun _ => k x' y' h') (fun q => absurd rfl q)
set_option maxRecDepth 100000 in
set_option maxHeartbeats 2000000 in
theorem lw_move (E : En p s m #[Value.ref b] c code 7 RL wsL_law D vwCl (tyl cB cI cZ cJ) (fun q => s.heap.size ≤ q)) (hX : va_X b L xs s s.heap) (hbl : b < s.heap.size) (hL : L ≤ 2048) (hi : i + 4 ≤ L) (hcc : cells ≤ 601000) (hss : slots ≤ 7290000) (h : Rel x y) (k : ∀ (x' : CS) (y' : RS), Rel x' y' → XL p l e s m below meth c D cB cI cZ cJ am ar o0 b cells slots i x' y' f 419) : XL p l e s m below meth c D cB cI cZ cJ am ar o0 b cells slots i x y f 356 := by
  obtain ⟨x', y', r, hC, hR, h'⟩ := op_move (l := l) (D := D) (cB := cB) (cI := cI) (cZ := cZ) (cJ := cJ) (am := am) (ar := ar) (xs (i + 1)) h
  have hts := E.2.2.2.2.1
  refine x_aload_n E 3 dL_law_356 rfl ?_
  refine x_aload_n E 4 dL_law_357 rfl ?_
  refine x_iload E 0 dL_law_358 rfl ?_
  refine x_iconst E (v := nI 1) dL_law_360 (by decide) ?_
  refine x_niadd E dL_law_361 ?_
  refine x_nsld E hX hbl (Nat.not_le.mpr hbl) dL_law_362 (by omega) (by omega) ?_
  refine x_cV E [.int (xs (i + 1))] [] [.int r] (WM cB cI cZ am x' ++ (WR cI ar y ++ [(o0, .inl (cJ, 1, .inr (.inl f)))])) hC 0 rfl rfl (cwV 1 hts gL_law_X3_move rfl rfl rfl (by decide +kernel) ⟨Nat.le_of_ble_eq_true rfl, Nat.le_of_ble_eq_true rfl⟩) [0, 1, 2, 3, 4, 5, 6, 7, 8, 9, 10] [11, 12, 13, 14, 15, 16, 17, 18, 19, 20, 21, 22, 23] rfl rfl (by decide) (by decide) (by decide) [13, 14, 15, 16, 17, 18, 19, 20, 21, 22, 23, 0, 1, 2, 3, 4, 5, 6, 7, 8, 9, 10, 11, 12] (by decide) rfl rfl (Nat.le_of_ble_eq_true rfl) dL_law_363 ⟨Nat.le_trans hcc (by decide), Nat.le_trans hss (by decide)⟩ rfl rfl ?_
  refine x_aload_n E 2 dL_law_366 rfl ?_
  refine x_aload_n E 4 dL_law_367 rfl ?_
  refine x_iload E 0 dL_law_368 rfl ?_
  refine x_iconst E (v := nI 1) dL_law_370 (by decide) ?_
  refine x_niadd E dL_law_371 ?_
  refine x_nsld E hX hbl (Nat.not_le.mpr hbl) dL_law_372 (by omega) (by omega) ?_
  refine x_cV E [.int (xs (i + 1))] [.int r] [.int r, .int r] (WM cB cI cZ am x' ++ (WR cI ar y' ++ [(o0, .inl (cJ, 1, .inr (.inl f)))])) hR 0 rfl rfl (cwV 1 hts gL_law_X4_move rfl rfl rfl (by decide +kernel) ⟨Nat.le_of_ble_eq_true rfl, Nat.le_of_ble_eq_true rfl⟩) [11, 12, 13, 14, 15, 16, 17, 18, 19, 20, 21, 22] [0, 1, 2, 3, 4, 5, 6, 7, 8, 9, 10, 23] rfl rfl (by decide) (by decide) (by decide) [0, 1, 2, 3, 4, 5, 6, 7, 8, 9, 10, 12, 13, 14, 15, 16, 17, 18, 19, 20, 21, 22, 23, 11] (by decide) rfl rfl (Nat.le_of_ble_eq_true rfl) dL_law_373 ⟨Nat.le_trans hcc (by decide), Nat.le_trans hss (by decide)⟩ rfl rfl ?_
  exact x_icmp_eq E 419 dL_law_376 (by decide) (fun _ => k x' y' h') (fun q => absurd rfl q)
set_option maxRecDepth 100000 in
set_option maxHeartbeats 2000000 in
theorem lw_rows (E : En p s m #[Value.ref b] c code 7 RL wsL_law D vwCl (tyl cB cI cZ cJ) (fun q => s.heap.size ≤ q)) (hX : va_X b L xs s s.heap) (hbl : b < s.heap.size) (hL : L ≤ 2048) (hi : i + 4 ≤ L) (hcc : cells ≤ 601000) (hss : slots ≤ 7290000) (h : Rel x y) (k : ∀ (x' : CS) (y' : RS), Rel x' y' → XL p l e s m below meth c D cB cI cZ cJ am ar o0 b cells slots i x' y' f 419) : XL p l e s m below meth c D cB cI cZ cJ am ar o0 b cells slots i x y f 381 := by
  obtain ⟨x', y', r, hC, hR, h'⟩ := op_rows (l := l) (D := D) (cB := cB) (cI := cI) (cZ := cZ) (cJ := cJ) (am := am) (ar := ar) (xs (i + 1)) h
  have hts := E.2.2.2.2.1
  refine x_aload_n E 3 dL_law_381 rfl ?_
  refine x_aload_n E 4 dL_law_382 rfl ?_
  refine x_iload E 0 dL_law_383 rfl ?_
  refine x_iconst E (v := nI 1) dL_law_385 (by decide) ?_
  refine x_niadd E dL_law_386 ?_
  refine x_nsld E hX hbl (Nat.not_le.mpr hbl) dL_law_387 (by omega) (by omega) ?_
  refine x_cV E [.int (xs (i + 1))] [] [.int r] (WM cB cI cZ am x' ++ (WR cI ar y ++ [(o0, .inl (cJ, 1, .inr (.inl f)))])) hC 0 rfl rfl (cwV 1 hts gL_law_X3_rows rfl rfl rfl (by decide +kernel) ⟨Nat.le_of_ble_eq_true rfl, Nat.le_of_ble_eq_true rfl⟩) [0, 1, 2, 3, 4, 5, 6, 7, 8, 9, 10] [11, 12, 13, 14, 15, 16, 17, 18, 19, 20, 21, 22, 23] rfl rfl (by decide) (by decide) (by decide) [13, 14, 15, 16, 17, 18, 19, 20, 21, 22, 23, 0, 1, 2, 3, 4, 5, 6, 7, 8, 9, 10, 11, 12] (by decide) rfl rfl (Nat.le_of_ble_eq_true rfl) dL_law_388 ⟨Nat.le_trans hcc (by decide), Nat.le_trans hss (by decide)⟩ rfl rfl ?_
  refine x_aload_n E 2 dL_law_391 rfl ?_
  refine x_aload_n E 4 dL_law_392 rfl ?_
  refine x_iload E 0 dL_law_393 rfl ?_
  refine x_iconst E (v := nI 1) dL_law_395 (by decide) ?_
  refine x_niadd E dL_law_396 ?_
  refine x_nsld E hX hbl (Nat.not_le.mpr hbl) dL_law_397 (by omega) (by omega) ?_
  refine x_cV E [.int (xs (i + 1))] [.int r] [.int r, .int r] (WM cB cI cZ am x' ++ (WR cI ar y' ++ [(o0, .inl (cJ, 1, .inr (.inl f)))])) hR 0 rfl rfl (cwV 1 hts gL_law_X4_rows rfl rfl rfl (by decide +kernel) ⟨Nat.le_of_ble_eq_true rfl, Nat.le_of_ble_eq_true rfl⟩) [11, 12, 13, 14, 15, 16, 17, 18, 19, 20, 21, 22] [0, 1, 2, 3, 4, 5, 6, 7, 8, 9, 10, 23] rfl rfl (by decide) (by decide) (by decide) [0, 1, 2, 3, 4, 5, 6, 7, 8, 9, 10, 12, 13, 14, 15, 16, 17, 18, 19, 20, 21, 22, 23, 11] (by decide) rfl rfl (Nat.le_of_ble_eq_true rfl) dL_law_398 ⟨Nat.le_trans hcc (by decide), Nat.le_trans hss (by decide)⟩ rfl rfl ?_
  exact x_icmp_eq E 419 dL_law_401 (by decide) (fun _ => k x' y' h') (fun q => absurd rfl q)
set_option maxRecDepth 100000 in
set_option maxHeartbeats 2000000 in
theorem lw_same (E : En p s m #[Value.ref b] c code 7 RL wsL_law D vwCl (tyl cB cI cZ cJ) (fun q => s.heap.size ≤ q)) (hX : va_X b L xs s s.heap) (hbl : b < s.heap.size) (hL : L ≤ 2048) (hi : i + 4 ≤ L) (hcc : cells ≤ 601000) (hss : slots ≤ 7290000) (h : Rel x y) (k : ∀ (x' : CS) (y' : RS), Rel x' y' → XL p l e s m below meth c D cB cI cZ cJ am ar o0 b cells slots i x' y' f 419) : XL p l e s m below meth c D cB cI cZ cJ am ar o0 b cells slots i x y f 406 := by
  obtain ⟨x', y', r, hC, hR, h'⟩ := op_same (l := l) (D := D) (cB := cB) (cI := cI) (cZ := cZ) (cJ := cJ) (am := am) (ar := ar)  h
  have hts := E.2.2.2.2.1
  refine x_aload_n E 3 dL_law_406 rfl ?_
  refine x_cV E [] [] [.int r] (WM cB cI cZ am x' ++ (WR cI ar y ++ [(o0, .inl (cJ, 1, .inr (.inl f)))])) hC 0 rfl rfl (cwV 0 hts gL_law_X3_same rfl rfl rfl (by decide +kernel) ⟨Nat.le_of_ble_eq_true rfl, Nat.le_of_ble_eq_true rfl⟩) [0, 1, 2, 3, 4, 5, 6, 7, 8, 9, 10] [11, 12, 13, 14, 15, 16, 17, 18, 19, 20, 21, 22, 23] rfl rfl (by decide) (by decide) (by decide) [13, 14, 15, 16, 17, 18, 19, 20, 21, 22, 23, 0, 1, 2, 3, 4, 5, 6, 7, 8, 9, 10, 11, 12] (by decide) rfl rfl (Nat.le_of_ble_eq_true rfl) dL_law_407 ⟨Nat.le_trans hcc (by decide), Nat.le_trans hss (by decide)⟩ rfl rfl ?_
  refine x_aload_n E 2 dL_law_410 rfl ?_
  refine x_cV E [] [.int r] [.int r, .int r] (WM cB cI cZ am x' ++ (WR cI ar y' ++ [(o0, .inl (cJ, 1, .inr (.inl f)))])) hR 0 rfl rfl (cwV 0 hts gL_law_X4_same rfl rfl rfl (by decide +kernel) ⟨Nat.le_of_ble_eq_true rfl, Nat.le_of_ble_eq_true rfl⟩) [11, 12, 13, 14, 15, 16, 17, 18, 19, 20, 21, 22] [0, 1, 2, 3, 4, 5, 6, 7, 8, 9, 10, 23] rfl rfl (by decide) (by decide) (by decide) [0, 1, 2, 3, 4, 5, 6, 7, 8, 9, 10, 12, 13, 14, 15, 16, 17, 18, 19, 20, 21, 22, 23, 11] (by decide) rfl rfl (Nat.le_of_ble_eq_true rfl) dL_law_411 ⟨Nat.le_trans hcc (by decide), Nat.le_trans hss (by decide)⟩ rfl rfl ?_
  exact x_icmp_eq E 419 dL_law_414 (by decide) (fun _ => k x' y' h') (fun q => absurd rfl q)
set_option maxRecDepth 100000 in
set_option maxHeartbeats 2000000 in
theorem lw_byteAt (htr : l.stackTraces = false) (hJL : JL s) (E : En p s m #[Value.ref b] c code 7 RL wsL_law D vwCl (tyl cB cI cZ cJ) (fun q => s.heap.size ≤ q)) (hX : va_X b L xs s s.heap) (hbl : b < s.heap.size) (hL : L ≤ 2048) (hi : i + 4 ≤ L) (hcc : cells ≤ 601000) (hss : slots ≤ 7290000) (h : Rel x y) (k : ∀ (x' : CS) (y' : RS) (f' : Nat → Int64), Rel x' y' → XL p l e s m below meth c D cB cI cZ cJ am ar o0 b (cells + 1) (slots + 6) i x' y' f' 419) : XL p l e s m below meth c D cB cI cZ cJ am ar o0 b cells slots i x y f 213 := by
  obtain ⟨kk, f', y1, y2, r, hC, hR, hT, hk01, hkf, h'⟩ := op_byteAt (l := l) (D := D) (cB := cB) (cI := cI) (cZ := cZ) (cJ := cJ) (am := am) (ar := ar) htr o0 f (xs (i + 1)) (xs (i + 2)) h
  have hts := E.2.2.2.2.1
  refine x_aload_n E 3 dL_law_213 rfl ?_
  refine x_aload_n E 4 dL_law_214 rfl ?_
  refine x_iload E 0 dL_law_215 rfl ?_
  refine x_iconst E (v := nI 1) dL_law_217 (by decide) ?_
  refine x_niadd E dL_law_218 ?_
  refine x_nsld E hX hbl (Nat.not_le.mpr hbl) dL_law_219 (by omega) (by omega) ?_
  refine x_aload_n E 4 dL_law_220 rfl ?_
  refine x_iload E 0 dL_law_221 rfl ?_
  refine x_iconst E (v := nI 2) dL_law_223 (by decide) ?_
  refine x_niadd E dL_law_224 ?_
  refine x_nsld E hX hbl (Nat.not_le.mpr hbl) dL_law_225 (by omega) (by omega) ?_
  refine x_aload_n E 1 dL_law_226 rfl ?_
  refine x_gSW E (n := 4) (wr := WR cI ar y) (st := []) [.ref (am 0), .int (xs (i + 1)), .int (xs (i + 2)), .ref o0] hC (fun a U g mk q => JL_same (u := U) rfl rfl q) (fun H locs U hS hU hW => JL_warm hW (fun q d hd => by
      rw [hU, hS.2.1 q (Array.getElem?_eq_some_iff.mp hd).1 (Nat.not_le.mpr (Array.getElem?_eq_some_iff.mp hd).1)]
      exact hd) hJL) rfl gL_law_L_byteAt rfl rfl (by decide +kernel) ⟨Nat.le_of_ble_eq_true rfl, Nat.le_of_ble_eq_true rfl⟩ [0, 1, 2, 3, 4, 5, 6, 7, 8, 9, 10, 23] [11, 12, 13, 14, 15, 16, 17, 18, 19, 20, 21, 22] rfl rfl (by decide) (by decide) (by decide) rfl (Nat.le_of_ble_eq_true rfl) dL_law_227 ⟨Nat.le_trans (Nat.add_le_add_right hcc _) (by decide), Nat.le_trans (Nat.add_le_add_right hss _) (by decide)⟩ rfl (fun r0 u0 hru => ?_)
  obtain ⟨rfl, rfl⟩ := hru
  refine x_perm [12, 13, 14, 15, 16, 17, 18, 19, 20, 21, 22, 0, 1, 2, 3, 4, 5, 6, 7, 8, 9, 10, 11, 23] (by decide) (ws' := (WM cB cI cZ am x ++ (WR cI ar y ++ [(o0, .inl (cJ, 1, .inr (.inl f')))]))) rfl ?_
  refine x_istore E [(5, .int (nI kk)), (4, .int (nI i)), (3, .ref o0), (2, .ref (ar 0)), (1, .ref (am 0)), (0, .ref b)] dL_law_230 (by decide) rfl ?_
  refine x_aload_n E 3 dL_law_232 rfl ?_
  refine x_aload_n E 5 dL_law_233 rfl ?_
  refine x_iload E 1 dL_law_234 rfl ?_
  refine x_iconst E (v := nI 1) dL_law_236 (by decide) ?_
  refine x_niadd E dL_law_237 ?_
  refine x_nsld E hX hbl (Nat.not_le.mpr hbl) dL_law_238 (by omega) (by omega) ?_
  refine x_aload_n E 5 dL_law_239 rfl ?_
  refine x_iload E 1 dL_law_240 rfl ?_
  refine x_iconst E (v := nI 2) dL_law_242 (by decide) ?_
  refine x_niadd E dL_law_243 ?_
  refine x_nsld E hX hbl (Nat.not_le.mpr hbl) dL_law_244 (by omega) (by omega) ?_
  refine x_cV E [.int (xs (i + 1)), .int (xs (i + 2))] [] [.int r] (WM cB cI cZ am x ++ (WR cI ar y1 ++ [(o0, .inl (cJ, 1, .inr (.inl f')))])) hR 0 rfl rfl (cwV 2 hts gL_law_X4_byteAt rfl rfl rfl (by decide +kernel) ⟨Nat.le_of_ble_eq_true rfl, Nat.le_of_ble_eq_true rfl⟩) [11, 12, 13, 14, 15, 16, 17, 18, 19, 20, 21, 22] [0, 1, 2, 3, 4, 5, 6, 7, 8, 9, 10, 23] rfl rfl (by decide) (by decide) (by decide) [0, 1, 2, 3, 4, 5, 6, 7, 8, 9, 10, 12, 13, 14, 15, 16, 17, 18, 19, 20, 21, 22, 23, 11] (by decide) rfl rfl (Nat.le_of_ble_eq_true rfl) dL_law_245 ⟨Nat.le_trans (Nat.add_le_add_right hcc _) (by decide), Nat.le_trans (Nat.add_le_add_right hss _) (by decide)⟩ rfl rfl ?_
  refine x_istore E [(6, .int r), (5, .int (nI kk)), (4, .int (nI i)), (3, .ref o0), (2, .ref (ar 0)), (1, .ref (am 0)), (0, .ref b)] dL_law_248 (by decide) rfl ?_
  refine x_aload_n E 4 dL_law_250 rfl ?_
  refine x_cV E [] [] [.int (nI kk)] (WM cB cI cZ am x ++ (WR cI ar y2 ++ [(o0, .inl (cJ, 1, .inr (.inl f')))])) hT 0 rfl rfl (cwV 0 hts gL_law_X4_thrown rfl rfl rfl (by decide +kernel) ⟨Nat.le_of_ble_eq_true rfl, Nat.le_of_ble_eq_true rfl⟩) [11, 12, 13, 14, 15, 16, 17, 18, 19, 20, 21, 22] [0, 1, 2, 3, 4, 5, 6, 7, 8, 9, 10, 23] rfl rfl (by decide) (by decide) (by decide) [0, 1, 2, 3, 4, 5, 6, 7, 8, 9, 10, 12, 13, 14, 15, 16, 17, 18, 19, 20, 21, 22, 23, 11] (by decide) rfl rfl (Nat.le_of_ble_eq_true rfl) dL_law_251 ⟨Nat.le_trans (Nat.add_le_add_right hcc _) (by decide), Nat.le_trans (Nat.add_le_add_right hss _) (by decide)⟩ rfl rfl ?_
  refine x_iload E 1 dL_law_254 rfl ?_
  refine x_icmp_eq E 261 dL_law_256 (by decide) (fun _ => ?_) (fun q => absurd rfl q)
  refine x_iload E 1 dL_law_261 rfl ?_
  rcases hk01 with rfl | rfl
  · refine x_if_ne E 278 dL_law_263 (by decide) (fun q => absurd rfl q) (fun _ => ?_)
    refine x_aload_n E 3 dL_law_266 rfl ?_
    refine x_iconst E (v := nI 0) dL_law_267 (by decide) ?_
    refine x_lald E 23 3 dL_law_268 rfl rfl (by decide) (by decide) ?_
    refine x_iload E 0 dL_law_269 rfl ?_
    refine x_i2l E dL_law_271 ?_
    refine x_lcmp E dL_law_272 ?_
    refine x_if_eq E 278 dL_law_273 (by decide) (fun _ => ?_) (fun q => absurd (by rw [hkf rfl]; simp [lg_cmp]) q)
    refine x_goto E 419 dL_law_278 (by decide) ?_
    refine x_lv [2, 3, 4, 5, 6] rfl ?_
    exact k x y2 f' h'
  · refine x_if_ne E 278 dL_law_263 (by decide) (fun _ => ?_) (fun q => absurd q (by decide))
    refine x_goto E 419 dL_law_278 (by decide) ?_
    refine x_lv [2, 3, 4, 5, 6] rfl ?_
    exact k x y2 f' h'
end LC
