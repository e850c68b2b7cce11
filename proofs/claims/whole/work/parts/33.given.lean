theorem th_in1 : ∀ w ∈ Bundle.throwableAtoms, w ∈ lw_tbl := by decide +kernel
theorem th_in2 : ∀ w ∈ Bundle.throwableSAtoms, w ∈ lw_tbl := by decide +kernel
theorem th_in3 : ∀ w ∈ Bundle.chainSAtoms RJx00060 thX, w ∈ lw_tbl := by decide +kernel
def th_r1 : Cond := .isRef (.static "java/lang/Throwable" "UNASSIGNED_STACK" "[Ljava/lang/StackTraceElement;")
def th_r2 : Cond := .isRef (.static "java/lang/Throwable" "SUPPRESSED_SENTINEL" "Ljava/util/List;")
def th_rest : List Cond := [.methodLink RX3 102 (Bundle.initS RJx00060), .instantiable RJx00060 6, .castable RJx00060 RJx00060, .selects RJx00060 Bundle.tFill0 Bundle.tFill0, .selects RJx00060 Bundle.tFill Bundle.tFill,
   .lays RJx00060 Bundle.tN "cause" "Ljava/lang/Throwable;", .lays RJx00060 Bundle.tN "stackTrace" Bundle.steD, .lays RJx00060 Bundle.tN "suppressedExceptions" Bundle.listD, .lays RJx00060 Bundle.tN "detailMessage" "Ljava/lang/String;"]
def th_rest2 : List Cond := [.fieldLink Bundle.tN 198 Bundle.tN "backtrace" "Ljava/lang/Object;", .lays Bundle.tN Bundle.tN "backtrace" "Ljava/lang/Object;", .lays RJx00060 Bundle.tN "backtrace" "Ljava/lang/Object;"]
theorem th_in4 : ∀ w ∈ th_rest, w ∈ lw_tbl := by decide +kernel
theorem th_in5 : ∀ w ∈ th_rest2, w ∈ lw_tbl := by decide +kernel
theorem th_eq : thW = Bundle.throwableAtoms ++ Bundle.throwableSAtoms ++ Bundle.chainSAtoms RJx00060 thX ++ (th_rest ++ ([th_r1, th_r2] ++ th_rest2)) := rfl
theorem th_str : Cond.stringRef RX3 100 thT ∈ lw_tbl := by decide +kernel
theorem th_cl : Cond.classLink RL 13 RJx00060 ∈ lw_tbl := by decide +kernel
theorem th_n1 : Cond.methodLinkNest RX3 11 yX1_init RX3 ∈ lw_tbl := by decide +kernel
theorem th_n2 : Cond.methodLinkNest RX3 21 yX2_init RX3 ∈ lw_tbl := by decide +kernel
theorem law_iJ : Cond.instantiable RJx00060 6 ∈ wsL_law := by decide +kernel
theorem law_i1 : Cond.instantiable RX1 2 ∈ wsL_law := by decide +kernel
theorem law_i2 : Cond.instantiable RX2 5 ∈ wsL_law := by decide +kernel
theorem law_i3 : Cond.instantiable RX3 10 ∈ wsL_law := by decide +kernel
theorem law_i4 : Cond.instantiable RX4 23 ∈ wsL_law := by decide +kernel
theorem law_aB : Cond.arrayClass .byte ∈ wsL_law := by decide +kernel
theorem law_aI : Cond.arrayClass .int ∈ wsL_law := by decide +kernel
theorem law_aZ : Cond.arrayClass .boolean ∈ wsL_law := by decide +kernel
theorem law_aJ : Cond.arrayClass .long ∈ wsL_law := by decide +kernel
theorem law_c3 : Cond.classLink RL 8 RX3 ∈ wsL_law := by decide +kernel
theorem law_c4 : Cond.classLink RL 16 RX4 ∈ wsL_law := by decide +kernel
theorem law_n3 : Cond.initialized RX3 ∈ wsL_law := by decide +kernel
theorem law_n4 : Cond.initialized RX4 ∈ wsL_law := by decide +kernel
theorem law_l3 : Cond.methodLink RL 15 yX3_init ∈ wsL_law := by decide +kernel
theorem law_l4 : Cond.methodLink RL 18 yX4_init ∈ wsL_law := by decide +kernel
theorem law_m3 : Cond.instanceMethod yX3_init ∈ wsL_law := by decide +kernel
theorem law_m4 : Cond.instanceMethod yX4_init ∈ wsL_law := by decide +kernel
theorem law_arr {a : Array Value} {s : State} {ty : FieldType} (h : (Cond.arrayClass ty).before a s = true) : ∃ cA : ClassId, ArrOfT s cA ty ∧ s.vm.findClass ("[" ++ ty.toString) = some cA := by
  obtain ⟨cA, kA, comp, h1, h2, h3⟩ := Cond.arrayClass_spec h
  exact ⟨cA, fun n z => ⟨fun k h => (by cases h), kA, h2, comp, h3⟩, h1⟩
theorem law_K {a : Array Value} {s : State} (hts : ∀ w ∈ wsL_law, w.before a s = true) : ∃ (D : va_G) (cB cI cZ cJ : ClassId), va_K D vwCl (tyl cB cI cZ cJ) s := by
  obtain ⟨c0, i0, k0⟩ := u_known hts inlJx00060 (hts _ law_iJ)
  obtain ⟨c1, i1, k1⟩ := u_known hts inlX1 (hts _ law_i1)
  obtain ⟨c2, i2, k2⟩ := u_known hts inlX2 (hts _ law_i2)
  obtain ⟨c3, i3, k3⟩ := u_known hts inlX3 (hts _ law_i3)
  obtain ⟨c4, i4, k4⟩ := u_known hts inlX4 (hts _ law_i4)
  obtain ⟨cB, b1, b2⟩ := law_arr (hts _ law_aB)
  obtain ⟨cI, d1, d2⟩ := law_arr (hts _ law_aI)
  obtain ⟨cZ, z1, z2⟩ := law_arr (hts _ law_aZ)
  obtain ⟨cJ, j1, j2⟩ := law_arr (hts _ law_aJ)
  refine ⟨(fun k => [c0, c1, c2, c3, c4].getD k c0, fun k => [i0, i1, i2, i3, i4].getD k i0), cB, cI, cZ, cJ, fun k q hq => ?_, fun k q hq => ?_⟩
  · match k, hq with
    | 0, hq => cases hq; exact k0
    | 1, hq => cases hq; exact k1
    | 2, hq => cases hq; exact k2
    | 3, hq => cases hq; exact k3
    | 4, hq => cases hq; exact k4
    | k + 5, hq => cases hq
  · match k, hq with
    | 0, hq => cases hq; exact ⟨b1, b2⟩
    | 1, hq => cases hq; exact ⟨d1, d2⟩
    | 2, hq => cases hq; exact ⟨z1, z2⟩
    | 3, hq => cases hq; exact ⟨j1, j2⟩
    | k + 4, hq => cases hq
theorem law_JL {b : Nat} {s : State} (hts : ∀ w ∈ lw_tbl, w.before #[Value.ref b] s = true) (hgv : (Jvm.Cond.and given_1 narrow_1).before #[Value.ref b] s = true) : JL s := by
  have hs := flat_of_before _ hgv
  have h1 : th_r1.before #[Value.ref b] s = true := hs _ (by decide +kernel)
  have h2 : th_r2.before #[Value.ref b] s = true := hs _ (by decide +kernel)
  obtain ⟨c3, i3, k3⟩ := u_known hts inX3 (hts _ (wsL_law_in _ law_i3))
  obtain ⟨-, -, -, sa, -, -, -, -, -, hev⟩ := Cond.stringRef_spec k3.2.1 (hts _ th_str)
  refine ⟨⟨⟨sa, vk_R.of (hts _ th_str) hev⟩, s, #[Value.ref b], fun w hw => ?_, State.WarmedH.refl s, fun q c h => h⟩, va_tabs rfl rfl (hts _ th_cl)⟩
  rw [th_eq] at hw
  rcases List.mem_append.mp hw with hw | hw
  · rcases List.mem_append.mp hw with hw | hw
    · rcases List.mem_append.mp hw with hw | hw
      · exact hts _ (th_in1 w hw)
      · exact hts _ (th_in2 w hw)
    · exact hts _ (th_in3 w hw)
  · rcases List.mem_append.mp hw with hw | hw
    · exact hts _ (th_in4 w hw)
    · rcases List.mem_append.mp hw with hw | hw
      · rcases List.mem_cons.mp hw with rfl | hw
        · exact h1
        · rcases List.mem_cons.mp hw with rfl | hw
          · exact h2
          · cases hw
      · exact hts _ (th_in5 w hw)
