abbrev rmX4_badAt : Room := { frames := 0, cells := 0, slots := 0, locals := 0 }
abbrev rmX4_crash : Room := { frames := 1, cells := 0, slots := 0, locals := 20 }
abbrev rmX4_feed : Room := { frames := 0, cells := 0, slots := 0, locals := 0 }
abbrev rmX4_forget : Room := { frames := 0, cells := 0, slots := 0, locals := 0 }
abbrev rmX4_four : Room := { frames := 2, cells := 0, slots := 0, locals := 44 }
abbrev rmX4_lastSecond : Room := { frames := 0, cells := 0, slots := 0, locals := 0 }
abbrev rmX4_poke : Room := { frames := 0, cells := 0, slots := 0, locals := 0 }
abbrev rmX4_repaired : Room := { frames := 0, cells := 0, slots := 0, locals := 0 }
abbrev rmX4_row : Room := { frames := 1, cells := 0, slots := 0, locals := 20 }
abbrev rmX4_summed : Room := { frames := 0, cells := 0, slots := 0, locals := 0 }
abbrev rmX4_thrown : Room := { frames := 0, cells := 0, slots := 0, locals := 0 }
abbrev rmX4_write : Room := { frames := 1, cells := 0, slots := 0, locals := 22 }
theorem fl_X4_thrown_48 : Cond.fieldLink RX4 48 "MirrorLogModel" "thrown" "I" ∈ wsX4_thrown := by decide +kernel
theorem ui_X4_thrown_X4 : ∀ w ∈ wsX40, w ∈ wsX4_thrown := by decide +kernel
theorem cn_X4_summed_51 : Jvm.Cond.constant RX4 51 (668265263) ∈ wsX4_summed := by decide +kernel
theorem fl_X4_repaired_48 : Cond.fieldLink RX4 48 "MirrorLogModel" "thrown" "I" ∈ wsX4_repaired := by decide +kernel
theorem ui_X4_repaired_X4 : ∀ w ∈ wsX40, w ∈ wsX4_repaired := by decide +kernel
theorem fl_X4_repaired_111 : Cond.fieldLink RX4 111 "MirrorLogModel" "repaired" "I" ∈ wsX4_repaired := by decide +kernel
theorem fl_X4_badAt_48 : Cond.fieldLink RX4 48 "MirrorLogModel" "thrown" "I" ∈ wsX4_badAt := by decide +kernel
theorem ui_X4_badAt_X4 : ∀ w ∈ wsX40, w ∈ wsX4_badAt := by decide +kernel
theorem fl_X4_badAt_44 : Cond.fieldLink RX4 44 "MirrorLogModel" "badAt" "I" ∈ wsX4_badAt := by decide +kernel
theorem fl_X4_feed_48 : Cond.fieldLink RX4 48 "MirrorLogModel" "thrown" "I" ∈ wsX4_feed := by decide +kernel
theorem ui_X4_feed_X4 : ∀ w ∈ wsX40, w ∈ wsX4_feed := by decide +kernel
theorem fl_X4_feed_52 : Cond.fieldLink RX4 52 "MirrorLogModel" "shut" "Z" ∈ wsX4_feed := by decide +kernel
theorem fl_X4_feed_56 : Cond.fieldLink RX4 56 "MirrorLogModel" "feeding" "I" ∈ wsX4_feed := by decide +kernel
theorem fl_X4_feed_41 : Cond.fieldLink RX4 41 "MirrorLogModel" "fed" "[I" ∈ wsX4_feed := by decide +kernel
theorem fl_X4_lastSecond_59 : Cond.fieldLink RX4 59 "MirrorLogModel" "newRows" "I" ∈ wsX4_lastSecond := by decide +kernel
theorem ui_X4_lastSecond_X4 : ∀ w ∈ wsX40, w ∈ wsX4_lastSecond := by decide +kernel
theorem fl_X4_lastSecond_62 : Cond.fieldLink RX4 62 "MirrorLogModel" "known" "I" ∈ wsX4_lastSecond := by decide +kernel
theorem fl_X4_lastSecond_16 : Cond.fieldLink RX4 16 "MirrorLogModel" "seconds" "[I" ∈ wsX4_lastSecond := by decide +kernel
theorem fl_X4_lastSecond_32 : Cond.fieldLink RX4 32 "MirrorLogModel" "newSeconds" "[I" ∈ wsX4_lastSecond := by decide +kernel
theorem fl_X4_row_48 : Cond.fieldLink RX4 48 "MirrorLogModel" "thrown" "I" ∈ wsX4_row := by decide +kernel
theorem ui_X4_row_X4 : ∀ w ∈ wsX40, w ∈ wsX4_row := by decide +kernel
theorem fl_X4_row_52 : Cond.fieldLink RX4 52 "MirrorLogModel" "shut" "Z" ∈ wsX4_row := by decide +kernel
theorem fl_X4_row_56 : Cond.fieldLink RX4 56 "MirrorLogModel" "feeding" "I" ∈ wsX4_row := by decide +kernel
theorem cn_X4_row_65 : Jvm.Cond.constant RX4 65 (1000000000) ∈ wsX4_row := by decide +kernel
theorem fl_X4_row_59 : Cond.fieldLink RX4 59 "MirrorLogModel" "newRows" "I" ∈ wsX4_row := by decide +kernel
theorem fl_X4_row_62 : Cond.fieldLink RX4 62 "MirrorLogModel" "known" "I" ∈ wsX4_row := by decide +kernel
theorem fl_X4_row_38 : Cond.fieldLink RX4 38 "MirrorLogModel" "newContents" "[I" ∈ wsX4_row := by decide +kernel
theorem fl_X4_row_41 : Cond.fieldLink RX4 41 "MirrorLogModel" "fed" "[I" ∈ wsX4_row := by decide +kernel
theorem fl_X4_row_32 : Cond.fieldLink RX4 32 "MirrorLogModel" "newSeconds" "[I" ∈ wsX4_row := by decide +kernel
theorem fl_X4_row_35 : Cond.fieldLink RX4 35 "MirrorLogModel" "newLengths" "[I" ∈ wsX4_row := by decide +kernel
theorem fl_X4_write_9 : Cond.fieldLink RX4 9 "MirrorLogModel" "bytes" "[I" ∈ wsX4_write := by decide +kernel
theorem ui_X4_write_X4 : ∀ w ∈ wsX40, w ∈ wsX4_write := by decide +kernel
theorem fl_X4_write_70 : Cond.fieldLink RX4 70 "MirrorLogModel" "at" "I" ∈ wsX4_write := by decide +kernel
theorem fl_X4_forget_56 : Cond.fieldLink RX4 56 "MirrorLogModel" "feeding" "I" ∈ wsX4_forget := by decide +kernel
theorem ui_X4_forget_X4 : ∀ w ∈ wsX40, w ∈ wsX4_forget := by decide +kernel
theorem fl_X4_forget_59 : Cond.fieldLink RX4 59 "MirrorLogModel" "newRows" "I" ∈ wsX4_forget := by decide +kernel
theorem fl_X4_forget_87 : Cond.fieldLink RX4 87 "MirrorLogModel" "moved" "I" ∈ wsX4_forget := by decide +kernel
theorem fl_X4_forget_62 : Cond.fieldLink RX4 62 "MirrorLogModel" "known" "I" ∈ wsX4_forget := by decide +kernel
theorem fl_X4_forget_84 : Cond.fieldLink RX4 84 "MirrorLogModel" "groups" "I" ∈ wsX4_forget := by decide +kernel
theorem fl_X4_crash_48 : Cond.fieldLink RX4 48 "MirrorLogModel" "thrown" "I" ∈ wsX4_crash := by decide +kernel
theorem ui_X4_crash_X4 : ∀ w ∈ wsX40, w ∈ wsX4_crash := by decide +kernel
theorem fl_X4_crash_13 : Cond.fieldLink RX4 13 "MirrorLogModel" "sizes" "[I" ∈ wsX4_crash := by decide +kernel
theorem fl_X4_crash_52 : Cond.fieldLink RX4 52 "MirrorLogModel" "shut" "Z" ∈ wsX4_crash := by decide +kernel
theorem fl_X4_poke_48 : Cond.fieldLink RX4 48 "MirrorLogModel" "thrown" "I" ∈ wsX4_poke := by decide +kernel
theorem ui_X4_poke_X4 : ∀ w ∈ wsX40, w ∈ wsX4_poke := by decide +kernel
theorem fl_X4_poke_13 : Cond.fieldLink RX4 13 "MirrorLogModel" "sizes" "[I" ∈ wsX4_poke := by decide +kernel
theorem fl_X4_poke_9 : Cond.fieldLink RX4 9 "MirrorLogModel" "bytes" "[I" ∈ wsX4_poke := by decide +kernel
/-! THE REFERENCE: both files stand in one row of ints -/
/-- file f's bytes -/
def fl (B : Nat → UInt8) (f : Nat) : Nat → UInt8 := fun j => B (f * 8192 + j)
/-- bytes laid into both files -/
def app2 (B : Nat → UInt8) : Nat → List UInt8 → Nat → UInt8
  | _, [] => B
  | p, b :: r => app2 (va_up (va_up B p b) (8192 + p) b) (p + 1) r
theorem app2_s (B : Nat → UInt8) (p : Nat) (b : UInt8) (r : List UInt8) : app2 B p (b :: r) = app2 (va_up (va_up B p b) (8192 + p) b) (p + 1) r := rfl
theorem app2_app (l1 l2 : List UInt8) : ∀ (B : Nat → UInt8) (p : Nat), app2 B p (l1 ++ l2) = app2 (app2 B p l1) (p + l1.length) l2 := by
  induction l1 with
  | nil => intro g p; rfl
  | cons b r ih =>
    intro g p
    rw [List.cons_append, app2_s, app2_s, ih, List.length_cons]
    congr 1
    omega
/-- the second of the last row, of the group or known -/
def lastR (nr kn : Nat) (nS S : Nat → Nat) : Nat := if 0 < nr then nS (nr - 1) else if 0 < kn then S (kn - 1) else 0
/-- whether both files have the same bytes, k from p on -/
def arS (B : Nat → UInt8) (z : Nat → Nat) : Nat → Nat → Bool
  | _, 0 => true
  | p, k + 1 => if p < z 0 ∧ p < z 1 ∧ B p = B (8192 + p) then arS B z (p + 1) k else false
theorem arS_s (B : Nat → UInt8) (z : Nat → Nat) (p k : Nat) : arS B z p (k + 1) = if p < z 0 ∧ p < z 1 ∧ B p = B (8192 + p) then arS B z (p + 1) k else false := rfl
theorem u8_tn (x : Int32) : (u8 x).toNat = x.toBitVec.toNat % 256 := by
  show (x.toBitVec.signExtend 8).toNat = _
  rw [BitVec.signExtend_eq_setWidth_of_le _ (by omega), BitVec.toNat_setWidth]
theorem u8_255 (x : Int32) : x &&& nI 255 = nI (u8 x).toNat := by
  rw [u8_tn, pk_and x (m := nI 255) 8 (by decide)]
theorem u8_nI {a : Nat} (h : a < 256) : (u8 (nI a)).toNat = a := by
  rw [u8_tn, pk_tn (by omega)]
  omega
theorem u8_v {a : Nat} (h : a < 256) : nI a = nI (u8 (nI a)).toNat := by rw [u8_nI h]
theorem byt_0 (v : Int32) : byt v 0 = u8 v := by
  apply UInt8.toNat_inj.mp
  unfold byt
  rw [u8_tn, u8_tn, pk_ushr v (nI (8 * 0)) 0 (by decide)]
  simp
theorem byt_1 {a : Nat} (h : a < 65536) : ((nI a).toUInt32 >>> ((nI 8).toUInt32 &&& Int32.toUInt32 31)).toInt32 = nI (byt (nI a) 1).toNat := by
  have e : ((nI a).toUInt32 >>> ((nI 8).toUInt32 &&& Int32.toUInt32 31)).toInt32 = nI (a / 2 ^ 8) := pk_ushrN (by omega) (nI 8) 8 (by decide)
  have e2 : byt (nI a) 1 = u8 (nI (a / 2 ^ 8)) := by
    unfold byt
    rw [show nI (8 * 1) = nI 8 from rfl, e]
  rw [e2, u8_nI (by omega), e]
theorem sm_x (s b : Int32) (v : UInt8) (h : b = nI v.toNat) : ((s ^^^ b) <<< (nI 13 &&& 31) ||| ((s ^^^ b).toUInt32 >>> ((nI 19).toUInt32 &&& Int32.toUInt32 31)).toInt32) * nI 668265263 = sm s v := by
  subst h
  rw [sm_e]
  unfold rol
  rw [show (-nI 13).toUInt32 &&& Int32.toUInt32 31 = (nI 19).toUInt32 &&& Int32.toUInt32 31 by decide]
theorem f01 {x : Int32} (h1 : ¬ x < 0) (h2 : ¬ nI 1 < x) : x = 0 ∨ x = 1 := by
  obtain ⟨j, hj, rfl⟩ := nI_of h1
  have h3 : ¬ 1 < j := fun q => h2 ((nI_ltI (by omega) hj).mpr q)
  rcases (show j = 0 ∨ j = 1 by omega) with q | q
  · subst q; exact Or.inl rfl
  · subst q; exact Or.inr rfl
theorem xor_u (u : UInt8) {z : Nat} (h : z ≤ 255) : nI u.toNat ^^^ nI z = nI (u8 (bf (fun _ => u) 0 ^^^ nI z)).toNat := by
  have h1 : ∀ a : Fin 256, ∀ b : Fin 256, nI (UInt8.ofNat a.val).toNat ^^^ nI b.val = nI (u8 (bf (fun _ => UInt8.ofNat a.val) 0 ^^^ nI b.val)).toNat := by decide +kernel
  have h2 := h1 ⟨u.toNat, u.toNat_lt⟩ ⟨z, by omega⟩
  simpa using h2
set_option maxRecDepth 100000 in
set_option maxHeartbeats 4000000 in
theorem c_X4_thrown (l : Launch) (D : va_G) (cB cI cZ cJ : ClassId) (r0 : Nat) (d0 : Nat) (d1 : Nat) (d2 : Nat) (d3 : Nat) (d4 : Nat) (d5 : Nat) (d6 : Nat) (d7 : Nat) (d8 : Nat) (d9 : Nat) (d10 : Nat) (kn : Nat) (mv : Nat) (ng : Nat) (nr : Nat) (fc : Nat) (sh : Bool) (rp : Nat) (bad : Int32) (th : Nat) (sr : Nat) (sb : Nat) (at9 : Nat) (B : Nat → UInt8) (z : Nat → Nat) (S : Nat → Nat) (Ln : Nat → Nat) (K : Nat → UInt8) (gr : Nat → Nat) (gb : Nat → Nat) (nS : Nat → Nat) (nL : Nat → Nat) (nK : Nat → UInt8) (F : Nat → UInt8)  : Ct l D vwCl (tyl cB cI cZ cJ) yX4_thrown wsX4_thrown rmX4_thrown [.ref r0] [(r0, .inr (4, [.ref d0, .ref d1, .ref d2, .ref d3, .ref d4, .int (nI kn), .int (nI mv), .ref d5, .ref d6, .int (nI ng), .ref d7, .ref d8, .ref d9, .int (nI nr), .ref d10, .int (nI fc), .int (if sh = true then 1 else 0), .int (nI rp), .int bad, .int (nI th), .int (nI sr), .int (nI sb), .int (nI at9)])), (d0, .inl (cI, 16384, .inl (uf B))), (d1, .inl (cI, 2, .inl (nf z))), (d2, .inl (cI, 600, .inl (nf S))), (d3, .inl (cI, 600, .inl (nf Ln))), (d4, .inl (cI, 38400, .inl (uf K))), (d5, .inl (cI, 600, .inl (nf gr))), (d6, .inl (cI, 600, .inl (nf gb))), (d7, .inl (cI, 16, .inl (nf nS))), (d8, .inl (cI, 16, .inl (nf nL))), (d9, .inl (cI, 1024, .inl (uf nK))), (d10, .inl (cI, 64, .inl (uf F)))] (some (.int (nI th))) [(r0, .inr (4, [.ref d0, .ref d1, .ref d2, .ref d3, .ref d4, .int (nI kn), .int (nI mv), .ref d5, .ref d6, .int (nI ng), .ref d7, .ref d8, .ref d9, .int (nI nr), .ref d10, .int (nI fc), .int (if sh = true then 1 else 0), .int (nI rp), .int bad, .int (nI th), .int (nI sr), .int (nI sb), .int (nI at9)])), (d0, .inl (cI, 16384, .inl (uf B))), (d1, .inl (cI, 2, .inl (nf z))), (d2, .inl (cI, 600, .inl (nf S))), (d3, .inl (cI, 600, .inl (nf Ln))), (d4, .inl (cI, 38400, .inl (uf K))), (d5, .inl (cI, 600, .inl (nf gr))), (d6, .inl (cI, 600, .inl (nf gb))), (d7, .inl (cI, 16, .inl (nf nS))), (d8, .inl (cI, 16, .inl (nf nL))), (d9, .inl (cI, 1024, .inl (uf nK))), (d10, .inl (cI, 64, .inl (uf F)))] := by
  refine x_start (cc := cX4_thrown) (maxL := 1) (ret := (some .int)) (by decide) rfl (Nat.le_of_ble_eq_true rfl) ?_
  intro xp xe xs xm xb xt xc xA E hr hlocks hnm
  obtain ⟨-, -, -, hown, hts, hK, hA⟩ := id E
  refine x_lve (lv' := [(0, .ref r0)]) rfl ?_
  refine x_aload_n E 0 dX4_thrown_0 rfl ?_
  refine x_get E 0 19 dX4_thrown_1 ui_X4_thrown_X4 rfl rfl (by decide) fl_X4_thrown_48 rfl rfl ?_
  exact x_iret E hr hlocks dX4_thrown_4 ⟨rfl, rfl⟩
set_option maxRecDepth 100000 in
set_option maxHeartbeats 4000000 in
theorem c_X4_summed (l : Launch) (D : va_G) (cB cI cZ cJ : ClassId) (s : Int32) (b : Int32)  : Ct l D vwCl (tyl cB cI cZ cJ) yX4_summed wsX4_summed rmX4_summed [.int s, .int b] [] (some (.int (((s ^^^ b) <<< (nI 13 &&& 31) ||| ((s ^^^ b).toUInt32 >>> ((nI 19).toUInt32 &&& Int32.toUInt32 31)).toInt32) * nI 668265263))) [] := by
  refine x_start (cc := cX4_summed) (maxL := 3) (ret := (some .int)) (by decide) rfl (Nat.le_of_ble_eq_true rfl) ?_
  intro xp xe xs xm xb xt xc xA E hr hlocks hnm
  obtain ⟨-, -, -, hown, hts, hK, hA⟩ := id E
  refine x_lve (lv' := [(0, .int s), (1, .int b)]) rfl ?_
  refine x_iload_n E 0 dX4_summed_0 rfl ?_
  refine x_iload_n E 1 dX4_summed_1 rfl ?_
  refine x_ixor E dX4_summed_2 ?_
  refine x_istore_n E [(2, .int (s ^^^ b)), (0, .int s), (1, .int b)] dX4_summed_3 (by decide) rfl ?_
  refine x_iload_n E 0 dX4_summed_4 rfl ?_
  refine x_bipush E (v := nI 13) dX4_summed_5 (by decide) ?_
  refine x_ishl E dX4_summed_7 ?_
  refine x_iload_n E 0 dX4_summed_8 rfl ?_
  refine x_bipush E (v := nI 19) dX4_summed_9 (by decide) ?_
  refine x_iushr E dX4_summed_11 rfl ?_
  refine x_ior E dX4_summed_12 ?_
  refine x_ldc E (v := nI 668265263) dX4_summed_13 cn_X4_summed_51 (by decide +kernel) ?_
  refine x_imul E dX4_summed_15 ?_
  exact x_iret E hr hlocks dX4_summed_16 ⟨rfl, rfl⟩
set_option maxRecDepth 100000 in
set_option maxHeartbeats 4000000 in
theorem c_X4_summed_u (l : Launch) (D : va_G) (cB cI cZ cJ : ClassId) (s : Int32) (b : Int32) (v : UInt8) (hv : b = nI v.toNat) : Ct l D vwCl (tyl cB cI cZ cJ) yX4_summed wsX4_summed rmX4_summed [.int s, .int b] [] (some (.int (sm s v))) [] := by
  rw [← sm_x s b v hv]
  exact c_X4_summed l D cB cI cZ cJ s b
set_option maxRecDepth 100000 in
set_option maxHeartbeats 4000000 in
theorem c_X4_repaired (l : Launch) (D : va_G) (cB cI cZ cJ : ClassId) (r0 : Nat) (d0 : Nat) (d1 : Nat) (d2 : Nat) (d3 : Nat) (d4 : Nat) (d5 : Nat) (d6 : Nat) (d7 : Nat) (d8 : Nat) (d9 : Nat) (d10 : Nat) (kn : Nat) (mv : Nat) (ng : Nat) (nr : Nat) (fc : Nat) (sh : Bool) (rp : Nat) (bad : Int32) (th : Nat) (sr : Nat) (sb : Nat) (at9 : Nat) (B : Nat → UInt8) (z : Nat → Nat) (S : Nat → Nat) (Ln : Nat → Nat) (K : Nat → UInt8) (gr : Nat → Nat) (gb : Nat → Nat) (nS : Nat → Nat) (nL : Nat → Nat) (nK : Nat → UInt8) (F : Nat → UInt8)  : Ct l D vwCl (tyl cB cI cZ cJ) yX4_repaired wsX4_repaired rmX4_repaired [.ref r0] [(r0, .inr (4, [.ref d0, .ref d1, .ref d2, .ref d3, .ref d4, .int (nI kn), .int (nI mv), .ref d5, .ref d6, .int (nI ng), .ref d7, .ref d8, .ref d9, .int (nI nr), .ref d10, .int (nI fc), .int (if sh = true then 1 else 0), .int (nI rp), .int bad, .int (nI th), .int (nI sr), .int (nI sb), .int (nI at9)])), (d0, .inl (cI, 16384, .inl (uf B))), (d1, .inl (cI, 2, .inl (nf z))), (d2, .inl (cI, 600, .inl (nf S))), (d3, .inl (cI, 600, .inl (nf Ln))), (d4, .inl (cI, 38400, .inl (uf K))), (d5, .inl (cI, 600, .inl (nf gr))), (d6, .inl (cI, 600, .inl (nf gb))), (d7, .inl (cI, 16, .inl (nf nS))), (d8, .inl (cI, 16, .inl (nf nL))), (d9, .inl (cI, 1024, .inl (uf nK))), (d10, .inl (cI, 64, .inl (uf F)))] (some (.int (nI rp))) [(r0, .inr (4, [.ref d0, .ref d1, .ref d2, .ref d3, .ref d4, .int (nI kn), .int (nI mv), .ref d5, .ref d6, .int (nI ng), .ref d7, .ref d8, .ref d9, .int (nI nr), .ref d10, .int (nI fc), .int (if sh = true then 1 else 0), .int (nI rp), .int bad, .int (nI 0), .int (nI sr), .int (nI sb), .int (nI at9)])), (d0, .inl (cI, 16384, .inl (uf B))), (d1, .inl (cI, 2, .inl (nf z))), (d2, .inl (cI, 600, .inl (nf S))), (d3, .inl (cI, 600, .inl (nf Ln))), (d4, .inl (cI, 38400, .inl (uf K))), (d5, .inl (cI, 600, .inl (nf gr))), (d6, .inl (cI, 600, .inl (nf gb))), (d7, .inl (cI, 16, .inl (nf nS))), (d8, .inl (cI, 16, .inl (nf nL))), (d9, .inl (cI, 1024, .inl (uf nK))), (d10, .inl (cI, 64, .inl (uf F)))] := by
  refine x_start (cc := cX4_repaired) (maxL := 1) (ret := (some .int)) (by decide) rfl (Nat.le_of_ble_eq_true rfl) ?_
  intro xp xe xs xm xb xt xc xA E hr hlocks hnm
  obtain ⟨-, -, -, hown, hts, hK, hA⟩ := id E
  refine x_lve (lv' := [(0, .ref r0)]) rfl ?_
  refine x_aload_n E 0 dX4_repaired_0 rfl ?_
  refine x_iconst E (v := nI 0) dX4_repaired_1 (by decide) ?_
  refine x_put E 0 19 [(r0, .inr (4, [.ref d0, .ref d1, .ref d2, .ref d3, .ref d4, .int (nI kn), .int (nI mv), .ref d5, .ref d6, .int (nI ng), .ref d7, .ref d8, .ref d9, .int (nI nr), .ref d10, .int (nI fc), .int (if sh = true then 1 else 0), .int (nI rp), .int bad, .int (nI 0), .int (nI sr), .int (nI sb), .int (nI at9)])), (d0, .inl (cI, 16384, .inl (uf B))), (d1, .inl (cI, 2, .inl (nf z))), (d2, .inl (cI, 600, .inl (nf S))), (d3, .inl (cI, 600, .inl (nf Ln))), (d4, .inl (cI, 38400, .inl (uf K))), (d5, .inl (cI, 600, .inl (nf gr))), (d6, .inl (cI, 600, .inl (nf gb))), (d7, .inl (cI, 16, .inl (nf nS))), (d8, .inl (cI, 16, .inl (nf nL))), (d9, .inl (cI, 1024, .inl (uf nK))), (d10, .inl (cI, 64, .inl (uf F)))] dX4_repaired_2 ui_X4_repaired_X4 tyX4_ok nmX4 rfl rfl (by decide) fl_X4_repaired_48 rfl rfl rfl rfl (Nat.le_of_ble_eq_true rfl) rfl ?_
  refine x_aload_n E 0 dX4_repaired_5 rfl ?_
  refine x_get E 0 17 dX4_repaired_6 ui_X4_repaired_X4 rfl rfl (by decide) fl_X4_repaired_111 rfl rfl ?_
  exact x_iret E hr hlocks dX4_repaired_9 ⟨rfl, rfl⟩
set_option maxRecDepth 100000 in
set_option maxHeartbeats 4000000 in
theorem c_X4_badAt (l : Launch) (D : va_G) (cB cI cZ cJ : ClassId) (r0 : Nat) (d0 : Nat) (d1 : Nat) (d2 : Nat) (d3 : Nat) (d4 : Nat) (d5 : Nat) (d6 : Nat) (d7 : Nat) (d8 : Nat) (d9 : Nat) (d10 : Nat) (kn : Nat) (mv : Nat) (ng : Nat) (nr : Nat) (fc : Nat) (sh : Bool) (rp : Nat) (bad : Int32) (th : Nat) (sr : Nat) (sb : Nat) (at9 : Nat) (B : Nat → UInt8) (z : Nat → Nat) (S : Nat → Nat) (Ln : Nat → Nat) (K : Nat → UInt8) (gr : Nat → Nat) (gb : Nat → Nat) (nS : Nat → Nat) (nL : Nat → Nat) (nK : Nat → UInt8) (F : Nat → UInt8)  : Ct l D vwCl (tyl cB cI cZ cJ) yX4_badAt wsX4_badAt rmX4_badAt [.ref r0] [(r0, .inr (4, [.ref d0, .ref d1, .ref d2, .ref d3, .ref d4, .int (nI kn), .int (nI mv), .ref d5, .ref d6, .int (nI ng), .ref d7, .ref d8, .ref d9, .int (nI nr), .ref d10, .int (nI fc), .int (if sh = true then 1 else 0), .int (nI rp), .int bad, .int (nI th), .int (nI sr), .int (nI sb), .int (nI at9)])), (d0, .inl (cI, 16384, .inl (uf B))), (d1, .inl (cI, 2, .inl (nf z))), (d2, .inl (cI, 600, .inl (nf S))), (d3, .inl (cI, 600, .inl (nf Ln))), (d4, .inl (cI, 38400, .inl (uf K))), (d5, .inl (cI, 600, .inl (nf gr))), (d6, .inl (cI, 600, .inl (nf gb))), (d7, .inl (cI, 16, .inl (nf nS))), (d8, .inl (cI, 16, .inl (nf nL))), (d9, .inl (cI, 1024, .inl (uf nK))), (d10, .inl (cI, 64, .inl (uf F)))] (some (.int bad)) [(r0, .inr (4, [.ref d0, .ref d1, .ref d2, .ref d3, .ref d4, .int (nI kn), .int (nI mv), .ref d5, .ref d6, .int (nI ng), .ref d7, .ref d8, .ref d9, .int (nI nr), .ref d10, .int (nI fc), .int (if sh = true then 1 else 0), .int (nI rp), .int bad, .int (nI 0), .int (nI sr), .int (nI sb), .int (nI at9)])), (d0, .inl (cI, 16384, .inl (uf B))), (d1, .inl (cI, 2, .inl (nf z))), (d2, .inl (cI, 600, .inl (nf S))), (d3, .inl (cI, 600, .inl (nf Ln))), (d4, .inl (cI, 38400, .inl (uf K))), (d5, .inl (cI, 600, .inl (nf gr))), (d6, .inl (cI, 600, .inl (nf gb))), (d7, .inl (cI, 16, .inl (nf nS))), (d8, .inl (cI, 16, .inl (nf nL))), (d9, .inl (cI, 1024, .inl (uf nK))), (d10, .inl (cI, 64, .inl (uf F)))] := by
  refine x_start (cc := cX4_badAt) (maxL := 1) (ret := (some .int)) (by decide) rfl (Nat.le_of_ble_eq_true rfl) ?_
  intro xp xe xs xm xb xt xc xA E hr hlocks hnm
  obtain ⟨-, -, -, hown, hts, hK, hA⟩ := id E
  refine x_lve (lv' := [(0, .ref r0)]) rfl ?_
  refine x_aload_n E 0 dX4_badAt_0 rfl ?_
  refine x_iconst E (v := nI 0) dX4_badAt_1 (by decide) ?_
  refine x_put E 0 19 [(r0, .inr (4, [.ref d0, .ref d1, .ref d2, .ref d3, .ref d4, .int (nI kn), .int (nI mv), .ref d5, .ref d6, .int (nI ng), .ref d7, .ref d8, .ref d9, .int (nI nr), .ref d10, .int (nI fc), .int (if sh = true then 1 else 0), .int (nI rp), .int bad, .int (nI 0), .int (nI sr), .int (nI sb), .int (nI at9)])), (d0, .inl (cI, 16384, .inl (uf B))), (d1, .inl (cI, 2, .inl (nf z))), (d2, .inl (cI, 600, .inl (nf S))), (d3, .inl (cI, 600, .inl (nf Ln))), (d4, .inl (cI, 38400, .inl (uf K))), (d5, .inl (cI, 600, .inl (nf gr))), (d6, .inl (cI, 600, .inl (nf gb))), (d7, .inl (cI, 16, .inl (nf nS))), (d8, .inl (cI, 16, .inl (nf nL))), (d9, .inl (cI, 1024, .inl (uf nK))), (d10, .inl (cI, 64, .inl (uf F)))] dX4_badAt_2 ui_X4_badAt_X4 tyX4_ok nmX4 rfl rfl (by decide) fl_X4_badAt_48 rfl rfl rfl rfl (Nat.le_of_ble_eq_true rfl) rfl ?_
  refine x_aload_n E 0 dX4_badAt_5 rfl ?_
  refine x_get E 0 18 dX4_badAt_6 ui_X4_badAt_X4 rfl rfl (by decide) fl_X4_badAt_44 rfl rfl ?_
  exact x_iret E hr hlocks dX4_badAt_9 ⟨rfl, rfl⟩
set_option maxRecDepth 100000 in
set_option maxHeartbeats 4000000 in
theorem c_X4_feed_no (l : Launch) (D : va_G) (cB cI cZ cJ : ClassId) (r0 : Nat) (d0 : Nat) (d1 : Nat) (d2 : Nat) (d3 : Nat) (d4 : Nat) (d5 : Nat) (d6 : Nat) (d7 : Nat) (d8 : Nat) (d9 : Nat) (d10 : Nat) (kn : Nat) (mv : Nat) (ng : Nat) (nr : Nat) (fc : Nat) (sh : Bool) (rp : Nat) (bad : Int32) (th : Nat) (sr : Nat) (sb : Nat) (at9 : Nat) (B : Nat → UInt8) (z : Nat → Nat) (S : Nat → Nat) (Ln : Nat → Nat) (K : Nat → UInt8) (gr : Nat → Nat) (gb : Nat → Nat) (nS : Nat → Nat) (nL : Nat → Nat) (nK : Nat → UInt8) (F : Nat → UInt8) (b : Int32) (hfc : fc ≤ 64) (hno : sh = true ∨ b < 0 ∨ nI 255 < b ∨ 64 ≤ fc) : Ct l D vwCl (tyl cB cI cZ cJ) yX4_feed wsX4_feed rmX4_feed [.ref r0, .int b] [(r0, .inr (4, [.ref d0, .ref d1, .ref d2, .ref d3, .ref d4, .int (nI kn), .int (nI mv), .ref d5, .ref d6, .int (nI ng), .ref d7, .ref d8, .ref d9, .int (nI nr), .ref d10, .int (nI fc), .int (if sh = true then 1 else 0), .int (nI rp), .int bad, .int (nI th), .int (nI sr), .int (nI sb), .int (nI at9)])), (d0, .inl (cI, 16384, .inl (uf B))), (d1, .inl (cI, 2, .inl (nf z))), (d2, .inl (cI, 600, .inl (nf S))), (d3, .inl (cI, 600, .inl (nf Ln))), (d4, .inl (cI, 38400, .inl (uf K))), (d5, .inl (cI, 600, .inl (nf gr))), (d6, .inl (cI, 600, .inl (nf gb))), (d7, .inl (cI, 16, .inl (nf nS))), (d8, .inl (cI, 16, .inl (nf nL))), (d9, .inl (cI, 1024, .inl (uf nK))), (d10, .inl (cI, 64, .inl (uf F)))] (some (.int (nI 0))) [(r0, .inr (4, [.ref d0, .ref d1, .ref d2, .ref d3, .ref d4, .int (nI kn), .int (nI mv), .ref d5, .ref d6, .int (nI ng), .ref d7, .ref d8, .ref d9, .int (nI nr), .ref d10, .int (nI fc), .int (if sh = true then 1 else 0), .int (nI rp), .int bad, .int (nI 0), .int (nI sr), .int (nI sb), .int (nI at9)])), (d0, .inl (cI, 16384, .inl (uf B))), (d1, .inl (cI, 2, .inl (nf z))), (d2, .inl (cI, 600, .inl (nf S))), (d3, .inl (cI, 600, .inl (nf Ln))), (d4, .inl (cI, 38400, .inl (uf K))), (d5, .inl (cI, 600, .inl (nf gr))), (d6, .inl (cI, 600, .inl (nf gb))), (d7, .inl (cI, 16, .inl (nf nS))), (d8, .inl (cI, 16, .inl (nf nL))), (d9, .inl (cI, 1024, .inl (uf nK))), (d10, .inl (cI, 64, .inl (uf F)))] := by
  refine x_start (cc := cX4_feed) (maxL := 2) (ret := (some .boolean)) (by decide) rfl (Nat.le_of_ble_eq_true rfl) ?_
  intro xp xe xs xm xb xt xc xA E hr hlocks hnm
  obtain ⟨-, -, -, hown, hts, hK, hA⟩ := id E
  refine x_lve (lv' := [(0, .ref r0), (1, .int b)]) rfl ?_
  refine x_aload_n E 0 dX4_feed_0 rfl ?_
  refine x_iconst E (v := nI 0) dX4_feed_1 (by decide) ?_
  refine x_put E 0 19 [(r0, .inr (4, [.ref d0, .ref d1, .ref d2, .ref d3, .ref d4, .int (nI kn), .int (nI mv), .ref d5, .ref d6, .int (nI ng), .ref d7, .ref d8, .ref d9, .int (nI nr), .ref d10, .int (nI fc), .int (if sh = true then 1 else 0), .int (nI rp), .int bad, .int (nI 0), .int (nI sr), .int (nI sb), .int (nI at9)])), (d0, .inl (cI, 16384, .inl (uf B))), (d1, .inl (cI, 2, .inl (nf z))), (d2, .inl (cI, 600, .inl (nf S))), (d3, .inl (cI, 600, .inl (nf Ln))), (d4, .inl (cI, 38400, .inl (uf K))), (d5, .inl (cI, 600, .inl (nf gr))), (d6, .inl (cI, 600, .inl (nf gb))), (d7, .inl (cI, 16, .inl (nf nS))), (d8, .inl (cI, 16, .inl (nf nL))), (d9, .inl (cI, 1024, .inl (uf nK))), (d10, .inl (cI, 64, .inl (uf F)))] dX4_feed_2 ui_X4_feed_X4 tyX4_ok nmX4 rfl rfl (by decide) fl_X4_feed_48 rfl rfl rfl rfl (Nat.le_of_ble_eq_true rfl) rfl ?_
  refine x_aload_n E 0 dX4_feed_5 rfl ?_
  refine x_get E 0 16 dX4_feed_6 ui_X4_feed_X4 rfl rfl (by decide) fl_X4_feed_52 rfl rfl ?_
  refine x_qif_ne E 32 dX4_feed_9 (by decide) (fun h9 => ?_) (fun h9 => ?_)
  · refine x_iconst E (v := nI 0) dX4_feed_32 (by decide) ?_
    exact x_zret E hr hlocks dX4_feed_33 rfl ⟨rfl, rfl⟩
  · refine x_iload_n E 1 dX4_feed_12 rfl ?_
    refine x_if_lt E 32 dX4_feed_13 (by decide) (fun h13 => ?_) (fun h13 => ?_)
    · refine x_iconst E (v := nI 0) dX4_feed_32 (by decide) ?_
      exact x_zret E hr hlocks dX4_feed_33 rfl ⟨rfl, rfl⟩
    · refine x_iload_n E 1 dX4_feed_16 rfl ?_
      refine x_sipush E (v := nI 255) dX4_feed_17 (by decide) ?_
      refine x_icmp_gt E 32 dX4_feed_20 (by decide) (fun h20 => ?_) (fun h20 => ?_)
      · refine x_iconst E (v := nI 0) dX4_feed_32 (by decide) ?_
        exact x_zret E hr hlocks dX4_feed_33 rfl ⟨rfl, rfl⟩
      · refine x_aload_n E 0 dX4_feed_23 rfl ?_
        refine x_get E 0 15 dX4_feed_24 ui_X4_feed_X4 rfl rfl (by decide) fl_X4_feed_56 rfl rfl ?_
        refine x_bipush E (v := nI 64) dX4_feed_27 (by decide) ?_
        refine x_ncmp_ne E 34 dX4_feed_29 (by decide) (by omega) (by decide) (fun h => False.elim (by rcases hno with q | q | q | q; exact absurd (h9.symm.trans q) (by decide); exact h13 q; exact h20 q; omega)) (fun h29 => ?_)
        refine x_iconst E (v := nI 0) dX4_feed_32 (by decide) ?_
        exact x_zret E hr hlocks dX4_feed_33 rfl ⟨rfl, rfl⟩
set_option maxRecDepth 100000 in
set_option maxHeartbeats 4000000 in
theorem c_X4_feed_ok (l : Launch) (D : va_G) (cB cI cZ cJ : ClassId) (r0 : Nat) (d0 : Nat) (d1 : Nat) (d2 : Nat) (d3 : Nat) (d4 : Nat) (d5 : Nat) (d6 : Nat) (d7 : Nat) (d8 : Nat) (d9 : Nat) (d10 : Nat) (kn : Nat) (mv : Nat) (ng : Nat) (nr : Nat) (fc : Nat) (sh : Bool) (rp : Nat) (bad : Int32) (th : Nat) (sr : Nat) (sb : Nat) (at9 : Nat) (B : Nat → UInt8) (z : Nat → Nat) (S : Nat → Nat) (Ln : Nat → Nat) (K : Nat → UInt8) (gr : Nat → Nat) (gb : Nat → Nat) (nS : Nat → Nat) (nL : Nat → Nat) (nK : Nat → UInt8) (F : Nat → UInt8) (b : Nat) (hb : b ≤ 255) (hfc : fc < 64) : Ct l D vwCl (tyl cB cI cZ cJ) yX4_feed wsX4_feed rmX4_feed [.ref r0, .int (nI b)] [(r0, .inr (4, [.ref d0, .ref d1, .ref d2, .ref d3, .ref d4, .int (nI kn), .int (nI mv), .ref d5, .ref d6, .int (nI ng), .ref d7, .ref d8, .ref d9, .int (nI nr), .ref d10, .int (nI fc), .int (if false = true then 1 else 0), .int (nI rp), .int bad, .int (nI th), .int (nI sr), .int (nI sb), .int (nI at9)])), (d0, .inl (cI, 16384, .inl (uf B))), (d1, .inl (cI, 2, .inl (nf z))), (d2, .inl (cI, 600, .inl (nf S))), (d3, .inl (cI, 600, .inl (nf Ln))), (d4, .inl (cI, 38400, .inl (uf K))), (d5, .inl (cI, 600, .inl (nf gr))), (d6, .inl (cI, 600, .inl (nf gb))), (d7, .inl (cI, 16, .inl (nf nS))), (d8, .inl (cI, 16, .inl (nf nL))), (d9, .inl (cI, 1024, .inl (uf nK))), (d10, .inl (cI, 64, .inl (uf F)))] (some (.int (nI 1))) [(r0, .inr (4, [.ref d0, .ref d1, .ref d2, .ref d3, .ref d4, .int (nI kn), .int (nI mv), .ref d5, .ref d6, .int (nI ng), .ref d7, .ref d8, .ref d9, .int (nI nr), .ref d10, .int (nI (fc + 1)), .int (if false = true then 1 else 0), .int (nI rp), .int bad, .int (nI 0), .int (nI sr), .int (nI sb), .int (nI at9)])), (d0, .inl (cI, 16384, .inl (uf B))), (d1, .inl (cI, 2, .inl (nf z))), (d2, .inl (cI, 600, .inl (nf S))), (d3, .inl (cI, 600, .inl (nf Ln))), (d4, .inl (cI, 38400, .inl (uf K))), (d5, .inl (cI, 600, .inl (nf gr))), (d6, .inl (cI, 600, .inl (nf gb))), (d7, .inl (cI, 16, .inl (nf nS))), (d8, .inl (cI, 16, .inl (nf nL))), (d9, .inl (cI, 1024, .inl (uf nK))), (d10, .inl (cI, 64, .inl (uf (va_up F fc (u8 (nI b))))))] := by
  refine x_start (cc := cX4_feed) (maxL := 2) (ret := (some .boolean)) (by decide) rfl (Nat.le_of_ble_eq_true rfl) ?_
  intro xp xe xs xm xb xt xc xA E hr hlocks hnm
  obtain ⟨-, -, -, hown, hts, hK, hA⟩ := id E
  refine x_lve (lv' := [(0, .ref r0), (1, .int (nI b))]) rfl ?_
  refine x_aload_n E 0 dX4_feed_0 rfl ?_
  refine x_iconst E (v := nI 0) dX4_feed_1 (by decide) ?_
  refine x_put E 0 19 [(r0, .inr (4, [.ref d0, .ref d1, .ref d2, .ref d3, .ref d4, .int (nI kn), .int (nI mv), .ref d5, .ref d6, .int (nI ng), .ref d7, .ref d8, .ref d9, .int (nI nr), .ref d10, .int (nI fc), .int (if false = true then 1 else 0), .int (nI rp), .int bad, .int (nI 0), .int (nI sr), .int (nI sb), .int (nI at9)])), (d0, .inl (cI, 16384, .inl (uf B))), (d1, .inl (cI, 2, .inl (nf z))), (d2, .inl (cI, 600, .inl (nf S))), (d3, .inl (cI, 600, .inl (nf Ln))), (d4, .inl (cI, 38400, .inl (uf K))), (d5, .inl (cI, 600, .inl (nf gr))), (d6, .inl (cI, 600, .inl (nf gb))), (d7, .inl (cI, 16, .inl (nf nS))), (d8, .inl (cI, 16, .inl (nf nL))), (d9, .inl (cI, 1024, .inl (uf nK))), (d10, .inl (cI, 64, .inl (uf F)))] dX4_feed_2 ui_X4_feed_X4 tyX4_ok nmX4 rfl rfl (by decide) fl_X4_feed_48 rfl rfl rfl rfl (Nat.le_of_ble_eq_true rfl) rfl ?_
  refine x_aload_n E 0 dX4_feed_5 rfl ?_
  refine x_get E 0 16 dX4_feed_6 ui_X4_feed_X4 rfl rfl (by decide) fl_X4_feed_52 rfl rfl ?_
  refine x_qif_ne E 32 dX4_feed_9 (by decide) (fun h => False.elim (by cases h)) (fun h9 => ?_)
  refine x_iload_n E 1 dX4_feed_12 rfl ?_
  refine x_nif_lt E 32 dX4_feed_13 (by decide) (by omega) (fun h => absurd h (fun h => Nat.not_lt_zero _ h)) (fun h13 => ?_)
  refine x_iload_n E 1 dX4_feed_16 rfl ?_
  refine x_sipush E (v := nI 255) dX4_feed_17 (by decide) ?_
  refine x_ncmp_gt E 32 dX4_feed_20 (by decide) (by omega) (by decide) (fun h => False.elim (by omega)) (fun h20 => ?_)
  refine x_aload_n E 0 dX4_feed_23 rfl ?_
  refine x_get E 0 15 dX4_feed_24 ui_X4_feed_X4 rfl rfl (by decide) fl_X4_feed_56 rfl rfl ?_
  refine x_bipush E (v := nI 64) dX4_feed_27 (by decide) ?_
  refine x_ncmp_ne E 34 dX4_feed_29 (by decide) (by omega) (by decide) (fun h29 => ?_) (fun h => False.elim (by omega))
  refine x_aload_n E 0 dX4_feed_34 rfl ?_
  refine x_get E 0 14 dX4_feed_35 ui_X4_feed_X4 rfl rfl (by decide) fl_X4_feed_41 rfl rfl ?_
  refine x_aload_n E 0 dX4_feed_38 rfl ?_
  refine x_get E 0 15 dX4_feed_39 ui_X4_feed_X4 rfl rfl (by decide) fl_X4_feed_56 rfl rfl ?_
  refine x_iload_n E 1 dX4_feed_42 rfl ?_
  refine x_uast E 11 1 [(r0, .inr (4, [.ref d0, .ref d1, .ref d2, .ref d3, .ref d4, .int (nI kn), .int (nI mv), .ref d5, .ref d6, .int (nI ng), .ref d7, .ref d8, .ref d9, .int (nI nr), .ref d10, .int (nI fc), .int (if false = true then 1 else 0), .int (nI rp), .int bad, .int (nI 0), .int (nI sr), .int (nI sb), .int (nI at9)])), (d0, .inl (cI, 16384, .inl (uf B))), (d1, .inl (cI, 2, .inl (nf z))), (d2, .inl (cI, 600, .inl (nf S))), (d3, .inl (cI, 600, .inl (nf Ln))), (d4, .inl (cI, 38400, .inl (uf K))), (d5, .inl (cI, 600, .inl (nf gr))), (d6, .inl (cI, 600, .inl (nf gb))), (d7, .inl (cI, 16, .inl (nf nS))), (d8, .inl (cI, 16, .inl (nf nL))), (d9, .inl (cI, 1024, .inl (uf nK))), (d10, .inl (cI, 64, .inl (uf (va_up F fc (u8 (nI b))))))] dX4_feed_43 rfl rfl (by omega) (by decide) (u8_v (by omega)) rfl ?_
  refine x_aload_n E 0 dX4_feed_44 rfl ?_
  refine x_dup E dX4_feed_45 rfl ?_
  refine x_get E 0 15 dX4_feed_46 ui_X4_feed_X4 rfl rfl (by decide) fl_X4_feed_56 rfl rfl ?_
  refine x_iconst E (v := nI 1) dX4_feed_49 (by decide) ?_
  refine x_niadd E dX4_feed_50 ?_
  refine x_put E 0 15 [(r0, .inr (4, [.ref d0, .ref d1, .ref d2, .ref d3, .ref d4, .int (nI kn), .int (nI mv), .ref d5, .ref d6, .int (nI ng), .ref d7, .ref d8, .ref d9, .int (nI nr), .ref d10, .int (nI (fc + 1)), .int (if false = true then 1 else 0), .int (nI rp), .int bad, .int (nI 0), .int (nI sr), .int (nI sb), .int (nI at9)])), (d0, .inl (cI, 16384, .inl (uf B))), (d1, .inl (cI, 2, .inl (nf z))), (d2, .inl (cI, 600, .inl (nf S))), (d3, .inl (cI, 600, .inl (nf Ln))), (d4, .inl (cI, 38400, .inl (uf K))), (d5, .inl (cI, 600, .inl (nf gr))), (d6, .inl (cI, 600, .inl (nf gb))), (d7, .inl (cI, 16, .inl (nf nS))), (d8, .inl (cI, 16, .inl (nf nL))), (d9, .inl (cI, 1024, .inl (uf nK))), (d10, .inl (cI, 64, .inl (uf (va_up F fc (u8 (nI b))))))] dX4_feed_51 ui_X4_feed_X4 tyX4_ok nmX4 rfl rfl (by decide) fl_X4_feed_56 rfl rfl rfl rfl (Nat.le_of_ble_eq_true rfl) rfl ?_
  refine x_iconst E (v := nI 1) dX4_feed_54 (by decide) ?_
  exact x_zret E hr hlocks dX4_feed_55 rfl ⟨rfl, rfl⟩
set_option maxRecDepth 100000 in
set_option maxHeartbeats 4000000 in
theorem c_X4_lastSecond (l : Launch) (D : va_G) (cB cI cZ cJ : ClassId) (r0 : Nat) (d0 : Nat) (d1 : Nat) (d2 : Nat) (d3 : Nat) (d4 : Nat) (d5 : Nat) (d6 : Nat) (d7 : Nat) (d8 : Nat) (d9 : Nat) (d10 : Nat) (kn : Nat) (mv : Nat) (ng : Nat) (nr : Nat) (fc : Nat) (sh : Bool) (rp : Nat) (bad : Int32) (th : Nat) (sr : Nat) (sb : Nat) (at9 : Nat) (B : Nat → UInt8) (z : Nat → Nat) (S : Nat → Nat) (Ln : Nat → Nat) (K : Nat → UInt8) (gr : Nat → Nat) (gb : Nat → Nat) (nS : Nat → Nat) (nL : Nat → Nat) (nK : Nat → UInt8) (F : Nat → UInt8) (hnr : nr ≤ 16) (hkn : kn ≤ 600) : Ct l D vwCl (tyl cB cI cZ cJ) yX4_lastSecond wsX4_lastSecond rmX4_lastSecond [.ref r0] [(r0, .inr (4, [.ref d0, .ref d1, .ref d2, .ref d3, .ref d4, .int (nI kn), .int (nI mv), .ref d5, .ref d6, .int (nI ng), .ref d7, .ref d8, .ref d9, .int (nI nr), .ref d10, .int (nI fc), .int (if sh = true then 1 else 0), .int (nI rp), .int bad, .int (nI th), .int (nI sr), .int (nI sb), .int (nI at9)])), (d0, .inl (cI, 16384, .inl (uf B))), (d1, .inl (cI, 2, .inl (nf z))), (d2, .inl (cI, 600, .inl (nf S))), (d3, .inl (cI, 600, .inl (nf Ln))), (d4, .inl (cI, 38400, .inl (uf K))), (d5, .inl (cI, 600, .inl (nf gr))), (d6, .inl (cI, 600, .inl (nf gb))), (d7, .inl (cI, 16, .inl (nf nS))), (d8, .inl (cI, 16, .inl (nf nL))), (d9, .inl (cI, 1024, .inl (uf nK))), (d10, .inl (cI, 64, .inl (uf F)))] (some (.int (nI (lastR nr kn nS S)))) [(r0, .inr (4, [.ref d0, .ref d1, .ref d2, .ref d3, .ref d4, .int (nI kn), .int (nI mv), .ref d5, .ref d6, .int (nI ng), .ref d7, .ref d8, .ref d9, .int (nI nr), .ref d10, .int (nI fc), .int (if sh = true then 1 else 0), .int (nI rp), .int bad, .int (nI th), .int (nI sr), .int (nI sb), .int (nI at9)])), (d0, .inl (cI, 16384, .inl (uf B))), (d1, .inl (cI, 2, .inl (nf z))), (d2, .inl (cI, 600, .inl (nf S))), (d3, .inl (cI, 600, .inl (nf Ln))), (d4, .inl (cI, 38400, .inl (uf K))), (d5, .inl (cI, 600, .inl (nf gr))), (d6, .inl (cI, 600, .inl (nf gb))), (d7, .inl (cI, 16, .inl (nf nS))), (d8, .inl (cI, 16, .inl (nf nL))), (d9, .inl (cI, 1024, .inl (uf nK))), (d10, .inl (cI, 64, .inl (uf F)))] := by
  refine x_start (cc := cX4_lastSecond) (maxL := 1) (ret := (some .int)) (by decide) rfl (Nat.le_of_ble_eq_true rfl) ?_
  intro xp xe xs xm xb xt xc xA E hr hlocks hnm
  obtain ⟨-, -, -, hown, hts, hK, hA⟩ := id E
  refine x_lve (lv' := [(0, .ref r0)]) rfl ?_
  refine x_aload_n E 0 dX4_lastSecond_0 rfl ?_
  refine x_get E 0 13 dX4_lastSecond_1 ui_X4_lastSecond_X4 rfl rfl (by decide) fl_X4_lastSecond_59 rfl rfl ?_
  refine x_nif_le E 21 dX4_lastSecond_4 (by decide) (by omega) (fun h4 => ?_) (fun h4 => ?_)
  · refine x_aload_n E 0 dX4_lastSecond_21 rfl ?_
    refine x_get E 0 5 dX4_lastSecond_22 ui_X4_lastSecond_X4 rfl rfl (by decide) fl_X4_lastSecond_62 rfl rfl ?_
    refine x_nif_le E 42 dX4_lastSecond_25 (by decide) (by omega) (fun h25 => ?_) (fun h25 => ?_)
    · refine x_iconst E (v := nI 0) dX4_lastSecond_42 (by decide) ?_
      exact x_iret E hr hlocks dX4_lastSecond_43 ⟨by unfold lastR; rw [if_neg (by omega), if_neg (by omega)], rfl⟩
    · refine x_aload_n E 0 dX4_lastSecond_28 rfl ?_
      refine x_get E 0 2 dX4_lastSecond_29 ui_X4_lastSecond_X4 rfl rfl (by decide) fl_X4_lastSecond_16 rfl rfl ?_
      refine x_aload_n E 0 dX4_lastSecond_32 rfl ?_
      refine x_get E 0 5 dX4_lastSecond_33 ui_X4_lastSecond_X4 rfl rfl (by decide) fl_X4_lastSecond_62 rfl rfl ?_
      refine x_iconst E (v := nI 1) dX4_lastSecond_36 (by decide) ?_
      refine x_nisub E dX4_lastSecond_37 (by omega) ?_
      refine x_nald E 3 1 dX4_lastSecond_38 rfl rfl (by omega) (by decide) ?_
      refine x_goto E 43 dX4_lastSecond_39 (by decide) ?_
      exact x_iret E hr hlocks dX4_lastSecond_43 ⟨by unfold lastR; rw [if_neg (by omega), if_pos (by omega)], rfl⟩
  · refine x_aload_n E 0 dX4_lastSecond_7 rfl ?_
    refine x_get E 0 10 dX4_lastSecond_8 ui_X4_lastSecond_X4 rfl rfl (by decide) fl_X4_lastSecond_32 rfl rfl ?_
    refine x_aload_n E 0 dX4_lastSecond_11 rfl ?_
    refine x_get E 0 13 dX4_lastSecond_12 ui_X4_lastSecond_X4 rfl rfl (by decide) fl_X4_lastSecond_59 rfl rfl ?_
    refine x_iconst E (v := nI 1) dX4_lastSecond_15 (by decide) ?_
    refine x_nisub E dX4_lastSecond_16 (by omega) ?_
    refine x_nald E 8 1 dX4_lastSecond_17 rfl rfl (by omega) (by decide) ?_
    refine x_goto E 43 dX4_lastSecond_18 (by decide) ?_
    exact x_iret E hr hlocks dX4_lastSecond_43 ⟨by unfold lastR; rw [if_pos (by omega)], rfl⟩
set_option maxRecDepth 100000 in
set_option maxHeartbeats 4000000 in
theorem c_X4_row_none (l : Launch) (D : va_G) (cB cI cZ cJ : ClassId) (r0 : Nat) (d0 : Nat) (d1 : Nat) (d2 : Nat) (d3 : Nat) (d4 : Nat) (d5 : Nat) (d6 : Nat) (d7 : Nat) (d8 : Nat) (d9 : Nat) (d10 : Nat) (kn : Nat) (mv : Nat) (ng : Nat) (nr : Nat) (fc : Nat) (sh : Bool) (rp : Nat) (bad : Int32) (th : Nat) (sr : Nat) (sb : Nat) (at9 : Nat) (B : Nat → UInt8) (z : Nat → Nat) (S : Nat → Nat) (Ln : Nat → Nat) (K : Nat → UInt8) (gr : Nat → Nat) (gb : Nat → Nat) (nS : Nat → Nat) (nL : Nat → Nat) (nK : Nat → UInt8) (F : Nat → UInt8) (x : Int32) (hfc : fc ≤ 64) (hnr : nr ≤ 16) (hkn : kn ≤ 600) (hno : sh = true ∨ fc = 0 ∨ x < 0 ∨ nI 1000000000 < x ∨ ¬ nI (lastR nr kn nS S) ≤ x) : Ct l D vwCl (tyl cB cI cZ cJ) yX4_row wsX4_row rmX4_row [.ref r0, .int x] [(r0, .inr (4, [.ref d0, .ref d1, .ref d2, .ref d3, .ref d4, .int (nI kn), .int (nI mv), .ref d5, .ref d6, .int (nI ng), .ref d7, .ref d8, .ref d9, .int (nI nr), .ref d10, .int (nI fc), .int (if sh = true then 1 else 0), .int (nI rp), .int bad, .int (nI th), .int (nI sr), .int (nI sb), .int (nI at9)])), (d0, .inl (cI, 16384, .inl (uf B))), (d1, .inl (cI, 2, .inl (nf z))), (d2, .inl (cI, 600, .inl (nf S))), (d3, .inl (cI, 600, .inl (nf Ln))), (d4, .inl (cI, 38400, .inl (uf K))), (d5, .inl (cI, 600, .inl (nf gr))), (d6, .inl (cI, 600, .inl (nf gb))), (d7, .inl (cI, 16, .inl (nf nS))), (d8, .inl (cI, 16, .inl (nf nL))), (d9, .inl (cI, 1024, .inl (uf nK))), (d10, .inl (cI, 64, .inl (uf F)))] (some (.int (-1))) [(r0, .inr (4, [.ref d0, .ref d1, .ref d2, .ref d3, .ref d4, .int (nI kn), .int (nI mv), .ref d5, .ref d6, .int (nI ng), .ref d7, .ref d8, .ref d9, .int (nI nr), .ref d10, .int (nI fc), .int (if sh = true then 1 else 0), .int (nI rp), .int bad, .int (nI 0), .int (nI sr), .int (nI sb), .int (nI at9)])), (d0, .inl (cI, 16384, .inl (uf B))), (d1, .inl (cI, 2, .inl (nf z))), (d2, .inl (cI, 600, .inl (nf S))), (d3, .inl (cI, 600, .inl (nf Ln))), (d4, .inl (cI, 38400, .inl (uf K))), (d5, .inl (cI, 600, .inl (nf gr))), (d6, .inl (cI, 600, .inl (nf gb))), (d7, .inl (cI, 16, .inl (nf nS))), (d8, .inl (cI, 16, .inl (nf nL))), (d9, .inl (cI, 1024, .inl (uf nK))), (d10, .inl (cI, 64, .inl (uf F)))] := by
  refine x_start (cc := cX4_row) (maxL := 3) (ret := (some .int)) (by decide) rfl (Nat.le_of_ble_eq_true rfl) ?_
  intro xp xe xs xm xb xt xc xA E hr hlocks hnm
  obtain ⟨-, -, -, hown, hts, hK, hA⟩ := id E
  refine x_lve (lv' := [(0, .ref r0), (1, .int x)]) rfl ?_
  refine x_aload_n E 0 dX4_row_0 rfl ?_
  refine x_iconst E (v := nI 0) dX4_row_1 (by decide) ?_
  refine x_put E 0 19 [(r0, .inr (4, [.ref d0, .ref d1, .ref d2, .ref d3, .ref d4, .int (nI kn), .int (nI mv), .ref d5, .ref d6, .int (nI ng), .ref d7, .ref d8, .ref d9, .int (nI nr), .ref d10, .int (nI fc), .int (if sh = true then 1 else 0), .int (nI rp), .int bad, .int (nI 0), .int (nI sr), .int (nI sb), .int (nI at9)])), (d0, .inl (cI, 16384, .inl (uf B))), (d1, .inl (cI, 2, .inl (nf z))), (d2, .inl (cI, 600, .inl (nf S))), (d3, .inl (cI, 600, .inl (nf Ln))), (d4, .inl (cI, 38400, .inl (uf K))), (d5, .inl (cI, 600, .inl (nf gr))), (d6, .inl (cI, 600, .inl (nf gb))), (d7, .inl (cI, 16, .inl (nf nS))), (d8, .inl (cI, 16, .inl (nf nL))), (d9, .inl (cI, 1024, .inl (uf nK))), (d10, .inl (cI, 64, .inl (uf F)))] dX4_row_2 ui_X4_row_X4 tyX4_ok nmX4 rfl rfl (by decide) fl_X4_row_48 rfl rfl rfl rfl (Nat.le_of_ble_eq_true rfl) rfl ?_
  refine x_aload_n E 0 dX4_row_5 rfl ?_
  refine x_get E 0 16 dX4_row_6 ui_X4_row_X4 rfl rfl (by decide) fl_X4_row_52 rfl rfl ?_
  refine x_qif_ne E 37 dX4_row_9 (by decide) (fun h9 => ?_) (fun h9 => ?_)
  · refine x_iconst E (v := (-1)) dX4_row_37 (by decide) ?_
    exact x_iret E hr hlocks dX4_row_38 ⟨rfl, rfl⟩
  · refine x_aload_n E 0 dX4_row_12 rfl ?_
    refine x_get E 0 15 dX4_row_13 ui_X4_row_X4 rfl rfl (by decide) fl_X4_row_56 rfl rfl ?_
    refine x_nif_eq E 37 dX4_row_16 (by decide) (by omega) (fun h16 => ?_) (fun h16 => ?_)
    · refine x_iconst E (v := (-1)) dX4_row_37 (by decide) ?_
      exact x_iret E hr hlocks dX4_row_38 ⟨rfl, rfl⟩
    · refine x_iload_n E 1 dX4_row_19 rfl ?_
      refine x_if_lt E 37 dX4_row_20 (by decide) (fun h20 => ?_) (fun h20 => ?_)
      · refine x_iconst E (v := (-1)) dX4_row_37 (by decide) ?_
        exact x_iret E hr hlocks dX4_row_38 ⟨rfl, rfl⟩
      · refine x_iload_n E 1 dX4_row_23 rfl ?_
        refine x_ldc E (v := nI 1000000000) dX4_row_24 cn_X4_row_65 (by decide +kernel) ?_
        refine x_icmp_gt E 37 dX4_row_26 (by decide) (fun h26 => ?_) (fun h26 => ?_)
        · refine x_iconst E (v := (-1)) dX4_row_37 (by decide) ?_
          exact x_iret E hr hlocks dX4_row_38 ⟨rfl, rfl⟩
        · refine x_iload_n E 1 dX4_row_29 rfl ?_
          refine x_aload_n E 0 dX4_row_30 rfl ?_
          refine x_cV E [] [.int x] [.int (nI (lastR nr kn nS S)), .int x] [(r0, .inr (4, [.ref d0, .ref d1, .ref d2, .ref d3, .ref d4, .int (nI kn), .int (nI mv), .ref d5, .ref d6, .int (nI ng), .ref d7, .ref d8, .ref d9, .int (nI nr), .ref d10, .int (nI fc), .int (if sh = true then 1 else 0), .int (nI rp), .int bad, .int (nI 0), .int (nI sr), .int (nI sb), .int (nI at9)])), (d0, .inl (cI, 16384, .inl (uf B))), (d1, .inl (cI, 2, .inl (nf z))), (d2, .inl (cI, 600, .inl (nf S))), (d3, .inl (cI, 600, .inl (nf Ln))), (d4, .inl (cI, 38400, .inl (uf K))), (d5, .inl (cI, 600, .inl (nf gr))), (d6, .inl (cI, 600, .inl (nf gb))), (d7, .inl (cI, 16, .inl (nf nS))), (d8, .inl (cI, 16, .inl (nf nL))), (d9, .inl (cI, 1024, .inl (uf nK))), (d10, .inl (cI, 64, .inl (uf F)))] (c_X4_lastSecond l D cB cI cZ cJ r0 d0 d1 d2 d3 d4 d5 d6 d7 d8 d9 d10 kn mv ng nr fc sh rp bad 0 sr sb at9 B z S Ln K gr gb nS nL nK F (by omega) (by omega)) 0 rfl rfl (cwV 0 hts gX4_row_X4_lastSecond rfl rfl rfl (by decide +kernel) ⟨Nat.le_of_ble_eq_true rfl, Nat.le_of_ble_eq_true rfl⟩) [0, 1, 2, 3, 4, 5, 6, 7, 8, 9, 10, 11] [] rfl rfl (by decide) (by decide) (by decide) [0, 1, 2, 3, 4, 5, 6, 7, 8, 9, 10, 11] (by decide) rfl rfl (Nat.le_of_ble_eq_true rfl) dX4_row_31 ⟨Nat.zero_le _, Nat.zero_le _⟩ rfl rfl ?_
          refine x_icmp_ge E 39 dX4_row_34 (by decide) (fun h => False.elim (by rcases hno with q | q | q | q | q; exact absurd (h9.symm.trans q) (by decide); exact h16 q; exact h20 q; exact h26 q; exact q h)) (fun h34 => ?_)
          refine x_iconst E (v := (-1)) dX4_row_37 (by decide) ?_
          exact x_iret E hr hlocks dX4_row_38 ⟨rfl, rfl⟩
set_option maxRecDepth 100000 in
set_option maxHeartbeats 4000000 in
theorem c_X4_row_full (l : Launch) (D : va_G) (cB cI cZ cJ : ClassId) (r0 : Nat) (d0 : Nat) (d1 : Nat) (d2 : Nat) (d3 : Nat) (d4 : Nat) (d5 : Nat) (d6 : Nat) (d7 : Nat) (d8 : Nat) (d9 : Nat) (d10 : Nat) (kn : Nat) (mv : Nat) (ng : Nat) (nr : Nat) (fc : Nat) (sh : Bool) (rp : Nat) (bad : Int32) (th : Nat) (sr : Nat) (sb : Nat) (at9 : Nat) (B : Nat → UInt8) (z : Nat → Nat) (S : Nat → Nat) (Ln : Nat → Nat) (K : Nat → UInt8) (gr : Nat → Nat) (gb : Nat → Nat) (nS : Nat → Nat) (nL : Nat → Nat) (nK : Nat → UInt8) (F : Nat → UInt8) (s0 : Nat) (hnr : nr ≤ 16) (hkr : kn + nr ≤ 600) (hfc : 0 < fc) (hf2 : fc ≤ 64) (hs1 : lastR nr kn nS S ≤ s0) (hs2 : s0 ≤ 1000000000) (hfu : 16 ≤ nr ∨ 600 ≤ kn + nr) : Ct l D vwCl (tyl cB cI cZ cJ) yX4_row wsX4_row rmX4_row [.ref r0, .int (nI s0)] [(r0, .inr (4, [.ref d0, .ref d1, .ref d2, .ref d3, .ref d4, .int (nI kn), .int (nI mv), .ref d5, .ref d6, .int (nI ng), .ref d7, .ref d8, .ref d9, .int (nI nr), .ref d10, .int (nI fc), .int (if false = true then 1 else 0), .int (nI rp), .int bad, .int (nI th), .int (nI sr), .int (nI sb), .int (nI at9)])), (d0, .inl (cI, 16384, .inl (uf B))), (d1, .inl (cI, 2, .inl (nf z))), (d2, .inl (cI, 600, .inl (nf S))), (d3, .inl (cI, 600, .inl (nf Ln))), (d4, .inl (cI, 38400, .inl (uf K))), (d5, .inl (cI, 600, .inl (nf gr))), (d6, .inl (cI, 600, .inl (nf gb))), (d7, .inl (cI, 16, .inl (nf nS))), (d8, .inl (cI, 16, .inl (nf nL))), (d9, .inl (cI, 1024, .inl (uf nK))), (d10, .inl (cI, 64, .inl (uf F)))] (some (.int (-2))) [(r0, .inr (4, [.ref d0, .ref d1, .ref d2, .ref d3, .ref d4, .int (nI kn), .int (nI mv), .ref d5, .ref d6, .int (nI ng), .ref d7, .ref d8, .ref d9, .int (nI nr), .ref d10, .int (nI fc), .int (if false = true then 1 else 0), .int (nI rp), .int bad, .int (nI 0), .int (nI sr), .int (nI sb), .int (nI at9)])), (d0, .inl (cI, 16384, .inl (uf B))), (d1, .inl (cI, 2, .inl (nf z))), (d2, .inl (cI, 600, .inl (nf S))), (d3, .inl (cI, 600, .inl (nf Ln))), (d4, .inl (cI, 38400, .inl (uf K))), (d5, .inl (cI, 600, .inl (nf gr))), (d6, .inl (cI, 600, .inl (nf gb))), (d7, .inl (cI, 16, .inl (nf nS))), (d8, .inl (cI, 16, .inl (nf nL))), (d9, .inl (cI, 1024, .inl (uf nK))), (d10, .inl (cI, 64, .inl (uf F)))] := by
  refine x_start (cc := cX4_row) (maxL := 3) (ret := (some .int)) (by decide) rfl (Nat.le_of_ble_eq_true rfl) ?_
  intro xp xe xs xm xb xt xc xA E hr hlocks hnm
  obtain ⟨-, -, -, hown, hts, hK, hA⟩ := id E
  refine x_lve (lv' := [(0, .ref r0), (1, .int (nI s0))]) rfl ?_
  refine x_aload_n E 0 dX4_row_0 rfl ?_
  refine x_iconst E (v := nI 0) dX4_row_1 (by decide) ?_
  refine x_put E 0 19 [(r0, .inr (4, [.ref d0, .ref d1, .ref d2, .ref d3, .ref d4, .int (nI kn), .int (nI mv), .ref d5, .ref d6, .int (nI ng), .ref d7, .ref d8, .ref d9, .int (nI nr), .ref d10, .int (nI fc), .int (if false = true then 1 else 0), .int (nI rp), .int bad, .int (nI 0), .int (nI sr), .int (nI sb), .int (nI at9)])), (d0, .inl (cI, 16384, .inl (uf B))), (d1, .inl (cI, 2, .inl (nf z))), (d2, .inl (cI, 600, .inl (nf S))), (d3, .inl (cI, 600, .inl (nf Ln))), (d4, .inl (cI, 38400, .inl (uf K))), (d5, .inl (cI, 600, .inl (nf gr))), (d6, .inl (cI, 600, .inl (nf gb))), (d7, .inl (cI, 16, .inl (nf nS))), (d8, .inl (cI, 16, .inl (nf nL))), (d9, .inl (cI, 1024, .inl (uf nK))), (d10, .inl (cI, 64, .inl (uf F)))] dX4_row_2 ui_X4_row_X4 tyX4_ok nmX4 rfl rfl (by decide) fl_X4_row_48 rfl rfl rfl rfl (Nat.le_of_ble_eq_true rfl) rfl ?_
  refine x_aload_n E 0 dX4_row_5 rfl ?_
  refine x_get E 0 16 dX4_row_6 ui_X4_row_X4 rfl rfl (by decide) fl_X4_row_52 rfl rfl ?_
  refine x_qif_ne E 37 dX4_row_9 (by decide) (fun h => False.elim (by cases h)) (fun h9 => ?_)
  refine x_aload_n E 0 dX4_row_12 rfl ?_
  refine x_get E 0 15 dX4_row_13 ui_X4_row_X4 rfl rfl (by decide) fl_X4_row_56 rfl rfl ?_
  refine x_nif_eq E 37 dX4_row_16 (by decide) (by omega) (fun h => False.elim (by omega)) (fun h16 => ?_)
  refine x_iload_n E 1 dX4_row_19 rfl ?_
  refine x_nif_lt E 37 dX4_row_20 (by decide) (by omega) (fun h => absurd h (fun h => Nat.not_lt_zero _ h)) (fun h20 => ?_)
  refine x_iload_n E 1 dX4_row_23 rfl ?_
  refine x_ldc E (v := nI 1000000000) dX4_row_24 cn_X4_row_65 (by decide +kernel) ?_
  refine x_ncmp_gt E 37 dX4_row_26 (by decide) (by omega) (by decide) (fun h => False.elim (by omega)) (fun h26 => ?_)
  refine x_iload_n E 1 dX4_row_29 rfl ?_
  refine x_aload_n E 0 dX4_row_30 rfl ?_
  refine x_cV E [] [.int (nI s0)] [.int (nI (lastR nr kn nS S)), .int (nI s0)] [(r0, .inr (4, [.ref d0, .ref d1, .ref d2, .ref d3, .ref d4, .int (nI kn), .int (nI mv), .ref d5, .ref d6, .int (nI ng), .ref d7, .ref d8, .ref d9, .int (nI nr), .ref d10, .int (nI fc), .int (if false = true then 1 else 0), .int (nI rp), .int bad, .int (nI 0), .int (nI sr), .int (nI sb), .int (nI at9)])), (d0, .inl (cI, 16384, .inl (uf B))), (d1, .inl (cI, 2, .inl (nf z))), (d2, .inl (cI, 600, .inl (nf S))), (d3, .inl (cI, 600, .inl (nf Ln))), (d4, .inl (cI, 38400, .inl (uf K))), (d5, .inl (cI, 600, .inl (nf gr))), (d6, .inl (cI, 600, .inl (nf gb))), (d7, .inl (cI, 16, .inl (nf nS))), (d8, .inl (cI, 16, .inl (nf nL))), (d9, .inl (cI, 1024, .inl (uf nK))), (d10, .inl (cI, 64, .inl (uf F)))] (c_X4_lastSecond l D cB cI cZ cJ r0 d0 d1 d2 d3 d4 d5 d6 d7 d8 d9 d10 kn mv ng nr fc false rp bad 0 sr sb at9 B z S Ln K gr gb nS nL nK F (by omega) (by omega)) 0 rfl rfl (cwV 0 hts gX4_row_X4_lastSecond rfl rfl rfl (by decide +kernel) ⟨Nat.le_of_ble_eq_true rfl, Nat.le_of_ble_eq_true rfl⟩) [0, 1, 2, 3, 4, 5, 6, 7, 8, 9, 10, 11] [] rfl rfl (by decide) (by decide) (by decide) [0, 1, 2, 3, 4, 5, 6, 7, 8, 9, 10, 11] (by decide) rfl rfl (Nat.le_of_ble_eq_true rfl) dX4_row_31 ⟨Nat.zero_le _, Nat.zero_le _⟩ rfl rfl ?_
  refine x_ncmp_ge E 39 dX4_row_34 (by decide) (by omega) (by omega) (fun h34 => ?_) (fun h => False.elim (by omega))
  refine x_aload_n E 0 dX4_row_39 rfl ?_
  refine x_get E 0 13 dX4_row_40 ui_X4_row_X4 rfl rfl (by decide) fl_X4_row_59 rfl rfl ?_
  refine x_bipush E (v := nI 16) dX4_row_43 (by decide) ?_
  refine x_ncmp_eq E 63 dX4_row_45 (by decide) (by omega) (by decide) (fun h45 => ?_) (fun h45 => ?_)
  · refine x_bipush E (v := (-2)) dX4_row_63 (by decide) ?_
    exact x_iret E hr hlocks dX4_row_65 ⟨rfl, rfl⟩
  · refine x_aload_n E 0 dX4_row_48 rfl ?_
    refine x_get E 0 5 dX4_row_49 ui_X4_row_X4 rfl rfl (by decide) fl_X4_row_62 rfl rfl ?_
    refine x_aload_n E 0 dX4_row_52 rfl ?_
    refine x_get E 0 13 dX4_row_53 ui_X4_row_X4 rfl rfl (by decide) fl_X4_row_59 rfl rfl ?_
    refine x_niadd E dX4_row_56 ?_
    refine x_sipush E (v := nI 600) dX4_row_57 (by decide) ?_
    refine x_ncmp_ne E 66 dX4_row_60 (by decide) (by omega) (by decide) (fun h => False.elim (by omega)) (fun h60 => ?_)
    refine x_bipush E (v := (-2)) dX4_row_63 (by decide) ?_
    exact x_iret E hr hlocks dX4_row_65 ⟨rfl, rfl⟩
set_option maxRecDepth 100000 in
set_option maxHeartbeats 4000000 in
theorem c_X4_row_ok (l : Launch) (D : va_G) (cB cI cZ cJ : ClassId) (r0 : Nat) (d0 : Nat) (d1 : Nat) (d2 : Nat) (d3 : Nat) (d4 : Nat) (d5 : Nat) (d6 : Nat) (d7 : Nat) (d8 : Nat) (d9 : Nat) (d10 : Nat) (kn : Nat) (mv : Nat) (ng : Nat) (nr : Nat) (fc : Nat) (sh : Bool) (rp : Nat) (bad : Int32) (th : Nat) (sr : Nat) (sb : Nat) (at9 : Nat) (B : Nat → UInt8) (z : Nat → Nat) (S : Nat → Nat) (Ln : Nat → Nat) (K : Nat → UInt8) (gr : Nat → Nat) (gb : Nat → Nat) (nS : Nat → Nat) (nL : Nat → Nat) (nK : Nat → UInt8) (F : Nat → UInt8) (s0 : Nat) (hnr : nr ≤ 16) (hkr : kn + nr ≤ 600) (hfc : 0 < fc) (hf2 : fc ≤ 64) (hs1 : lastR nr kn nS S ≤ s0) (hs2 : s0 ≤ 1000000000) (h16 : nr < 16) (h600 : kn + nr < 600) : Ct l D vwCl (tyl cB cI cZ cJ) yX4_row wsX4_row rmX4_row [.ref r0, .int (nI s0)] [(r0, .inr (4, [.ref d0, .ref d1, .ref d2, .ref d3, .ref d4, .int (nI kn), .int (nI mv), .ref d5, .ref d6, .int (nI ng), .ref d7, .ref d8, .ref d9, .int (nI nr), .ref d10, .int (nI fc), .int (if false = true then 1 else 0), .int (nI rp), .int bad, .int (nI th), .int (nI sr), .int (nI sb), .int (nI at9)])), (d0, .inl (cI, 16384, .inl (uf B))), (d1, .inl (cI, 2, .inl (nf z))), (d2, .inl (cI, 600, .inl (nf S))), (d3, .inl (cI, 600, .inl (nf Ln))), (d4, .inl (cI, 38400, .inl (uf K))), (d5, .inl (cI, 600, .inl (nf gr))), (d6, .inl (cI, 600, .inl (nf gb))), (d7, .inl (cI, 16, .inl (nf nS))), (d8, .inl (cI, 16, .inl (nf nL))), (d9, .inl (cI, 1024, .inl (uf nK))), (d10, .inl (cI, 64, .inl (uf F)))] (some (.int (nI nr))) [(r0, .inr (4, [.ref d0, .ref d1, .ref d2, .ref d3, .ref d4, .int (nI kn), .int (nI mv), .ref d5, .ref d6, .int (nI ng), .ref d7, .ref d8, .ref d9, .int (nI (nr + 1)), .ref d10, .int (nI 0), .int (if false = true then 1 else 0), .int (nI rp), .int bad, .int (nI 0), .int (nI sr), .int (nI sb), .int (nI at9)])), (d0, .inl (cI, 16384, .inl (uf B))), (d1, .inl (cI, 2, .inl (nf z))), (d2, .inl (cI, 600, .inl (nf S))), (d3, .inl (cI, 600, .inl (nf Ln))), (d4, .inl (cI, 38400, .inl (uf K))), (d5, .inl (cI, 600, .inl (nf gr))), (d6, .inl (cI, 600, .inl (nf gb))), (d7, .inl (cI, 16, .inl (nf (va_up nS nr s0)))), (d8, .inl (cI, 16, .inl (nf (va_up nL nr fc)))), (d9, .inl (cI, 1024, .inl (uf (app nK (nr * 64) (conL F 0 fc))))), (d10, .inl (cI, 64, .inl (uf F)))] := by
  refine x_start (cc := cX4_row) (maxL := 3) (ret := (some .int)) (by decide) rfl (Nat.le_of_ble_eq_true rfl) ?_
  intro xp xe xs xm xb xt xc xA E hr hlocks hnm
  obtain ⟨-, -, -, hown, hts, hK, hA⟩ := id E
  refine x_lve (lv' := [(0, .ref r0), (1, .int (nI s0))]) rfl ?_
  have loop : ∀ (j i : Nat) (K2 : Nat → UInt8), i + j = fc → app K2 (nr * 64 + i) (conL F i j) = app nK (nr * 64) (conL F 0 fc) → Xs xp l xe rmX4_row xs xm ([.ref r0, .int (nI s0)] : List Value).toArray xb xt xc D vwCl xA 3 0 0 (MQ xb (CQ D vwCl (tyl cB cI cZ cJ) xA (fun r u => r = (some (.int (nI nr))) ∧ u = [(r0, .inr (4, [.ref d0, .ref d1, .ref d2, .ref d3, .ref d4, .int (nI kn), .int (nI mv), .ref d5, .ref d6, .int (nI ng), .ref d7, .ref d8, .ref d9, .int (nI (nr + 1)), .ref d10, .int (nI 0), .int (if false = true then 1 else 0), .int (nI rp), .int bad, .int (nI 0), .int (nI sr), .int (nI sb), .int (nI at9)])), (d0, .inl (cI, 16384, .inl (uf B))), (d1, .inl (cI, 2, .inl (nf z))), (d2, .inl (cI, 600, .inl (nf S))), (d3, .inl (cI, 600, .inl (nf Ln))), (d4, .inl (cI, 38400, .inl (uf K))), (d5, .inl (cI, 600, .inl (nf gr))), (d6, .inl (cI, 600, .inl (nf gb))), (d7, .inl (cI, 16, .inl (nf (va_up nS nr s0)))), (d8, .inl (cI, 16, .inl (nf (va_up nL nr fc)))), (d9, .inl (cI, 1024, .inl (uf (app nK (nr * 64) (conL F 0 fc))))), (d10, .inl (cI, 64, .inl (uf F)))])) ([.ref r0, .int (nI s0)] : List Value).toArray xs 0 0 xA) [(r0, .inr (4, [.ref d0, .ref d1, .ref d2, .ref d3, .ref d4, .int (nI kn), .int (nI mv), .ref d5, .ref d6, .int (nI ng), .ref d7, .ref d8, .ref d9, .int (nI nr), .ref d10, .int (nI fc), .int (if false = true then 1 else 0), .int (nI rp), .int bad, .int (nI 0), .int (nI sr), .int (nI sb), .int (nI at9)])), (d0, .inl (cI, 16384, .inl (uf B))), (d1, .inl (cI, 2, .inl (nf z))), (d2, .inl (cI, 600, .inl (nf S))), (d3, .inl (cI, 600, .inl (nf Ln))), (d4, .inl (cI, 38400, .inl (uf K))), (d5, .inl (cI, 600, .inl (nf gr))), (d6, .inl (cI, 600, .inl (nf gb))), (d7, .inl (cI, 16, .inl (nf (va_up nS nr s0)))), (d8, .inl (cI, 16, .inl (nf (va_up nL nr fc)))), (d9, .inl (cI, 1024, .inl (uf K2))), (d10, .inl (cI, 64, .inl (uf F)))] [(2, .int (nI i)), (0, .ref r0), (1, .int (nI s0))] 91 [] := by
    intro j
    induction j with
    | zero =>
      intro i K2 e1 e2
      have e2 : K2 = app nK (nr * 64) (conL F 0 fc) := e2
      subst e2
      refine x_iload_n E 0 dX4_row_91 rfl ?_
      refine x_aload_n E 1 dX4_row_92 rfl ?_
      refine x_get E 0 15 dX4_row_93 ui_X4_row_X4 rfl rfl (by decide) fl_X4_row_56 rfl rfl ?_
      refine x_ncmp_ge E 125 dX4_row_96 (by decide) (by omega) (by omega) (fun h96 => ?_) (fun h => False.elim (by omega))
      refine x_aload_n E 1 dX4_row_125 rfl ?_
      refine x_iconst E (v := nI 0) dX4_row_126 (by decide) ?_
      refine x_put E 0 15 [(r0, .inr (4, [.ref d0, .ref d1, .ref d2, .ref d3, .ref d4, .int (nI kn), .int (nI mv), .ref d5, .ref d6, .int (nI ng), .ref d7, .ref d8, .ref d9, .int (nI nr), .ref d10, .int (nI 0), .int (if false = true then 1 else 0), .int (nI rp), .int bad, .int (nI 0), .int (nI sr), .int (nI sb), .int (nI at9)])), (d0, .inl (cI, 16384, .inl (uf B))), (d1, .inl (cI, 2, .inl (nf z))), (d2, .inl (cI, 600, .inl (nf S))), (d3, .inl (cI, 600, .inl (nf Ln))), (d4, .inl (cI, 38400, .inl (uf K))), (d5, .inl (cI, 600, .inl (nf gr))), (d6, .inl (cI, 600, .inl (nf gb))), (d7, .inl (cI, 16, .inl (nf (va_up nS nr s0)))), (d8, .inl (cI, 16, .inl (nf (va_up nL nr fc)))), (d9, .inl (cI, 1024, .inl (uf (app nK (nr * 64) (conL F 0 fc))))), (d10, .inl (cI, 64, .inl (uf F)))] dX4_row_127 ui_X4_row_X4 tyX4_ok nmX4 rfl rfl (by decide) fl_X4_row_56 rfl rfl rfl rfl (Nat.le_of_ble_eq_true rfl) rfl ?_
      refine x_aload_n E 1 dX4_row_130 rfl ?_
      refine x_dup E dX4_row_131 rfl ?_
      refine x_get E 0 13 dX4_row_132 ui_X4_row_X4 rfl rfl (by decide) fl_X4_row_59 rfl rfl ?_
      refine x_iconst E (v := nI 1) dX4_row_135 (by decide) ?_
      refine x_niadd E dX4_row_136 ?_
      refine x_put E 0 13 [(r0, .inr (4, [.ref d0, .ref d1, .ref d2, .ref d3, .ref d4, .int (nI kn), .int (nI mv), .ref d5, .ref d6, .int (nI ng), .ref d7, .ref d8, .ref d9, .int (nI (nr + 1)), .ref d10, .int (nI 0), .int (if false = true then 1 else 0), .int (nI rp), .int bad, .int (nI 0), .int (nI sr), .int (nI sb), .int (nI at9)])), (d0, .inl (cI, 16384, .inl (uf B))), (d1, .inl (cI, 2, .inl (nf z))), (d2, .inl (cI, 600, .inl (nf S))), (d3, .inl (cI, 600, .inl (nf Ln))), (d4, .inl (cI, 38400, .inl (uf K))), (d5, .inl (cI, 600, .inl (nf gr))), (d6, .inl (cI, 600, .inl (nf gb))), (d7, .inl (cI, 16, .inl (nf (va_up nS nr s0)))), (d8, .inl (cI, 16, .inl (nf (va_up nL nr fc)))), (d9, .inl (cI, 1024, .inl (uf (app nK (nr * 64) (conL F 0 fc))))), (d10, .inl (cI, 64, .inl (uf F)))] dX4_row_137 ui_X4_row_X4 tyX4_ok nmX4 rfl rfl (by decide) fl_X4_row_59 rfl rfl rfl rfl (Nat.le_of_ble_eq_true rfl) rfl ?_
      refine x_aload_n E 1 dX4_row_140 rfl ?_
      refine x_get E 0 13 dX4_row_141 ui_X4_row_X4 rfl rfl (by decide) fl_X4_row_59 rfl rfl ?_
      refine x_iconst E (v := nI 1) dX4_row_144 (by decide) ?_
      refine x_nisub E dX4_row_145 (by omega) ?_
      exact x_iret E hr hlocks dX4_row_146 ⟨rfl, rfl⟩
    | succ j ih =>
      intro i K2 e1 e2
      refine x_iload_n E 0 dX4_row_91 rfl ?_
      refine x_aload_n E 1 dX4_row_92 rfl ?_
      refine x_get E 0 15 dX4_row_93 ui_X4_row_X4 rfl rfl (by decide) fl_X4_row_56 rfl rfl ?_
      refine x_ncmp_ge E 125 dX4_row_96 (by decide) (by omega) (by omega) (fun h => False.elim (by omega)) (fun h96 => ?_)
      refine x_aload_n E 1 dX4_row_99 rfl ?_
      refine x_get E 0 12 dX4_row_100 ui_X4_row_X4 rfl rfl (by decide) fl_X4_row_38 rfl rfl ?_
      refine x_aload_n E 1 dX4_row_103 rfl ?_
      refine x_get E 0 13 dX4_row_104 ui_X4_row_X4 rfl rfl (by decide) fl_X4_row_59 rfl rfl ?_
      refine x_bipush E (v := nI 64) dX4_row_107 (by decide) ?_
      refine x_nimul E dX4_row_109 ?_
      refine x_iload_n E 0 dX4_row_110 rfl ?_
      refine x_niadd E dX4_row_111 ?_
      refine x_aload_n E 1 dX4_row_112 rfl ?_
      refine x_get E 0 14 dX4_row_113 ui_X4_row_X4 rfl rfl (by decide) fl_X4_row_41 rfl rfl ?_
      refine x_iload_n E 0 dX4_row_116 rfl ?_
      refine x_uald E 11 1 dX4_row_117 rfl rfl (by omega) (by decide) ?_
      refine x_uast E 10 1 [(r0, .inr (4, [.ref d0, .ref d1, .ref d2, .ref d3, .ref d4, .int (nI kn), .int (nI mv), .ref d5, .ref d6, .int (nI ng), .ref d7, .ref d8, .ref d9, .int (nI nr), .ref d10, .int (nI fc), .int (if false = true then 1 else 0), .int (nI rp), .int bad, .int (nI 0), .int (nI sr), .int (nI sb), .int (nI at9)])), (d0, .inl (cI, 16384, .inl (uf B))), (d1, .inl (cI, 2, .inl (nf z))), (d2, .inl (cI, 600, .inl (nf S))), (d3, .inl (cI, 600, .inl (nf Ln))), (d4, .inl (cI, 38400, .inl (uf K))), (d5, .inl (cI, 600, .inl (nf gr))), (d6, .inl (cI, 600, .inl (nf gb))), (d7, .inl (cI, 16, .inl (nf (va_up nS nr s0)))), (d8, .inl (cI, 16, .inl (nf (va_up nL nr fc)))), (d9, .inl (cI, 1024, .inl (uf (va_up K2 ((nr * 64) + i) (F i))))), (d10, .inl (cI, 64, .inl (uf F)))] dX4_row_118 rfl rfl (by omega) (by decide) rfl rfl ?_
      refine x_iinc E 0 [(2, .int (nI (i + 1))), (0, .ref r0), (1, .int (nI s0))] dX4_row_119 rfl (nI_add _ _) (by decide) rfl ?_
      refine x_goto E 91 dX4_row_122 (by decide) ?_
      exact ih (i + 1) _ (by omega) (by rw [← e2, conL_s, app_s]; rfl)
  refine x_aload_n E 0 dX4_row_0 rfl ?_
  refine x_iconst E (v := nI 0) dX4_row_1 (by decide) ?_
  refine x_put E 0 19 [(r0, .inr (4, [.ref d0, .ref d1, .ref d2, .ref d3, .ref d4, .int (nI kn), .int (nI mv), .ref d5, .ref d6, .int (nI ng), .ref d7, .ref d8, .ref d9, .int (nI nr), .ref d10, .int (nI fc), .int (if false = true then 1 else 0), .int (nI rp), .int bad, .int (nI 0), .int (nI sr), .int (nI sb), .int (nI at9)])), (d0, .inl (cI, 16384, .inl (uf B))), (d1, .inl (cI, 2, .inl (nf z))), (d2, .inl (cI, 600, .inl (nf S))), (d3, .inl (cI, 600, .inl (nf Ln))), (d4, .inl (cI, 38400, .inl (uf K))), (d5, .inl (cI, 600, .inl (nf gr))), (d6, .inl (cI, 600, .inl (nf gb))), (d7, .inl (cI, 16, .inl (nf nS))), (d8, .inl (cI, 16, .inl (nf nL))), (d9, .inl (cI, 1024, .inl (uf nK))), (d10, .inl (cI, 64, .inl (uf F)))] dX4_row_2 ui_X4_row_X4 tyX4_ok nmX4 rfl rfl (by decide) fl_X4_row_48 rfl rfl rfl rfl (Nat.le_of_ble_eq_true rfl) rfl ?_
  refine x_aload_n E 0 dX4_row_5 rfl ?_
  refine x_get E 0 16 dX4_row_6 ui_X4_row_X4 rfl rfl (by decide) fl_X4_row_52 rfl rfl ?_
  refine x_qif_ne E 37 dX4_row_9 (by decide) (fun h => False.elim (by cases h)) (fun h9 => ?_)
  refine x_aload_n E 0 dX4_row_12 rfl ?_
  refine x_get E 0 15 dX4_row_13 ui_X4_row_X4 rfl rfl (by decide) fl_X4_row_56 rfl rfl ?_
  refine x_nif_eq E 37 dX4_row_16 (by decide) (by omega) (fun h => False.elim (by omega)) (fun h16 => ?_)
  refine x_iload_n E 1 dX4_row_19 rfl ?_
  refine x_nif_lt E 37 dX4_row_20 (by decide) (by omega) (fun h => absurd h (fun h => Nat.not_lt_zero _ h)) (fun h20 => ?_)
  refine x_iload_n E 1 dX4_row_23 rfl ?_
  refine x_ldc E (v := nI 1000000000) dX4_row_24 cn_X4_row_65 (by decide +kernel) ?_
  refine x_ncmp_gt E 37 dX4_row_26 (by decide) (by omega) (by decide) (fun h => False.elim (by omega)) (fun h26 => ?_)
  refine x_iload_n E 1 dX4_row_29 rfl ?_
  refine x_aload_n E 0 dX4_row_30 rfl ?_
  refine x_cV E [] [.int (nI s0)] [.int (nI (lastR nr kn nS S)), .int (nI s0)] [(r0, .inr (4, [.ref d0, .ref d1, .ref d2, .ref d3, .ref d4, .int (nI kn), .int (nI mv), .ref d5, .ref d6, .int (nI ng), .ref d7, .ref d8, .ref d9, .int (nI nr), .ref d10, .int (nI fc), .int (if false = true then 1 else 0), .int (nI rp), .int bad, .int (nI 0), .int (nI sr), .int (nI sb), .int (nI at9)])), (d0, .inl (cI, 16384, .inl (uf B))), (d1, .inl (cI, 2, .inl (nf z))), (d2, .inl (cI, 600, .inl (nf S))), (d3, .inl (cI, 600, .inl (nf Ln))), (d4, .inl (cI, 38400, .inl (uf K))), (d5, .inl (cI, 600, .inl (nf gr))), (d6, .inl (cI, 600, .inl (nf gb))), (d7, .inl (cI, 16, .inl (nf nS))), (d8, .inl (cI, 16, .inl (nf nL))), (d9, .inl (cI, 1024, .inl (uf nK))), (d10, .inl (cI, 64, .inl (uf F)))] (c_X4_lastSecond l D cB cI cZ cJ r0 d0 d1 d2 d3 d4 d5 d6 d7 d8 d9 d10 kn mv ng nr fc false rp bad 0 sr sb at9 B z S Ln K gr gb nS nL nK F (by omega) (by omega)) 0 rfl rfl (cwV 0 hts gX4_row_X4_lastSecond rfl rfl rfl (by decide +kernel) ⟨Nat.le_of_ble_eq_true rfl, Nat.le_of_ble_eq_true rfl⟩) [0, 1, 2, 3, 4, 5, 6, 7, 8, 9, 10, 11] [] rfl rfl (by decide) (by decide) (by decide) [0, 1, 2, 3, 4, 5, 6, 7, 8, 9, 10, 11] (by decide) rfl rfl (Nat.le_of_ble_eq_true rfl) dX4_row_31 ⟨Nat.zero_le _, Nat.zero_le _⟩ rfl rfl ?_
  refine x_ncmp_ge E 39 dX4_row_34 (by decide) (by omega) (by omega) (fun h34 => ?_) (fun h => False.elim (by omega))
  refine x_aload_n E 0 dX4_row_39 rfl ?_
  refine x_get E 0 13 dX4_row_40 ui_X4_row_X4 rfl rfl (by decide) fl_X4_row_59 rfl rfl ?_
  refine x_bipush E (v := nI 16) dX4_row_43 (by decide) ?_
  refine x_ncmp_eq E 63 dX4_row_45 (by decide) (by omega) (by decide) (fun h => False.elim (by omega)) (fun h45 => ?_)
  refine x_aload_n E 0 dX4_row_48 rfl ?_
  refine x_get E 0 5 dX4_row_49 ui_X4_row_X4 rfl rfl (by decide) fl_X4_row_62 rfl rfl ?_
  refine x_aload_n E 0 dX4_row_52 rfl ?_
  refine x_get E 0 13 dX4_row_53 ui_X4_row_X4 rfl rfl (by decide) fl_X4_row_59 rfl rfl ?_
  refine x_niadd E dX4_row_56 ?_
  refine x_sipush E (v := nI 600) dX4_row_57 (by decide) ?_
  refine x_ncmp_ne E 66 dX4_row_60 (by decide) (by omega) (by decide) (fun h60 => ?_) (fun h => False.elim (by omega))
  refine x_aload_n E 0 dX4_row_66 rfl ?_
  refine x_get E 0 10 dX4_row_67 ui_X4_row_X4 rfl rfl (by decide) fl_X4_row_32 rfl rfl ?_
  refine x_aload_n E 0 dX4_row_70 rfl ?_
  refine x_get E 0 13 dX4_row_71 ui_X4_row_X4 rfl rfl (by decide) fl_X4_row_59 rfl rfl ?_
  refine x_iload_n E 1 dX4_row_74 rfl ?_
  refine x_nast E 8 1 [(r0, .inr (4, [.ref d0, .ref d1, .ref d2, .ref d3, .ref d4, .int (nI kn), .int (nI mv), .ref d5, .ref d6, .int (nI ng), .ref d7, .ref d8, .ref d9, .int (nI nr), .ref d10, .int (nI fc), .int (if false = true then 1 else 0), .int (nI rp), .int bad, .int (nI 0), .int (nI sr), .int (nI sb), .int (nI at9)])), (d0, .inl (cI, 16384, .inl (uf B))), (d1, .inl (cI, 2, .inl (nf z))), (d2, .inl (cI, 600, .inl (nf S))), (d3, .inl (cI, 600, .inl (nf Ln))), (d4, .inl (cI, 38400, .inl (uf K))), (d5, .inl (cI, 600, .inl (nf gr))), (d6, .inl (cI, 600, .inl (nf gb))), (d7, .inl (cI, 16, .inl (nf (va_up nS nr s0)))), (d8, .inl (cI, 16, .inl (nf nL))), (d9, .inl (cI, 1024, .inl (uf nK))), (d10, .inl (cI, 64, .inl (uf F)))] dX4_row_75 rfl rfl (by omega) (by decide) rfl ?_
  refine x_aload_n E 0 dX4_row_76 rfl ?_
  refine x_get E 0 11 dX4_row_77 ui_X4_row_X4 rfl rfl (by decide) fl_X4_row_35 rfl rfl ?_
  refine x_aload_n E 0 dX4_row_80 rfl ?_
  refine x_get E 0 13 dX4_row_81 ui_X4_row_X4 rfl rfl (by decide) fl_X4_row_59 rfl rfl ?_
  refine x_aload_n E 0 dX4_row_84 rfl ?_
  refine x_get E 0 15 dX4_row_85 ui_X4_row_X4 rfl rfl (by decide) fl_X4_row_56 rfl rfl ?_
  refine x_nast E 9 1 [(r0, .inr (4, [.ref d0, .ref d1, .ref d2, .ref d3, .ref d4, .int (nI kn), .int (nI mv), .ref d5, .ref d6, .int (nI ng), .ref d7, .ref d8, .ref d9, .int (nI nr), .ref d10, .int (nI fc), .int (if false = true then 1 else 0), .int (nI rp), .int bad, .int (nI 0), .int (nI sr), .int (nI sb), .int (nI at9)])), (d0, .inl (cI, 16384, .inl (uf B))), (d1, .inl (cI, 2, .inl (nf z))), (d2, .inl (cI, 600, .inl (nf S))), (d3, .inl (cI, 600, .inl (nf Ln))), (d4, .inl (cI, 38400, .inl (uf K))), (d5, .inl (cI, 600, .inl (nf gr))), (d6, .inl (cI, 600, .inl (nf gb))), (d7, .inl (cI, 16, .inl (nf (va_up nS nr s0)))), (d8, .inl (cI, 16, .inl (nf (va_up nL nr fc)))), (d9, .inl (cI, 1024, .inl (uf nK))), (d10, .inl (cI, 64, .inl (uf F)))] dX4_row_88 rfl rfl (by omega) (by decide) rfl ?_
  refine x_iconst E (v := nI 0) dX4_row_89 (by decide) ?_
  refine x_istore_n E [(2, .int (nI 0)), (0, .ref r0), (1, .int (nI s0))] dX4_row_90 (by decide) rfl ?_
  exact loop fc 0 nK (by omega) rfl
set_option maxRecDepth 100000 in
set_option maxHeartbeats 4000000 in
theorem c_X4_write (l : Launch) (D : va_G) (cB cI cZ cJ : ClassId) (r0 : Nat) (d0 : Nat) (d1 : Nat) (d2 : Nat) (d3 : Nat) (d4 : Nat) (d5 : Nat) (d6 : Nat) (d7 : Nat) (d8 : Nat) (d9 : Nat) (d10 : Nat) (kn : Nat) (mv : Nat) (ng : Nat) (nr : Nat) (fc : Nat) (sh : Bool) (rp : Nat) (bad : Int32) (th : Nat) (sr : Nat) (sb : Nat) (at9 : Nat) (B : Nat → UInt8) (z : Nat → Nat) (S : Nat → Nat) (Ln : Nat → Nat) (K : Nat → UInt8) (gr : Nat → Nat) (gb : Nat → Nat) (nS : Nat → Nat) (nL : Nat → Nat) (nK : Nat → UInt8) (F : Nat → UInt8) (s : Int32) (b : Int32) (v : UInt8) (hat : at9 < 8192) (hv : b = nI v.toNat) : Ct l D vwCl (tyl cB cI cZ cJ) yX4_write wsX4_write rmX4_write [.ref r0, .int s, .int b] [(r0, .inr (4, [.ref d0, .ref d1, .ref d2, .ref d3, .ref d4, .int (nI kn), .int (nI mv), .ref d5, .ref d6, .int (nI ng), .ref d7, .ref d8, .ref d9, .int (nI nr), .ref d10, .int (nI fc), .int (if sh = true then 1 else 0), .int (nI rp), .int bad, .int (nI th), .int (nI sr), .int (nI sb), .int (nI at9)])), (d0, .inl (cI, 16384, .inl (uf B))), (d1, .inl (cI, 2, .inl (nf z))), (d2, .inl (cI, 600, .inl (nf S))), (d3, .inl (cI, 600, .inl (nf Ln))), (d4, .inl (cI, 38400, .inl (uf K))), (d5, .inl (cI, 600, .inl (nf gr))), (d6, .inl (cI, 600, .inl (nf gb))), (d7, .inl (cI, 16, .inl (nf nS))), (d8, .inl (cI, 16, .inl (nf nL))), (d9, .inl (cI, 1024, .inl (uf nK))), (d10, .inl (cI, 64, .inl (uf F)))] (some (.int (sm s v))) [(r0, .inr (4, [.ref d0, .ref d1, .ref d2, .ref d3, .ref d4, .int (nI kn), .int (nI mv), .ref d5, .ref d6, .int (nI ng), .ref d7, .ref d8, .ref d9, .int (nI nr), .ref d10, .int (nI fc), .int (if sh = true then 1 else 0), .int (nI rp), .int bad, .int (nI th), .int (nI sr), .int (nI sb), .int (nI (at9 + 1))])), (d0, .inl (cI, 16384, .inl (uf (va_up (va_up B at9 v) (8192 + at9) v)))), (d1, .inl (cI, 2, .inl (nf z))), (d2, .inl (cI, 600, .inl (nf S))), (d3, .inl (cI, 600, .inl (nf Ln))), (d4, .inl (cI, 38400, .inl (uf K))), (d5, .inl (cI, 600, .inl (nf gr))), (d6, .inl (cI, 600, .inl (nf gb))), (d7, .inl (cI, 16, .inl (nf nS))), (d8, .inl (cI, 16, .inl (nf nL))), (d9, .inl (cI, 1024, .inl (uf nK))), (d10, .inl (cI, 64, .inl (uf F)))] := by
  refine x_start (cc := cX4_write) (maxL := 3) (ret := (some .int)) (by decide) rfl (Nat.le_of_ble_eq_true rfl) ?_
  intro xp xe xs xm xb xt xc xA E hr hlocks hnm
  obtain ⟨-, -, -, hown, hts, hK, hA⟩ := id E
  refine x_lve (lv' := [(0, .ref r0), (1, .int s), (2, .int b)]) rfl ?_
  refine x_aload_n E 0 dX4_write_0 rfl ?_
  refine x_get E 0 0 dX4_write_1 ui_X4_write_X4 rfl rfl (by decide) fl_X4_write_9 rfl rfl ?_
  refine x_aload_n E 0 dX4_write_4 rfl ?_
  refine x_get E 0 22 dX4_write_5 ui_X4_write_X4 rfl rfl (by decide) fl_X4_write_70 rfl rfl ?_
  refine x_iload_n E 2 dX4_write_8 rfl ?_
  refine x_uast E 1 1 [(r0, .inr (4, [.ref d0, .ref d1, .ref d2, .ref d3, .ref d4, .int (nI kn), .int (nI mv), .ref d5, .ref d6, .int (nI ng), .ref d7, .ref d8, .ref d9, .int (nI nr), .ref d10, .int (nI fc), .int (if sh = true then 1 else 0), .int (nI rp), .int bad, .int (nI th), .int (nI sr), .int (nI sb), .int (nI at9)])), (d0, .inl (cI, 16384, .inl (uf (va_up B at9 v)))), (d1, .inl (cI, 2, .inl (nf z))), (d2, .inl (cI, 600, .inl (nf S))), (d3, .inl (cI, 600, .inl (nf Ln))), (d4, .inl (cI, 38400, .inl (uf K))), (d5, .inl (cI, 600, .inl (nf gr))), (d6, .inl (cI, 600, .inl (nf gb))), (d7, .inl (cI, 16, .inl (nf nS))), (d8, .inl (cI, 16, .inl (nf nL))), (d9, .inl (cI, 1024, .inl (uf nK))), (d10, .inl (cI, 64, .inl (uf F)))] dX4_write_9 rfl rfl (by omega) (by decide) hv rfl ?_
  refine x_aload_n E 0 dX4_write_10 rfl ?_
  refine x_get E 0 0 dX4_write_11 ui_X4_write_X4 rfl rfl (by decide) fl_X4_write_9 rfl rfl ?_
  refine x_sipush E (v := nI 8192) dX4_write_14 (by decide) ?_
  refine x_aload_n E 0 dX4_write_17 rfl ?_
  refine x_get E 0 22 dX4_write_18 ui_X4_write_X4 rfl rfl (by decide) fl_X4_write_70 rfl rfl ?_
  refine x_niadd E dX4_write_21 ?_
  refine x_iload_n E 2 dX4_write_22 rfl ?_
  refine x_uast E 1 1 [(r0, .inr (4, [.ref d0, .ref d1, .ref d2, .ref d3, .ref d4, .int (nI kn), .int (nI mv), .ref d5, .ref d6, .int (nI ng), .ref d7, .ref d8, .ref d9, .int (nI nr), .ref d10, .int (nI fc), .int (if sh = true then 1 else 0), .int (nI rp), .int bad, .int (nI th), .int (nI sr), .int (nI sb), .int (nI at9)])), (d0, .inl (cI, 16384, .inl (uf (va_up (va_up B at9 v) (8192 + at9) v)))), (d1, .inl (cI, 2, .inl (nf z))), (d2, .inl (cI, 600, .inl (nf S))), (d3, .inl (cI, 600, .inl (nf Ln))), (d4, .inl (cI, 38400, .inl (uf K))), (d5, .inl (cI, 600, .inl (nf gr))), (d6, .inl (cI, 600, .inl (nf gb))), (d7, .inl (cI, 16, .inl (nf nS))), (d8, .inl (cI, 16, .inl (nf nL))), (d9, .inl (cI, 1024, .inl (uf nK))), (d10, .inl (cI, 64, .inl (uf F)))] dX4_write_23 rfl rfl (by omega) (by decide) hv rfl ?_
  refine x_aload_n E 0 dX4_write_24 rfl ?_
  refine x_dup E dX4_write_25 rfl ?_
  refine x_get E 0 22 dX4_write_26 ui_X4_write_X4 rfl rfl (by decide) fl_X4_write_70 rfl rfl ?_
  refine x_iconst E (v := nI 1) dX4_write_29 (by decide) ?_
  refine x_niadd E dX4_write_30 ?_
  refine x_put E 0 22 [(r0, .inr (4, [.ref d0, .ref d1, .ref d2, .ref d3, .ref d4, .int (nI kn), .int (nI mv), .ref d5, .ref d6, .int (nI ng), .ref d7, .ref d8, .ref d9, .int (nI nr), .ref d10, .int (nI fc), .int (if sh = true then 1 else 0), .int (nI rp), .int bad, .int (nI th), .int (nI sr), .int (nI sb), .int (nI (at9 + 1))])), (d0, .inl (cI, 16384, .inl (uf (va_up (va_up B at9 v) (8192 + at9) v)))), (d1, .inl (cI, 2, .inl (nf z))), (d2, .inl (cI, 600, .inl (nf S))), (d3, .inl (cI, 600, .inl (nf Ln))), (d4, .inl (cI, 38400, .inl (uf K))), (d5, .inl (cI, 600, .inl (nf gr))), (d6, .inl (cI, 600, .inl (nf gb))), (d7, .inl (cI, 16, .inl (nf nS))), (d8, .inl (cI, 16, .inl (nf nL))), (d9, .inl (cI, 1024, .inl (uf nK))), (d10, .inl (cI, 64, .inl (uf F)))] dX4_write_31 ui_X4_write_X4 tyX4_ok nmX4 rfl rfl (by decide) fl_X4_write_70 rfl rfl rfl rfl (Nat.le_of_ble_eq_true rfl) rfl ?_
  refine x_iload_n E 1 dX4_write_34 rfl ?_
  refine x_iload_n E 2 dX4_write_35 rfl ?_
  refine x_cS E [.int s, .int b] [] [.int (sm s v)] [(r0, .inr (4, [.ref d0, .ref d1, .ref d2, .ref d3, .ref d4, .int (nI kn), .int (nI mv), .ref d5, .ref d6, .int (nI ng), .ref d7, .ref d8, .ref d9, .int (nI nr), .ref d10, .int (nI fc), .int (if sh = true then 1 else 0), .int (nI rp), .int bad, .int (nI th), .int (nI sr), .int (nI sb), .int (nI (at9 + 1))])), (d0, .inl (cI, 16384, .inl (uf (va_up (va_up B at9 v) (8192 + at9) v)))), (d1, .inl (cI, 2, .inl (nf z))), (d2, .inl (cI, 600, .inl (nf S))), (d3, .inl (cI, 600, .inl (nf Ln))), (d4, .inl (cI, 38400, .inl (uf K))), (d5, .inl (cI, 600, .inl (nf gr))), (d6, .inl (cI, 600, .inl (nf gb))), (d7, .inl (cI, 16, .inl (nf nS))), (d8, .inl (cI, 16, .inl (nf nL))), (d9, .inl (cI, 1024, .inl (uf nK))), (d10, .inl (cI, 64, .inl (uf F)))] (c_X4_summed_u l D cB cI cZ cJ s b v hv) (va_cwS 2 hts gX4_write_X4_summed rfl rfl rfl (by decide +kernel) ⟨Nat.le_of_ble_eq_true rfl, Nat.le_of_ble_eq_true rfl⟩) [] [0, 1, 2, 3, 4, 5, 6, 7, 8, 9, 10, 11] rfl rfl (by decide) (by decide) (by decide) [0, 1, 2, 3, 4, 5, 6, 7, 8, 9, 10, 11] (by decide) rfl rfl (Nat.le_of_ble_eq_true rfl) dX4_write_36 ⟨Nat.zero_le _, Nat.zero_le _⟩ rfl rfl ?_
  exact x_iret E hr hlocks dX4_write_39 ⟨rfl, rfl⟩
set_option maxRecDepth 100000 in
set_option maxHeartbeats 4000000 in
theorem c_X4_four (l : Launch) (D : va_G) (cB cI cZ cJ : ClassId) (r0 : Nat) (d0 : Nat) (d1 : Nat) (d2 : Nat) (d3 : Nat) (d4 : Nat) (d5 : Nat) (d6 : Nat) (d7 : Nat) (d8 : Nat) (d9 : Nat) (d10 : Nat) (kn : Nat) (mv : Nat) (ng : Nat) (nr : Nat) (fc : Nat) (sh : Bool) (rp : Nat) (bad : Int32) (th : Nat) (sr : Nat) (sb : Nat) (at9 : Nat) (B : Nat → UInt8) (z : Nat → Nat) (S : Nat → Nat) (Ln : Nat → Nat) (K : Nat → UInt8) (gr : Nat → Nat) (gb : Nat → Nat) (nS : Nat → Nat) (nL : Nat → Nat) (nK : Nat → UInt8) (F : Nat → UInt8) (x : Int32) (hat : at9 + 4 ≤ 8192) : Ct l D vwCl (tyl cB cI cZ cJ) yX4_four wsX4_four rmX4_four [.ref r0, .int x] [(r0, .inr (4, [.ref d0, .ref d1, .ref d2, .ref d3, .ref d4, .int (nI kn), .int (nI mv), .ref d5, .ref d6, .int (nI ng), .ref d7, .ref d8, .ref d9, .int (nI nr), .ref d10, .int (nI fc), .int (if sh = true then 1 else 0), .int (nI rp), .int bad, .int (nI th), .int (nI sr), .int (nI sb), .int (nI at9)])), (d0, .inl (cI, 16384, .inl (uf B))), (d1, .inl (cI, 2, .inl (nf z))), (d2, .inl (cI, 600, .inl (nf S))), (d3, .inl (cI, 600, .inl (nf Ln))), (d4, .inl (cI, 38400, .inl (uf K))), (d5, .inl (cI, 600, .inl (nf gr))), (d6, .inl (cI, 600, .inl (nf gb))), (d7, .inl (cI, 16, .inl (nf nS))), (d8, .inl (cI, 16, .inl (nf nL))), (d9, .inl (cI, 1024, .inl (uf nK))), (d10, .inl (cI, 64, .inl (uf F)))] none [(r0, .inr (4, [.ref d0, .ref d1, .ref d2, .ref d3, .ref d4, .int (nI kn), .int (nI mv), .ref d5, .ref d6, .int (nI ng), .ref d7, .ref d8, .ref d9, .int (nI nr), .ref d10, .int (nI fc), .int (if sh = true then 1 else 0), .int (nI rp), .int bad, .int (nI th), .int (nI sr), .int (nI sb), .int (nI (at9 + 4))])), (d0, .inl (cI, 16384, .inl (uf (app2 B at9 (beL x 4))))), (d1, .inl (cI, 2, .inl (nf z))), (d2, .inl (cI, 600, .inl (nf S))), (d3, .inl (cI, 600, .inl (nf Ln))), (d4, .inl (cI, 38400, .inl (uf K))), (d5, .inl (cI, 600, .inl (nf gr))), (d6, .inl (cI, 600, .inl (nf gb))), (d7, .inl (cI, 16, .inl (nf nS))), (d8, .inl (cI, 16, .inl (nf nL))), (d9, .inl (cI, 1024, .inl (uf nK))), (d10, .inl (cI, 64, .inl (uf F)))] := by
  refine x_start (cc := cX4_four) (maxL := 4) (ret := none) (by decide) rfl (Nat.le_of_ble_eq_true rfl) ?_
  intro xp xe xs xm xb xt xc xA E hr hlocks hnm
  obtain ⟨-, -, -, hown, hts, hK, hA⟩ := id E
  refine x_lve (lv' := [(0, .ref r0), (1, .int x)]) rfl ?_
  refine x_bipush E (v := nI 24) dX4_four_0 (by decide) ?_
  refine x_istore_n E [(2, .int (nI 24)), (0, .ref r0), (1, .int x)] dX4_four_2 (by decide) rfl ?_
  refine x_iload_n E 0 dX4_four_3 rfl ?_
  refine x_nif_lt E 26 dX4_four_4 (by decide) (by decide) (fun h => absurd h (fun h => Nat.not_lt_zero _ h)) (fun h4 => ?_)
  refine x_aload_n E 1 dX4_four_7 rfl ?_
  refine x_iconst E (v := nI 0) dX4_four_8 (by decide) ?_
  refine x_iload_n E 2 dX4_four_9 rfl ?_
  refine x_iload_n E 0 dX4_four_10 rfl ?_
  refine x_iushr E dX4_four_11 rfl ?_
  refine x_sipush E (v := nI 255) dX4_four_12 (by decide) ?_
  refine x_iand E dX4_four_15 ?_
  refine x_cV E [.int (nI 0), .int (((x.toUInt32 >>> ((nI 24).toUInt32 &&& Int32.toUInt32 31)).toInt32) &&& (nI 255))] [] [.int (sm (nI 0) (byt x 3))] [(r0, .inr (4, [.ref d0, .ref d1, .ref d2, .ref d3, .ref d4, .int (nI kn), .int (nI mv), .ref d5, .ref d6, .int (nI ng), .ref d7, .ref d8, .ref d9, .int (nI nr), .ref d10, .int (nI fc), .int (if sh = true then 1 else 0), .int (nI rp), .int bad, .int (nI th), .int (nI sr), .int (nI sb), .int (nI (at9 + 1))])), (d0, .inl (cI, 16384, .inl (uf (va_up (va_up B at9 (byt x 3)) (8192 + at9) (byt x 3))))), (d1, .inl (cI, 2, .inl (nf z))), (d2, .inl (cI, 600, .inl (nf S))), (d3, .inl (cI, 600, .inl (nf Ln))), (d4, .inl (cI, 38400, .inl (uf K))), (d5, .inl (cI, 600, .inl (nf gr))), (d6, .inl (cI, 600, .inl (nf gb))), (d7, .inl (cI, 16, .inl (nf nS))), (d8, .inl (cI, 16, .inl (nf nL))), (d9, .inl (cI, 1024, .inl (uf nK))), (d10, .inl (cI, 64, .inl (uf F)))] (c_X4_write l D cB cI cZ cJ r0 d0 d1 d2 d3 d4 d5 d6 d7 d8 d9 d10 kn mv ng nr fc sh rp bad th sr sb at9 B z S Ln K gr gb nS nL nK F (nI 0) (((x.toUInt32 >>> ((nI 24).toUInt32 &&& Int32.toUInt32 31)).toInt32) &&& (nI 255)) (byt x 3) (by omega) (u8_255 _)) 0 rfl rfl (cwV 2 hts gX4_four_X4_write rfl rfl rfl (by decide +kernel) ⟨Nat.le_of_ble_eq_true rfl, Nat.le_of_ble_eq_true rfl⟩) [0, 1, 2, 3, 4, 5, 6, 7, 8, 9, 10, 11] [] rfl rfl (by decide) (by decide) (by decide) [0, 1, 2, 3, 4, 5, 6, 7, 8, 9, 10, 11] (by decide) rfl rfl (Nat.le_of_ble_eq_true rfl) dX4_four_16 ⟨Nat.zero_le _, Nat.zero_le _⟩ rfl rfl ?_
  refine x_istore_n E [(3, .int (sm (nI 0) (byt x 3))), (2, .int (nI 24)), (0, .ref r0), (1, .int x)] dX4_four_19 (by decide) rfl ?_
  refine x_iinc E 1 [(2, .int (nI 16)), (3, .int (sm (nI 0) (byt x 3))), (0, .ref r0), (1, .int x)] dX4_four_20 rfl (by decide) (by decide) rfl ?_
  refine x_goto E 3 dX4_four_23 (by decide) ?_
  refine x_iload_n E 0 dX4_four_3 rfl ?_
  refine x_nif_lt E 26 dX4_four_4 (by decide) (by decide) (fun h => absurd h (fun h => Nat.not_lt_zero _ h)) (fun h4 => ?_)
  refine x_aload_n E 2 dX4_four_7 rfl ?_
  refine x_iconst E (v := nI 0) dX4_four_8 (by decide) ?_
  refine x_iload_n E 3 dX4_four_9 rfl ?_
  refine x_iload_n E 0 dX4_four_10 rfl ?_
  refine x_iushr E dX4_four_11 rfl ?_
  refine x_sipush E (v := nI 255) dX4_four_12 (by decide) ?_
  refine x_iand E dX4_four_15 ?_
  refine x_cV E [.int (nI 0), .int (((x.toUInt32 >>> ((nI 16).toUInt32 &&& Int32.toUInt32 31)).toInt32) &&& (nI 255))] [] [.int (sm (nI 0) (byt x 2))] [(r0, .inr (4, [.ref d0, .ref d1, .ref d2, .ref d3, .ref d4, .int (nI kn), .int (nI mv), .ref d5, .ref d6, .int (nI ng), .ref d7, .ref d8, .ref d9, .int (nI nr), .ref d10, .int (nI fc), .int (if sh = true then 1 else 0), .int (nI rp), .int bad, .int (nI th), .int (nI sr), .int (nI sb), .int (nI ((at9 + 1) + 1))])), (d0, .inl (cI, 16384, .inl (uf (va_up (va_up (va_up (va_up B at9 (byt x 3)) (8192 + at9) (byt x 3)) (at9 + 1) (byt x 2)) (8192 + (at9 + 1)) (byt x 2))))), (d1, .inl (cI, 2, .inl (nf z))), (d2, .inl (cI, 600, .inl (nf S))), (d3, .inl (cI, 600, .inl (nf Ln))), (d4, .inl (cI, 38400, .inl (uf K))), (d5, .inl (cI, 600, .inl (nf gr))), (d6, .inl (cI, 600, .inl (nf gb))), (d7, .inl (cI, 16, .inl (nf nS))), (d8, .inl (cI, 16, .inl (nf nL))), (d9, .inl (cI, 1024, .inl (uf nK))), (d10, .inl (cI, 64, .inl (uf F)))] (c_X4_write l D cB cI cZ cJ r0 d0 d1 d2 d3 d4 d5 d6 d7 d8 d9 d10 kn mv ng nr fc sh rp bad th sr sb (at9 + 1) (va_up (va_up B at9 (byt x 3)) (8192 + at9) (byt x 3)) z S Ln K gr gb nS nL nK F (nI 0) (((x.toUInt32 >>> ((nI 16).toUInt32 &&& Int32.toUInt32 31)).toInt32) &&& (nI 255)) (byt x 2) (by omega) (u8_255 _)) 0 rfl rfl (cwV 2 hts gX4_four_X4_write rfl rfl rfl (by decide +kernel) ⟨Nat.le_of_ble_eq_true rfl, Nat.le_of_ble_eq_true rfl⟩) [0, 1, 2, 3, 4, 5, 6, 7, 8, 9, 10, 11] [] rfl rfl (by decide) (by decide) (by decide) [0, 1, 2, 3, 4, 5, 6, 7, 8, 9, 10, 11] (by decide) rfl rfl (Nat.le_of_ble_eq_true rfl) dX4_four_16 ⟨Nat.zero_le _, Nat.zero_le _⟩ rfl rfl ?_
  refine x_istore_n E [(3, .int (sm (nI 0) (byt x 2))), (2, .int (nI 16)), (0, .ref r0), (1, .int x)] dX4_four_19 (by decide) rfl ?_
  refine x_iinc E 1 [(2, .int (nI 8)), (3, .int (sm (nI 0) (byt x 2))), (0, .ref r0), (1, .int x)] dX4_four_20 rfl (by decide) (by decide) rfl ?_
  refine x_goto E 3 dX4_four_23 (by decide) ?_
  refine x_iload_n E 0 dX4_four_3 rfl ?_
  refine x_nif_lt E 26 dX4_four_4 (by decide) (by decide) (fun h => absurd h (fun h => Nat.not_lt_zero _ h)) (fun h4 => ?_)
  refine x_aload_n E 2 dX4_four_7 rfl ?_
  refine x_iconst E (v := nI 0) dX4_four_8 (by decide) ?_
  refine x_iload_n E 3 dX4_four_9 rfl ?_
  refine x_iload_n E 0 dX4_four_10 rfl ?_
  refine x_iushr E dX4_four_11 rfl ?_
  refine x_sipush E (v := nI 255) dX4_four_12 (by decide) ?_
  refine x_iand E dX4_four_15 ?_
  refine x_cV E [.int (nI 0), .int (((x.toUInt32 >>> ((nI 8).toUInt32 &&& Int32.toUInt32 31)).toInt32) &&& (nI 255))] [] [.int (sm (nI 0) (byt x 1))] [(r0, .inr (4, [.ref d0, .ref d1, .ref d2, .ref d3, .ref d4, .int (nI kn), .int (nI mv), .ref d5, .ref d6, .int (nI ng), .ref d7, .ref d8, .ref d9, .int (nI nr), .ref d10, .int (nI fc), .int (if sh = true then 1 else 0), .int (nI rp), .int bad, .int (nI th), .int (nI sr), .int (nI sb), .int (nI (((at9 + 1) + 1) + 1))])), (d0, .inl (cI, 16384, .inl (uf (va_up (va_up (va_up (va_up (va_up (va_up B at9 (byt x 3)) (8192 + at9) (byt x 3)) (at9 + 1) (byt x 2)) (8192 + (at9 + 1)) (byt x 2)) ((at9 + 1) + 1) (byt x 1)) (8192 + ((at9 + 1) + 1)) (byt x 1))))), (d1, .inl (cI, 2, .inl (nf z))), (d2, .inl (cI, 600, .inl (nf S))), (d3, .inl (cI, 600, .inl (nf Ln))), (d4, .inl (cI, 38400, .inl (uf K))), (d5, .inl (cI, 600, .inl (nf gr))), (d6, .inl (cI, 600, .inl (nf gb))), (d7, .inl (cI, 16, .inl (nf nS))), (d8, .inl (cI, 16, .inl (nf nL))), (d9, .inl (cI, 1024, .inl (uf nK))), (d10, .inl (cI, 64, .inl (uf F)))] (c_X4_write l D cB cI cZ cJ r0 d0 d1 d2 d3 d4 d5 d6 d7 d8 d9 d10 kn mv ng nr fc sh rp bad th sr sb ((at9 + 1) + 1) (va_up (va_up (va_up (va_up B at9 (byt x 3)) (8192 + at9) (byt x 3)) (at9 + 1) (byt x 2)) (8192 + (at9 + 1)) (byt x 2)) z S Ln K gr gb nS nL nK F (nI 0) (((x.toUInt32 >>> ((nI 8).toUInt32 &&& Int32.toUInt32 31)).toInt32) &&& (nI 255)) (byt x 1) (by omega) (u8_255 _)) 0 rfl rfl (cwV 2 hts gX4_four_X4_write rfl rfl rfl (by decide +kernel) ⟨Nat.le_of_ble_eq_true rfl, Nat.le_of_ble_eq_true rfl⟩) [0, 1, 2, 3, 4, 5, 6, 7, 8, 9, 10, 11] [] rfl rfl (by decide) (by decide) (by decide) [0, 1, 2, 3, 4, 5, 6, 7, 8, 9, 10, 11] (by decide) rfl rfl (Nat.le_of_ble_eq_true rfl) dX4_four_16 ⟨Nat.zero_le _, Nat.zero_le _⟩ rfl rfl ?_
  refine x_istore_n E [(3, .int (sm (nI 0) (byt x 1))), (2, .int (nI 8)), (0, .ref r0), (1, .int x)] dX4_four_19 (by decide) rfl ?_
  refine x_iinc E 1 [(2, .int (nI 0)), (3, .int (sm (nI 0) (byt x 1))), (0, .ref r0), (1, .int x)] dX4_four_20 rfl (by decide) (by decide) rfl ?_
  refine x_goto E 3 dX4_four_23 (by decide) ?_
  refine x_iload_n E 0 dX4_four_3 rfl ?_
  refine x_nif_lt E 26 dX4_four_4 (by decide) (by decide) (fun h => absurd h (fun h => Nat.not_lt_zero _ h)) (fun h4 => ?_)
  refine x_aload_n E 2 dX4_four_7 rfl ?_
  refine x_iconst E (v := nI 0) dX4_four_8 (by decide) ?_
  refine x_iload_n E 3 dX4_four_9 rfl ?_
  refine x_iload_n E 0 dX4_four_10 rfl ?_
  refine x_iushr E dX4_four_11 rfl ?_
  refine x_sipush E (v := nI 255) dX4_four_12 (by decide) ?_
  refine x_iand E dX4_four_15 ?_
  refine x_cV E [.int (nI 0), .int (((x.toUInt32 >>> ((nI 0).toUInt32 &&& Int32.toUInt32 31)).toInt32) &&& (nI 255))] [] [.int (sm (nI 0) (byt x 0))] [(r0, .inr (4, [.ref d0, .ref d1, .ref d2, .ref d3, .ref d4, .int (nI kn), .int (nI mv), .ref d5, .ref d6, .int (nI ng), .ref d7, .ref d8, .ref d9, .int (nI nr), .ref d10, .int (nI fc), .int (if sh = true then 1 else 0), .int (nI rp), .int bad, .int (nI th), .int (nI sr), .int (nI sb), .int (nI ((((at9 + 1) + 1) + 1) + 1))])), (d0, .inl (cI, 16384, .inl (uf (va_up (va_up (va_up (va_up (va_up (va_up (va_up (va_up B at9 (byt x 3)) (8192 + at9) (byt x 3)) (at9 + 1) (byt x 2)) (8192 + (at9 + 1)) (byt x 2)) ((at9 + 1) + 1) (byt x 1)) (8192 + ((at9 + 1) + 1)) (byt x 1)) (((at9 + 1) + 1) + 1) (byt x 0)) (8192 + (((at9 + 1) + 1) + 1)) (byt x 0))))), (d1, .inl (cI, 2, .inl (nf z))), (d2, .inl (cI, 600, .inl (nf S))), (d3, .inl (cI, 600, .inl (nf Ln))), (d4, .inl (cI, 38400, .inl (uf K))), (d5, .inl (cI, 600, .inl (nf gr))), (d6, .inl (cI, 600, .inl (nf gb))), (d7, .inl (cI, 16, .inl (nf nS))), (d8, .inl (cI, 16, .inl (nf nL))), (d9, .inl (cI, 1024, .inl (uf nK))), (d10, .inl (cI, 64, .inl (uf F)))] (c_X4_write l D cB cI cZ cJ r0 d0 d1 d2 d3 d4 d5 d6 d7 d8 d9 d10 kn mv ng nr fc sh rp bad th sr sb (((at9 + 1) + 1) + 1) (va_up (va_up (va_up (va_up (va_up (va_up B at9 (byt x 3)) (8192 + at9) (byt x 3)) (at9 + 1) (byt x 2)) (8192 + (at9 + 1)) (byt x 2)) ((at9 + 1) + 1) (byt x 1)) (8192 + ((at9 + 1) + 1)) (byt x 1)) z S Ln K gr gb nS nL nK F (nI 0) (((x.toUInt32 >>> ((nI 0).toUInt32 &&& Int32.toUInt32 31)).toInt32) &&& (nI 255)) (byt x 0) (by omega) (u8_255 _)) 0 rfl rfl (cwV 2 hts gX4_four_X4_write rfl rfl rfl (by decide +kernel) ⟨Nat.le_of_ble_eq_true rfl, Nat.le_of_ble_eq_true rfl⟩) [0, 1, 2, 3, 4, 5, 6, 7, 8, 9, 10, 11] [] rfl rfl (by decide) (by decide) (by decide) [0, 1, 2, 3, 4, 5, 6, 7, 8, 9, 10, 11] (by decide) rfl rfl (Nat.le_of_ble_eq_true rfl) dX4_four_16 ⟨Nat.zero_le _, Nat.zero_le _⟩ rfl rfl ?_
  refine x_istore_n E [(3, .int (sm (nI 0) (byt x 0))), (2, .int (nI 0)), (0, .ref r0), (1, .int x)] dX4_four_19 (by decide) rfl ?_
  refine x_iinc E 1 [(2, .int (-8)), (3, .int (sm (nI 0) (byt x 0))), (0, .ref r0), (1, .int x)] dX4_four_20 rfl (by decide) (by decide) rfl ?_
  refine x_goto E 3 dX4_four_23 (by decide) ?_
  refine x_iload_n E 0 dX4_four_3 rfl ?_
  refine x_if_lt E 26 dX4_four_4 (by decide) (fun h4 => ?_) (fun h => absurd (by decide) h)
  exact x_vret E hr hlocks dX4_four_26 ⟨rfl, rfl⟩
set_option maxRecDepth 100000 in
set_option maxHeartbeats 4000000 in
theorem c_X4_forget (l : Launch) (D : va_G) (cB cI cZ cJ : ClassId) (r0 : Nat) (d0 : Nat) (d1 : Nat) (d2 : Nat) (d3 : Nat) (d4 : Nat) (d5 : Nat) (d6 : Nat) (d7 : Nat) (d8 : Nat) (d9 : Nat) (d10 : Nat) (kn : Nat) (mv : Nat) (ng : Nat) (nr : Nat) (fc : Nat) (sh : Bool) (rp : Nat) (bad : Int32) (th : Nat) (sr : Nat) (sb : Nat) (at9 : Nat) (B : Nat → UInt8) (z : Nat → Nat) (S : Nat → Nat) (Ln : Nat → Nat) (K : Nat → UInt8) (gr : Nat → Nat) (gb : Nat → Nat) (nS : Nat → Nat) (nL : Nat → Nat) (nK : Nat → UInt8) (F : Nat → UInt8)  : Ct l D vwCl (tyl cB cI cZ cJ) yX4_forget wsX4_forget rmX4_forget [.ref r0] [(r0, .inr (4, [.ref d0, .ref d1, .ref d2, .ref d3, .ref d4, .int (nI kn), .int (nI mv), .ref d5, .ref d6, .int (nI ng), .ref d7, .ref d8, .ref d9, .int (nI nr), .ref d10, .int (nI fc), .int (if sh = true then 1 else 0), .int (nI rp), .int bad, .int (nI th), .int (nI sr), .int (nI sb), .int (nI at9)])), (d0, .inl (cI, 16384, .inl (uf B))), (d1, .inl (cI, 2, .inl (nf z))), (d2, .inl (cI, 600, .inl (nf S))), (d3, .inl (cI, 600, .inl (nf Ln))), (d4, .inl (cI, 38400, .inl (uf K))), (d5, .inl (cI, 600, .inl (nf gr))), (d6, .inl (cI, 600, .inl (nf gb))), (d7, .inl (cI, 16, .inl (nf nS))), (d8, .inl (cI, 16, .inl (nf nL))), (d9, .inl (cI, 1024, .inl (uf nK))), (d10, .inl (cI, 64, .inl (uf F)))] none [(r0, .inr (4, [.ref d0, .ref d1, .ref d2, .ref d3, .ref d4, .int (nI mv), .int (nI mv), .ref d5, .ref d6, .int (nI 0), .ref d7, .ref d8, .ref d9, .int (nI 0), .ref d10, .int (nI 0), .int (if sh = true then 1 else 0), .int (nI rp), .int bad, .int (nI th), .int (nI sr), .int (nI sb), .int (nI at9)])), (d0, .inl (cI, 16384, .inl (uf B))), (d1, .inl (cI, 2, .inl (nf z))), (d2, .inl (cI, 600, .inl (nf S))), (d3, .inl (cI, 600, .inl (nf Ln))), (d4, .inl (cI, 38400, .inl (uf K))), (d5, .inl (cI, 600, .inl (nf gr))), (d6, .inl (cI, 600, .inl (nf gb))), (d7, .inl (cI, 16, .inl (nf nS))), (d8, .inl (cI, 16, .inl (nf nL))), (d9, .inl (cI, 1024, .inl (uf nK))), (d10, .inl (cI, 64, .inl (uf F)))] := by
  refine x_start (cc := cX4_forget) (maxL := 1) (ret := none) (by decide) rfl (Nat.le_of_ble_eq_true rfl) ?_
  intro xp xe xs xm xb xt xc xA E hr hlocks hnm
  obtain ⟨-, -, -, hown, hts, hK, hA⟩ := id E
  refine x_lve (lv' := [(0, .ref r0)]) rfl ?_
  refine x_aload_n E 0 dX4_forget_0 rfl ?_
  refine x_iconst E (v := nI 0) dX4_forget_1 (by decide) ?_
  refine x_put E 0 15 [(r0, .inr (4, [.ref d0, .ref d1, .ref d2, .ref d3, .ref d4, .int (nI kn), .int (nI mv), .ref d5, .ref d6, .int (nI ng), .ref d7, .ref d8, .ref d9, .int (nI nr), .ref d10, .int (nI 0), .int (if sh = true then 1 else 0), .int (nI rp), .int bad, .int (nI th), .int (nI sr), .int (nI sb), .int (nI at9)])), (d0, .inl (cI, 16384, .inl (uf B))), (d1, .inl (cI, 2, .inl (nf z))), (d2, .inl (cI, 600, .inl (nf S))), (d3, .inl (cI, 600, .inl (nf Ln))), (d4, .inl (cI, 38400, .inl (uf K))), (d5, .inl (cI, 600, .inl (nf gr))), (d6, .inl (cI, 600, .inl (nf gb))), (d7, .inl (cI, 16, .inl (nf nS))), (d8, .inl (cI, 16, .inl (nf nL))), (d9, .inl (cI, 1024, .inl (uf nK))), (d10, .inl (cI, 64, .inl (uf F)))] dX4_forget_2 ui_X4_forget_X4 tyX4_ok nmX4 rfl rfl (by decide) fl_X4_forget_56 rfl rfl rfl rfl (Nat.le_of_ble_eq_true rfl) rfl ?_
  refine x_aload_n E 0 dX4_forget_5 rfl ?_
  refine x_iconst E (v := nI 0) dX4_forget_6 (by decide) ?_
  refine x_put E 0 13 [(r0, .inr (4, [.ref d0, .ref d1, .ref d2, .ref d3, .ref d4, .int (nI kn), .int (nI mv), .ref d5, .ref d6, .int (nI ng), .ref d7, .ref d8, .ref d9, .int (nI 0), .ref d10, .int (nI 0), .int (if sh = true then 1 else 0), .int (nI rp), .int bad, .int (nI th), .int (nI sr), .int (nI sb), .int (nI at9)])), (d0, .inl (cI, 16384, .inl (uf B))), (d1, .inl (cI, 2, .inl (nf z))), (d2, .inl (cI, 600, .inl (nf S))), (d3, .inl (cI, 600, .inl (nf Ln))), (d4, .inl (cI, 38400, .inl (uf K))), (d5, .inl (cI, 600, .inl (nf gr))), (d6, .inl (cI, 600, .inl (nf gb))), (d7, .inl (cI, 16, .inl (nf nS))), (d8, .inl (cI, 16, .inl (nf nL))), (d9, .inl (cI, 1024, .inl (uf nK))), (d10, .inl (cI, 64, .inl (uf F)))] dX4_forget_7 ui_X4_forget_X4 tyX4_ok nmX4 rfl rfl (by decide) fl_X4_forget_59 rfl rfl rfl rfl (Nat.le_of_ble_eq_true rfl) rfl ?_
  refine x_aload_n E 0 dX4_forget_10 rfl ?_
  refine x_aload_n E 0 dX4_forget_11 rfl ?_
  refine x_get E 0 6 dX4_forget_12 ui_X4_forget_X4 rfl rfl (by decide) fl_X4_forget_87 rfl rfl ?_
  refine x_put E 0 5 [(r0, .inr (4, [.ref d0, .ref d1, .ref d2, .ref d3, .ref d4, .int (nI mv), .int (nI mv), .ref d5, .ref d6, .int (nI ng), .ref d7, .ref d8, .ref d9, .int (nI 0), .ref d10, .int (nI 0), .int (if sh = true then 1 else 0), .int (nI rp), .int bad, .int (nI th), .int (nI sr), .int (nI sb), .int (nI at9)])), (d0, .inl (cI, 16384, .inl (uf B))), (d1, .inl (cI, 2, .inl (nf z))), (d2, .inl (cI, 600, .inl (nf S))), (d3, .inl (cI, 600, .inl (nf Ln))), (d4, .inl (cI, 38400, .inl (uf K))), (d5, .inl (cI, 600, .inl (nf gr))), (d6, .inl (cI, 600, .inl (nf gb))), (d7, .inl (cI, 16, .inl (nf nS))), (d8, .inl (cI, 16, .inl (nf nL))), (d9, .inl (cI, 1024, .inl (uf nK))), (d10, .inl (cI, 64, .inl (uf F)))] dX4_forget_15 ui_X4_forget_X4 tyX4_ok nmX4 rfl rfl (by decide) fl_X4_forget_62 rfl rfl rfl rfl (Nat.le_of_ble_eq_true rfl) rfl ?_
  refine x_aload_n E 0 dX4_forget_18 rfl ?_
  refine x_iconst E (v := nI 0) dX4_forget_19 (by decide) ?_
  refine x_put E 0 9 [(r0, .inr (4, [.ref d0, .ref d1, .ref d2, .ref d3, .ref d4, .int (nI mv), .int (nI mv), .ref d5, .ref d6, .int (nI 0), .ref d7, .ref d8, .ref d9, .int (nI 0), .ref d10, .int (nI 0), .int (if sh = true then 1 else 0), .int (nI rp), .int bad, .int (nI th), .int (nI sr), .int (nI sb), .int (nI at9)])), (d0, .inl (cI, 16384, .inl (uf B))), (d1, .inl (cI, 2, .inl (nf z))), (d2, .inl (cI, 600, .inl (nf S))), (d3, .inl (cI, 600, .inl (nf Ln))), (d4, .inl (cI, 38400, .inl (uf K))), (d5, .inl (cI, 600, .inl (nf gr))), (d6, .inl (cI, 600, .inl (nf gb))), (d7, .inl (cI, 16, .inl (nf nS))), (d8, .inl (cI, 16, .inl (nf nL))), (d9, .inl (cI, 1024, .inl (uf nK))), (d10, .inl (cI, 64, .inl (uf F)))] dX4_forget_20 ui_X4_forget_X4 tyX4_ok nmX4 rfl rfl (by decide) fl_X4_forget_84 rfl rfl rfl rfl (Nat.le_of_ble_eq_true rfl) rfl ?_
  exact x_vret E hr hlocks dX4_forget_23 ⟨rfl, rfl⟩
set_option maxRecDepth 100000 in
set_option maxHeartbeats 4000000 in
theorem c_X4_crash_nof (l : Launch) (D : va_G) (cB cI cZ cJ : ClassId) (r0 : Nat) (d0 : Nat) (d1 : Nat) (d2 : Nat) (d3 : Nat) (d4 : Nat) (d5 : Nat) (d6 : Nat) (d7 : Nat) (d8 : Nat) (d9 : Nat) (d10 : Nat) (kn : Nat) (mv : Nat) (ng : Nat) (nr : Nat) (fc : Nat) (sh : Bool) (rp : Nat) (bad : Int32) (th : Nat) (sr : Nat) (sb : Nat) (at9 : Nat) (B : Nat → UInt8) (z : Nat → Nat) (S : Nat → Nat) (Ln : Nat → Nat) (K : Nat → UInt8) (gr : Nat → Nat) (gb : Nat → Nat) (nS : Nat → Nat) (nL : Nat → Nat) (nK : Nat → UInt8) (F : Nat → UInt8) (x : Int32) (y : Int32) (hx : ¬ (x = 0 ∨ x = 1)) : Ct l D vwCl (tyl cB cI cZ cJ) yX4_crash wsX4_crash rmX4_crash [.ref r0, .int x, .int y] [(r0, .inr (4, [.ref d0, .ref d1, .ref d2, .ref d3, .ref d4, .int (nI kn), .int (nI mv), .ref d5, .ref d6, .int (nI ng), .ref d7, .ref d8, .ref d9, .int (nI nr), .ref d10, .int (nI fc), .int (if sh = true then 1 else 0), .int (nI rp), .int bad, .int (nI th), .int (nI sr), .int (nI sb), .int (nI at9)])), (d0, .inl (cI, 16384, .inl (uf B))), (d1, .inl (cI, 2, .inl (nf z))), (d2, .inl (cI, 600, .inl (nf S))), (d3, .inl (cI, 600, .inl (nf Ln))), (d4, .inl (cI, 38400, .inl (uf K))), (d5, .inl (cI, 600, .inl (nf gr))), (d6, .inl (cI, 600, .inl (nf gb))), (d7, .inl (cI, 16, .inl (nf nS))), (d8, .inl (cI, 16, .inl (nf nL))), (d9, .inl (cI, 1024, .inl (uf nK))), (d10, .inl (cI, 64, .inl (uf F)))] (some (.int (nI 0))) [(r0, .inr (4, [.ref d0, .ref d1, .ref d2, .ref d3, .ref d4, .int (nI kn), .int (nI mv), .ref d5, .ref d6, .int (nI ng), .ref d7, .ref d8, .ref d9, .int (nI nr), .ref d10, .int (nI fc), .int (if sh = true then 1 else 0), .int (nI rp), .int bad, .int (nI 0), .int (nI sr), .int (nI sb), .int (nI at9)])), (d0, .inl (cI, 16384, .inl (uf B))), (d1, .inl (cI, 2, .inl (nf z))), (d2, .inl (cI, 600, .inl (nf S))), (d3, .inl (cI, 600, .inl (nf Ln))), (d4, .inl (cI, 38400, .inl (uf K))), (d5, .inl (cI, 600, .inl (nf gr))), (d6, .inl (cI, 600, .inl (nf gb))), (d7, .inl (cI, 16, .inl (nf nS))), (d8, .inl (cI, 16, .inl (nf nL))), (d9, .inl (cI, 1024, .inl (uf nK))), (d10, .inl (cI, 64, .inl (uf F)))] := by
  refine x_start (cc := cX4_crash) (maxL := 3) (ret := (some .boolean)) (by decide) rfl (Nat.le_of_ble_eq_true rfl) ?_
  intro xp xe xs xm xb xt xc xA E hr hlocks hnm
  obtain ⟨-, -, -, hown, hts, hK, hA⟩ := id E
  refine x_lve (lv' := [(0, .ref r0), (1, .int x), (2, .int y)]) rfl ?_
  refine x_aload_n E 0 dX4_crash_0 rfl ?_
  refine x_iconst E (v := nI 0) dX4_crash_1 (by decide) ?_
  refine x_put E 0 19 [(r0, .inr (4, [.ref d0, .ref d1, .ref d2, .ref d3, .ref d4, .int (nI kn), .int (nI mv), .ref d5, .ref d6, .int (nI ng), .ref d7, .ref d8, .ref d9, .int (nI nr), .ref d10, .int (nI fc), .int (if sh = true then 1 else 0), .int (nI rp), .int bad, .int (nI 0), .int (nI sr), .int (nI sb), .int (nI at9)])), (d0, .inl (cI, 16384, .inl (uf B))), (d1, .inl (cI, 2, .inl (nf z))), (d2, .inl (cI, 600, .inl (nf S))), (d3, .inl (cI, 600, .inl (nf Ln))), (d4, .inl (cI, 38400, .inl (uf K))), (d5, .inl (cI, 600, .inl (nf gr))), (d6, .inl (cI, 600, .inl (nf gb))), (d7, .inl (cI, 16, .inl (nf nS))), (d8, .inl (cI, 16, .inl (nf nL))), (d9, .inl (cI, 1024, .inl (uf nK))), (d10, .inl (cI, 64, .inl (uf F)))] dX4_crash_2 ui_X4_crash_X4 tyX4_ok nmX4 rfl rfl (by decide) fl_X4_crash_48 rfl rfl rfl rfl (Nat.le_of_ble_eq_true rfl) rfl ?_
  refine x_iload_n E 1 dX4_crash_5 rfl ?_
  refine x_if_lt E 28 dX4_crash_6 (by decide) (fun h6 => ?_) (fun h6 => ?_)
  · refine x_iconst E (v := nI 0) dX4_crash_28 (by decide) ?_
    exact x_zret E hr hlocks dX4_crash_29 rfl ⟨rfl, rfl⟩
  · refine x_iload_n E 1 dX4_crash_9 rfl ?_
    refine x_iconst E (v := nI 1) dX4_crash_10 (by decide) ?_
    refine x_icmp_gt E 28 dX4_crash_11 (by decide) (fun h11 => ?_) (fun h => absurd h (fun h => hx (f01 h6 h)))
    refine x_iconst E (v := nI 0) dX4_crash_28 (by decide) ?_
    exact x_zret E hr hlocks dX4_crash_29 rfl ⟨rfl, rfl⟩
set_option maxRecDepth 100000 in
set_option maxHeartbeats 4000000 in
theorem c_X4_crash_no0 (l : Launch) (D : va_G) (cB cI cZ cJ : ClassId) (r0 : Nat) (d0 : Nat) (d1 : Nat) (d2 : Nat) (d3 : Nat) (d4 : Nat) (d5 : Nat) (d6 : Nat) (d7 : Nat) (d8 : Nat) (d9 : Nat) (d10 : Nat) (kn : Nat) (mv : Nat) (ng : Nat) (nr : Nat) (fc : Nat) (sh : Bool) (rp : Nat) (bad : Int32) (th : Nat) (sr : Nat) (sb : Nat) (at9 : Nat) (B : Nat → UInt8) (z : Nat → Nat) (S : Nat → Nat) (Ln : Nat → Nat) (K : Nat → UInt8) (gr : Nat → Nat) (gb : Nat → Nat) (nS : Nat → Nat) (nL : Nat → Nat) (nK : Nat → UInt8) (F : Nat → UInt8) (y : Int32) (hz0 : z 0 ≤ 8192) (hz1 : z 1 ≤ 8192) (hno : y < 0 ∨ ¬ y ≤ nI (z 0)) : Ct l D vwCl (tyl cB cI cZ cJ) yX4_crash wsX4_crash rmX4_crash [.ref r0, .int (nI 0), .int y] [(r0, .inr (4, [.ref d0, .ref d1, .ref d2, .ref d3, .ref d4, .int (nI kn), .int (nI mv), .ref d5, .ref d6, .int (nI ng), .ref d7, .ref d8, .ref d9, .int (nI nr), .ref d10, .int (nI fc), .int (if sh = true then 1 else 0), .int (nI rp), .int bad, .int (nI th), .int (nI sr), .int (nI sb), .int (nI at9)])), (d0, .inl (cI, 16384, .inl (uf B))), (d1, .inl (cI, 2, .inl (nf z))), (d2, .inl (cI, 600, .inl (nf S))), (d3, .inl (cI, 600, .inl (nf Ln))), (d4, .inl (cI, 38400, .inl (uf K))), (d5, .inl (cI, 600, .inl (nf gr))), (d6, .inl (cI, 600, .inl (nf gb))), (d7, .inl (cI, 16, .inl (nf nS))), (d8, .inl (cI, 16, .inl (nf nL))), (d9, .inl (cI, 1024, .inl (uf nK))), (d10, .inl (cI, 64, .inl (uf F)))] (some (.int (nI 0))) [(r0, .inr (4, [.ref d0, .ref d1, .ref d2, .ref d3, .ref d4, .int (nI kn), .int (nI mv), .ref d5, .ref d6, .int (nI ng), .ref d7, .ref d8, .ref d9, .int (nI nr), .ref d10, .int (nI fc), .int (if sh = true then 1 else 0), .int (nI rp), .int bad, .int (nI 0), .int (nI sr), .int (nI sb), .int (nI at9)])), (d0, .inl (cI, 16384, .inl (uf B))), (d1, .inl (cI, 2, .inl (nf z))), (d2, .inl (cI, 600, .inl (nf S))), (d3, .inl (cI, 600, .inl (nf Ln))), (d4, .inl (cI, 38400, .inl (uf K))), (d5, .inl (cI, 600, .inl (nf gr))), (d6, .inl (cI, 600, .inl (nf gb))), (d7, .inl (cI, 16, .inl (nf nS))), (d8, .inl (cI, 16, .inl (nf nL))), (d9, .inl (cI, 1024, .inl (uf nK))), (d10, .inl (cI, 64, .inl (uf F)))] := by
  refine x_start (cc := cX4_crash) (maxL := 3) (ret := (some .boolean)) (by decide) rfl (Nat.le_of_ble_eq_true rfl) ?_
  intro xp xe xs xm xb xt xc xA E hr hlocks hnm
  obtain ⟨-, -, -, hown, hts, hK, hA⟩ := id E
  refine x_lve (lv' := [(0, .ref r0), (1, .int (nI 0)), (2, .int y)]) rfl ?_
  refine x_aload_n E 0 dX4_crash_0 rfl ?_
  refine x_iconst E (v := nI 0) dX4_crash_1 (by decide) ?_
  refine x_put E 0 19 [(r0, .inr (4, [.ref d0, .ref d1, .ref d2, .ref d3, .ref d4, .int (nI kn), .int (nI mv), .ref d5, .ref d6, .int (nI ng), .ref d7, .ref d8, .ref d9, .int (nI nr), .ref d10, .int (nI fc), .int (if sh = true then 1 else 0), .int (nI rp), .int bad, .int (nI 0), .int (nI sr), .int (nI sb), .int (nI at9)])), (d0, .inl (cI, 16384, .inl (uf B))), (d1, .inl (cI, 2, .inl (nf z))), (d2, .inl (cI, 600, .inl (nf S))), (d3, .inl (cI, 600, .inl (nf Ln))), (d4, .inl (cI, 38400, .inl (uf K))), (d5, .inl (cI, 600, .inl (nf gr))), (d6, .inl (cI, 600, .inl (nf gb))), (d7, .inl (cI, 16, .inl (nf nS))), (d8, .inl (cI, 16, .inl (nf nL))), (d9, .inl (cI, 1024, .inl (uf nK))), (d10, .inl (cI, 64, .inl (uf F)))] dX4_crash_2 ui_X4_crash_X4 tyX4_ok nmX4 rfl rfl (by decide) fl_X4_crash_48 rfl rfl rfl rfl (Nat.le_of_ble_eq_true rfl) rfl ?_
  refine x_iload_n E 1 dX4_crash_5 rfl ?_
  refine x_nif_lt E 28 dX4_crash_6 (by decide) (by decide) (fun h => absurd h (fun h => Nat.not_lt_zero _ h)) (fun h6 => ?_)
  refine x_iload_n E 1 dX4_crash_9 rfl ?_
  refine x_iconst E (v := nI 1) dX4_crash_10 (by decide) ?_
  refine x_ncmp_gt E 28 dX4_crash_11 (by decide) (by decide) (by decide) (fun h => False.elim (by omega)) (fun h11 => ?_)
  refine x_iload_n E 2 dX4_crash_14 rfl ?_
  refine x_if_lt E 28 dX4_crash_15 (by decide) (fun h15 => ?_) (fun h15 => ?_)
  · refine x_iconst E (v := nI 0) dX4_crash_28 (by decide) ?_
    exact x_zret E hr hlocks dX4_crash_29 rfl ⟨rfl, rfl⟩
  · refine x_iload_n E 2 dX4_crash_18 rfl ?_
    refine x_aload_n E 0 dX4_crash_19 rfl ?_
    refine x_get E 0 1 dX4_crash_20 ui_X4_crash_X4 rfl rfl (by decide) fl_X4_crash_13 rfl rfl ?_
    refine x_iload_n E 1 dX4_crash_23 rfl ?_
    refine x_nald E 2 1 dX4_crash_24 rfl rfl (by omega) (by decide) ?_
    refine x_icmp_le E 30 dX4_crash_25 (by decide) (fun h => False.elim (by rcases hno with q | q; exact h15 q; exact q h)) (fun h25 => ?_)
    refine x_iconst E (v := nI 0) dX4_crash_28 (by decide) ?_
    exact x_zret E hr hlocks dX4_crash_29 rfl ⟨rfl, rfl⟩
set_option maxRecDepth 100000 in
set_option maxHeartbeats 4000000 in
theorem c_X4_crash_ok0 (l : Launch) (D : va_G) (cB cI cZ cJ : ClassId) (r0 : Nat) (d0 : Nat) (d1 : Nat) (d2 : Nat) (d3 : Nat) (d4 : Nat) (d5 : Nat) (d6 : Nat) (d7 : Nat) (d8 : Nat) (d9 : Nat) (d10 : Nat) (kn : Nat) (mv : Nat) (ng : Nat) (nr : Nat) (fc : Nat) (sh : Bool) (rp : Nat) (bad : Int32) (th : Nat) (sr : Nat) (sb : Nat) (at9 : Nat) (B : Nat → UInt8) (z : Nat → Nat) (S : Nat → Nat) (Ln : Nat → Nat) (K : Nat → UInt8) (gr : Nat → Nat) (gb : Nat → Nat) (nS : Nat → Nat) (nL : Nat → Nat) (nK : Nat → UInt8) (F : Nat → UInt8) (k : Nat) (hz0 : z 0 ≤ 8192) (hz1 : z 1 ≤ 8192) (hk : k ≤ z 0) : Ct l D vwCl (tyl cB cI cZ cJ) yX4_crash wsX4_crash rmX4_crash [.ref r0, .int (nI 0), .int (nI k)] [(r0, .inr (4, [.ref d0, .ref d1, .ref d2, .ref d3, .ref d4, .int (nI kn), .int (nI mv), .ref d5, .ref d6, .int (nI ng), .ref d7, .ref d8, .ref d9, .int (nI nr), .ref d10, .int (nI fc), .int (if sh = true then 1 else 0), .int (nI rp), .int bad, .int (nI th), .int (nI sr), .int (nI sb), .int (nI at9)])), (d0, .inl (cI, 16384, .inl (uf B))), (d1, .inl (cI, 2, .inl (nf z))), (d2, .inl (cI, 600, .inl (nf S))), (d3, .inl (cI, 600, .inl (nf Ln))), (d4, .inl (cI, 38400, .inl (uf K))), (d5, .inl (cI, 600, .inl (nf gr))), (d6, .inl (cI, 600, .inl (nf gb))), (d7, .inl (cI, 16, .inl (nf nS))), (d8, .inl (cI, 16, .inl (nf nL))), (d9, .inl (cI, 1024, .inl (uf nK))), (d10, .inl (cI, 64, .inl (uf F)))] (some (.int (nI 1))) [(r0, .inr (4, [.ref d0, .ref d1, .ref d2, .ref d3, .ref d4, .int (nI mv), .int (nI mv), .ref d5, .ref d6, .int (nI 0), .ref d7, .ref d8, .ref d9, .int (nI 0), .ref d10, .int (nI 0), .int (if true = true then 1 else 0), .int (nI rp), .int bad, .int (nI 0), .int (nI sr), .int (nI sb), .int (nI at9)])), (d0, .inl (cI, 16384, .inl (uf B))), (d1, .inl (cI, 2, .inl (nf (va_up z 0 k)))), (d2, .inl (cI, 600, .inl (nf S))), (d3, .inl (cI, 600, .inl (nf Ln))), (d4, .inl (cI, 38400, .inl (uf K))), (d5, .inl (cI, 600, .inl (nf gr))), (d6, .inl (cI, 600, .inl (nf gb))), (d7, .inl (cI, 16, .inl (nf nS))), (d8, .inl (cI, 16, .inl (nf nL))), (d9, .inl (cI, 1024, .inl (uf nK))), (d10, .inl (cI, 64, .inl (uf F)))] := by
  refine x_start (cc := cX4_crash) (maxL := 3) (ret := (some .boolean)) (by decide) rfl (Nat.le_of_ble_eq_true rfl) ?_
  intro xp xe xs xm xb xt xc xA E hr hlocks hnm
  obtain ⟨-, -, -, hown, hts, hK, hA⟩ := id E
  refine x_lve (lv' := [(0, .ref r0), (1, .int (nI 0)), (2, .int (nI k))]) rfl ?_
  refine x_aload_n E 0 dX4_crash_0 rfl ?_
  refine x_iconst E (v := nI 0) dX4_crash_1 (by decide) ?_
  refine x_put E 0 19 [(r0, .inr (4, [.ref d0, .ref d1, .ref d2, .ref d3, .ref d4, .int (nI kn), .int (nI mv), .ref d5, .ref d6, .int (nI ng), .ref d7, .ref d8, .ref d9, .int (nI nr), .ref d10, .int (nI fc), .int (if sh = true then 1 else 0), .int (nI rp), .int bad, .int (nI 0), .int (nI sr), .int (nI sb), .int (nI at9)])), (d0, .inl (cI, 16384, .inl (uf B))), (d1, .inl (cI, 2, .inl (nf z))), (d2, .inl (cI, 600, .inl (nf S))), (d3, .inl (cI, 600, .inl (nf Ln))), (d4, .inl (cI, 38400, .inl (uf K))), (d5, .inl (cI, 600, .inl (nf gr))), (d6, .inl (cI, 600, .inl (nf gb))), (d7, .inl (cI, 16, .inl (nf nS))), (d8, .inl (cI, 16, .inl (nf nL))), (d9, .inl (cI, 1024, .inl (uf nK))), (d10, .inl (cI, 64, .inl (uf F)))] dX4_crash_2 ui_X4_crash_X4 tyX4_ok nmX4 rfl rfl (by decide) fl_X4_crash_48 rfl rfl rfl rfl (Nat.le_of_ble_eq_true rfl) rfl ?_
  refine x_iload_n E 1 dX4_crash_5 rfl ?_
  refine x_nif_lt E 28 dX4_crash_6 (by decide) (by decide) (fun h => absurd h (fun h => Nat.not_lt_zero _ h)) (fun h6 => ?_)
  refine x_iload_n E 1 dX4_crash_9 rfl ?_
  refine x_iconst E (v := nI 1) dX4_crash_10 (by decide) ?_
  refine x_ncmp_gt E 28 dX4_crash_11 (by decide) (by decide) (by decide) (fun h => False.elim (by omega)) (fun h11 => ?_)
  refine x_iload_n E 2 dX4_crash_14 rfl ?_
  refine x_nif_lt E 28 dX4_crash_15 (by decide) (by omega) (fun h => absurd h (fun h => Nat.not_lt_zero _ h)) (fun h15 => ?_)
  refine x_iload_n E 2 dX4_crash_18 rfl ?_
  refine x_aload_n E 0 dX4_crash_19 rfl ?_
  refine x_get E 0 1 dX4_crash_20 ui_X4_crash_X4 rfl rfl (by decide) fl_X4_crash_13 rfl rfl ?_
  refine x_iload_n E 1 dX4_crash_23 rfl ?_
  refine x_nald E 2 1 dX4_crash_24 rfl rfl (by omega) (by decide) ?_
  refine x_ncmp_le E 30 dX4_crash_25 (by decide) (by omega) (by omega) (fun h25 => ?_) (fun h => False.elim (by omega))
  refine x_aload_n E 0 dX4_crash_30 rfl ?_
  refine x_get E 0 1 dX4_crash_31 ui_X4_crash_X4 rfl rfl (by decide) fl_X4_crash_13 rfl rfl ?_
  refine x_iload_n E 1 dX4_crash_34 rfl ?_
  refine x_iload_n E 2 dX4_crash_35 rfl ?_
  refine x_nast E 2 1 [(r0, .inr (4, [.ref d0, .ref d1, .ref d2, .ref d3, .ref d4, .int (nI kn), .int (nI mv), .ref d5, .ref d6, .int (nI ng), .ref d7, .ref d8, .ref d9, .int (nI nr), .ref d10, .int (nI fc), .int (if sh = true then 1 else 0), .int (nI rp), .int bad, .int (nI 0), .int (nI sr), .int (nI sb), .int (nI at9)])), (d0, .inl (cI, 16384, .inl (uf B))), (d1, .inl (cI, 2, .inl (nf (va_up z 0 k)))), (d2, .inl (cI, 600, .inl (nf S))), (d3, .inl (cI, 600, .inl (nf Ln))), (d4, .inl (cI, 38400, .inl (uf K))), (d5, .inl (cI, 600, .inl (nf gr))), (d6, .inl (cI, 600, .inl (nf gb))), (d7, .inl (cI, 16, .inl (nf nS))), (d8, .inl (cI, 16, .inl (nf nL))), (d9, .inl (cI, 1024, .inl (uf nK))), (d10, .inl (cI, 64, .inl (uf F)))] dX4_crash_36 rfl rfl (by omega) (by decide) rfl ?_
  refine x_aload_n E 0 dX4_crash_37 rfl ?_
  refine x_cV E [] [] [] [(r0, .inr (4, [.ref d0, .ref d1, .ref d2, .ref d3, .ref d4, .int (nI mv), .int (nI mv), .ref d5, .ref d6, .int (nI 0), .ref d7, .ref d8, .ref d9, .int (nI 0), .ref d10, .int (nI 0), .int (if sh = true then 1 else 0), .int (nI rp), .int bad, .int (nI 0), .int (nI sr), .int (nI sb), .int (nI at9)])), (d0, .inl (cI, 16384, .inl (uf B))), (d1, .inl (cI, 2, .inl (nf (va_up z 0 k)))), (d2, .inl (cI, 600, .inl (nf S))), (d3, .inl (cI, 600, .inl (nf Ln))), (d4, .inl (cI, 38400, .inl (uf K))), (d5, .inl (cI, 600, .inl (nf gr))), (d6, .inl (cI, 600, .inl (nf gb))), (d7, .inl (cI, 16, .inl (nf nS))), (d8, .inl (cI, 16, .inl (nf nL))), (d9, .inl (cI, 1024, .inl (uf nK))), (d10, .inl (cI, 64, .inl (uf F)))] (c_X4_forget l D cB cI cZ cJ r0 d0 d1 d2 d3 d4 d5 d6 d7 d8 d9 d10 kn mv ng nr fc sh rp bad 0 sr sb at9 B (va_up z 0 k) S Ln K gr gb nS nL nK F ) 0 rfl rfl (cwV 0 hts gX4_crash_X4_forget rfl rfl rfl (by decide +kernel) ⟨Nat.le_of_ble_eq_true rfl, Nat.le_of_ble_eq_true rfl⟩) [0, 1, 2, 3, 4, 5, 6, 7, 8, 9, 10, 11] [] rfl rfl (by decide) (by decide) (by decide) [0, 1, 2, 3, 4, 5, 6, 7, 8, 9, 10, 11] (by decide) rfl rfl (Nat.le_of_ble_eq_true rfl) dX4_crash_38 ⟨Nat.zero_le _, Nat.zero_le _⟩ rfl rfl ?_
  refine x_aload_n E 0 dX4_crash_41 rfl ?_
  refine x_iconst E (v := nI 1) dX4_crash_42 (by decide) ?_
  refine x_put E 0 16 [(r0, .inr (4, [.ref d0, .ref d1, .ref d2, .ref d3, .ref d4, .int (nI mv), .int (nI mv), .ref d5, .ref d6, .int (nI 0), .ref d7, .ref d8, .ref d9, .int (nI 0), .ref d10, .int (nI 0), .int (nI 1), .int (nI rp), .int bad, .int (nI 0), .int (nI sr), .int (nI sb), .int (nI at9)])), (d0, .inl (cI, 16384, .inl (uf B))), (d1, .inl (cI, 2, .inl (nf (va_up z 0 k)))), (d2, .inl (cI, 600, .inl (nf S))), (d3, .inl (cI, 600, .inl (nf Ln))), (d4, .inl (cI, 38400, .inl (uf K))), (d5, .inl (cI, 600, .inl (nf gr))), (d6, .inl (cI, 600, .inl (nf gb))), (d7, .inl (cI, 16, .inl (nf nS))), (d8, .inl (cI, 16, .inl (nf nL))), (d9, .inl (cI, 1024, .inl (uf nK))), (d10, .inl (cI, 64, .inl (uf F)))] dX4_crash_43 ui_X4_crash_X4 tyX4_ok nmX4 rfl rfl (by decide) fl_X4_crash_52 rfl rfl rfl rfl (Nat.le_of_ble_eq_true rfl) rfl ?_
  refine x_iconst E (v := nI 1) dX4_crash_46 (by decide) ?_
  exact x_zret E hr hlocks dX4_crash_47 rfl ⟨rfl, rfl⟩
set_option maxRecDepth 100000 in
set_option maxHeartbeats 4000000 in
theorem c_X4_crash_no1 (l : Launch) (D : va_G) (cB cI cZ cJ : ClassId) (r0 : Nat) (d0 : Nat) (d1 : Nat) (d2 : Nat) (d3 : Nat) (d4 : Nat) (d5 : Nat) (d6 : Nat) (d7 : Nat) (d8 : Nat) (d9 : Nat) (d10 : Nat) (kn : Nat) (mv : Nat) (ng : Nat) (nr : Nat) (fc : Nat) (sh : Bool) (rp : Nat) (bad : Int32) (th : Nat) (sr : Nat) (sb : Nat) (at9 : Nat) (B : Nat → UInt8) (z : Nat → Nat) (S : Nat → Nat) (Ln : Nat → Nat) (K : Nat → UInt8) (gr : Nat → Nat) (gb : Nat → Nat) (nS : Nat → Nat) (nL : Nat → Nat) (nK : Nat → UInt8) (F : Nat → UInt8) (y : Int32) (hz0 : z 0 ≤ 8192) (hz1 : z 1 ≤ 8192) (hno : y < 0 ∨ ¬ y ≤ nI (z 1)) : Ct l D vwCl (tyl cB cI cZ cJ) yX4_crash wsX4_crash rmX4_crash [.ref r0, .int (nI 1), .int y] [(r0, .inr (4, [.ref d0, .ref d1, .ref d2, .ref d3, .ref d4, .int (nI kn), .int (nI mv), .ref d5, .ref d6, .int (nI ng), .ref d7, .ref d8, .ref d9, .int (nI nr), .ref d10, .int (nI fc), .int (if sh = true then 1 else 0), .int (nI rp), .int bad, .int (nI th), .int (nI sr), .int (nI sb), .int (nI at9)])), (d0, .inl (cI, 16384, .inl (uf B))), (d1, .inl (cI, 2, .inl (nf z))), (d2, .inl (cI, 600, .inl (nf S))), (d3, .inl (cI, 600, .inl (nf Ln))), (d4, .inl (cI, 38400, .inl (uf K))), (d5, .inl (cI, 600, .inl (nf gr))), (d6, .inl (cI, 600, .inl (nf gb))), (d7, .inl (cI, 16, .inl (nf nS))), (d8, .inl (cI, 16, .inl (nf nL))), (d9, .inl (cI, 1024, .inl (uf nK))), (d10, .inl (cI, 64, .inl (uf F)))] (some (.int (nI 0))) [(r0, .inr (4, [.ref d0, .ref d1, .ref d2, .ref d3, .ref d4, .int (nI kn), .int (nI mv), .ref d5, .ref d6, .int (nI ng), .ref d7, .ref d8, .ref d9, .int (nI nr), .ref d10, .int (nI fc), .int (if sh = true then 1 else 0), .int (nI rp), .int bad, .int (nI 0), .int (nI sr), .int (nI sb), .int (nI at9)])), (d0, .inl (cI, 16384, .inl (uf B))), (d1, .inl (cI, 2, .inl (nf z))), (d2, .inl (cI, 600, .inl (nf S))), (d3, .inl (cI, 600, .inl (nf Ln))), (d4, .inl (cI, 38400, .inl (uf K))), (d5, .inl (cI, 600, .inl (nf gr))), (d6, .inl (cI, 600, .inl (nf gb))), (d7, .inl (cI, 16, .inl (nf nS))), (d8, .inl (cI, 16, .inl (nf nL))), (d9, .inl (cI, 1024, .inl (uf nK))), (d10, .inl (cI, 64, .inl (uf F)))] := by
  refine x_start (cc := cX4_crash) (maxL := 3) (ret := (some .boolean)) (by decide) rfl (Nat.le_of_ble_eq_true rfl) ?_
  intro xp xe xs xm xb xt xc xA E hr hlocks hnm
  obtain ⟨-, -, -, hown, hts, hK, hA⟩ := id E
  refine x_lve (lv' := [(0, .ref r0), (1, .int (nI 1)), (2, .int y)]) rfl ?_
  refine x_aload_n E 0 dX4_crash_0 rfl ?_
  refine x_iconst E (v := nI 0) dX4_crash_1 (by decide) ?_
  refine x_put E 0 19 [(r0, .inr (4, [.ref d0, .ref d1, .ref d2, .ref d3, .ref d4, .int (nI kn), .int (nI mv), .ref d5, .ref d6, .int (nI ng), .ref d7, .ref d8, .ref d9, .int (nI nr), .ref d10, .int (nI fc), .int (if sh = true then 1 else 0), .int (nI rp), .int bad, .int (nI 0), .int (nI sr), .int (nI sb), .int (nI at9)])), (d0, .inl (cI, 16384, .inl (uf B))), (d1, .inl (cI, 2, .inl (nf z))), (d2, .inl (cI, 600, .inl (nf S))), (d3, .inl (cI, 600, .inl (nf Ln))), (d4, .inl (cI, 38400, .inl (uf K))), (d5, .inl (cI, 600, .inl (nf gr))), (d6, .inl (cI, 600, .inl (nf gb))), (d7, .inl (cI, 16, .inl (nf nS))), (d8, .inl (cI, 16, .inl (nf nL))), (d9, .inl (cI, 1024, .inl (uf nK))), (d10, .inl (cI, 64, .inl (uf F)))] dX4_crash_2 ui_X4_crash_X4 tyX4_ok nmX4 rfl rfl (by decide) fl_X4_crash_48 rfl rfl rfl rfl (Nat.le_of_ble_eq_true rfl) rfl ?_
  refine x_iload_n E 1 dX4_crash_5 rfl ?_
  refine x_nif_lt E 28 dX4_crash_6 (by decide) (by decide) (fun h => absurd h (fun h => Nat.not_lt_zero _ h)) (fun h6 => ?_)
  refine x_iload_n E 1 dX4_crash_9 rfl ?_
  refine x_iconst E (v := nI 1) dX4_crash_10 (by decide) ?_
  refine x_ncmp_gt E 28 dX4_crash_11 (by decide) (by decide) (by decide) (fun h => False.elim (by omega)) (fun h11 => ?_)
  refine x_iload_n E 2 dX4_crash_14 rfl ?_
  refine x_if_lt E 28 dX4_crash_15 (by decide) (fun h15 => ?_) (fun h15 => ?_)
  · refine x_iconst E (v := nI 0) dX4_crash_28 (by decide) ?_
    exact x_zret E hr hlocks dX4_crash_29 rfl ⟨rfl, rfl⟩
  · refine x_iload_n E 2 dX4_crash_18 rfl ?_
    refine x_aload_n E 0 dX4_crash_19 rfl ?_
    refine x_get E 0 1 dX4_crash_20 ui_X4_crash_X4 rfl rfl (by decide) fl_X4_crash_13 rfl rfl ?_
    refine x_iload_n E 1 dX4_crash_23 rfl ?_
    refine x_nald E 2 1 dX4_crash_24 rfl rfl (by omega) (by decide) ?_
    refine x_icmp_le E 30 dX4_crash_25 (by decide) (fun h => False.elim (by rcases hno with q | q; exact h15 q; exact q h)) (fun h25 => ?_)
    refine x_iconst E (v := nI 0) dX4_crash_28 (by decide) ?_
    exact x_zret E hr hlocks dX4_crash_29 rfl ⟨rfl, rfl⟩
set_option maxRecDepth 100000 in
set_option maxHeartbeats 4000000 in
theorem c_X4_crash_ok1 (l : Launch) (D : va_G) (cB cI cZ cJ : ClassId) (r0 : Nat) (d0 : Nat) (d1 : Nat) (d2 : Nat) (d3 : Nat) (d4 : Nat) (d5 : Nat) (d6 : Nat) (d7 : Nat) (d8 : Nat) (d9 : Nat) (d10 : Nat) (kn : Nat) (mv : Nat) (ng : Nat) (nr : Nat) (fc : Nat) (sh : Bool) (rp : Nat) (bad : Int32) (th : Nat) (sr : Nat) (sb : Nat) (at9 : Nat) (B : Nat → UInt8) (z : Nat → Nat) (S : Nat → Nat) (Ln : Nat → Nat) (K : Nat → UInt8) (gr : Nat → Nat) (gb : Nat → Nat) (nS : Nat → Nat) (nL : Nat → Nat) (nK : Nat → UInt8) (F : Nat → UInt8) (k : Nat) (hz0 : z 0 ≤ 8192) (hz1 : z 1 ≤ 8192) (hk : k ≤ z 1) : Ct l D vwCl (tyl cB cI cZ cJ) yX4_crash wsX4_crash rmX4_crash [.ref r0, .int (nI 1), .int (nI k)] [(r0, .inr (4, [.ref d0, .ref d1, .ref d2, .ref d3, .ref d4, .int (nI kn), .int (nI mv), .ref d5, .ref d6, .int (nI ng), .ref d7, .ref d8, .ref d9, .int (nI nr), .ref d10, .int (nI fc), .int (if sh = true then 1 else 0), .int (nI rp), .int bad, .int (nI th), .int (nI sr), .int (nI sb), .int (nI at9)])), (d0, .inl (cI, 16384, .inl (uf B))), (d1, .inl (cI, 2, .inl (nf z))), (d2, .inl (cI, 600, .inl (nf S))), (d3, .inl (cI, 600, .inl (nf Ln))), (d4, .inl (cI, 38400, .inl (uf K))), (d5, .inl (cI, 600, .inl (nf gr))), (d6, .inl (cI, 600, .inl (nf gb))), (d7, .inl (cI, 16, .inl (nf nS))), (d8, .inl (cI, 16, .inl (nf nL))), (d9, .inl (cI, 1024, .inl (uf nK))), (d10, .inl (cI, 64, .inl (uf F)))] (some (.int (nI 1))) [(r0, .inr (4, [.ref d0, .ref d1, .ref d2, .ref d3, .ref d4, .int (nI mv), .int (nI mv), .ref d5, .ref d6, .int (nI 0), .ref d7, .ref d8, .ref d9, .int (nI 0), .ref d10, .int (nI 0), .int (if true = true then 1 else 0), .int (nI rp), .int bad, .int (nI 0), .int (nI sr), .int (nI sb), .int (nI at9)])), (d0, .inl (cI, 16384, .inl (uf B))), (d1, .inl (cI, 2, .inl (nf (va_up z 1 k)))), (d2, .inl (cI, 600, .inl (nf S))), (d3, .inl (cI, 600, .inl (nf Ln))), (d4, .inl (cI, 38400, .inl (uf K))), (d5, .inl (cI, 600, .inl (nf gr))), (d6, .inl (cI, 600, .inl (nf gb))), (d7, .inl (cI, 16, .inl (nf nS))), (d8, .inl (cI, 16, .inl (nf nL))), (d9, .inl (cI, 1024, .inl (uf nK))), (d10, .inl (cI, 64, .inl (uf F)))] := by
  refine x_start (cc := cX4_crash) (maxL := 3) (ret := (some .boolean)) (by decide) rfl (Nat.le_of_ble_eq_true rfl) ?_
  intro xp xe xs xm xb xt xc xA E hr hlocks hnm
  obtain ⟨-, -, -, hown, hts, hK, hA⟩ := id E
  refine x_lve (lv' := [(0, .ref r0), (1, .int (nI 1)), (2, .int (nI k))]) rfl ?_
  refine x_aload_n E 0 dX4_crash_0 rfl ?_
  refine x_iconst E (v := nI 0) dX4_crash_1 (by decide) ?_
  refine x_put E 0 19 [(r0, .inr (4, [.ref d0, .ref d1, .ref d2, .ref d3, .ref d4, .int (nI kn), .int (nI mv), .ref d5, .ref d6, .int (nI ng), .ref d7, .ref d8, .ref d9, .int (nI nr), .ref d10, .int (nI fc), .int (if sh = true then 1 else 0), .int (nI rp), .int bad, .int (nI 0), .int (nI sr), .int (nI sb), .int (nI at9)])), (d0, .inl (cI, 16384, .inl (uf B))), (d1, .inl (cI, 2, .inl (nf z))), (d2, .inl (cI, 600, .inl (nf S))), (d3, .inl (cI, 600, .inl (nf Ln))), (d4, .inl (cI, 38400, .inl (uf K))), (d5, .inl (cI, 600, .inl (nf gr))), (d6, .inl (cI, 600, .inl (nf gb))), (d7, .inl (cI, 16, .inl (nf nS))), (d8, .inl (cI, 16, .inl (nf nL))), (d9, .inl (cI, 1024, .inl (uf nK))), (d10, .inl (cI, 64, .inl (uf F)))] dX4_crash_2 ui_X4_crash_X4 tyX4_ok nmX4 rfl rfl (by decide) fl_X4_crash_48 rfl rfl rfl rfl (Nat.le_of_ble_eq_true rfl) rfl ?_
  refine x_iload_n E 1 dX4_crash_5 rfl ?_
  refine x_nif_lt E 28 dX4_crash_6 (by decide) (by decide) (fun h => absurd h (fun h => Nat.not_lt_zero _ h)) (fun h6 => ?_)
  refine x_iload_n E 1 dX4_crash_9 rfl ?_
  refine x_iconst E (v := nI 1) dX4_crash_10 (by decide) ?_
  refine x_ncmp_gt E 28 dX4_crash_11 (by decide) (by decide) (by decide) (fun h => False.elim (by omega)) (fun h11 => ?_)
  refine x_iload_n E 2 dX4_crash_14 rfl ?_
  refine x_nif_lt E 28 dX4_crash_15 (by decide) (by omega) (fun h => absurd h (fun h => Nat.not_lt_zero _ h)) (fun h15 => ?_)
  refine x_iload_n E 2 dX4_crash_18 rfl ?_
  refine x_aload_n E 0 dX4_crash_19 rfl ?_
  refine x_get E 0 1 dX4_crash_20 ui_X4_crash_X4 rfl rfl (by decide) fl_X4_crash_13 rfl rfl ?_
  refine x_iload_n E 1 dX4_crash_23 rfl ?_
  refine x_nald E 2 1 dX4_crash_24 rfl rfl (by omega) (by decide) ?_
  refine x_ncmp_le E 30 dX4_crash_25 (by decide) (by omega) (by omega) (fun h25 => ?_) (fun h => False.elim (by omega))
  refine x_aload_n E 0 dX4_crash_30 rfl ?_
  refine x_get E 0 1 dX4_crash_31 ui_X4_crash_X4 rfl rfl (by decide) fl_X4_crash_13 rfl rfl ?_
  refine x_iload_n E 1 dX4_crash_34 rfl ?_
  refine x_iload_n E 2 dX4_crash_35 rfl ?_
  refine x_nast E 2 1 [(r0, .inr (4, [.ref d0, .ref d1, .ref d2, .ref d3, .ref d4, .int (nI kn), .int (nI mv), .ref d5, .ref d6, .int (nI ng), .ref d7, .ref d8, .ref d9, .int (nI nr), .ref d10, .int (nI fc), .int (if sh = true then 1 else 0), .int (nI rp), .int bad, .int (nI 0), .int (nI sr), .int (nI sb), .int (nI at9)])), (d0, .inl (cI, 16384, .inl (uf B))), (d1, .inl (cI, 2, .inl (nf (va_up z 1 k)))), (d2, .inl (cI, 600, .inl (nf S))), (d3, .inl (cI, 600, .inl (nf Ln))), (d4, .inl (cI, 38400, .inl (uf K))), (d5, .inl (cI, 600, .inl (nf gr))), (d6, .inl (cI, 600, .inl (nf gb))), (d7, .inl (cI, 16, .inl (nf nS))), (d8, .inl (cI, 16, .inl (nf nL))), (d9, .inl (cI, 1024, .inl (uf nK))), (d10, .inl (cI, 64, .inl (uf F)))] dX4_crash_36 rfl rfl (by omega) (by decide) rfl ?_
  refine x_aload_n E 0 dX4_crash_37 rfl ?_
  refine x_cV E [] [] [] [(r0, .inr (4, [.ref d0, .ref d1, .ref d2, .ref d3, .ref d4, .int (nI mv), .int (nI mv), .ref d5, .ref d6, .int (nI 0), .ref d7, .ref d8, .ref d9, .int (nI 0), .ref d10, .int (nI 0), .int (if sh = true then 1 else 0), .int (nI rp), .int bad, .int (nI 0), .int (nI sr), .int (nI sb), .int (nI at9)])), (d0, .inl (cI, 16384, .inl (uf B))), (d1, .inl (cI, 2, .inl (nf (va_up z 1 k)))), (d2, .inl (cI, 600, .inl (nf S))), (d3, .inl (cI, 600, .inl (nf Ln))), (d4, .inl (cI, 38400, .inl (uf K))), (d5, .inl (cI, 600, .inl (nf gr))), (d6, .inl (cI, 600, .inl (nf gb))), (d7, .inl (cI, 16, .inl (nf nS))), (d8, .inl (cI, 16, .inl (nf nL))), (d9, .inl (cI, 1024, .inl (uf nK))), (d10, .inl (cI, 64, .inl (uf F)))] (c_X4_forget l D cB cI cZ cJ r0 d0 d1 d2 d3 d4 d5 d6 d7 d8 d9 d10 kn mv ng nr fc sh rp bad 0 sr sb at9 B (va_up z 1 k) S Ln K gr gb nS nL nK F ) 0 rfl rfl (cwV 0 hts gX4_crash_X4_forget rfl rfl rfl (by decide +kernel) ⟨Nat.le_of_ble_eq_true rfl, Nat.le_of_ble_eq_true rfl⟩) [0, 1, 2, 3, 4, 5, 6, 7, 8, 9, 10, 11] [] rfl rfl (by decide) (by decide) (by decide) [0, 1, 2, 3, 4, 5, 6, 7, 8, 9, 10, 11] (by decide) rfl rfl (Nat.le_of_ble_eq_true rfl) dX4_crash_38 ⟨Nat.zero_le _, Nat.zero_le _⟩ rfl rfl ?_
  refine x_aload_n E 0 dX4_crash_41 rfl ?_
  refine x_iconst E (v := nI 1) dX4_crash_42 (by decide) ?_
  refine x_put E 0 16 [(r0, .inr (4, [.ref d0, .ref d1, .ref d2, .ref d3, .ref d4, .int (nI mv), .int (nI mv), .ref d5, .ref d6, .int (nI 0), .ref d7, .ref d8, .ref d9, .int (nI 0), .ref d10, .int (nI 0), .int (nI 1), .int (nI rp), .int bad, .int (nI 0), .int (nI sr), .int (nI sb), .int (nI at9)])), (d0, .inl (cI, 16384, .inl (uf B))), (d1, .inl (cI, 2, .inl (nf (va_up z 1 k)))), (d2, .inl (cI, 600, .inl (nf S))), (d3, .inl (cI, 600, .inl (nf Ln))), (d4, .inl (cI, 38400, .inl (uf K))), (d5, .inl (cI, 600, .inl (nf gr))), (d6, .inl (cI, 600, .inl (nf gb))), (d7, .inl (cI, 16, .inl (nf nS))), (d8, .inl (cI, 16, .inl (nf nL))), (d9, .inl (cI, 1024, .inl (uf nK))), (d10, .inl (cI, 64, .inl (uf F)))] dX4_crash_43 ui_X4_crash_X4 tyX4_ok nmX4 rfl rfl (by decide) fl_X4_crash_52 rfl rfl rfl rfl (Nat.le_of_ble_eq_true rfl) rfl ?_
  refine x_iconst E (v := nI 1) dX4_crash_46 (by decide) ?_
  exact x_zret E hr hlocks dX4_crash_47 rfl ⟨rfl, rfl⟩
set_option maxRecDepth 100000 in
set_option maxHeartbeats 4000000 in
theorem c_X4_poke_nof (l : Launch) (D : va_G) (cB cI cZ cJ : ClassId) (r0 : Nat) (d0 : Nat) (d1 : Nat) (d2 : Nat) (d3 : Nat) (d4 : Nat) (d5 : Nat) (d6 : Nat) (d7 : Nat) (d8 : Nat) (d9 : Nat) (d10 : Nat) (kn : Nat) (mv : Nat) (ng : Nat) (nr : Nat) (fc : Nat) (sh : Bool) (rp : Nat) (bad : Int32) (th : Nat) (sr : Nat) (sb : Nat) (at9 : Nat) (B : Nat → UInt8) (z : Nat → Nat) (S : Nat → Nat) (Ln : Nat → Nat) (K : Nat → UInt8) (gr : Nat → Nat) (gb : Nat → Nat) (nS : Nat → Nat) (nL : Nat → Nat) (nK : Nat → UInt8) (F : Nat → UInt8) (x : Int32) (y : Int32) (w : Int32) (hx : ¬ (x = 0 ∨ x = 1)) : Ct l D vwCl (tyl cB cI cZ cJ) yX4_poke wsX4_poke rmX4_poke [.ref r0, .int x, .int y, .int w] [(r0, .inr (4, [.ref d0, .ref d1, .ref d2, .ref d3, .ref d4, .int (nI kn), .int (nI mv), .ref d5, .ref d6, .int (nI ng), .ref d7, .ref d8, .ref d9, .int (nI nr), .ref d10, .int (nI fc), .int (if sh = true then 1 else 0), .int (nI rp), .int bad, .int (nI th), .int (nI sr), .int (nI sb), .int (nI at9)])), (d0, .inl (cI, 16384, .inl (uf B))), (d1, .inl (cI, 2, .inl (nf z))), (d2, .inl (cI, 600, .inl (nf S))), (d3, .inl (cI, 600, .inl (nf Ln))), (d4, .inl (cI, 38400, .inl (uf K))), (d5, .inl (cI, 600, .inl (nf gr))), (d6, .inl (cI, 600, .inl (nf gb))), (d7, .inl (cI, 16, .inl (nf nS))), (d8, .inl (cI, 16, .inl (nf nL))), (d9, .inl (cI, 1024, .inl (uf nK))), (d10, .inl (cI, 64, .inl (uf F)))] (some (.int (nI 0))) [(r0, .inr (4, [.ref d0, .ref d1, .ref d2, .ref d3, .ref d4, .int (nI kn), .int (nI mv), .ref d5, .ref d6, .int (nI ng), .ref d7, .ref d8, .ref d9, .int (nI nr), .ref d10, .int (nI fc), .int (if sh = true then 1 else 0), .int (nI rp), .int bad, .int (nI 0), .int (nI sr), .int (nI sb), .int (nI at9)])), (d0, .inl (cI, 16384, .inl (uf B))), (d1, .inl (cI, 2, .inl (nf z))), (d2, .inl (cI, 600, .inl (nf S))), (d3, .inl (cI, 600, .inl (nf Ln))), (d4, .inl (cI, 38400, .inl (uf K))), (d5, .inl (cI, 600, .inl (nf gr))), (d6, .inl (cI, 600, .inl (nf gb))), (d7, .inl (cI, 16, .inl (nf nS))), (d8, .inl (cI, 16, .inl (nf nL))), (d9, .inl (cI, 1024, .inl (uf nK))), (d10, .inl (cI, 64, .inl (uf F)))] := by
  refine x_start (cc := cX4_poke) (maxL := 4) (ret := (some .boolean)) (by decide) rfl (Nat.le_of_ble_eq_true rfl) ?_
  intro xp xe xs xm xb xt xc xA E hr hlocks hnm
  obtain ⟨-, -, -, hown, hts, hK, hA⟩ := id E
  refine x_lve (lv' := [(0, .ref r0), (1, .int x), (2, .int y), (3, .int w)]) rfl ?_
  refine x_aload_n E 0 dX4_poke_0 rfl ?_
  refine x_iconst E (v := nI 0) dX4_poke_1 (by decide) ?_
  refine x_put E 0 19 [(r0, .inr (4, [.ref d0, .ref d1, .ref d2, .ref d3, .ref d4, .int (nI kn), .int (nI mv), .ref d5, .ref d6, .int (nI ng), .ref d7, .ref d8, .ref d9, .int (nI nr), .ref d10, .int (nI fc), .int (if sh = true then 1 else 0), .int (nI rp), .int bad, .int (nI 0), .int (nI sr), .int (nI sb), .int (nI at9)])), (d0, .inl (cI, 16384, .inl (uf B))), (d1, .inl (cI, 2, .inl (nf z))), (d2, .inl (cI, 600, .inl (nf S))), (d3, .inl (cI, 600, .inl (nf Ln))), (d4, .inl (cI, 38400, .inl (uf K))), (d5, .inl (cI, 600, .inl (nf gr))), (d6, .inl (cI, 600, .inl (nf gb))), (d7, .inl (cI, 16, .inl (nf nS))), (d8, .inl (cI, 16, .inl (nf nL))), (d9, .inl (cI, 1024, .inl (uf nK))), (d10, .inl (cI, 64, .inl (uf F)))] dX4_poke_2 ui_X4_poke_X4 tyX4_ok nmX4 rfl rfl (by decide) fl_X4_poke_48 rfl rfl rfl rfl (Nat.le_of_ble_eq_true rfl) rfl ?_
  refine x_iload_n E 1 dX4_poke_5 rfl ?_
  refine x_if_lt E 40 dX4_poke_6 (by decide) (fun h6 => ?_) (fun h6 => ?_)
  · refine x_iconst E (v := nI 0) dX4_poke_40 (by decide) ?_
    exact x_zret E hr hlocks dX4_poke_41 rfl ⟨rfl, rfl⟩
  · refine x_iload_n E 1 dX4_poke_9 rfl ?_
    refine x_iconst E (v := nI 1) dX4_poke_10 (by decide) ?_
    refine x_icmp_gt E 40 dX4_poke_11 (by decide) (fun h11 => ?_) (fun h => absurd h (fun h => hx (f01 h6 h)))
    refine x_iconst E (v := nI 0) dX4_poke_40 (by decide) ?_
    exact x_zret E hr hlocks dX4_poke_41 rfl ⟨rfl, rfl⟩
set_option maxRecDepth 100000 in
set_option maxHeartbeats 4000000 in
theorem c_X4_poke_no0 (l : Launch) (D : va_G) (cB cI cZ cJ : ClassId) (r0 : Nat) (d0 : Nat) (d1 : Nat) (d2 : Nat) (d3 : Nat) (d4 : Nat) (d5 : Nat) (d6 : Nat) (d7 : Nat) (d8 : Nat) (d9 : Nat) (d10 : Nat) (kn : Nat) (mv : Nat) (ng : Nat) (nr : Nat) (fc : Nat) (sh : Bool) (rp : Nat) (bad : Int32) (th : Nat) (sr : Nat) (sb : Nat) (at9 : Nat) (B : Nat → UInt8) (z : Nat → Nat) (S : Nat → Nat) (Ln : Nat → Nat) (K : Nat → UInt8) (gr : Nat → Nat) (gb : Nat → Nat) (nS : Nat → Nat) (nL : Nat → Nat) (nK : Nat → UInt8) (F : Nat → UInt8) (y : Int32) (w : Int32) (hz0 : z 0 ≤ 8192) (hz1 : z 1 ≤ 8192) (hno : y < 0 ∨ nI (z 0) ≤ y ∨ w < nI 1 ∨ ¬ w ≤ nI 255) : Ct l D vwCl (tyl cB cI cZ cJ) yX4_poke wsX4_poke rmX4_poke [.ref r0, .int (nI 0), .int y, .int w] [(r0, .inr (4, [.ref d0, .ref d1, .ref d2, .ref d3, .ref d4, .int (nI kn), .int (nI mv), .ref d5, .ref d6, .int (nI ng), .ref d7, .ref d8, .ref d9, .int (nI nr), .ref d10, .int (nI fc), .int (if sh = true then 1 else 0), .int (nI rp), .int bad, .int (nI th), .int (nI sr), .int (nI sb), .int (nI at9)])), (d0, .inl (cI, 16384, .inl (uf B))), (d1, .inl (cI, 2, .inl (nf z))), (d2, .inl (cI, 600, .inl (nf S))), (d3, .inl (cI, 600, .inl (nf Ln))), (d4, .inl (cI, 38400, .inl (uf K))), (d5, .inl (cI, 600, .inl (nf gr))), (d6, .inl (cI, 600, .inl (nf gb))), (d7, .inl (cI, 16, .inl (nf nS))), (d8, .inl (cI, 16, .inl (nf nL))), (d9, .inl (cI, 1024, .inl (uf nK))), (d10, .inl (cI, 64, .inl (uf F)))] (some (.int (nI 0))) [(r0, .inr (4, [.ref d0, .ref d1, .ref d2, .ref d3, .ref d4, .int (nI kn), .int (nI mv), .ref d5, .ref d6, .int (nI ng), .ref d7, .ref d8, .ref d9, .int (nI nr), .ref d10, .int (nI fc), .int (if sh = true then 1 else 0), .int (nI rp), .int bad, .int (nI 0), .int (nI sr), .int (nI sb), .int (nI at9)])), (d0, .inl (cI, 16384, .inl (uf B))), (d1, .inl (cI, 2, .inl (nf z))), (d2, .inl (cI, 600, .inl (nf S))), (d3, .inl (cI, 600, .inl (nf Ln))), (d4, .inl (cI, 38400, .inl (uf K))), (d5, .inl (cI, 600, .inl (nf gr))), (d6, .inl (cI, 600, .inl (nf gb))), (d7, .inl (cI, 16, .inl (nf nS))), (d8, .inl (cI, 16, .inl (nf nL))), (d9, .inl (cI, 1024, .inl (uf nK))), (d10, .inl (cI, 64, .inl (uf F)))] := by
  refine x_start (cc := cX4_poke) (maxL := 4) (ret := (some .boolean)) (by decide) rfl (Nat.le_of_ble_eq_true rfl) ?_
  intro xp xe xs xm xb xt xc xA E hr hlocks hnm
  obtain ⟨-, -, -, hown, hts, hK, hA⟩ := id E
  refine x_lve (lv' := [(0, .ref r0), (1, .int (nI 0)), (2, .int y), (3, .int w)]) rfl ?_
  refine x_aload_n E 0 dX4_poke_0 rfl ?_
  refine x_iconst E (v := nI 0) dX4_poke_1 (by decide) ?_
  refine x_put E 0 19 [(r0, .inr (4, [.ref d0, .ref d1, .ref d2, .ref d3, .ref d4, .int (nI kn), .int (nI mv), .ref d5, .ref d6, .int (nI ng), .ref d7, .ref d8, .ref d9, .int (nI nr), .ref d10, .int (nI fc), .int (if sh = true then 1 else 0), .int (nI rp), .int bad, .int (nI 0), .int (nI sr), .int (nI sb), .int (nI at9)])), (d0, .inl (cI, 16384, .inl (uf B))), (d1, .inl (cI, 2, .inl (nf z))), (d2, .inl (cI, 600, .inl (nf S))), (d3, .inl (cI, 600, .inl (nf Ln))), (d4, .inl (cI, 38400, .inl (uf K))), (d5, .inl (cI, 600, .inl (nf gr))), (d6, .inl (cI, 600, .inl (nf gb))), (d7, .inl (cI, 16, .inl (nf nS))), (d8, .inl (cI, 16, .inl (nf nL))), (d9, .inl (cI, 1024, .inl (uf nK))), (d10, .inl (cI, 64, .inl (uf F)))] dX4_poke_2 ui_X4_poke_X4 tyX4_ok nmX4 rfl rfl (by decide) fl_X4_poke_48 rfl rfl rfl rfl (Nat.le_of_ble_eq_true rfl) rfl ?_
  refine x_iload_n E 1 dX4_poke_5 rfl ?_
  refine x_nif_lt E 40 dX4_poke_6 (by decide) (by decide) (fun h => absurd h (fun h => Nat.not_lt_zero _ h)) (fun h6 => ?_)
  refine x_iload_n E 1 dX4_poke_9 rfl ?_
  refine x_iconst E (v := nI 1) dX4_poke_10 (by decide) ?_
  refine x_ncmp_gt E 40 dX4_poke_11 (by decide) (by decide) (by decide) (fun h => False.elim (by omega)) (fun h11 => ?_)
  refine x_iload_n E 2 dX4_poke_14 rfl ?_
  refine x_if_lt E 40 dX4_poke_15 (by decide) (fun h15 => ?_) (fun h15 => ?_)
  · refine x_iconst E (v := nI 0) dX4_poke_40 (by decide) ?_
    exact x_zret E hr hlocks dX4_poke_41 rfl ⟨rfl, rfl⟩
  · refine x_iload_n E 2 dX4_poke_18 rfl ?_
    refine x_aload_n E 0 dX4_poke_19 rfl ?_
    refine x_get E 0 1 dX4_poke_20 ui_X4_poke_X4 rfl rfl (by decide) fl_X4_poke_13 rfl rfl ?_
    refine x_iload_n E 1 dX4_poke_23 rfl ?_
    refine x_nald E 2 1 dX4_poke_24 rfl rfl (by omega) (by decide) ?_
    refine x_icmp_ge E 40 dX4_poke_25 (by decide) (fun h25 => ?_) (fun h25 => ?_)
    · refine x_iconst E (v := nI 0) dX4_poke_40 (by decide) ?_
      exact x_zret E hr hlocks dX4_poke_41 rfl ⟨rfl, rfl⟩
    · refine x_iload_n E 3 dX4_poke_28 rfl ?_
      refine x_iconst E (v := nI 1) dX4_poke_29 (by decide) ?_
      refine x_icmp_lt E 40 dX4_poke_30 (by decide) (fun h30 => ?_) (fun h30 => ?_)
      · refine x_iconst E (v := nI 0) dX4_poke_40 (by decide) ?_
        exact x_zret E hr hlocks dX4_poke_41 rfl ⟨rfl, rfl⟩
      · refine x_iload_n E 3 dX4_poke_33 rfl ?_
        refine x_sipush E (v := nI 255) dX4_poke_34 (by decide) ?_
        refine x_icmp_le E 42 dX4_poke_37 (by decide) (fun h => False.elim (by rcases hno with q | q | q | q; exact h15 q; exact h25 q; exact h30 q; exact q h)) (fun h37 => ?_)
        refine x_iconst E (v := nI 0) dX4_poke_40 (by decide) ?_
        exact x_zret E hr hlocks dX4_poke_41 rfl ⟨rfl, rfl⟩
set_option maxRecDepth 100000 in
set_option maxHeartbeats 4000000 in
theorem c_X4_poke_ok0 (l : Launch) (D : va_G) (cB cI cZ cJ : ClassId) (r0 : Nat) (d0 : Nat) (d1 : Nat) (d2 : Nat) (d3 : Nat) (d4 : Nat) (d5 : Nat) (d6 : Nat) (d7 : Nat) (d8 : Nat) (d9 : Nat) (d10 : Nat) (kn : Nat) (mv : Nat) (ng : Nat) (nr : Nat) (fc : Nat) (sh : Bool) (rp : Nat) (bad : Int32) (th : Nat) (sr : Nat) (sb : Nat) (at9 : Nat) (B : Nat → UInt8) (z : Nat → Nat) (S : Nat → Nat) (Ln : Nat → Nat) (K : Nat → UInt8) (gr : Nat → Nat) (gb : Nat → Nat) (nS : Nat → Nat) (nL : Nat → Nat) (nK : Nat → UInt8) (F : Nat → UInt8) (k : Nat) (w : Nat) (hz0 : z 0 ≤ 8192) (hz1 : z 1 ≤ 8192) (hk : k < z 0) (hw1 : 1 ≤ w) (hw2 : w ≤ 255) : Ct l D vwCl (tyl cB cI cZ cJ) yX4_poke wsX4_poke rmX4_poke [.ref r0, .int (nI 0), .int (nI k), .int (nI w)] [(r0, .inr (4, [.ref d0, .ref d1, .ref d2, .ref d3, .ref d4, .int (nI kn), .int (nI mv), .ref d5, .ref d6, .int (nI ng), .ref d7, .ref d8, .ref d9, .int (nI nr), .ref d10, .int (nI fc), .int (if sh = true then 1 else 0), .int (nI rp), .int bad, .int (nI th), .int (nI sr), .int (nI sb), .int (nI at9)])), (d0, .inl (cI, 16384, .inl (uf B))), (d1, .inl (cI, 2, .inl (nf z))), (d2, .inl (cI, 600, .inl (nf S))), (d3, .inl (cI, 600, .inl (nf Ln))), (d4, .inl (cI, 38400, .inl (uf K))), (d5, .inl (cI, 600, .inl (nf gr))), (d6, .inl (cI, 600, .inl (nf gb))), (d7, .inl (cI, 16, .inl (nf nS))), (d8, .inl (cI, 16, .inl (nf nL))), (d9, .inl (cI, 1024, .inl (uf nK))), (d10, .inl (cI, 64, .inl (uf F)))] (some (.int (nI 1))) [(r0, .inr (4, [.ref d0, .ref d1, .ref d2, .ref d3, .ref d4, .int (nI kn), .int (nI mv), .ref d5, .ref d6, .int (nI ng), .ref d7, .ref d8, .ref d9, .int (nI nr), .ref d10, .int (nI fc), .int (if sh = true then 1 else 0), .int (nI rp), .int bad, .int (nI 0), .int (nI sr), .int (nI sb), .int (nI at9)])), (d0, .inl (cI, 16384, .inl (uf (va_up B (0 * 8192 + k) (u8 (bf (fun _ => B (0 * 8192 + k)) 0 ^^^ nI w)))))), (d1, .inl (cI, 2, .inl (nf z))), (d2, .inl (cI, 600, .inl (nf S))), (d3, .inl (cI, 600, .inl (nf Ln))), (d4, .inl (cI, 38400, .inl (uf K))), (d5, .inl (cI, 600, .inl (nf gr))), (d6, .inl (cI, 600, .inl (nf gb))), (d7, .inl (cI, 16, .inl (nf nS))), (d8, .inl (cI, 16, .inl (nf nL))), (d9, .inl (cI, 1024, .inl (uf nK))), (d10, .inl (cI, 64, .inl (uf F)))] := by
  refine x_start (cc := cX4_poke) (maxL := 4) (ret := (some .boolean)) (by decide) rfl (Nat.le_of_ble_eq_true rfl) ?_
  intro xp xe xs xm xb xt xc xA E hr hlocks hnm
  obtain ⟨-, -, -, hown, hts, hK, hA⟩ := id E
  refine x_lve (lv' := [(0, .ref r0), (1, .int (nI 0)), (2, .int (nI k)), (3, .int (nI w))]) rfl ?_
  refine x_aload_n E 0 dX4_poke_0 rfl ?_
  refine x_iconst E (v := nI 0) dX4_poke_1 (by decide) ?_
  refine x_put E 0 19 [(r0, .inr (4, [.ref d0, .ref d1, .ref d2, .ref d3, .ref d4, .int (nI kn), .int (nI mv), .ref d5, .ref d6, .int (nI ng), .ref d7, .ref d8, .ref d9, .int (nI nr), .ref d10, .int (nI fc), .int (if sh = true then 1 else 0), .int (nI rp), .int bad, .int (nI 0), .int (nI sr), .int (nI sb), .int (nI at9)])), (d0, .inl (cI, 16384, .inl (uf B))), (d1, .inl (cI, 2, .inl (nf z))), (d2, .inl (cI, 600, .inl (nf S))), (d3, .inl (cI, 600, .inl (nf Ln))), (d4, .inl (cI, 38400, .inl (uf K))), (d5, .inl (cI, 600, .inl (nf gr))), (d6, .inl (cI, 600, .inl (nf gb))), (d7, .inl (cI, 16, .inl (nf nS))), (d8, .inl (cI, 16, .inl (nf nL))), (d9, .inl (cI, 1024, .inl (uf nK))), (d10, .inl (cI, 64, .inl (uf F)))] dX4_poke_2 ui_X4_poke_X4 tyX4_ok nmX4 rfl rfl (by decide) fl_X4_poke_48 rfl rfl rfl rfl (Nat.le_of_ble_eq_true rfl) rfl ?_
  refine x_iload_n E 1 dX4_poke_5 rfl ?_
  refine x_nif_lt E 40 dX4_poke_6 (by decide) (by decide) (fun h => absurd h (fun h => Nat.not_lt_zero _ h)) (fun h6 => ?_)
  refine x_iload_n E 1 dX4_poke_9 rfl ?_
  refine x_iconst E (v := nI 1) dX4_poke_10 (by decide) ?_
  refine x_ncmp_gt E 40 dX4_poke_11 (by decide) (by decide) (by decide) (fun h => False.elim (by omega)) (fun h11 => ?_)
  refine x_iload_n E 2 dX4_poke_14 rfl ?_
  refine x_nif_lt E 40 dX4_poke_15 (by decide) (by omega) (fun h => absurd h (fun h => Nat.not_lt_zero _ h)) (fun h15 => ?_)
  refine x_iload_n E 2 dX4_poke_18 rfl ?_
  refine x_aload_n E 0 dX4_poke_19 rfl ?_
  refine x_get E 0 1 dX4_poke_20 ui_X4_poke_X4 rfl rfl (by decide) fl_X4_poke_13 rfl rfl ?_
  refine x_iload_n E 1 dX4_poke_23 rfl ?_
  refine x_nald E 2 1 dX4_poke_24 rfl rfl (by omega) (by decide) ?_
  refine x_ncmp_ge E 40 dX4_poke_25 (by decide) (by omega) (by omega) (fun h => False.elim (by omega)) (fun h25 => ?_)
  refine x_iload_n E 3 dX4_poke_28 rfl ?_
  refine x_iconst E (v := nI 1) dX4_poke_29 (by decide) ?_
  refine x_ncmp_lt E 40 dX4_poke_30 (by decide) (by omega) (by decide) (fun h => False.elim (by omega)) (fun h30 => ?_)
  refine x_iload_n E 3 dX4_poke_33 rfl ?_
  refine x_sipush E (v := nI 255) dX4_poke_34 (by decide) ?_
  refine x_ncmp_le E 42 dX4_poke_37 (by decide) (by omega) (by decide) (fun h37 => ?_) (fun h => False.elim (by omega))
  refine x_aload_n E 0 dX4_poke_42 rfl ?_
  refine x_get E 0 0 dX4_poke_43 ui_X4_poke_X4 rfl rfl (by decide) fl_X4_poke_9 rfl rfl ?_
  refine x_iload_n E 1 dX4_poke_46 rfl ?_
  refine x_sipush E (v := nI 8192) dX4_poke_47 (by decide) ?_
  refine x_nimul E dX4_poke_50 ?_
  refine x_iload_n E 2 dX4_poke_51 rfl ?_
  refine x_niadd E dX4_poke_52 ?_
  refine x_dup2 E dX4_poke_53 rfl rfl ?_
  refine x_uald E 1 1 dX4_poke_54 rfl rfl (by omega) (by decide) ?_
  refine x_iload_n E 3 dX4_poke_55 rfl ?_
  refine x_ixor E dX4_poke_56 ?_
  refine x_uast E 1 1 [(r0, .inr (4, [.ref d0, .ref d1, .ref d2, .ref d3, .ref d4, .int (nI kn), .int (nI mv), .ref d5, .ref d6, .int (nI ng), .ref d7, .ref d8, .ref d9, .int (nI nr), .ref d10, .int (nI fc), .int (if sh = true then 1 else 0), .int (nI rp), .int bad, .int (nI 0), .int (nI sr), .int (nI sb), .int (nI at9)])), (d0, .inl (cI, 16384, .inl (uf (va_up B ((0 * 8192) + k) (u8 (bf (fun _ => B (0 * 8192 + k)) 0 ^^^ nI w)))))), (d1, .inl (cI, 2, .inl (nf z))), (d2, .inl (cI, 600, .inl (nf S))), (d3, .inl (cI, 600, .inl (nf Ln))), (d4, .inl (cI, 38400, .inl (uf K))), (d5, .inl (cI, 600, .inl (nf gr))), (d6, .inl (cI, 600, .inl (nf gb))), (d7, .inl (cI, 16, .inl (nf nS))), (d8, .inl (cI, 16, .inl (nf nL))), (d9, .inl (cI, 1024, .inl (uf nK))), (d10, .inl (cI, 64, .inl (uf F)))] dX4_poke_57 rfl rfl (by omega) (by decide) (xor_u _ hw2) rfl ?_
  refine x_iconst E (v := nI 1) dX4_poke_58 (by decide) ?_
  exact x_zret E hr hlocks dX4_poke_59 rfl ⟨rfl, rfl⟩
set_option maxRecDepth 100000 in
set_option maxHeartbeats 4000000 in
theorem c_X4_poke_no1 (l : Launch) (D : va_G) (cB cI cZ cJ : ClassId) (r0 : Nat) (d0 : Nat) (d1 : Nat) (d2 : Nat) (d3 : Nat) (d4 : Nat) (d5 : Nat) (d6 : Nat) (d7 : Nat) (d8 : Nat) (d9 : Nat) (d10 : Nat) (kn : Nat) (mv : Nat) (ng : Nat) (nr : Nat) (fc : Nat) (sh : Bool) (rp : Nat) (bad : Int32) (th : Nat) (sr : Nat) (sb : Nat) (at9 : Nat) (B : Nat → UInt8) (z : Nat → Nat) (S : Nat → Nat) (Ln : Nat → Nat) (K : Nat → UInt8) (gr : Nat → Nat) (gb : Nat → Nat) (nS : Nat → Nat) (nL : Nat → Nat) (nK : Nat → UInt8) (F : Nat → UInt8) (y : Int32) (w : Int32) (hz0 : z 0 ≤ 8192) (hz1 : z 1 ≤ 8192) (hno : y < 0 ∨ nI (z 1) ≤ y ∨ w < nI 1 ∨ ¬ w ≤ nI 255) : Ct l D vwCl (tyl cB cI cZ cJ) yX4_poke wsX4_poke rmX4_poke [.ref r0, .int (nI 1), .int y, .int w] [(r0, .inr (4, [.ref d0, .ref d1, .ref d2, .ref d3, .ref d4, .int (nI kn), .int (nI mv), .ref d5, .ref d6, .int (nI ng), .ref d7, .ref d8, .ref d9, .int (nI nr), .ref d10, .int (nI fc), .int (if sh = true then 1 else 0), .int (nI rp), .int bad, .int (nI th), .int (nI sr), .int (nI sb), .int (nI at9)])), (d0, .inl (cI, 16384, .inl (uf B))), (d1, .inl (cI, 2, .inl (nf z))), (d2, .inl (cI, 600, .inl (nf S))), (d3, .inl (cI, 600, .inl (nf Ln))), (d4, .inl (cI, 38400, .inl (uf K))), (d5, .inl (cI, 600, .inl (nf gr))), (d6, .inl (cI, 600, .inl (nf gb))), (d7, .inl (cI, 16, .inl (nf nS))), (d8, .inl (cI, 16, .inl (nf nL))), (d9, .inl (cI, 1024, .inl (uf nK))), (d10, .inl (cI, 64, .inl (uf F)))] (some (.int (nI 0))) [(r0, .inr (4, [.ref d0, .ref d1, .ref d2, .ref d3, .ref d4, .int (nI kn), .int (nI mv), .ref d5, .ref d6, .int (nI ng), .ref d7, .ref d8, .ref d9, .int (nI nr), .ref d10, .int (nI fc), .int (if sh = true then 1 else 0), .int (nI rp), .int bad, .int (nI 0), .int (nI sr), .int (nI sb), .int (nI at9)])), (d0, .inl (cI, 16384, .inl (uf B))), (d1, .inl (cI, 2, .inl (nf z))), (d2, .inl (cI, 600, .inl (nf S))), (d3, .inl (cI, 600, .inl (nf Ln))), (d4, .inl (cI, 38400, .inl (uf K))), (d5, .inl (cI, 600, .inl (nf gr))), (d6, .inl (cI, 600, .inl (nf gb))), (d7, .inl (cI, 16, .inl (nf nS))), (d8, .inl (cI, 16, .inl (nf nL))), (d9, .inl (cI, 1024, .inl (uf nK))), (d10, .inl (cI, 64, .inl (uf F)))] := by
  refine x_start (cc := cX4_poke) (maxL := 4) (ret := (some .boolean)) (by decide) rfl (Nat.le_of_ble_eq_true rfl) ?_
  intro xp xe xs xm xb xt xc xA E hr hlocks hnm
  obtain ⟨-, -, -, hown, hts, hK, hA⟩ := id E
  refine x_lve (lv' := [(0, .ref r0), (1, .int (nI 1)), (2, .int y), (3, .int w)]) rfl ?_
  refine x_aload_n E 0 dX4_poke_0 rfl ?_
  refine x_iconst E (v := nI 0) dX4_poke_1 (by decide) ?_
  refine x_put E 0 19 [(r0, .inr (4, [.ref d0, .ref d1, .ref d2, .ref d3, .ref d4, .int (nI kn), .int (nI mv), .ref d5, .ref d6, .int (nI ng), .ref d7, .ref d8, .ref d9, .int (nI nr), .ref d10, .int (nI fc), .int (if sh = true then 1 else 0), .int (nI rp), .int bad, .int (nI 0), .int (nI sr), .int (nI sb), .int (nI at9)])), (d0, .inl (cI, 16384, .inl (uf B))), (d1, .inl (cI, 2, .inl (nf z))), (d2, .inl (cI, 600, .inl (nf S))), (d3, .inl (cI, 600, .inl (nf Ln))), (d4, .inl (cI, 38400, .inl (uf K))), (d5, .inl (cI, 600, .inl (nf gr))), (d6, .inl (cI, 600, .inl (nf gb))), (d7, .inl (cI, 16, .inl (nf nS))), (d8, .inl (cI, 16, .inl (nf nL))), (d9, .inl (cI, 1024, .inl (uf nK))), (d10, .inl (cI, 64, .inl (uf F)))] dX4_poke_2 ui_X4_poke_X4 tyX4_ok nmX4 rfl rfl (by decide) fl_X4_poke_48 rfl rfl rfl rfl (Nat.le_of_ble_eq_true rfl) rfl ?_
  refine x_iload_n E 1 dX4_poke_5 rfl ?_
  refine x_nif_lt E 40 dX4_poke_6 (by decide) (by decide) (fun h => absurd h (fun h => Nat.not_lt_zero _ h)) (fun h6 => ?_)
  refine x_iload_n E 1 dX4_poke_9 rfl ?_
  refine x_iconst E (v := nI 1) dX4_poke_10 (by decide) ?_
  refine x_ncmp_gt E 40 dX4_poke_11 (by decide) (by decide) (by decide) (fun h => False.elim (by omega)) (fun h11 => ?_)
  refine x_iload_n E 2 dX4_poke_14 rfl ?_
  refine x_if_lt E 40 dX4_poke_15 (by decide) (fun h15 => ?_) (fun h15 => ?_)
  · refine x_iconst E (v := nI 0) dX4_poke_40 (by decide) ?_
    exact x_zret E hr hlocks dX4_poke_41 rfl ⟨rfl, rfl⟩
  · refine x_iload_n E 2 dX4_poke_18 rfl ?_
    refine x_aload_n E 0 dX4_poke_19 rfl ?_
    refine x_get E 0 1 dX4_poke_20 ui_X4_poke_X4 rfl rfl (by decide) fl_X4_poke_13 rfl rfl ?_
    refine x_iload_n E 1 dX4_poke_23 rfl ?_
    refine x_nald E 2 1 dX4_poke_24 rfl rfl (by omega) (by decide) ?_
    refine x_icmp_ge E 40 dX4_poke_25 (by decide) (fun h25 => ?_) (fun h25 => ?_)
    · refine x_iconst E (v := nI 0) dX4_poke_40 (by decide) ?_
      exact x_zret E hr hlocks dX4_poke_41 rfl ⟨rfl, rfl⟩
    · refine x_iload_n E 3 dX4_poke_28 rfl ?_
      refine x_iconst E (v := nI 1) dX4_poke_29 (by decide) ?_
      refine x_icmp_lt E 40 dX4_poke_30 (by decide) (fun h30 => ?_) (fun h30 => ?_)
      · refine x_iconst E (v := nI 0) dX4_poke_40 (by decide) ?_
        exact x_zret E hr hlocks dX4_poke_41 rfl ⟨rfl, rfl⟩
      · refine x_iload_n E 3 dX4_poke_33 rfl ?_
        refine x_sipush E (v := nI 255) dX4_poke_34 (by decide) ?_
        refine x_icmp_le E 42 dX4_poke_37 (by decide) (fun h => False.elim (by rcases hno with q | q | q | q; exact h15 q; exact h25 q; exact h30 q; exact q h)) (fun h37 => ?_)
        refine x_iconst E (v := nI 0) dX4_poke_40 (by decide) ?_
        exact x_zret E hr hlocks dX4_poke_41 rfl ⟨rfl, rfl⟩
set_option maxRecDepth 100000 in
set_option maxHeartbeats 4000000 in
theorem c_X4_poke_ok1 (l : Launch) (D : va_G) (cB cI cZ cJ : ClassId) (r0 : Nat) (d0 : Nat) (d1 : Nat) (d2 : Nat) (d3 : Nat) (d4 : Nat) (d5 : Nat) (d6 : Nat) (d7 : Nat) (d8 : Nat) (d9 : Nat) (d10 : Nat) (kn : Nat) (mv : Nat) (ng : Nat) (nr : Nat) (fc : Nat) (sh : Bool) (rp : Nat) (bad : Int32) (th : Nat) (sr : Nat) (sb : Nat) (at9 : Nat) (B : Nat → UInt8) (z : Nat → Nat) (S : Nat → Nat) (Ln : Nat → Nat) (K : Nat → UInt8) (gr : Nat → Nat) (gb : Nat → Nat) (nS : Nat → Nat) (nL : Nat → Nat) (nK : Nat → UInt8) (F : Nat → UInt8) (k : Nat) (w : Nat) (hz0 : z 0 ≤ 8192) (hz1 : z 1 ≤ 8192) (hk : k < z 1) (hw1 : 1 ≤ w) (hw2 : w ≤ 255) : Ct l D vwCl (tyl cB cI cZ cJ) yX4_poke wsX4_poke rmX4_poke [.ref r0, .int (nI 1), .int (nI k), .int (nI w)] [(r0, .inr (4, [.ref d0, .ref d1, .ref d2, .ref d3, .ref d4, .int (nI kn), .int (nI mv), .ref d5, .ref d6, .int (nI ng), .ref d7, .ref d8, .ref d9, .int (nI nr), .ref d10, .int (nI fc), .int (if sh = true then 1 else 0), .int (nI rp), .int bad, .int (nI th), .int (nI sr), .int (nI sb), .int (nI at9)])), (d0, .inl (cI, 16384, .inl (uf B))), (d1, .inl (cI, 2, .inl (nf z))), (d2, .inl (cI, 600, .inl (nf S))), (d3, .inl (cI, 600, .inl (nf Ln))), (d4, .inl (cI, 38400, .inl (uf K))), (d5, .inl (cI, 600, .inl (nf gr))), (d6, .inl (cI, 600, .inl (nf gb))), (d7, .inl (cI, 16, .inl (nf nS))), (d8, .inl (cI, 16, .inl (nf nL))), (d9, .inl (cI, 1024, .inl (uf nK))), (d10, .inl (cI, 64, .inl (uf F)))] (some (.int (nI 1))) [(r0, .inr (4, [.ref d0, .ref d1, .ref d2, .ref d3, .ref d4, .int (nI kn), .int (nI mv), .ref d5, .ref d6, .int (nI ng), .ref d7, .ref d8, .ref d9, .int (nI nr), .ref d10, .int (nI fc), .int (if sh = true then 1 else 0), .int (nI rp), .int bad, .int (nI 0), .int (nI sr), .int (nI sb), .int (nI at9)])), (d0, .inl (cI, 16384, .inl (uf (va_up B (1 * 8192 + k) (u8 (bf (fun _ => B (1 * 8192 + k)) 0 ^^^ nI w)))))), (d1, .inl (cI, 2, .inl (nf z))), (d2, .inl (cI, 600, .inl (nf S))), (d3, .inl (cI, 600, .inl (nf Ln))), (d4, .inl (cI, 38400, .inl (uf K))), (d5, .inl (cI, 600, .inl (nf gr))), (d6, .inl (cI, 600, .inl (nf gb))), (d7, .inl (cI, 16, .inl (nf nS))), (d8, .inl (cI, 16, .inl (nf nL))), (d9, .inl (cI, 1024, .inl (uf nK))), (d10, .inl (cI, 64, .inl (uf F)))] := by
  refine x_start (cc := cX4_poke) (maxL := 4) (ret := (some .boolean)) (by decide) rfl (Nat.le_of_ble_eq_true rfl) ?_
  intro xp xe xs xm xb xt xc xA E hr hlocks hnm
  obtain ⟨-, -, -, hown, hts, hK, hA⟩ := id E
  refine x_lve (lv' := [(0, .ref r0), (1, .int (nI 1)), (2, .int (nI k)), (3, .int (nI w))]) rfl ?_
  refine x_aload_n E 0 dX4_poke_0 rfl ?_
  refine x_iconst E (v := nI 0) dX4_poke_1 (by decide) ?_
  refine x_put E 0 19 [(r0, .inr (4, [.ref d0, .ref d1, .ref d2, .ref d3, .ref d4, .int (nI kn), .int (nI mv), .ref d5, .ref d6, .int (nI ng), .ref d7, .ref d8, .ref d9, .int (nI nr), .ref d10, .int (nI fc), .int (if sh = true then 1 else 0), .int (nI rp), .int bad, .int (nI 0), .int (nI sr), .int (nI sb), .int (nI at9)])), (d0, .inl (cI, 16384, .inl (uf B))), (d1, .inl (cI, 2, .inl (nf z))), (d2, .inl (cI, 600, .inl (nf S))), (d3, .inl (cI, 600, .inl (nf Ln))), (d4, .inl (cI, 38400, .inl (uf K))), (d5, .inl (cI, 600, .inl (nf gr))), (d6, .inl (cI, 600, .inl (nf gb))), (d7, .inl (cI, 16, .inl (nf nS))), (d8, .inl (cI, 16, .inl (nf nL))), (d9, .inl (cI, 1024, .inl (uf nK))), (d10, .inl (cI, 64, .inl (uf F)))] dX4_poke_2 ui_X4_poke_X4 tyX4_ok nmX4 rfl rfl (by decide) fl_X4_poke_48 rfl rfl rfl rfl (Nat.le_of_ble_eq_true rfl) rfl ?_
  refine x_iload_n E 1 dX4_poke_5 rfl ?_
  refine x_nif_lt E 40 dX4_poke_6 (by decide) (by decide) (fun h => absurd h (fun h => Nat.not_lt_zero _ h)) (fun h6 => ?_)
  refine x_iload_n E 1 dX4_poke_9 rfl ?_
  refine x_iconst E (v := nI 1) dX4_poke_10 (by decide) ?_
  refine x_ncmp_gt E 40 dX4_poke_11 (by decide) (by decide) (by decide) (fun h => False.elim (by omega)) (fun h11 => ?_)
  refine x_iload_n E 2 dX4_poke_14 rfl ?_
  refine x_nif_lt E 40 dX4_poke_15 (by decide) (by omega) (fun h => absurd h (fun h => Nat.not_lt_zero _ h)) (fun h15 => ?_)
  refine x_iload_n E 2 dX4_poke_18 rfl ?_
  refine x_aload_n E 0 dX4_poke_19 rfl ?_
  refine x_get E 0 1 dX4_poke_20 ui_X4_poke_X4 rfl rfl (by decide) fl_X4_poke_13 rfl rfl ?_
  refine x_iload_n E 1 dX4_poke_23 rfl ?_
  refine x_nald E 2 1 dX4_poke_24 rfl rfl (by omega) (by decide) ?_
  refine x_ncmp_ge E 40 dX4_poke_25 (by decide) (by omega) (by omega) (fun h => False.elim (by omega)) (fun h25 => ?_)
  refine x_iload_n E 3 dX4_poke_28 rfl ?_
  refine x_iconst E (v := nI 1) dX4_poke_29 (by decide) ?_
  refine x_ncmp_lt E 40 dX4_poke_30 (by decide) (by omega) (by decide) (fun h => False.elim (by omega)) (fun h30 => ?_)
  refine x_iload_n E 3 dX4_poke_33 rfl ?_
  refine x_sipush E (v := nI 255) dX4_poke_34 (by decide) ?_
  refine x_ncmp_le E 42 dX4_poke_37 (by decide) (by omega) (by decide) (fun h37 => ?_) (fun h => False.elim (by omega))
  refine x_aload_n E 0 dX4_poke_42 rfl ?_
  refine x_get E 0 0 dX4_poke_43 ui_X4_poke_X4 rfl rfl (by decide) fl_X4_poke_9 rfl rfl ?_
  refine x_iload_n E 1 dX4_poke_46 rfl ?_
  refine x_sipush E (v := nI 8192) dX4_poke_47 (by decide) ?_
  refine x_nimul E dX4_poke_50 ?_
  refine x_iload_n E 2 dX4_poke_51 rfl ?_
  refine x_niadd E dX4_poke_52 ?_
  refine x_dup2 E dX4_poke_53 rfl rfl ?_
  refine x_uald E 1 1 dX4_poke_54 rfl rfl (by omega) (by decide) ?_
  refine x_iload_n E 3 dX4_poke_55 rfl ?_
  refine x_ixor E dX4_poke_56 ?_
  refine x_uast E 1 1 [(r0, .inr (4, [.ref d0, .ref d1, .ref d2, .ref d3, .ref d4, .int (nI kn), .int (nI mv), .ref d5, .ref d6, .int (nI ng), .ref d7, .ref d8, .ref d9, .int (nI nr), .ref d10, .int (nI fc), .int (if sh = true then 1 else 0), .int (nI rp), .int bad, .int (nI 0), .int (nI sr), .int (nI sb), .int (nI at9)])), (d0, .inl (cI, 16384, .inl (uf (va_up B ((1 * 8192) + k) (u8 (bf (fun _ => B (1 * 8192 + k)) 0 ^^^ nI w)))))), (d1, .inl (cI, 2, .inl (nf z))), (d2, .inl (cI, 600, .inl (nf S))), (d3, .inl (cI, 600, .inl (nf Ln))), (d4, .inl (cI, 38400, .inl (uf K))), (d5, .inl (cI, 600, .inl (nf gr))), (d6, .inl (cI, 600, .inl (nf gb))), (d7, .inl (cI, 16, .inl (nf nS))), (d8, .inl (cI, 16, .inl (nf nL))), (d9, .inl (cI, 1024, .inl (uf nK))), (d10, .inl (cI, 64, .inl (uf F)))] dX4_poke_57 rfl rfl (by omega) (by decide) (xor_u _ hw2) rfl ?_
  refine x_iconst E (v := nI 1) dX4_poke_58 (by decide) ?_
  exact x_zret E hr hlocks dX4_poke_59 rfl ⟨rfl, rfl⟩
