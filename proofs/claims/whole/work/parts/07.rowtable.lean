abbrev rmX2_begin : Room := { frames := 0, cells := 0, slots := 0, locals := 0 }
abbrev rmX2_bytesInFile : Room := { frames := 2, cells := 0, slots := 0, locals := 42 }
abbrev rmX2_contentAt : Room := { frames := 2, cells := 0, slots := 0, locals := 42 }
abbrev rmX2_count : Room := { frames := 0, cells := 0, slots := 0, locals := 0 }
abbrev rmX2_cutTo : Room := { frames := 0, cells := 0, slots := 0, locals := 0 }
abbrev rmX2_endGroupHere : Room := { frames := 1, cells := 0, slots := 0, locals := 21 }
abbrev rmX2_endsGroup : Room := { frames := 1, cells := 0, slots := 0, locals := 21 }
abbrev rmX2_has : Room := { frames := 0, cells := 0, slots := 0, locals := 0 }
abbrev rmX2_lastSecond : Room := { frames := 2, cells := 0, slots := 0, locals := 42 }
abbrev rmX2_lengthOf : Room := { frames := 1, cells := 0, slots := 0, locals := 21 }
abbrev rmX2_monthOf : Room := { frames := 2, cells := 0, slots := 0, locals := 42 }
abbrev rmX2_push : Room := { frames := 1, cells := 0, slots := 0, locals := 21 }
abbrev rmX2_secondOf : Room := { frames := 1, cells := 0, slots := 0, locals := 21 }
theorem fl_X2_count_27 : Cond.fieldLink RX2 27 "MirrorLog$RowTable" "count" "I" ∈ wsX2_count := by decide +kernel
theorem ui_X2_count_X2 : ∀ w ∈ wsX20, w ∈ wsX2_count := by decide +kernel
theorem fl_X2_cutTo_27 : Cond.fieldLink RX2 27 "MirrorLog$RowTable" "count" "I" ∈ wsX2_cutTo := by decide +kernel
theorem ui_X2_cutTo_X2 : ∀ w ∈ wsX20, w ∈ wsX2_cutTo := by decide +kernel
theorem fl_X2_begin_27 : Cond.fieldLink RX2 27 "MirrorLog$RowTable" "count" "I" ∈ wsX2_begin := by decide +kernel
theorem ui_X2_begin_X2 : ∀ w ∈ wsX20, w ∈ wsX2_begin := by decide +kernel
theorem fl_X2_begin_9 : Cond.fieldLink RX2 9 "MirrorLog$RowTable" "seconds" "[I" ∈ wsX2_begin := by decide +kernel
theorem fl_X2_begin_15 : Cond.fieldLink RX2 15 "MirrorLog$RowTable" "lengths" "[I" ∈ wsX2_begin := by decide +kernel
theorem fl_X2_begin_18 : Cond.fieldLink RX2 18 "MirrorLog$RowTable" "groupEnds" "[Z" ∈ wsX2_begin := by decide +kernel
theorem fl_X2_has_27 : Cond.fieldLink RX2 27 "MirrorLog$RowTable" "count" "I" ∈ wsX2_has := by decide +kernel
theorem ui_X2_has_X2 : ∀ w ∈ wsX20, w ∈ wsX2_has := by decide +kernel
theorem fl_X2_push_27 : Cond.fieldLink RX2 27 "MirrorLog$RowTable" "count" "I" ∈ wsX2_push := by decide +kernel
theorem ui_X2_push_X2 : ∀ w ∈ wsX20, w ∈ wsX2_push := by decide +kernel
theorem fl_X2_push_15 : Cond.fieldLink RX2 15 "MirrorLog$RowTable" "lengths" "[I" ∈ wsX2_push := by decide +kernel
theorem fl_X2_push_23 : Cond.fieldLink RX2 23 "MirrorLog$RowTable" "contents" "[B" ∈ wsX2_push := by decide +kernel
theorem fl_X2_endGroupHere_27 : Cond.fieldLink RX2 27 "MirrorLog$RowTable" "count" "I" ∈ wsX2_endGroupHere := by decide +kernel
theorem ui_X2_endGroupHere_X2 : ∀ w ∈ wsX20, w ∈ wsX2_endGroupHere := by decide +kernel
theorem fl_X2_endGroupHere_18 : Cond.fieldLink RX2 18 "MirrorLog$RowTable" "groupEnds" "[Z" ∈ wsX2_endGroupHere := by decide +kernel
theorem fl_X2_endsGroup_18 : Cond.fieldLink RX2 18 "MirrorLog$RowTable" "groupEnds" "[Z" ∈ wsX2_endsGroup := by decide +kernel
theorem ui_X2_endsGroup_X2 : ∀ w ∈ wsX20, w ∈ wsX2_endsGroup := by decide +kernel
theorem fl_X2_secondOf_9 : Cond.fieldLink RX2 9 "MirrorLog$RowTable" "seconds" "[I" ∈ wsX2_secondOf := by decide +kernel
theorem ui_X2_secondOf_X2 : ∀ w ∈ wsX20, w ∈ wsX2_secondOf := by decide +kernel
theorem fl_X2_lengthOf_15 : Cond.fieldLink RX2 15 "MirrorLog$RowTable" "lengths" "[I" ∈ wsX2_lengthOf := by decide +kernel
theorem ui_X2_lengthOf_X2 : ∀ w ∈ wsX20, w ∈ wsX2_lengthOf := by decide +kernel
theorem fl_X2_lastSecond_27 : Cond.fieldLink RX2 27 "MirrorLog$RowTable" "count" "I" ∈ wsX2_lastSecond := by decide +kernel
theorem ui_X2_lastSecond_X2 : ∀ w ∈ wsX20, w ∈ wsX2_lastSecond := by decide +kernel
theorem cn_X2_monthOf_39 : Jvm.Cond.constant RX2 39 (2592000) ∈ wsX2_monthOf := by decide +kernel
theorem fl_X2_contentAt_23 : Cond.fieldLink RX2 23 "MirrorLog$RowTable" "contents" "[B" ∈ wsX2_contentAt := by decide +kernel
theorem ui_X2_contentAt_X2 : ∀ w ∈ wsX20, w ∈ wsX2_contentAt := by decide +kernel
/-- the last row's second, 0 where there is none -/
def lastS (c : Nat) (S : Nat → Nat) : Nat := if c = 0 then 0 else S (c - 1)
/-- byte x of a row of len bytes -/
def cAt (len : Nat) (f : Nat → UInt8) (x : Int32) : Int32 := if x < 0 then (-1) else if nI len ≤ x then (-1) else nI (f x.toNatClampNeg).toNat
/-- what k rows from p on take in a file -/
def bsz (Ln : Nat → Nat) (Z : Nat → Bool) : Nat → Nat → Nat → Nat
  | _, 0, a => a
  | p, k + 1, a => bsz Ln Z (p + 1) k (a + (Ln p + 11 + (if Z p = true then 6 else 0)))
theorem bsz_s (Ln : Nat → Nat) (Z : Nat → Bool) (p k a : Nat) : bsz Ln Z p (k + 1) a = bsz Ln Z (p + 1) k (a + (Ln p + 11 + (if Z p = true then 6 else 0))) := rfl
theorem n01 : nI 0 - nI 1 < 0 := by decide
set_option maxRecDepth 100000 in
set_option maxHeartbeats 4000000 in
theorem c_X2_count (l : Launch) (D : va_G) (cB cI cZ cJ : ClassId) (t0 : Nat) (t1 : Nat) (t2 : Nat) (t3 : Nat) (t4 : Nat) (c : Nat) (S : Nat → Nat) (Ln : Nat → Nat) (Z : Nat → Bool) (K : Nat → UInt8)  : Ct l D vwCl (tyl cB cI cZ cJ) yX2_count wsX2_count rmX2_count [.ref t0] [(t0, .inr (2, [.ref t1, .ref t2, .ref t3, .ref t4, .int (nI c)])), (t1, .inl (cI, 600, .inl (nf S))), (t2, .inl (cI, 600, .inl (nf Ln))), (t3, .inl (cZ, 600, .inl (zf Z))), (t4, .inl (cB, 38400, .inl (bf K)))] (some (.int (nI c))) [(t0, .inr (2, [.ref t1, .ref t2, .ref t3, .ref t4, .int (nI c)])), (t1, .inl (cI, 600, .inl (nf S))), (t2, .inl (cI, 600, .inl (nf Ln))), (t3, .inl (cZ, 600, .inl (zf Z))), (t4, .inl (cB, 38400, .inl (bf K)))] := by
  refine x_start (cc := cX2_count) (maxL := 1) (ret := (some .int)) (by decide) rfl (Nat.le_of_ble_eq_true rfl) ?_
  intro xp xe xs xm xb xt xc xA E hr hlocks hnm
  obtain ⟨-, -, -, hown, hts, hK, hA⟩ := id E
  refine x_lve (lv' := [(0, .ref t0)]) rfl ?_
  refine x_aload_n E 0 dX2_count_0 rfl ?_
  refine x_get E 0 4 dX2_count_1 ui_X2_count_X2 rfl rfl (by decide) fl_X2_count_27 rfl rfl ?_
  exact x_iret E hr hlocks dX2_count_4 ⟨rfl, rfl⟩
set_option maxRecDepth 100000 in
set_option maxHeartbeats 4000000 in
theorem c_X2_cutTo (l : Launch) (D : va_G) (cB cI cZ cJ : ClassId) (t0 : Nat) (t1 : Nat) (t2 : Nat) (t3 : Nat) (t4 : Nat) (c : Nat) (S : Nat → Nat) (Ln : Nat → Nat) (Z : Nat → Bool) (K : Nat → UInt8) (k : Nat) (hc : c ≤ 600) (hk : k < 2 ^ 31) : Ct l D vwCl (tyl cB cI cZ cJ) yX2_cutTo wsX2_cutTo rmX2_cutTo [.ref t0, .int (nI k)] [(t0, .inr (2, [.ref t1, .ref t2, .ref t3, .ref t4, .int (nI c)])), (t1, .inl (cI, 600, .inl (nf S))), (t2, .inl (cI, 600, .inl (nf Ln))), (t3, .inl (cZ, 600, .inl (zf Z))), (t4, .inl (cB, 38400, .inl (bf K)))] none [(t0, .inr (2, [.ref t1, .ref t2, .ref t3, .ref t4, .int (nI (if k < c then k else c))])), (t1, .inl (cI, 600, .inl (nf S))), (t2, .inl (cI, 600, .inl (nf Ln))), (t3, .inl (cZ, 600, .inl (zf Z))), (t4, .inl (cB, 38400, .inl (bf K)))] := by
  refine x_start (cc := cX2_cutTo) (maxL := 2) (ret := none) (by decide) rfl (Nat.le_of_ble_eq_true rfl) ?_
  intro xp xe xs xm xb xt xc xA E hr hlocks hnm
  obtain ⟨-, -, -, hown, hts, hK, hA⟩ := id E
  refine x_lve (lv' := [(0, .ref t0), (1, .int (nI k))]) rfl ?_
  refine x_iload_n E 1 dX2_cutTo_0 rfl ?_
  refine x_nif_lt E 17 dX2_cutTo_1 (by decide) (by omega) (fun h => absurd h (fun h => Nat.not_lt_zero _ h)) (fun h1 => ?_)
  refine x_iload_n E 1 dX2_cutTo_4 rfl ?_
  refine x_aload_n E 0 dX2_cutTo_5 rfl ?_
  refine x_get E 0 4 dX2_cutTo_6 ui_X2_cutTo_X2 rfl rfl (by decide) fl_X2_cutTo_27 rfl rfl ?_
  refine x_ncmp_ge E 17 dX2_cutTo_9 (by decide) (by omega) (by omega) (fun h9 => ?_) (fun h9 => ?_)
  · exact x_vret E hr hlocks dX2_cutTo_17 ⟨rfl, by rw [if_neg (by omega)]⟩
  · refine x_aload_n E 0 dX2_cutTo_12 rfl ?_
    refine x_iload_n E 1 dX2_cutTo_13 rfl ?_
    refine x_put E 0 4 [(t0, .inr (2, [.ref t1, .ref t2, .ref t3, .ref t4, .int (nI k)])), (t1, .inl (cI, 600, .inl (nf S))), (t2, .inl (cI, 600, .inl (nf Ln))), (t3, .inl (cZ, 600, .inl (zf Z))), (t4, .inl (cB, 38400, .inl (bf K)))] dX2_cutTo_14 ui_X2_cutTo_X2 tyX2_ok nmX2 rfl rfl (by decide) fl_X2_cutTo_27 rfl rfl rfl rfl (Nat.le_of_ble_eq_true rfl) rfl ?_
    exact x_vret E hr hlocks dX2_cutTo_17 ⟨rfl, by rw [if_pos (by omega)]⟩
set_option maxRecDepth 100000 in
set_option maxHeartbeats 4000000 in
theorem c_X2_begin (l : Launch) (D : va_G) (cB cI cZ cJ : ClassId) (t0 : Nat) (t1 : Nat) (t2 : Nat) (t3 : Nat) (t4 : Nat) (c : Nat) (S : Nat → Nat) (Ln : Nat → Nat) (Z : Nat → Bool) (K : Nat → UInt8) (s0 : Nat) (hc : c < 600) : Ct l D vwCl (tyl cB cI cZ cJ) yX2_begin wsX2_begin rmX2_begin [.ref t0, .int (nI s0)] [(t0, .inr (2, [.ref t1, .ref t2, .ref t3, .ref t4, .int (nI c)])), (t1, .inl (cI, 600, .inl (nf S))), (t2, .inl (cI, 600, .inl (nf Ln))), (t3, .inl (cZ, 600, .inl (zf Z))), (t4, .inl (cB, 38400, .inl (bf K)))] none [(t0, .inr (2, [.ref t1, .ref t2, .ref t3, .ref t4, .int (nI (c + 1))])), (t1, .inl (cI, 600, .inl (nf (va_up S c s0)))), (t2, .inl (cI, 600, .inl (nf (va_up Ln c 0)))), (t3, .inl (cZ, 600, .inl (zf (va_up Z c false)))), (t4, .inl (cB, 38400, .inl (bf K)))] := by
  refine x_start (cc := cX2_begin) (maxL := 2) (ret := none) (by decide) rfl (Nat.le_of_ble_eq_true rfl) ?_
  intro xp xe xs xm xb xt xc xA E hr hlocks hnm
  obtain ⟨-, -, -, hown, hts, hK, hA⟩ := id E
  refine x_lve (lv' := [(0, .ref t0), (1, .int (nI s0))]) rfl ?_
  refine x_aload_n E 0 dX2_begin_0 rfl ?_
  refine x_get E 0 4 dX2_begin_1 ui_X2_begin_X2 rfl rfl (by decide) fl_X2_begin_27 rfl rfl ?_
  refine x_nif_lt E 57 dX2_begin_4 (by decide) (by omega) (fun h => absurd h (fun h => Nat.not_lt_zero _ h)) (fun h4 => ?_)
  refine x_aload_n E 0 dX2_begin_7 rfl ?_
  refine x_get E 0 4 dX2_begin_8 ui_X2_begin_X2 rfl rfl (by decide) fl_X2_begin_27 rfl rfl ?_
  refine x_sipush E (v := nI 600) dX2_begin_11 (by decide) ?_
  refine x_ncmp_ge E 57 dX2_begin_14 (by decide) (by omega) (by decide) (fun h => False.elim (by omega)) (fun h14 => ?_)
  refine x_aload_n E 0 dX2_begin_17 rfl ?_
  refine x_get E 0 0 dX2_begin_18 ui_X2_begin_X2 rfl rfl (by decide) fl_X2_begin_9 rfl rfl ?_
  refine x_aload_n E 0 dX2_begin_21 rfl ?_
  refine x_get E 0 4 dX2_begin_22 ui_X2_begin_X2 rfl rfl (by decide) fl_X2_begin_27 rfl rfl ?_
  refine x_iload_n E 1 dX2_begin_25 rfl ?_
  refine x_nast E 1 1 [(t0, .inr (2, [.ref t1, .ref t2, .ref t3, .ref t4, .int (nI c)])), (t1, .inl (cI, 600, .inl (nf (va_up S c s0)))), (t2, .inl (cI, 600, .inl (nf Ln))), (t3, .inl (cZ, 600, .inl (zf Z))), (t4, .inl (cB, 38400, .inl (bf K)))] dX2_begin_26 rfl rfl (by omega) (by decide) rfl ?_
  refine x_aload_n E 0 dX2_begin_27 rfl ?_
  refine x_get E 0 1 dX2_begin_28 ui_X2_begin_X2 rfl rfl (by decide) fl_X2_begin_15 rfl rfl ?_
  refine x_aload_n E 0 dX2_begin_31 rfl ?_
  refine x_get E 0 4 dX2_begin_32 ui_X2_begin_X2 rfl rfl (by decide) fl_X2_begin_27 rfl rfl ?_
  refine x_iconst E (v := nI 0) dX2_begin_35 (by decide) ?_
  refine x_nast E 2 1 [(t0, .inr (2, [.ref t1, .ref t2, .ref t3, .ref t4, .int (nI c)])), (t1, .inl (cI, 600, .inl (nf (va_up S c s0)))), (t2, .inl (cI, 600, .inl (nf (va_up Ln c 0)))), (t3, .inl (cZ, 600, .inl (zf Z))), (t4, .inl (cB, 38400, .inl (bf K)))] dX2_begin_36 rfl rfl (by omega) (by decide) rfl ?_
  refine x_aload_n E 0 dX2_begin_37 rfl ?_
  refine x_get E 0 2 dX2_begin_38 ui_X2_begin_X2 rfl rfl (by decide) fl_X2_begin_18 rfl rfl ?_
  refine x_aload_n E 0 dX2_begin_41 rfl ?_
  refine x_get E 0 4 dX2_begin_42 ui_X2_begin_X2 rfl rfl (by decide) fl_X2_begin_27 rfl rfl ?_
  refine x_iconst E (v := nI 0) dX2_begin_45 (by decide) ?_
  refine x_zast E 3 2 [(t0, .inr (2, [.ref t1, .ref t2, .ref t3, .ref t4, .int (nI c)])), (t1, .inl (cI, 600, .inl (nf (va_up S c s0)))), (t2, .inl (cI, 600, .inl (nf (va_up Ln c 0)))), (t3, .inl (cZ, 600, .inl (zf (va_up Z c false)))), (t4, .inl (cB, 38400, .inl (bf K)))] dX2_begin_46 rfl rfl (by omega) (by decide) rfl rfl ?_
  refine x_aload_n E 0 dX2_begin_47 rfl ?_
  refine x_dup E dX2_begin_48 rfl ?_
  refine x_get E 0 4 dX2_begin_49 ui_X2_begin_X2 rfl rfl (by decide) fl_X2_begin_27 rfl rfl ?_
  refine x_iconst E (v := nI 1) dX2_begin_52 (by decide) ?_
  refine x_niadd E dX2_begin_53 ?_
  refine x_put E 0 4 [(t0, .inr (2, [.ref t1, .ref t2, .ref t3, .ref t4, .int (nI (c + 1))])), (t1, .inl (cI, 600, .inl (nf (va_up S c s0)))), (t2, .inl (cI, 600, .inl (nf (va_up Ln c 0)))), (t3, .inl (cZ, 600, .inl (zf (va_up Z c false)))), (t4, .inl (cB, 38400, .inl (bf K)))] dX2_begin_54 ui_X2_begin_X2 tyX2_ok nmX2 rfl rfl (by decide) fl_X2_begin_27 rfl rfl rfl rfl (Nat.le_of_ble_eq_true rfl) rfl ?_
  exact x_vret E hr hlocks dX2_begin_57 ⟨rfl, rfl⟩
set_option maxRecDepth 100000 in
set_option maxHeartbeats 4000000 in
theorem c_X2_has (l : Launch) (D : va_G) (cB cI cZ cJ : ClassId) (t0 : Nat) (t1 : Nat) (t2 : Nat) (t3 : Nat) (t4 : Nat) (c : Nat) (S : Nat → Nat) (Ln : Nat → Nat) (Z : Nat → Bool) (K : Nat → UInt8) (k : Nat) (hc : c ≤ 600) (hk : k < 2 ^ 31) : Ct l D vwCl (tyl cB cI cZ cJ) yX2_has wsX2_has rmX2_has [.ref t0, .int (nI k)] [(t0, .inr (2, [.ref t1, .ref t2, .ref t3, .ref t4, .int (nI c)])), (t1, .inl (cI, 600, .inl (nf S))), (t2, .inl (cI, 600, .inl (nf Ln))), (t3, .inl (cZ, 600, .inl (zf Z))), (t4, .inl (cB, 38400, .inl (bf K)))] (some (.int (if decide (k < c) = true then 1 else 0))) [(t0, .inr (2, [.ref t1, .ref t2, .ref t3, .ref t4, .int (nI c)])), (t1, .inl (cI, 600, .inl (nf S))), (t2, .inl (cI, 600, .inl (nf Ln))), (t3, .inl (cZ, 600, .inl (zf Z))), (t4, .inl (cB, 38400, .inl (bf K)))] := by
  refine x_start (cc := cX2_has) (maxL := 2) (ret := (some .boolean)) (by decide) rfl (Nat.le_of_ble_eq_true rfl) ?_
  intro xp xe xs xm xb xt xc xA E hr hlocks hnm
  obtain ⟨-, -, -, hown, hts, hK, hA⟩ := id E
  refine x_lve (lv' := [(0, .ref t0), (1, .int (nI k))]) rfl ?_
  refine x_iload_n E 1 dX2_has_0 rfl ?_
  refine x_nif_lt E 23 dX2_has_1 (by decide) (by omega) (fun h => absurd h (fun h => Nat.not_lt_zero _ h)) (fun h1 => ?_)
  refine x_iload_n E 1 dX2_has_4 rfl ?_
  refine x_aload_n E 0 dX2_has_5 rfl ?_
  refine x_get E 0 4 dX2_has_6 ui_X2_has_X2 rfl rfl (by decide) fl_X2_has_27 rfl rfl ?_
  refine x_ncmp_ge E 23 dX2_has_9 (by decide) (by omega) (by omega) (fun h9 => ?_) (fun h9 => ?_)
  · refine x_iconst E (v := nI 0) dX2_has_23 (by decide) ?_
    exact x_zret E hr hlocks dX2_has_24 rfl ⟨q_f' (decide_eq_false (by omega)), rfl⟩
  · refine x_iload_n E 1 dX2_has_12 rfl ?_
    refine x_sipush E (v := nI 600) dX2_has_13 (by decide) ?_
    refine x_ncmp_ge E 23 dX2_has_16 (by decide) (by omega) (by decide) (fun h16 => ?_) (fun h16 => ?_)
    · refine x_iconst E (v := nI 0) dX2_has_23 (by decide) ?_
      exact x_zret E hr hlocks dX2_has_24 rfl ⟨q_f' (decide_eq_false (by omega)), rfl⟩
    · refine x_iconst E (v := nI 1) dX2_has_19 (by decide) ?_
      refine x_goto E 24 dX2_has_20 (by decide) ?_
      exact x_zret E hr hlocks dX2_has_24 rfl ⟨q_t' (decide_eq_true (by omega)), rfl⟩
set_option maxRecDepth 100000 in
set_option maxHeartbeats 4000000 in
theorem c_X2_has_in (l : Launch) (D : va_G) (cB cI cZ cJ : ClassId) (t0 : Nat) (t1 : Nat) (t2 : Nat) (t3 : Nat) (t4 : Nat) (c : Nat) (S : Nat → Nat) (Ln : Nat → Nat) (Z : Nat → Bool) (K : Nat → UInt8) (k : Nat) (hc : c ≤ 600) (hk : k < c) : Ct l D vwCl (tyl cB cI cZ cJ) yX2_has wsX2_has rmX2_has [.ref t0, .int (nI k)] [(t0, .inr (2, [.ref t1, .ref t2, .ref t3, .ref t4, .int (nI c)])), (t1, .inl (cI, 600, .inl (nf S))), (t2, .inl (cI, 600, .inl (nf Ln))), (t3, .inl (cZ, 600, .inl (zf Z))), (t4, .inl (cB, 38400, .inl (bf K)))] (some (.int (nI 1))) [(t0, .inr (2, [.ref t1, .ref t2, .ref t3, .ref t4, .int (nI c)])), (t1, .inl (cI, 600, .inl (nf S))), (t2, .inl (cI, 600, .inl (nf Ln))), (t3, .inl (cZ, 600, .inl (zf Z))), (t4, .inl (cB, 38400, .inl (bf K)))] := by
  refine x_start (cc := cX2_has) (maxL := 2) (ret := (some .boolean)) (by decide) rfl (Nat.le_of_ble_eq_true rfl) ?_
  intro xp xe xs xm xb xt xc xA E hr hlocks hnm
  obtain ⟨-, -, -, hown, hts, hK, hA⟩ := id E
  refine x_lve (lv' := [(0, .ref t0), (1, .int (nI k))]) rfl ?_
  refine x_iload_n E 1 dX2_has_0 rfl ?_
  refine x_nif_lt E 23 dX2_has_1 (by decide) (by omega) (fun h => absurd h (fun h => Nat.not_lt_zero _ h)) (fun h1 => ?_)
  refine x_iload_n E 1 dX2_has_4 rfl ?_
  refine x_aload_n E 0 dX2_has_5 rfl ?_
  refine x_get E 0 4 dX2_has_6 ui_X2_has_X2 rfl rfl (by decide) fl_X2_has_27 rfl rfl ?_
  refine x_ncmp_ge E 23 dX2_has_9 (by decide) (by omega) (by omega) (fun h => False.elim (by omega)) (fun h9 => ?_)
  refine x_iload_n E 1 dX2_has_12 rfl ?_
  refine x_sipush E (v := nI 600) dX2_has_13 (by decide) ?_
  refine x_ncmp_ge E 23 dX2_has_16 (by decide) (by omega) (by decide) (fun h => False.elim (by omega)) (fun h16 => ?_)
  refine x_iconst E (v := nI 1) dX2_has_19 (by decide) ?_
  refine x_goto E 24 dX2_has_20 (by decide) ?_
  exact x_zret E hr hlocks dX2_has_24 rfl ⟨rfl, rfl⟩
set_option maxRecDepth 100000 in
set_option maxHeartbeats 4000000 in
theorem c_X2_has_neg (l : Launch) (D : va_G) (cB cI cZ cJ : ClassId) (t0 : Nat) (t1 : Nat) (t2 : Nat) (t3 : Nat) (t4 : Nat) (c : Nat) (S : Nat → Nat) (Ln : Nat → Nat) (Z : Nat → Bool) (K : Nat → UInt8) (x : Int32) (hx : x < 0) : Ct l D vwCl (tyl cB cI cZ cJ) yX2_has wsX2_has rmX2_has [.ref t0, .int x] [(t0, .inr (2, [.ref t1, .ref t2, .ref t3, .ref t4, .int (nI c)])), (t1, .inl (cI, 600, .inl (nf S))), (t2, .inl (cI, 600, .inl (nf Ln))), (t3, .inl (cZ, 600, .inl (zf Z))), (t4, .inl (cB, 38400, .inl (bf K)))] (some (.int (nI 0))) [(t0, .inr (2, [.ref t1, .ref t2, .ref t3, .ref t4, .int (nI c)])), (t1, .inl (cI, 600, .inl (nf S))), (t2, .inl (cI, 600, .inl (nf Ln))), (t3, .inl (cZ, 600, .inl (zf Z))), (t4, .inl (cB, 38400, .inl (bf K)))] := by
  refine x_start (cc := cX2_has) (maxL := 2) (ret := (some .boolean)) (by decide) rfl (Nat.le_of_ble_eq_true rfl) ?_
  intro xp xe xs xm xb xt xc xA E hr hlocks hnm
  obtain ⟨-, -, -, hown, hts, hK, hA⟩ := id E
  refine x_lve (lv' := [(0, .ref t0), (1, .int x)]) rfl ?_
  refine x_iload_n E 1 dX2_has_0 rfl ?_
  refine x_if_lt E 23 dX2_has_1 (by decide) (fun h1 => ?_) (fun h => absurd h (fun h => h hx))
  refine x_iconst E (v := nI 0) dX2_has_23 (by decide) ?_
  exact x_zret E hr hlocks dX2_has_24 rfl ⟨rfl, rfl⟩
set_option maxRecDepth 100000 in
set_option maxHeartbeats 4000000 in
theorem c_X2_push (l : Launch) (D : va_G) (cB cI cZ cJ : ClassId) (t0 : Nat) (t1 : Nat) (t2 : Nat) (t3 : Nat) (t4 : Nat) (c : Nat) (S : Nat → Nat) (Ln : Nat → Nat) (Z : Nat → Bool) (K : Nat → UInt8) (b : Int32) (h0 : 0 < c) (hc : c ≤ 600) (hl : Ln (c - 1) < 64) : Ct l D vwCl (tyl cB cI cZ cJ) yX2_push wsX2_push rmX2_push [.ref t0, .int b] [(t0, .inr (2, [.ref t1, .ref t2, .ref t3, .ref t4, .int (nI c)])), (t1, .inl (cI, 600, .inl (nf S))), (t2, .inl (cI, 600, .inl (nf Ln))), (t3, .inl (cZ, 600, .inl (zf Z))), (t4, .inl (cB, 38400, .inl (bf K)))] none [(t0, .inr (2, [.ref t1, .ref t2, .ref t3, .ref t4, .int (nI c)])), (t1, .inl (cI, 600, .inl (nf S))), (t2, .inl (cI, 600, .inl (nf (va_up Ln (c - 1) (Ln (c - 1) + 1))))), (t3, .inl (cZ, 600, .inl (zf Z))), (t4, .inl (cB, 38400, .inl (bf (va_up K ((c - 1) * 64 + Ln (c - 1)) (u8 b)))))] := by
  refine x_start (cc := cX2_push) (maxL := 4) (ret := none) (by decide) rfl (Nat.le_of_ble_eq_true rfl) ?_
  intro xp xe xs xm xb xt xc xA E hr hlocks hnm
  obtain ⟨-, -, -, hown, hts, hK, hA⟩ := id E
  refine x_lve (lv' := [(0, .ref t0), (1, .int b)]) rfl ?_
  refine x_aload_n E 0 dX2_push_0 rfl ?_
  refine x_get E 0 4 dX2_push_1 ui_X2_push_X2 rfl rfl (by decide) fl_X2_push_27 rfl rfl ?_
  refine x_iconst E (v := nI 1) dX2_push_4 (by decide) ?_
  refine x_nisub E dX2_push_5 (by omega) ?_
  refine x_istore_n E [(2, .int (nI (c - 1))), (0, .ref t0), (1, .int b)] dX2_push_6 (by decide) rfl ?_
  refine x_aload_n E 1 dX2_push_7 rfl ?_
  refine x_iload_n E 0 dX2_push_8 rfl ?_
  refine x_cV E [.int (nI (c - 1))] [] [.int (nI 1)] [(t0, .inr (2, [.ref t1, .ref t2, .ref t3, .ref t4, .int (nI c)])), (t1, .inl (cI, 600, .inl (nf S))), (t2, .inl (cI, 600, .inl (nf Ln))), (t3, .inl (cZ, 600, .inl (zf Z))), (t4, .inl (cB, 38400, .inl (bf K)))] (c_X2_has_in l D cB cI cZ cJ t0 t1 t2 t3 t4 c S Ln Z K (c - 1) (by omega) (by omega)) 0 rfl rfl (cwV 1 hts gX2_push_X2_has rfl rfl rfl (by decide +kernel) ⟨Nat.le_of_ble_eq_true rfl, Nat.le_of_ble_eq_true rfl⟩) [0, 1, 2, 3, 4] [] rfl rfl (by decide) (by decide) (by decide) [0, 1, 2, 3, 4] (by decide) rfl rfl (Nat.le_of_ble_eq_true rfl) dX2_push_9 ⟨Nat.zero_le _, Nat.zero_le _⟩ rfl rfl ?_
  refine x_nif_ne E 16 dX2_push_12 (by decide) (by decide) (fun h12 => ?_) (fun h => False.elim (by omega))
  refine x_aload_n E 1 dX2_push_16 rfl ?_
  refine x_get E 0 1 dX2_push_17 ui_X2_push_X2 rfl rfl (by decide) fl_X2_push_15 rfl rfl ?_
  refine x_iload_n E 0 dX2_push_20 rfl ?_
  refine x_nald E 2 1 dX2_push_21 rfl rfl (by omega) (by decide) ?_
  refine x_istore_n E [(3, .int (nI (Ln (c - 1)))), (2, .int (nI (c - 1))), (0, .ref t0), (1, .int b)] dX2_push_22 (by decide) rfl ?_
  refine x_iload_n E 0 dX2_push_23 rfl ?_
  refine x_nif_lt E 55 dX2_push_24 (by decide) (by omega) (fun h => absurd h (fun h => Nat.not_lt_zero _ h)) (fun h24 => ?_)
  refine x_iload_n E 0 dX2_push_27 rfl ?_
  refine x_bipush E (v := nI 64) dX2_push_28 (by decide) ?_
  refine x_ncmp_ge E 55 dX2_push_30 (by decide) (by omega) (by decide) (fun h => False.elim (by omega)) (fun h30 => ?_)
  refine x_aload_n E 2 dX2_push_33 rfl ?_
  refine x_get E 0 3 dX2_push_34 ui_X2_push_X2 rfl rfl (by decide) fl_X2_push_23 rfl rfl ?_
  refine x_iload_n E 1 dX2_push_37 rfl ?_
  refine x_bipush E (v := nI 64) dX2_push_38 (by decide) ?_
  refine x_nimul E dX2_push_40 ?_
  refine x_iload_n E 0 dX2_push_41 rfl ?_
  refine x_niadd E dX2_push_42 ?_
  refine x_iload_n E 3 dX2_push_43 rfl ?_
  refine x_i2b E dX2_push_44 ?_
  refine x_bast E 4 0 [(t0, .inr (2, [.ref t1, .ref t2, .ref t3, .ref t4, .int (nI c)])), (t1, .inl (cI, 600, .inl (nf S))), (t2, .inl (cI, 600, .inl (nf Ln))), (t3, .inl (cZ, 600, .inl (zf Z))), (t4, .inl (cB, 38400, .inl (bf (va_up K (((c - 1) * 64) + (Ln (c - 1))) (u8 b)))))] dX2_push_45 rfl rfl (by omega) (by decide) (u8_b8 b) rfl ?_
  refine x_aload_n E 2 dX2_push_46 rfl ?_
  refine x_get E 0 1 dX2_push_47 ui_X2_push_X2 rfl rfl (by decide) fl_X2_push_15 rfl rfl ?_
  refine x_iload_n E 1 dX2_push_50 rfl ?_
  refine x_iload_n E 0 dX2_push_51 rfl ?_
  refine x_iconst E (v := nI 1) dX2_push_52 (by decide) ?_
  refine x_niadd E dX2_push_53 ?_
  refine x_nast E 2 1 [(t0, .inr (2, [.ref t1, .ref t2, .ref t3, .ref t4, .int (nI c)])), (t1, .inl (cI, 600, .inl (nf S))), (t2, .inl (cI, 600, .inl (nf (va_up Ln (c - 1) ((Ln (c - 1)) + 1))))), (t3, .inl (cZ, 600, .inl (zf Z))), (t4, .inl (cB, 38400, .inl (bf (va_up K (((c - 1) * 64) + (Ln (c - 1))) (u8 b)))))] dX2_push_54 rfl rfl (by omega) (by decide) rfl ?_
  exact x_vret E hr hlocks dX2_push_55 ⟨rfl, rfl⟩
set_option maxRecDepth 100000 in
set_option maxHeartbeats 4000000 in
theorem c_X2_endGroupHere (l : Launch) (D : va_G) (cB cI cZ cJ : ClassId) (t0 : Nat) (t1 : Nat) (t2 : Nat) (t3 : Nat) (t4 : Nat) (c : Nat) (S : Nat → Nat) (Ln : Nat → Nat) (Z : Nat → Bool) (K : Nat → UInt8) (h0 : 0 < c) (hc : c ≤ 600) : Ct l D vwCl (tyl cB cI cZ cJ) yX2_endGroupHere wsX2_endGroupHere rmX2_endGroupHere [.ref t0] [(t0, .inr (2, [.ref t1, .ref t2, .ref t3, .ref t4, .int (nI c)])), (t1, .inl (cI, 600, .inl (nf S))), (t2, .inl (cI, 600, .inl (nf Ln))), (t3, .inl (cZ, 600, .inl (zf Z))), (t4, .inl (cB, 38400, .inl (bf K)))] none [(t0, .inr (2, [.ref t1, .ref t2, .ref t3, .ref t4, .int (nI c)])), (t1, .inl (cI, 600, .inl (nf S))), (t2, .inl (cI, 600, .inl (nf Ln))), (t3, .inl (cZ, 600, .inl (zf (va_up Z (c - 1) true)))), (t4, .inl (cB, 38400, .inl (bf K)))] := by
  refine x_start (cc := cX2_endGroupHere) (maxL := 1) (ret := none) (by decide) rfl (Nat.le_of_ble_eq_true rfl) ?_
  intro xp xe xs xm xb xt xc xA E hr hlocks hnm
  obtain ⟨-, -, -, hown, hts, hK, hA⟩ := id E
  refine x_lve (lv' := [(0, .ref t0)]) rfl ?_
  refine x_aload_n E 0 dX2_endGroupHere_0 rfl ?_
  refine x_aload_n E 0 dX2_endGroupHere_1 rfl ?_
  refine x_get E 0 4 dX2_endGroupHere_2 ui_X2_endGroupHere_X2 rfl rfl (by decide) fl_X2_endGroupHere_27 rfl rfl ?_
  refine x_iconst E (v := nI 1) dX2_endGroupHere_5 (by decide) ?_
  refine x_nisub E dX2_endGroupHere_6 (by omega) ?_
  refine x_cV E [.int (nI (c - 1))] [] [.int (nI 1)] [(t0, .inr (2, [.ref t1, .ref t2, .ref t3, .ref t4, .int (nI c)])), (t1, .inl (cI, 600, .inl (nf S))), (t2, .inl (cI, 600, .inl (nf Ln))), (t3, .inl (cZ, 600, .inl (zf Z))), (t4, .inl (cB, 38400, .inl (bf K)))] (c_X2_has_in l D cB cI cZ cJ t0 t1 t2 t3 t4 c S Ln Z K (c - 1) (by omega) (by omega)) 0 rfl rfl (cwV 1 hts gX2_endGroupHere_X2_has rfl rfl rfl (by decide +kernel) ⟨Nat.le_of_ble_eq_true rfl, Nat.le_of_ble_eq_true rfl⟩) [0, 1, 2, 3, 4] [] rfl rfl (by decide) (by decide) (by decide) [0, 1, 2, 3, 4] (by decide) rfl rfl (Nat.le_of_ble_eq_true rfl) dX2_endGroupHere_7 ⟨Nat.zero_le _, Nat.zero_le _⟩ rfl rfl ?_
  refine x_nif_eq E 25 dX2_endGroupHere_10 (by decide) (by decide) (fun h => False.elim (by omega)) (fun h10 => ?_)
  refine x_aload_n E 0 dX2_endGroupHere_13 rfl ?_
  refine x_get E 0 2 dX2_endGroupHere_14 ui_X2_endGroupHere_X2 rfl rfl (by decide) fl_X2_endGroupHere_18 rfl rfl ?_
  refine x_aload_n E 0 dX2_endGroupHere_17 rfl ?_
  refine x_get E 0 4 dX2_endGroupHere_18 ui_X2_endGroupHere_X2 rfl rfl (by decide) fl_X2_endGroupHere_27 rfl rfl ?_
  refine x_iconst E (v := nI 1) dX2_endGroupHere_21 (by decide) ?_
  refine x_nisub E dX2_endGroupHere_22 (by omega) ?_
  refine x_iconst E (v := nI 1) dX2_endGroupHere_23 (by decide) ?_
  refine x_zast E 3 2 [(t0, .inr (2, [.ref t1, .ref t2, .ref t3, .ref t4, .int (nI c)])), (t1, .inl (cI, 600, .inl (nf S))), (t2, .inl (cI, 600, .inl (nf Ln))), (t3, .inl (cZ, 600, .inl (zf (va_up Z (c - 1) true)))), (t4, .inl (cB, 38400, .inl (bf K)))] dX2_endGroupHere_24 rfl rfl (by omega) (by decide) rfl rfl ?_
  exact x_vret E hr hlocks dX2_endGroupHere_25 ⟨rfl, rfl⟩
set_option maxRecDepth 100000 in
set_option maxHeartbeats 4000000 in
theorem c_X2_endsGroup (l : Launch) (D : va_G) (cB cI cZ cJ : ClassId) (t0 : Nat) (t1 : Nat) (t2 : Nat) (t3 : Nat) (t4 : Nat) (c : Nat) (S : Nat → Nat) (Ln : Nat → Nat) (Z : Nat → Bool) (K : Nat → UInt8) (k : Nat) (hc : c ≤ 600) (hk : k < c) : Ct l D vwCl (tyl cB cI cZ cJ) yX2_endsGroup wsX2_endsGroup rmX2_endsGroup [.ref t0, .int (nI k)] [(t0, .inr (2, [.ref t1, .ref t2, .ref t3, .ref t4, .int (nI c)])), (t1, .inl (cI, 600, .inl (nf S))), (t2, .inl (cI, 600, .inl (nf Ln))), (t3, .inl (cZ, 600, .inl (zf Z))), (t4, .inl (cB, 38400, .inl (bf K)))] (some (.int (if Z k = true then 1 else 0))) [(t0, .inr (2, [.ref t1, .ref t2, .ref t3, .ref t4, .int (nI c)])), (t1, .inl (cI, 600, .inl (nf S))), (t2, .inl (cI, 600, .inl (nf Ln))), (t3, .inl (cZ, 600, .inl (zf Z))), (t4, .inl (cB, 38400, .inl (bf K)))] := by
  refine x_start (cc := cX2_endsGroup) (maxL := 2) (ret := (some .boolean)) (by decide) rfl (Nat.le_of_ble_eq_true rfl) ?_
  intro xp xe xs xm xb xt xc xA E hr hlocks hnm
  obtain ⟨-, -, -, hown, hts, hK, hA⟩ := id E
  refine x_lve (lv' := [(0, .ref t0), (1, .int (nI k))]) rfl ?_
  refine x_aload_n E 0 dX2_endsGroup_0 rfl ?_
  refine x_iload_n E 1 dX2_endsGroup_1 rfl ?_
  refine x_cV E [.int (nI k)] [] [.int (nI 1)] [(t0, .inr (2, [.ref t1, .ref t2, .ref t3, .ref t4, .int (nI c)])), (t1, .inl (cI, 600, .inl (nf S))), (t2, .inl (cI, 600, .inl (nf Ln))), (t3, .inl (cZ, 600, .inl (zf Z))), (t4, .inl (cB, 38400, .inl (bf K)))] (c_X2_has_in l D cB cI cZ cJ t0 t1 t2 t3 t4 c S Ln Z K k (by omega) (by omega)) 0 rfl rfl (cwV 1 hts gX2_endsGroup_X2_has rfl rfl rfl (by decide +kernel) ⟨Nat.le_of_ble_eq_true rfl, Nat.le_of_ble_eq_true rfl⟩) [0, 1, 2, 3, 4] [] rfl rfl (by decide) (by decide) (by decide) [0, 1, 2, 3, 4] (by decide) rfl rfl (Nat.le_of_ble_eq_true rfl) dX2_endsGroup_2 ⟨Nat.zero_le _, Nat.zero_le _⟩ rfl rfl ?_
  refine x_nif_eq E 21 dX2_endsGroup_5 (by decide) (by decide) (fun h => False.elim (by omega)) (fun h5 => ?_)
  refine x_aload_n E 0 dX2_endsGroup_8 rfl ?_
  refine x_get E 0 2 dX2_endsGroup_9 ui_X2_endsGroup_X2 rfl rfl (by decide) fl_X2_endsGroup_18 rfl rfl ?_
  refine x_iload_n E 1 dX2_endsGroup_12 rfl ?_
  refine x_zald E 3 2 dX2_endsGroup_13 rfl rfl (by omega) (by decide) ?_
  refine x_qif_eq E 21 dX2_endsGroup_14 (by decide) (fun h14 => ?_) (fun h14 => ?_)
  · refine x_iconst E (v := nI 0) dX2_endsGroup_21 (by decide) ?_
    exact x_zret E hr hlocks dX2_endsGroup_22 rfl ⟨q_f' h14, rfl⟩
  · refine x_iconst E (v := nI 1) dX2_endsGroup_17 (by decide) ?_
    refine x_goto E 22 dX2_endsGroup_18 (by decide) ?_
    exact x_zret E hr hlocks dX2_endsGroup_22 rfl ⟨q_t' h14, rfl⟩
set_option maxRecDepth 100000 in
set_option maxHeartbeats 4000000 in
theorem c_X2_secondOf_in (l : Launch) (D : va_G) (cB cI cZ cJ : ClassId) (t0 : Nat) (t1 : Nat) (t2 : Nat) (t3 : Nat) (t4 : Nat) (c : Nat) (S : Nat → Nat) (Ln : Nat → Nat) (Z : Nat → Bool) (K : Nat → UInt8) (k : Nat) (hc : c ≤ 600) (hk : k < c) : Ct l D vwCl (tyl cB cI cZ cJ) yX2_secondOf wsX2_secondOf rmX2_secondOf [.ref t0, .int (nI k)] [(t0, .inr (2, [.ref t1, .ref t2, .ref t3, .ref t4, .int (nI c)])), (t1, .inl (cI, 600, .inl (nf S))), (t2, .inl (cI, 600, .inl (nf Ln))), (t3, .inl (cZ, 600, .inl (zf Z))), (t4, .inl (cB, 38400, .inl (bf K)))] (some (.int (nI (S k)))) [(t0, .inr (2, [.ref t1, .ref t2, .ref t3, .ref t4, .int (nI c)])), (t1, .inl (cI, 600, .inl (nf S))), (t2, .inl (cI, 600, .inl (nf Ln))), (t3, .inl (cZ, 600, .inl (zf Z))), (t4, .inl (cB, 38400, .inl (bf K)))] := by
  refine x_start (cc := cX2_secondOf) (maxL := 2) (ret := (some .int)) (by decide) rfl (Nat.le_of_ble_eq_true rfl) ?_
  intro xp xe xs xm xb xt xc xA E hr hlocks hnm
  obtain ⟨-, -, -, hown, hts, hK, hA⟩ := id E
  refine x_lve (lv' := [(0, .ref t0), (1, .int (nI k))]) rfl ?_
  refine x_aload_n E 0 dX2_secondOf_0 rfl ?_
  refine x_iload_n E 1 dX2_secondOf_1 rfl ?_
  refine x_cV E [.int (nI k)] [] [.int (nI 1)] [(t0, .inr (2, [.ref t1, .ref t2, .ref t3, .ref t4, .int (nI c)])), (t1, .inl (cI, 600, .inl (nf S))), (t2, .inl (cI, 600, .inl (nf Ln))), (t3, .inl (cZ, 600, .inl (zf Z))), (t4, .inl (cB, 38400, .inl (bf K)))] (c_X2_has_in l D cB cI cZ cJ t0 t1 t2 t3 t4 c S Ln Z K k (by omega) (by omega)) 0 rfl rfl (cwV 1 hts gX2_secondOf_X2_has rfl rfl rfl (by decide +kernel) ⟨Nat.le_of_ble_eq_true rfl, Nat.le_of_ble_eq_true rfl⟩) [0, 1, 2, 3, 4] [] rfl rfl (by decide) (by decide) (by decide) [0, 1, 2, 3, 4] (by decide) rfl rfl (Nat.le_of_ble_eq_true rfl) dX2_secondOf_2 ⟨Nat.zero_le _, Nat.zero_le _⟩ rfl rfl ?_
  refine x_nif_eq E 17 dX2_secondOf_5 (by decide) (by decide) (fun h => False.elim (by omega)) (fun h5 => ?_)
  refine x_aload_n E 0 dX2_secondOf_8 rfl ?_
  refine x_get E 0 0 dX2_secondOf_9 ui_X2_secondOf_X2 rfl rfl (by decide) fl_X2_secondOf_9 rfl rfl ?_
  refine x_iload_n E 1 dX2_secondOf_12 rfl ?_
  refine x_nald E 1 1 dX2_secondOf_13 rfl rfl (by omega) (by decide) ?_
  refine x_goto E 18 dX2_secondOf_14 (by decide) ?_
  exact x_iret E hr hlocks dX2_secondOf_18 ⟨rfl, rfl⟩
set_option maxRecDepth 100000 in
set_option maxHeartbeats 4000000 in
theorem c_X2_secondOf_neg (l : Launch) (D : va_G) (cB cI cZ cJ : ClassId) (t0 : Nat) (t1 : Nat) (t2 : Nat) (t3 : Nat) (t4 : Nat) (c : Nat) (S : Nat → Nat) (Ln : Nat → Nat) (Z : Nat → Bool) (K : Nat → UInt8) (x : Int32) (hx : x < 0) : Ct l D vwCl (tyl cB cI cZ cJ) yX2_secondOf wsX2_secondOf rmX2_secondOf [.ref t0, .int x] [(t0, .inr (2, [.ref t1, .ref t2, .ref t3, .ref t4, .int (nI c)])), (t1, .inl (cI, 600, .inl (nf S))), (t2, .inl (cI, 600, .inl (nf Ln))), (t3, .inl (cZ, 600, .inl (zf Z))), (t4, .inl (cB, 38400, .inl (bf K)))] (some (.int (nI 0))) [(t0, .inr (2, [.ref t1, .ref t2, .ref t3, .ref t4, .int (nI c)])), (t1, .inl (cI, 600, .inl (nf S))), (t2, .inl (cI, 600, .inl (nf Ln))), (t3, .inl (cZ, 600, .inl (zf Z))), (t4, .inl (cB, 38400, .inl (bf K)))] := by
  refine x_start (cc := cX2_secondOf) (maxL := 2) (ret := (some .int)) (by decide) rfl (Nat.le_of_ble_eq_true rfl) ?_
  intro xp xe xs xm xb xt xc xA E hr hlocks hnm
  obtain ⟨-, -, -, hown, hts, hK, hA⟩ := id E
  refine x_lve (lv' := [(0, .ref t0), (1, .int x)]) rfl ?_
  refine x_aload_n E 0 dX2_secondOf_0 rfl ?_
  refine x_iload_n E 1 dX2_secondOf_1 rfl ?_
  refine x_cV E [.int x] [] [.int (nI 0)] [(t0, .inr (2, [.ref t1, .ref t2, .ref t3, .ref t4, .int (nI c)])), (t1, .inl (cI, 600, .inl (nf S))), (t2, .inl (cI, 600, .inl (nf Ln))), (t3, .inl (cZ, 600, .inl (zf Z))), (t4, .inl (cB, 38400, .inl (bf K)))] (c_X2_has_neg l D cB cI cZ cJ t0 t1 t2 t3 t4 c S Ln Z K x hx) 0 rfl rfl (cwV 1 hts gX2_secondOf_X2_has rfl rfl rfl (by decide +kernel) ⟨Nat.le_of_ble_eq_true rfl, Nat.le_of_ble_eq_true rfl⟩) [0, 1, 2, 3, 4] [] rfl rfl (by decide) (by decide) (by decide) [0, 1, 2, 3, 4] (by decide) rfl rfl (Nat.le_of_ble_eq_true rfl) dX2_secondOf_2 ⟨Nat.zero_le _, Nat.zero_le _⟩ rfl rfl ?_
  refine x_nif_eq E 17 dX2_secondOf_5 (by decide) (by decide) (fun h5 => ?_) (fun h => absurd h (fun h => h rfl))
  refine x_iconst E (v := nI 0) dX2_secondOf_17 (by decide) ?_
  exact x_iret E hr hlocks dX2_secondOf_18 ⟨rfl, rfl⟩
set_option maxRecDepth 100000 in
set_option maxHeartbeats 4000000 in
theorem c_X2_lengthOf_in (l : Launch) (D : va_G) (cB cI cZ cJ : ClassId) (t0 : Nat) (t1 : Nat) (t2 : Nat) (t3 : Nat) (t4 : Nat) (c : Nat) (S : Nat → Nat) (Ln : Nat → Nat) (Z : Nat → Bool) (K : Nat → UInt8) (k : Nat) (hc : c ≤ 600) (hk : k < c) : Ct l D vwCl (tyl cB cI cZ cJ) yX2_lengthOf wsX2_lengthOf rmX2_lengthOf [.ref t0, .int (nI k)] [(t0, .inr (2, [.ref t1, .ref t2, .ref t3, .ref t4, .int (nI c)])), (t1, .inl (cI, 600, .inl (nf S))), (t2, .inl (cI, 600, .inl (nf Ln))), (t3, .inl (cZ, 600, .inl (zf Z))), (t4, .inl (cB, 38400, .inl (bf K)))] (some (.int (nI (Ln k)))) [(t0, .inr (2, [.ref t1, .ref t2, .ref t3, .ref t4, .int (nI c)])), (t1, .inl (cI, 600, .inl (nf S))), (t2, .inl (cI, 600, .inl (nf Ln))), (t3, .inl (cZ, 600, .inl (zf Z))), (t4, .inl (cB, 38400, .inl (bf K)))] := by
  refine x_start (cc := cX2_lengthOf) (maxL := 2) (ret := (some .int)) (by decide) rfl (Nat.le_of_ble_eq_true rfl) ?_
  intro xp xe xs xm xb xt xc xA E hr hlocks hnm
  obtain ⟨-, -, -, hown, hts, hK, hA⟩ := id E
  refine x_lve (lv' := [(0, .ref t0), (1, .int (nI k))]) rfl ?_
  refine x_aload_n E 0 dX2_lengthOf_0 rfl ?_
  refine x_iload_n E 1 dX2_lengthOf_1 rfl ?_
  refine x_cV E [.int (nI k)] [] [.int (nI 1)] [(t0, .inr (2, [.ref t1, .ref t2, .ref t3, .ref t4, .int (nI c)])), (t1, .inl (cI, 600, .inl (nf S))), (t2, .inl (cI, 600, .inl (nf Ln))), (t3, .inl (cZ, 600, .inl (zf Z))), (t4, .inl (cB, 38400, .inl (bf K)))] (c_X2_has_in l D cB cI cZ cJ t0 t1 t2 t3 t4 c S Ln Z K k (by omega) (by omega)) 0 rfl rfl (cwV 1 hts gX2_lengthOf_X2_has rfl rfl rfl (by decide +kernel) ⟨Nat.le_of_ble_eq_true rfl, Nat.le_of_ble_eq_true rfl⟩) [0, 1, 2, 3, 4] [] rfl rfl (by decide) (by decide) (by decide) [0, 1, 2, 3, 4] (by decide) rfl rfl (Nat.le_of_ble_eq_true rfl) dX2_lengthOf_2 ⟨Nat.zero_le _, Nat.zero_le _⟩ rfl rfl ?_
  refine x_nif_eq E 17 dX2_lengthOf_5 (by decide) (by decide) (fun h => False.elim (by omega)) (fun h5 => ?_)
  refine x_aload_n E 0 dX2_lengthOf_8 rfl ?_
  refine x_get E 0 1 dX2_lengthOf_9 ui_X2_lengthOf_X2 rfl rfl (by decide) fl_X2_lengthOf_15 rfl rfl ?_
  refine x_iload_n E 1 dX2_lengthOf_12 rfl ?_
  refine x_nald E 2 1 dX2_lengthOf_13 rfl rfl (by omega) (by decide) ?_
  refine x_goto E 18 dX2_lengthOf_14 (by decide) ?_
  exact x_iret E hr hlocks dX2_lengthOf_18 ⟨rfl, rfl⟩
set_option maxRecDepth 100000 in
set_option maxHeartbeats 4000000 in
theorem c_X2_lastSecond_in (l : Launch) (D : va_G) (cB cI cZ cJ : ClassId) (t0 : Nat) (t1 : Nat) (t2 : Nat) (t3 : Nat) (t4 : Nat) (c : Nat) (S : Nat → Nat) (Ln : Nat → Nat) (Z : Nat → Bool) (K : Nat → UInt8) (h0 : 0 < c) (hc : c ≤ 600) : Ct l D vwCl (tyl cB cI cZ cJ) yX2_lastSecond wsX2_lastSecond rmX2_lastSecond [.ref t0] [(t0, .inr (2, [.ref t1, .ref t2, .ref t3, .ref t4, .int (nI c)])), (t1, .inl (cI, 600, .inl (nf S))), (t2, .inl (cI, 600, .inl (nf Ln))), (t3, .inl (cZ, 600, .inl (zf Z))), (t4, .inl (cB, 38400, .inl (bf K)))] (some (.int (nI (S (c - 1))))) [(t0, .inr (2, [.ref t1, .ref t2, .ref t3, .ref t4, .int (nI c)])), (t1, .inl (cI, 600, .inl (nf S))), (t2, .inl (cI, 600, .inl (nf Ln))), (t3, .inl (cZ, 600, .inl (zf Z))), (t4, .inl (cB, 38400, .inl (bf K)))] := by
  refine x_start (cc := cX2_lastSecond) (maxL := 1) (ret := (some .int)) (by decide) rfl (Nat.le_of_ble_eq_true rfl) ?_
  intro xp xe xs xm xb xt xc xA E hr hlocks hnm
  obtain ⟨-, -, -, hown, hts, hK, hA⟩ := id E
  refine x_lve (lv' := [(0, .ref t0)]) rfl ?_
  refine x_aload_n E 0 dX2_lastSecond_0 rfl ?_
  refine x_aload_n E 0 dX2_lastSecond_1 rfl ?_
  refine x_get E 0 4 dX2_lastSecond_2 ui_X2_lastSecond_X2 rfl rfl (by decide) fl_X2_lastSecond_27 rfl rfl ?_
  refine x_iconst E (v := nI 1) dX2_lastSecond_5 (by decide) ?_
  refine x_nisub E dX2_lastSecond_6 (by omega) ?_
  refine x_cV E [.int (nI (c - 1))] [] [.int (nI (S (c - 1)))] [(t0, .inr (2, [.ref t1, .ref t2, .ref t3, .ref t4, .int (nI c)])), (t1, .inl (cI, 600, .inl (nf S))), (t2, .inl (cI, 600, .inl (nf Ln))), (t3, .inl (cZ, 600, .inl (zf Z))), (t4, .inl (cB, 38400, .inl (bf K)))] (c_X2_secondOf_in l D cB cI cZ cJ t0 t1 t2 t3 t4 c S Ln Z K (c - 1) (by omega) (by omega)) 0 rfl rfl (cwV 1 hts gX2_lastSecond_X2_secondOf rfl rfl rfl (by decide +kernel) ⟨Nat.le_of_ble_eq_true rfl, Nat.le_of_ble_eq_true rfl⟩) [0, 1, 2, 3, 4] [] rfl rfl (by decide) (by decide) (by decide) [0, 1, 2, 3, 4] (by decide) rfl rfl (Nat.le_of_ble_eq_true rfl) dX2_lastSecond_7 ⟨Nat.zero_le _, Nat.zero_le _⟩ rfl rfl ?_
  exact x_iret E hr hlocks dX2_lastSecond_10 ⟨rfl, rfl⟩
set_option maxRecDepth 100000 in
set_option maxHeartbeats 4000000 in
theorem c_X2_lastSecond_no (l : Launch) (D : va_G) (cB cI cZ cJ : ClassId) (t0 : Nat) (t1 : Nat) (t2 : Nat) (t3 : Nat) (t4 : Nat) (S : Nat → Nat) (Ln : Nat → Nat) (Z : Nat → Bool) (K : Nat → UInt8)  : Ct l D vwCl (tyl cB cI cZ cJ) yX2_lastSecond wsX2_lastSecond rmX2_lastSecond [.ref t0] [(t0, .inr (2, [.ref t1, .ref t2, .ref t3, .ref t4, .int (nI 0)])), (t1, .inl (cI, 600, .inl (nf S))), (t2, .inl (cI, 600, .inl (nf Ln))), (t3, .inl (cZ, 600, .inl (zf Z))), (t4, .inl (cB, 38400, .inl (bf K)))] (some (.int (nI 0))) [(t0, .inr (2, [.ref t1, .ref t2, .ref t3, .ref t4, .int (nI 0)])), (t1, .inl (cI, 600, .inl (nf S))), (t2, .inl (cI, 600, .inl (nf Ln))), (t3, .inl (cZ, 600, .inl (zf Z))), (t4, .inl (cB, 38400, .inl (bf K)))] := by
  refine x_start (cc := cX2_lastSecond) (maxL := 1) (ret := (some .int)) (by decide) rfl (Nat.le_of_ble_eq_true rfl) ?_
  intro xp xe xs xm xb xt xc xA E hr hlocks hnm
  obtain ⟨-, -, -, hown, hts, hK, hA⟩ := id E
  refine x_lve (lv' := [(0, .ref t0)]) rfl ?_
  refine x_aload_n E 0 dX2_lastSecond_0 rfl ?_
  refine x_aload_n E 0 dX2_lastSecond_1 rfl ?_
  refine x_get E 0 4 dX2_lastSecond_2 ui_X2_lastSecond_X2 rfl rfl (by decide) fl_X2_lastSecond_27 rfl rfl ?_
  refine x_iconst E (v := nI 1) dX2_lastSecond_5 (by decide) ?_
  refine x_isub E dX2_lastSecond_6 ?_
  refine x_cV E [.int ((nI 0) - (nI 1))] [] [.int (nI 0)] [(t0, .inr (2, [.ref t1, .ref t2, .ref t3, .ref t4, .int (nI 0)])), (t1, .inl (cI, 600, .inl (nf S))), (t2, .inl (cI, 600, .inl (nf Ln))), (t3, .inl (cZ, 600, .inl (zf Z))), (t4, .inl (cB, 38400, .inl (bf K)))] (c_X2_secondOf_neg l D cB cI cZ cJ t0 t1 t2 t3 t4 0 S Ln Z K ((nI 0) - (nI 1)) n01) 0 rfl rfl (cwV 1 hts gX2_lastSecond_X2_secondOf rfl rfl rfl (by decide +kernel) ⟨Nat.le_of_ble_eq_true rfl, Nat.le_of_ble_eq_true rfl⟩) [0, 1, 2, 3, 4] [] rfl rfl (by decide) (by decide) (by decide) [0, 1, 2, 3, 4] (by decide) rfl rfl (Nat.le_of_ble_eq_true rfl) dX2_lastSecond_7 ⟨Nat.zero_le _, Nat.zero_le _⟩ rfl rfl ?_
  exact x_iret E hr hlocks dX2_lastSecond_10 ⟨rfl, rfl⟩
set_option maxRecDepth 100000 in
set_option maxHeartbeats 4000000 in
theorem c_X2_lastSecond (l : Launch) (D : va_G) (cB cI cZ cJ : ClassId) (t0 : Nat) (t1 : Nat) (t2 : Nat) (t3 : Nat) (t4 : Nat) (c : Nat) (S : Nat → Nat) (Ln : Nat → Nat) (Z : Nat → Bool) (K : Nat → UInt8) (hc : c ≤ 600) : Ct l D vwCl (tyl cB cI cZ cJ) yX2_lastSecond wsX2_lastSecond rmX2_lastSecond [.ref t0] [(t0, .inr (2, [.ref t1, .ref t2, .ref t3, .ref t4, .int (nI c)])), (t1, .inl (cI, 600, .inl (nf S))), (t2, .inl (cI, 600, .inl (nf Ln))), (t3, .inl (cZ, 600, .inl (zf Z))), (t4, .inl (cB, 38400, .inl (bf K)))] (some (.int (nI (lastS c S)))) [(t0, .inr (2, [.ref t1, .ref t2, .ref t3, .ref t4, .int (nI c)])), (t1, .inl (cI, 600, .inl (nf S))), (t2, .inl (cI, 600, .inl (nf Ln))), (t3, .inl (cZ, 600, .inl (zf Z))), (t4, .inl (cB, 38400, .inl (bf K)))] := by
  by_cases h : c = 0
  · subst h
    exact c_X2_lastSecond_no l D cB cI cZ cJ t0 t1 t2 t3 t4 S Ln Z K
  · have e : lastS c S = S (c - 1) := if_neg h
    rw [e]
    exact c_X2_lastSecond_in l D cB cI cZ cJ t0 t1 t2 t3 t4 c S Ln Z K (by omega) hc
set_option maxRecDepth 100000 in
set_option maxHeartbeats 4000000 in
theorem c_X2_monthOf (l : Launch) (D : va_G) (cB cI cZ cJ : ClassId) (t0 : Nat) (t1 : Nat) (t2 : Nat) (t3 : Nat) (t4 : Nat) (c : Nat) (S : Nat → Nat) (Ln : Nat → Nat) (Z : Nat → Bool) (K : Nat → UInt8) (k : Nat) (hc : c ≤ 600) (hk : k < c) (hs : S k < 2 ^ 31) : Ct l D vwCl (tyl cB cI cZ cJ) yX2_monthOf wsX2_monthOf rmX2_monthOf [.ref t0, .int (nI k)] [(t0, .inr (2, [.ref t1, .ref t2, .ref t3, .ref t4, .int (nI c)])), (t1, .inl (cI, 600, .inl (nf S))), (t2, .inl (cI, 600, .inl (nf Ln))), (t3, .inl (cZ, 600, .inl (zf Z))), (t4, .inl (cB, 38400, .inl (bf K)))] (some (.int (nI (S k / 2592000)))) [(t0, .inr (2, [.ref t1, .ref t2, .ref t3, .ref t4, .int (nI c)])), (t1, .inl (cI, 600, .inl (nf S))), (t2, .inl (cI, 600, .inl (nf Ln))), (t3, .inl (cZ, 600, .inl (zf Z))), (t4, .inl (cB, 38400, .inl (bf K)))] := by
  refine x_start (cc := cX2_monthOf) (maxL := 2) (ret := (some .int)) (by decide) rfl (Nat.le_of_ble_eq_true rfl) ?_
  intro xp xe xs xm xb xt xc xA E hr hlocks hnm
  obtain ⟨-, -, -, hown, hts, hK, hA⟩ := id E
  refine x_lve (lv' := [(0, .ref t0), (1, .int (nI k))]) rfl ?_
  refine x_aload_n E 0 dX2_monthOf_0 rfl ?_
  refine x_iload_n E 1 dX2_monthOf_1 rfl ?_
  refine x_cV E [.int (nI k)] [] [.int (nI (S k))] [(t0, .inr (2, [.ref t1, .ref t2, .ref t3, .ref t4, .int (nI c)])), (t1, .inl (cI, 600, .inl (nf S))), (t2, .inl (cI, 600, .inl (nf Ln))), (t3, .inl (cZ, 600, .inl (zf Z))), (t4, .inl (cB, 38400, .inl (bf K)))] (c_X2_secondOf_in l D cB cI cZ cJ t0 t1 t2 t3 t4 c S Ln Z K k (by omega) (by omega)) 0 rfl rfl (cwV 1 hts gX2_monthOf_X2_secondOf rfl rfl rfl (by decide +kernel) ⟨Nat.le_of_ble_eq_true rfl, Nat.le_of_ble_eq_true rfl⟩) [0, 1, 2, 3, 4] [] rfl rfl (by decide) (by decide) (by decide) [0, 1, 2, 3, 4] (by decide) rfl rfl (Nat.le_of_ble_eq_true rfl) dX2_monthOf_2 ⟨Nat.zero_le _, Nat.zero_le _⟩ rfl rfl ?_
  refine x_ldc E (v := nI 2592000) dX2_monthOf_5 cn_X2_monthOf_39 (by decide +kernel) ?_
  refine x_nidiv E dX2_monthOf_7 (by omega) (by omega) (by decide) ?_
  exact x_iret E hr hlocks dX2_monthOf_8 ⟨rfl, rfl⟩
set_option maxRecDepth 100000 in
set_option maxHeartbeats 4000000 in
theorem c_X2_contentAt_in (l : Launch) (D : va_G) (cB cI cZ cJ : ClassId) (t0 : Nat) (t1 : Nat) (t2 : Nat) (t3 : Nat) (t4 : Nat) (c : Nat) (S : Nat → Nat) (Ln : Nat → Nat) (Z : Nat → Bool) (K : Nat → UInt8) (k : Nat) (i : Nat) (hc : c ≤ 600) (hk : k < c) (hl : Ln k ≤ 64) (hi : i < Ln k) : Ct l D vwCl (tyl cB cI cZ cJ) yX2_contentAt wsX2_contentAt rmX2_contentAt [.ref t0, .int (nI k), .int (nI i)] [(t0, .inr (2, [.ref t1, .ref t2, .ref t3, .ref t4, .int (nI c)])), (t1, .inl (cI, 600, .inl (nf S))), (t2, .inl (cI, 600, .inl (nf Ln))), (t3, .inl (cZ, 600, .inl (zf Z))), (t4, .inl (cB, 38400, .inl (bf K)))] (some (.int (nI ((K (k * 64 + i)).toNat)))) [(t0, .inr (2, [.ref t1, .ref t2, .ref t3, .ref t4, .int (nI c)])), (t1, .inl (cI, 600, .inl (nf S))), (t2, .inl (cI, 600, .inl (nf Ln))), (t3, .inl (cZ, 600, .inl (zf Z))), (t4, .inl (cB, 38400, .inl (bf K)))] := by
  refine x_start (cc := cX2_contentAt) (maxL := 3) (ret := (some .int)) (by decide) rfl (Nat.le_of_ble_eq_true rfl) ?_
  intro xp xe xs xm xb xt xc xA E hr hlocks hnm
  obtain ⟨-, -, -, hown, hts, hK, hA⟩ := id E
  refine x_lve (lv' := [(0, .ref t0), (1, .int (nI k)), (2, .int (nI i))]) rfl ?_
  refine x_iload_n E 2 dX2_contentAt_0 rfl ?_
  refine x_nif_lt E 19 dX2_contentAt_1 (by decide) (by omega) (fun h => absurd h (fun h => Nat.not_lt_zero _ h)) (fun h1 => ?_)
  refine x_iload_n E 2 dX2_contentAt_4 rfl ?_
  refine x_aload_n E 0 dX2_contentAt_5 rfl ?_
  refine x_iload_n E 1 dX2_contentAt_6 rfl ?_
  refine x_cV E [.int (nI k)] [.int (nI i)] [.int (nI (Ln k)), .int (nI i)] [(t0, .inr (2, [.ref t1, .ref t2, .ref t3, .ref t4, .int (nI c)])), (t1, .inl (cI, 600, .inl (nf S))), (t2, .inl (cI, 600, .inl (nf Ln))), (t3, .inl (cZ, 600, .inl (zf Z))), (t4, .inl (cB, 38400, .inl (bf K)))] (c_X2_lengthOf_in l D cB cI cZ cJ t0 t1 t2 t3 t4 c S Ln Z K k (by omega) (by omega)) 0 rfl rfl (cwV 1 hts gX2_contentAt_X2_lengthOf rfl rfl rfl (by decide +kernel) ⟨Nat.le_of_ble_eq_true rfl, Nat.le_of_ble_eq_true rfl⟩) [0, 1, 2, 3, 4] [] rfl rfl (by decide) (by decide) (by decide) [0, 1, 2, 3, 4] (by decide) rfl rfl (Nat.le_of_ble_eq_true rfl) dX2_contentAt_7 ⟨Nat.zero_le _, Nat.zero_le _⟩ rfl rfl ?_
  refine x_ncmp_ge E 19 dX2_contentAt_10 (by decide) (by omega) (by omega) (fun h => False.elim (by omega)) (fun h10 => ?_)
  refine x_iload_n E 2 dX2_contentAt_13 rfl ?_
  refine x_bipush E (v := nI 64) dX2_contentAt_14 (by decide) ?_
  refine x_ncmp_lt E 21 dX2_contentAt_16 (by decide) (by omega) (by decide) (fun h16 => ?_) (fun h => False.elim (by omega))
  refine x_aload_n E 0 dX2_contentAt_21 rfl ?_
  refine x_get E 0 3 dX2_contentAt_22 ui_X2_contentAt_X2 rfl rfl (by decide) fl_X2_contentAt_23 rfl rfl ?_
  refine x_iload_n E 1 dX2_contentAt_25 rfl ?_
  refine x_bipush E (v := nI 64) dX2_contentAt_26 (by decide) ?_
  refine x_nimul E dX2_contentAt_28 ?_
  refine x_iload_n E 2 dX2_contentAt_29 rfl ?_
  refine x_niadd E dX2_contentAt_30 ?_
  refine x_bald E 4 0 dX2_contentAt_31 rfl rfl (by omega) (by decide) ?_
  refine x_sipush E (v := nI 255) dX2_contentAt_32 (by decide) ?_
  refine x_iand' E dX2_contentAt_35 (bf_n255 _ _) ?_
  exact x_iret E hr hlocks dX2_contentAt_36 ⟨rfl, rfl⟩
set_option maxRecDepth 100000 in
set_option maxHeartbeats 4000000 in
theorem c_X2_contentAt (l : Launch) (D : va_G) (cB cI cZ cJ : ClassId) (t0 : Nat) (t1 : Nat) (t2 : Nat) (t3 : Nat) (t4 : Nat) (c : Nat) (S : Nat → Nat) (Ln : Nat → Nat) (Z : Nat → Bool) (K : Nat → UInt8) (k : Nat) (x : Int32) (hc : c ≤ 600) (hk : k < c) (hl : Ln k ≤ 64) : Ct l D vwCl (tyl cB cI cZ cJ) yX2_contentAt wsX2_contentAt rmX2_contentAt [.ref t0, .int (nI k), .int x] [(t0, .inr (2, [.ref t1, .ref t2, .ref t3, .ref t4, .int (nI c)])), (t1, .inl (cI, 600, .inl (nf S))), (t2, .inl (cI, 600, .inl (nf Ln))), (t3, .inl (cZ, 600, .inl (zf Z))), (t4, .inl (cB, 38400, .inl (bf K)))] (some (.int (cAt (Ln k) (fun j => K (k * 64 + j)) x))) [(t0, .inr (2, [.ref t1, .ref t2, .ref t3, .ref t4, .int (nI c)])), (t1, .inl (cI, 600, .inl (nf S))), (t2, .inl (cI, 600, .inl (nf Ln))), (t3, .inl (cZ, 600, .inl (zf Z))), (t4, .inl (cB, 38400, .inl (bf K)))] := by
  refine x_start (cc := cX2_contentAt) (maxL := 3) (ret := (some .int)) (by decide) rfl (Nat.le_of_ble_eq_true rfl) ?_
  intro xp xe xs xm xb xt xc xA E hr hlocks hnm
  obtain ⟨-, -, -, hown, hts, hK, hA⟩ := id E
  refine x_lve (lv' := [(0, .ref t0), (1, .int (nI k)), (2, .int x)]) rfl ?_
  refine x_iload_n E 2 dX2_contentAt_0 rfl ?_
  refine x_if_lt E 19 dX2_contentAt_1 (by decide) (fun h1 => ?_) (fun h1 => ?_)
  · refine x_iconst E (v := (-1)) dX2_contentAt_19 (by decide) ?_
    exact x_iret E hr hlocks dX2_contentAt_20 ⟨by unfold cAt; rw [if_pos h1], rfl⟩
  · obtain ⟨j, hj, rfl⟩ := nI_of h1
    refine x_iload_n E 2 dX2_contentAt_4 rfl ?_
    refine x_aload_n E 0 dX2_contentAt_5 rfl ?_
    refine x_iload_n E 1 dX2_contentAt_6 rfl ?_
    refine x_cV E [.int (nI k)] [.int (nI j)] [.int (nI (Ln k)), .int (nI j)] [(t0, .inr (2, [.ref t1, .ref t2, .ref t3, .ref t4, .int (nI c)])), (t1, .inl (cI, 600, .inl (nf S))), (t2, .inl (cI, 600, .inl (nf Ln))), (t3, .inl (cZ, 600, .inl (zf Z))), (t4, .inl (cB, 38400, .inl (bf K)))] (c_X2_lengthOf_in l D cB cI cZ cJ t0 t1 t2 t3 t4 c S Ln Z K k (by omega) (by omega)) 0 rfl rfl (cwV 1 hts gX2_contentAt_X2_lengthOf rfl rfl rfl (by decide +kernel) ⟨Nat.le_of_ble_eq_true rfl, Nat.le_of_ble_eq_true rfl⟩) [0, 1, 2, 3, 4] [] rfl rfl (by decide) (by decide) (by decide) [0, 1, 2, 3, 4] (by decide) rfl rfl (Nat.le_of_ble_eq_true rfl) dX2_contentAt_7 ⟨Nat.zero_le _, Nat.zero_le _⟩ rfl rfl ?_
    refine x_ncmp_ge E 19 dX2_contentAt_10 (by decide) (by omega) (by omega) (fun h10 => ?_) (fun h10 => ?_)
    · refine x_iconst E (v := (-1)) dX2_contentAt_19 (by decide) ?_
      exact x_iret E hr hlocks dX2_contentAt_20 ⟨by unfold cAt; rw [if_neg h1, if_pos ((nI_leI (by omega) (by omega)).mpr h10)], rfl⟩
    · refine x_iload_n E 2 dX2_contentAt_13 rfl ?_
      refine x_bipush E (v := nI 64) dX2_contentAt_14 (by decide) ?_
      refine x_ncmp_lt E 21 dX2_contentAt_16 (by decide) (by omega) (by decide) (fun h16 => ?_) (fun h => False.elim (by omega))
      refine x_aload_n E 0 dX2_contentAt_21 rfl ?_
      refine x_get E 0 3 dX2_contentAt_22 ui_X2_contentAt_X2 rfl rfl (by decide) fl_X2_contentAt_23 rfl rfl ?_
      refine x_iload_n E 1 dX2_contentAt_25 rfl ?_
      refine x_bipush E (v := nI 64) dX2_contentAt_26 (by decide) ?_
      refine x_nimul E dX2_contentAt_28 ?_
      refine x_iload_n E 2 dX2_contentAt_29 rfl ?_
      refine x_niadd E dX2_contentAt_30 ?_
      refine x_bald E 4 0 dX2_contentAt_31 rfl rfl (by omega) (by decide) ?_
      refine x_sipush E (v := nI 255) dX2_contentAt_32 (by decide) ?_
      refine x_iand' E dX2_contentAt_35 (bf_n255 _ _) ?_
      exact x_iret E hr hlocks dX2_contentAt_36 ⟨by unfold cAt; rw [if_neg h1, if_neg (fun q => absurd ((nI_leI (by omega) (by omega)).mp q) (by omega)), nI_clamp hj], rfl⟩
set_option maxRecDepth 100000 in
set_option maxHeartbeats 4000000 in
theorem c_X2_bytesInFile (l : Launch) (D : va_G) (cB cI cZ cJ : ClassId) (t0 : Nat) (t1 : Nat) (t2 : Nat) (t3 : Nat) (t4 : Nat) (c : Nat) (S : Nat → Nat) (Ln : Nat → Nat) (Z : Nat → Bool) (K : Nat → UInt8) (p0 : Nat) (q0 : Nat) (hc : c ≤ 600) (hp : p0 ≤ q0) (hq : q0 ≤ c) : Ct l D vwCl (tyl cB cI cZ cJ) yX2_bytesInFile wsX2_bytesInFile rmX2_bytesInFile [.ref t0, .int (nI p0), .int (nI q0)] [(t0, .inr (2, [.ref t1, .ref t2, .ref t3, .ref t4, .int (nI c)])), (t1, .inl (cI, 600, .inl (nf S))), (t2, .inl (cI, 600, .inl (nf Ln))), (t3, .inl (cZ, 600, .inl (zf Z))), (t4, .inl (cB, 38400, .inl (bf K)))] (some (.int (nI (bsz Ln Z p0 (q0 - p0) 0)))) [(t0, .inr (2, [.ref t1, .ref t2, .ref t3, .ref t4, .int (nI c)])), (t1, .inl (cI, 600, .inl (nf S))), (t2, .inl (cI, 600, .inl (nf Ln))), (t3, .inl (cZ, 600, .inl (zf Z))), (t4, .inl (cB, 38400, .inl (bf K)))] := by
  refine x_start (cc := cX2_bytesInFile) (maxL := 5) (ret := (some .int)) (by decide) rfl (Nat.le_of_ble_eq_true rfl) ?_
  intro xp xe xs xm xb xt xc xA E hr hlocks hnm
  obtain ⟨-, -, -, hown, hts, hK, hA⟩ := id E
  refine x_lve (lv' := [(0, .ref t0), (1, .int (nI p0)), (2, .int (nI q0))]) rfl ?_
  have loop : ∀ (k i a : Nat), i + k = q0 → bsz Ln Z i k a = bsz Ln Z p0 (q0 - p0) 0 → Xs xp l xe rmX2_bytesInFile xs xm ([.ref t0, .int (nI p0), .int (nI q0)] : List Value).toArray xb xt xc D vwCl xA 5 0 0 (MQ xb (CQ D vwCl (tyl cB cI cZ cJ) xA (fun r u => r = (some (.int (nI (bsz Ln Z p0 (q0 - p0) 0)))) ∧ u = [(t0, .inr (2, [.ref t1, .ref t2, .ref t3, .ref t4, .int (nI c)])), (t1, .inl (cI, 600, .inl (nf S))), (t2, .inl (cI, 600, .inl (nf Ln))), (t3, .inl (cZ, 600, .inl (zf Z))), (t4, .inl (cB, 38400, .inl (bf K)))])) ([.ref t0, .int (nI p0), .int (nI q0)] : List Value).toArray xs 0 0 xA) [(t0, .inr (2, [.ref t1, .ref t2, .ref t3, .ref t4, .int (nI c)])), (t1, .inl (cI, 600, .inl (nf S))), (t2, .inl (cI, 600, .inl (nf Ln))), (t3, .inl (cZ, 600, .inl (zf Z))), (t4, .inl (cB, 38400, .inl (bf K)))] [(4, .int (nI i)), (3, .int (nI a)), (0, .ref t0), (1, .int (nI p0)), (2, .int (nI q0))] 5 [] := by
    intro k
    induction k with
    | zero =>
      intro i a h1 h2
      refine x_iload E 0 dX2_bytesInFile_5 rfl ?_
      refine x_iload_n E 4 dX2_bytesInFile_7 rfl ?_
      refine x_ncmp_ge E 45 dX2_bytesInFile_8 (by decide) (by omega) (by omega) (fun h8 => ?_) (fun h => False.elim (by omega))
      refine x_iload_n E 1 dX2_bytesInFile_45 rfl ?_
      exact x_iret E hr hlocks dX2_bytesInFile_46 ⟨by rw [← h2]; rfl, rfl⟩
    | succ k ih =>
      intro i a h1 h2
      refine x_iload E 0 dX2_bytesInFile_5 rfl ?_
      refine x_iload_n E 4 dX2_bytesInFile_7 rfl ?_
      refine x_ncmp_ge E 45 dX2_bytesInFile_8 (by decide) (by omega) (by omega) (fun h => False.elim (by omega)) (fun h8 => ?_)
      refine x_iload_n E 1 dX2_bytesInFile_11 rfl ?_
      refine x_aload_n E 2 dX2_bytesInFile_12 rfl ?_
      refine x_iload E 0 dX2_bytesInFile_13 rfl ?_
      refine x_cV E [.int (nI i)] [.int (nI a)] [.int (nI (Ln i)), .int (nI a)] [(t0, .inr (2, [.ref t1, .ref t2, .ref t3, .ref t4, .int (nI c)])), (t1, .inl (cI, 600, .inl (nf S))), (t2, .inl (cI, 600, .inl (nf Ln))), (t3, .inl (cZ, 600, .inl (zf Z))), (t4, .inl (cB, 38400, .inl (bf K)))] (c_X2_lengthOf_in l D cB cI cZ cJ t0 t1 t2 t3 t4 c S Ln Z K i (by omega) (by omega)) 0 rfl rfl (cwV 1 hts gX2_bytesInFile_X2_lengthOf rfl rfl rfl (by decide +kernel) ⟨Nat.le_of_ble_eq_true rfl, Nat.le_of_ble_eq_true rfl⟩) [0, 1, 2, 3, 4] [] rfl rfl (by decide) (by decide) (by decide) [0, 1, 2, 3, 4] (by decide) rfl rfl (Nat.le_of_ble_eq_true rfl) dX2_bytesInFile_15 ⟨Nat.zero_le _, Nat.zero_le _⟩ rfl rfl ?_
      refine x_bipush E (v := nI 11) dX2_bytesInFile_18 (by decide) ?_
      refine x_niadd E dX2_bytesInFile_20 ?_
      refine x_aload_n E 2 dX2_bytesInFile_21 rfl ?_
      refine x_iload E 0 dX2_bytesInFile_22 rfl ?_
      refine x_cV E [.int (nI i)] [.int (nI ((Ln i) + 11)), .int (nI a)] [.int (if Z i = true then 1 else 0), .int (nI ((Ln i) + 11)), .int (nI a)] [(t0, .inr (2, [.ref t1, .ref t2, .ref t3, .ref t4, .int (nI c)])), (t1, .inl (cI, 600, .inl (nf S))), (t2, .inl (cI, 600, .inl (nf Ln))), (t3, .inl (cZ, 600, .inl (zf Z))), (t4, .inl (cB, 38400, .inl (bf K)))] (c_X2_endsGroup l D cB cI cZ cJ t0 t1 t2 t3 t4 c S Ln Z K i (by omega) (by omega)) 0 rfl rfl (cwV 1 hts gX2_bytesInFile_X2_endsGroup rfl rfl rfl (by decide +kernel) ⟨Nat.le_of_ble_eq_true rfl, Nat.le_of_ble_eq_true rfl⟩) [0, 1, 2, 3, 4] [] rfl rfl (by decide) (by decide) (by decide) [0, 1, 2, 3, 4] (by decide) rfl rfl (Nat.le_of_ble_eq_true rfl) dX2_bytesInFile_24 ⟨Nat.zero_le _, Nat.zero_le _⟩ rfl rfl ?_
      refine x_qif_eq E 35 dX2_bytesInFile_27 (by decide) (fun h27 => ?_) (fun h27 => ?_)
      · refine x_iconst E (v := nI 0) dX2_bytesInFile_35 (by decide) ?_
        refine x_niadd E dX2_bytesInFile_36 ?_
        refine x_niadd E dX2_bytesInFile_37 ?_
        refine x_istore_n E [(3, .int (nI (a + (((Ln i) + 11) + 0)))), (4, .int (nI i)), (0, .ref t0), (1, .int (nI p0)), (2, .int (nI q0))] dX2_bytesInFile_38 (by decide) rfl ?_
        refine x_iinc E 1 [(4, .int (nI (i + 1))), (3, .int (nI (a + (((Ln i) + 11) + 0)))), (0, .ref t0), (1, .int (nI p0)), (2, .int (nI q0))] dX2_bytesInFile_39 rfl (nI_add _ _) (by decide) rfl ?_
        refine x_goto E 5 dX2_bytesInFile_42 (by decide) ?_
        exact ih (i + 1) _ (by omega) (by rw [← h2, bsz_s, h27]; rfl)
      · refine x_bipush E (v := nI 6) dX2_bytesInFile_30 (by decide) ?_
        refine x_goto E 36 dX2_bytesInFile_32 (by decide) ?_
        refine x_niadd E dX2_bytesInFile_36 ?_
        refine x_niadd E dX2_bytesInFile_37 ?_
        refine x_istore_n E [(3, .int (nI (a + (((Ln i) + 11) + 6)))), (4, .int (nI i)), (0, .ref t0), (1, .int (nI p0)), (2, .int (nI q0))] dX2_bytesInFile_38 (by decide) rfl ?_
        refine x_iinc E 1 [(4, .int (nI (i + 1))), (3, .int (nI (a + (((Ln i) + 11) + 6)))), (0, .ref t0), (1, .int (nI p0)), (2, .int (nI q0))] dX2_bytesInFile_39 rfl (nI_add _ _) (by decide) rfl ?_
        refine x_goto E 5 dX2_bytesInFile_42 (by decide) ?_
        exact ih (i + 1) _ (by omega) (by rw [← h2, bsz_s, h27]; rfl)
  refine x_iconst E (v := nI 0) dX2_bytesInFile_0 (by decide) ?_
  refine x_istore_n E [(3, .int (nI 0)), (0, .ref t0), (1, .int (nI p0)), (2, .int (nI q0))] dX2_bytesInFile_1 (by decide) rfl ?_
  refine x_iload_n E 2 dX2_bytesInFile_2 rfl ?_
  refine x_istore E [(4, .int (nI p0)), (3, .int (nI 0)), (0, .ref t0), (1, .int (nI p0)), (2, .int (nI q0))] dX2_bytesInFile_3 (by decide) rfl ?_
  exact loop (q0 - p0) p0 0 (by omega) rfl
