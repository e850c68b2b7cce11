abbrev rmX3_badAt : Room := { frames := 0, cells := 0, slots := 0, locals := 0 }
abbrev rmX3_feed : Room := { frames := 0, cells := 0, slots := 0, locals := 0 }
abbrev rmX3_fileOf : Room := { frames := 0, cells := 0, slots := 0, locals := 0 }
abbrev rmX3_isFile : Room := { frames := 0, cells := 0, slots := 0, locals := 0 }
abbrev rmX3_repaired : Room := { frames := 0, cells := 0, slots := 0, locals := 0 }
abbrev rmX3_row : Room := { frames := 3, cells := 0, slots := 0, locals := 62 }
theorem fl_X3_fileOf_12 : Cond.fieldLink RX3 12 "MirrorLog" "file0" "LMirrorLog$LogFile;" ∈ wsX3_fileOf := by decide +kernel
theorem ui_X3_fileOf_X3 : ∀ w ∈ wsX30, w ∈ wsX3_fileOf := by decide +kernel
theorem fl_X3_fileOf_16 : Cond.fieldLink RX3 16 "MirrorLog" "file1" "LMirrorLog$LogFile;" ∈ wsX3_fileOf := by decide +kernel
theorem fl_X3_repaired_92 : Cond.fieldLink RX3 92 "MirrorLog" "repairedGroups" "I" ∈ wsX3_repaired := by decide +kernel
theorem ui_X3_repaired_X3 : ∀ w ∈ wsX30, w ∈ wsX3_repaired := by decide +kernel
theorem fl_X3_badAt_30 : Cond.fieldLink RX3 30 "MirrorLog" "badPlace" "I" ∈ wsX3_badAt := by decide +kernel
theorem ui_X3_badAt_X3 : ∀ w ∈ wsX30, w ∈ wsX3_badAt := by decide +kernel
theorem fl_X3_feed_34 : Cond.fieldLink RX3 34 "MirrorLog" "shut" "Z" ∈ wsX3_feed := by decide +kernel
theorem ui_X3_feed_X3 : ∀ w ∈ wsX30, w ∈ wsX3_feed := by decide +kernel
theorem fl_X3_feed_38 : Cond.fieldLink RX3 38 "MirrorLog" "fedCount" "I" ∈ wsX3_feed := by decide +kernel
theorem fl_X3_feed_26 : Cond.fieldLink RX3 26 "MirrorLog" "fed" "[B" ∈ wsX3_feed := by decide +kernel
theorem fl_X3_row_34 : Cond.fieldLink RX3 34 "MirrorLog" "shut" "Z" ∈ wsX3_row := by decide +kernel
theorem ui_X3_row_X3 : ∀ w ∈ wsX30, w ∈ wsX3_row := by decide +kernel
theorem fl_X3_row_38 : Cond.fieldLink RX3 38 "MirrorLog" "fedCount" "I" ∈ wsX3_row := by decide +kernel
theorem cn_X3_row_41 : Jvm.Cond.constant RX3 41 (1000000000) ∈ wsX3_row := by decide +kernel
theorem fl_X3_row_22 : Cond.fieldLink RX3 22 "MirrorLog" "table" "LMirrorLog$RowTable;" ∈ wsX3_row := by decide +kernel
theorem fl_X3_row_49 : Cond.fieldLink RX3 49 "MirrorLog" "known" "I" ∈ wsX3_row := by decide +kernel
theorem fl_X3_row_26 : Cond.fieldLink RX3 26 "MirrorLog" "fed" "[B" ∈ wsX3_row := by decide +kernel
/-- both files have the same bytes -/
def sameB (n : Nat) (g : Nat → UInt8) (n2 : Nat) (g2 : Nat → UInt8) : Bool := if n = n2 then agr n g n2 g2 0 (n - 0) else false
/-- the number behind the last row of the groups of months up to mo -/
def eog (S : Nat → Nat) (Z : Nat → Bool) (mo : Int32) : Nat → Nat → Nat → Nat
  | 0, _, e => e
  | k + 1, r, e => if mo < nI (S r / 2592000) then e else eog S Z mo k (r + 1) (if Z r = true then r + 1 else e)
theorem eog_s (S : Nat → Nat) (Z : Nat → Bool) (mo : Int32) (k r e : Nat) : eog S Z mo (k + 1) r e = if mo < nI (S r / 2592000) then e else eog S Z mo k (r + 1) (if Z r = true then r + 1 else e) := rfl
/-- how many of k rows from r on are of month mo -/
def rwC (S : Nat → Nat) (mo : Int32) : Nat → Nat → Nat → Nat
  | 0, _, a => a
  | k + 1, r, a => rwC S mo k (r + 1) (if nI (S r / 2592000) = mo then a + 1 else a)
theorem rwC_s (S : Nat → Nat) (mo : Int32) (k r a : Nat) : rwC S mo (k + 1) r a = rwC S mo k (r + 1) (if nI (S r / 2592000) = mo then a + 1 else a) := rfl
theorem u8_bf (g : Nat → UInt8) (k : Nat) : u8 (bf g k) = g k := by
  show u8 (g k).toInt8.toInt32 = g k
  have h : ∀ n : Fin 256, u8 (UInt8.ofNat n.val).toInt8.toInt32 = UInt8.ofNat n.val := by decide +kernel
  have h2 := h ⟨(g k).toNat, (g k).toNat_lt⟩
  simpa using h2
set_option maxRecDepth 100000 in
set_option maxHeartbeats 4000000 in
theorem c_X3_isFile (l : Launch) (D : va_G) (cB cI cZ cJ : ClassId) (x : Int32)  : Ct l D vwCl (tyl cB cI cZ cJ) yX3_isFile wsX3_isFile rmX3_isFile [.int x] [] (some (.int (if decide (x = 0 ∨ x = 1) = true then 1 else 0))) [] := by
  refine x_start (cc := cX3_isFile) (maxL := 1) (ret := (some .boolean)) (by decide) rfl (Nat.le_of_ble_eq_true rfl) ?_
  intro xp xe xs xm xb xt xc xA E hr hlocks hnm
  obtain ⟨-, -, -, hown, hts, hK, hA⟩ := id E
  refine x_lve (lv' := [(0, .int x)]) rfl ?_
  refine x_iload_n E 0 dX3_isFile_0 rfl ?_
  refine x_if_eq E 9 dX3_isFile_1 (by decide) (fun h1 => ?_) (fun h1 => ?_)
  · refine x_iconst E (v := nI 1) dX3_isFile_9 (by decide) ?_
    refine x_goto E 14 dX3_isFile_10 (by decide) ?_
    exact x_zret E hr hlocks dX3_isFile_14 rfl ⟨q_t' (decide_eq_true (by first | exact Or.inl h1 | exact Or.inr h6)), rfl⟩
  · refine x_iload_n E 0 dX3_isFile_4 rfl ?_
    refine x_iconst E (v := nI 1) dX3_isFile_5 (by decide) ?_
    refine x_icmp_ne E 13 dX3_isFile_6 (by decide) (fun h6 => ?_) (fun h6 => ?_)
    · refine x_iconst E (v := nI 0) dX3_isFile_13 (by decide) ?_
      exact x_zret E hr hlocks dX3_isFile_14 rfl ⟨q_f' (decide_eq_false (fun q => q.elim h1 h6)), rfl⟩
    · refine x_iconst E (v := nI 1) dX3_isFile_9 (by decide) ?_
      refine x_goto E 14 dX3_isFile_10 (by decide) ?_
      exact x_zret E hr hlocks dX3_isFile_14 rfl ⟨q_t' (decide_eq_true (by first | exact Or.inl h1 | exact Or.inr h6)), rfl⟩
set_option maxRecDepth 100000 in
set_option maxHeartbeats 4000000 in
theorem c_X3_isFile_0 (l : Launch) (D : va_G) (cB cI cZ cJ : ClassId)   : Ct l D vwCl (tyl cB cI cZ cJ) yX3_isFile wsX3_isFile rmX3_isFile [.int (nI 0)] [] (some (.int (nI 1))) [] := by
  refine x_start (cc := cX3_isFile) (maxL := 1) (ret := (some .boolean)) (by decide) rfl (Nat.le_of_ble_eq_true rfl) ?_
  intro xp xe xs xm xb xt xc xA E hr hlocks hnm
  obtain ⟨-, -, -, hown, hts, hK, hA⟩ := id E
  refine x_lve (lv' := [(0, .int (nI 0))]) rfl ?_
  refine x_iload_n E 0 dX3_isFile_0 rfl ?_
  refine x_nif_eq E 9 dX3_isFile_1 (by decide) (by decide) (fun h1 => ?_) (fun h => absurd h (fun h => h rfl))
  refine x_iconst E (v := nI 1) dX3_isFile_9 (by decide) ?_
  refine x_goto E 14 dX3_isFile_10 (by decide) ?_
  exact x_zret E hr hlocks dX3_isFile_14 rfl ⟨rfl, rfl⟩
set_option maxRecDepth 100000 in
set_option maxHeartbeats 4000000 in
theorem c_X3_isFile_1 (l : Launch) (D : va_G) (cB cI cZ cJ : ClassId)   : Ct l D vwCl (tyl cB cI cZ cJ) yX3_isFile wsX3_isFile rmX3_isFile [.int (nI 1)] [] (some (.int (nI 1))) [] := by
  refine x_start (cc := cX3_isFile) (maxL := 1) (ret := (some .boolean)) (by decide) rfl (Nat.le_of_ble_eq_true rfl) ?_
  intro xp xe xs xm xb xt xc xA E hr hlocks hnm
  obtain ⟨-, -, -, hown, hts, hK, hA⟩ := id E
  refine x_lve (lv' := [(0, .int (nI 1))]) rfl ?_
  refine x_iload_n E 0 dX3_isFile_0 rfl ?_
  refine x_nif_eq E 9 dX3_isFile_1 (by decide) (by decide) (fun h => False.elim (by omega)) (fun h1 => ?_)
  refine x_iload_n E 0 dX3_isFile_4 rfl ?_
  refine x_iconst E (v := nI 1) dX3_isFile_5 (by decide) ?_
  refine x_ncmp_ne E 13 dX3_isFile_6 (by decide) (by decide) (by decide) (fun h => absurd h (fun h => h rfl)) (fun h6 => ?_)
  refine x_iconst E (v := nI 1) dX3_isFile_9 (by decide) ?_
  refine x_goto E 14 dX3_isFile_10 (by decide) ?_
  exact x_zret E hr hlocks dX3_isFile_14 rfl ⟨rfl, rfl⟩
set_option maxRecDepth 100000 in
set_option maxHeartbeats 4000000 in
theorem c_X3_fileOf_0 (l : Launch) (D : va_G) (cB cI cZ cJ : ClassId) (m0 : Nat) (m1 : Nat) (a0 : Nat) (a1 : Nat) (b0 : Nat) (b1 : Nat) (t0 : Nat) (t1 : Nat) (t2 : Nat) (t3 : Nat) (t4 : Nat) (fc : Nat) (mv : Nat) (kn : Nat) (sh : Bool) (rp : Nat) (bad : Int32) (F : Nat → UInt8) (n : Nat) (g : Nat → UInt8) (n2 : Nat) (g2 : Nat → UInt8) (c : Nat) (S : Nat → Nat) (Ln : Nat → Nat) (Z : Nat → Bool) (K : Nat → UInt8)  : Ct l D vwCl (tyl cB cI cZ cJ) yX3_fileOf wsX3_fileOf rmX3_fileOf [.ref m0, .int (nI 0)] [(m0, .inr (3, [.ref a0, .ref b0, .ref t0, .ref m1, .int (nI fc), .int (nI mv), .int (nI kn), .int (if sh = true then 1 else 0), .int (nI rp), .int bad])), (m1, .inl (cB, 64, .inl (bf F))), (a0, .inr (1, [.ref a1, .int (nI n)])), (a1, .inl (cB, 8192, .inl (bf g))), (b0, .inr (1, [.ref b1, .int (nI n2)])), (b1, .inl (cB, 8192, .inl (bf g2))), (t0, .inr (2, [.ref t1, .ref t2, .ref t3, .ref t4, .int (nI c)])), (t1, .inl (cI, 600, .inl (nf S))), (t2, .inl (cI, 600, .inl (nf Ln))), (t3, .inl (cZ, 600, .inl (zf Z))), (t4, .inl (cB, 38400, .inl (bf K)))] (some (.ref a0)) [(m0, .inr (3, [.ref a0, .ref b0, .ref t0, .ref m1, .int (nI fc), .int (nI mv), .int (nI kn), .int (if sh = true then 1 else 0), .int (nI rp), .int bad])), (m1, .inl (cB, 64, .inl (bf F))), (a0, .inr (1, [.ref a1, .int (nI n)])), (a1, .inl (cB, 8192, .inl (bf g))), (b0, .inr (1, [.ref b1, .int (nI n2)])), (b1, .inl (cB, 8192, .inl (bf g2))), (t0, .inr (2, [.ref t1, .ref t2, .ref t3, .ref t4, .int (nI c)])), (t1, .inl (cI, 600, .inl (nf S))), (t2, .inl (cI, 600, .inl (nf Ln))), (t3, .inl (cZ, 600, .inl (zf Z))), (t4, .inl (cB, 38400, .inl (bf K)))] := by
  refine x_start (cc := cX3_fileOf) (maxL := 2) (ret := (some (.object "MirrorLog$LogFile"))) (by decide) rfl (Nat.le_of_ble_eq_true rfl) ?_
  intro xp xe xs xm xb xt xc xA E hr hlocks hnm
  obtain ⟨-, -, -, hown, hts, hK, hA⟩ := id E
  refine x_lve (lv' := [(0, .ref m0), (1, .int (nI 0))]) rfl ?_
  refine x_iload_n E 1 dX3_fileOf_0 rfl ?_
  refine x_nif_ne E 11 dX3_fileOf_1 (by decide) (by decide) (fun h => absurd h (fun h => h rfl)) (fun h1 => ?_)
  refine x_aload_n E 0 dX3_fileOf_4 rfl ?_
  refine x_get E 0 0 dX3_fileOf_5 ui_X3_fileOf_X3 rfl rfl (by decide) fl_X3_fileOf_12 rfl rfl ?_
  refine x_goto E 15 dX3_fileOf_8 (by decide) ?_
  exact x_aret E hr hlocks dX3_fileOf_15 (Or.inl ⟨_, rfl⟩) ⟨rfl, rfl⟩
set_option maxRecDepth 100000 in
set_option maxHeartbeats 4000000 in
theorem c_X3_fileOf_1 (l : Launch) (D : va_G) (cB cI cZ cJ : ClassId) (m0 : Nat) (m1 : Nat) (a0 : Nat) (a1 : Nat) (b0 : Nat) (b1 : Nat) (t0 : Nat) (t1 : Nat) (t2 : Nat) (t3 : Nat) (t4 : Nat) (fc : Nat) (mv : Nat) (kn : Nat) (sh : Bool) (rp : Nat) (bad : Int32) (F : Nat → UInt8) (n : Nat) (g : Nat → UInt8) (n2 : Nat) (g2 : Nat → UInt8) (c : Nat) (S : Nat → Nat) (Ln : Nat → Nat) (Z : Nat → Bool) (K : Nat → UInt8)  : Ct l D vwCl (tyl cB cI cZ cJ) yX3_fileOf wsX3_fileOf rmX3_fileOf [.ref m0, .int (nI 1)] [(m0, .inr (3, [.ref a0, .ref b0, .ref t0, .ref m1, .int (nI fc), .int (nI mv), .int (nI kn), .int (if sh = true then 1 else 0), .int (nI rp), .int bad])), (m1, .inl (cB, 64, .inl (bf F))), (a0, .inr (1, [.ref a1, .int (nI n)])), (a1, .inl (cB, 8192, .inl (bf g))), (b0, .inr (1, [.ref b1, .int (nI n2)])), (b1, .inl (cB, 8192, .inl (bf g2))), (t0, .inr (2, [.ref t1, .ref t2, .ref t3, .ref t4, .int (nI c)])), (t1, .inl (cI, 600, .inl (nf S))), (t2, .inl (cI, 600, .inl (nf Ln))), (t3, .inl (cZ, 600, .inl (zf Z))), (t4, .inl (cB, 38400, .inl (bf K)))] (some (.ref b0)) [(m0, .inr (3, [.ref a0, .ref b0, .ref t0, .ref m1, .int (nI fc), .int (nI mv), .int (nI kn), .int (if sh = true then 1 else 0), .int (nI rp), .int bad])), (m1, .inl (cB, 64, .inl (bf F))), (a0, .inr (1, [.ref a1, .int (nI n)])), (a1, .inl (cB, 8192, .inl (bf g))), (b0, .inr (1, [.ref b1, .int (nI n2)])), (b1, .inl (cB, 8192, .inl (bf g2))), (t0, .inr (2, [.ref t1, .ref t2, .ref t3, .ref t4, .int (nI c)])), (t1, .inl (cI, 600, .inl (nf S))), (t2, .inl (cI, 600, .inl (nf Ln))), (t3, .inl (cZ, 600, .inl (zf Z))), (t4, .inl (cB, 38400, .inl (bf K)))] := by
  refine x_start (cc := cX3_fileOf) (maxL := 2) (ret := (some (.object "MirrorLog$LogFile"))) (by decide) rfl (Nat.le_of_ble_eq_true rfl) ?_
  intro xp xe xs xm xb xt xc xA E hr hlocks hnm
  obtain ⟨-, -, -, hown, hts, hK, hA⟩ := id E
  refine x_lve (lv' := [(0, .ref m0), (1, .int (nI 1))]) rfl ?_
  refine x_iload_n E 1 dX3_fileOf_0 rfl ?_
  refine x_nif_ne E 11 dX3_fileOf_1 (by decide) (by decide) (fun h1 => ?_) (fun h => False.elim (by omega))
  refine x_aload_n E 0 dX3_fileOf_11 rfl ?_
  refine x_get E 0 1 dX3_fileOf_12 ui_X3_fileOf_X3 rfl rfl (by decide) fl_X3_fileOf_16 rfl rfl ?_
  exact x_aret E hr hlocks dX3_fileOf_15 (Or.inl ⟨_, rfl⟩) ⟨rfl, rfl⟩
set_option maxRecDepth 100000 in
set_option maxHeartbeats 4000000 in
theorem c_X3_repaired (l : Launch) (D : va_G) (cB cI cZ cJ : ClassId) (m0 : Nat) (m1 : Nat) (a0 : Nat) (a1 : Nat) (b0 : Nat) (b1 : Nat) (t0 : Nat) (t1 : Nat) (t2 : Nat) (t3 : Nat) (t4 : Nat) (fc : Nat) (mv : Nat) (kn : Nat) (sh : Bool) (rp : Nat) (bad : Int32) (F : Nat → UInt8) (n : Nat) (g : Nat → UInt8) (n2 : Nat) (g2 : Nat → UInt8) (c : Nat) (S : Nat → Nat) (Ln : Nat → Nat) (Z : Nat → Bool) (K : Nat → UInt8)  : Ct l D vwCl (tyl cB cI cZ cJ) yX3_repaired wsX3_repaired rmX3_repaired [.ref m0] [(m0, .inr (3, [.ref a0, .ref b0, .ref t0, .ref m1, .int (nI fc), .int (nI mv), .int (nI kn), .int (if sh = true then 1 else 0), .int (nI rp), .int bad])), (m1, .inl (cB, 64, .inl (bf F))), (a0, .inr (1, [.ref a1, .int (nI n)])), (a1, .inl (cB, 8192, .inl (bf g))), (b0, .inr (1, [.ref b1, .int (nI n2)])), (b1, .inl (cB, 8192, .inl (bf g2))), (t0, .inr (2, [.ref t1, .ref t2, .ref t3, .ref t4, .int (nI c)])), (t1, .inl (cI, 600, .inl (nf S))), (t2, .inl (cI, 600, .inl (nf Ln))), (t3, .inl (cZ, 600, .inl (zf Z))), (t4, .inl (cB, 38400, .inl (bf K)))] (some (.int (nI rp))) [(m0, .inr (3, [.ref a0, .ref b0, .ref t0, .ref m1, .int (nI fc), .int (nI mv), .int (nI kn), .int (if sh = true then 1 else 0), .int (nI rp), .int bad])), (m1, .inl (cB, 64, .inl (bf F))), (a0, .inr (1, [.ref a1, .int (nI n)])), (a1, .inl (cB, 8192, .inl (bf g))), (b0, .inr (1, [.ref b1, .int (nI n2)])), (b1, .inl (cB, 8192, .inl (bf g2))), (t0, .inr (2, [.ref t1, .ref t2, .ref t3, .ref t4, .int (nI c)])), (t1, .inl (cI, 600, .inl (nf S))), (t2, .inl (cI, 600, .inl (nf Ln))), (t3, .inl (cZ, 600, .inl (zf Z))), (t4, .inl (cB, 38400, .inl (bf K)))] := by
  refine x_start (cc := cX3_repaired) (maxL := 1) (ret := (some .int)) (by decide) rfl (Nat.le_of_ble_eq_true rfl) ?_
  intro xp xe xs xm xb xt xc xA E hr hlocks hnm
  obtain ⟨-, -, -, hown, hts, hK, hA⟩ := id E
  refine x_lve (lv' := [(0, .ref m0)]) rfl ?_
  refine x_aload_n E 0 dX3_repaired_0 rfl ?_
  refine x_get E 0 8 dX3_repaired_1 ui_X3_repaired_X3 rfl rfl (by decide) fl_X3_repaired_92 rfl rfl ?_
  exact x_iret E hr hlocks dX3_repaired_4 ⟨rfl, rfl⟩
set_option maxRecDepth 100000 in
set_option maxHeartbeats 4000000 in
theorem c_X3_badAt (l : Launch) (D : va_G) (cB cI cZ cJ : ClassId) (m0 : Nat) (m1 : Nat) (a0 : Nat) (a1 : Nat) (b0 : Nat) (b1 : Nat) (t0 : Nat) (t1 : Nat) (t2 : Nat) (t3 : Nat) (t4 : Nat) (fc : Nat) (mv : Nat) (kn : Nat) (sh : Bool) (rp : Nat) (bad : Int32) (F : Nat → UInt8) (n : Nat) (g : Nat → UInt8) (n2 : Nat) (g2 : Nat → UInt8) (c : Nat) (S : Nat → Nat) (Ln : Nat → Nat) (Z : Nat → Bool) (K : Nat → UInt8)  : Ct l D vwCl (tyl cB cI cZ cJ) yX3_badAt wsX3_badAt rmX3_badAt [.ref m0] [(m0, .inr (3, [.ref a0, .ref b0, .ref t0, .ref m1, .int (nI fc), .int (nI mv), .int (nI kn), .int (if sh = true then 1 else 0), .int (nI rp), .int bad])), (m1, .inl (cB, 64, .inl (bf F))), (a0, .inr (1, [.ref a1, .int (nI n)])), (a1, .inl (cB, 8192, .inl (bf g))), (b0, .inr (1, [.ref b1, .int (nI n2)])), (b1, .inl (cB, 8192, .inl (bf g2))), (t0, .inr (2, [.ref t1, .ref t2, .ref t3, .ref t4, .int (nI c)])), (t1, .inl (cI, 600, .inl (nf S))), (t2, .inl (cI, 600, .inl (nf Ln))), (t3, .inl (cZ, 600, .inl (zf Z))), (t4, .inl (cB, 38400, .inl (bf K)))] (some (.int bad)) [(m0, .inr (3, [.ref a0, .ref b0, .ref t0, .ref m1, .int (nI fc), .int (nI mv), .int (nI kn), .int (if sh = true then 1 else 0), .int (nI rp), .int bad])), (m1, .inl (cB, 64, .inl (bf F))), (a0, .inr (1, [.ref a1, .int (nI n)])), (a1, .inl (cB, 8192, .inl (bf g))), (b0, .inr (1, [.ref b1, .int (nI n2)])), (b1, .inl (cB, 8192, .inl (bf g2))), (t0, .inr (2, [.ref t1, .ref t2, .ref t3, .ref t4, .int (nI c)])), (t1, .inl (cI, 600, .inl (nf S))), (t2, .inl (cI, 600, .inl (nf Ln))), (t3, .inl (cZ, 600, .inl (zf Z))), (t4, .inl (cB, 38400, .inl (bf K)))] := by
  refine x_start (cc := cX3_badAt) (maxL := 1) (ret := (some .int)) (by decide) rfl (Nat.le_of_ble_eq_true rfl) ?_
  intro xp xe xs xm xb xt xc xA E hr hlocks hnm
  obtain ⟨-, -, -, hown, hts, hK, hA⟩ := id E
  refine x_lve (lv' := [(0, .ref m0)]) rfl ?_
  refine x_aload_n E 0 dX3_badAt_0 rfl ?_
  refine x_get E 0 9 dX3_badAt_1 ui_X3_badAt_X3 rfl rfl (by decide) fl_X3_badAt_30 rfl rfl ?_
  exact x_iret E hr hlocks dX3_badAt_4 ⟨rfl, rfl⟩
set_option maxRecDepth 100000 in
set_option maxHeartbeats 4000000 in
theorem c_X3_feed_no (l : Launch) (D : va_G) (cB cI cZ cJ : ClassId) (m0 : Nat) (m1 : Nat) (a0 : Nat) (a1 : Nat) (b0 : Nat) (b1 : Nat) (t0 : Nat) (t1 : Nat) (t2 : Nat) (t3 : Nat) (t4 : Nat) (fc : Nat) (mv : Nat) (kn : Nat) (sh : Bool) (rp : Nat) (bad : Int32) (F : Nat → UInt8) (n : Nat) (g : Nat → UInt8) (n2 : Nat) (g2 : Nat → UInt8) (c : Nat) (S : Nat → Nat) (Ln : Nat → Nat) (Z : Nat → Bool) (K : Nat → UInt8) (b : Int32) (hfc : fc ≤ 64) (hno : sh = true ∨ b < 0 ∨ nI 255 < b ∨ 64 ≤ fc) : Ct l D vwCl (tyl cB cI cZ cJ) yX3_feed wsX3_feed rmX3_feed [.ref m0, .int b] [(m0, .inr (3, [.ref a0, .ref b0, .ref t0, .ref m1, .int (nI fc), .int (nI mv), .int (nI kn), .int (if sh = true then 1 else 0), .int (nI rp), .int bad])), (m1, .inl (cB, 64, .inl (bf F))), (a0, .inr (1, [.ref a1, .int (nI n)])), (a1, .inl (cB, 8192, .inl (bf g))), (b0, .inr (1, [.ref b1, .int (nI n2)])), (b1, .inl (cB, 8192, .inl (bf g2))), (t0, .inr (2, [.ref t1, .ref t2, .ref t3, .ref t4, .int (nI c)])), (t1, .inl (cI, 600, .inl (nf S))), (t2, .inl (cI, 600, .inl (nf Ln))), (t3, .inl (cZ, 600, .inl (zf Z))), (t4, .inl (cB, 38400, .inl (bf K)))] (some (.int (nI 0))) [(m0, .inr (3, [.ref a0, .ref b0, .ref t0, .ref m1, .int (nI fc), .int (nI mv), .int (nI kn), .int (if sh = true then 1 else 0), .int (nI rp), .int bad])), (m1, .inl (cB, 64, .inl (bf F))), (a0, .inr (1, [.ref a1, .int (nI n)])), (a1, .inl (cB, 8192, .inl (bf g))), (b0, .inr (1, [.ref b1, .int (nI n2)])), (b1, .inl (cB, 8192, .inl (bf g2))), (t0, .inr (2, [.ref t1, .ref t2, .ref t3, .ref t4, .int (nI c)])), (t1, .inl (cI, 600, .inl (nf S))), (t2, .inl (cI, 600, .inl (nf Ln))), (t3, .inl (cZ, 600, .inl (zf Z))), (t4, .inl (cB, 38400, .inl (bf K)))] := by
  refine x_start (cc := cX3_feed) (maxL := 2) (ret := (some .boolean)) (by decide) rfl (Nat.le_of_ble_eq_true rfl) ?_
  intro xp xe xs xm xb xt xc xA E hr hlocks hnm
  obtain ⟨-, -, -, hown, hts, hK, hA⟩ := id E
  refine x_lve (lv' := [(0, .ref m0), (1, .int b)]) rfl ?_
  refine x_aload_n E 0 dX3_feed_0 rfl ?_
  refine x_get E 0 7 dX3_feed_1 ui_X3_feed_X3 rfl rfl (by decide) fl_X3_feed_34 rfl rfl ?_
  refine x_qif_ne E 37 dX3_feed_4 (by decide) (fun h4 => ?_) (fun h4 => ?_)
  · refine x_iconst E (v := nI 0) dX3_feed_37 (by decide) ?_
    exact x_zret E hr hlocks dX3_feed_38 rfl ⟨rfl, rfl⟩
  · refine x_iload_n E 1 dX3_feed_7 rfl ?_
    refine x_if_lt E 37 dX3_feed_8 (by decide) (fun h8 => ?_) (fun h8 => ?_)
    · refine x_iconst E (v := nI 0) dX3_feed_37 (by decide) ?_
      exact x_zret E hr hlocks dX3_feed_38 rfl ⟨rfl, rfl⟩
    · refine x_iload_n E 1 dX3_feed_11 rfl ?_
      refine x_sipush E (v := nI 255) dX3_feed_12 (by decide) ?_
      refine x_icmp_gt E 37 dX3_feed_15 (by decide) (fun h15 => ?_) (fun h15 => ?_)
      · refine x_iconst E (v := nI 0) dX3_feed_37 (by decide) ?_
        exact x_zret E hr hlocks dX3_feed_38 rfl ⟨rfl, rfl⟩
      · refine x_aload_n E 0 dX3_feed_18 rfl ?_
        refine x_get E 0 4 dX3_feed_19 ui_X3_feed_X3 rfl rfl (by decide) fl_X3_feed_38 rfl rfl ?_
        refine x_nif_lt E 37 dX3_feed_22 (by decide) (by omega) (fun h => absurd h (fun h => Nat.not_lt_zero _ h)) (fun h22 => ?_)
        refine x_aload_n E 0 dX3_feed_25 rfl ?_
        refine x_get E 0 4 dX3_feed_26 ui_X3_feed_X3 rfl rfl (by decide) fl_X3_feed_38 rfl rfl ?_
        refine x_aload_n E 0 dX3_feed_29 rfl ?_
        refine x_get E 0 3 dX3_feed_30 ui_X3_feed_X3 rfl rfl (by decide) fl_X3_feed_26 rfl rfl ?_
        refine x_alen E 1 0 64 dX3_feed_33 rfl rfl rfl ?_
        refine x_ncmp_lt E 39 dX3_feed_34 (by decide) (by omega) (by decide) (fun h => False.elim (by rcases hno with q | q | q | q; exact absurd (h4.symm.trans q) (by decide); exact h8 q; exact h15 q; omega)) (fun h34 => ?_)
        refine x_iconst E (v := nI 0) dX3_feed_37 (by decide) ?_
        exact x_zret E hr hlocks dX3_feed_38 rfl ⟨rfl, rfl⟩
set_option maxRecDepth 100000 in
set_option maxHeartbeats 4000000 in
theorem c_X3_feed_ok (l : Launch) (D : va_G) (cB cI cZ cJ : ClassId) (m0 : Nat) (m1 : Nat) (a0 : Nat) (a1 : Nat) (b0 : Nat) (b1 : Nat) (t0 : Nat) (t1 : Nat) (t2 : Nat) (t3 : Nat) (t4 : Nat) (fc : Nat) (mv : Nat) (kn : Nat) (sh : Bool) (rp : Nat) (bad : Int32) (F : Nat → UInt8) (n : Nat) (g : Nat → UInt8) (n2 : Nat) (g2 : Nat → UInt8) (c : Nat) (S : Nat → Nat) (Ln : Nat → Nat) (Z : Nat → Bool) (K : Nat → UInt8) (b : Nat) (hb : b ≤ 255) (hfc : fc < 64) : Ct l D vwCl (tyl cB cI cZ cJ) yX3_feed wsX3_feed rmX3_feed [.ref m0, .int (nI b)] [(m0, .inr (3, [.ref a0, .ref b0, .ref t0, .ref m1, .int (nI fc), .int (nI mv), .int (nI kn), .int (if false = true then 1 else 0), .int (nI rp), .int bad])), (m1, .inl (cB, 64, .inl (bf F))), (a0, .inr (1, [.ref a1, .int (nI n)])), (a1, .inl (cB, 8192, .inl (bf g))), (b0, .inr (1, [.ref b1, .int (nI n2)])), (b1, .inl (cB, 8192, .inl (bf g2))), (t0, .inr (2, [.ref t1, .ref t2, .ref t3, .ref t4, .int (nI c)])), (t1, .inl (cI, 600, .inl (nf S))), (t2, .inl (cI, 600, .inl (nf Ln))), (t3, .inl (cZ, 600, .inl (zf Z))), (t4, .inl (cB, 38400, .inl (bf K)))] (some (.int (nI 1))) [(m0, .inr (3, [.ref a0, .ref b0, .ref t0, .ref m1, .int (nI (fc + 1)), .int (nI mv), .int (nI kn), .int (if false = true then 1 else 0), .int (nI rp), .int bad])), (m1, .inl (cB, 64, .inl (bf (va_up F fc (u8 (nI b)))))), (a0, .inr (1, [.ref a1, .int (nI n)])), (a1, .inl (cB, 8192, .inl (bf g))), (b0, .inr (1, [.ref b1, .int (nI n2)])), (b1, .inl (cB, 8192, .inl (bf g2))), (t0, .inr (2, [.ref t1, .ref t2, .ref t3, .ref t4, .int (nI c)])), (t1, .inl (cI, 600, .inl (nf S))), (t2, .inl (cI, 600, .inl (nf Ln))), (t3, .inl (cZ, 600, .inl (zf Z))), (t4, .inl (cB, 38400, .inl (bf K)))] := by
  refine x_start (cc := cX3_feed) (maxL := 2) (ret := (some .boolean)) (by decide) rfl (Nat.le_of_ble_eq_true rfl) ?_
  intro xp xe xs xm xb xt xc xA E hr hlocks hnm
  obtain ⟨-, -, -, hown, hts, hK, hA⟩ := id E
  refine x_lve (lv' := [(0, .ref m0), (1, .int (nI b))]) rfl ?_
  refine x_aload_n E 0 dX3_feed_0 rfl ?_
  refine x_get E 0 7 dX3_feed_1 ui_X3_feed_X3 rfl rfl (by decide) fl_X3_feed_34 rfl rfl ?_
  refine x_qif_ne E 37 dX3_feed_4 (by decide) (fun h => False.elim (by cases h)) (fun h4 => ?_)
  refine x_iload_n E 1 dX3_feed_7 rfl ?_
  refine x_nif_lt E 37 dX3_feed_8 (by decide) (by omega) (fun h => absurd h (fun h => Nat.not_lt_zero _ h)) (fun h8 => ?_)
  refine x_iload_n E 1 dX3_feed_11 rfl ?_
  refine x_sipush E (v := nI 255) dX3_feed_12 (by decide) ?_
  refine x_ncmp_gt E 37 dX3_feed_15 (by decide) (by omega) (by decide) (fun h => False.elim (by omega)) (fun h15 => ?_)
  refine x_aload_n E 0 dX3_feed_18 rfl ?_
  refine x_get E 0 4 dX3_feed_19 ui_X3_feed_X3 rfl rfl (by decide) fl_X3_feed_38 rfl rfl ?_
  refine x_nif_lt E 37 dX3_feed_22 (by decide) (by omega) (fun h => absurd h (fun h => Nat.not_lt_zero _ h)) (fun h22 => ?_)
  refine x_aload_n E 0 dX3_feed_25 rfl ?_
  refine x_get E 0 4 dX3_feed_26 ui_X3_feed_X3 rfl rfl (by decide) fl_X3_feed_38 rfl rfl ?_
  refine x_aload_n E 0 dX3_feed_29 rfl ?_
  refine x_get E 0 3 dX3_feed_30 ui_X3_feed_X3 rfl rfl (by decide) fl_X3_feed_26 rfl rfl ?_
  refine x_alen E 1 0 64 dX3_feed_33 rfl rfl rfl ?_
  refine x_ncmp_lt E 39 dX3_feed_34 (by decide) (by omega) (by decide) (fun h34 => ?_) (fun h => False.elim (by omega))
  refine x_aload_n E 0 dX3_feed_39 rfl ?_
  refine x_get E 0 3 dX3_feed_40 ui_X3_feed_X3 rfl rfl (by decide) fl_X3_feed_26 rfl rfl ?_
  refine x_aload_n E 0 dX3_feed_43 rfl ?_
  refine x_get E 0 4 dX3_feed_44 ui_X3_feed_X3 rfl rfl (by decide) fl_X3_feed_38 rfl rfl ?_
  refine x_iload_n E 1 dX3_feed_47 rfl ?_
  refine x_i2b E dX3_feed_48 ?_
  refine x_bast E 1 0 [(m0, .inr (3, [.ref a0, .ref b0, .ref t0, .ref m1, .int (nI fc), .int (nI mv), .int (nI kn), .int (if false = true then 1 else 0), .int (nI rp), .int bad])), (m1, .inl (cB, 64, .inl (bf (va_up F fc (u8 (nI b)))))), (a0, .inr (1, [.ref a1, .int (nI n)])), (a1, .inl (cB, 8192, .inl (bf g))), (b0, .inr (1, [.ref b1, .int (nI n2)])), (b1, .inl (cB, 8192, .inl (bf g2))), (t0, .inr (2, [.ref t1, .ref t2, .ref t3, .ref t4, .int (nI c)])), (t1, .inl (cI, 600, .inl (nf S))), (t2, .inl (cI, 600, .inl (nf Ln))), (t3, .inl (cZ, 600, .inl (zf Z))), (t4, .inl (cB, 38400, .inl (bf K)))] dX3_feed_49 rfl rfl (by omega) (by decide) (u8_b8 _) rfl ?_
  refine x_aload_n E 0 dX3_feed_50 rfl ?_
  refine x_dup E dX3_feed_51 rfl ?_
  refine x_get E 0 4 dX3_feed_52 ui_X3_feed_X3 rfl rfl (by decide) fl_X3_feed_38 rfl rfl ?_
  refine x_iconst E (v := nI 1) dX3_feed_55 (by decide) ?_
  refine x_niadd E dX3_feed_56 ?_
  refine x_put E 0 4 [(m0, .inr (3, [.ref a0, .ref b0, .ref t0, .ref m1, .int (nI (fc + 1)), .int (nI mv), .int (nI kn), .int (if false = true then 1 else 0), .int (nI rp), .int bad])), (m1, .inl (cB, 64, .inl (bf (va_up F fc (u8 (nI b)))))), (a0, .inr (1, [.ref a1, .int (nI n)])), (a1, .inl (cB, 8192, .inl (bf g))), (b0, .inr (1, [.ref b1, .int (nI n2)])), (b1, .inl (cB, 8192, .inl (bf g2))), (t0, .inr (2, [.ref t1, .ref t2, .ref t3, .ref t4, .int (nI c)])), (t1, .inl (cI, 600, .inl (nf S))), (t2, .inl (cI, 600, .inl (nf Ln))), (t3, .inl (cZ, 600, .inl (zf Z))), (t4, .inl (cB, 38400, .inl (bf K)))] dX3_feed_57 ui_X3_feed_X3 tyX3_ok nmX3 rfl rfl (by decide) fl_X3_feed_38 rfl rfl rfl rfl (Nat.le_of_ble_eq_true rfl) rfl ?_
  refine x_iconst E (v := nI 1) dX3_feed_60 (by decide) ?_
  exact x_zret E hr hlocks dX3_feed_61 rfl ⟨rfl, rfl⟩
set_option maxRecDepth 100000 in
set_option maxHeartbeats 4000000 in
theorem c_X3_row_none (l : Launch) (D : va_G) (cB cI cZ cJ : ClassId) (m0 : Nat) (m1 : Nat) (a0 : Nat) (a1 : Nat) (b0 : Nat) (b1 : Nat) (t0 : Nat) (t1 : Nat) (t2 : Nat) (t3 : Nat) (t4 : Nat) (fc : Nat) (mv : Nat) (kn : Nat) (sh : Bool) (rp : Nat) (bad : Int32) (F : Nat → UInt8) (n : Nat) (g : Nat → UInt8) (n2 : Nat) (g2 : Nat → UInt8) (c : Nat) (S : Nat → Nat) (Ln : Nat → Nat) (Z : Nat → Bool) (K : Nat → UInt8) (x : Int32) (hfc : fc ≤ 64) (hc : c ≤ 600) (hno : sh = true ∨ fc = 0 ∨ nI 1000000000 < x ∨ ¬ nI (lastS c S) ≤ x) : Ct l D vwCl (tyl cB cI cZ cJ) yX3_row wsX3_row rmX3_row [.ref m0, .int x] [(m0, .inr (3, [.ref a0, .ref b0, .ref t0, .ref m1, .int (nI fc), .int (nI mv), .int (nI kn), .int (if sh = true then 1 else 0), .int (nI rp), .int bad])), (m1, .inl (cB, 64, .inl (bf F))), (a0, .inr (1, [.ref a1, .int (nI n)])), (a1, .inl (cB, 8192, .inl (bf g))), (b0, .inr (1, [.ref b1, .int (nI n2)])), (b1, .inl (cB, 8192, .inl (bf g2))), (t0, .inr (2, [.ref t1, .ref t2, .ref t3, .ref t4, .int (nI c)])), (t1, .inl (cI, 600, .inl (nf S))), (t2, .inl (cI, 600, .inl (nf Ln))), (t3, .inl (cZ, 600, .inl (zf Z))), (t4, .inl (cB, 38400, .inl (bf K)))] (some (.int (-1))) [(m0, .inr (3, [.ref a0, .ref b0, .ref t0, .ref m1, .int (nI fc), .int (nI mv), .int (nI kn), .int (if sh = true then 1 else 0), .int (nI rp), .int bad])), (m1, .inl (cB, 64, .inl (bf F))), (a0, .inr (1, [.ref a1, .int (nI n)])), (a1, .inl (cB, 8192, .inl (bf g))), (b0, .inr (1, [.ref b1, .int (nI n2)])), (b1, .inl (cB, 8192, .inl (bf g2))), (t0, .inr (2, [.ref t1, .ref t2, .ref t3, .ref t4, .int (nI c)])), (t1, .inl (cI, 600, .inl (nf S))), (t2, .inl (cI, 600, .inl (nf Ln))), (t3, .inl (cZ, 600, .inl (zf Z))), (t4, .inl (cB, 38400, .inl (bf K)))] := by
  refine x_start (cc := cX3_row) (maxL := 4) (ret := (some .int)) (by decide) rfl (Nat.le_of_ble_eq_true rfl) ?_
  intro xp xe xs xm xb xt xc xA E hr hlocks hnm
  obtain ⟨-, -, -, hown, hts, hK, hA⟩ := id E
  refine x_lve (lv' := [(0, .ref m0), (1, .int x)]) rfl ?_
  refine x_aload_n E 0 dX3_row_0 rfl ?_
  refine x_get E 0 7 dX3_row_1 ui_X3_row_X3 rfl rfl (by decide) fl_X3_row_34 rfl rfl ?_
  refine x_qif_ne E 31 dX3_row_4 (by decide) (fun h4 => ?_) (fun h4 => ?_)
  · refine x_iconst E (v := (-1)) dX3_row_31 (by decide) ?_
    exact x_iret E hr hlocks dX3_row_32 ⟨rfl, rfl⟩
  · refine x_aload_n E 0 dX3_row_7 rfl ?_
    refine x_get E 0 4 dX3_row_8 ui_X3_row_X3 rfl rfl (by decide) fl_X3_row_38 rfl rfl ?_
    refine x_nif_eq E 31 dX3_row_11 (by decide) (by omega) (fun h11 => ?_) (fun h11 => ?_)
    · refine x_iconst E (v := (-1)) dX3_row_31 (by decide) ?_
      exact x_iret E hr hlocks dX3_row_32 ⟨rfl, rfl⟩
    · refine x_iload_n E 1 dX3_row_14 rfl ?_
      refine x_ldc E (v := nI 1000000000) dX3_row_15 cn_X3_row_41 (by decide +kernel) ?_
      refine x_icmp_gt E 31 dX3_row_17 (by decide) (fun h17 => ?_) (fun h17 => ?_)
      · refine x_iconst E (v := (-1)) dX3_row_31 (by decide) ?_
        exact x_iret E hr hlocks dX3_row_32 ⟨rfl, rfl⟩
      · refine x_iload_n E 1 dX3_row_20 rfl ?_
        refine x_aload_n E 0 dX3_row_21 rfl ?_
        refine x_get E 0 2 dX3_row_22 ui_X3_row_X3 rfl rfl (by decide) fl_X3_row_22 rfl rfl ?_
        refine x_cV E [] [.int x] [.int (nI (lastS c S)), .int x] [(m0, .inr (3, [.ref a0, .ref b0, .ref t0, .ref m1, .int (nI fc), .int (nI mv), .int (nI kn), .int (if sh = true then 1 else 0), .int (nI rp), .int bad])), (m1, .inl (cB, 64, .inl (bf F))), (a0, .inr (1, [.ref a1, .int (nI n)])), (a1, .inl (cB, 8192, .inl (bf g))), (b0, .inr (1, [.ref b1, .int (nI n2)])), (b1, .inl (cB, 8192, .inl (bf g2))), (t0, .inr (2, [.ref t1, .ref t2, .ref t3, .ref t4, .int (nI c)])), (t1, .inl (cI, 600, .inl (nf S))), (t2, .inl (cI, 600, .inl (nf Ln))), (t3, .inl (cZ, 600, .inl (zf Z))), (t4, .inl (cB, 38400, .inl (bf K)))] (c_X2_lastSecond l D cB cI cZ cJ t0 t1 t2 t3 t4 c S Ln Z K (by omega)) 0 rfl rfl (cwV 0 hts gX3_row_X2_lastSecond rfl rfl rfl (by decide +kernel) ⟨Nat.le_of_ble_eq_true rfl, Nat.le_of_ble_eq_true rfl⟩) [6, 7, 8, 9, 10] [0, 1, 2, 3, 4, 5] rfl rfl (by decide) (by decide) (by decide) [0, 1, 2, 3, 4, 5, 6, 7, 8, 9, 10] (by decide) rfl rfl (Nat.le_of_ble_eq_true rfl) dX3_row_25 ⟨Nat.zero_le _, Nat.zero_le _⟩ rfl rfl ?_
        refine x_icmp_ge E 33 dX3_row_28 (by decide) (fun h => False.elim (by rcases hno with q | q | q | q; exact absurd (h4.symm.trans q) (by decide); exact h11 q; exact h17 q; exact q h)) (fun h28 => ?_)
        refine x_iconst E (v := (-1)) dX3_row_31 (by decide) ?_
        exact x_iret E hr hlocks dX3_row_32 ⟨rfl, rfl⟩
set_option maxRecDepth 100000 in
set_option maxHeartbeats 4000000 in
theorem c_X3_row_full (l : Launch) (D : va_G) (cB cI cZ cJ : ClassId) (m0 : Nat) (m1 : Nat) (a0 : Nat) (a1 : Nat) (b0 : Nat) (b1 : Nat) (t0 : Nat) (t1 : Nat) (t2 : Nat) (t3 : Nat) (t4 : Nat) (fc : Nat) (mv : Nat) (kn : Nat) (sh : Bool) (rp : Nat) (bad : Int32) (F : Nat → UInt8) (n : Nat) (g : Nat → UInt8) (n2 : Nat) (g2 : Nat → UInt8) (c : Nat) (S : Nat → Nat) (Ln : Nat → Nat) (Z : Nat → Bool) (K : Nat → UInt8) (s0 : Nat) (hc : c ≤ 600) (hkn : kn ≤ c) (hfc : 0 < fc) (hf2 : fc ≤ 64) (hs1 : lastS c S ≤ s0) (hs2 : s0 ≤ 1000000000) (hfu : 16 ≤ c - kn ∨ 600 ≤ c) : Ct l D vwCl (tyl cB cI cZ cJ) yX3_row wsX3_row rmX3_row [.ref m0, .int (nI s0)] [(m0, .inr (3, [.ref a0, .ref b0, .ref t0, .ref m1, .int (nI fc), .int (nI mv), .int (nI kn), .int (if false = true then 1 else 0), .int (nI rp), .int bad])), (m1, .inl (cB, 64, .inl (bf F))), (a0, .inr (1, [.ref a1, .int (nI n)])), (a1, .inl (cB, 8192, .inl (bf g))), (b0, .inr (1, [.ref b1, .int (nI n2)])), (b1, .inl (cB, 8192, .inl (bf g2))), (t0, .inr (2, [.ref t1, .ref t2, .ref t3, .ref t4, .int (nI c)])), (t1, .inl (cI, 600, .inl (nf S))), (t2, .inl (cI, 600, .inl (nf Ln))), (t3, .inl (cZ, 600, .inl (zf Z))), (t4, .inl (cB, 38400, .inl (bf K)))] (some (.int (-2))) [(m0, .inr (3, [.ref a0, .ref b0, .ref t0, .ref m1, .int (nI fc), .int (nI mv), .int (nI kn), .int (if false = true then 1 else 0), .int (nI rp), .int bad])), (m1, .inl (cB, 64, .inl (bf F))), (a0, .inr (1, [.ref a1, .int (nI n)])), (a1, .inl (cB, 8192, .inl (bf g))), (b0, .inr (1, [.ref b1, .int (nI n2)])), (b1, .inl (cB, 8192, .inl (bf g2))), (t0, .inr (2, [.ref t1, .ref t2, .ref t3, .ref t4, .int (nI c)])), (t1, .inl (cI, 600, .inl (nf S))), (t2, .inl (cI, 600, .inl (nf Ln))), (t3, .inl (cZ, 600, .inl (zf Z))), (t4, .inl (cB, 38400, .inl (bf K)))] := by
  refine x_start (cc := cX3_row) (maxL := 4) (ret := (some .int)) (by decide) rfl (Nat.le_of_ble_eq_true rfl) ?_
  intro xp xe xs xm xb xt xc xA E hr hlocks hnm
  obtain ⟨-, -, -, hown, hts, hK, hA⟩ := id E
  refine x_lve (lv' := [(0, .ref m0), (1, .int (nI s0))]) rfl ?_
  refine x_aload_n E 0 dX3_row_0 rfl ?_
  refine x_get E 0 7 dX3_row_1 ui_X3_row_X3 rfl rfl (by decide) fl_X3_row_34 rfl rfl ?_
  refine x_qif_ne E 31 dX3_row_4 (by decide) (fun h => False.elim (by cases h)) (fun h4 => ?_)
  refine x_aload_n E 0 dX3_row_7 rfl ?_
  refine x_get E 0 4 dX3_row_8 ui_X3_row_X3 rfl rfl (by decide) fl_X3_row_38 rfl rfl ?_
  refine x_nif_eq E 31 dX3_row_11 (by decide) (by omega) (fun h => False.elim (by omega)) (fun h11 => ?_)
  refine x_iload_n E 1 dX3_row_14 rfl ?_
  refine x_ldc E (v := nI 1000000000) dX3_row_15 cn_X3_row_41 (by decide +kernel) ?_
  refine x_ncmp_gt E 31 dX3_row_17 (by decide) (by omega) (by decide) (fun h => False.elim (by omega)) (fun h17 => ?_)
  refine x_iload_n E 1 dX3_row_20 rfl ?_
  refine x_aload_n E 0 dX3_row_21 rfl ?_
  refine x_get E 0 2 dX3_row_22 ui_X3_row_X3 rfl rfl (by decide) fl_X3_row_22 rfl rfl ?_
  refine x_cV E [] [.int (nI s0)] [.int (nI (lastS c S)), .int (nI s0)] [(m0, .inr (3, [.ref a0, .ref b0, .ref t0, .ref m1, .int (nI fc), .int (nI mv), .int (nI kn), .int (if false = true then 1 else 0), .int (nI rp), .int bad])), (m1, .inl (cB, 64, .inl (bf F))), (a0, .inr (1, [.ref a1, .int (nI n)])), (a1, .inl (cB, 8192, .inl (bf g))), (b0, .inr (1, [.ref b1, .int (nI n2)])), (b1, .inl (cB, 8192, .inl (bf g2))), (t0, .inr (2, [.ref t1, .ref t2, .ref t3, .ref t4, .int (nI c)])), (t1, .inl (cI, 600, .inl (nf S))), (t2, .inl (cI, 600, .inl (nf Ln))), (t3, .inl (cZ, 600, .inl (zf Z))), (t4, .inl (cB, 38400, .inl (bf K)))] (c_X2_lastSecond l D cB cI cZ cJ t0 t1 t2 t3 t4 c S Ln Z K (by omega)) 0 rfl rfl (cwV 0 hts gX3_row_X2_lastSecond rfl rfl rfl (by decide +kernel) ⟨Nat.le_of_ble_eq_true rfl, Nat.le_of_ble_eq_true rfl⟩) [6, 7, 8, 9, 10] [0, 1, 2, 3, 4, 5] rfl rfl (by decide) (by decide) (by decide) [0, 1, 2, 3, 4, 5, 6, 7, 8, 9, 10] (by decide) rfl rfl (Nat.le_of_ble_eq_true rfl) dX3_row_25 ⟨Nat.zero_le _, Nat.zero_le _⟩ rfl rfl ?_
  refine x_ncmp_ge E 33 dX3_row_28 (by decide) (by omega) (by omega) (fun h28 => ?_) (fun h => False.elim (by omega))
  refine x_aload_n E 0 dX3_row_33 rfl ?_
  refine x_get E 0 2 dX3_row_34 ui_X3_row_X3 rfl rfl (by decide) fl_X3_row_22 rfl rfl ?_
  refine x_cV E [] [] [.int (nI c)] [(m0, .inr (3, [.ref a0, .ref b0, .ref t0, .ref m1, .int (nI fc), .int (nI mv), .int (nI kn), .int (if false = true then 1 else 0), .int (nI rp), .int bad])), (m1, .inl (cB, 64, .inl (bf F))), (a0, .inr (1, [.ref a1, .int (nI n)])), (a1, .inl (cB, 8192, .inl (bf g))), (b0, .inr (1, [.ref b1, .int (nI n2)])), (b1, .inl (cB, 8192, .inl (bf g2))), (t0, .inr (2, [.ref t1, .ref t2, .ref t3, .ref t4, .int (nI c)])), (t1, .inl (cI, 600, .inl (nf S))), (t2, .inl (cI, 600, .inl (nf Ln))), (t3, .inl (cZ, 600, .inl (zf Z))), (t4, .inl (cB, 38400, .inl (bf K)))] (c_X2_count l D cB cI cZ cJ t0 t1 t2 t3 t4 c S Ln Z K ) 0 rfl rfl (cwV 0 hts gX3_row_X2_count rfl rfl rfl (by decide +kernel) ⟨Nat.le_of_ble_eq_true rfl, Nat.le_of_ble_eq_true rfl⟩) [6, 7, 8, 9, 10] [0, 1, 2, 3, 4, 5] rfl rfl (by decide) (by decide) (by decide) [0, 1, 2, 3, 4, 5, 6, 7, 8, 9, 10] (by decide) rfl rfl (Nat.le_of_ble_eq_true rfl) dX3_row_37 ⟨Nat.zero_le _, Nat.zero_le _⟩ rfl rfl ?_
  refine x_aload_n E 0 dX3_row_40 rfl ?_
  refine x_get E 0 6 dX3_row_41 ui_X3_row_X3 rfl rfl (by decide) fl_X3_row_49 rfl rfl ?_
  refine x_nisub E dX3_row_44 (by omega) ?_
  refine x_istore_n E [(2, .int (nI (c - kn))), (0, .ref m0), (1, .int (nI s0))] dX3_row_45 (by decide) rfl ?_
  refine x_iload_n E 0 dX3_row_46 rfl ?_
  refine x_bipush E (v := nI 16) dX3_row_47 (by decide) ?_
  refine x_ncmp_ge E 65 dX3_row_49 (by decide) (by omega) (by decide) (fun h49 => ?_) (fun h49 => ?_)
  · refine x_bipush E (v := (-2)) dX3_row_65 (by decide) ?_
    exact x_iret E hr hlocks dX3_row_67 ⟨rfl, rfl⟩
  · refine x_aload_n E 1 dX3_row_52 rfl ?_
    refine x_get E 0 2 dX3_row_53 ui_X3_row_X3 rfl rfl (by decide) fl_X3_row_22 rfl rfl ?_
    refine x_cV E [] [] [.int (nI c)] [(m0, .inr (3, [.ref a0, .ref b0, .ref t0, .ref m1, .int (nI fc), .int (nI mv), .int (nI kn), .int (if false = true then 1 else 0), .int (nI rp), .int bad])), (m1, .inl (cB, 64, .inl (bf F))), (a0, .inr (1, [.ref a1, .int (nI n)])), (a1, .inl (cB, 8192, .inl (bf g))), (b0, .inr (1, [.ref b1, .int (nI n2)])), (b1, .inl (cB, 8192, .inl (bf g2))), (t0, .inr (2, [.ref t1, .ref t2, .ref t3, .ref t4, .int (nI c)])), (t1, .inl (cI, 600, .inl (nf S))), (t2, .inl (cI, 600, .inl (nf Ln))), (t3, .inl (cZ, 600, .inl (zf Z))), (t4, .inl (cB, 38400, .inl (bf K)))] (c_X2_count l D cB cI cZ cJ t0 t1 t2 t3 t4 c S Ln Z K ) 0 rfl rfl (cwV 0 hts gX3_row_X2_count rfl rfl rfl (by decide +kernel) ⟨Nat.le_of_ble_eq_true rfl, Nat.le_of_ble_eq_true rfl⟩) [6, 7, 8, 9, 10] [0, 1, 2, 3, 4, 5] rfl rfl (by decide) (by decide) (by decide) [0, 1, 2, 3, 4, 5, 6, 7, 8, 9, 10] (by decide) rfl rfl (Nat.le_of_ble_eq_true rfl) dX3_row_56 ⟨Nat.zero_le _, Nat.zero_le _⟩ rfl rfl ?_
    refine x_sipush E (v := nI 600) dX3_row_59 (by decide) ?_
    refine x_ncmp_lt E 68 dX3_row_62 (by decide) (by omega) (by decide) (fun h => False.elim (by omega)) (fun h62 => ?_)
    refine x_bipush E (v := (-2)) dX3_row_65 (by decide) ?_
    exact x_iret E hr hlocks dX3_row_67 ⟨rfl, rfl⟩
set_option maxRecDepth 100000 in
set_option maxHeartbeats 4000000 in
theorem c_X3_row_ok (l : Launch) (D : va_G) (cB cI cZ cJ : ClassId) (m0 : Nat) (m1 : Nat) (a0 : Nat) (a1 : Nat) (b0 : Nat) (b1 : Nat) (t0 : Nat) (t1 : Nat) (t2 : Nat) (t3 : Nat) (t4 : Nat) (fc : Nat) (mv : Nat) (kn : Nat) (sh : Bool) (rp : Nat) (bad : Int32) (F : Nat → UInt8) (n : Nat) (g : Nat → UInt8) (n2 : Nat) (g2 : Nat → UInt8) (c : Nat) (S : Nat → Nat) (Ln : Nat → Nat) (Z : Nat → Bool) (K : Nat → UInt8) (s0 : Nat) (hkn : kn ≤ c) (hfc : 0 < fc) (hf2 : fc ≤ 64) (hs1 : lastS c S ≤ s0) (hs2 : s0 ≤ 1000000000) (h16 : c - kn < 16) (hc : c < 600) : Ct l D vwCl (tyl cB cI cZ cJ) yX3_row wsX3_row rmX3_row [.ref m0, .int (nI s0)] [(m0, .inr (3, [.ref a0, .ref b0, .ref t0, .ref m1, .int (nI fc), .int (nI mv), .int (nI kn), .int (if false = true then 1 else 0), .int (nI rp), .int bad])), (m1, .inl (cB, 64, .inl (bf F))), (a0, .inr (1, [.ref a1, .int (nI n)])), (a1, .inl (cB, 8192, .inl (bf g))), (b0, .inr (1, [.ref b1, .int (nI n2)])), (b1, .inl (cB, 8192, .inl (bf g2))), (t0, .inr (2, [.ref t1, .ref t2, .ref t3, .ref t4, .int (nI c)])), (t1, .inl (cI, 600, .inl (nf S))), (t2, .inl (cI, 600, .inl (nf Ln))), (t3, .inl (cZ, 600, .inl (zf Z))), (t4, .inl (cB, 38400, .inl (bf K)))] (some (.int (nI (c - kn)))) [(m0, .inr (3, [.ref a0, .ref b0, .ref t0, .ref m1, .int (nI 0), .int (nI mv), .int (nI kn), .int (if false = true then 1 else 0), .int (nI rp), .int bad])), (m1, .inl (cB, 64, .inl (bf F))), (a0, .inr (1, [.ref a1, .int (nI n)])), (a1, .inl (cB, 8192, .inl (bf g))), (b0, .inr (1, [.ref b1, .int (nI n2)])), (b1, .inl (cB, 8192, .inl (bf g2))), (t0, .inr (2, [.ref t1, .ref t2, .ref t3, .ref t4, .int (nI (c + 1))])), (t1, .inl (cI, 600, .inl (nf (va_up S c s0)))), (t2, .inl (cI, 600, .inl (nf (va_up Ln c fc)))), (t3, .inl (cZ, 600, .inl (zf (va_up Z c false)))), (t4, .inl (cB, 38400, .inl (bf (app K (c * 64) (conL F 0 fc)))))] := by
  refine x_start (cc := cX3_row) (maxL := 4) (ret := (some .int)) (by decide) rfl (Nat.le_of_ble_eq_true rfl) ?_
  intro xp xe xs xm xb xt xc xA E hr hlocks hnm
  obtain ⟨-, -, -, hown, hts, hK, hA⟩ := id E
  refine x_lve (lv' := [(0, .ref m0), (1, .int (nI s0))]) rfl ?_
  have loop : ∀ (j i : Nat) (K2 : Nat → UInt8), i + j = fc → app K2 (c * 64 + i) (conL F i j) = app K (c * 64) (conL F 0 fc) → Xs xp l xe rmX3_row xs xm ([.ref m0, .int (nI s0)] : List Value).toArray xb xt xc D vwCl xA 4 0 0 (MQ xb (CQ D vwCl (tyl cB cI cZ cJ) xA (fun r u => r = (some (.int (nI (c - kn)))) ∧ u = [(m0, .inr (3, [.ref a0, .ref b0, .ref t0, .ref m1, .int (nI 0), .int (nI mv), .int (nI kn), .int (if false = true then 1 else 0), .int (nI rp), .int bad])), (m1, .inl (cB, 64, .inl (bf F))), (a0, .inr (1, [.ref a1, .int (nI n)])), (a1, .inl (cB, 8192, .inl (bf g))), (b0, .inr (1, [.ref b1, .int (nI n2)])), (b1, .inl (cB, 8192, .inl (bf g2))), (t0, .inr (2, [.ref t1, .ref t2, .ref t3, .ref t4, .int (nI (c + 1))])), (t1, .inl (cI, 600, .inl (nf (va_up S c s0)))), (t2, .inl (cI, 600, .inl (nf (va_up Ln c fc)))), (t3, .inl (cZ, 600, .inl (zf (va_up Z c false)))), (t4, .inl (cB, 38400, .inl (bf (app K (c * 64) (conL F 0 fc)))))])) ([.ref m0, .int (nI s0)] : List Value).toArray xs 0 0 xA) [(m0, .inr (3, [.ref a0, .ref b0, .ref t0, .ref m1, .int (nI fc), .int (nI mv), .int (nI kn), .int (if false = true then 1 else 0), .int (nI rp), .int bad])), (m1, .inl (cB, 64, .inl (bf F))), (a0, .inr (1, [.ref a1, .int (nI n)])), (a1, .inl (cB, 8192, .inl (bf g))), (b0, .inr (1, [.ref b1, .int (nI n2)])), (b1, .inl (cB, 8192, .inl (bf g2))), (t0, .inr (2, [.ref t1, .ref t2, .ref t3, .ref t4, .int (nI (c + 1))])), (t1, .inl (cI, 600, .inl (nf (va_up S c s0)))), (t2, .inl (cI, 600, .inl (nf (va_up Ln c i)))), (t3, .inl (cZ, 600, .inl (zf (va_up Z c false)))), (t4, .inl (cB, 38400, .inl (bf K2)))] [(3, .int (nI i)), (2, .int (nI (c - kn))), (0, .ref m0), (1, .int (nI s0))] 78 [] := by
    intro j
    induction j with
    | zero =>
      intro i K2 e1 e2
      have e2 : K2 = app K (c * 64) (conL F 0 fc) := e2
      have e1 : i = fc := e1
      subst e1
      subst e2
      refine x_iload_n E 0 dX3_row_78 rfl ?_
      refine x_aload_n E 2 dX3_row_79 rfl ?_
      refine x_get E 0 4 dX3_row_80 ui_X3_row_X3 rfl rfl (by decide) fl_X3_row_38 rfl rfl ?_
      refine x_ncmp_ge E 114 dX3_row_83 (by decide) (by omega) (by omega) (fun h83 => ?_) (fun h => False.elim (by omega))
      refine x_aload_n E 2 dX3_row_114 rfl ?_
      refine x_iconst E (v := nI 0) dX3_row_115 (by decide) ?_
      refine x_put E 0 4 [(m0, .inr (3, [.ref a0, .ref b0, .ref t0, .ref m1, .int (nI 0), .int (nI mv), .int (nI kn), .int (if false = true then 1 else 0), .int (nI rp), .int bad])), (m1, .inl (cB, 64, .inl (bf F))), (a0, .inr (1, [.ref a1, .int (nI n)])), (a1, .inl (cB, 8192, .inl (bf g))), (b0, .inr (1, [.ref b1, .int (nI n2)])), (b1, .inl (cB, 8192, .inl (bf g2))), (t0, .inr (2, [.ref t1, .ref t2, .ref t3, .ref t4, .int (nI (c + 1))])), (t1, .inl (cI, 600, .inl (nf (va_up S c s0)))), (t2, .inl (cI, 600, .inl (nf (va_up Ln c i)))), (t3, .inl (cZ, 600, .inl (zf (va_up Z c false)))), (t4, .inl (cB, 38400, .inl (bf (app K (c * 64) (conL F 0 i)))))] dX3_row_116 ui_X3_row_X3 tyX3_ok nmX3 rfl rfl (by decide) fl_X3_row_38 rfl rfl rfl rfl (Nat.le_of_ble_eq_true rfl) rfl ?_
      refine x_iload_n E 1 dX3_row_119 rfl ?_
      exact x_iret E hr hlocks dX3_row_120 ⟨rfl, rfl⟩
    | succ j ih =>
      intro i K2 e1 e2
      refine x_iload_n E 0 dX3_row_78 rfl ?_
      refine x_aload_n E 2 dX3_row_79 rfl ?_
      refine x_get E 0 4 dX3_row_80 ui_X3_row_X3 rfl rfl (by decide) fl_X3_row_38 rfl rfl ?_
      refine x_ncmp_ge E 114 dX3_row_83 (by decide) (by omega) (by omega) (fun h => False.elim (by omega)) (fun h83 => ?_)
      refine x_iload_n E 0 dX3_row_86 rfl ?_
      refine x_aload_n E 2 dX3_row_87 rfl ?_
      refine x_get E 0 3 dX3_row_88 ui_X3_row_X3 rfl rfl (by decide) fl_X3_row_26 rfl rfl ?_
      refine x_alen E 1 0 64 dX3_row_91 rfl rfl rfl ?_
      refine x_ncmp_ge E 114 dX3_row_92 (by decide) (by omega) (by decide) (fun h => False.elim (by omega)) (fun h92 => ?_)
      refine x_aload_n E 2 dX3_row_95 rfl ?_
      refine x_get E 0 2 dX3_row_96 ui_X3_row_X3 rfl rfl (by decide) fl_X3_row_22 rfl rfl ?_
      refine x_aload_n E 2 dX3_row_99 rfl ?_
      refine x_get E 0 3 dX3_row_100 ui_X3_row_X3 rfl rfl (by decide) fl_X3_row_26 rfl rfl ?_
      refine x_iload_n E 0 dX3_row_103 rfl ?_
      refine x_bald E 1 0 dX3_row_104 rfl rfl (by omega) (by decide) ?_
      refine x_cV E [.int (bf F i)] [] [] [(m0, .inr (3, [.ref a0, .ref b0, .ref t0, .ref m1, .int (nI fc), .int (nI mv), .int (nI kn), .int (if false = true then 1 else 0), .int (nI rp), .int bad])), (m1, .inl (cB, 64, .inl (bf F))), (a0, .inr (1, [.ref a1, .int (nI n)])), (a1, .inl (cB, 8192, .inl (bf g))), (b0, .inr (1, [.ref b1, .int (nI n2)])), (b1, .inl (cB, 8192, .inl (bf g2))), (t0, .inr (2, [.ref t1, .ref t2, .ref t3, .ref t4, .int (nI (c + 1))])), (t1, .inl (cI, 600, .inl (nf (va_up S c s0)))), (t2, .inl (cI, 600, .inl (nf (va_up (va_up Ln c i) ((c + 1) - 1) ((va_up Ln c i) ((c + 1) - 1) + 1))))), (t3, .inl (cZ, 600, .inl (zf (va_up Z c false)))), (t4, .inl (cB, 38400, .inl (bf (va_up K2 (((c + 1) - 1) * 64 + (va_up Ln c i) ((c + 1) - 1)) (u8 (bf F i))))))] (c_X2_push l D cB cI cZ cJ t0 t1 t2 t3 t4 (c + 1) (va_up S c s0) (va_up Ln c i) (va_up Z c false) K2 (bf F i) (by omega) (by omega) (by rw [Nat.add_sub_cancel, va_up_self]; omega)) 0 rfl rfl (cwV 1 hts gX3_row_X2_push rfl rfl rfl (by decide +kernel) ⟨Nat.le_of_ble_eq_true rfl, Nat.le_of_ble_eq_true rfl⟩) [6, 7, 8, 9, 10] [0, 1, 2, 3, 4, 5] rfl rfl (by decide) (by decide) (by decide) [0, 1, 2, 3, 4, 5, 6, 7, 8, 9, 10] (by decide) rfl rfl (Nat.le_of_ble_eq_true rfl) dX3_row_105 ⟨Nat.zero_le _, Nat.zero_le _⟩ rfl rfl ?_
      refine x_iinc E 0 [(3, .int (nI (i + 1))), (2, .int (nI (c - kn))), (0, .ref m0), (1, .int (nI s0))] dX3_row_108 rfl (nI_add _ _) (by decide) rfl ?_
      refine x_goto E 78 dX3_row_111 (by decide) ?_
      refine x_ws (ws' := [(m0, .inr (3, [.ref a0, .ref b0, .ref t0, .ref m1, .int (nI fc), .int (nI mv), .int (nI kn), .int (if false = true then 1 else 0), .int (nI rp), .int bad])), (m1, .inl (cB, 64, .inl (bf F))), (a0, .inr (1, [.ref a1, .int (nI n)])), (a1, .inl (cB, 8192, .inl (bf g))), (b0, .inr (1, [.ref b1, .int (nI n2)])), (b1, .inl (cB, 8192, .inl (bf g2))), (t0, .inr (2, [.ref t1, .ref t2, .ref t3, .ref t4, .int (nI (c + 1))])), (t1, .inl (cI, 600, .inl (nf (va_up S c s0)))), (t2, .inl (cI, 600, .inl (nf (va_up Ln c (i + 1))))), (t3, .inl (cZ, 600, .inl (zf (va_up Z c false)))), (t4, .inl (cB, 38400, .inl (bf (va_up K2 (c * 64 + i) (F i)))))]) (by rw [pushL, Nat.add_sub_cancel, va_up_self, u8_bf]) ?_
      exact ih (i + 1) _ (by omega) (by rw [← e2, conL_s, app_s]; rfl)
  refine x_aload_n E 0 dX3_row_0 rfl ?_
  refine x_get E 0 7 dX3_row_1 ui_X3_row_X3 rfl rfl (by decide) fl_X3_row_34 rfl rfl ?_
  refine x_qif_ne E 31 dX3_row_4 (by decide) (fun h => False.elim (by cases h)) (fun h4 => ?_)
  refine x_aload_n E 0 dX3_row_7 rfl ?_
  refine x_get E 0 4 dX3_row_8 ui_X3_row_X3 rfl rfl (by decide) fl_X3_row_38 rfl rfl ?_
  refine x_nif_eq E 31 dX3_row_11 (by decide) (by omega) (fun h => False.elim (by omega)) (fun h11 => ?_)
  refine x_iload_n E 1 dX3_row_14 rfl ?_
  refine x_ldc E (v := nI 1000000000) dX3_row_15 cn_X3_row_41 (by decide +kernel) ?_
  refine x_ncmp_gt E 31 dX3_row_17 (by decide) (by omega) (by decide) (fun h => False.elim (by omega)) (fun h17 => ?_)
  refine x_iload_n E 1 dX3_row_20 rfl ?_
  refine x_aload_n E 0 dX3_row_21 rfl ?_
  refine x_get E 0 2 dX3_row_22 ui_X3_row_X3 rfl rfl (by decide) fl_X3_row_22 rfl rfl ?_
  refine x_cV E [] [.int (nI s0)] [.int (nI (lastS c S)), .int (nI s0)] [(m0, .inr (3, [.ref a0, .ref b0, .ref t0, .ref m1, .int (nI fc), .int (nI mv), .int (nI kn), .int (if false = true then 1 else 0), .int (nI rp), .int bad])), (m1, .inl (cB, 64, .inl (bf F))), (a0, .inr (1, [.ref a1, .int (nI n)])), (a1, .inl (cB, 8192, .inl (bf g))), (b0, .inr (1, [.ref b1, .int (nI n2)])), (b1, .inl (cB, 8192, .inl (bf g2))), (t0, .inr (2, [.ref t1, .ref t2, .ref t3, .ref t4, .int (nI c)])), (t1, .inl (cI, 600, .inl (nf S))), (t2, .inl (cI, 600, .inl (nf Ln))), (t3, .inl (cZ, 600, .inl (zf Z))), (t4, .inl (cB, 38400, .inl (bf K)))] (c_X2_lastSecond l D cB cI cZ cJ t0 t1 t2 t3 t4 c S Ln Z K (by omega)) 0 rfl rfl (cwV 0 hts gX3_row_X2_lastSecond rfl rfl rfl (by decide +kernel) ⟨Nat.le_of_ble_eq_true rfl, Nat.le_of_ble_eq_true rfl⟩) [6, 7, 8, 9, 10] [0, 1, 2, 3, 4, 5] rfl rfl (by decide) (by decide) (by decide) [0, 1, 2, 3, 4, 5, 6, 7, 8, 9, 10] (by decide) rfl rfl (Nat.le_of_ble_eq_true rfl) dX3_row_25 ⟨Nat.zero_le _, Nat.zero_le _⟩ rfl rfl ?_
  refine x_ncmp_ge E 33 dX3_row_28 (by decide) (by omega) (by omega) (fun h28 => ?_) (fun h => False.elim (by omega))
  refine x_aload_n E 0 dX3_row_33 rfl ?_
  refine x_get E 0 2 dX3_row_34 ui_X3_row_X3 rfl rfl (by decide) fl_X3_row_22 rfl rfl ?_
  refine x_cV E [] [] [.int (nI c)] [(m0, .inr (3, [.ref a0, .ref b0, .ref t0, .ref m1, .int (nI fc), .int (nI mv), .int (nI kn), .int (if false = true then 1 else 0), .int (nI rp), .int bad])), (m1, .inl (cB, 64, .inl (bf F))), (a0, .inr (1, [.ref a1, .int (nI n)])), (a1, .inl (cB, 8192, .inl (bf g))), (b0, .inr (1, [.ref b1, .int (nI n2)])), (b1, .inl (cB, 8192, .inl (bf g2))), (t0, .inr (2, [.ref t1, .ref t2, .ref t3, .ref t4, .int (nI c)])), (t1, .inl (cI, 600, .inl (nf S))), (t2, .inl (cI, 600, .inl (nf Ln))), (t3, .inl (cZ, 600, .inl (zf Z))), (t4, .inl (cB, 38400, .inl (bf K)))] (c_X2_count l D cB cI cZ cJ t0 t1 t2 t3 t4 c S Ln Z K ) 0 rfl rfl (cwV 0 hts gX3_row_X2_count rfl rfl rfl (by decide +kernel) ⟨Nat.le_of_ble_eq_true rfl, Nat.le_of_ble_eq_true rfl⟩) [6, 7, 8, 9, 10] [0, 1, 2, 3, 4, 5] rfl rfl (by decide) (by decide) (by decide) [0, 1, 2, 3, 4, 5, 6, 7, 8, 9, 10] (by decide) rfl rfl (Nat.le_of_ble_eq_true rfl) dX3_row_37 ⟨Nat.zero_le _, Nat.zero_le _⟩ rfl rfl ?_
  refine x_aload_n E 0 dX3_row_40 rfl ?_
  refine x_get E 0 6 dX3_row_41 ui_X3_row_X3 rfl rfl (by decide) fl_X3_row_49 rfl rfl ?_
  refine x_nisub E dX3_row_44 (by omega) ?_
  refine x_istore_n E [(2, .int (nI (c - kn))), (0, .ref m0), (1, .int (nI s0))] dX3_row_45 (by decide) rfl ?_
  refine x_iload_n E 0 dX3_row_46 rfl ?_
  refine x_bipush E (v := nI 16) dX3_row_47 (by decide) ?_
  refine x_ncmp_ge E 65 dX3_row_49 (by decide) (by omega) (by decide) (fun h => False.elim (by omega)) (fun h49 => ?_)
  refine x_aload_n E 1 dX3_row_52 rfl ?_
  refine x_get E 0 2 dX3_row_53 ui_X3_row_X3 rfl rfl (by decide) fl_X3_row_22 rfl rfl ?_
  refine x_cV E [] [] [.int (nI c)] [(m0, .inr (3, [.ref a0, .ref b0, .ref t0, .ref m1, .int (nI fc), .int (nI mv), .int (nI kn), .int (if false = true then 1 else 0), .int (nI rp), .int bad])), (m1, .inl (cB, 64, .inl (bf F))), (a0, .inr (1, [.ref a1, .int (nI n)])), (a1, .inl (cB, 8192, .inl (bf g))), (b0, .inr (1, [.ref b1, .int (nI n2)])), (b1, .inl (cB, 8192, .inl (bf g2))), (t0, .inr (2, [.ref t1, .ref t2, .ref t3, .ref t4, .int (nI c)])), (t1, .inl (cI, 600, .inl (nf S))), (t2, .inl (cI, 600, .inl (nf Ln))), (t3, .inl (cZ, 600, .inl (zf Z))), (t4, .inl (cB, 38400, .inl (bf K)))] (c_X2_count l D cB cI cZ cJ t0 t1 t2 t3 t4 c S Ln Z K ) 0 rfl rfl (cwV 0 hts gX3_row_X2_count rfl rfl rfl (by decide +kernel) ⟨Nat.le_of_ble_eq_true rfl, Nat.le_of_ble_eq_true rfl⟩) [6, 7, 8, 9, 10] [0, 1, 2, 3, 4, 5] rfl rfl (by decide) (by decide) (by decide) [0, 1, 2, 3, 4, 5, 6, 7, 8, 9, 10] (by decide) rfl rfl (Nat.le_of_ble_eq_true rfl) dX3_row_56 ⟨Nat.zero_le _, Nat.zero_le _⟩ rfl rfl ?_
  refine x_sipush E (v := nI 600) dX3_row_59 (by decide) ?_
  refine x_ncmp_lt E 68 dX3_row_62 (by decide) (by omega) (by decide) (fun h62 => ?_) (fun h => False.elim (by omega))
  refine x_aload_n E 1 dX3_row_68 rfl ?_
  refine x_get E 0 2 dX3_row_69 ui_X3_row_X3 rfl rfl (by decide) fl_X3_row_22 rfl rfl ?_
  refine x_iload_n E 2 dX3_row_72 rfl ?_
  refine x_cV E [.int (nI s0)] [] [] [(m0, .inr (3, [.ref a0, .ref b0, .ref t0, .ref m1, .int (nI fc), .int (nI mv), .int (nI kn), .int (if false = true then 1 else 0), .int (nI rp), .int bad])), (m1, .inl (cB, 64, .inl (bf F))), (a0, .inr (1, [.ref a1, .int (nI n)])), (a1, .inl (cB, 8192, .inl (bf g))), (b0, .inr (1, [.ref b1, .int (nI n2)])), (b1, .inl (cB, 8192, .inl (bf g2))), (t0, .inr (2, [.ref t1, .ref t2, .ref t3, .ref t4, .int (nI (c + 1))])), (t1, .inl (cI, 600, .inl (nf (va_up S c s0)))), (t2, .inl (cI, 600, .inl (nf (va_up Ln c 0)))), (t3, .inl (cZ, 600, .inl (zf (va_up Z c false)))), (t4, .inl (cB, 38400, .inl (bf K)))] (c_X2_begin l D cB cI cZ cJ t0 t1 t2 t3 t4 c S Ln Z K s0 (by omega)) 0 rfl rfl (cwV 1 hts gX3_row_X2_begin rfl rfl rfl (by decide +kernel) ⟨Nat.le_of_ble_eq_true rfl, Nat.le_of_ble_eq_true rfl⟩) [6, 7, 8, 9, 10] [0, 1, 2, 3, 4, 5] rfl rfl (by decide) (by decide) (by decide) [0, 1, 2, 3, 4, 5, 6, 7, 8, 9, 10] (by decide) rfl rfl (Nat.le_of_ble_eq_true rfl) dX3_row_73 ⟨Nat.zero_le _, Nat.zero_le _⟩ rfl rfl ?_
  refine x_iconst E (v := nI 0) dX3_row_76 (by decide) ?_
  refine x_istore_n E [(3, .int (nI 0)), (2, .int (nI (c - kn))), (0, .ref m0), (1, .int (nI s0))] dX3_row_77 (by decide) rfl ?_
  exact loop fc 0 K (by omega) rfl
