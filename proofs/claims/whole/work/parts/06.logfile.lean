abbrev rmJ6_rotateLeft_7cf53 : Room := { frames := 0, cells := 0, slots := 0, locals := 0 }
abbrev rmX1_add : Room := { frames := 0, cells := 0, slots := 0, locals := 0 }
abbrev rmX1_addNumber : Room := { frames := 1, cells := 0, slots := 0, locals := 21 }
abbrev rmX1_agrees : Room := { frames := 1, cells := 0, slots := 0, locals := 21 }
abbrev rmX1_alter : Room := { frames := 0, cells := 0, slots := 0, locals := 0 }
abbrev rmX1_copyFrom : Room := { frames := 1, cells := 0, slots := 0, locals := 21 }
abbrev rmX1_cutTo : Room := { frames := 0, cells := 0, slots := 0, locals := 0 }
abbrev rmX1_dropFirst : Room := { frames := 1, cells := 0, slots := 0, locals := 60 }
abbrev rmX1_get : Room := { frames := 0, cells := 0, slots := 0, locals := 0 }
abbrev rmX1_hasRoomFor : Room := { frames := 0, cells := 0, slots := 0, locals := 0 }
abbrev rmX1_number : Room := { frames := 1, cells := 0, slots := 0, locals := 21 }
abbrev rmX1_size : Room := { frames := 0, cells := 0, slots := 0, locals := 0 }
abbrev rmX1_sumOf : Room := { frames := 1, cells := 0, slots := 0, locals := 21 }
theorem fl_X1_size_15 : Cond.fieldLink RX1 15 "MirrorLog$LogFile" "size" "I" ∈ wsX1_size := by decide +kernel
theorem ui_X1_size_X1 : ∀ w ∈ wsX10, w ∈ wsX1_size := by decide +kernel
theorem fl_X1_hasRoomFor_9 : Cond.fieldLink RX1 9 "MirrorLog$LogFile" "bytes" "[B" ∈ wsX1_hasRoomFor := by decide +kernel
theorem ui_X1_hasRoomFor_X1 : ∀ w ∈ wsX10, w ∈ wsX1_hasRoomFor := by decide +kernel
theorem fl_X1_hasRoomFor_15 : Cond.fieldLink RX1 15 "MirrorLog$LogFile" "size" "I" ∈ wsX1_hasRoomFor := by decide +kernel
theorem fl_X1_get_15 : Cond.fieldLink RX1 15 "MirrorLog$LogFile" "size" "I" ∈ wsX1_get := by decide +kernel
theorem ui_X1_get_X1 : ∀ w ∈ wsX10, w ∈ wsX1_get := by decide +kernel
theorem fl_X1_get_9 : Cond.fieldLink RX1 9 "MirrorLog$LogFile" "bytes" "[B" ∈ wsX1_get := by decide +kernel
theorem fl_X1_add_15 : Cond.fieldLink RX1 15 "MirrorLog$LogFile" "size" "I" ∈ wsX1_add := by decide +kernel
theorem ui_X1_add_X1 : ∀ w ∈ wsX10, w ∈ wsX1_add := by decide +kernel
theorem fl_X1_add_9 : Cond.fieldLink RX1 9 "MirrorLog$LogFile" "bytes" "[B" ∈ wsX1_add := by decide +kernel
theorem fl_X1_alter_15 : Cond.fieldLink RX1 15 "MirrorLog$LogFile" "size" "I" ∈ wsX1_alter := by decide +kernel
theorem ui_X1_alter_X1 : ∀ w ∈ wsX10, w ∈ wsX1_alter := by decide +kernel
theorem fl_X1_alter_9 : Cond.fieldLink RX1 9 "MirrorLog$LogFile" "bytes" "[B" ∈ wsX1_alter := by decide +kernel
theorem fl_X1_cutTo_15 : Cond.fieldLink RX1 15 "MirrorLog$LogFile" "size" "I" ∈ wsX1_cutTo := by decide +kernel
theorem ui_X1_cutTo_X1 : ∀ w ∈ wsX10, w ∈ wsX1_cutTo := by decide +kernel
theorem fl_X1_dropFirst_15 : Cond.fieldLink RX1 15 "MirrorLog$LogFile" "size" "I" ∈ wsX1_dropFirst := by decide +kernel
theorem ui_X1_dropFirst_X1 : ∀ w ∈ wsX10, w ∈ wsX1_dropFirst := by decide +kernel
theorem fl_X1_dropFirst_9 : Cond.fieldLink RX1 9 "MirrorLog$LogFile" "bytes" "[B" ∈ wsX1_dropFirst := by decide +kernel
theorem ac_X1_dropFirstl : Cond.methodLink RX1 34 arraycopyName ∈ wsX1_dropFirst := by decide +kernel
theorem ac_X1_dropFirstn : Cond.native arraycopyName ∈ wsX1_dropFirst := by decide +kernel
theorem ac_X1_dropFirsts : Cond.static arraycopyName ∈ wsX1_dropFirst := by decide +kernel
theorem ac_X1_dropFirsti : Cond.initialized "java/lang/System" ∈ wsX1_dropFirst := by decide +kernel
theorem cn_X1_sumOf_33 : Jvm.Cond.constant RX1 33 (668265263) ∈ wsX1_sumOf := by decide +kernel
theorem fl_X1_copyFrom_15 : Cond.fieldLink RX1 15 "MirrorLog$LogFile" "size" "I" ∈ wsX1_copyFrom := by decide +kernel
theorem ui_X1_copyFrom_X1 : ∀ w ∈ wsX10, w ∈ wsX1_copyFrom := by decide +kernel
theorem fl_X1_copyFrom_9 : Cond.fieldLink RX1 9 "MirrorLog$LogFile" "bytes" "[B" ∈ wsX1_copyFrom := by decide +kernel
/-! PURE: what the system computes -/
/-- a byte of a file of n bytes, or -1 -/
def gt (n : Nat) (g : Nat → UInt8) (k : Nat) : Int32 := if k < n then nI (g k).toNat else (-1)
/-- Integer.rotateLeft -/
def rol (x d : Int32) : Int32 := (x <<< (d &&& 31)) ||| (x.toUInt32 >>> ((-d).toUInt32 &&& Int32.toUInt32 31)).toInt32
/-- a sum with one byte more -/
def sm (s : Int32) (b : UInt8) : Int32 := rol (s ^^^ nI b.toNat) (nI 13) * nI 668265263
/-- a step a byte, k bytes from p on -/
def itG (f : Int32 → UInt8 → Int32) (g : Nat → UInt8) : Nat → Nat → Int32 → Int32
  | _, 0, s => s
  | p, k + 1, s => itG f g (p + 1) k (f s (g p))
/-- the sum of k bytes from p on, begun with s -/
def smG (g : Nat → UInt8) (p k : Nat) (s : Int32) : Int32 := itG sm g p k s
theorem itG_s (f : Int32 → UInt8 → Int32) (g : Nat → UInt8) (p k : Nat) (s : Int32) : itG f g p (k + 1) s = itG f g (p + 1) k (f s (g p)) := rfl
/-- k bytes from p on as a number, the highest first, behind v -/
def beG (g : Nat → UInt8) : Nat → Nat → Int32 → Int32
  | _, 0, v => v
  | p, k + 1, v => beG g (p + 1) k ((v <<< (nI 8 &&& 31)) ||| nI (g p).toNat)
/-- byte i, from the lowest on, of a number -/
def byt (v : Int32) (i : Nat) : UInt8 := u8 (v.toUInt32 >>> ((nI (8 * i)).toUInt32 &&& Int32.toUInt32 31)).toInt32
/-- bytes laid from p on -/
def app (g : Nat → UInt8) : Nat → List UInt8 → Nat → UInt8
  | _, [] => g
  | p, b :: r => app (va_up g p b) (p + 1) r
/-- w bytes of a number, the highest first -/
def beL (v : Int32) : Nat → List UInt8
  | 0 => []
  | w + 1 => byt v w :: beL v w
/-- whether two files have the same bytes, k from p on -/
def agr (n : Nat) (g : Nat → UInt8) (n2 : Nat) (g2 : Nat → UInt8) : Nat → Nat → Bool
  | _, 0 => true
  | p, k + 1 => if gt n g p = gt n2 g2 p then agr n g n2 g2 (p + 1) k else false
/-- copyFrom: size and bytes -/
def cpF (n2 : Nat) (g2 : Nat → UInt8) : Nat → Nat → Nat × (Nat → UInt8) → Nat × (Nat → UInt8)
  | _, 0, q => q
  | p, k + 1, (n, g) => cpF n2 g2 (p + 1) k (if p = n then (n + 1, va_up g n (u8 (gt n2 g2 p))) else if p < n then (n, va_up g p (u8 (gt n2 g2 p))) else (n, g))
theorem u8_b8 (x : Int32) : u8 x.toInt8.toInt32 = u8 x := by
  simp [u8]
theorem smG_s (g : Nat → UInt8) (p k : Nat) (s : Int32) : smG g p (k + 1) s = smG g (p + 1) k (sm s (g p)) := itG_s sm g p k s
theorem sm_e (s : Int32) (b : UInt8) : sm s b = rol (s ^^^ nI b.toNat) (nI 13) * nI 668265263 := rfl
theorem beG_s (g : Nat → UInt8) (p k : Nat) (v : Int32) : beG g p (k + 1) v = beG g (p + 1) k ((v <<< (nI 8 &&& 31)) ||| nI (g p).toNat) := rfl
theorem agr_s (n : Nat) (g : Nat → UInt8) (n2 : Nat) (g2 : Nat → UInt8) (p k : Nat) : agr n g n2 g2 p (k + 1) = if gt n g p = gt n2 g2 p then agr n g n2 g2 (p + 1) k else false := rfl
theorem cpF_s (n2 : Nat) (g2 : Nat → UInt8) (p k n : Nat) (g : Nat → UInt8) : cpF n2 g2 p (k + 1) (n, g) = cpF n2 g2 (p + 1) k (if p = n then (n + 1, va_up g n (u8 (gt n2 g2 p))) else if p < n then (n, va_up g p (u8 (gt n2 g2 p))) else (n, g)) := rfl
theorem nIp (k : Nat) : nI (k + 1) - nI 1 = nI k := pk_sub (Nat.le_add_left 1 k)
theorem nIm (x : Int32) : x + Int32.ofInt (-1) = x - nI 1 := by
  rw [Int32.sub_eq_add_neg]
  rfl
set_option maxRecDepth 100000 in
set_option maxHeartbeats 4000000 in
/-- Integer.rotateLeft -/
theorem c_J6_rotateLeft_7cf53 (l : Launch) (D : va_G) (cB cI cZ cJ : ClassId) (x : Int32) (d : Int32)  : Ct l D vwCl (tyl cB cI cZ cJ) yJ6_rotateLeft_7cf53 wsJ6_rotateLeft_7cf53 rmJ6_rotateLeft_7cf53 [.int x, .int d] [] (some (.int (rol x d))) [] := by
  refine x_start (cc := cJ6_rotateLeft_7cf53) (maxL := 2) (ret := (some .int)) (by decide) rfl (Nat.le_of_ble_eq_true rfl) ?_
  intro xp xe xs xm xb xt xc xA E hr hlocks hnm
  obtain ⟨-, -, -, hown, hts, hK, hA⟩ := id E
  refine x_lve (lv' := [(0, .int x), (1, .int d)]) rfl ?_
  refine x_iload_n E 0 dJ6_rotateLeft_7cf53_0 rfl ?_
  refine x_iload_n E 1 dJ6_rotateLeft_7cf53_1 rfl ?_
  refine x_ishl E dJ6_rotateLeft_7cf53_2 ?_
  refine x_iload_n E 0 dJ6_rotateLeft_7cf53_3 rfl ?_
  refine x_iload_n E 1 dJ6_rotateLeft_7cf53_4 rfl ?_
  refine x_ineg E dJ6_rotateLeft_7cf53_5 ?_
  refine x_iushr E dJ6_rotateLeft_7cf53_6 rfl ?_
  refine x_ior E dJ6_rotateLeft_7cf53_7 ?_
  exact x_iret E hr hlocks dJ6_rotateLeft_7cf53_8 ⟨rfl, rfl⟩
set_option maxRecDepth 100000 in
set_option maxHeartbeats 4000000 in
theorem c_X1_size (l : Launch) (D : va_G) (cB cI cZ cJ : ClassId) (a0 : Nat) (a1 : Nat) (n : Nat) (g : Nat → UInt8)  : Ct l D vwCl (tyl cB cI cZ cJ) yX1_size wsX1_size rmX1_size [.ref a0] [(a0, .inr (1, [.ref a1, .int (nI n)])), (a1, .inl (cB, 8192, .inl (bf g)))] (some (.int (nI n))) [(a0, .inr (1, [.ref a1, .int (nI n)])), (a1, .inl (cB, 8192, .inl (bf g)))] := by
  refine x_start (cc := cX1_size) (maxL := 1) (ret := (some .int)) (by decide) rfl (Nat.le_of_ble_eq_true rfl) ?_
  intro xp xe xs xm xb xt xc xA E hr hlocks hnm
  obtain ⟨-, -, -, hown, hts, hK, hA⟩ := id E
  refine x_lve (lv' := [(0, .ref a0)]) rfl ?_
  refine x_aload_n E 0 dX1_size_0 rfl ?_
  refine x_get E 0 1 dX1_size_1 ui_X1_size_X1 rfl rfl (by decide) fl_X1_size_15 rfl rfl ?_
  exact x_iret E hr hlocks dX1_size_4 ⟨rfl, rfl⟩
set_option maxRecDepth 100000 in
set_option maxHeartbeats 4000000 in
theorem c_X1_hasRoomFor (l : Launch) (D : va_G) (cB cI cZ cJ : ClassId) (a0 : Nat) (a1 : Nat) (n : Nat) (g : Nat → UInt8) (k : Nat) (hn : n ≤ 8192) (hk : k < 2 ^ 31) : Ct l D vwCl (tyl cB cI cZ cJ) yX1_hasRoomFor wsX1_hasRoomFor rmX1_hasRoomFor [.ref a0, .int (nI k)] [(a0, .inr (1, [.ref a1, .int (nI n)])), (a1, .inl (cB, 8192, .inl (bf g)))] (some (.int (if decide (n + k ≤ 8192) = true then 1 else 0))) [(a0, .inr (1, [.ref a1, .int (nI n)])), (a1, .inl (cB, 8192, .inl (bf g)))] := by
  refine x_start (cc := cX1_hasRoomFor) (maxL := 2) (ret := (some .boolean)) (by decide) rfl (Nat.le_of_ble_eq_true rfl) ?_
  intro xp xe xs xm xb xt xc xA E hr hlocks hnm
  obtain ⟨-, -, -, hown, hts, hK, hA⟩ := id E
  refine x_lve (lv' := [(0, .ref a0), (1, .int (nI k))]) rfl ?_
  refine x_iload_n E 1 dX1_hasRoomFor_0 rfl ?_
  refine x_aload_n E 0 dX1_hasRoomFor_1 rfl ?_
  refine x_get E 0 0 dX1_hasRoomFor_2 ui_X1_hasRoomFor_X1 rfl rfl (by decide) fl_X1_hasRoomFor_9 rfl rfl ?_
  refine x_alen E 1 0 8192 dX1_hasRoomFor_5 rfl rfl rfl ?_
  refine x_aload_n E 0 dX1_hasRoomFor_6 rfl ?_
  refine x_get E 0 1 dX1_hasRoomFor_7 ui_X1_hasRoomFor_X1 rfl rfl (by decide) fl_X1_hasRoomFor_15 rfl rfl ?_
  refine x_nisub E dX1_hasRoomFor_10 (by omega) ?_
  refine x_ncmp_gt E 18 dX1_hasRoomFor_11 (by decide) (by omega) (by omega) (fun h11 => ?_) (fun h11 => ?_)
  · refine x_iconst E (v := nI 0) dX1_hasRoomFor_18 (by decide) ?_
    exact x_zret E hr hlocks dX1_hasRoomFor_19 rfl ⟨q_f' (decide_eq_false (by omega)), rfl⟩
  · refine x_iconst E (v := nI 1) dX1_hasRoomFor_14 (by decide) ?_
    refine x_goto E 19 dX1_hasRoomFor_15 (by decide) ?_
    exact x_zret E hr hlocks dX1_hasRoomFor_19 rfl ⟨q_t' (decide_eq_true (by omega)), rfl⟩
set_option maxRecDepth 100000 in
set_option maxHeartbeats 4000000 in
theorem c_X1_get (l : Launch) (D : va_G) (cB cI cZ cJ : ClassId) (a0 : Nat) (a1 : Nat) (n : Nat) (g : Nat → UInt8) (k : Nat) (hn : n ≤ 8192) (hk : k < 2 ^ 31) : Ct l D vwCl (tyl cB cI cZ cJ) yX1_get wsX1_get rmX1_get [.ref a0, .int (nI k)] [(a0, .inr (1, [.ref a1, .int (nI n)])), (a1, .inl (cB, 8192, .inl (bf g)))] (some (.int (gt n g k))) [(a0, .inr (1, [.ref a1, .int (nI n)])), (a1, .inl (cB, 8192, .inl (bf g)))] := by
  refine x_start (cc := cX1_get) (maxL := 2) (ret := (some .int)) (by decide) rfl (Nat.le_of_ble_eq_true rfl) ?_
  intro xp xe xs xm xb xt xc xA E hr hlocks hnm
  obtain ⟨-, -, -, hown, hts, hK, hA⟩ := id E
  refine x_lve (lv' := [(0, .ref a0), (1, .int (nI k))]) rfl ?_
  refine x_iload_n E 1 dX1_get_0 rfl ?_
  refine x_nif_lt E 34 dX1_get_1 (by decide) (by omega) (fun h => absurd h (fun h => Nat.not_lt_zero _ h)) (fun h1 => ?_)
  refine x_iload_n E 1 dX1_get_4 rfl ?_
  refine x_aload_n E 0 dX1_get_5 rfl ?_
  refine x_get E 0 1 dX1_get_6 ui_X1_get_X1 rfl rfl (by decide) fl_X1_get_15 rfl rfl ?_
  refine x_ncmp_ge E 34 dX1_get_9 (by decide) (by omega) (by omega) (fun h9 => ?_) (fun h9 => ?_)
  · refine x_iconst E (v := (-1)) dX1_get_34 (by decide) ?_
    exact x_iret E hr hlocks dX1_get_35 ⟨by unfold gt; rw [if_neg (by omega)], rfl⟩
  · refine x_iload_n E 1 dX1_get_12 rfl ?_
    refine x_aload_n E 0 dX1_get_13 rfl ?_
    refine x_get E 0 0 dX1_get_14 ui_X1_get_X1 rfl rfl (by decide) fl_X1_get_9 rfl rfl ?_
    refine x_alen E 1 0 8192 dX1_get_17 rfl rfl rfl ?_
    refine x_ncmp_ge E 34 dX1_get_18 (by decide) (by omega) (by decide) (fun h18 => ?_) (fun h18 => ?_)
    · refine x_iconst E (v := (-1)) dX1_get_34 (by decide) ?_
      exact x_iret E hr hlocks dX1_get_35 ⟨by unfold gt; rw [if_neg (by omega)], rfl⟩
    · refine x_aload_n E 0 dX1_get_21 rfl ?_
      refine x_get E 0 0 dX1_get_22 ui_X1_get_X1 rfl rfl (by decide) fl_X1_get_9 rfl rfl ?_
      refine x_iload_n E 1 dX1_get_25 rfl ?_
      refine x_bald E 1 0 dX1_get_26 rfl rfl (by omega) (by decide) ?_
      refine x_sipush E (v := nI 255) dX1_get_27 (by decide) ?_
      refine x_iand' E dX1_get_30 (bf_n255 _ _) ?_
      refine x_goto E 35 dX1_get_31 (by decide) ?_
      exact x_iret E hr hlocks dX1_get_35 ⟨by unfold gt; rw [if_pos (by omega)], rfl⟩
set_option maxRecDepth 100000 in
set_option maxHeartbeats 4000000 in
theorem c_X1_get_in (l : Launch) (D : va_G) (cB cI cZ cJ : ClassId) (a0 : Nat) (a1 : Nat) (n : Nat) (g : Nat → UInt8) (k : Nat) (hn : n ≤ 8192) (hk : k < n) : Ct l D vwCl (tyl cB cI cZ cJ) yX1_get wsX1_get rmX1_get [.ref a0, .int (nI k)] [(a0, .inr (1, [.ref a1, .int (nI n)])), (a1, .inl (cB, 8192, .inl (bf g)))] (some (.int (nI ((g k).toNat)))) [(a0, .inr (1, [.ref a1, .int (nI n)])), (a1, .inl (cB, 8192, .inl (bf g)))] := by
  refine x_start (cc := cX1_get) (maxL := 2) (ret := (some .int)) (by decide) rfl (Nat.le_of_ble_eq_true rfl) ?_
  intro xp xe xs xm xb xt xc xA E hr hlocks hnm
  obtain ⟨-, -, -, hown, hts, hK, hA⟩ := id E
  refine x_lve (lv' := [(0, .ref a0), (1, .int (nI k))]) rfl ?_
  refine x_iload_n E 1 dX1_get_0 rfl ?_
  refine x_nif_lt E 34 dX1_get_1 (by decide) (by omega) (fun h => absurd h (fun h => Nat.not_lt_zero _ h)) (fun h1 => ?_)
  refine x_iload_n E 1 dX1_get_4 rfl ?_
  refine x_aload_n E 0 dX1_get_5 rfl ?_
  refine x_get E 0 1 dX1_get_6 ui_X1_get_X1 rfl rfl (by decide) fl_X1_get_15 rfl rfl ?_
  refine x_ncmp_ge E 34 dX1_get_9 (by decide) (by omega) (by omega) (fun h => False.elim (by omega)) (fun h9 => ?_)
  refine x_iload_n E 1 dX1_get_12 rfl ?_
  refine x_aload_n E 0 dX1_get_13 rfl ?_
  refine x_get E 0 0 dX1_get_14 ui_X1_get_X1 rfl rfl (by decide) fl_X1_get_9 rfl rfl ?_
  refine x_alen E 1 0 8192 dX1_get_17 rfl rfl rfl ?_
  refine x_ncmp_ge E 34 dX1_get_18 (by decide) (by omega) (by decide) (fun h => False.elim (by omega)) (fun h18 => ?_)
  refine x_aload_n E 0 dX1_get_21 rfl ?_
  refine x_get E 0 0 dX1_get_22 ui_X1_get_X1 rfl rfl (by decide) fl_X1_get_9 rfl rfl ?_
  refine x_iload_n E 1 dX1_get_25 rfl ?_
  refine x_bald E 1 0 dX1_get_26 rfl rfl (by omega) (by decide) ?_
  refine x_sipush E (v := nI 255) dX1_get_27 (by decide) ?_
  refine x_iand' E dX1_get_30 (bf_n255 _ _) ?_
  refine x_goto E 35 dX1_get_31 (by decide) ?_
  exact x_iret E hr hlocks dX1_get_35 ⟨rfl, rfl⟩
set_option maxRecDepth 100000 in
set_option maxHeartbeats 4000000 in
theorem c_X1_add (l : Launch) (D : va_G) (cB cI cZ cJ : ClassId) (a0 : Nat) (a1 : Nat) (n : Nat) (g : Nat → UInt8) (b : Int32) (hn : n < 8192) : Ct l D vwCl (tyl cB cI cZ cJ) yX1_add wsX1_add rmX1_add [.ref a0, .int b] [(a0, .inr (1, [.ref a1, .int (nI n)])), (a1, .inl (cB, 8192, .inl (bf g)))] none [(a0, .inr (1, [.ref a1, .int (nI (n + 1))])), (a1, .inl (cB, 8192, .inl (bf (va_up g n (u8 b)))))] := by
  refine x_start (cc := cX1_add) (maxL := 2) (ret := none) (by decide) rfl (Nat.le_of_ble_eq_true rfl) ?_
  intro xp xe xs xm xb xt xc xA E hr hlocks hnm
  obtain ⟨-, -, -, hown, hts, hK, hA⟩ := id E
  refine x_lve (lv' := [(0, .ref a0), (1, .int b)]) rfl ?_
  refine x_aload_n E 0 dX1_add_0 rfl ?_
  refine x_get E 0 1 dX1_add_1 ui_X1_add_X1 rfl rfl (by decide) fl_X1_add_15 rfl rfl ?_
  refine x_nif_lt E 40 dX1_add_4 (by decide) (by omega) (fun h => absurd h (fun h => Nat.not_lt_zero _ h)) (fun h4 => ?_)
  refine x_aload_n E 0 dX1_add_7 rfl ?_
  refine x_get E 0 1 dX1_add_8 ui_X1_add_X1 rfl rfl (by decide) fl_X1_add_15 rfl rfl ?_
  refine x_aload_n E 0 dX1_add_11 rfl ?_
  refine x_get E 0 0 dX1_add_12 ui_X1_add_X1 rfl rfl (by decide) fl_X1_add_9 rfl rfl ?_
  refine x_alen E 1 0 8192 dX1_add_15 rfl rfl rfl ?_
  refine x_ncmp_ge E 40 dX1_add_16 (by decide) (by omega) (by decide) (fun h => False.elim (by omega)) (fun h16 => ?_)
  refine x_aload_n E 0 dX1_add_19 rfl ?_
  refine x_get E 0 0 dX1_add_20 ui_X1_add_X1 rfl rfl (by decide) fl_X1_add_9 rfl rfl ?_
  refine x_aload_n E 0 dX1_add_23 rfl ?_
  refine x_get E 0 1 dX1_add_24 ui_X1_add_X1 rfl rfl (by decide) fl_X1_add_15 rfl rfl ?_
  refine x_iload_n E 1 dX1_add_27 rfl ?_
  refine x_i2b E dX1_add_28 ?_
  refine x_bast E 1 0 [(a0, .inr (1, [.ref a1, .int (nI n)])), (a1, .inl (cB, 8192, .inl (bf (va_up g n (u8 b)))))] dX1_add_29 rfl rfl (by omega) (by decide) (u8_b8 b) rfl ?_
  refine x_aload_n E 0 dX1_add_30 rfl ?_
  refine x_dup E dX1_add_31 rfl ?_
  refine x_get E 0 1 dX1_add_32 ui_X1_add_X1 rfl rfl (by decide) fl_X1_add_15 rfl rfl ?_
  refine x_iconst E (v := nI 1) dX1_add_35 (by decide) ?_
  refine x_niadd E dX1_add_36 ?_
  refine x_put E 0 1 [(a0, .inr (1, [.ref a1, .int (nI (n + 1))])), (a1, .inl (cB, 8192, .inl (bf (va_up g n (u8 b)))))] dX1_add_37 ui_X1_add_X1 tyX1_ok nmX1 rfl rfl (by decide) fl_X1_add_15 rfl rfl rfl rfl (Nat.le_of_ble_eq_true rfl) rfl ?_
  exact x_vret E hr hlocks dX1_add_40 ⟨rfl, rfl⟩
set_option maxRecDepth 100000 in
set_option maxHeartbeats 4000000 in
theorem c_X1_alter (l : Launch) (D : va_G) (cB cI cZ cJ : ClassId) (a0 : Nat) (a1 : Nat) (n : Nat) (g : Nat → UInt8) (k : Nat) (x : Int32) (hn : n ≤ 8192) (hk : k < n) : Ct l D vwCl (tyl cB cI cZ cJ) yX1_alter wsX1_alter rmX1_alter [.ref a0, .int (nI k), .int x] [(a0, .inr (1, [.ref a1, .int (nI n)])), (a1, .inl (cB, 8192, .inl (bf g)))] none [(a0, .inr (1, [.ref a1, .int (nI n)])), (a1, .inl (cB, 8192, .inl (bf (va_up g k (u8 (bf g k ^^^ x))))))] := by
  refine x_start (cc := cX1_alter) (maxL := 3) (ret := none) (by decide) rfl (Nat.le_of_ble_eq_true rfl) ?_
  intro xp xe xs xm xb xt xc xA E hr hlocks hnm
  obtain ⟨-, -, -, hown, hts, hK, hA⟩ := id E
  refine x_lve (lv' := [(0, .ref a0), (1, .int (nI k)), (2, .int x)]) rfl ?_
  refine x_iload_n E 1 dX1_alter_0 rfl ?_
  refine x_nif_lt E 36 dX1_alter_1 (by decide) (by omega) (fun h => absurd h (fun h => Nat.not_lt_zero _ h)) (fun h1 => ?_)
  refine x_iload_n E 1 dX1_alter_4 rfl ?_
  refine x_aload_n E 0 dX1_alter_5 rfl ?_
  refine x_get E 0 1 dX1_alter_6 ui_X1_alter_X1 rfl rfl (by decide) fl_X1_alter_15 rfl rfl ?_
  refine x_ncmp_ge E 36 dX1_alter_9 (by decide) (by omega) (by omega) (fun h => False.elim (by omega)) (fun h9 => ?_)
  refine x_iload_n E 1 dX1_alter_12 rfl ?_
  refine x_aload_n E 0 dX1_alter_13 rfl ?_
  refine x_get E 0 0 dX1_alter_14 ui_X1_alter_X1 rfl rfl (by decide) fl_X1_alter_9 rfl rfl ?_
  refine x_alen E 1 0 8192 dX1_alter_17 rfl rfl rfl ?_
  refine x_ncmp_ge E 36 dX1_alter_18 (by decide) (by omega) (by decide) (fun h => False.elim (by omega)) (fun h18 => ?_)
  refine x_aload_n E 0 dX1_alter_21 rfl ?_
  refine x_get E 0 0 dX1_alter_22 ui_X1_alter_X1 rfl rfl (by decide) fl_X1_alter_9 rfl rfl ?_
  refine x_iload_n E 1 dX1_alter_25 rfl ?_
  refine x_aload_n E 0 dX1_alter_26 rfl ?_
  refine x_get E 0 0 dX1_alter_27 ui_X1_alter_X1 rfl rfl (by decide) fl_X1_alter_9 rfl rfl ?_
  refine x_iload_n E 1 dX1_alter_30 rfl ?_
  refine x_bald E 1 0 dX1_alter_31 rfl rfl (by omega) (by decide) ?_
  refine x_iload_n E 2 dX1_alter_32 rfl ?_
  refine x_ixor E dX1_alter_33 ?_
  refine x_i2b E dX1_alter_34 ?_
  refine x_bast E 1 0 [(a0, .inr (1, [.ref a1, .int (nI n)])), (a1, .inl (cB, 8192, .inl (bf (va_up g k (u8 (bf g k ^^^ x))))))] dX1_alter_35 rfl rfl (by omega) (by decide) (u8_b8 _) rfl ?_
  exact x_vret E hr hlocks dX1_alter_36 ⟨rfl, rfl⟩
set_option maxRecDepth 100000 in
set_option maxHeartbeats 4000000 in
theorem c_X1_cutTo (l : Launch) (D : va_G) (cB cI cZ cJ : ClassId) (a0 : Nat) (a1 : Nat) (n : Nat) (g : Nat → UInt8) (k : Nat) (hn : n ≤ 8192) (hk : k < 2 ^ 31) : Ct l D vwCl (tyl cB cI cZ cJ) yX1_cutTo wsX1_cutTo rmX1_cutTo [.ref a0, .int (nI k)] [(a0, .inr (1, [.ref a1, .int (nI n)])), (a1, .inl (cB, 8192, .inl (bf g)))] none [(a0, .inr (1, [.ref a1, .int (nI (if k < n then k else n))])), (a1, .inl (cB, 8192, .inl (bf g)))] := by
  refine x_start (cc := cX1_cutTo) (maxL := 2) (ret := none) (by decide) rfl (Nat.le_of_ble_eq_true rfl) ?_
  intro xp xe xs xm xb xt xc xA E hr hlocks hnm
  obtain ⟨-, -, -, hown, hts, hK, hA⟩ := id E
  refine x_lve (lv' := [(0, .ref a0), (1, .int (nI k))]) rfl ?_
  refine x_iload_n E 1 dX1_cutTo_0 rfl ?_
  refine x_nif_lt E 17 dX1_cutTo_1 (by decide) (by omega) (fun h => absurd h (fun h => Nat.not_lt_zero _ h)) (fun h1 => ?_)
  refine x_iload_n E 1 dX1_cutTo_4 rfl ?_
  refine x_aload_n E 0 dX1_cutTo_5 rfl ?_
  refine x_get E 0 1 dX1_cutTo_6 ui_X1_cutTo_X1 rfl rfl (by decide) fl_X1_cutTo_15 rfl rfl ?_
  refine x_ncmp_ge E 17 dX1_cutTo_9 (by decide) (by omega) (by omega) (fun h9 => ?_) (fun h9 => ?_)
  · exact x_vret E hr hlocks dX1_cutTo_17 ⟨rfl, by rw [if_neg (by omega)]⟩
  · refine x_aload_n E 0 dX1_cutTo_12 rfl ?_
    refine x_iload_n E 1 dX1_cutTo_13 rfl ?_
    refine x_put E 0 1 [(a0, .inr (1, [.ref a1, .int (nI k)])), (a1, .inl (cB, 8192, .inl (bf g)))] dX1_cutTo_14 ui_X1_cutTo_X1 tyX1_ok nmX1 rfl rfl (by decide) fl_X1_cutTo_15 rfl rfl rfl rfl (Nat.le_of_ble_eq_true rfl) rfl ?_
    exact x_vret E hr hlocks dX1_cutTo_17 ⟨rfl, by rw [if_pos (by omega)]⟩
set_option maxRecDepth 100000 in
set_option maxHeartbeats 4000000 in
theorem c_X1_dropFirst (l : Launch) (D : va_G) (cB cI cZ cJ : ClassId) (a0 : Nat) (a1 : Nat) (n : Nat) (g : Nat → UInt8) (k : Nat) (hn : n ≤ 8192) (hk : k ≤ n) : Ct l D vwCl (tyl cB cI cZ cJ) yX1_dropFirst wsX1_dropFirst rmX1_dropFirst [.ref a0, .int (nI k)] [(a0, .inr (1, [.ref a1, .int (nI n)])), (a1, .inl (cB, 8192, .inl (bf g)))] none [(a0, .inr (1, [.ref a1, .int (nI (n - k))])), (a1, .inl (cB, 8192, .inl (bf (va_cpy g g k 0 (n - k)))))] := by
  refine x_start (cc := cX1_dropFirst) (maxL := 2) (ret := none) (by decide) rfl (Nat.le_of_ble_eq_true rfl) ?_
  intro xp xe xs xm xb xt xc xA E hr hlocks hnm
  obtain ⟨-, -, -, hown, hts, hK, hA⟩ := id E
  refine x_lve (lv' := [(0, .ref a0), (1, .int (nI k))]) rfl ?_
  refine x_iload_n E 1 dX1_dropFirst_0 rfl ?_
  refine x_nif_lt E 53 dX1_dropFirst_1 (by decide) (by omega) (fun h => absurd h (fun h => Nat.not_lt_zero _ h)) (fun h1 => ?_)
  refine x_iload_n E 1 dX1_dropFirst_4 rfl ?_
  refine x_aload_n E 0 dX1_dropFirst_5 rfl ?_
  refine x_get E 0 1 dX1_dropFirst_6 ui_X1_dropFirst_X1 rfl rfl (by decide) fl_X1_dropFirst_15 rfl rfl ?_
  refine x_ncmp_gt E 53 dX1_dropFirst_9 (by decide) (by omega) (by omega) (fun h => False.elim (by omega)) (fun h9 => ?_)
  refine x_aload_n E 0 dX1_dropFirst_12 rfl ?_
  refine x_get E 0 1 dX1_dropFirst_13 ui_X1_dropFirst_X1 rfl rfl (by decide) fl_X1_dropFirst_15 rfl rfl ?_
  refine x_aload_n E 0 dX1_dropFirst_16 rfl ?_
  refine x_get E 0 0 dX1_dropFirst_17 ui_X1_dropFirst_X1 rfl rfl (by decide) fl_X1_dropFirst_9 rfl rfl ?_
  refine x_alen E 1 0 8192 dX1_dropFirst_20 rfl rfl rfl ?_
  refine x_ncmp_gt E 53 dX1_dropFirst_21 (by decide) (by omega) (by decide) (fun h => False.elim (by omega)) (fun h21 => ?_)
  refine x_aload_n E 0 dX1_dropFirst_24 rfl ?_
  refine x_get E 0 0 dX1_dropFirst_25 ui_X1_dropFirst_X1 rfl rfl (by decide) fl_X1_dropFirst_9 rfl rfl ?_
  refine x_iload_n E 1 dX1_dropFirst_28 rfl ?_
  refine x_aload_n E 0 dX1_dropFirst_29 rfl ?_
  refine x_get E 0 0 dX1_dropFirst_30 ui_X1_dropFirst_X1 rfl rfl (by decide) fl_X1_dropFirst_9 rfl rfl ?_
  refine x_iconst E (v := nI 0) dX1_dropFirst_33 (by decide) ?_
  refine x_aload_n E 0 dX1_dropFirst_34 rfl ?_
  refine x_get E 0 1 dX1_dropFirst_35 ui_X1_dropFirst_X1 rfl rfl (by decide) fl_X1_dropFirst_15 rfl rfl ?_
  refine x_iload_n E 1 dX1_dropFirst_38 rfl ?_
  refine x_nisub E dX1_dropFirst_39 (by omega) ?_
  refine x_bcopy E 1 0 [(a0, .inr (1, [.ref a1, .int (nI n)])), (a1, .inl (cB, 8192, .inl (bf (va_cpy g g k 0 (n - k)))))] dX1_dropFirst_40 rfl rfl (by decide) (by omega) (by omega) ac_X1_dropFirstl ac_X1_dropFirstn ac_X1_dropFirsts ac_X1_dropFirsti (Nat.le_of_ble_eq_true rfl) (Nat.le_of_ble_eq_true rfl) rfl ?_
  refine x_aload_n E 0 dX1_dropFirst_43 rfl ?_
  refine x_dup E dX1_dropFirst_44 rfl ?_
  refine x_get E 0 1 dX1_dropFirst_45 ui_X1_dropFirst_X1 rfl rfl (by decide) fl_X1_dropFirst_15 rfl rfl ?_
  refine x_iload_n E 1 dX1_dropFirst_48 rfl ?_
  refine x_nisub E dX1_dropFirst_49 (by omega) ?_
  refine x_put E 0 1 [(a0, .inr (1, [.ref a1, .int (nI (n - k))])), (a1, .inl (cB, 8192, .inl (bf (va_cpy g g k 0 (n - k)))))] dX1_dropFirst_50 ui_X1_dropFirst_X1 tyX1_ok nmX1 rfl rfl (by decide) fl_X1_dropFirst_15 rfl rfl rfl rfl (Nat.le_of_ble_eq_true rfl) rfl ?_
  exact x_vret E hr hlocks dX1_dropFirst_53 ⟨rfl, rfl⟩
set_option maxRecDepth 100000 in
set_option maxHeartbeats 4000000 in
theorem c_X1_addNumber (l : Launch) (D : va_G) (cB cI cZ cJ : ClassId) (a0 : Nat) (a1 : Nat) (n : Nat) (g : Nat → UInt8) (v : Int32) (w : Nat) (hn : n + w ≤ 8192) : Ct l D vwCl (tyl cB cI cZ cJ) yX1_addNumber wsX1_addNumber rmX1_addNumber [.ref a0, .int v, .int (nI w)] [(a0, .inr (1, [.ref a1, .int (nI n)])), (a1, .inl (cB, 8192, .inl (bf g)))] none [(a0, .inr (1, [.ref a1, .int (nI (n + w))])), (a1, .inl (cB, 8192, .inl (bf (app g n (beL v w)))))] := by
  refine x_start (cc := cX1_addNumber) (maxL := 4) (ret := none) (by decide) rfl (Nat.le_of_ble_eq_true rfl) ?_
  intro xp xe xs xm xb xt xc xA E hr hlocks hnm
  obtain ⟨-, -, -, hown, hts, hK, hA⟩ := id E
  refine x_lve (lv' := [(0, .ref a0), (1, .int v), (2, .int (nI w))]) rfl ?_
  have loop : ∀ (k n' : Nat) (g' : Nat → UInt8), n' + k = n + w → app g' n' (beL v k) = app g n (beL v w) → Xs xp l xe rmX1_addNumber xs xm ([.ref a0, .int v, .int (nI w)] : List Value).toArray xb xt xc D vwCl xA 4 0 0 (MQ xb (CQ D vwCl (tyl cB cI cZ cJ) xA (fun r u => r = none ∧ u = [(a0, .inr (1, [.ref a1, .int (nI (n + w))])), (a1, .inl (cB, 8192, .inl (bf (app g n (beL v w)))))])) ([.ref a0, .int v, .int (nI w)] : List Value).toArray xs 0 0 xA) [(a0, .inr (1, [.ref a1, .int (nI n')])), (a1, .inl (cB, 8192, .inl (bf g')))] [(3, .int (nI k - nI 1)), (0, .ref a0), (1, .int v), (2, .int (nI w))] 4 [] := by
    intro k
    induction k with
    | zero =>
      intro n' g' h1 h2
      refine x_iload_n E 0 dX1_addNumber_4 rfl ?_
      refine x_if_lt E 24 dX1_addNumber_5 (by decide) (fun h5 => ?_) (fun h => absurd h (fun h => h (by decide)))
      exact x_vret E hr hlocks dX1_addNumber_24 ⟨rfl, by rw [← h2, ← h1]; rfl⟩
    | succ k ih =>
      intro n' g' h1 h2
      refine x_lve (lv' := [(3, .int (nI k)), (0, .ref a0), (1, .int v), (2, .int (nI w))]) (by rw [nIp]) ?_
      refine x_iload_n E 0 dX1_addNumber_4 rfl ?_
      refine x_nif_lt E 24 dX1_addNumber_5 (by decide) (by omega) (fun h => absurd h (fun h => Nat.not_lt_zero _ h)) (fun h5 => ?_)
      refine x_aload_n E 1 dX1_addNumber_8 rfl ?_
      refine x_iload_n E 2 dX1_addNumber_9 rfl ?_
      refine x_bipush E (v := nI 8) dX1_addNumber_10 (by decide) ?_
      refine x_iload_n E 0 dX1_addNumber_12 rfl ?_
      refine x_nimul E dX1_addNumber_13 ?_
      refine x_iushr E dX1_addNumber_14 rfl ?_
      refine x_cV E [.int ((v.toUInt32 >>> ((nI (8 * k)).toUInt32 &&& Int32.toUInt32 31)).toInt32)] [] [] [(a0, .inr (1, [.ref a1, .int (nI (n' + 1))])), (a1, .inl (cB, 8192, .inl (bf (va_up g' n' (u8 ((v.toUInt32 >>> ((nI (8 * k)).toUInt32 &&& Int32.toUInt32 31)).toInt32))))))] (c_X1_add l D cB cI cZ cJ a0 a1 n' g' ((v.toUInt32 >>> ((nI (8 * k)).toUInt32 &&& Int32.toUInt32 31)).toInt32) (by omega)) 0 rfl rfl (cwV 1 hts gX1_addNumber_X1_add rfl rfl rfl (by decide +kernel) ⟨Nat.le_of_ble_eq_true rfl, Nat.le_of_ble_eq_true rfl⟩) [0, 1] [] rfl rfl (by decide) (by decide) (by decide) [0, 1] (by decide) rfl rfl (Nat.le_of_ble_eq_true rfl) dX1_addNumber_15 ⟨Nat.zero_le _, Nat.zero_le _⟩ rfl rfl ?_
      refine x_iinc E 0 [(3, .int (nI k - nI 1)), (0, .ref a0), (1, .int v), (2, .int (nI w))] dX1_addNumber_18 rfl (nIm _) (by decide) rfl ?_
      refine x_goto E 4 dX1_addNumber_21 (by decide) ?_
      exact ih (n' + 1) _ (by omega) (by rw [← h2]; rfl)
  refine x_iload_n E 2 dX1_addNumber_0 rfl ?_
  refine x_iconst E (v := nI 1) dX1_addNumber_1 (by decide) ?_
  refine x_isub E dX1_addNumber_2 ?_
  refine x_istore_n E [(3, .int ((nI w) - (nI 1))), (0, .ref a0), (1, .int v), (2, .int (nI w))] dX1_addNumber_3 (by decide) rfl ?_
  exact loop w n g rfl rfl
set_option maxRecDepth 100000 in
set_option maxHeartbeats 4000000 in
theorem c_X1_number (l : Launch) (D : va_G) (cB cI cZ cJ : ClassId) (a0 : Nat) (a1 : Nat) (n : Nat) (g : Nat → UInt8) (p0 : Nat) (w : Nat) (hn : n ≤ 8192) (hp : p0 + w ≤ n) : Ct l D vwCl (tyl cB cI cZ cJ) yX1_number wsX1_number rmX1_number [.ref a0, .int (nI p0), .int (nI w)] [(a0, .inr (1, [.ref a1, .int (nI n)])), (a1, .inl (cB, 8192, .inl (bf g)))] (some (.int (beG g p0 w (nI 0)))) [(a0, .inr (1, [.ref a1, .int (nI n)])), (a1, .inl (cB, 8192, .inl (bf g)))] := by
  refine x_start (cc := cX1_number) (maxL := 5) (ret := (some .int)) (by decide) rfl (Nat.le_of_ble_eq_true rfl) ?_
  intro xp xe xs xm xb xt xc xA E hr hlocks hnm
  obtain ⟨-, -, -, hown, hts, hK, hA⟩ := id E
  refine x_lve (lv' := [(0, .ref a0), (1, .int (nI p0)), (2, .int (nI w))]) rfl ?_
  have loop : ∀ (k i : Nat) (v9 : Int32), i + k = w → beG g (p0 + i) k v9 = beG g p0 w (nI 0) → Xs xp l xe rmX1_number xs xm ([.ref a0, .int (nI p0), .int (nI w)] : List Value).toArray xb xt xc D vwCl xA 5 0 0 (MQ xb (CQ D vwCl (tyl cB cI cZ cJ) xA (fun r u => r = (some (.int (beG g p0 w (nI 0)))) ∧ u = [(a0, .inr (1, [.ref a1, .int (nI n)])), (a1, .inl (cB, 8192, .inl (bf g)))])) ([.ref a0, .int (nI p0), .int (nI w)] : List Value).toArray xs 0 0 xA) [(a0, .inr (1, [.ref a1, .int (nI n)])), (a1, .inl (cB, 8192, .inl (bf g)))] [(4, .int (nI i)), (3, .int v9), (0, .ref a0), (1, .int (nI p0)), (2, .int (nI w))] 5 [] := by
    intro k
    induction k with
    | zero =>
      intro i v9 h1 h2
      refine x_iload E 0 dX1_number_5 rfl ?_
      refine x_iload_n E 4 dX1_number_7 rfl ?_
      refine x_ncmp_ge E 35 dX1_number_8 (by decide) (by omega) (by omega) (fun h8 => ?_) (fun h => False.elim (by omega))
      refine x_iload_n E 1 dX1_number_35 rfl ?_
      exact x_iret E hr hlocks dX1_number_36 ⟨by rw [← h2]; rfl, rfl⟩
    | succ k ih =>
      intro i v9 h1 h2
      refine x_iload E 0 dX1_number_5 rfl ?_
      refine x_iload_n E 4 dX1_number_7 rfl ?_
      refine x_ncmp_ge E 35 dX1_number_8 (by decide) (by omega) (by omega) (fun h => False.elim (by omega)) (fun h8 => ?_)
      refine x_iload_n E 1 dX1_number_11 rfl ?_
      refine x_bipush E (v := nI 8) dX1_number_12 (by decide) ?_
      refine x_ishl E dX1_number_14 ?_
      refine x_aload_n E 2 dX1_number_15 rfl ?_
      refine x_iload_n E 3 dX1_number_16 rfl ?_
      refine x_iload E 0 dX1_number_17 rfl ?_
      refine x_niadd E dX1_number_19 ?_
      refine x_cV E [.int (nI (p0 + i))] [.int (v9 <<< ((nI 8) &&& 31))] [.int (nI ((g (p0 + i)).toNat)), .int (v9 <<< ((nI 8) &&& 31))] [(a0, .inr (1, [.ref a1, .int (nI n)])), (a1, .inl (cB, 8192, .inl (bf g)))] (c_X1_get_in l D cB cI cZ cJ a0 a1 n g (p0 + i) (by omega) (by omega)) 0 rfl rfl (cwV 1 hts gX1_number_X1_get rfl rfl rfl (by decide +kernel) ⟨Nat.le_of_ble_eq_true rfl, Nat.le_of_ble_eq_true rfl⟩) [0, 1] [] rfl rfl (by decide) (by decide) (by decide) [0, 1] (by decide) rfl rfl (Nat.le_of_ble_eq_true rfl) dX1_number_20 ⟨Nat.zero_le _, Nat.zero_le _⟩ rfl rfl ?_
      refine x_sipush E (v := nI 255) dX1_number_23 (by decide) ?_
      refine x_iand' E dX1_number_26 (u_n255 _) ?_
      refine x_ior E dX1_number_27 ?_
      refine x_istore_n E [(3, .int ((v9 <<< ((nI 8) &&& 31)) ||| (nI ((g (p0 + i)).toNat)))), (4, .int (nI i)), (0, .ref a0), (1, .int (nI p0)), (2, .int (nI w))] dX1_number_28 (by decide) rfl ?_
      refine x_iinc E 1 [(4, .int (nI (i + 1))), (3, .int ((v9 <<< ((nI 8) &&& 31)) ||| (nI ((g (p0 + i)).toNat)))), (0, .ref a0), (1, .int (nI p0)), (2, .int (nI w))] dX1_number_29 rfl (nI_add _ _) (by decide) rfl ?_
      refine x_goto E 5 dX1_number_32 (by decide) ?_
      exact ih (i + 1) _ (by omega) (by rw [← h2, beG_s]; rfl)
  refine x_iconst E (v := nI 0) dX1_number_0 (by decide) ?_
  refine x_istore_n E [(3, .int (nI 0)), (0, .ref a0), (1, .int (nI p0)), (2, .int (nI w))] dX1_number_1 (by decide) rfl ?_
  refine x_iconst E (v := nI 0) dX1_number_2 (by decide) ?_
  refine x_istore E [(4, .int (nI 0)), (3, .int (nI 0)), (0, .ref a0), (1, .int (nI p0)), (2, .int (nI w))] dX1_number_3 (by decide) rfl ?_
  exact loop w 0 (nI 0) (by omega) rfl
set_option maxRecDepth 100000 in
set_option maxHeartbeats 4000000 in
theorem c_X1_sumOf (l : Launch) (D : va_G) (cB cI cZ cJ : ClassId) (a0 : Nat) (a1 : Nat) (n : Nat) (g : Nat → UInt8) (p0 : Nat) (q0 : Nat) (b : Int32) (hn : n ≤ 8192) (hp : p0 ≤ q0) (hq : q0 ≤ n) : Ct l D vwCl (tyl cB cI cZ cJ) yX1_sumOf wsX1_sumOf rmX1_sumOf [.ref a0, .int (nI p0), .int (nI q0), .int b] [(a0, .inr (1, [.ref a1, .int (nI n)])), (a1, .inl (cB, 8192, .inl (bf g)))] (some (.int (smG g p0 (q0 - p0) b))) [(a0, .inr (1, [.ref a1, .int (nI n)])), (a1, .inl (cB, 8192, .inl (bf g)))] := by
  refine x_start (cc := cX1_sumOf) (maxL := 6) (ret := (some .int)) (by decide) rfl (Nat.le_of_ble_eq_true rfl) ?_
  intro xp xe xs xm xb xt xc xA E hr hlocks hnm
  obtain ⟨-, -, -, hown, hts, hK, hA⟩ := id E
  refine x_lve (lv' := [(0, .ref a0), (1, .int (nI p0)), (2, .int (nI q0)), (3, .int b)]) rfl ?_
  have loop : ∀ (k i : Nat) (v9 : Int32), i + k = q0 → smG g i k v9 = smG g p0 (q0 - p0) b → Xs xp l xe rmX1_sumOf xs xm ([.ref a0, .int (nI p0), .int (nI q0), .int b] : List Value).toArray xb xt xc D vwCl xA 6 0 0 (MQ xb (CQ D vwCl (tyl cB cI cZ cJ) xA (fun r u => r = (some (.int (smG g p0 (q0 - p0) b))) ∧ u = [(a0, .inr (1, [.ref a1, .int (nI n)])), (a1, .inl (cB, 8192, .inl (bf g)))])) ([.ref a0, .int (nI p0), .int (nI q0), .int b] : List Value).toArray xs 0 0 xA) [(a0, .inr (1, [.ref a1, .int (nI n)])), (a1, .inl (cB, 8192, .inl (bf g)))] [(5, .int (nI i)), (4, .int v9), (0, .ref a0), (1, .int (nI p0)), (2, .int (nI q0)), (3, .int b)] 6 [] := by
    intro k
    induction k with
    | zero =>
      intro i v9 h1 h2
      refine x_iload E 0 dX1_sumOf_6 rfl ?_
      refine x_iload_n E 4 dX1_sumOf_8 rfl ?_
      refine x_ncmp_ge E 41 dX1_sumOf_9 (by decide) (by omega) (by omega) (fun h9 => ?_) (fun h => False.elim (by omega))
      refine x_iload E 1 dX1_sumOf_41 rfl ?_
      exact x_iret E hr hlocks dX1_sumOf_43 ⟨by rw [← h2]; rfl, rfl⟩
    | succ k ih =>
      intro i v9 h1 h2
      refine x_iload E 0 dX1_sumOf_6 rfl ?_
      refine x_iload_n E 4 dX1_sumOf_8 rfl ?_
      refine x_ncmp_ge E 41 dX1_sumOf_9 (by decide) (by omega) (by omega) (fun h => False.elim (by omega)) (fun h9 => ?_)
      refine x_iload E 1 dX1_sumOf_12 rfl ?_
      refine x_aload_n E 2 dX1_sumOf_14 rfl ?_
      refine x_iload E 0 dX1_sumOf_15 rfl ?_
      refine x_cV E [.int (nI i)] [.int v9] [.int (nI ((g i).toNat)), .int v9] [(a0, .inr (1, [.ref a1, .int (nI n)])), (a1, .inl (cB, 8192, .inl (bf g)))] (c_X1_get_in l D cB cI cZ cJ a0 a1 n g i (by omega) (by omega)) 0 rfl rfl (cwV 1 hts gX1_sumOf_X1_get rfl rfl rfl (by decide +kernel) ⟨Nat.le_of_ble_eq_true rfl, Nat.le_of_ble_eq_true rfl⟩) [0, 1] [] rfl rfl (by decide) (by decide) (by decide) [0, 1] (by decide) rfl rfl (Nat.le_of_ble_eq_true rfl) dX1_sumOf_17 ⟨Nat.zero_le _, Nat.zero_le _⟩ rfl rfl ?_
      refine x_sipush E (v := nI 255) dX1_sumOf_20 (by decide) ?_
      refine x_iand' E dX1_sumOf_23 (u_n255 _) ?_
      refine x_ixor E dX1_sumOf_24 ?_
      refine x_bipush E (v := nI 13) dX1_sumOf_25 (by decide) ?_
      refine x_cS E [.int (v9 ^^^ (nI ((g i).toNat))), .int (nI 13)] [] [.int (rol (v9 ^^^ (nI ((g i).toNat))) (nI 13))] [(a0, .inr (1, [.ref a1, .int (nI n)])), (a1, .inl (cB, 8192, .inl (bf g)))] (c_J6_rotateLeft_7cf53 l D cB cI cZ cJ (v9 ^^^ (nI ((g i).toNat))) (nI 13) ) (va_cwS 2 hts gX1_sumOf_J6_rotateLeft_7cf53 rfl rfl rfl (by decide +kernel) ⟨Nat.le_of_ble_eq_true rfl, Nat.le_of_ble_eq_true rfl⟩) [] [0, 1] rfl rfl (by decide) (by decide) (by decide) [0, 1] (by decide) rfl rfl (Nat.le_of_ble_eq_true rfl) dX1_sumOf_27 ⟨Nat.zero_le _, Nat.zero_le _⟩ rfl rfl ?_
      refine x_ldc E (v := nI 668265263) dX1_sumOf_30 cn_X1_sumOf_33 (by decide +kernel) ?_
      refine x_imul E dX1_sumOf_32 ?_
      refine x_istore E [(4, .int ((rol (v9 ^^^ (nI ((g i).toNat))) (nI 13)) * (nI 668265263))), (5, .int (nI i)), (0, .ref a0), (1, .int (nI p0)), (2, .int (nI q0)), (3, .int b)] dX1_sumOf_33 (by decide) rfl ?_
      refine x_iinc E 1 [(5, .int (nI (i + 1))), (4, .int ((rol (v9 ^^^ (nI ((g i).toNat))) (nI 13)) * (nI 668265263))), (0, .ref a0), (1, .int (nI p0)), (2, .int (nI q0)), (3, .int b)] dX1_sumOf_35 rfl (nI_add _ _) (by decide) rfl ?_
      refine x_goto E 6 dX1_sumOf_38 (by decide) ?_
      exact ih (i + 1) _ (by omega) (by rw [← h2, smG_s, sm_e])
  refine x_iload_n E 3 dX1_sumOf_0 rfl ?_
  refine x_istore E [(4, .int b), (0, .ref a0), (1, .int (nI p0)), (2, .int (nI q0)), (3, .int b)] dX1_sumOf_1 (by decide) rfl ?_
  refine x_iload_n E 2 dX1_sumOf_3 rfl ?_
  refine x_istore E [(5, .int (nI p0)), (4, .int b), (0, .ref a0), (1, .int (nI p0)), (2, .int (nI q0)), (3, .int b)] dX1_sumOf_4 (by decide) rfl ?_
  exact loop (q0 - p0) p0 b (by omega) rfl
set_option maxRecDepth 100000 in
set_option maxHeartbeats 4000000 in
theorem c_X1_agrees (l : Launch) (D : va_G) (cB cI cZ cJ : ClassId) (a0 : Nat) (a1 : Nat) (n : Nat) (g : Nat → UInt8) (b0 : Nat) (b1 : Nat) (n2 : Nat) (g2 : Nat → UInt8) (p0 : Nat) (q0 : Nat) (hn : n ≤ 8192) (hn2 : n2 ≤ 8192) (hp : p0 ≤ q0) (hq : q0 < 2 ^ 31) : Ct l D vwCl (tyl cB cI cZ cJ) yX1_agrees wsX1_agrees rmX1_agrees [.ref a0, .ref b0, .int (nI p0), .int (nI q0)] [(a0, .inr (1, [.ref a1, .int (nI n)])), (a1, .inl (cB, 8192, .inl (bf g))), (b0, .inr (1, [.ref b1, .int (nI n2)])), (b1, .inl (cB, 8192, .inl (bf g2)))] (some (.int (if agr n g n2 g2 p0 (q0 - p0) = true then 1 else 0))) [(a0, .inr (1, [.ref a1, .int (nI n)])), (a1, .inl (cB, 8192, .inl (bf g))), (b0, .inr (1, [.ref b1, .int (nI n2)])), (b1, .inl (cB, 8192, .inl (bf g2)))] := by
  refine x_start (cc := cX1_agrees) (maxL := 5) (ret := (some .boolean)) (by decide) rfl (Nat.le_of_ble_eq_true rfl) ?_
  intro xp xe xs xm xb xt xc xA E hr hlocks hnm
  obtain ⟨-, -, -, hown, hts, hK, hA⟩ := id E
  refine x_lve (lv' := [(0, .ref a0), (1, .ref b0), (2, .int (nI p0)), (3, .int (nI q0))]) rfl ?_
  have loop : ∀ (k i : Nat), i + k = q0 → agr n g n2 g2 i k = agr n g n2 g2 p0 (q0 - p0) → Xs xp l xe rmX1_agrees xs xm ([.ref a0, .ref b0, .int (nI p0), .int (nI q0)] : List Value).toArray xb xt xc D vwCl xA 5 0 0 (MQ xb (CQ D vwCl (tyl cB cI cZ cJ) xA (fun r u => r = (some (.int (if agr n g n2 g2 p0 (q0 - p0) = true then 1 else 0))) ∧ u = [(a0, .inr (1, [.ref a1, .int (nI n)])), (a1, .inl (cB, 8192, .inl (bf g))), (b0, .inr (1, [.ref b1, .int (nI n2)])), (b1, .inl (cB, 8192, .inl (bf g2)))])) ([.ref a0, .ref b0, .int (nI p0), .int (nI q0)] : List Value).toArray xs 0 0 xA) [(a0, .inr (1, [.ref a1, .int (nI n)])), (a1, .inl (cB, 8192, .inl (bf g))), (b0, .inr (1, [.ref b1, .int (nI n2)])), (b1, .inl (cB, 8192, .inl (bf g2)))] [(4, .int (nI i)), (0, .ref a0), (1, .ref b0), (2, .int (nI p0)), (3, .int (nI q0))] 3 [] := by
    intro k
    induction k with
    | zero =>
      intro i h1 h2
      refine x_iload E 0 dX1_agrees_3 rfl ?_
      refine x_iload_n E 4 dX1_agrees_5 rfl ?_
      refine x_ncmp_ge E 32 dX1_agrees_6 (by decide) (by omega) (by omega) (fun h6 => ?_) (fun h => False.elim (by omega))
      refine x_iconst E (v := nI 1) dX1_agrees_32 (by decide) ?_
      exact x_zret E hr hlocks dX1_agrees_33 rfl ⟨q_t' h2.symm, rfl⟩
    | succ k ih =>
      intro i h1 h2
      refine x_iload E 0 dX1_agrees_3 rfl ?_
      refine x_iload_n E 4 dX1_agrees_5 rfl ?_
      refine x_ncmp_ge E 32 dX1_agrees_6 (by decide) (by omega) (by omega) (fun h => False.elim (by omega)) (fun h6 => ?_)
      refine x_aload_n E 1 dX1_agrees_9 rfl ?_
      refine x_iload E 0 dX1_agrees_10 rfl ?_
      refine x_cV E [.int (nI i)] [] [.int (gt n g i)] [(a0, .inr (1, [.ref a1, .int (nI n)])), (a1, .inl (cB, 8192, .inl (bf g))), (b0, .inr (1, [.ref b1, .int (nI n2)])), (b1, .inl (cB, 8192, .inl (bf g2)))] (c_X1_get l D cB cI cZ cJ a0 a1 n g i (by omega) (by omega)) 0 rfl rfl (cwV 1 hts gX1_agrees_X1_get rfl rfl rfl (by decide +kernel) ⟨Nat.le_of_ble_eq_true rfl, Nat.le_of_ble_eq_true rfl⟩) [0, 1] [2, 3] rfl rfl (by decide) (by decide) (by decide) [2, 3, 0, 1] (by decide) rfl rfl (Nat.le_of_ble_eq_true rfl) dX1_agrees_12 ⟨Nat.zero_le _, Nat.zero_le _⟩ rfl rfl ?_
      refine x_aload_n E 2 dX1_agrees_15 rfl ?_
      refine x_iload E 0 dX1_agrees_16 rfl ?_
      refine x_cV E [.int (nI i)] [.int (gt n g i)] [.int (gt n2 g2 i), .int (gt n g i)] [(a0, .inr (1, [.ref a1, .int (nI n)])), (a1, .inl (cB, 8192, .inl (bf g))), (b0, .inr (1, [.ref b1, .int (nI n2)])), (b1, .inl (cB, 8192, .inl (bf g2)))] (c_X1_get l D cB cI cZ cJ b0 b1 n2 g2 i (by omega) (by omega)) 0 rfl rfl (cwV 1 hts gX1_agrees_X1_get rfl rfl rfl (by decide +kernel) ⟨Nat.le_of_ble_eq_true rfl, Nat.le_of_ble_eq_true rfl⟩) [2, 3] [0, 1] rfl rfl (by decide) (by decide) (by decide) [0, 1, 2, 3] (by decide) rfl rfl (Nat.le_of_ble_eq_true rfl) dX1_agrees_18 ⟨Nat.zero_le _, Nat.zero_le _⟩ rfl rfl ?_
      refine x_icmp_eq E 26 dX1_agrees_21 (by decide) (fun h21 => ?_) (fun h21 => ?_)
      · refine x_iinc E 0 [(4, .int (nI (i + 1))), (0, .ref a0), (1, .ref b0), (2, .int (nI p0)), (3, .int (nI q0))] dX1_agrees_26 rfl (nI_add _ _) (by decide) rfl ?_
        refine x_goto E 3 dX1_agrees_29 (by decide) ?_
        exact ih (i + 1) (by omega) (by rw [← h2, agr_s, if_pos h21])
      · refine x_iconst E (v := nI 0) dX1_agrees_24 (by decide) ?_
        exact x_zret E hr hlocks dX1_agrees_25 rfl ⟨q_f' (by rw [← h2, agr_s, if_neg h21]), rfl⟩
  refine x_iload_n E 2 dX1_agrees_0 rfl ?_
  refine x_istore E [(4, .int (nI p0)), (0, .ref a0), (1, .ref b0), (2, .int (nI p0)), (3, .int (nI q0))] dX1_agrees_1 (by decide) rfl ?_
  exact loop (q0 - p0) p0 (by omega) rfl
set_option maxRecDepth 100000 in
set_option maxHeartbeats 4000000 in
theorem c_X1_copyFrom (l : Launch) (D : va_G) (cB cI cZ cJ : ClassId) (a0 : Nat) (a1 : Nat) (n : Nat) (g : Nat → UInt8) (b0 : Nat) (b1 : Nat) (n2 : Nat) (g2 : Nat → UInt8) (p0 : Nat) (q0 : Nat) (hn : n ≤ 8192) (hn2 : n2 ≤ 8192) (hp : p0 ≤ q0) (hq : q0 ≤ 8192) : Ct l D vwCl (tyl cB cI cZ cJ) yX1_copyFrom wsX1_copyFrom rmX1_copyFrom [.ref a0, .ref b0, .int (nI p0), .int (nI q0)] [(a0, .inr (1, [.ref a1, .int (nI n)])), (a1, .inl (cB, 8192, .inl (bf g))), (b0, .inr (1, [.ref b1, .int (nI n2)])), (b1, .inl (cB, 8192, .inl (bf g2)))] none [(a0, .inr (1, [.ref a1, .int (nI ((cpF n2 g2 p0 (q0 - p0) (n, g)).1))])), (a1, .inl (cB, 8192, .inl (bf ((cpF n2 g2 p0 (q0 - p0) (n, g)).2)))), (b0, .inr (1, [.ref b1, .int (nI n2)])), (b1, .inl (cB, 8192, .inl (bf g2)))] := by
  refine x_start (cc := cX1_copyFrom) (maxL := 5) (ret := none) (by decide) rfl (Nat.le_of_ble_eq_true rfl) ?_
  intro xp xe xs xm xb xt xc xA E hr hlocks hnm
  obtain ⟨-, -, -, hown, hts, hK, hA⟩ := id E
  refine x_lve (lv' := [(0, .ref a0), (1, .ref b0), (2, .int (nI p0)), (3, .int (nI q0))]) rfl ?_
  have loop : ∀ (k i n' : Nat) (g' : Nat → UInt8), i + k = q0 → n' ≤ 8192 → cpF n2 g2 i k (n', g') = cpF n2 g2 p0 (q0 - p0) (n, g) → Xs xp l xe rmX1_copyFrom xs xm ([.ref a0, .ref b0, .int (nI p0), .int (nI q0)] : List Value).toArray xb xt xc D vwCl xA 5 0 0 (MQ xb (CQ D vwCl (tyl cB cI cZ cJ) xA (fun r u => r = none ∧ u = [(a0, .inr (1, [.ref a1, .int (nI ((cpF n2 g2 p0 (q0 - p0) (n, g)).1))])), (a1, .inl (cB, 8192, .inl (bf ((cpF n2 g2 p0 (q0 - p0) (n, g)).2)))), (b0, .inr (1, [.ref b1, .int (nI n2)])), (b1, .inl (cB, 8192, .inl (bf g2)))])) ([.ref a0, .ref b0, .int (nI p0), .int (nI q0)] : List Value).toArray xs 0 0 xA) [(a0, .inr (1, [.ref a1, .int (nI n')])), (a1, .inl (cB, 8192, .inl (bf g'))), (b0, .inr (1, [.ref b1, .int (nI n2)])), (b1, .inl (cB, 8192, .inl (bf g2)))] [(4, .int (nI i)), (0, .ref a0), (1, .ref b0), (2, .int (nI p0)), (3, .int (nI q0))] 3 [] := by
    intro k
    induction k with
    | zero =>
      intro i n' g' h1 hn' h2
      refine x_iload E 0 dX1_copyFrom_3 rfl ?_
      refine x_iload_n E 4 dX1_copyFrom_5 rfl ?_
      refine x_ncmp_ge E 75 dX1_copyFrom_6 (by decide) (by omega) (by omega) (fun h6 => ?_) (fun h => False.elim (by omega))
      exact x_vret E hr hlocks dX1_copyFrom_75 ⟨rfl, by rw [← h2]; rfl⟩
    | succ k ih =>
      intro i n' g' h1 hn' h2
      refine x_iload E 0 dX1_copyFrom_3 rfl ?_
      refine x_iload_n E 4 dX1_copyFrom_5 rfl ?_
      refine x_ncmp_ge E 75 dX1_copyFrom_6 (by decide) (by omega) (by omega) (fun h => False.elim (by omega)) (fun h6 => ?_)
      refine x_iload E 0 dX1_copyFrom_9 rfl ?_
      refine x_aload_n E 1 dX1_copyFrom_11 rfl ?_
      refine x_get E 0 1 dX1_copyFrom_12 ui_X1_copyFrom_X1 rfl rfl (by decide) fl_X1_copyFrom_15 rfl rfl ?_
      refine x_ncmp_ne E 31 dX1_copyFrom_15 (by decide) (by omega) (by omega) (fun h15 => ?_) (fun h15 => ?_)
      · refine x_iload E 0 dX1_copyFrom_31 rfl ?_
        refine x_nif_lt E 69 dX1_copyFrom_33 (by decide) (by omega) (fun h => absurd h (fun h => Nat.not_lt_zero _ h)) (fun h33 => ?_)
        refine x_iload E 0 dX1_copyFrom_36 rfl ?_
        refine x_aload_n E 1 dX1_copyFrom_38 rfl ?_
        refine x_get E 0 1 dX1_copyFrom_39 ui_X1_copyFrom_X1 rfl rfl (by decide) fl_X1_copyFrom_15 rfl rfl ?_
        refine x_ncmp_ge E 69 dX1_copyFrom_42 (by decide) (by omega) (by omega) (fun h42 => ?_) (fun h42 => ?_)
        · refine x_iinc E 0 [(4, .int (nI (i + 1))), (0, .ref a0), (1, .ref b0), (2, .int (nI p0)), (3, .int (nI q0))] dX1_copyFrom_69 rfl (nI_add _ _) (by decide) rfl ?_
          refine x_goto E 3 dX1_copyFrom_72 (by decide) ?_
          exact ih (i + 1) n' g' (by omega) (by omega) (by rw [← h2, cpF_s, if_neg h15, if_neg (by omega)])
        · refine x_iload E 0 dX1_copyFrom_45 rfl ?_
          refine x_aload_n E 1 dX1_copyFrom_47 rfl ?_
          refine x_get E 0 0 dX1_copyFrom_48 ui_X1_copyFrom_X1 rfl rfl (by decide) fl_X1_copyFrom_9 rfl rfl ?_
          refine x_alen E 1 0 8192 dX1_copyFrom_51 rfl rfl rfl ?_
          refine x_ncmp_ge E 69 dX1_copyFrom_52 (by decide) (by omega) (by decide) (fun h => False.elim (by omega)) (fun h52 => ?_)
          refine x_aload_n E 1 dX1_copyFrom_55 rfl ?_
          refine x_get E 0 0 dX1_copyFrom_56 ui_X1_copyFrom_X1 rfl rfl (by decide) fl_X1_copyFrom_9 rfl rfl ?_
          refine x_iload E 0 dX1_copyFrom_59 rfl ?_
          refine x_aload_n E 2 dX1_copyFrom_61 rfl ?_
          refine x_iload E 0 dX1_copyFrom_62 rfl ?_
          refine x_cV E [.int (nI i)] [.int (nI i), .ref a1] [.int (gt n2 g2 i), .int (nI i), .ref a1] [(a0, .inr (1, [.ref a1, .int (nI n')])), (a1, .inl (cB, 8192, .inl (bf g'))), (b0, .inr (1, [.ref b1, .int (nI n2)])), (b1, .inl (cB, 8192, .inl (bf g2)))] (c_X1_get l D cB cI cZ cJ b0 b1 n2 g2 i (by omega) (by omega)) 0 rfl rfl (cwV 1 hts gX1_copyFrom_X1_get rfl rfl rfl (by decide +kernel) ⟨Nat.le_of_ble_eq_true rfl, Nat.le_of_ble_eq_true rfl⟩) [2, 3] [0, 1] rfl rfl (by decide) (by decide) (by decide) [0, 1, 2, 3] (by decide) rfl rfl (Nat.le_of_ble_eq_true rfl) dX1_copyFrom_64 ⟨Nat.zero_le _, Nat.zero_le _⟩ rfl rfl ?_
          refine x_i2b E dX1_copyFrom_67 ?_
          refine x_bast E 1 0 [(a0, .inr (1, [.ref a1, .int (nI n')])), (a1, .inl (cB, 8192, .inl (bf (va_up g' i (u8 (gt n2 g2 i)))))), (b0, .inr (1, [.ref b1, .int (nI n2)])), (b1, .inl (cB, 8192, .inl (bf g2)))] dX1_copyFrom_68 rfl rfl (by omega) (by decide) (u8_b8 _) rfl ?_
          refine x_iinc E 0 [(4, .int (nI (i + 1))), (0, .ref a0), (1, .ref b0), (2, .int (nI p0)), (3, .int (nI q0))] dX1_copyFrom_69 rfl (nI_add _ _) (by decide) rfl ?_
          refine x_goto E 3 dX1_copyFrom_72 (by decide) ?_
          exact ih (i + 1) n' (va_up g' i (u8 (gt n2 g2 i))) (by omega) (by omega) (by rw [← h2, cpF_s, if_neg h15, if_pos (by omega)])
      · refine x_aload_n E 1 dX1_copyFrom_18 rfl ?_
        refine x_aload_n E 2 dX1_copyFrom_19 rfl ?_
        refine x_iload E 0 dX1_copyFrom_20 rfl ?_
        refine x_cV E [.int (nI i)] [.ref a0] [.int (gt n2 g2 i), .ref a0] [(a0, .inr (1, [.ref a1, .int (nI n')])), (a1, .inl (cB, 8192, .inl (bf g'))), (b0, .inr (1, [.ref b1, .int (nI n2)])), (b1, .inl (cB, 8192, .inl (bf g2)))] (c_X1_get l D cB cI cZ cJ b0 b1 n2 g2 i (by omega) (by omega)) 0 rfl rfl (cwV 1 hts gX1_copyFrom_X1_get rfl rfl rfl (by decide +kernel) ⟨Nat.le_of_ble_eq_true rfl, Nat.le_of_ble_eq_true rfl⟩) [2, 3] [0, 1] rfl rfl (by decide) (by decide) (by decide) [0, 1, 2, 3] (by decide) rfl rfl (Nat.le_of_ble_eq_true rfl) dX1_copyFrom_22 ⟨Nat.zero_le _, Nat.zero_le _⟩ rfl rfl ?_
        refine x_cV E [.int (gt n2 g2 i)] [] [] [(a0, .inr (1, [.ref a1, .int (nI (n' + 1))])), (a1, .inl (cB, 8192, .inl (bf (va_up g' n' (u8 (gt n2 g2 i)))))), (b0, .inr (1, [.ref b1, .int (nI n2)])), (b1, .inl (cB, 8192, .inl (bf g2)))] (c_X1_add l D cB cI cZ cJ a0 a1 n' g' (gt n2 g2 i) (by omega)) 0 rfl rfl (cwV 1 hts gX1_copyFrom_X1_add rfl rfl rfl (by decide +kernel) ⟨Nat.le_of_ble_eq_true rfl, Nat.le_of_ble_eq_true rfl⟩) [0, 1] [2, 3] rfl rfl (by decide) (by decide) (by decide) [2, 3, 0, 1] (by decide) rfl rfl (Nat.le_of_ble_eq_true rfl) dX1_copyFrom_25 ⟨Nat.zero_le _, Nat.zero_le _⟩ rfl rfl ?_
        refine x_goto E 69 dX1_copyFrom_28 (by decide) ?_
        refine x_iinc E 0 [(4, .int (nI (i + 1))), (0, .ref a0), (1, .ref b0), (2, .int (nI p0)), (3, .int (nI q0))] dX1_copyFrom_69 rfl (nI_add _ _) (by decide) rfl ?_
        refine x_goto E 3 dX1_copyFrom_72 (by decide) ?_
        exact ih (i + 1) (n' + 1) (va_up g' n' (u8 (gt n2 g2 i))) (by omega) (by omega) (by rw [← h2, cpF_s, if_pos h15])
  refine x_iload_n E 2 dX1_copyFrom_0 rfl ?_
  refine x_istore E [(4, .int (nI p0)), (0, .ref a0), (1, .ref b0), (2, .int (nI p0)), (3, .int (nI q0))] dX1_copyFrom_1 (by decide) rfl ?_
  exact loop (q0 - p0) p0 n g (by omega) hn rfl
