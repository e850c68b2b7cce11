abbrev rmX0_endOfGood : Room := { frames := 3, cells := 0, slots := 0, locals := 73 }
abbrev rmX0_isEndGood : Room := { frames := 2, cells := 0, slots := 0, locals := 46 }
abbrev rmX0_isRowGood : Room := { frames := 2, cells := 0, slots := 0, locals := 46 }
abbrev rmX0_read : Room := { frames := 2, cells := 0, slots := 0, locals := 45 }
abbrev rmX0_write : Room := { frames := 4, cells := 0, slots := 0, locals := 89 }
abbrev rmX0_writeRow : Room := { frames := 3, cells := 0, slots := 0, locals := 64 }
theorem cn_X0_isRowGood_66 : Jvm.Cond.constant RX0 66 (1000000000) ∈ wsX0_isRowGood := by decide +kernel
/-- sums over lists -/
def itL (f : Int32 → UInt8 → Int32) : List UInt8 → Int32 → Int32
  | [], s => s
  | b :: r, s => itL f r (f s b)
def smL (l : List UInt8) (s : Int32) : Int32 := itL sm l s
/-- k bytes from p on, as a list -/
def conL (g : Nat → UInt8) : Nat → Nat → List UInt8
  | _, 0 => []
  | p, k + 1 => g p :: conL g (p + 1) k
/-- a row in a file, ahead of its sum -/
def rowL (num sec len : Nat) (g : Nat → UInt8) (p : Nat) : List UInt8 := u8 (nI len) :: (beL (nI sec) 4 ++ (conL g p len ++ beL (nI num) 2))
def rowSm (num sec len : Nat) (g : Nat → UInt8) (p : Nat) : Int32 := smL (rowL num sec len g p) (nI 0)
def rowB (num sec len : Nat) (g : Nat → UInt8) (p : Nat) : List UInt8 := rowL num sec len g p ++ beL (rowSm num sec len g p) 4
/-- k rows of a table from r on, and the last one's sum -/
def rowsB (S Ln : Nat → Nat) (K : Nat → UInt8) : Nat → Nat → List UInt8
  | _, 0 => []
  | r, k + 1 => rowB r (S r) (Ln r) K (r * 64) ++ rowsB S Ln K (r + 1) k
def rowsSm (S Ln : Nat → Nat) (K : Nat → UInt8) : Nat → Nat → Int32 → Int32
  | _, 0, s => s
  | r, k + 1, _ => rowsSm S Ln K (r + 1) k (rowSm r (S r) (Ln r) K (r * 64))
/-- a group's end -/
def endB (k : Nat) (s : Int32) : List UInt8 := u8 (nI 0) :: (u8 (nI k) :: beL (smL [u8 (nI 0), u8 (nI k)] s) 4)
def grpB (S Ln : Nat → Nat) (K : Nat → UInt8) (r k : Nat) : List UInt8 := rowsB S Ln K r k ++ endB k (rowsSm S Ln K r k (nI 0))
/-- what k rows from r on take, without groups' ends -/
def rsz (Ln : Nat → Nat) : Nat → Nat → Nat
  | _, 0 => 0
  | r, k + 1 => (Ln r + 11) + rsz Ln (r + 1) k
theorem itL_s (f : Int32 → UInt8 → Int32) (b : UInt8) (r : List UInt8) (s : Int32) : itL f (b :: r) s = itL f r (f s b) := rfl
theorem app_s (g : Nat → UInt8) (p : Nat) (b : UInt8) (r : List UInt8) : app g p (b :: r) = app (va_up g p b) (p + 1) r := rfl
theorem app_app (l1 l2 : List UInt8) : ∀ (g : Nat → UInt8) (p : Nat), app g p (l1 ++ l2) = app (app g p l1) (p + l1.length) l2 := by
  induction l1 with
  | nil => intro g p; rfl
  | cons b r ih =>
    intro g p
    rw [List.cons_append, app_s, app_s, ih, List.length_cons]
    congr 1
    omega
theorem app_lo (l : List UInt8) : ∀ (g : Nat → UInt8) (p j : Nat), j < p → app g p l j = g j := by
  induction l with
  | nil => intro g p j _; rfl
  | cons b r ih =>
    intro g p j h
    rw [app_s, ih _ _ _ (by omega), va_up_ne _ _ (by omega)]
theorem app_hi (l : List UInt8) : ∀ (g : Nat → UInt8) (p j : Nat), p + l.length ≤ j → app g p l j = g j := by
  induction l with
  | nil => intro g p j _; rfl
  | cons b r ih =>
    intro g p j h
    rw [List.length_cons] at h
    rw [app_s, ih _ _ _ (by omega), va_up_ne _ _ (by omega)]
theorem beL_len (v : Int32) : ∀ w, (beL v w).length = w
  | 0 => rfl
  | w + 1 => by show (beL v w).length + 1 = w + 1; rw [beL_len v w]
theorem conL_len (g : Nat → UInt8) : ∀ k p, (conL g p k).length = k
  | 0, _ => rfl
  | k + 1, p => by show (conL g (p + 1) k).length + 1 = k + 1; rw [conL_len g k (p + 1)]
theorem conL_s (g : Nat → UInt8) (p k : Nat) : conL g p (k + 1) = g p :: conL g (p + 1) k := rfl
/-- the sum over bytes just laid -/
theorem itG_app (f : Int32 → UInt8 → Int32) (l : List UInt8) : ∀ (g : Nat → UInt8) (p : Nat) (s : Int32), itG f (app g p l) p l.length s = itL f l s := by
  induction l with
  | nil => intro g p s; rfl
  | cons b r ih =>
    intro g p s
    rw [List.length_cons, itG_s, itL_s, app_s]
    have e : app (va_up g p b) (p + 1) r p = b := by rw [app_lo _ _ _ _ (by omega), va_up_self]
    rw [e, ih]
theorem smG_app (l : List UInt8) (g : Nat → UInt8) (p : Nat) (s : Int32) : smG (app g p l) p l.length s = smL l s := itG_app sm l g p s
theorem u8_u (u : UInt8) : u8 (nI u.toNat) = u := by
  have h : ∀ n : Fin 256, u8 (nI (UInt8.ofNat n.val).toNat) = UInt8.ofNat n.val := by decide +kernel
  have h2 := h ⟨u.toNat, u.toNat_lt⟩
  simpa using h2
theorem rowL_len (num sec len : Nat) (g : Nat → UInt8) (p : Nat) : (rowL num sec len g p).length = 7 + len := by
  unfold rowL
  rw [List.length_cons, List.length_append, List.length_append, beL_len, beL_len, conL_len]
  omega
theorem rowB_len (num sec len : Nat) (g : Nat → UInt8) (p : Nat) : (rowB num sec len g p).length = 11 + len := by
  unfold rowB
  rw [List.length_append, rowL_len, beL_len]
  omega
/-- a row's bytes, as they are laid one behind another -/
theorem rowL_app (num sec len : Nat) (h : Nat → UInt8) (q : Nat) (g : Nat → UInt8) (n : Nat) : app (app (app (va_up g n (u8 (nI len))) (n + 1) (beL (nI sec) 4)) (n + 1 + 4) (conL h q len)) (n + 1 + 4 + len) (beL (nI num) 2) = app g n (rowL num sec len h q) := by
  unfold rowL
  rw [app_s, app_app, app_app, beL_len, conL_len]
theorem rowsB_len (S Ln : Nat → Nat) (K : Nat → UInt8) : ∀ k r, (rowsB S Ln K r k).length = rsz Ln r k
  | 0, _ => rfl
  | k + 1, r => by
    show (rowB r (S r) (Ln r) K (r * 64) ++ rowsB S Ln K (r + 1) k).length = (Ln r + 11) + rsz Ln (r + 1) k
    rw [List.length_append, rowB_len, rowsB_len S Ln K k (r + 1)]
    omega
theorem rowsB_s (S Ln : Nat → Nat) (K : Nat → UInt8) (r k : Nat) : rowsB S Ln K r (k + 1) = rowB r (S r) (Ln r) K (r * 64) ++ rowsB S Ln K (r + 1) k := rfl
theorem rowsSm_s (S Ln : Nat → Nat) (K : Nat → UInt8) (r k : Nat) (s : Int32) : rowsSm S Ln K r (k + 1) s = rowsSm S Ln K (r + 1) k (rowSm r (S r) (Ln r) K (r * 64)) := rfl
theorem rsz_s (Ln : Nat → Nat) (r k : Nat) : rsz Ln r (k + 1) = (Ln r + 11) + rsz Ln (r + 1) k := rfl
/-- whether a row is good: number m, second not below sb -/
abbrev RowOk (n : Nat) (g : Nat → UInt8) (p m : Nat) (sb : Int32) : Prop :=
  1 ≤ (g p).toNat ∧ (g p).toNat ≤ 64 ∧ p + (g p).toNat + 11 ≤ n ∧ m < 600 ∧ ¬ beG g (p + 1) 4 (nI 0) < sb ∧ beG g (p + 1) 4 (nI 0) ≤ nI 1000000000 ∧ beG g (p + (g p).toNat + 11 - 4 - 2) 2 (nI 0) = nI m ∧ beG g (p + (g p).toNat + 11 - 4) 4 (nI 0) = smG g p (p + (g p).toNat + 11 - 4 - p) (nI 0)
/-- whether a group's end is good at p, behind k rows -/
abbrev EndOk (n : Nat) (g : Nat → UInt8) (p k : Nat) : Prop :=
  p + 6 ≤ n ∧ (g p).toNat = 0 ∧ (g (p + 1)).toNat = k ∧ beG g (p + 2) 4 (nI 0) = smG g p (p + 2 - p) (beG g (p - 4) 4 (nI 0))
/-- the rows of a group, up to f more; none where one isn't good -/
def scan (n : Nat) (g : Nat → UInt8) (base : Nat) : Nat → Nat → Nat → Int32 → Option (Nat × Nat)
  | 0, p, k, _ => some (p, k)
  | f + 1, p, k, sb => if p < n ∧ 0 < (g p).toNat then (if RowOk n g p (base + k) sb then scan n g base f (p + ((g p).toNat + 11)) (k + 1) (beG g (p + 1) 4 (nI 0)) else none) else some (p, k)
def endS (n : Nat) (g : Nat → UInt8) (o : Option (Nat × Nat)) : Option Nat := match o with
  | none => none
  | some (p, k) => if 0 < k ∧ EndOk n g p k then some (p + 6) else none
/-- the place behind a good group -/
def endG (n : Nat) (g : Nat → UInt8) (base : Nat) (sb : Int32) (p : Nat) : Option Nat := endS n g (scan n g base 16 p 0 sb)
def oI (o : Option Nat) : Int32 := match o with
  | none => (-1)
  | some e => nI e
theorem scan_s (n : Nat) (g : Nat → UInt8) (base f p k : Nat) (sb : Int32) : scan n g base (f + 1) p k sb = if p < n ∧ 0 < (g p).toNat then (if RowOk n g p (base + k) sb then scan n g base f (p + ((g p).toNat + 11)) (k + 1) (beG g (p + 1) 4 (nI 0)) else none) else some (p, k) := rfl
/-- a row's second, as a number -/
def secN (g : Nat → UInt8) (p : Nat) : Nat := (beG g (p + 1) 4 (nI 0)).toNatClampNeg
/-- k rows that can be read, from p on -/
def GR (n : Nat) (g : Nat → UInt8) : Nat → Nat → Prop
  | _, 0 => True
  | p, k + 1 => 1 ≤ (g p).toNat ∧ (g p).toNat ≤ 64 ∧ p + (g p).toNat + 11 ≤ n ∧ beG g (p + 1) 4 (nI 0) = nI (secN g p) ∧ secN g p ≤ 1000000000 ∧ GR n g (p + ((g p).toNat + 11)) k
/-- what reading k rows makes of the table's rows of numbers, flags and bytes -/
def rdS (g : Nat → UInt8) : Nat → Nat → Nat → (Nat → Nat) → Nat → Nat
  | 0, _, _, S => S
  | k + 1, p, c, S => rdS g k (p + ((g p).toNat + 11)) (c + 1) (va_up S c (secN g p))
def rdL (g : Nat → UInt8) : Nat → Nat → Nat → (Nat → Nat) → Nat → Nat
  | 0, _, _, Ln => Ln
  | k + 1, p, c, Ln => rdL g k (p + ((g p).toNat + 11)) (c + 1) (va_up Ln c (g p).toNat)
def rdZ : Nat → Nat → (Nat → Bool) → Nat → Bool
  | 0, _, Z => Z
  | k + 1, c, Z => rdZ k (c + 1) (va_up Z c false)
def rdK (g : Nat → UInt8) : Nat → Nat → Nat → (Nat → UInt8) → Nat → UInt8
  | 0, _, _, K => K
  | k + 1, p, c, K => rdK g k (p + ((g p).toNat + 11)) (c + 1) (app K (c * 64) (conL g (p + 5) (g p).toNat))
theorem nI_le0 {a : Nat} (h : ¬ nI a ≤ 0) (ha : a < 2 ^ 31) : 0 < a := by
  rcases Nat.eq_zero_or_pos a with q | q
  · subst q
    exact absurd (by decide) h
  · exact q
theorem gt_npos {n : Nat} {g : Nat → UInt8} {p : Nat} (h : ¬ gt n g p ≤ 0) : p < n ∧ 0 < (g p).toNat := by
  unfold gt at h
  by_cases z : p < n
  · rw [if_pos z] at h
    exact ⟨z, nI_le0 h (u8lt (g p))⟩
  · rw [if_neg z] at h
    exact absurd (by decide) h
set_option maxRecDepth 100000 in
set_option maxHeartbeats 4000000 in
theorem c_X0_isRowGood (l : Launch) (D : va_G) (cB cI cZ cJ : ClassId) (a0 : Nat) (a1 : Nat) (n : Nat) (g : Nat → UInt8) (p0 : Nat) (m0 : Nat) (sb : Int32) (hn : n ≤ 8192) (hp : p0 < n) (hm : m0 < 2 ^ 31) : Ct l D vwCl (tyl cB cI cZ cJ) yX0_isRowGood wsX0_isRowGood rmX0_isRowGood [.ref a0, .int (nI p0), .int (nI m0), .int sb] [(a0, .inr (1, [.ref a1, .int (nI n)])), (a1, .inl (cB, 8192, .inl (bf g)))] (some (.int (if decide (RowOk n g p0 m0 sb) = true then 1 else 0))) [(a0, .inr (1, [.ref a1, .int (nI n)])), (a1, .inl (cB, 8192, .inl (bf g)))] := by
  refine x_start (cc := cX0_isRowGood) (maxL := 8) (ret := (some .boolean)) (by decide) rfl (Nat.le_of_ble_eq_true rfl) ?_
  intro xp xe xs xm xb xt xc xA E hr hlocks hnm
  obtain ⟨-, -, -, hown, hts, hK, hA⟩ := id E
  refine x_lve (lv' := [(0, .ref a0), (1, .int (nI p0)), (2, .int (nI m0)), (3, .int sb)]) rfl ?_
  refine x_aload_n E 0 dX0_isRowGood_0 rfl ?_
  refine x_iload_n E 1 dX0_isRowGood_1 rfl ?_
  refine x_cV E [.int (nI p0)] [] [.int (nI ((g p0).toNat))] [(a0, .inr (1, [.ref a1, .int (nI n)])), (a1, .inl (cB, 8192, .inl (bf g)))] (c_X1_get_in l D cB cI cZ cJ a0 a1 n g p0 (by omega) (by omega)) 0 rfl rfl (cwV 1 hts gX0_isRowGood_X1_get rfl rfl rfl (by decide +kernel) ⟨Nat.le_of_ble_eq_true rfl, Nat.le_of_ble_eq_true rfl⟩) [0, 1] [] rfl rfl (by decide) (by decide) (by decide) [0, 1] (by decide) rfl rfl (Nat.le_of_ble_eq_true rfl) dX0_isRowGood_2 ⟨Nat.zero_le _, Nat.zero_le _⟩ rfl rfl ?_
  refine x_istore E [(4, .int (nI ((g p0).toNat))), (0, .ref a0), (1, .int (nI p0)), (2, .int (nI m0)), (3, .int sb)] dX0_isRowGood_5 (by decide) rfl ?_
  refine x_iload_n E 2 dX0_isRowGood_7 rfl ?_
  refine x_iload E 0 dX0_isRowGood_8 rfl ?_
  refine x_niadd E dX0_isRowGood_10 ?_
  refine x_bipush E (v := nI 11) dX0_isRowGood_11 (by decide) ?_
  refine x_niadd E dX0_isRowGood_13 ?_
  refine x_istore E [(5, .int (nI ((p0 + ((g p0).toNat)) + 11))), (4, .int (nI ((g p0).toNat))), (0, .ref a0), (1, .int (nI p0)), (2, .int (nI m0)), (3, .int sb)] dX0_isRowGood_14 (by decide) rfl ?_
  refine x_iload E 1 dX0_isRowGood_16 rfl ?_
  refine x_iconst E (v := nI 1) dX0_isRowGood_18 (by decide) ?_
  refine x_ncmp_lt E 45 dX0_isRowGood_19 (by decide) (u8lt (g p0)) (by decide) (fun h19 => ?_) (fun h19 => ?_)
  · refine x_iconst E (v := nI 0) dX0_isRowGood_45 (by decide) ?_
    exact x_zret E hr hlocks dX0_isRowGood_46 rfl ⟨q_f' (decide_eq_false (fun q => by obtain ⟨q1, q2, q3, q4, q5, q6, q7, q8⟩ := q; first | omega | exact h106 q8 | exact h88 q7 | exact h67 q6 | exact q5 h60)), rfl⟩
  · refine x_iload E 1 dX0_isRowGood_22 rfl ?_
    refine x_bipush E (v := nI 64) dX0_isRowGood_24 (by decide) ?_
    refine x_ncmp_gt E 45 dX0_isRowGood_26 (by decide) (u8lt (g p0)) (by decide) (fun h26 => ?_) (fun h26 => ?_)
    · refine x_iconst E (v := nI 0) dX0_isRowGood_45 (by decide) ?_
      exact x_zret E hr hlocks dX0_isRowGood_46 rfl ⟨q_f' (decide_eq_false (fun q => by obtain ⟨q1, q2, q3, q4, q5, q6, q7, q8⟩ := q; first | omega | exact h106 q8 | exact h88 q7 | exact h67 q6 | exact q5 h60)), rfl⟩
    · refine x_iload E 0 dX0_isRowGood_29 rfl ?_
      refine x_aload_n E 2 dX0_isRowGood_31 rfl ?_
      refine x_cV E [] [.int (nI ((p0 + ((g p0).toNat)) + 11))] [.int (nI n), .int (nI ((p0 + ((g p0).toNat)) + 11))] [(a0, .inr (1, [.ref a1, .int (nI n)])), (a1, .inl (cB, 8192, .inl (bf g)))] (c_X1_size l D cB cI cZ cJ a0 a1 n g ) 0 rfl rfl (cwV 0 hts gX0_isRowGood_X1_size rfl rfl rfl (by decide +kernel) ⟨Nat.le_of_ble_eq_true rfl, Nat.le_of_ble_eq_true rfl⟩) [0, 1] [] rfl rfl (by decide) (by decide) (by decide) [0, 1] (by decide) rfl rfl (Nat.le_of_ble_eq_true rfl) dX0_isRowGood_32 ⟨Nat.zero_le _, Nat.zero_le _⟩ rfl rfl ?_
      refine x_ncmp_gt E 45 dX0_isRowGood_35 (by decide) (by omega) (by omega) (fun h35 => ?_) (fun h35 => ?_)
      · refine x_iconst E (v := nI 0) dX0_isRowGood_45 (by decide) ?_
        exact x_zret E hr hlocks dX0_isRowGood_46 rfl ⟨q_f' (decide_eq_false (fun q => by obtain ⟨q1, q2, q3, q4, q5, q6, q7, q8⟩ := q; first | omega | exact h106 q8 | exact h88 q7 | exact h67 q6 | exact q5 h60)), rfl⟩
      · refine x_iload_n E 4 dX0_isRowGood_38 rfl ?_
        refine x_sipush E (v := nI 600) dX0_isRowGood_39 (by decide) ?_
        refine x_ncmp_lt E 47 dX0_isRowGood_42 (by decide) (by omega) (by decide) (fun h42 => ?_) (fun h42 => ?_)
        · refine x_aload_n E 2 dX0_isRowGood_47 rfl ?_
          refine x_iload_n E 3 dX0_isRowGood_48 rfl ?_
          refine x_iconst E (v := nI 1) dX0_isRowGood_49 (by decide) ?_
          refine x_niadd E dX0_isRowGood_50 ?_
          refine x_iconst E (v := nI 4) dX0_isRowGood_51 (by decide) ?_
          refine x_cV E [.int (nI (p0 + 1)), .int (nI 4)] [] [.int (beG g (p0 + 1) 4 (nI 0))] [(a0, .inr (1, [.ref a1, .int (nI n)])), (a1, .inl (cB, 8192, .inl (bf g)))] (c_X1_number l D cB cI cZ cJ a0 a1 n g (p0 + 1) 4 (by omega) (by omega)) 0 rfl rfl (cwV 2 hts gX0_isRowGood_X1_number rfl rfl rfl (by decide +kernel) ⟨Nat.le_of_ble_eq_true rfl, Nat.le_of_ble_eq_true rfl⟩) [0, 1] [] rfl rfl (by decide) (by decide) (by decide) [0, 1] (by decide) rfl rfl (Nat.le_of_ble_eq_true rfl) dX0_isRowGood_52 ⟨Nat.zero_le _, Nat.zero_le _⟩ rfl rfl ?_
          refine x_istore E [(6, .int (beG g (p0 + 1) 4 (nI 0))), (5, .int (nI ((p0 + ((g p0).toNat)) + 11))), (4, .int (nI ((g p0).toNat))), (0, .ref a0), (1, .int (nI p0)), (2, .int (nI m0)), (3, .int sb)] dX0_isRowGood_55 (by decide) rfl ?_
          refine x_iload E 0 dX0_isRowGood_57 rfl ?_
          refine x_iload_n E 6 dX0_isRowGood_59 rfl ?_
          refine x_icmp_lt E 70 dX0_isRowGood_60 (by decide) (fun h60 => ?_) (fun h60 => ?_)
          · refine x_iconst E (v := nI 0) dX0_isRowGood_70 (by decide) ?_
            exact x_zret E hr hlocks dX0_isRowGood_71 rfl ⟨q_f' (decide_eq_false (fun q => by obtain ⟨q1, q2, q3, q4, q5, q6, q7, q8⟩ := q; first | omega | exact h106 q8 | exact h88 q7 | exact h67 q6 | exact q5 h60)), rfl⟩
          · refine x_iload E 0 dX0_isRowGood_63 rfl ?_
            refine x_ldc E (v := nI 1000000000) dX0_isRowGood_65 cn_X0_isRowGood_66 (by decide +kernel) ?_
            refine x_icmp_le E 72 dX0_isRowGood_67 (by decide) (fun h67 => ?_) (fun h67 => ?_)
            · refine x_iload E 1 dX0_isRowGood_72 rfl ?_
              refine x_iconst E (v := nI 4) dX0_isRowGood_74 (by decide) ?_
              refine x_nisub E dX0_isRowGood_75 (by omega) ?_
              refine x_istore E [(7, .int (nI (((p0 + ((g p0).toNat)) + 11) - 4))), (6, .int (beG g (p0 + 1) 4 (nI 0))), (5, .int (nI ((p0 + ((g p0).toNat)) + 11))), (4, .int (nI ((g p0).toNat))), (0, .ref a0), (1, .int (nI p0)), (2, .int (nI m0)), (3, .int sb)] dX0_isRowGood_76 (by decide) rfl ?_
              refine x_aload_n E 4 dX0_isRowGood_78 rfl ?_
              refine x_iload E 0 dX0_isRowGood_79 rfl ?_
              refine x_iconst E (v := nI 2) dX0_isRowGood_81 (by decide) ?_
              refine x_nisub E dX0_isRowGood_82 (by omega) ?_
              refine x_iconst E (v := nI 2) dX0_isRowGood_83 (by decide) ?_
              refine x_cV E [.int (nI ((((p0 + ((g p0).toNat)) + 11) - 4) - 2)), .int (nI 2)] [] [.int (beG g ((((p0 + ((g p0).toNat)) + 11) - 4) - 2) 2 (nI 0))] [(a0, .inr (1, [.ref a1, .int (nI n)])), (a1, .inl (cB, 8192, .inl (bf g)))] (c_X1_number l D cB cI cZ cJ a0 a1 n g ((((p0 + ((g p0).toNat)) + 11) - 4) - 2) 2 (by omega) (by omega)) 0 rfl rfl (cwV 2 hts gX0_isRowGood_X1_number rfl rfl rfl (by decide +kernel) ⟨Nat.le_of_ble_eq_true rfl, Nat.le_of_ble_eq_true rfl⟩) [0, 1] [] rfl rfl (by decide) (by decide) (by decide) [0, 1] (by decide) rfl rfl (Nat.le_of_ble_eq_true rfl) dX0_isRowGood_84 ⟨Nat.zero_le _, Nat.zero_le _⟩ rfl rfl ?_
              refine x_iload_n E 6 dX0_isRowGood_87 rfl ?_
              refine x_icmp_ne E 113 dX0_isRowGood_88 (by decide) (fun h88 => ?_) (fun h88 => ?_)
              · refine x_iconst E (v := nI 0) dX0_isRowGood_113 (by decide) ?_
                exact x_zret E hr hlocks dX0_isRowGood_114 rfl ⟨q_f' (decide_eq_false (fun q => by obtain ⟨q1, q2, q3, q4, q5, q6, q7, q8⟩ := q; first | omega | exact h106 q8 | exact h88 q7 | exact h67 q6 | exact q5 h60)), rfl⟩
              · refine x_aload_n E 4 dX0_isRowGood_91 rfl ?_
                refine x_iload E 0 dX0_isRowGood_92 rfl ?_
                refine x_iconst E (v := nI 4) dX0_isRowGood_94 (by decide) ?_
                refine x_cV E [.int (nI (((p0 + ((g p0).toNat)) + 11) - 4)), .int (nI 4)] [] [.int (beG g (((p0 + ((g p0).toNat)) + 11) - 4) 4 (nI 0))] [(a0, .inr (1, [.ref a1, .int (nI n)])), (a1, .inl (cB, 8192, .inl (bf g)))] (c_X1_number l D cB cI cZ cJ a0 a1 n g (((p0 + ((g p0).toNat)) + 11) - 4) 4 (by omega) (by omega)) 0 rfl rfl (cwV 2 hts gX0_isRowGood_X1_number rfl rfl rfl (by decide +kernel) ⟨Nat.le_of_ble_eq_true rfl, Nat.le_of_ble_eq_true rfl⟩) [0, 1] [] rfl rfl (by decide) (by decide) (by decide) [0, 1] (by decide) rfl rfl (Nat.le_of_ble_eq_true rfl) dX0_isRowGood_95 ⟨Nat.zero_le _, Nat.zero_le _⟩ rfl rfl ?_
                refine x_aload_n E 4 dX0_isRowGood_98 rfl ?_
                refine x_iload_n E 5 dX0_isRowGood_99 rfl ?_
                refine x_iload E 0 dX0_isRowGood_100 rfl ?_
                refine x_iconst E (v := nI 0) dX0_isRowGood_102 (by decide) ?_
                refine x_cV E [.int (nI p0), .int (nI (((p0 + ((g p0).toNat)) + 11) - 4)), .int (nI 0)] [.int (beG g (((p0 + ((g p0).toNat)) + 11) - 4) 4 (nI 0))] [.int (smG g p0 ((((p0 + ((g p0).toNat)) + 11) - 4) - p0) (nI 0)), .int (beG g (((p0 + ((g p0).toNat)) + 11) - 4) 4 (nI 0))] [(a0, .inr (1, [.ref a1, .int (nI n)])), (a1, .inl (cB, 8192, .inl (bf g)))] (c_X1_sumOf l D cB cI cZ cJ a0 a1 n g p0 (((p0 + ((g p0).toNat)) + 11) - 4) (nI 0) (by omega) (by omega) (by omega)) 0 rfl rfl (cwV 3 hts gX0_isRowGood_X1_sumOf rfl rfl rfl (by decide +kernel) ⟨Nat.le_of_ble_eq_true rfl, Nat.le_of_ble_eq_true rfl⟩) [0, 1] [] rfl rfl (by decide) (by decide) (by decide) [0, 1] (by decide) rfl rfl (Nat.le_of_ble_eq_true rfl) dX0_isRowGood_103 ⟨Nat.zero_le _, Nat.zero_le _⟩ rfl rfl ?_
                refine x_icmp_ne E 113 dX0_isRowGood_106 (by decide) (fun h106 => ?_) (fun h106 => ?_)
                · refine x_iconst E (v := nI 0) dX0_isRowGood_113 (by decide) ?_
                  exact x_zret E hr hlocks dX0_isRowGood_114 rfl ⟨q_f' (decide_eq_false (fun q => by obtain ⟨q1, q2, q3, q4, q5, q6, q7, q8⟩ := q; first | omega | exact h106 q8 | exact h88 q7 | exact h67 q6 | exact q5 h60)), rfl⟩
                · refine x_iconst E (v := nI 1) dX0_isRowGood_109 (by decide) ?_
                  refine x_goto E 114 dX0_isRowGood_110 (by decide) ?_
                  exact x_zret E hr hlocks dX0_isRowGood_114 rfl ⟨q_t' (decide_eq_true ⟨by omega, by omega, by omega, by omega, h60, h67, h88, h106⟩), rfl⟩
            · refine x_iconst E (v := nI 0) dX0_isRowGood_70 (by decide) ?_
              exact x_zret E hr hlocks dX0_isRowGood_71 rfl ⟨q_f' (decide_eq_false (fun q => by obtain ⟨q1, q2, q3, q4, q5, q6, q7, q8⟩ := q; first | omega | exact h106 q8 | exact h88 q7 | exact h67 q6 | exact q5 h60)), rfl⟩
        · refine x_iconst E (v := nI 0) dX0_isRowGood_45 (by decide) ?_
          exact x_zret E hr hlocks dX0_isRowGood_46 rfl ⟨q_f' (decide_eq_false (fun q => by obtain ⟨q1, q2, q3, q4, q5, q6, q7, q8⟩ := q; first | omega | exact h106 q8 | exact h88 q7 | exact h67 q6 | exact q5 h60)), rfl⟩
set_option maxRecDepth 100000 in
set_option maxHeartbeats 4000000 in
theorem c_X0_isEndGood (l : Launch) (D : va_G) (cB cI cZ cJ : ClassId) (a0 : Nat) (a1 : Nat) (n : Nat) (g : Nat → UInt8) (p0 : Nat) (k0 : Nat) (hn : n ≤ 8192) (hp : p0 < 2 ^ 30) (h4 : 4 ≤ p0) (hk : k0 < 2 ^ 31) : Ct l D vwCl (tyl cB cI cZ cJ) yX0_isEndGood wsX0_isEndGood rmX0_isEndGood [.ref a0, .int (nI p0), .int (nI k0)] [(a0, .inr (1, [.ref a1, .int (nI n)])), (a1, .inl (cB, 8192, .inl (bf g)))] (some (.int (if decide (EndOk n g p0 k0) = true then 1 else 0))) [(a0, .inr (1, [.ref a1, .int (nI n)])), (a1, .inl (cB, 8192, .inl (bf g)))] := by
  refine x_start (cc := cX0_isEndGood) (maxL := 4) (ret := (some .boolean)) (by decide) rfl (Nat.le_of_ble_eq_true rfl) ?_
  intro xp xe xs xm xb xt xc xA E hr hlocks hnm
  obtain ⟨-, -, -, hown, hts, hK, hA⟩ := id E
  refine x_lve (lv' := [(0, .ref a0), (1, .int (nI p0)), (2, .int (nI k0))]) rfl ?_
  refine x_iload_n E 1 dX0_isEndGood_0 rfl ?_
  refine x_bipush E (v := nI 6) dX0_isEndGood_1 (by decide) ?_
  refine x_niadd E dX0_isEndGood_3 ?_
  refine x_aload_n E 0 dX0_isEndGood_4 rfl ?_
  refine x_cV E [] [.int (nI (p0 + 6))] [.int (nI n), .int (nI (p0 + 6))] [(a0, .inr (1, [.ref a1, .int (nI n)])), (a1, .inl (cB, 8192, .inl (bf g)))] (c_X1_size l D cB cI cZ cJ a0 a1 n g ) 0 rfl rfl (cwV 0 hts gX0_isEndGood_X1_size rfl rfl rfl (by decide +kernel) ⟨Nat.le_of_ble_eq_true rfl, Nat.le_of_ble_eq_true rfl⟩) [0, 1] [] rfl rfl (by decide) (by decide) (by decide) [0, 1] (by decide) rfl rfl (Nat.le_of_ble_eq_true rfl) dX0_isEndGood_5 ⟨Nat.zero_le _, Nat.zero_le _⟩ rfl rfl ?_
  refine x_ncmp_gt E 30 dX0_isEndGood_8 (by decide) (by omega) (by omega) (fun h8 => ?_) (fun h8 => ?_)
  · refine x_iconst E (v := nI 0) dX0_isEndGood_30 (by decide) ?_
    exact x_zret E hr hlocks dX0_isEndGood_31 rfl ⟨q_f' (decide_eq_false (fun q => by obtain ⟨q1, q2, q3, q4⟩ := q; first | omega | exact h58 q4 | exact h27 q3 | exact h16 q2)), rfl⟩
  · refine x_aload_n E 0 dX0_isEndGood_11 rfl ?_
    refine x_iload_n E 1 dX0_isEndGood_12 rfl ?_
    refine x_cV E [.int (nI p0)] [] [.int (nI ((g p0).toNat))] [(a0, .inr (1, [.ref a1, .int (nI n)])), (a1, .inl (cB, 8192, .inl (bf g)))] (c_X1_get_in l D cB cI cZ cJ a0 a1 n g p0 (by omega) (by omega)) 0 rfl rfl (cwV 1 hts gX0_isEndGood_X1_get rfl rfl rfl (by decide +kernel) ⟨Nat.le_of_ble_eq_true rfl, Nat.le_of_ble_eq_true rfl⟩) [0, 1] [] rfl rfl (by decide) (by decide) (by decide) [0, 1] (by decide) rfl rfl (Nat.le_of_ble_eq_true rfl) dX0_isEndGood_13 ⟨Nat.zero_le _, Nat.zero_le _⟩ rfl rfl ?_
    refine x_nif_ne E 30 dX0_isEndGood_16 (by decide) (u8lt (g p0)) (fun h16 => ?_) (fun h16 => ?_)
    · refine x_iconst E (v := nI 0) dX0_isEndGood_30 (by decide) ?_
      exact x_zret E hr hlocks dX0_isEndGood_31 rfl ⟨q_f' (decide_eq_false (fun q => by obtain ⟨q1, q2, q3, q4⟩ := q; first | omega | exact h58 q4 | exact h27 q3 | exact h16 q2)), rfl⟩
    · refine x_aload_n E 0 dX0_isEndGood_19 rfl ?_
      refine x_iload_n E 1 dX0_isEndGood_20 rfl ?_
      refine x_iconst E (v := nI 1) dX0_isEndGood_21 (by decide) ?_
      refine x_niadd E dX0_isEndGood_22 ?_
      refine x_cV E [.int (nI (p0 + 1))] [] [.int (nI ((g (p0 + 1)).toNat))] [(a0, .inr (1, [.ref a1, .int (nI n)])), (a1, .inl (cB, 8192, .inl (bf g)))] (c_X1_get_in l D cB cI cZ cJ a0 a1 n g (p0 + 1) (by omega) (by omega)) 0 rfl rfl (cwV 1 hts gX0_isEndGood_X1_get rfl rfl rfl (by decide +kernel) ⟨Nat.le_of_ble_eq_true rfl, Nat.le_of_ble_eq_true rfl⟩) [0, 1] [] rfl rfl (by decide) (by decide) (by decide) [0, 1] (by decide) rfl rfl (Nat.le_of_ble_eq_true rfl) dX0_isEndGood_23 ⟨Nat.zero_le _, Nat.zero_le _⟩ rfl rfl ?_
      refine x_iload_n E 2 dX0_isEndGood_26 rfl ?_
      refine x_ncmp_eq E 32 dX0_isEndGood_27 (by decide) (u8lt (g (p0 + 1))) (by omega) (fun h27 => ?_) (fun h27 => ?_)
      · refine x_aload_n E 0 dX0_isEndGood_32 rfl ?_
        refine x_iload_n E 1 dX0_isEndGood_33 rfl ?_
        refine x_iconst E (v := nI 4) dX0_isEndGood_34 (by decide) ?_
        refine x_nisub E dX0_isEndGood_35 (by omega) ?_
        refine x_iconst E (v := nI 4) dX0_isEndGood_36 (by decide) ?_
        refine x_cV E [.int (nI (p0 - 4)), .int (nI 4)] [] [.int (beG g (p0 - 4) 4 (nI 0))] [(a0, .inr (1, [.ref a1, .int (nI n)])), (a1, .inl (cB, 8192, .inl (bf g)))] (c_X1_number l D cB cI cZ cJ a0 a1 n g (p0 - 4) 4 (by omega) (by omega)) 0 rfl rfl (cwV 2 hts gX0_isEndGood_X1_number rfl rfl rfl (by decide +kernel) ⟨Nat.le_of_ble_eq_true rfl, Nat.le_of_ble_eq_true rfl⟩) [0, 1] [] rfl rfl (by decide) (by decide) (by decide) [0, 1] (by decide) rfl rfl (Nat.le_of_ble_eq_true rfl) dX0_isEndGood_37 ⟨Nat.zero_le _, Nat.zero_le _⟩ rfl rfl ?_
        refine x_istore_n E [(3, .int (beG g (p0 - 4) 4 (nI 0))), (0, .ref a0), (1, .int (nI p0)), (2, .int (nI k0))] dX0_isEndGood_40 (by decide) rfl ?_
        refine x_aload_n E 1 dX0_isEndGood_41 rfl ?_
        refine x_iload_n E 2 dX0_isEndGood_42 rfl ?_
        refine x_iconst E (v := nI 2) dX0_isEndGood_43 (by decide) ?_
        refine x_niadd E dX0_isEndGood_44 ?_
        refine x_iconst E (v := nI 4) dX0_isEndGood_45 (by decide) ?_
        refine x_cV E [.int (nI (p0 + 2)), .int (nI 4)] [] [.int (beG g (p0 + 2) 4 (nI 0))] [(a0, .inr (1, [.ref a1, .int (nI n)])), (a1, .inl (cB, 8192, .inl (bf g)))] (c_X1_number l D cB cI cZ cJ a0 a1 n g (p0 + 2) 4 (by omega) (by omega)) 0 rfl rfl (cwV 2 hts gX0_isEndGood_X1_number rfl rfl rfl (by decide +kernel) ⟨Nat.le_of_ble_eq_true rfl, Nat.le_of_ble_eq_true rfl⟩) [0, 1] [] rfl rfl (by decide) (by decide) (by decide) [0, 1] (by decide) rfl rfl (Nat.le_of_ble_eq_true rfl) dX0_isEndGood_46 ⟨Nat.zero_le _, Nat.zero_le _⟩ rfl rfl ?_
        refine x_aload_n E 1 dX0_isEndGood_49 rfl ?_
        refine x_iload_n E 2 dX0_isEndGood_50 rfl ?_
        refine x_iload_n E 2 dX0_isEndGood_51 rfl ?_
        refine x_iconst E (v := nI 2) dX0_isEndGood_52 (by decide) ?_
        refine x_niadd E dX0_isEndGood_53 ?_
        refine x_iload_n E 0 dX0_isEndGood_54 rfl ?_
        refine x_cV E [.int (nI p0), .int (nI (p0 + 2)), .int (beG g (p0 - 4) 4 (nI 0))] [.int (beG g (p0 + 2) 4 (nI 0))] [.int (smG g p0 ((p0 + 2) - p0) (beG g (p0 - 4) 4 (nI 0))), .int (beG g (p0 + 2) 4 (nI 0))] [(a0, .inr (1, [.ref a1, .int (nI n)])), (a1, .inl (cB, 8192, .inl (bf g)))] (c_X1_sumOf l D cB cI cZ cJ a0 a1 n g p0 (p0 + 2) (beG g (p0 - 4) 4 (nI 0)) (by omega) (by omega) (by omega)) 0 rfl rfl (cwV 3 hts gX0_isEndGood_X1_sumOf rfl rfl rfl (by decide +kernel) ⟨Nat.le_of_ble_eq_true rfl, Nat.le_of_ble_eq_true rfl⟩) [0, 1] [] rfl rfl (by decide) (by decide) (by decide) [0, 1] (by decide) rfl rfl (Nat.le_of_ble_eq_true rfl) dX0_isEndGood_55 ⟨Nat.zero_le _, Nat.zero_le _⟩ rfl rfl ?_
        refine x_icmp_ne E 65 dX0_isEndGood_58 (by decide) (fun h58 => ?_) (fun h58 => ?_)
        · refine x_iconst E (v := nI 0) dX0_isEndGood_65 (by decide) ?_
          exact x_zret E hr hlocks dX0_isEndGood_66 rfl ⟨q_f' (decide_eq_false (fun q => by obtain ⟨q1, q2, q3, q4⟩ := q; first | omega | exact h58 q4 | exact h27 q3 | exact h16 q2)), rfl⟩
        · refine x_iconst E (v := nI 1) dX0_isEndGood_61 (by decide) ?_
          refine x_goto E 66 dX0_isEndGood_62 (by decide) ?_
          exact x_zret E hr hlocks dX0_isEndGood_66 rfl ⟨q_t' (decide_eq_true ⟨by omega, h16, h27, h58⟩), rfl⟩
      · refine x_iconst E (v := nI 0) dX0_isEndGood_30 (by decide) ?_
        exact x_zret E hr hlocks dX0_isEndGood_31 rfl ⟨q_f' (decide_eq_false (fun q => by obtain ⟨q1, q2, q3, q4⟩ := q; first | omega | exact h58 q4 | exact h27 q3 | exact h16 q2)), rfl⟩
set_option maxRecDepth 100000 in
set_option maxHeartbeats 4000000 in
theorem c_X0_endOfGood (l : Launch) (D : va_G) (cB cI cZ cJ : ClassId) (a0 : Nat) (a1 : Nat) (n : Nat) (g : Nat → UInt8) (t0 : Nat) (t1 : Nat) (t2 : Nat) (t3 : Nat) (t4 : Nat) (c : Nat) (S : Nat → Nat) (Ln : Nat → Nat) (Z : Nat → Bool) (K : Nat → UInt8) (p0 : Nat) (hn : n ≤ 8192) (hc : c ≤ 600) (hp : p0 ≤ 8192) : Ct l D vwCl (tyl cB cI cZ cJ) yX0_endOfGood wsX0_endOfGood rmX0_endOfGood [.ref a0, .int (nI p0), .ref t0] [(a0, .inr (1, [.ref a1, .int (nI n)])), (a1, .inl (cB, 8192, .inl (bf g))), (t0, .inr (2, [.ref t1, .ref t2, .ref t3, .ref t4, .int (nI c)])), (t1, .inl (cI, 600, .inl (nf S))), (t2, .inl (cI, 600, .inl (nf Ln))), (t3, .inl (cZ, 600, .inl (zf Z))), (t4, .inl (cB, 38400, .inl (bf K)))] (some (.int (oI (endG n g c (nI (lastS c S)) p0)))) [(a0, .inr (1, [.ref a1, .int (nI n)])), (a1, .inl (cB, 8192, .inl (bf g))), (t0, .inr (2, [.ref t1, .ref t2, .ref t3, .ref t4, .int (nI c)])), (t1, .inl (cI, 600, .inl (nf S))), (t2, .inl (cI, 600, .inl (nf Ln))), (t3, .inl (cZ, 600, .inl (zf Z))), (t4, .inl (cB, 38400, .inl (bf K)))] := by
  refine x_start (cc := cX0_endOfGood) (maxL := 6) (ret := (some .int)) (by decide) rfl (Nat.le_of_ble_eq_true rfl) ?_
  intro xp xe xs xm xb xt xc xA E hr hlocks hnm
  obtain ⟨-, -, -, hown, hts, hK, hA⟩ := id E
  refine x_lve (lv' := [(0, .ref a0), (1, .int (nI p0)), (2, .ref t0)]) rfl ?_
  have loop : ∀ (f p k : Nat) (sb : Int32), k + f = 16 → p ≤ 8192 → (0 < k → 4 ≤ p) → endS n g (scan n g c f p k sb) = endG n g c (nI (lastS c S)) p0 → Xs xp l xe rmX0_endOfGood xs xm ([.ref a0, .int (nI p0), .ref t0] : List Value).toArray xb xt xc D vwCl xA 6 0 0 (MQ xb (CQ D vwCl (tyl cB cI cZ cJ) xA (fun r u => r = (some (.int (oI (endG n g c (nI (lastS c S)) p0)))) ∧ u = [(a0, .inr (1, [.ref a1, .int (nI n)])), (a1, .inl (cB, 8192, .inl (bf g))), (t0, .inr (2, [.ref t1, .ref t2, .ref t3, .ref t4, .int (nI c)])), (t1, .inl (cI, 600, .inl (nf S))), (t2, .inl (cI, 600, .inl (nf Ln))), (t3, .inl (cZ, 600, .inl (zf Z))), (t4, .inl (cB, 38400, .inl (bf K)))])) ([.ref a0, .int (nI p0), .ref t0] : List Value).toArray xs 0 0 xA) [(a0, .inr (1, [.ref a1, .int (nI n)])), (a1, .inl (cB, 8192, .inl (bf g))), (t0, .inr (2, [.ref t1, .ref t2, .ref t3, .ref t4, .int (nI c)])), (t1, .inl (cI, 600, .inl (nf S))), (t2, .inl (cI, 600, .inl (nf Ln))), (t3, .inl (cZ, 600, .inl (zf Z))), (t4, .inl (cB, 38400, .inl (bf K)))] [(5, .int sb), (4, .int (nI k)), (3, .int (nI p)), (0, .ref a0), (1, .int (nI p0)), (2, .ref t0)] 11 [] := by
    intro f
    induction f with
    | zero =>
      intro p k sb h1 hp1 hk4 h2
      refine x_iload E 1 dX0_endOfGood_11 rfl ?_
      refine x_bipush E (v := nI 16) dX0_endOfGood_13 (by decide) ?_
      refine x_ncmp_ge E 72 dX0_endOfGood_15 (by decide) (by omega) (by decide) (fun h15 => ?_) (fun h => False.elim (by omega))
      refine x_iload E 1 dX0_endOfGood_72 rfl ?_
      refine x_nif_le E 94 dX0_endOfGood_74 (by decide) (by omega) (fun h => False.elim (by omega)) (fun h74 => ?_)
      refine x_aload_n E 3 dX0_endOfGood_77 rfl ?_
      refine x_iload_n E 2 dX0_endOfGood_78 rfl ?_
      refine x_iload E 1 dX0_endOfGood_79 rfl ?_
      refine x_cS E [.ref a0, .int (nI p), .int (nI k)] [] [.int (if decide (EndOk n g p k) = true then 1 else 0)] [(a0, .inr (1, [.ref a1, .int (nI n)])), (a1, .inl (cB, 8192, .inl (bf g))), (t0, .inr (2, [.ref t1, .ref t2, .ref t3, .ref t4, .int (nI c)])), (t1, .inl (cI, 600, .inl (nf S))), (t2, .inl (cI, 600, .inl (nf Ln))), (t3, .inl (cZ, 600, .inl (zf Z))), (t4, .inl (cB, 38400, .inl (bf K)))] (c_X0_isEndGood l D cB cI cZ cJ a0 a1 n g p k (by omega) (by omega) (by omega) (by omega)) (va_cwS 3 hts gX0_endOfGood_X0_isEndGood rfl rfl rfl (by decide +kernel) ⟨Nat.le_of_ble_eq_true rfl, Nat.le_of_ble_eq_true rfl⟩) [0, 1] [2, 3, 4, 5, 6] rfl rfl (by decide) (by decide) (by decide) [5, 6, 0, 1, 2, 3, 4] (by decide) rfl rfl (Nat.le_of_ble_eq_true rfl) dX0_endOfGood_81 ⟨Nat.zero_le _, Nat.zero_le _⟩ rfl rfl ?_
      refine x_qif_eq E 94 dX0_endOfGood_84 (by decide) (fun h84 => ?_) (fun h84 => ?_)
      · refine x_iconst E (v := (-1)) dX0_endOfGood_94 (by decide) ?_
        exact x_iret E hr hlocks dX0_endOfGood_95 ⟨by rw [← h2]; show _ = some (Value.int (oI (if 0 < k ∧ EndOk n g p k then some (p + 6) else none))); rw [if_neg (fun q => by first | omega | exact of_decide_eq_false h84 q.2)]; rfl, rfl⟩
      · refine x_iload_n E 2 dX0_endOfGood_87 rfl ?_
        refine x_bipush E (v := nI 6) dX0_endOfGood_88 (by decide) ?_
        refine x_niadd E dX0_endOfGood_90 ?_
        refine x_goto E 95 dX0_endOfGood_91 (by decide) ?_
        exact x_iret E hr hlocks dX0_endOfGood_95 ⟨by rw [← h2]; show _ = some (Value.int (oI (if 0 < k ∧ EndOk n g p k then some (p + 6) else none))); rw [if_pos ⟨by omega, of_decide_eq_true h84⟩]; rfl, rfl⟩
    | succ f ih =>
      intro p k sb h1 hp1 hk4 h2
      by_cases hpn : p < n ∧ 0 < (g p).toNat
      · obtain ⟨H23a, H23b⟩ := hpn
        refine x_iload E 1 dX0_endOfGood_11 rfl ?_
        refine x_bipush E (v := nI 16) dX0_endOfGood_13 (by decide) ?_
        refine x_ncmp_ge E 72 dX0_endOfGood_15 (by decide) (by omega) (by decide) (fun h => False.elim (by omega)) (fun h15 => ?_)
        refine x_aload_n E 3 dX0_endOfGood_18 rfl ?_
        refine x_iload_n E 2 dX0_endOfGood_19 rfl ?_
        refine x_cV E [.int (nI p)] [] [.int (nI ((g p).toNat))] [(a0, .inr (1, [.ref a1, .int (nI n)])), (a1, .inl (cB, 8192, .inl (bf g))), (t0, .inr (2, [.ref t1, .ref t2, .ref t3, .ref t4, .int (nI c)])), (t1, .inl (cI, 600, .inl (nf S))), (t2, .inl (cI, 600, .inl (nf Ln))), (t3, .inl (cZ, 600, .inl (zf Z))), (t4, .inl (cB, 38400, .inl (bf K)))] (c_X1_get_in l D cB cI cZ cJ a0 a1 n g p (by omega) (by omega)) 0 rfl rfl (cwV 1 hts gX0_endOfGood_X1_get rfl rfl rfl (by decide +kernel) ⟨Nat.le_of_ble_eq_true rfl, Nat.le_of_ble_eq_true rfl⟩) [0, 1] [2, 3, 4, 5, 6] rfl rfl (by decide) (by decide) (by decide) [5, 6, 0, 1, 2, 3, 4] (by decide) rfl rfl (Nat.le_of_ble_eq_true rfl) dX0_endOfGood_20 ⟨Nat.zero_le _, Nat.zero_le _⟩ rfl rfl ?_
        refine x_nif_le E 72 dX0_endOfGood_23 (by decide) (u8lt (g p)) (fun h => False.elim (by omega)) (fun h23 => ?_)
        refine x_aload_n E 3 dX0_endOfGood_26 rfl ?_
        refine x_iload_n E 2 dX0_endOfGood_27 rfl ?_
        refine x_aload_n E 5 dX0_endOfGood_28 rfl ?_
        refine x_cV E [] [.int (nI p), .ref a0] [.int (nI c), .int (nI p), .ref a0] [(a0, .inr (1, [.ref a1, .int (nI n)])), (a1, .inl (cB, 8192, .inl (bf g))), (t0, .inr (2, [.ref t1, .ref t2, .ref t3, .ref t4, .int (nI c)])), (t1, .inl (cI, 600, .inl (nf S))), (t2, .inl (cI, 600, .inl (nf Ln))), (t3, .inl (cZ, 600, .inl (zf Z))), (t4, .inl (cB, 38400, .inl (bf K)))] (c_X2_count l D cB cI cZ cJ t0 t1 t2 t3 t4 c S Ln Z K ) 0 rfl rfl (cwV 0 hts gX0_endOfGood_X2_count rfl rfl rfl (by decide +kernel) ⟨Nat.le_of_ble_eq_true rfl, Nat.le_of_ble_eq_true rfl⟩) [2, 3, 4, 5, 6] [0, 1] rfl rfl (by decide) (by decide) (by decide) [0, 1, 2, 3, 4, 5, 6] (by decide) rfl rfl (Nat.le_of_ble_eq_true rfl) dX0_endOfGood_29 ⟨Nat.zero_le _, Nat.zero_le _⟩ rfl rfl ?_
        refine x_iload E 1 dX0_endOfGood_32 rfl ?_
        refine x_niadd E dX0_endOfGood_34 ?_
        refine x_iload E 0 dX0_endOfGood_35 rfl ?_
        refine x_cS E [.ref a0, .int (nI p), .int (nI (c + k)), .int sb] [] [.int (if decide (RowOk n g p (c + k) sb) = true then 1 else 0)] [(a0, .inr (1, [.ref a1, .int (nI n)])), (a1, .inl (cB, 8192, .inl (bf g))), (t0, .inr (2, [.ref t1, .ref t2, .ref t3, .ref t4, .int (nI c)])), (t1, .inl (cI, 600, .inl (nf S))), (t2, .inl (cI, 600, .inl (nf Ln))), (t3, .inl (cZ, 600, .inl (zf Z))), (t4, .inl (cB, 38400, .inl (bf K)))] (c_X0_isRowGood l D cB cI cZ cJ a0 a1 n g p (c + k) sb (by omega) (by omega) (by omega)) (va_cwS 4 hts gX0_endOfGood_X0_isRowGood rfl rfl rfl (by decide +kernel) ⟨Nat.le_of_ble_eq_true rfl, Nat.le_of_ble_eq_true rfl⟩) [0, 1] [2, 3, 4, 5, 6] rfl rfl (by decide) (by decide) (by decide) [5, 6, 0, 1, 2, 3, 4] (by decide) rfl rfl (Nat.le_of_ble_eq_true rfl) dX0_endOfGood_37 ⟨Nat.zero_le _, Nat.zero_le _⟩ rfl rfl ?_
        refine x_qif_ne E 45 dX0_endOfGood_40 (by decide) (fun h40 => ?_) (fun h40 => ?_)
        · refine x_aload_n E 3 dX0_endOfGood_45 rfl ?_
          refine x_iload_n E 2 dX0_endOfGood_46 rfl ?_
          refine x_iconst E (v := nI 1) dX0_endOfGood_47 (by decide) ?_
          refine x_niadd E dX0_endOfGood_48 ?_
          refine x_iconst E (v := nI 4) dX0_endOfGood_49 (by decide) ?_
          refine x_cV E [.int (nI (p + 1)), .int (nI 4)] [] [.int (beG g (p + 1) 4 (nI 0))] [(a0, .inr (1, [.ref a1, .int (nI n)])), (a1, .inl (cB, 8192, .inl (bf g))), (t0, .inr (2, [.ref t1, .ref t2, .ref t3, .ref t4, .int (nI c)])), (t1, .inl (cI, 600, .inl (nf S))), (t2, .inl (cI, 600, .inl (nf Ln))), (t3, .inl (cZ, 600, .inl (zf Z))), (t4, .inl (cB, 38400, .inl (bf K)))] (c_X1_number l D cB cI cZ cJ a0 a1 n g (p + 1) 4 (by omega) (by have := (of_decide_eq_true h40).2.2.1; omega)) 0 rfl rfl (cwV 2 hts gX0_endOfGood_X1_number rfl rfl rfl (by decide +kernel) ⟨Nat.le_of_ble_eq_true rfl, Nat.le_of_ble_eq_true rfl⟩) [0, 1] [2, 3, 4, 5, 6] rfl rfl (by decide) (by decide) (by decide) [5, 6, 0, 1, 2, 3, 4] (by decide) rfl rfl (Nat.le_of_ble_eq_true rfl) dX0_endOfGood_50 ⟨Nat.zero_le _, Nat.zero_le _⟩ rfl rfl ?_
          refine x_istore E [(5, .int (beG g (p + 1) 4 (nI 0))), (4, .int (nI k)), (3, .int (nI p)), (0, .ref a0), (1, .int (nI p0)), (2, .ref t0)] dX0_endOfGood_53 (by decide) rfl ?_
          refine x_iload_n E 2 dX0_endOfGood_55 rfl ?_
          refine x_aload_n E 3 dX0_endOfGood_56 rfl ?_
          refine x_iload_n E 2 dX0_endOfGood_57 rfl ?_
          refine x_cV E [.int (nI p)] [.int (nI p)] [.int (nI ((g p).toNat)), .int (nI p)] [(a0, .inr (1, [.ref a1, .int (nI n)])), (a1, .inl (cB, 8192, .inl (bf g))), (t0, .inr (2, [.ref t1, .ref t2, .ref t3, .ref t4, .int (nI c)])), (t1, .inl (cI, 600, .inl (nf S))), (t2, .inl (cI, 600, .inl (nf Ln))), (t3, .inl (cZ, 600, .inl (zf Z))), (t4, .inl (cB, 38400, .inl (bf K)))] (c_X1_get_in l D cB cI cZ cJ a0 a1 n g p (by omega) (by omega)) 0 rfl rfl (cwV 1 hts gX0_endOfGood_X1_get rfl rfl rfl (by decide +kernel) ⟨Nat.le_of_ble_eq_true rfl, Nat.le_of_ble_eq_true rfl⟩) [0, 1] [2, 3, 4, 5, 6] rfl rfl (by decide) (by decide) (by decide) [5, 6, 0, 1, 2, 3, 4] (by decide) rfl rfl (Nat.le_of_ble_eq_true rfl) dX0_endOfGood_58 ⟨Nat.zero_le _, Nat.zero_le _⟩ rfl rfl ?_
          refine x_bipush E (v := nI 11) dX0_endOfGood_61 (by decide) ?_
          refine x_niadd E dX0_endOfGood_63 ?_
          refine x_niadd E dX0_endOfGood_64 ?_
          refine x_istore_n E [(3, .int (nI (p + (((g p).toNat) + 11)))), (5, .int (beG g (p + 1) 4 (nI 0))), (4, .int (nI k)), (0, .ref a0), (1, .int (nI p0)), (2, .ref t0)] dX0_endOfGood_65 (by decide) rfl ?_
          refine x_iinc E 2 [(4, .int (nI (k + 1))), (3, .int (nI (p + (((g p).toNat) + 11)))), (5, .int (beG g (p + 1) 4 (nI 0))), (0, .ref a0), (1, .int (nI p0)), (2, .ref t0)] dX0_endOfGood_66 rfl (nI_add _ _) (by decide) rfl ?_
          refine x_goto E 11 dX0_endOfGood_69 (by decide) ?_
          have hok := of_decide_eq_true h40
          refine x_lv [2, 0, 1, 3, 4, 5] rfl ?_
          exact ih _ _ _ (by omega) (by have := hok.2.2.1; omega) (fun _ => by have := hok.1; omega) (by rw [← h2, scan_s, if_pos ⟨H23a, H23b⟩, if_pos hok])
        · refine x_iconst E (v := (-1)) dX0_endOfGood_43 (by decide) ?_
          exact x_iret E hr hlocks dX0_endOfGood_44 ⟨by rw [← h2, scan_s, if_pos ⟨H23a, H23b⟩, if_neg (of_decide_eq_false h40)]; rfl, rfl⟩
      · refine x_iload E 1 dX0_endOfGood_11 rfl ?_
        refine x_bipush E (v := nI 16) dX0_endOfGood_13 (by decide) ?_
        refine x_ncmp_ge E 72 dX0_endOfGood_15 (by decide) (by omega) (by decide) (fun h => False.elim (by omega)) (fun h15 => ?_)
        refine x_aload_n E 3 dX0_endOfGood_18 rfl ?_
        refine x_iload_n E 2 dX0_endOfGood_19 rfl ?_
        refine x_cV E [.int (nI p)] [] [.int (gt n g p)] [(a0, .inr (1, [.ref a1, .int (nI n)])), (a1, .inl (cB, 8192, .inl (bf g))), (t0, .inr (2, [.ref t1, .ref t2, .ref t3, .ref t4, .int (nI c)])), (t1, .inl (cI, 600, .inl (nf S))), (t2, .inl (cI, 600, .inl (nf Ln))), (t3, .inl (cZ, 600, .inl (zf Z))), (t4, .inl (cB, 38400, .inl (bf K)))] (c_X1_get l D cB cI cZ cJ a0 a1 n g p (by omega) (by omega)) 0 rfl rfl (cwV 1 hts gX0_endOfGood_X1_get rfl rfl rfl (by decide +kernel) ⟨Nat.le_of_ble_eq_true rfl, Nat.le_of_ble_eq_true rfl⟩) [0, 1] [2, 3, 4, 5, 6] rfl rfl (by decide) (by decide) (by decide) [5, 6, 0, 1, 2, 3, 4] (by decide) rfl rfl (Nat.le_of_ble_eq_true rfl) dX0_endOfGood_20 ⟨Nat.zero_le _, Nat.zero_le _⟩ rfl rfl ?_
        refine x_if_le E 72 dX0_endOfGood_23 (by decide) (fun h23 => ?_) (fun h => absurd h (fun h => hpn (gt_npos h)))
        refine x_iload E 1 dX0_endOfGood_72 rfl ?_
        refine x_nif_le E 94 dX0_endOfGood_74 (by decide) (by omega) (fun h74 => ?_) (fun h74 => ?_)
        · refine x_iconst E (v := (-1)) dX0_endOfGood_94 (by decide) ?_
          exact x_iret E hr hlocks dX0_endOfGood_95 ⟨by rw [← h2, scan_s, if_neg hpn]; show _ = some (Value.int (oI (if 0 < k ∧ EndOk n g p k then some (p + 6) else none))); rw [if_neg (fun q => by first | omega | exact of_decide_eq_false h84 q.2)]; rfl, rfl⟩
        · refine x_aload_n E 3 dX0_endOfGood_77 rfl ?_
          refine x_iload_n E 2 dX0_endOfGood_78 rfl ?_
          refine x_iload E 1 dX0_endOfGood_79 rfl ?_
          refine x_cS E [.ref a0, .int (nI p), .int (nI k)] [] [.int (if decide (EndOk n g p k) = true then 1 else 0)] [(a0, .inr (1, [.ref a1, .int (nI n)])), (a1, .inl (cB, 8192, .inl (bf g))), (t0, .inr (2, [.ref t1, .ref t2, .ref t3, .ref t4, .int (nI c)])), (t1, .inl (cI, 600, .inl (nf S))), (t2, .inl (cI, 600, .inl (nf Ln))), (t3, .inl (cZ, 600, .inl (zf Z))), (t4, .inl (cB, 38400, .inl (bf K)))] (c_X0_isEndGood l D cB cI cZ cJ a0 a1 n g p k (by omega) (by omega) (by omega) (by omega)) (va_cwS 3 hts gX0_endOfGood_X0_isEndGood rfl rfl rfl (by decide +kernel) ⟨Nat.le_of_ble_eq_true rfl, Nat.le_of_ble_eq_true rfl⟩) [0, 1] [2, 3, 4, 5, 6] rfl rfl (by decide) (by decide) (by decide) [5, 6, 0, 1, 2, 3, 4] (by decide) rfl rfl (Nat.le_of_ble_eq_true rfl) dX0_endOfGood_81 ⟨Nat.zero_le _, Nat.zero_le _⟩ rfl rfl ?_
          refine x_qif_eq E 94 dX0_endOfGood_84 (by decide) (fun h84 => ?_) (fun h84 => ?_)
          · refine x_iconst E (v := (-1)) dX0_endOfGood_94 (by decide) ?_
            exact x_iret E hr hlocks dX0_endOfGood_95 ⟨by rw [← h2, scan_s, if_neg hpn]; show _ = some (Value.int (oI (if 0 < k ∧ EndOk n g p k then some (p + 6) else none))); rw [if_neg (fun q => by first | omega | exact of_decide_eq_false h84 q.2)]; rfl, rfl⟩
          · refine x_iload_n E 2 dX0_endOfGood_87 rfl ?_
            refine x_bipush E (v := nI 6) dX0_endOfGood_88 (by decide) ?_
            refine x_niadd E dX0_endOfGood_90 ?_
            refine x_goto E 95 dX0_endOfGood_91 (by decide) ?_
            exact x_iret E hr hlocks dX0_endOfGood_95 ⟨by rw [← h2, scan_s, if_neg hpn]; show _ = some (Value.int (oI (if 0 < k ∧ EndOk n g p k then some (p + 6) else none))); rw [if_pos ⟨by omega, of_decide_eq_true h84⟩]; rfl, rfl⟩
  refine x_iload_n E 1 dX0_endOfGood_0 rfl ?_
  refine x_istore_n E [(3, .int (nI p0)), (0, .ref a0), (1, .int (nI p0)), (2, .ref t0)] dX0_endOfGood_1 (by decide) rfl ?_
  refine x_iconst E (v := nI 0) dX0_endOfGood_2 (by decide) ?_
  refine x_istore E [(4, .int (nI 0)), (3, .int (nI p0)), (0, .ref a0), (1, .int (nI p0)), (2, .ref t0)] dX0_endOfGood_3 (by decide) rfl ?_
  refine x_aload_n E 4 dX0_endOfGood_5 rfl ?_
  refine x_cV E [] [] [.int (nI (lastS c S))] [(a0, .inr (1, [.ref a1, .int (nI n)])), (a1, .inl (cB, 8192, .inl (bf g))), (t0, .inr (2, [.ref t1, .ref t2, .ref t3, .ref t4, .int (nI c)])), (t1, .inl (cI, 600, .inl (nf S))), (t2, .inl (cI, 600, .inl (nf Ln))), (t3, .inl (cZ, 600, .inl (zf Z))), (t4, .inl (cB, 38400, .inl (bf K)))] (c_X2_lastSecond l D cB cI cZ cJ t0 t1 t2 t3 t4 c S Ln Z K (by omega)) 0 rfl rfl (cwV 0 hts gX0_endOfGood_X2_lastSecond rfl rfl rfl (by decide +kernel) ⟨Nat.le_of_ble_eq_true rfl, Nat.le_of_ble_eq_true rfl⟩) [2, 3, 4, 5, 6] [0, 1] rfl rfl (by decide) (by decide) (by decide) [0, 1, 2, 3, 4, 5, 6] (by decide) rfl rfl (Nat.le_of_ble_eq_true rfl) dX0_endOfGood_6 ⟨Nat.zero_le _, Nat.zero_le _⟩ rfl rfl ?_
  refine x_istore E [(5, .int (nI (lastS c S))), (4, .int (nI 0)), (3, .int (nI p0)), (0, .ref a0), (1, .int (nI p0)), (2, .ref t0)] dX0_endOfGood_9 (by decide) rfl ?_
  exact loop 16 p0 0 _ rfl hp (fun h => absurd h (by decide)) rfl
set_option maxRecDepth 100000 in
set_option maxHeartbeats 4000000 in
theorem c_X0_writeRow (l : Launch) (D : va_G) (cB cI cZ cJ : ClassId) (a0 : Nat) (a1 : Nat) (n : Nat) (g : Nat → UInt8) (t0 : Nat) (t1 : Nat) (t2 : Nat) (t3 : Nat) (t4 : Nat) (c : Nat) (S : Nat → Nat) (Ln : Nat → Nat) (Z : Nat → Bool) (K : Nat → UInt8) (r0 : Nat) (hc : c ≤ 600) (hr0 : r0 < c) (hl : Ln r0 ≤ 64) (hn : n + (Ln r0 + 11) ≤ 8192) : Ct l D vwCl (tyl cB cI cZ cJ) yX0_writeRow wsX0_writeRow rmX0_writeRow [.ref a0, .ref t0, .int (nI r0)] [(a0, .inr (1, [.ref a1, .int (nI n)])), (a1, .inl (cB, 8192, .inl (bf g))), (t0, .inr (2, [.ref t1, .ref t2, .ref t3, .ref t4, .int (nI c)])), (t1, .inl (cI, 600, .inl (nf S))), (t2, .inl (cI, 600, .inl (nf Ln))), (t3, .inl (cZ, 600, .inl (zf Z))), (t4, .inl (cB, 38400, .inl (bf K)))] (some (.int (rowSm r0 (S r0) (Ln r0) K (r0 * 64)))) [(a0, .inr (1, [.ref a1, .int (nI (n + (Ln r0 + 11)))])), (a1, .inl (cB, 8192, .inl (bf (app g n (rowB r0 (S r0) (Ln r0) K (r0 * 64)))))), (t0, .inr (2, [.ref t1, .ref t2, .ref t3, .ref t4, .int (nI c)])), (t1, .inl (cI, 600, .inl (nf S))), (t2, .inl (cI, 600, .inl (nf Ln))), (t3, .inl (cZ, 600, .inl (zf Z))), (t4, .inl (cB, 38400, .inl (bf K)))] := by
  refine x_start (cc := cX0_writeRow) (maxL := 6) (ret := (some .int)) (by decide) rfl (Nat.le_of_ble_eq_true rfl) ?_
  intro xp xe xs xm xb xt xc xA E hr hlocks hnm
  obtain ⟨-, -, -, hown, hts, hK, hA⟩ := id E
  refine x_lve (lv' := [(0, .ref a0), (1, .ref t0), (2, .int (nI r0))]) rfl ?_
  have loop : ∀ (k i n' : Nat) (g' : Nat → UInt8), i + k = Ln r0 → n' + k = n + 1 + 4 + Ln r0 → app g' n' (conL K (r0 * 64 + i) k) = app (app (va_up g n (u8 (nI (Ln r0)))) (n + 1) (beL (nI (S r0)) 4)) (n + 1 + 4) (conL K (r0 * 64) (Ln r0)) → Xs xp l xe rmX0_writeRow xs xm ([.ref a0, .ref t0, .int (nI r0)] : List Value).toArray xb xt xc D vwCl xA 6 0 0 (MQ xb (CQ D vwCl (tyl cB cI cZ cJ) xA (fun r u => r = (some (.int (rowSm r0 (S r0) (Ln r0) K (r0 * 64)))) ∧ u = [(a0, .inr (1, [.ref a1, .int (nI (n + (Ln r0 + 11)))])), (a1, .inl (cB, 8192, .inl (bf (app g n (rowB r0 (S r0) (Ln r0) K (r0 * 64)))))), (t0, .inr (2, [.ref t1, .ref t2, .ref t3, .ref t4, .int (nI c)])), (t1, .inl (cI, 600, .inl (nf S))), (t2, .inl (cI, 600, .inl (nf Ln))), (t3, .inl (cZ, 600, .inl (zf Z))), (t4, .inl (cB, 38400, .inl (bf K)))])) ([.ref a0, .ref t0, .int (nI r0)] : List Value).toArray xs 0 0 xA) [(a0, .inr (1, [.ref a1, .int (nI n')])), (a1, .inl (cB, 8192, .inl (bf g'))), (t0, .inr (2, [.ref t1, .ref t2, .ref t3, .ref t4, .int (nI c)])), (t1, .inl (cI, 600, .inl (nf S))), (t2, .inl (cI, 600, .inl (nf Ln))), (t3, .inl (cZ, 600, .inl (zf Z))), (t4, .inl (cB, 38400, .inl (bf K)))] [(5, .int (nI i)), (4, .int (nI (Ln r0))), (3, .int (nI n)), (0, .ref a0), (1, .ref t0), (2, .int (nI r0))] 31 [] := by
    intro k
    induction k with
    | zero =>
      intro i n' g' h1 h2 h3
      have h2 : n' = n + 1 + 4 + Ln r0 := h2
      have h3 : g' = app (app (va_up g n (u8 (nI (Ln r0)))) (n + 1) (beL (nI (S r0)) 4)) (n + 1 + 4) (conL K (r0 * 64) (Ln r0)) := h3
      subst h2
      subst h3
      refine x_iload E 0 dX0_writeRow_31 rfl ?_
      refine x_iload E 1 dX0_writeRow_33 rfl ?_
      refine x_ncmp_ge E 55 dX0_writeRow_35 (by decide) (by omega) (by omega) (fun h35 => ?_) (fun h => False.elim (by omega))
      refine x_aload_n E 3 dX0_writeRow_55 rfl ?_
      refine x_iload_n E 5 dX0_writeRow_56 rfl ?_
      refine x_iconst E (v := nI 2) dX0_writeRow_57 (by decide) ?_
      refine x_cV E [.int (nI r0), .int (nI 2)] [] [] [(a0, .inr (1, [.ref a1, .int (nI ((n + 1 + 4 + Ln r0) + 2))])), (a1, .inl (cB, 8192, .inl (bf (app (app (app (va_up g n (u8 (nI (Ln r0)))) (n + 1) (beL (nI (S r0)) 4)) (n + 1 + 4) (conL K (r0 * 64) (Ln r0))) (n + 1 + 4 + Ln r0) (beL (nI r0) 2))))), (t0, .inr (2, [.ref t1, .ref t2, .ref t3, .ref t4, .int (nI c)])), (t1, .inl (cI, 600, .inl (nf S))), (t2, .inl (cI, 600, .inl (nf Ln))), (t3, .inl (cZ, 600, .inl (zf Z))), (t4, .inl (cB, 38400, .inl (bf K)))] (c_X1_addNumber l D cB cI cZ cJ a0 a1 (n + 1 + 4 + Ln r0) (app (app (va_up g n (u8 (nI (Ln r0)))) (n + 1) (beL (nI (S r0)) 4)) (n + 1 + 4) (conL K (r0 * 64) (Ln r0))) (nI r0) 2 (by omega)) 0 rfl rfl (cwV 2 hts gX0_writeRow_X1_addNumber rfl rfl rfl (by decide +kernel) ⟨Nat.le_of_ble_eq_true rfl, Nat.le_of_ble_eq_true rfl⟩) [0, 1] [2, 3, 4, 5, 6] rfl rfl (by decide) (by decide) (by decide) [5, 6, 0, 1, 2, 3, 4] (by decide) rfl rfl (Nat.le_of_ble_eq_true rfl) dX0_writeRow_58 ⟨Nat.zero_le _, Nat.zero_le _⟩ rfl rfl ?_
      refine x_ws (ws' := [(a0, .inr (1, [.ref a1, .int (nI ((n + 1 + 4 + Ln r0) + 2))])), (a1, .inl (cB, 8192, .inl (bf (app g n (rowL r0 (S r0) (Ln r0) K (r0 * 64)))))), (t0, .inr (2, [.ref t1, .ref t2, .ref t3, .ref t4, .int (nI c)])), (t1, .inl (cI, 600, .inl (nf S))), (t2, .inl (cI, 600, .inl (nf Ln))), (t3, .inl (cZ, 600, .inl (zf Z))), (t4, .inl (cB, 38400, .inl (bf K)))]) (by rw [rowL_app]) ?_
      refine x_aload_n E 3 dX0_writeRow_61 rfl ?_
      refine x_iload_n E 2 dX0_writeRow_62 rfl ?_
      refine x_aload_n E 3 dX0_writeRow_63 rfl ?_
      refine x_cV E [] [.int (nI n), .ref a0] [.int (nI ((n + 1 + 4 + Ln r0) + 2)), .int (nI n), .ref a0] [(a0, .inr (1, [.ref a1, .int (nI ((n + 1 + 4 + Ln r0) + 2))])), (a1, .inl (cB, 8192, .inl (bf (app g n (rowL r0 (S r0) (Ln r0) K (r0 * 64)))))), (t0, .inr (2, [.ref t1, .ref t2, .ref t3, .ref t4, .int (nI c)])), (t1, .inl (cI, 600, .inl (nf S))), (t2, .inl (cI, 600, .inl (nf Ln))), (t3, .inl (cZ, 600, .inl (zf Z))), (t4, .inl (cB, 38400, .inl (bf K)))] (c_X1_size l D cB cI cZ cJ a0 a1 ((n + 1 + 4 + Ln r0) + 2) (app g n (rowL r0 (S r0) (Ln r0) K (r0 * 64))) ) 0 rfl rfl (cwV 0 hts gX0_writeRow_X1_size rfl rfl rfl (by decide +kernel) ⟨Nat.le_of_ble_eq_true rfl, Nat.le_of_ble_eq_true rfl⟩) [0, 1] [2, 3, 4, 5, 6] rfl rfl (by decide) (by decide) (by decide) [5, 6, 0, 1, 2, 3, 4] (by decide) rfl rfl (Nat.le_of_ble_eq_true rfl) dX0_writeRow_64 ⟨Nat.zero_le _, Nat.zero_le _⟩ rfl rfl ?_
      refine x_iconst E (v := nI 0) dX0_writeRow_67 (by decide) ?_
      refine x_cV E [.int (nI n), .int (nI ((n + 1 + 4 + Ln r0) + 2)), .int (nI 0)] [] [.int (smG (app g n (rowL r0 (S r0) (Ln r0) K (r0 * 64))) n (((n + 1 + 4 + Ln r0) + 2) - n) (nI 0))] [(a0, .inr (1, [.ref a1, .int (nI ((n + 1 + 4 + Ln r0) + 2))])), (a1, .inl (cB, 8192, .inl (bf (app g n (rowL r0 (S r0) (Ln r0) K (r0 * 64)))))), (t0, .inr (2, [.ref t1, .ref t2, .ref t3, .ref t4, .int (nI c)])), (t1, .inl (cI, 600, .inl (nf S))), (t2, .inl (cI, 600, .inl (nf Ln))), (t3, .inl (cZ, 600, .inl (zf Z))), (t4, .inl (cB, 38400, .inl (bf K)))] (c_X1_sumOf l D cB cI cZ cJ a0 a1 ((n + 1 + 4 + Ln r0) + 2) (app g n (rowL r0 (S r0) (Ln r0) K (r0 * 64))) n ((n + 1 + 4 + Ln r0) + 2) (nI 0) (by omega) (by omega) (by omega)) 0 rfl rfl (cwV 3 hts gX0_writeRow_X1_sumOf rfl rfl rfl (by decide +kernel) ⟨Nat.le_of_ble_eq_true rfl, Nat.le_of_ble_eq_true rfl⟩) [0, 1] [2, 3, 4, 5, 6] rfl rfl (by decide) (by decide) (by decide) [5, 6, 0, 1, 2, 3, 4] (by decide) rfl rfl (Nat.le_of_ble_eq_true rfl) dX0_writeRow_68 ⟨Nat.zero_le _, Nat.zero_le _⟩ rfl rfl ?_
      refine x_top (w := .int (rowSm r0 (S r0) (Ln r0) K (r0 * 64))) (by unfold rowSm; rw [← smG_app _ g n, rowL_len]; congr 2; omega) ?_
      refine x_istore E [(5, .int (rowSm r0 (S r0) (Ln r0) K (r0 * 64))), (4, .int (nI (Ln r0))), (3, .int (nI n)), (0, .ref a0), (1, .ref t0), (2, .int (nI r0))] dX0_writeRow_71 (by decide) rfl ?_
      refine x_aload_n E 3 dX0_writeRow_73 rfl ?_
      refine x_iload E 0 dX0_writeRow_74 rfl ?_
      refine x_iconst E (v := nI 4) dX0_writeRow_76 (by decide) ?_
      refine x_cV E [.int (rowSm r0 (S r0) (Ln r0) K (r0 * 64)), .int (nI 4)] [] [] [(a0, .inr (1, [.ref a1, .int (nI (((n + 1 + 4 + Ln r0) + 2) + 4))])), (a1, .inl (cB, 8192, .inl (bf (app (app g n (rowL r0 (S r0) (Ln r0) K (r0 * 64))) ((n + 1 + 4 + Ln r0) + 2) (beL (rowSm r0 (S r0) (Ln r0) K (r0 * 64)) 4))))), (t0, .inr (2, [.ref t1, .ref t2, .ref t3, .ref t4, .int (nI c)])), (t1, .inl (cI, 600, .inl (nf S))), (t2, .inl (cI, 600, .inl (nf Ln))), (t3, .inl (cZ, 600, .inl (zf Z))), (t4, .inl (cB, 38400, .inl (bf K)))] (c_X1_addNumber l D cB cI cZ cJ a0 a1 ((n + 1 + 4 + Ln r0) + 2) (app g n (rowL r0 (S r0) (Ln r0) K (r0 * 64))) (rowSm r0 (S r0) (Ln r0) K (r0 * 64)) 4 (by omega)) 0 rfl rfl (cwV 2 hts gX0_writeRow_X1_addNumber rfl rfl rfl (by decide +kernel) ⟨Nat.le_of_ble_eq_true rfl, Nat.le_of_ble_eq_true rfl⟩) [0, 1] [2, 3, 4, 5, 6] rfl rfl (by decide) (by decide) (by decide) [5, 6, 0, 1, 2, 3, 4] (by decide) rfl rfl (Nat.le_of_ble_eq_true rfl) dX0_writeRow_77 ⟨Nat.zero_le _, Nat.zero_le _⟩ rfl rfl ?_
      refine x_iload E 0 dX0_writeRow_80 rfl ?_
      exact x_iret E hr hlocks dX0_writeRow_82 ⟨rfl, by rw [show n + (Ln r0 + 11) = ((n + 1 + 4 + Ln r0) + 2) + 4 by omega]; unfold rowB; rw [app_app, rowL_len, show n + (7 + Ln r0) = n + 1 + 4 + Ln r0 + 2 by omega]⟩
    | succ k ih =>
      intro i n' g' h1 h2 h3
      refine x_iload E 0 dX0_writeRow_31 rfl ?_
      refine x_iload E 1 dX0_writeRow_33 rfl ?_
      refine x_ncmp_ge E 55 dX0_writeRow_35 (by decide) (by omega) (by omega) (fun h => False.elim (by omega)) (fun h35 => ?_)
      refine x_aload_n E 3 dX0_writeRow_38 rfl ?_
      refine x_aload_n E 4 dX0_writeRow_39 rfl ?_
      refine x_iload_n E 5 dX0_writeRow_40 rfl ?_
      refine x_iload E 0 dX0_writeRow_41 rfl ?_
      refine x_cV E [.int (nI r0), .int (nI i)] [.ref a0] [.int (nI ((K (r0 * 64 + i)).toNat)), .ref a0] [(a0, .inr (1, [.ref a1, .int (nI n')])), (a1, .inl (cB, 8192, .inl (bf g'))), (t0, .inr (2, [.ref t1, .ref t2, .ref t3, .ref t4, .int (nI c)])), (t1, .inl (cI, 600, .inl (nf S))), (t2, .inl (cI, 600, .inl (nf Ln))), (t3, .inl (cZ, 600, .inl (zf Z))), (t4, .inl (cB, 38400, .inl (bf K)))] (c_X2_contentAt_in l D cB cI cZ cJ t0 t1 t2 t3 t4 c S Ln Z K r0 i (by omega) (by omega) (by omega) (by omega)) 0 rfl rfl (cwV 2 hts gX0_writeRow_X2_contentAt rfl rfl rfl (by decide +kernel) ⟨Nat.le_of_ble_eq_true rfl, Nat.le_of_ble_eq_true rfl⟩) [2, 3, 4, 5, 6] [0, 1] rfl rfl (by decide) (by decide) (by decide) [0, 1, 2, 3, 4, 5, 6] (by decide) rfl rfl (Nat.le_of_ble_eq_true rfl) dX0_writeRow_43 ⟨Nat.zero_le _, Nat.zero_le _⟩ rfl rfl ?_
      refine x_cV E [.int (nI ((K (r0 * 64 + i)).toNat))] [] [] [(a0, .inr (1, [.ref a1, .int (nI (n' + 1))])), (a1, .inl (cB, 8192, .inl (bf (va_up g' n' (u8 (nI ((K (r0 * 64 + i)).toNat))))))), (t0, .inr (2, [.ref t1, .ref t2, .ref t3, .ref t4, .int (nI c)])), (t1, .inl (cI, 600, .inl (nf S))), (t2, .inl (cI, 600, .inl (nf Ln))), (t3, .inl (cZ, 600, .inl (zf Z))), (t4, .inl (cB, 38400, .inl (bf K)))] (c_X1_add l D cB cI cZ cJ a0 a1 n' g' (nI ((K (r0 * 64 + i)).toNat)) (by omega)) 0 rfl rfl (cwV 1 hts gX0_writeRow_X1_add rfl rfl rfl (by decide +kernel) ⟨Nat.le_of_ble_eq_true rfl, Nat.le_of_ble_eq_true rfl⟩) [0, 1] [2, 3, 4, 5, 6] rfl rfl (by decide) (by decide) (by decide) [5, 6, 0, 1, 2, 3, 4] (by decide) rfl rfl (Nat.le_of_ble_eq_true rfl) dX0_writeRow_46 ⟨Nat.zero_le _, Nat.zero_le _⟩ rfl rfl ?_
      refine x_iinc E 0 [(5, .int (nI (i + 1))), (4, .int (nI (Ln r0))), (3, .int (nI n)), (0, .ref a0), (1, .ref t0), (2, .int (nI r0))] dX0_writeRow_49 rfl (nI_add _ _) (by decide) rfl ?_
      refine x_goto E 31 dX0_writeRow_52 (by decide) ?_
      refine x_ws (ws' := [(a0, .inr (1, [.ref a1, .int (nI (n' + 1))])), (a1, .inl (cB, 8192, .inl (bf (va_up g' n' (K (r0 * 64 + i)))))), (t0, .inr (2, [.ref t1, .ref t2, .ref t3, .ref t4, .int (nI c)])), (t1, .inl (cI, 600, .inl (nf S))), (t2, .inl (cI, 600, .inl (nf Ln))), (t3, .inl (cZ, 600, .inl (zf Z))), (t4, .inl (cB, 38400, .inl (bf K)))]) (by rw [u8_u]) ?_
      exact ih (i + 1) (n' + 1) _ (by omega) (by omega) (by rw [← h3, conL_s, app_s]; rfl)
  refine x_aload_n E 0 dX0_writeRow_0 rfl ?_
  refine x_cV E [] [] [.int (nI n)] [(a0, .inr (1, [.ref a1, .int (nI n)])), (a1, .inl (cB, 8192, .inl (bf g))), (t0, .inr (2, [.ref t1, .ref t2, .ref t3, .ref t4, .int (nI c)])), (t1, .inl (cI, 600, .inl (nf S))), (t2, .inl (cI, 600, .inl (nf Ln))), (t3, .inl (cZ, 600, .inl (zf Z))), (t4, .inl (cB, 38400, .inl (bf K)))] (c_X1_size l D cB cI cZ cJ a0 a1 n g ) 0 rfl rfl (cwV 0 hts gX0_writeRow_X1_size rfl rfl rfl (by decide +kernel) ⟨Nat.le_of_ble_eq_true rfl, Nat.le_of_ble_eq_true rfl⟩) [0, 1] [2, 3, 4, 5, 6] rfl rfl (by decide) (by decide) (by decide) [5, 6, 0, 1, 2, 3, 4] (by decide) rfl rfl (Nat.le_of_ble_eq_true rfl) dX0_writeRow_1 ⟨Nat.zero_le _, Nat.zero_le _⟩ rfl rfl ?_
  refine x_istore_n E [(3, .int (nI n)), (0, .ref a0), (1, .ref t0), (2, .int (nI r0))] dX0_writeRow_4 (by decide) rfl ?_
  refine x_aload_n E 2 dX0_writeRow_5 rfl ?_
  refine x_iload_n E 3 dX0_writeRow_6 rfl ?_
  refine x_cV E [.int (nI r0)] [] [.int (nI (Ln r0))] [(a0, .inr (1, [.ref a1, .int (nI n)])), (a1, .inl (cB, 8192, .inl (bf g))), (t0, .inr (2, [.ref t1, .ref t2, .ref t3, .ref t4, .int (nI c)])), (t1, .inl (cI, 600, .inl (nf S))), (t2, .inl (cI, 600, .inl (nf Ln))), (t3, .inl (cZ, 600, .inl (zf Z))), (t4, .inl (cB, 38400, .inl (bf K)))] (c_X2_lengthOf_in l D cB cI cZ cJ t0 t1 t2 t3 t4 c S Ln Z K r0 (by omega) (by omega)) 0 rfl rfl (cwV 1 hts gX0_writeRow_X2_lengthOf rfl rfl rfl (by decide +kernel) ⟨Nat.le_of_ble_eq_true rfl, Nat.le_of_ble_eq_true rfl⟩) [2, 3, 4, 5, 6] [0, 1] rfl rfl (by decide) (by decide) (by decide) [0, 1, 2, 3, 4, 5, 6] (by decide) rfl rfl (Nat.le_of_ble_eq_true rfl) dX0_writeRow_7 ⟨Nat.zero_le _, Nat.zero_le _⟩ rfl rfl ?_
  refine x_istore E [(4, .int (nI (Ln r0))), (3, .int (nI n)), (0, .ref a0), (1, .ref t0), (2, .int (nI r0))] dX0_writeRow_10 (by decide) rfl ?_
  refine x_aload_n E 2 dX0_writeRow_12 rfl ?_
  refine x_iload E 0 dX0_writeRow_13 rfl ?_
  refine x_cV E [.int (nI (Ln r0))] [] [] [(a0, .inr (1, [.ref a1, .int (nI (n + 1))])), (a1, .inl (cB, 8192, .inl (bf (va_up g n (u8 (nI (Ln r0))))))), (t0, .inr (2, [.ref t1, .ref t2, .ref t3, .ref t4, .int (nI c)])), (t1, .inl (cI, 600, .inl (nf S))), (t2, .inl (cI, 600, .inl (nf Ln))), (t3, .inl (cZ, 600, .inl (zf Z))), (t4, .inl (cB, 38400, .inl (bf K)))] (c_X1_add l D cB cI cZ cJ a0 a1 n g (nI (Ln r0)) (by omega)) 0 rfl rfl (cwV 1 hts gX0_writeRow_X1_add rfl rfl rfl (by decide +kernel) ⟨Nat.le_of_ble_eq_true rfl, Nat.le_of_ble_eq_true rfl⟩) [0, 1] [2, 3, 4, 5, 6] rfl rfl (by decide) (by decide) (by decide) [5, 6, 0, 1, 2, 3, 4] (by decide) rfl rfl (Nat.le_of_ble_eq_true rfl) dX0_writeRow_15 ⟨Nat.zero_le _, Nat.zero_le _⟩ rfl rfl ?_
  refine x_aload_n E 2 dX0_writeRow_18 rfl ?_
  refine x_aload_n E 3 dX0_writeRow_19 rfl ?_
  refine x_iload_n E 4 dX0_writeRow_20 rfl ?_
  refine x_cV E [.int (nI r0)] [.ref a0] [.int (nI (S r0)), .ref a0] [(a0, .inr (1, [.ref a1, .int (nI (n + 1))])), (a1, .inl (cB, 8192, .inl (bf (va_up g n (u8 (nI (Ln r0))))))), (t0, .inr (2, [.ref t1, .ref t2, .ref t3, .ref t4, .int (nI c)])), (t1, .inl (cI, 600, .inl (nf S))), (t2, .inl (cI, 600, .inl (nf Ln))), (t3, .inl (cZ, 600, .inl (zf Z))), (t4, .inl (cB, 38400, .inl (bf K)))] (c_X2_secondOf_in l D cB cI cZ cJ t0 t1 t2 t3 t4 c S Ln Z K r0 (by omega) (by omega)) 0 rfl rfl (cwV 1 hts gX0_writeRow_X2_secondOf rfl rfl rfl (by decide +kernel) ⟨Nat.le_of_ble_eq_true rfl, Nat.le_of_ble_eq_true rfl⟩) [2, 3, 4, 5, 6] [0, 1] rfl rfl (by decide) (by decide) (by decide) [0, 1, 2, 3, 4, 5, 6] (by decide) rfl rfl (Nat.le_of_ble_eq_true rfl) dX0_writeRow_21 ⟨Nat.zero_le _, Nat.zero_le _⟩ rfl rfl ?_
  refine x_iconst E (v := nI 4) dX0_writeRow_24 (by decide) ?_
  refine x_cV E [.int (nI (S r0)), .int (nI 4)] [] [] [(a0, .inr (1, [.ref a1, .int (nI ((n + 1) + 4))])), (a1, .inl (cB, 8192, .inl (bf (app (va_up g n (u8 (nI (Ln r0)))) (n + 1) (beL (nI (S r0)) 4))))), (t0, .inr (2, [.ref t1, .ref t2, .ref t3, .ref t4, .int (nI c)])), (t1, .inl (cI, 600, .inl (nf S))), (t2, .inl (cI, 600, .inl (nf Ln))), (t3, .inl (cZ, 600, .inl (zf Z))), (t4, .inl (cB, 38400, .inl (bf K)))] (c_X1_addNumber l D cB cI cZ cJ a0 a1 (n + 1) (va_up g n (u8 (nI (Ln r0)))) (nI (S r0)) 4 (by omega)) 0 rfl rfl (cwV 2 hts gX0_writeRow_X1_addNumber rfl rfl rfl (by decide +kernel) ⟨Nat.le_of_ble_eq_true rfl, Nat.le_of_ble_eq_true rfl⟩) [0, 1] [2, 3, 4, 5, 6] rfl rfl (by decide) (by decide) (by decide) [5, 6, 0, 1, 2, 3, 4] (by decide) rfl rfl (Nat.le_of_ble_eq_true rfl) dX0_writeRow_25 ⟨Nat.zero_le _, Nat.zero_le _⟩ rfl rfl ?_
  refine x_iconst E (v := nI 0) dX0_writeRow_28 (by decide) ?_
  refine x_istore E [(5, .int (nI 0)), (4, .int (nI (Ln r0))), (3, .int (nI n)), (0, .ref a0), (1, .ref t0), (2, .int (nI r0))] dX0_writeRow_29 (by decide) rfl ?_
  exact loop (Ln r0) 0 _ _ (by omega) rfl rfl
set_option maxRecDepth 100000 in
set_option maxHeartbeats 4000000 in
theorem c_X0_write (l : Launch) (D : va_G) (cB cI cZ cJ : ClassId) (a0 : Nat) (a1 : Nat) (n : Nat) (g : Nat → UInt8) (t0 : Nat) (t1 : Nat) (t2 : Nat) (t3 : Nat) (t4 : Nat) (c : Nat) (S : Nat → Nat) (Ln : Nat → Nat) (Z : Nat → Bool) (K : Nat → UInt8) (k0 : Nat) (hc : c ≤ 600) (hk : k0 ≤ c) (hl : ∀ r, r < c → Ln r ≤ 64) (hn : n + (rsz Ln k0 (c - k0) + 6) ≤ 8192) : Ct l D vwCl (tyl cB cI cZ cJ) yX0_write wsX0_write rmX0_write [.ref a0, .ref t0, .int (nI k0)] [(a0, .inr (1, [.ref a1, .int (nI n)])), (a1, .inl (cB, 8192, .inl (bf g))), (t0, .inr (2, [.ref t1, .ref t2, .ref t3, .ref t4, .int (nI c)])), (t1, .inl (cI, 600, .inl (nf S))), (t2, .inl (cI, 600, .inl (nf Ln))), (t3, .inl (cZ, 600, .inl (zf Z))), (t4, .inl (cB, 38400, .inl (bf K)))] none [(a0, .inr (1, [.ref a1, .int (nI (n + (rsz Ln k0 (c - k0) + 6)))])), (a1, .inl (cB, 8192, .inl (bf (app g n (grpB S Ln K k0 (c - k0)))))), (t0, .inr (2, [.ref t1, .ref t2, .ref t3, .ref t4, .int (nI c)])), (t1, .inl (cI, 600, .inl (nf S))), (t2, .inl (cI, 600, .inl (nf Ln))), (t3, .inl (cZ, 600, .inl (zf Z))), (t4, .inl (cB, 38400, .inl (bf K)))] := by
  refine x_start (cc := cX0_write) (maxL := 5) (ret := none) (by decide) rfl (Nat.le_of_ble_eq_true rfl) ?_
  intro xp xe xs xm xb xt xc xA E hr hlocks hnm
  obtain ⟨-, -, -, hown, hts, hK, hA⟩ := id E
  refine x_lve (lv' := [(0, .ref a0), (1, .ref t0), (2, .int (nI k0))]) rfl ?_
  have loop : ∀ (k r n' : Nat) (s' : Int32) (g' : Nat → UInt8), r + k = c → n' + rsz Ln r k = n + rsz Ln k0 (c - k0) → app g' n' (rowsB S Ln K r k) = app g n (rowsB S Ln K k0 (c - k0)) → rowsSm S Ln K r k s' = rowsSm S Ln K k0 (c - k0) (nI 0) → Xs xp l xe rmX0_write xs xm ([.ref a0, .ref t0, .int (nI k0)] : List Value).toArray xb xt xc D vwCl xA 5 0 0 (MQ xb (CQ D vwCl (tyl cB cI cZ cJ) xA (fun r u => r = none ∧ u = [(a0, .inr (1, [.ref a1, .int (nI (n + (rsz Ln k0 (c - k0) + 6)))])), (a1, .inl (cB, 8192, .inl (bf (app g n (grpB S Ln K k0 (c - k0)))))), (t0, .inr (2, [.ref t1, .ref t2, .ref t3, .ref t4, .int (nI c)])), (t1, .inl (cI, 600, .inl (nf S))), (t2, .inl (cI, 600, .inl (nf Ln))), (t3, .inl (cZ, 600, .inl (zf Z))), (t4, .inl (cB, 38400, .inl (bf K)))])) ([.ref a0, .ref t0, .int (nI k0)] : List Value).toArray xs 0 0 xA) [(a0, .inr (1, [.ref a1, .int (nI n')])), (a1, .inl (cB, 8192, .inl (bf g'))), (t0, .inr (2, [.ref t1, .ref t2, .ref t3, .ref t4, .int (nI c)])), (t1, .inl (cI, 600, .inl (nf S))), (t2, .inl (cI, 600, .inl (nf Ln))), (t3, .inl (cZ, 600, .inl (zf Z))), (t4, .inl (cB, 38400, .inl (bf K)))] [(4, .int (nI r)), (3, .int s'), (0, .ref a0), (1, .ref t0), (2, .int (nI k0))] 5 [] := by
    intro k
    induction k with
    | zero =>
      intro r n' s' g' h1 h2 h3 h4
      have h2 : n' = n + rsz Ln k0 (c - k0) := h2
      have h3 : g' = app g n (rowsB S Ln K k0 (c - k0)) := h3
      have h4 : s' = rowsSm S Ln K k0 (c - k0) (nI 0) := h4
      subst h2
      subst h3
      subst h4
      refine x_iload E 0 dX0_write_5 rfl ?_
      refine x_aload_n E 3 dX0_write_7 rfl ?_
      refine x_cV E [] [.int (nI r)] [.int (nI c), .int (nI r)] [(a0, .inr (1, [.ref a1, .int (nI (n + rsz Ln k0 (c - k0)))])), (a1, .inl (cB, 8192, .inl (bf (app g n (rowsB S Ln K k0 (c - k0)))))), (t0, .inr (2, [.ref t1, .ref t2, .ref t3, .ref t4, .int (nI c)])), (t1, .inl (cI, 600, .inl (nf S))), (t2, .inl (cI, 600, .inl (nf Ln))), (t3, .inl (cZ, 600, .inl (zf Z))), (t4, .inl (cB, 38400, .inl (bf K)))] (c_X2_count l D cB cI cZ cJ t0 t1 t2 t3 t4 c S Ln Z K ) 0 rfl rfl (cwV 0 hts gX0_write_X2_count rfl rfl rfl (by decide +kernel) ⟨Nat.le_of_ble_eq_true rfl, Nat.le_of_ble_eq_true rfl⟩) [2, 3, 4, 5, 6] [0, 1] rfl rfl (by decide) (by decide) (by decide) [0, 1, 2, 3, 4, 5, 6] (by decide) rfl rfl (Nat.le_of_ble_eq_true rfl) dX0_write_8 ⟨Nat.zero_le _, Nat.zero_le _⟩ rfl rfl ?_
      refine x_ncmp_ge E 28 dX0_write_11 (by decide) (by omega) (by omega) (fun h11 => ?_) (fun h => False.elim (by omega))
      refine x_aload_n E 2 dX0_write_28 rfl ?_
      refine x_cV E [] [] [.int (nI (n + rsz Ln k0 (c - k0)))] [(a0, .inr (1, [.ref a1, .int (nI (n + rsz Ln k0 (c - k0)))])), (a1, .inl (cB, 8192, .inl (bf (app g n (rowsB S Ln K k0 (c - k0)))))), (t0, .inr (2, [.ref t1, .ref t2, .ref t3, .ref t4, .int (nI c)])), (t1, .inl (cI, 600, .inl (nf S))), (t2, .inl (cI, 600, .inl (nf Ln))), (t3, .inl (cZ, 600, .inl (zf Z))), (t4, .inl (cB, 38400, .inl (bf K)))] (c_X1_size l D cB cI cZ cJ a0 a1 (n + rsz Ln k0 (c - k0)) (app g n (rowsB S Ln K k0 (c - k0))) ) 0 rfl rfl (cwV 0 hts gX0_write_X1_size rfl rfl rfl (by decide +kernel) ⟨Nat.le_of_ble_eq_true rfl, Nat.le_of_ble_eq_true rfl⟩) [0, 1] [2, 3, 4, 5, 6] rfl rfl (by decide) (by decide) (by decide) [5, 6, 0, 1, 2, 3, 4] (by decide) rfl rfl (Nat.le_of_ble_eq_true rfl) dX0_write_29 ⟨Nat.zero_le _, Nat.zero_le _⟩ rfl rfl ?_
      refine x_istore E [(4, .int (nI (n + rsz Ln k0 (c - k0)))), (3, .int (rowsSm S Ln K k0 (c - k0) (nI 0))), (0, .ref a0), (1, .ref t0), (2, .int (nI k0))] dX0_write_32 (by decide) rfl ?_
      refine x_aload_n E 2 dX0_write_34 rfl ?_
      refine x_iconst E (v := nI 0) dX0_write_35 (by decide) ?_
      refine x_cV E [.int (nI 0)] [] [] [(a0, .inr (1, [.ref a1, .int (nI ((n + rsz Ln k0 (c - k0)) + 1))])), (a1, .inl (cB, 8192, .inl (bf (va_up (app g n (rowsB S Ln K k0 (c - k0))) (n + rsz Ln k0 (c - k0)) (u8 (nI 0)))))), (t0, .inr (2, [.ref t1, .ref t2, .ref t3, .ref t4, .int (nI c)])), (t1, .inl (cI, 600, .inl (nf S))), (t2, .inl (cI, 600, .inl (nf Ln))), (t3, .inl (cZ, 600, .inl (zf Z))), (t4, .inl (cB, 38400, .inl (bf K)))] (c_X1_add l D cB cI cZ cJ a0 a1 (n + rsz Ln k0 (c - k0)) (app g n (rowsB S Ln K k0 (c - k0))) (nI 0) (by omega)) 0 rfl rfl (cwV 1 hts gX0_write_X1_add rfl rfl rfl (by decide +kernel) ⟨Nat.le_of_ble_eq_true rfl, Nat.le_of_ble_eq_true rfl⟩) [0, 1] [2, 3, 4, 5, 6] rfl rfl (by decide) (by decide) (by decide) [5, 6, 0, 1, 2, 3, 4] (by decide) rfl rfl (Nat.le_of_ble_eq_true rfl) dX0_write_36 ⟨Nat.zero_le _, Nat.zero_le _⟩ rfl rfl ?_
      refine x_aload_n E 2 dX0_write_39 rfl ?_
      refine x_aload_n E 3 dX0_write_40 rfl ?_
      refine x_cV E [] [.ref a0] [.int (nI c), .ref a0] [(a0, .inr (1, [.ref a1, .int (nI ((n + rsz Ln k0 (c - k0)) + 1))])), (a1, .inl (cB, 8192, .inl (bf (va_up (app g n (rowsB S Ln K k0 (c - k0))) (n + rsz Ln k0 (c - k0)) (u8 (nI 0)))))), (t0, .inr (2, [.ref t1, .ref t2, .ref t3, .ref t4, .int (nI c)])), (t1, .inl (cI, 600, .inl (nf S))), (t2, .inl (cI, 600, .inl (nf Ln))), (t3, .inl (cZ, 600, .inl (zf Z))), (t4, .inl (cB, 38400, .inl (bf K)))] (c_X2_count l D cB cI cZ cJ t0 t1 t2 t3 t4 c S Ln Z K ) 0 rfl rfl (cwV 0 hts gX0_write_X2_count rfl rfl rfl (by decide +kernel) ⟨Nat.le_of_ble_eq_true rfl, Nat.le_of_ble_eq_true rfl⟩) [2, 3, 4, 5, 6] [0, 1] rfl rfl (by decide) (by decide) (by decide) [0, 1, 2, 3, 4, 5, 6] (by decide) rfl rfl (Nat.le_of_ble_eq_true rfl) dX0_write_41 ⟨Nat.zero_le _, Nat.zero_le _⟩ rfl rfl ?_
      refine x_iload_n E 4 dX0_write_44 rfl ?_
      refine x_nisub E dX0_write_45 (by omega) ?_
      refine x_cV E [.int (nI (c - k0))] [] [] [(a0, .inr (1, [.ref a1, .int (nI (((n + rsz Ln k0 (c - k0)) + 1) + 1))])), (a1, .inl (cB, 8192, .inl (bf (va_up (va_up (app g n (rowsB S Ln K k0 (c - k0))) (n + rsz Ln k0 (c - k0)) (u8 (nI 0))) ((n + rsz Ln k0 (c - k0)) + 1) (u8 (nI (c - k0))))))), (t0, .inr (2, [.ref t1, .ref t2, .ref t3, .ref t4, .int (nI c)])), (t1, .inl (cI, 600, .inl (nf S))), (t2, .inl (cI, 600, .inl (nf Ln))), (t3, .inl (cZ, 600, .inl (zf Z))), (t4, .inl (cB, 38400, .inl (bf K)))] (c_X1_add l D cB cI cZ cJ a0 a1 ((n + rsz Ln k0 (c - k0)) + 1) (va_up (app g n (rowsB S Ln K k0 (c - k0))) (n + rsz Ln k0 (c - k0)) (u8 (nI 0))) (nI (c - k0)) (by omega)) 0 rfl rfl (cwV 1 hts gX0_write_X1_add rfl rfl rfl (by decide +kernel) ⟨Nat.le_of_ble_eq_true rfl, Nat.le_of_ble_eq_true rfl⟩) [0, 1] [2, 3, 4, 5, 6] rfl rfl (by decide) (by decide) (by decide) [5, 6, 0, 1, 2, 3, 4] (by decide) rfl rfl (Nat.le_of_ble_eq_true rfl) dX0_write_46 ⟨Nat.zero_le _, Nat.zero_le _⟩ rfl rfl ?_
      refine x_aload_n E 2 dX0_write_49 rfl ?_
      refine x_aload_n E 2 dX0_write_50 rfl ?_
      refine x_iload E 0 dX0_write_51 rfl ?_
      refine x_iload E 0 dX0_write_53 rfl ?_
      refine x_iconst E (v := nI 2) dX0_write_55 (by decide) ?_
      refine x_niadd E dX0_write_56 ?_
      refine x_iload_n E 1 dX0_write_57 rfl ?_
      refine x_cV E [.int (nI (n + rsz Ln k0 (c - k0))), .int (nI ((n + rsz Ln k0 (c - k0)) + 2)), .int (rowsSm S Ln K k0 (c - k0) (nI 0))] [.ref a0] [.int (smG (va_up (va_up (app g n (rowsB S Ln K k0 (c - k0))) (n + rsz Ln k0 (c - k0)) (u8 (nI 0))) ((n + rsz Ln k0 (c - k0)) + 1) (u8 (nI (c - k0)))) (n + rsz Ln k0 (c - k0)) (((n + rsz Ln k0 (c - k0)) + 2) - (n + rsz Ln k0 (c - k0))) (rowsSm S Ln K k0 (c - k0) (nI 0))), .ref a0] [(a0, .inr (1, [.ref a1, .int (nI (((n + rsz Ln k0 (c - k0)) + 1) + 1))])), (a1, .inl (cB, 8192, .inl (bf (va_up (va_up (app g n (rowsB S Ln K k0 (c - k0))) (n + rsz Ln k0 (c - k0)) (u8 (nI 0))) ((n + rsz Ln k0 (c - k0)) + 1) (u8 (nI (c - k0))))))), (t0, .inr (2, [.ref t1, .ref t2, .ref t3, .ref t4, .int (nI c)])), (t1, .inl (cI, 600, .inl (nf S))), (t2, .inl (cI, 600, .inl (nf Ln))), (t3, .inl (cZ, 600, .inl (zf Z))), (t4, .inl (cB, 38400, .inl (bf K)))] (c_X1_sumOf l D cB cI cZ cJ a0 a1 (((n + rsz Ln k0 (c - k0)) + 1) + 1) (va_up (va_up (app g n (rowsB S Ln K k0 (c - k0))) (n + rsz Ln k0 (c - k0)) (u8 (nI 0))) ((n + rsz Ln k0 (c - k0)) + 1) (u8 (nI (c - k0)))) (n + rsz Ln k0 (c - k0)) ((n + rsz Ln k0 (c - k0)) + 2) (rowsSm S Ln K k0 (c - k0) (nI 0)) (by omega) (by omega) (by omega)) 0 rfl rfl (cwV 3 hts gX0_write_X1_sumOf rfl rfl rfl (by decide +kernel) ⟨Nat.le_of_ble_eq_true rfl, Nat.le_of_ble_eq_true rfl⟩) [0, 1] [2, 3, 4, 5, 6] rfl rfl (by decide) (by decide) (by decide) [5, 6, 0, 1, 2, 3, 4] (by decide) rfl rfl (Nat.le_of_ble_eq_true rfl) dX0_write_58 ⟨Nat.zero_le _, Nat.zero_le _⟩ rfl rfl ?_
      refine x_top (w := .int (smL [u8 (nI 0), u8 (nI (c - k0))] (rowsSm S Ln K k0 (c - k0) (nI 0)))) (by rw [← smG_app _ (app g n (rowsB S Ln K k0 (c - k0))) (n + rsz Ln k0 (c - k0)), show n + rsz Ln k0 (c - k0) + 2 - (n + rsz Ln k0 (c - k0)) = 2 by omega]; rfl) ?_
      refine x_iconst E (v := nI 4) dX0_write_61 (by decide) ?_
      refine x_cV E [.int (smL [u8 (nI 0), u8 (nI (c - k0))] (rowsSm S Ln K k0 (c - k0) (nI 0))), .int (nI 4)] [] [] [(a0, .inr (1, [.ref a1, .int (nI ((((n + rsz Ln k0 (c - k0)) + 1) + 1) + 4))])), (a1, .inl (cB, 8192, .inl (bf (app (va_up (va_up (app g n (rowsB S Ln K k0 (c - k0))) (n + rsz Ln k0 (c - k0)) (u8 (nI 0))) ((n + rsz Ln k0 (c - k0)) + 1) (u8 (nI (c - k0)))) (((n + rsz Ln k0 (c - k0)) + 1) + 1) (beL (smL [u8 (nI 0), u8 (nI (c - k0))] (rowsSm S Ln K k0 (c - k0) (nI 0))) 4))))), (t0, .inr (2, [.ref t1, .ref t2, .ref t3, .ref t4, .int (nI c)])), (t1, .inl (cI, 600, .inl (nf S))), (t2, .inl (cI, 600, .inl (nf Ln))), (t3, .inl (cZ, 600, .inl (zf Z))), (t4, .inl (cB, 38400, .inl (bf K)))] (c_X1_addNumber l D cB cI cZ cJ a0 a1 (((n + rsz Ln k0 (c - k0)) + 1) + 1) (va_up (va_up (app g n (rowsB S Ln K k0 (c - k0))) (n + rsz Ln k0 (c - k0)) (u8 (nI 0))) ((n + rsz Ln k0 (c - k0)) + 1) (u8 (nI (c - k0)))) (smL [u8 (nI 0), u8 (nI (c - k0))] (rowsSm S Ln K k0 (c - k0) (nI 0))) 4 (by omega)) 0 rfl rfl (cwV 2 hts gX0_write_X1_addNumber rfl rfl rfl (by decide +kernel) ⟨Nat.le_of_ble_eq_true rfl, Nat.le_of_ble_eq_true rfl⟩) [0, 1] [2, 3, 4, 5, 6] rfl rfl (by decide) (by decide) (by decide) [5, 6, 0, 1, 2, 3, 4] (by decide) rfl rfl (Nat.le_of_ble_eq_true rfl) dX0_write_62 ⟨Nat.zero_le _, Nat.zero_le _⟩ rfl rfl ?_
      exact x_vret E hr hlocks dX0_write_65 ⟨rfl, by rw [show n + (rsz Ln k0 (c - k0) + 6) = n + rsz Ln k0 (c - k0) + 1 + 1 + 4 by omega]; unfold grpB endB; rw [app_app, rowsB_len, app_s, app_s]⟩
    | succ k ih =>
      intro r n' s' g' h1 h2 h3 h4
      rw [rsz_s] at h2
      have hlr := hl r (by omega)
      refine x_iload E 0 dX0_write_5 rfl ?_
      refine x_aload_n E 3 dX0_write_7 rfl ?_
      refine x_cV E [] [.int (nI r)] [.int (nI c), .int (nI r)] [(a0, .inr (1, [.ref a1, .int (nI n')])), (a1, .inl (cB, 8192, .inl (bf g'))), (t0, .inr (2, [.ref t1, .ref t2, .ref t3, .ref t4, .int (nI c)])), (t1, .inl (cI, 600, .inl (nf S))), (t2, .inl (cI, 600, .inl (nf Ln))), (t3, .inl (cZ, 600, .inl (zf Z))), (t4, .inl (cB, 38400, .inl (bf K)))] (c_X2_count l D cB cI cZ cJ t0 t1 t2 t3 t4 c S Ln Z K ) 0 rfl rfl (cwV 0 hts gX0_write_X2_count rfl rfl rfl (by decide +kernel) ⟨Nat.le_of_ble_eq_true rfl, Nat.le_of_ble_eq_true rfl⟩) [2, 3, 4, 5, 6] [0, 1] rfl rfl (by decide) (by decide) (by decide) [0, 1, 2, 3, 4, 5, 6] (by decide) rfl rfl (Nat.le_of_ble_eq_true rfl) dX0_write_8 ⟨Nat.zero_le _, Nat.zero_le _⟩ rfl rfl ?_
      refine x_ncmp_ge E 28 dX0_write_11 (by decide) (by omega) (by omega) (fun h => False.elim (by omega)) (fun h11 => ?_)
      refine x_aload_n E 2 dX0_write_14 rfl ?_
      refine x_aload_n E 3 dX0_write_15 rfl ?_
      refine x_iload E 0 dX0_write_16 rfl ?_
      refine x_cS E [.ref a0, .ref t0, .int (nI r)] [] [.int (rowSm r (S r) (Ln r) K (r * 64))] [(a0, .inr (1, [.ref a1, .int (nI (n' + (Ln r + 11)))])), (a1, .inl (cB, 8192, .inl (bf (app g' n' (rowB r (S r) (Ln r) K (r * 64)))))), (t0, .inr (2, [.ref t1, .ref t2, .ref t3, .ref t4, .int (nI c)])), (t1, .inl (cI, 600, .inl (nf S))), (t2, .inl (cI, 600, .inl (nf Ln))), (t3, .inl (cZ, 600, .inl (zf Z))), (t4, .inl (cB, 38400, .inl (bf K)))] (c_X0_writeRow l D cB cI cZ cJ a0 a1 n' g' t0 t1 t2 t3 t4 c S Ln Z K r (by omega) (by omega) (by omega) (by omega)) (va_cwS 3 hts gX0_write_X0_writeRow rfl rfl rfl (by decide +kernel) ⟨Nat.le_of_ble_eq_true rfl, Nat.le_of_ble_eq_true rfl⟩) [0, 1, 2, 3, 4, 5, 6] [] rfl rfl (by decide) (by decide) (by decide) [0, 1, 2, 3, 4, 5, 6] (by decide) rfl rfl (Nat.le_of_ble_eq_true rfl) dX0_write_18 ⟨Nat.zero_le _, Nat.zero_le _⟩ rfl rfl ?_
      refine x_istore_n E [(3, .int (rowSm r (S r) (Ln r) K (r * 64))), (4, .int (nI r)), (0, .ref a0), (1, .ref t0), (2, .int (nI k0))] dX0_write_21 (by decide) rfl ?_
      refine x_iinc E 1 [(4, .int (nI (r + 1))), (3, .int (rowSm r (S r) (Ln r) K (r * 64))), (0, .ref a0), (1, .ref t0), (2, .int (nI k0))] dX0_write_22 rfl (nI_add _ _) (by decide) rfl ?_
      refine x_goto E 5 dX0_write_25 (by decide) ?_
      refine x_lv [0, 1, 2, 3, 4] rfl ?_
      exact ih (r + 1) _ _ _ (by omega) (by omega) (by rw [← h3, rowsB_s, app_app, rowB_len, show n' + (Ln r + 11) = n' + (11 + Ln r) by omega]) (by rw [← h4, rowsSm_s])
  refine x_iconst E (v := nI 0) dX0_write_0 (by decide) ?_
  refine x_istore_n E [(3, .int (nI 0)), (0, .ref a0), (1, .ref t0), (2, .int (nI k0))] dX0_write_1 (by decide) rfl ?_
  refine x_iload_n E 3 dX0_write_2 rfl ?_
  refine x_istore E [(4, .int (nI k0)), (3, .int (nI 0)), (0, .ref a0), (1, .ref t0), (2, .int (nI k0))] dX0_write_3 (by decide) rfl ?_
  exact loop (c - k0) k0 n (nI 0) g (by omega) rfl rfl rfl
theorem pushL (f : Nat → Nat) (c i : Nat) : va_up (va_up f c i) (c + 1 - 1) (va_up f c i (c + 1 - 1) + 1) = va_up f c (i + 1) := by
  rw [Nat.add_sub_cancel, va_up_self, bx_uu]
set_option maxRecDepth 100000 in
set_option maxHeartbeats 4000000 in
theorem c_X0_read (l : Launch) (D : va_G) (cB cI cZ cJ : ClassId) (a0 : Nat) (a1 : Nat) (n : Nat) (g : Nat → UInt8) (t0 : Nat) (t1 : Nat) (t2 : Nat) (t3 : Nat) (t4 : Nat) (c : Nat) (S : Nat → Nat) (Ln : Nat → Nat) (Z : Nat → Bool) (K : Nat → UInt8) (p0 : Nat) (q0 : Nat) (k : Nat) (hn : n ≤ 8192) (hq : 6 ≤ q0) (hqn : q0 ≤ n) (hp : p0 ≤ 8192) (hcnt : (g (q0 - 6 + 1)).toNat = k) (hk : 0 < k) (hck : c + k ≤ 600) (hg : GR n g p0 k) : Ct l D vwCl (tyl cB cI cZ cJ) yX0_read wsX0_read rmX0_read [.ref a0, .int (nI p0), .int (nI q0), .ref t0] [(a0, .inr (1, [.ref a1, .int (nI n)])), (a1, .inl (cB, 8192, .inl (bf g))), (t0, .inr (2, [.ref t1, .ref t2, .ref t3, .ref t4, .int (nI c)])), (t1, .inl (cI, 600, .inl (nf S))), (t2, .inl (cI, 600, .inl (nf Ln))), (t3, .inl (cZ, 600, .inl (zf Z))), (t4, .inl (cB, 38400, .inl (bf K)))] none [(a0, .inr (1, [.ref a1, .int (nI n)])), (a1, .inl (cB, 8192, .inl (bf g))), (t0, .inr (2, [.ref t1, .ref t2, .ref t3, .ref t4, .int (nI (c + k))])), (t1, .inl (cI, 600, .inl (nf (rdS g k p0 c S)))), (t2, .inl (cI, 600, .inl (nf (rdL g k p0 c Ln)))), (t3, .inl (cZ, 600, .inl (zf (va_up (rdZ k c Z) (c + k - 1) true)))), (t4, .inl (cB, 38400, .inl (bf (rdK g k p0 c K))))] := by
  refine x_start (cc := cX0_read) (maxL := 10) (ret := none) (by decide) rfl (Nat.le_of_ble_eq_true rfl) ?_
  intro xp xe xs xm xb xt xc xA E hr hlocks hnm
  obtain ⟨-, -, -, hown, hts, hK, hA⟩ := id E
  refine x_lve (lv' := [(0, .ref a0), (1, .int (nI p0)), (2, .int (nI q0)), (3, .ref t0)]) rfl ?_
  have loop : ∀ (j r p c' : Nat) (S' L' : Nat → Nat) (Z' : Nat → Bool) (K' : Nat → UInt8), r + j = k → p ≤ 8192 → GR n g p j → c' + j = c + k → rdS g j p c' S' = rdS g k p0 c S → rdL g j p c' L' = rdL g k p0 c Ln → rdZ j c' Z' = rdZ k c Z → rdK g j p c' K' = rdK g k p0 c K → Xs xp l xe rmX0_read xs xm ([.ref a0, .int (nI p0), .int (nI q0), .ref t0] : List Value).toArray xb xt xc D vwCl xA 10 0 0 (MQ xb (CQ D vwCl (tyl cB cI cZ cJ) xA (fun r u => r = none ∧ u = [(a0, .inr (1, [.ref a1, .int (nI n)])), (a1, .inl (cB, 8192, .inl (bf g))), (t0, .inr (2, [.ref t1, .ref t2, .ref t3, .ref t4, .int (nI (c + k))])), (t1, .inl (cI, 600, .inl (nf (rdS g k p0 c S)))), (t2, .inl (cI, 600, .inl (nf (rdL g k p0 c Ln)))), (t3, .inl (cZ, 600, .inl (zf (va_up (rdZ k c Z) (c + k - 1) true)))), (t4, .inl (cB, 38400, .inl (bf (rdK g k p0 c K))))])) ([.ref a0, .int (nI p0), .int (nI q0), .ref t0] : List Value).toArray xs 0 0 xA) [(a0, .inr (1, [.ref a1, .int (nI n)])), (a1, .inl (cB, 8192, .inl (bf g))), (t0, .inr (2, [.ref t1, .ref t2, .ref t3, .ref t4, .int (nI c')])), (t1, .inl (cI, 600, .inl (nf S'))), (t2, .inl (cI, 600, .inl (nf L'))), (t3, .inl (cZ, 600, .inl (zf Z'))), (t4, .inl (cB, 38400, .inl (bf K')))] [(6, .int (nI r)), (5, .int (nI k)), (4, .int (nI p)), (0, .ref a0), (1, .int (nI p0)), (2, .int (nI q0)), (3, .ref t0)] 18 [] := by
    intro j
    induction j with
    | zero =>
      intro r p c' S' L' Z' K' h1 hp1 hg1 h2 h3 h4 h5 h6
      have h2 : c' = c + k := h2
      have h3 : S' = rdS g k p0 c S := h3
      have h4 : L' = rdL g k p0 c Ln := h4
      have h5 : Z' = rdZ k c Z := h5
      have h6 : K' = rdK g k p0 c K := h6
      subst h2
      subst h3
      subst h4
      subst h5
      subst h6
      refine x_iload E 0 dX0_read_18 rfl ?_
      refine x_iload E 1 dX0_read_20 rfl ?_
      refine x_ncmp_ge E 99 dX0_read_22 (by decide) (by omega) (by omega) (fun h22 => ?_) (fun h => False.elim (by omega))
      refine x_aload_n E 6 dX0_read_99 rfl ?_
      refine x_cV E [] [] [] [(a0, .inr (1, [.ref a1, .int (nI n)])), (a1, .inl (cB, 8192, .inl (bf g))), (t0, .inr (2, [.ref t1, .ref t2, .ref t3, .ref t4, .int (nI (c + k))])), (t1, .inl (cI, 600, .inl (nf (rdS g k p0 c S)))), (t2, .inl (cI, 600, .inl (nf (rdL g k p0 c Ln)))), (t3, .inl (cZ, 600, .inl (zf (va_up (rdZ k c Z) ((c + k) - 1) true)))), (t4, .inl (cB, 38400, .inl (bf (rdK g k p0 c K))))] (c_X2_endGroupHere l D cB cI cZ cJ t0 t1 t2 t3 t4 (c + k) (rdS g k p0 c S) (rdL g k p0 c Ln) (rdZ k c Z) (rdK g k p0 c K) (by omega) (by omega)) 0 rfl rfl (cwV 0 hts gX0_read_X2_endGroupHere rfl rfl rfl (by decide +kernel) ⟨Nat.le_of_ble_eq_true rfl, Nat.le_of_ble_eq_true rfl⟩) [2, 3, 4, 5, 6] [0, 1] rfl rfl (by decide) (by decide) (by decide) [0, 1, 2, 3, 4, 5, 6] (by decide) rfl rfl (Nat.le_of_ble_eq_true rfl) dX0_read_100 ⟨Nat.zero_le _, Nat.zero_le _⟩ rfl rfl ?_
      exact x_vret E hr hlocks dX0_read_103 ⟨rfl, rfl⟩
    | succ j ih =>
      intro r p c' S' L' Z' K' h1 hp1 hg1 h2 h3 h4 h5 h6
      obtain ⟨ga, gb, gc, gd, ge, gf⟩ := hg1
      have inner : ∀ (j2 i : Nat) (K2 : Nat → UInt8), i + j2 = (g p).toNat → app K2 (c' * 64 + i) (conL g (p + 5 + i) j2) = app K' (c' * 64) (conL g (p + 5) (g p).toNat) → Xs xp l xe rmX0_read xs xm ([.ref a0, .int (nI p0), .int (nI q0), .ref t0] : List Value).toArray xb xt xc D vwCl xA 10 0 0 (MQ xb (CQ D vwCl (tyl cB cI cZ cJ) xA (fun r u => r = none ∧ u = [(a0, .inr (1, [.ref a1, .int (nI n)])), (a1, .inl (cB, 8192, .inl (bf g))), (t0, .inr (2, [.ref t1, .ref t2, .ref t3, .ref t4, .int (nI (c + k))])), (t1, .inl (cI, 600, .inl (nf (rdS g k p0 c S)))), (t2, .inl (cI, 600, .inl (nf (rdL g k p0 c Ln)))), (t3, .inl (cZ, 600, .inl (zf (va_up (rdZ k c Z) (c + k - 1) true)))), (t4, .inl (cB, 38400, .inl (bf (rdK g k p0 c K))))])) ([.ref a0, .int (nI p0), .int (nI q0), .ref t0] : List Value).toArray xs 0 0 xA) [(a0, .inr (1, [.ref a1, .int (nI n)])), (a1, .inl (cB, 8192, .inl (bf g))), (t0, .inr (2, [.ref t1, .ref t2, .ref t3, .ref t4, .int (nI (c' + 1))])), (t1, .inl (cI, 600, .inl (nf (va_up S' c' (secN g p))))), (t2, .inl (cI, 600, .inl (nf (va_up L' c' i)))), (t3, .inl (cZ, 600, .inl (zf (va_up Z' c' false)))), (t4, .inl (cB, 38400, .inl (bf K2)))] [(9, .int (nI i)), (8, .int (nI ((p + 1) + 4))), (7, .int (nI ((g p).toNat))), (6, .int (nI r)), (5, .int (nI k)), (4, .int (nI p)), (0, .ref a0), (1, .int (nI p0)), (2, .int (nI q0)), (3, .ref t0)] 57 [] := by
        intro j2
        induction j2 with
        | zero =>
          intro i K2 e1 e2
          have e2 : K2 = app K' (c' * 64) (conL g (p + 5) (g p).toNat) := e2
          have e1 : i = (g p).toNat := e1
          subst e1
          subst e2
          refine x_iload E 0 dX0_read_57 rfl ?_
          refine x_iload E 2 dX0_read_59 rfl ?_
          refine x_ncmp_ge E 83 dX0_read_61 (by decide) (by omega) (u8lt (g p)) (fun h61 => ?_) (fun h => False.elim (by omega))
          refine x_iload E 5 dX0_read_83 rfl ?_
          refine x_iload E 2 dX0_read_85 rfl ?_
          refine x_bipush E (v := nI 11) dX0_read_87 (by decide) ?_
          refine x_niadd E dX0_read_89 ?_
          refine x_niadd E dX0_read_90 ?_
          refine x_istore E [(4, .int (nI (p + (((g p).toNat) + 11)))), (9, .int (nI ((g p).toNat))), (8, .int (nI ((p + 1) + 4))), (7, .int (nI ((g p).toNat))), (6, .int (nI r)), (5, .int (nI k)), (0, .ref a0), (1, .int (nI p0)), (2, .int (nI q0)), (3, .ref t0)] dX0_read_91 (by decide) rfl ?_
          refine x_iinc E 4 [(6, .int (nI (r + 1))), (4, .int (nI (p + (((g p).toNat) + 11)))), (9, .int (nI ((g p).toNat))), (8, .int (nI ((p + 1) + 4))), (7, .int (nI ((g p).toNat))), (5, .int (nI k)), (0, .ref a0), (1, .int (nI p0)), (2, .int (nI q0)), (3, .ref t0)] dX0_read_93 rfl (nI_add _ _) (by decide) rfl ?_
          refine x_goto E 18 dX0_read_96 (by decide) ?_
          refine x_lv [0, 5, 1, 6, 7, 8, 9] rfl ?_
          exact ih (r + 1) _ (c' + 1) _ _ _ _ (by omega) (by omega) gf (by omega) h3 h4 h5 h6
        | succ j2 ih2 =>
          intro i K2 e1 e2
          refine x_iload E 0 dX0_read_57 rfl ?_
          refine x_iload E 2 dX0_read_59 rfl ?_
          refine x_ncmp_ge E 83 dX0_read_61 (by decide) (by omega) (u8lt (g p)) (fun h => False.elim (by omega)) (fun h61 => ?_)
          refine x_aload_n E 9 dX0_read_64 rfl ?_
          refine x_aload_n E 6 dX0_read_65 rfl ?_
          refine x_iload E 1 dX0_read_66 rfl ?_
          refine x_iload E 0 dX0_read_68 rfl ?_
          refine x_niadd E dX0_read_70 ?_
          refine x_cV E [.int (nI (((p + 1) + 4) + i))] [.ref t0] [.int (nI ((g (((p + 1) + 4) + i)).toNat)), .ref t0] [(a0, .inr (1, [.ref a1, .int (nI n)])), (a1, .inl (cB, 8192, .inl (bf g))), (t0, .inr (2, [.ref t1, .ref t2, .ref t3, .ref t4, .int (nI (c' + 1))])), (t1, .inl (cI, 600, .inl (nf (va_up S' c' (secN g p))))), (t2, .inl (cI, 600, .inl (nf (va_up L' c' i)))), (t3, .inl (cZ, 600, .inl (zf (va_up Z' c' false)))), (t4, .inl (cB, 38400, .inl (bf K2)))] (c_X1_get_in l D cB cI cZ cJ a0 a1 n g (((p + 1) + 4) + i) (by omega) (by omega)) 0 rfl rfl (cwV 1 hts gX0_read_X1_get rfl rfl rfl (by decide +kernel) ⟨Nat.le_of_ble_eq_true rfl, Nat.le_of_ble_eq_true rfl⟩) [0, 1] [2, 3, 4, 5, 6] rfl rfl (by decide) (by decide) (by decide) [5, 6, 0, 1, 2, 3, 4] (by decide) rfl rfl (Nat.le_of_ble_eq_true rfl) dX0_read_71 ⟨Nat.zero_le _, Nat.zero_le _⟩ rfl rfl ?_
          refine x_cV E [.int (nI ((g (((p + 1) + 4) + i)).toNat))] [] [] [(a0, .inr (1, [.ref a1, .int (nI n)])), (a1, .inl (cB, 8192, .inl (bf g))), (t0, .inr (2, [.ref t1, .ref t2, .ref t3, .ref t4, .int (nI (c' + 1))])), (t1, .inl (cI, 600, .inl (nf (va_up S' c' (secN g p))))), (t2, .inl (cI, 600, .inl (nf (va_up (va_up L' c' i) ((c' + 1) - 1) ((va_up L' c' i) ((c' + 1) - 1) + 1))))), (t3, .inl (cZ, 600, .inl (zf (va_up Z' c' false)))), (t4, .inl (cB, 38400, .inl (bf (va_up K2 (((c' + 1) - 1) * 64 + (va_up L' c' i) ((c' + 1) - 1)) (u8 (nI ((g (((p + 1) + 4) + i)).toNat)))))))] (c_X2_push l D cB cI cZ cJ t0 t1 t2 t3 t4 (c' + 1) (va_up S' c' (secN g p)) (va_up L' c' i) (va_up Z' c' false) K2 (nI ((g (((p + 1) + 4) + i)).toNat)) (by omega) (by omega) (by rw [Nat.add_sub_cancel, va_up_self]; omega)) 0 rfl rfl (cwV 1 hts gX0_read_X2_push rfl rfl rfl (by decide +kernel) ⟨Nat.le_of_ble_eq_true rfl, Nat.le_of_ble_eq_true rfl⟩) [2, 3, 4, 5, 6] [0, 1] rfl rfl (by decide) (by decide) (by decide) [0, 1, 2, 3, 4, 5, 6] (by decide) rfl rfl (Nat.le_of_ble_eq_true rfl) dX0_read_74 ⟨Nat.zero_le _, Nat.zero_le _⟩ rfl rfl ?_
          refine x_iinc E 0 [(9, .int (nI (i + 1))), (8, .int (nI ((p + 1) + 4))), (7, .int (nI ((g p).toNat))), (6, .int (nI r)), (5, .int (nI k)), (4, .int (nI p)), (0, .ref a0), (1, .int (nI p0)), (2, .int (nI q0)), (3, .ref t0)] dX0_read_77 rfl (nI_add _ _) (by decide) rfl ?_
          refine x_goto E 57 dX0_read_80 (by decide) ?_
          refine x_ws (ws' := [(a0, .inr (1, [.ref a1, .int (nI n)])), (a1, .inl (cB, 8192, .inl (bf g))), (t0, .inr (2, [.ref t1, .ref t2, .ref t3, .ref t4, .int (nI (c' + 1))])), (t1, .inl (cI, 600, .inl (nf (va_up S' c' (secN g p))))), (t2, .inl (cI, 600, .inl (nf (va_up L' c' (i + 1))))), (t3, .inl (cZ, 600, .inl (zf (va_up Z' c' false)))), (t4, .inl (cB, 38400, .inl (bf (va_up K2 (c' * 64 + i) (g (p + 5 + i))))))]) (by rw [pushL, Nat.add_sub_cancel, va_up_self, u8_u]) ?_
          exact ih2 (i + 1) _ (by omega) (by rw [← e2, conL_s, app_s]; rfl)
      refine x_iload E 0 dX0_read_18 rfl ?_
      refine x_iload E 1 dX0_read_20 rfl ?_
      refine x_ncmp_ge E 99 dX0_read_22 (by decide) (by omega) (by omega) (fun h => False.elim (by omega)) (fun h22 => ?_)
      refine x_aload_n E 3 dX0_read_25 rfl ?_
      refine x_iload E 2 dX0_read_26 rfl ?_
      refine x_cV E [.int (nI p)] [] [.int (nI ((g p).toNat))] [(a0, .inr (1, [.ref a1, .int (nI n)])), (a1, .inl (cB, 8192, .inl (bf g))), (t0, .inr (2, [.ref t1, .ref t2, .ref t3, .ref t4, .int (nI c')])), (t1, .inl (cI, 600, .inl (nf S'))), (t2, .inl (cI, 600, .inl (nf L'))), (t3, .inl (cZ, 600, .inl (zf Z'))), (t4, .inl (cB, 38400, .inl (bf K')))] (c_X1_get_in l D cB cI cZ cJ a0 a1 n g p (by omega) (by omega)) 0 rfl rfl (cwV 1 hts gX0_read_X1_get rfl rfl rfl (by decide +kernel) ⟨Nat.le_of_ble_eq_true rfl, Nat.le_of_ble_eq_true rfl⟩) [0, 1] [2, 3, 4, 5, 6] rfl rfl (by decide) (by decide) (by decide) [5, 6, 0, 1, 2, 3, 4] (by decide) rfl rfl (Nat.le_of_ble_eq_true rfl) dX0_read_28 ⟨Nat.zero_le _, Nat.zero_le _⟩ rfl rfl ?_
      refine x_istore E [(7, .int (nI ((g p).toNat))), (6, .int (nI r)), (5, .int (nI k)), (4, .int (nI p)), (0, .ref a0), (1, .int (nI p0)), (2, .int (nI q0)), (3, .ref t0)] dX0_read_31 (by decide) rfl ?_
      refine x_iload E 3 dX0_read_33 rfl ?_
      refine x_iconst E (v := nI 1) dX0_read_35 (by decide) ?_
      refine x_niadd E dX0_read_36 ?_
      refine x_iconst E (v := nI 4) dX0_read_37 (by decide) ?_
      refine x_niadd E dX0_read_38 ?_
      refine x_istore E [(8, .int (nI ((p + 1) + 4))), (7, .int (nI ((g p).toNat))), (6, .int (nI r)), (5, .int (nI k)), (4, .int (nI p)), (0, .ref a0), (1, .int (nI p0)), (2, .int (nI q0)), (3, .ref t0)] dX0_read_39 (by decide) rfl ?_
      refine x_aload_n E 8 dX0_read_41 rfl ?_
      refine x_aload_n E 5 dX0_read_42 rfl ?_
      refine x_iload E 4 dX0_read_43 rfl ?_
      refine x_iconst E (v := nI 1) dX0_read_45 (by decide) ?_
      refine x_niadd E dX0_read_46 ?_
      refine x_iconst E (v := nI 4) dX0_read_47 (by decide) ?_
      refine x_cV E [.int (nI (p + 1)), .int (nI 4)] [.ref t0] [.int (beG g (p + 1) 4 (nI 0)), .ref t0] [(a0, .inr (1, [.ref a1, .int (nI n)])), (a1, .inl (cB, 8192, .inl (bf g))), (t0, .inr (2, [.ref t1, .ref t2, .ref t3, .ref t4, .int (nI c')])), (t1, .inl (cI, 600, .inl (nf S'))), (t2, .inl (cI, 600, .inl (nf L'))), (t3, .inl (cZ, 600, .inl (zf Z'))), (t4, .inl (cB, 38400, .inl (bf K')))] (c_X1_number l D cB cI cZ cJ a0 a1 n g (p + 1) 4 (by omega) (by omega)) 0 rfl rfl (cwV 2 hts gX0_read_X1_number rfl rfl rfl (by decide +kernel) ⟨Nat.le_of_ble_eq_true rfl, Nat.le_of_ble_eq_true rfl⟩) [0, 1] [2, 3, 4, 5, 6] rfl rfl (by decide) (by decide) (by decide) [5, 6, 0, 1, 2, 3, 4] (by decide) rfl rfl (Nat.le_of_ble_eq_true rfl) dX0_read_48 ⟨Nat.zero_le _, Nat.zero_le _⟩ rfl rfl ?_
      refine x_top (w := .int (nI (secN g p))) (by rw [gd]) ?_
      refine x_cV E [.int (nI (secN g p))] [] [] [(a0, .inr (1, [.ref a1, .int (nI n)])), (a1, .inl (cB, 8192, .inl (bf g))), (t0, .inr (2, [.ref t1, .ref t2, .ref t3, .ref t4, .int (nI (c' + 1))])), (t1, .inl (cI, 600, .inl (nf (va_up S' c' (secN g p))))), (t2, .inl (cI, 600, .inl (nf (va_up L' c' 0)))), (t3, .inl (cZ, 600, .inl (zf (va_up Z' c' false)))), (t4, .inl (cB, 38400, .inl (bf K')))] (c_X2_begin l D cB cI cZ cJ t0 t1 t2 t3 t4 c' S' L' Z' K' (secN g p) (by omega)) 0 rfl rfl (cwV 1 hts gX0_read_X2_begin rfl rfl rfl (by decide +kernel) ⟨Nat.le_of_ble_eq_true rfl, Nat.le_of_ble_eq_true rfl⟩) [2, 3, 4, 5, 6] [0, 1] rfl rfl (by decide) (by decide) (by decide) [0, 1, 2, 3, 4, 5, 6] (by decide) rfl rfl (Nat.le_of_ble_eq_true rfl) dX0_read_51 ⟨Nat.zero_le _, Nat.zero_le _⟩ rfl rfl ?_
      refine x_iconst E (v := nI 0) dX0_read_54 (by decide) ?_
      refine x_istore E [(9, .int (nI 0)), (8, .int (nI ((p + 1) + 4))), (7, .int (nI ((g p).toNat))), (6, .int (nI r)), (5, .int (nI k)), (4, .int (nI p)), (0, .ref a0), (1, .int (nI p0)), (2, .int (nI q0)), (3, .ref t0)] dX0_read_55 (by decide) rfl ?_
      exact inner (g p).toNat 0 K' (by omega) rfl
  refine x_iload_n E 1 dX0_read_0 rfl ?_
  refine x_istore E [(4, .int (nI p0)), (0, .ref a0), (1, .int (nI p0)), (2, .int (nI q0)), (3, .ref t0)] dX0_read_1 (by decide) rfl ?_
  refine x_aload_n E 1 dX0_read_3 rfl ?_
  refine x_iload_n E 3 dX0_read_4 rfl ?_
  refine x_bipush E (v := nI 6) dX0_read_5 (by decide) ?_
  refine x_nisub E dX0_read_7 (by omega) ?_
  refine x_iconst E (v := nI 1) dX0_read_8 (by decide) ?_
  refine x_niadd E dX0_read_9 ?_
  refine x_cV E [.int (nI ((q0 - 6) + 1))] [] [.int (nI ((g ((q0 - 6) + 1)).toNat))] [(a0, .inr (1, [.ref a1, .int (nI n)])), (a1, .inl (cB, 8192, .inl (bf g))), (t0, .inr (2, [.ref t1, .ref t2, .ref t3, .ref t4, .int (nI c)])), (t1, .inl (cI, 600, .inl (nf S))), (t2, .inl (cI, 600, .inl (nf Ln))), (t3, .inl (cZ, 600, .inl (zf Z))), (t4, .inl (cB, 38400, .inl (bf K)))] (c_X1_get_in l D cB cI cZ cJ a0 a1 n g ((q0 - 6) + 1) (by omega) (by omega)) 0 rfl rfl (cwV 1 hts gX0_read_X1_get rfl rfl rfl (by decide +kernel) ⟨Nat.le_of_ble_eq_true rfl, Nat.le_of_ble_eq_true rfl⟩) [0, 1] [2, 3, 4, 5, 6] rfl rfl (by decide) (by decide) (by decide) [5, 6, 0, 1, 2, 3, 4] (by decide) rfl rfl (Nat.le_of_ble_eq_true rfl) dX0_read_10 ⟨Nat.zero_le _, Nat.zero_le _⟩ rfl rfl ?_
  refine x_top (w := .int (nI k)) (by rw [hcnt]) ?_
  refine x_istore E [(5, .int (nI k)), (4, .int (nI p0)), (0, .ref a0), (1, .int (nI p0)), (2, .int (nI q0)), (3, .ref t0)] dX0_read_13 (by decide) rfl ?_
  refine x_iconst E (v := nI 0) dX0_read_15 (by decide) ?_
  refine x_istore E [(6, .int (nI 0)), (5, .int (nI k)), (4, .int (nI p0)), (0, .ref a0), (1, .int (nI p0)), (2, .int (nI q0)), (3, .ref t0)] dX0_read_16 (by decide) rfl ?_
  refine x_lv [0, 1, 2, 3, 4, 5, 6] rfl ?_
  exact loop k 0 p0 c S Ln Z K (by omega) hp hg rfl rfl rfl rfl rfl
