abbrev rmX4_move : Room := { frames := 1, cells := 0, slots := 0, locals := 24 }
theorem fl_X4_move_48 : Cond.fieldLink RX4 48 "MirrorLogModel" "thrown" "I" ∈ wsX4_move := by decide +kernel
theorem ui_X4_move_X4 : ∀ w ∈ wsX40, w ∈ wsX4_move := by decide +kernel
theorem fl_X4_move_52 : Cond.fieldLink RX4 52 "MirrorLogModel" "shut" "Z" ∈ wsX4_move := by decide +kernel
theorem fl_X4_move_59 : Cond.fieldLink RX4 59 "MirrorLogModel" "newRows" "I" ∈ wsX4_move := by decide +kernel
theorem fl_X4_move_13 : Cond.fieldLink RX4 13 "MirrorLogModel" "sizes" "[I" ∈ wsX4_move := by decide +kernel
theorem fl_X4_move_84 : Cond.fieldLink RX4 84 "MirrorLogModel" "groups" "I" ∈ wsX4_move := by decide +kernel
theorem fl_X4_move_16 : Cond.fieldLink RX4 16 "MirrorLogModel" "seconds" "[I" ∈ wsX4_move := by decide +kernel
theorem fl_X4_move_26 : Cond.fieldLink RX4 26 "MirrorLogModel" "groupRows" "[I" ∈ wsX4_move := by decide +kernel
theorem cn_X4_move_121 : Jvm.Cond.constant RX4 121 (2592000) ∈ wsX4_move := by decide +kernel
theorem fl_X4_move_29 : Cond.fieldLink RX4 29 "MirrorLogModel" "groupBytes" "[I" ∈ wsX4_move := by decide +kernel
theorem fl_X4_move_87 : Cond.fieldLink RX4 87 "MirrorLogModel" "moved" "I" ∈ wsX4_move := by decide +kernel
theorem fl_X4_move_9 : Cond.fieldLink RX4 9 "MirrorLogModel" "bytes" "[I" ∈ wsX4_move := by decide +kernel
/-- the sum of the first k -/
def smN (f : Nat → Nat) : Nat → Nat
  | 0 => 0
  | k + 1 => smN f k + f k
theorem smN_s (f : Nat → Nat) (k : Nat) : smN f (k + 1) = smN f k + f k := rfl
theorem smN_le (f : Nat → Nat) {a b : Nat} (h : a ≤ b) : smN f a ≤ smN f b := by
  induction b with
  | zero => rw [Nat.le_zero.mp h]; exact Nat.le_refl _
  | succ b ih =>
    rcases Nat.lt_or_ge b a with q | q
    · rw [show a = b + 1 by omega]; exact Nat.le_refl _
    · rw [smN_s]; have := ih q; omega
/-- how many groups go, their bytes, the rows moved -/
def mvL (S gr gb : Nat → Nat) (mo : Int32) : Nat → Nat → Nat → Nat → Nat × Nat × Nat
  | 0, g, c, r => (g, c, r)
  | f + 1, g, c, r => if mo < nI (S (r + gr g - 1) / 2592000) then (g, c, r) else mvL S gr gb mo f (g + 1) (c + gb g) (r + gr g)
theorem mvL_s (S gr gb : Nat → Nat) (mo : Int32) (f g c r : Nat) : mvL S gr gb mo (f + 1) g c r = if mo < nI (S (r + gr g - 1) / 2592000) then (g, c, r) else mvL S gr gb mo f (g + 1) (c + gb g) (r + gr g) := rfl
/-- a file's bytes go down by cut: k from i on -/
def shB (f cut : Nat) : Nat → Nat → (Nat → UInt8) → Nat → UInt8
  | 0, _, B => B
  | k + 1, i, B => shB f cut k (i + 1) (va_up B (f * 8192 + i - cut) (B (f * 8192 + i)))
theorem shB_s (f cut k i : Nat) (B : Nat → UInt8) : shB f cut (k + 1) i B = shB f cut k (i + 1) (va_up B (f * 8192 + i - cut) (B (f * 8192 + i))) := rfl
/-- the groups' numbers go down by d -/
def shN (d : Nat) : Nat → Nat → (Nat → Nat) → Nat → Nat
  | 0, _, f => f
  | k + 1, i, f => shN d k (i + 1) (va_up f (i - d) (f i))
theorem shN_s (d k i : Nat) (f : Nat → Nat) : shN d (k + 1) i f = shN d k (i + 1) (va_up f (i - d) (f i)) := rfl
set_option maxRecDepth 100000 in
set_option maxHeartbeats 4000000 in
theorem c_X4_move_no (l : Launch) (D : va_G) (cB cI cZ cJ : ClassId) (r0 : Nat) (d0 : Nat) (d1 : Nat) (d2 : Nat) (d3 : Nat) (d4 : Nat) (d5 : Nat) (d6 : Nat) (d7 : Nat) (d8 : Nat) (d9 : Nat) (d10 : Nat) (kn : Nat) (mv : Nat) (ng : Nat) (nr : Nat) (fc : Nat) (sh : Bool) (rp : Nat) (bad : Int32) (th : Nat) (sr : Nat) (sb : Nat) (at9 : Nat) (B : Nat → UInt8) (z : Nat → Nat) (S : Nat → Nat) (Ln : Nat → Nat) (K : Nat → UInt8) (gr : Nat → Nat) (gb : Nat → Nat) (nS : Nat → Nat) (nL : Nat → Nat) (nK : Nat → UInt8) (F : Nat → UInt8) (mo : Int32) (hnr : nr ≤ 16) (hz0 : z 0 ≤ 8192) (hz1 : z 1 ≤ 8192) (hno : sh = true ∨ 0 < nr ∨ ¬ z 0 = z 1 ∨ arS B z 0 (z 0 - 0) = false) : Ct l D vwCl (tyl cB cI cZ cJ) yX4_move wsX4_move rmX4_move [.ref r0, .int mo] [(r0, .inr (4, [.ref d0, .ref d1, .ref d2, .ref d3, .ref d4, .int (nI kn), .int (nI mv), .ref d5, .ref d6, .int (nI ng), .ref d7, .ref d8, .ref d9, .int (nI nr), .ref d10, .int (nI fc), .int (if sh = true then 1 else 0), .int (nI rp), .int bad, .int (nI th), .int (nI sr), .int (nI sb), .int (nI at9)])), (d0, .inl (cI, 16384, .inl (uf B))), (d1, .inl (cI, 2, .inl (nf z))), (d2, .inl (cI, 600, .inl (nf S))), (d3, .inl (cI, 600, .inl (nf Ln))), (d4, .inl (cI, 38400, .inl (uf K))), (d5, .inl (cI, 600, .inl (nf gr))), (d6, .inl (cI, 600, .inl (nf gb))), (d7, .inl (cI, 16, .inl (nf nS))), (d8, .inl (cI, 16, .inl (nf nL))), (d9, .inl (cI, 1024, .inl (uf nK))), (d10, .inl (cI, 64, .inl (uf F)))] (some (.int (nI 0))) [(r0, .inr (4, [.ref d0, .ref d1, .ref d2, .ref d3, .ref d4, .int (nI kn), .int (nI mv), .ref d5, .ref d6, .int (nI ng), .ref d7, .ref d8, .ref d9, .int (nI nr), .ref d10, .int (nI fc), .int (if sh = true then 1 else 0), .int (nI rp), .int bad, .int (nI 0), .int (nI sr), .int (nI sb), .int (nI at9)])), (d0, .inl (cI, 16384, .inl (uf B))), (d1, .inl (cI, 2, .inl (nf z))), (d2, .inl (cI, 600, .inl (nf S))), (d3, .inl (cI, 600, .inl (nf Ln))), (d4, .inl (cI, 38400, .inl (uf K))), (d5, .inl (cI, 600, .inl (nf gr))), (d6, .inl (cI, 600, .inl (nf gb))), (d7, .inl (cI, 16, .inl (nf nS))), (d8, .inl (cI, 16, .inl (nf nL))), (d9, .inl (cI, 1024, .inl (uf nK))), (d10, .inl (cI, 64, .inl (uf F)))] := by
  refine x_start (cc := cX4_move) (maxL := 7) (ret := (some .boolean)) (by decide) rfl (Nat.le_of_ble_eq_true rfl) ?_
  intro xp xe xs xm xb xt xc xA E hr hlocks hnm
  obtain ⟨-, -, -, hown, hts, hK, hA⟩ := id E
  refine x_lve (lv' := [(0, .ref r0), (1, .int mo)]) rfl ?_
  refine x_aload_n E 0 dX4_move_0 rfl ?_
  refine x_iconst E (v := nI 0) dX4_move_1 (by decide) ?_
  refine x_put E 0 19 [(r0, .inr (4, [.ref d0, .ref d1, .ref d2, .ref d3, .ref d4, .int (nI kn), .int (nI mv), .ref d5, .ref d6, .int (nI ng), .ref d7, .ref d8, .ref d9, .int (nI nr), .ref d10, .int (nI fc), .int (if sh = true then 1 else 0), .int (nI rp), .int bad, .int (nI 0), .int (nI sr), .int (nI sb), .int (nI at9)])), (d0, .inl (cI, 16384, .inl (uf B))), (d1, .inl (cI, 2, .inl (nf z))), (d2, .inl (cI, 600, .inl (nf S))), (d3, .inl (cI, 600, .inl (nf Ln))), (d4, .inl (cI, 38400, .inl (uf K))), (d5, .inl (cI, 600, .inl (nf gr))), (d6, .inl (cI, 600, .inl (nf gb))), (d7, .inl (cI, 16, .inl (nf nS))), (d8, .inl (cI, 16, .inl (nf nL))), (d9, .inl (cI, 1024, .inl (uf nK))), (d10, .inl (cI, 64, .inl (uf F)))] dX4_move_2 ui_X4_move_X4 tyX4_ok nmX4 rfl rfl (by decide) fl_X4_move_48 rfl rfl rfl rfl (Nat.le_of_ble_eq_true rfl) rfl ?_
  refine x_aload_n E 0 dX4_move_5 rfl ?_
  refine x_get E 0 16 dX4_move_6 ui_X4_move_X4 rfl rfl (by decide) fl_X4_move_52 rfl rfl ?_
  refine x_qif_ne E 48 dX4_move_9 (by decide) (fun h9 => ?_) (fun h9 => ?_)
  · refine x_iconst E (v := nI 0) dX4_move_48 (by decide) ?_
    exact x_zret E hr hlocks dX4_move_49 rfl ⟨rfl, rfl⟩
  · refine x_aload_n E 0 dX4_move_12 rfl ?_
    refine x_get E 0 13 dX4_move_13 ui_X4_move_X4 rfl rfl (by decide) fl_X4_move_59 rfl rfl ?_
    refine x_nif_gt E 48 dX4_move_16 (by decide) (by omega) (fun h16 => ?_) (fun h16 => ?_)
    · refine x_iconst E (v := nI 0) dX4_move_48 (by decide) ?_
      exact x_zret E hr hlocks dX4_move_49 rfl ⟨rfl, rfl⟩
    · refine x_aload_n E 0 dX4_move_19 rfl ?_
      refine x_get E 0 1 dX4_move_20 ui_X4_move_X4 rfl rfl (by decide) fl_X4_move_13 rfl rfl ?_
      refine x_iconst E (v := nI 0) dX4_move_23 (by decide) ?_
      refine x_nald E 2 1 dX4_move_24 rfl rfl (by omega) (by decide) ?_
      refine x_aload_n E 0 dX4_move_25 rfl ?_
      refine x_get E 0 1 dX4_move_26 ui_X4_move_X4 rfl rfl (by decide) fl_X4_move_13 rfl rfl ?_
      refine x_iconst E (v := nI 1) dX4_move_29 (by decide) ?_
      refine x_nald E 2 1 dX4_move_30 rfl rfl (by omega) (by decide) ?_
      refine x_ncmp_ne E 48 dX4_move_31 (by decide) (by omega) (by omega) (fun h31 => ?_) (fun h31 => ?_)
      · refine x_iconst E (v := nI 0) dX4_move_48 (by decide) ?_
        exact x_zret E hr hlocks dX4_move_49 rfl ⟨rfl, rfl⟩
      · refine x_aload_n E 0 dX4_move_34 rfl ?_
        refine x_iconst E (v := nI 0) dX4_move_35 (by decide) ?_
        refine x_aload_n E 0 dX4_move_36 rfl ?_
        refine x_get E 0 1 dX4_move_37 ui_X4_move_X4 rfl rfl (by decide) fl_X4_move_13 rfl rfl ?_
        refine x_iconst E (v := nI 0) dX4_move_40 (by decide) ?_
        refine x_nald E 2 1 dX4_move_41 rfl rfl (by omega) (by decide) ?_
        refine x_cV E [.int (nI 0), .int (nI (z 0))] [] [.int (if arS B z 0 ((z 0) - 0) = true then 1 else 0)] [(r0, .inr (4, [.ref d0, .ref d1, .ref d2, .ref d3, .ref d4, .int (nI kn), .int (nI mv), .ref d5, .ref d6, .int (nI ng), .ref d7, .ref d8, .ref d9, .int (nI nr), .ref d10, .int (nI fc), .int (if sh = true then 1 else 0), .int (nI rp), .int bad, .int (nI 0), .int (nI sr), .int (nI sb), .int (nI at9)])), (d0, .inl (cI, 16384, .inl (uf B))), (d1, .inl (cI, 2, .inl (nf z))), (d2, .inl (cI, 600, .inl (nf S))), (d3, .inl (cI, 600, .inl (nf Ln))), (d4, .inl (cI, 38400, .inl (uf K))), (d5, .inl (cI, 600, .inl (nf gr))), (d6, .inl (cI, 600, .inl (nf gb))), (d7, .inl (cI, 16, .inl (nf nS))), (d8, .inl (cI, 16, .inl (nf nL))), (d9, .inl (cI, 1024, .inl (uf nK))), (d10, .inl (cI, 64, .inl (uf F)))] (c_X4_areSame l D cB cI cZ cJ r0 d0 d1 d2 d3 d4 d5 d6 d7 d8 d9 d10 kn mv ng nr fc sh rp bad 0 sr sb at9 B z S Ln K gr gb nS nL nK F 0 (z 0) (by omega) (by omega) (by omega) (by omega)) 0 rfl rfl (cwV 2 hts gX4_move_X4_areSame rfl rfl rfl (by decide +kernel) ⟨Nat.le_of_ble_eq_true rfl, Nat.le_of_ble_eq_true rfl⟩) [0, 1, 2, 3, 4, 5, 6, 7, 8, 9, 10, 11] [] rfl rfl (by decide) (by decide) (by decide) [0, 1, 2, 3, 4, 5, 6, 7, 8, 9, 10, 11] (by decide) rfl rfl (Nat.le_of_ble_eq_true rfl) dX4_move_42 ⟨Nat.zero_le _, Nat.zero_le _⟩ rfl rfl ?_
        refine x_qif_ne E 50 dX4_move_45 (by decide) (fun h => False.elim (by rcases hno with q | q | q | q; exact absurd (h9.symm.trans q) (by decide); omega; exact q h31; exact absurd (h.symm.trans q) (by decide))) (fun h45 => ?_)
        refine x_iconst E (v := nI 0) dX4_move_48 (by decide) ?_
        exact x_zret E hr hlocks dX4_move_49 rfl ⟨rfl, rfl⟩
set_option maxRecDepth 100000 in
set_option maxHeartbeats 4000000 in
theorem c_X4_move_none (l : Launch) (D : va_G) (cB cI cZ cJ : ClassId) (r0 : Nat) (d0 : Nat) (d1 : Nat) (d2 : Nat) (d3 : Nat) (d4 : Nat) (d5 : Nat) (d6 : Nat) (d7 : Nat) (d8 : Nat) (d9 : Nat) (d10 : Nat) (kn : Nat) (mv : Nat) (ng : Nat) (nr : Nat) (fc : Nat) (sh : Bool) (rp : Nat) (bad : Int32) (th : Nat) (sr : Nat) (sb : Nat) (at9 : Nat) (B : Nat → UInt8) (z : Nat → Nat) (S : Nat → Nat) (Ln : Nat → Nat) (K : Nat → UInt8) (gr : Nat → Nat) (gb : Nat → Nat) (nS : Nat → Nat) (nL : Nat → Nat) (nK : Nat → UInt8) (F : Nat → UInt8) (mo : Int32) (hkn : kn ≤ 600) (hz0 : z 0 ≤ 8192) (hz1 : z 1 ≤ 8192) (hnr : nr = 0) (hzz : z 0 = z 1) (has : arS B z 0 (z 0 - 0) = true) (hng : ng ≤ 600) (hgr : ∀ i, i < ng → 0 < gr i) (hmk : mv + smN gr ng ≤ kn) (hs : ∀ r, r < kn → S r ≤ 1000000000) (h9 : (mvL S gr gb mo ng 0 0 mv).1 = 0) : Ct l D vwCl (tyl cB cI cZ cJ) yX4_move wsX4_move rmX4_move [.ref r0, .int mo] [(r0, .inr (4, [.ref d0, .ref d1, .ref d2, .ref d3, .ref d4, .int (nI kn), .int (nI mv), .ref d5, .ref d6, .int (nI ng), .ref d7, .ref d8, .ref d9, .int (nI nr), .ref d10, .int (nI fc), .int (if false = true then 1 else 0), .int (nI rp), .int bad, .int (nI th), .int (nI sr), .int (nI sb), .int (nI at9)])), (d0, .inl (cI, 16384, .inl (uf B))), (d1, .inl (cI, 2, .inl (nf z))), (d2, .inl (cI, 600, .inl (nf S))), (d3, .inl (cI, 600, .inl (nf Ln))), (d4, .inl (cI, 38400, .inl (uf K))), (d5, .inl (cI, 600, .inl (nf gr))), (d6, .inl (cI, 600, .inl (nf gb))), (d7, .inl (cI, 16, .inl (nf nS))), (d8, .inl (cI, 16, .inl (nf nL))), (d9, .inl (cI, 1024, .inl (uf nK))), (d10, .inl (cI, 64, .inl (uf F)))] (some (.int (nI 0))) [(r0, .inr (4, [.ref d0, .ref d1, .ref d2, .ref d3, .ref d4, .int (nI kn), .int (nI mv), .ref d5, .ref d6, .int (nI ng), .ref d7, .ref d8, .ref d9, .int (nI nr), .ref d10, .int (nI fc), .int (if false = true then 1 else 0), .int (nI rp), .int bad, .int (nI 0), .int (nI sr), .int (nI sb), .int (nI at9)])), (d0, .inl (cI, 16384, .inl (uf B))), (d1, .inl (cI, 2, .inl (nf z))), (d2, .inl (cI, 600, .inl (nf S))), (d3, .inl (cI, 600, .inl (nf Ln))), (d4, .inl (cI, 38400, .inl (uf K))), (d5, .inl (cI, 600, .inl (nf gr))), (d6, .inl (cI, 600, .inl (nf gb))), (d7, .inl (cI, 16, .inl (nf nS))), (d8, .inl (cI, 16, .inl (nf nL))), (d9, .inl (cI, 1024, .inl (uf nK))), (d10, .inl (cI, 64, .inl (uf F)))] := by
  refine x_start (cc := cX4_move) (maxL := 7) (ret := (some .boolean)) (by decide) rfl (Nat.le_of_ble_eq_true rfl) ?_
  intro xp xe xs xm xb xt xc xA E hr hlocks hnm
  obtain ⟨-, -, -, hown, hts, hK, hA⟩ := id E
  refine x_lve (lv' := [(0, .ref r0), (1, .int mo)]) rfl ?_
  have main : Xs xp l xe rmX4_move xs xm ([.ref r0, .int mo] : List Value).toArray xb xt xc D vwCl xA 7 0 0 (MQ xb (CQ D vwCl (tyl cB cI cZ cJ) xA (fun r u => r = (some (.int (nI 0))) ∧ u = [(r0, .inr (4, [.ref d0, .ref d1, .ref d2, .ref d3, .ref d4, .int (nI kn), .int (nI mv), .ref d5, .ref d6, .int (nI ng), .ref d7, .ref d8, .ref d9, .int (nI nr), .ref d10, .int (nI fc), .int (if false = true then 1 else 0), .int (nI rp), .int bad, .int (nI 0), .int (nI sr), .int (nI sb), .int (nI at9)])), (d0, .inl (cI, 16384, .inl (uf B))), (d1, .inl (cI, 2, .inl (nf z))), (d2, .inl (cI, 600, .inl (nf S))), (d3, .inl (cI, 600, .inl (nf Ln))), (d4, .inl (cI, 38400, .inl (uf K))), (d5, .inl (cI, 600, .inl (nf gr))), (d6, .inl (cI, 600, .inl (nf gb))), (d7, .inl (cI, 16, .inl (nf nS))), (d8, .inl (cI, 16, .inl (nf nL))), (d9, .inl (cI, 1024, .inl (uf nK))), (d10, .inl (cI, 64, .inl (uf F)))])) ([.ref r0, .int mo] : List Value).toArray xs 0 0 xA) [(r0, .inr (4, [.ref d0, .ref d1, .ref d2, .ref d3, .ref d4, .int (nI kn), .int (nI mv), .ref d5, .ref d6, .int (nI ng), .ref d7, .ref d8, .ref d9, .int (nI nr), .ref d10, .int (nI fc), .int (if false = true then 1 else 0), .int (nI rp), .int bad, .int (nI 0), .int (nI sr), .int (nI sb), .int (nI at9)])), (d0, .inl (cI, 16384, .inl (uf B))), (d1, .inl (cI, 2, .inl (nf z))), (d2, .inl (cI, 600, .inl (nf S))), (d3, .inl (cI, 600, .inl (nf Ln))), (d4, .inl (cI, 38400, .inl (uf K))), (d5, .inl (cI, 600, .inl (nf gr))), (d6, .inl (cI, 600, .inl (nf gb))), (d7, .inl (cI, 16, .inl (nf nS))), (d8, .inl (cI, 16, .inl (nf nL))), (d9, .inl (cI, 1024, .inl (uf nK))), (d10, .inl (cI, 64, .inl (uf F)))] [(4, .int (nI ((mvL S gr gb mo ng 0 0 mv).2.2))), (3, .int (nI ((mvL S gr gb mo ng 0 0 mv).2.1))), (2, .int (nI ((mvL S gr gb mo ng 0 0 mv).1))), (0, .ref r0), (1, .int mo)] 117 [] := by
    refine x_iload_n E 2 dX4_move_117 rfl ?_
    refine x_nif_ne E 123 dX4_move_118 (by decide) (by omega) (fun h => absurd h (fun h => h h9)) (fun h118 => ?_)
    refine x_iconst E (v := nI 0) dX4_move_121 (by decide) ?_
    exact x_zret E hr hlocks dX4_move_122 rfl ⟨rfl, rfl⟩
  have cnt : ∀ (f g c r : Nat), g + f = ng → r = mv + smN gr g → mvL S gr gb mo f g c r = mvL S gr gb mo ng 0 0 mv → Xs xp l xe rmX4_move xs xm ([.ref r0, .int mo] : List Value).toArray xb xt xc D vwCl xA 7 0 0 (MQ xb (CQ D vwCl (tyl cB cI cZ cJ) xA (fun r u => r = (some (.int (nI 0))) ∧ u = [(r0, .inr (4, [.ref d0, .ref d1, .ref d2, .ref d3, .ref d4, .int (nI kn), .int (nI mv), .ref d5, .ref d6, .int (nI ng), .ref d7, .ref d8, .ref d9, .int (nI nr), .ref d10, .int (nI fc), .int (if false = true then 1 else 0), .int (nI rp), .int bad, .int (nI 0), .int (nI sr), .int (nI sb), .int (nI at9)])), (d0, .inl (cI, 16384, .inl (uf B))), (d1, .inl (cI, 2, .inl (nf z))), (d2, .inl (cI, 600, .inl (nf S))), (d3, .inl (cI, 600, .inl (nf Ln))), (d4, .inl (cI, 38400, .inl (uf K))), (d5, .inl (cI, 600, .inl (nf gr))), (d6, .inl (cI, 600, .inl (nf gb))), (d7, .inl (cI, 16, .inl (nf nS))), (d8, .inl (cI, 16, .inl (nf nL))), (d9, .inl (cI, 1024, .inl (uf nK))), (d10, .inl (cI, 64, .inl (uf F)))])) ([.ref r0, .int mo] : List Value).toArray xs 0 0 xA) [(r0, .inr (4, [.ref d0, .ref d1, .ref d2, .ref d3, .ref d4, .int (nI kn), .int (nI mv), .ref d5, .ref d6, .int (nI ng), .ref d7, .ref d8, .ref d9, .int (nI nr), .ref d10, .int (nI fc), .int (if false = true then 1 else 0), .int (nI rp), .int bad, .int (nI 0), .int (nI sr), .int (nI sb), .int (nI at9)])), (d0, .inl (cI, 16384, .inl (uf B))), (d1, .inl (cI, 2, .inl (nf z))), (d2, .inl (cI, 600, .inl (nf S))), (d3, .inl (cI, 600, .inl (nf Ln))), (d4, .inl (cI, 38400, .inl (uf K))), (d5, .inl (cI, 600, .inl (nf gr))), (d6, .inl (cI, 600, .inl (nf gb))), (d7, .inl (cI, 16, .inl (nf nS))), (d8, .inl (cI, 16, .inl (nf nL))), (d9, .inl (cI, 1024, .inl (uf nK))), (d10, .inl (cI, 64, .inl (uf F)))] [(4, .int (nI r)), (3, .int (nI c)), (2, .int (nI g)), (0, .ref r0), (1, .int mo)] 60 [] := by
    intro f
    induction f with
    | zero =>
      intro g c r e1 e2 e3
      have e3 : (g, c, r) = mvL S gr gb mo ng 0 0 mv := e3
      refine x_iload_n E 2 dX4_move_60 rfl ?_
      refine x_aload_n E 3 dX4_move_61 rfl ?_
      refine x_get E 0 9 dX4_move_62 ui_X4_move_X4 rfl rfl (by decide) fl_X4_move_84 rfl rfl ?_
      refine x_ncmp_ge E 117 dX4_move_65 (by decide) (by omega) (by omega) (fun h65 => ?_) (fun h => False.elim (by omega))
      refine x_lve (lv' := [(4, .int (nI ((mvL S gr gb mo ng 0 0 mv).2.2))), (3, .int (nI ((mvL S gr gb mo ng 0 0 mv).2.1))), (2, .int (nI ((mvL S gr gb mo ng 0 0 mv).1))), (0, .ref r0), (1, .int mo)]) (by rw [← e3]) ?_
      exact main
    | succ f ih =>
      intro g c r e1 e2 e3
      have hg1 := hgr g (by omega)
      have hg2 := smN_le gr (show g + 1 ≤ ng by omega)
      rw [smN_s] at hg2
      have hs1 := hs (r + gr g - 1) (by omega)
      refine x_iload_n E 2 dX4_move_60 rfl ?_
      refine x_aload_n E 3 dX4_move_61 rfl ?_
      refine x_get E 0 9 dX4_move_62 ui_X4_move_X4 rfl rfl (by decide) fl_X4_move_84 rfl rfl ?_
      refine x_ncmp_ge E 117 dX4_move_65 (by decide) (by omega) (by omega) (fun h => False.elim (by omega)) (fun h65 => ?_)
      refine x_aload_n E 3 dX4_move_68 rfl ?_
      refine x_get E 0 2 dX4_move_69 ui_X4_move_X4 rfl rfl (by decide) fl_X4_move_16 rfl rfl ?_
      refine x_iload E 0 dX4_move_72 rfl ?_
      refine x_aload_n E 3 dX4_move_74 rfl ?_
      refine x_get E 0 7 dX4_move_75 ui_X4_move_X4 rfl rfl (by decide) fl_X4_move_26 rfl rfl ?_
      refine x_iload_n E 2 dX4_move_78 rfl ?_
      refine x_nald E 6 1 dX4_move_79 rfl rfl (by omega) (by decide) ?_
      refine x_niadd E dX4_move_80 ?_
      refine x_iconst E (v := nI 1) dX4_move_81 (by decide) ?_
      refine x_nisub E dX4_move_82 (by omega) ?_
      refine x_nald E 3 1 dX4_move_83 rfl rfl (by omega) (by decide) ?_
      refine x_ldc E (v := nI 2592000) dX4_move_84 cn_X4_move_121 (by decide +kernel) ?_
      refine x_nidiv E dX4_move_86 (by omega) (by omega) (by decide) ?_
      refine x_iload_n E 4 dX4_move_87 rfl ?_
      refine x_icmp_gt E 117 dX4_move_88 (by decide) (fun h88 => ?_) (fun h88 => ?_)
      · refine x_lve (lv' := [(4, .int (nI ((mvL S gr gb mo ng 0 0 mv).2.2))), (3, .int (nI ((mvL S gr gb mo ng 0 0 mv).2.1))), (2, .int (nI ((mvL S gr gb mo ng 0 0 mv).1))), (0, .ref r0), (1, .int mo)]) (by rw [← e3, mvL_s, if_pos h88]) ?_
        exact main
      · refine x_iload E 0 dX4_move_91 rfl ?_
        refine x_aload_n E 3 dX4_move_93 rfl ?_
        refine x_get E 0 7 dX4_move_94 ui_X4_move_X4 rfl rfl (by decide) fl_X4_move_26 rfl rfl ?_
        refine x_iload_n E 2 dX4_move_97 rfl ?_
        refine x_nald E 6 1 dX4_move_98 rfl rfl (by omega) (by decide) ?_
        refine x_niadd E dX4_move_99 ?_
        refine x_istore E [(4, .int (nI (r + (gr g)))), (3, .int (nI c)), (2, .int (nI g)), (0, .ref r0), (1, .int mo)] dX4_move_100 (by decide) rfl ?_
        refine x_iload_n E 1 dX4_move_102 rfl ?_
        refine x_aload_n E 3 dX4_move_103 rfl ?_
        refine x_get E 0 8 dX4_move_104 ui_X4_move_X4 rfl rfl (by decide) fl_X4_move_29 rfl rfl ?_
        refine x_iload_n E 2 dX4_move_107 rfl ?_
        refine x_nald E 7 1 dX4_move_108 rfl rfl (by omega) (by decide) ?_
        refine x_niadd E dX4_move_109 ?_
        refine x_istore_n E [(3, .int (nI (c + (gb g)))), (4, .int (nI (r + (gr g)))), (2, .int (nI g)), (0, .ref r0), (1, .int mo)] dX4_move_110 (by decide) rfl ?_
        refine x_iinc E 2 [(2, .int (nI (g + 1))), (3, .int (nI (c + (gb g)))), (4, .int (nI (r + (gr g)))), (0, .ref r0), (1, .int mo)] dX4_move_111 rfl (nI_add _ _) (by decide) rfl ?_
        refine x_goto E 60 dX4_move_114 (by decide) ?_
        refine x_lv [2, 1, 0, 3, 4] rfl ?_
        exact ih (g + 1) _ _ (by omega) (by rw [smN_s]; omega) (by rw [← e3, mvL_s, if_neg h88])
  refine x_aload_n E 0 dX4_move_0 rfl ?_
  refine x_iconst E (v := nI 0) dX4_move_1 (by decide) ?_
  refine x_put E 0 19 [(r0, .inr (4, [.ref d0, .ref d1, .ref d2, .ref d3, .ref d4, .int (nI kn), .int (nI mv), .ref d5, .ref d6, .int (nI ng), .ref d7, .ref d8, .ref d9, .int (nI nr), .ref d10, .int (nI fc), .int (if false = true then 1 else 0), .int (nI rp), .int bad, .int (nI 0), .int (nI sr), .int (nI sb), .int (nI at9)])), (d0, .inl (cI, 16384, .inl (uf B))), (d1, .inl (cI, 2, .inl (nf z))), (d2, .inl (cI, 600, .inl (nf S))), (d3, .inl (cI, 600, .inl (nf Ln))), (d4, .inl (cI, 38400, .inl (uf K))), (d5, .inl (cI, 600, .inl (nf gr))), (d6, .inl (cI, 600, .inl (nf gb))), (d7, .inl (cI, 16, .inl (nf nS))), (d8, .inl (cI, 16, .inl (nf nL))), (d9, .inl (cI, 1024, .inl (uf nK))), (d10, .inl (cI, 64, .inl (uf F)))] dX4_move_2 ui_X4_move_X4 tyX4_ok nmX4 rfl rfl (by decide) fl_X4_move_48 rfl rfl rfl rfl (Nat.le_of_ble_eq_true rfl) rfl ?_
  refine x_aload_n E 0 dX4_move_5 rfl ?_
  refine x_get E 0 16 dX4_move_6 ui_X4_move_X4 rfl rfl (by decide) fl_X4_move_52 rfl rfl ?_
  refine x_qif_ne E 48 dX4_move_9 (by decide) (fun h => False.elim (by cases h)) (fun h9 => ?_)
  refine x_aload_n E 0 dX4_move_12 rfl ?_
  refine x_get E 0 13 dX4_move_13 ui_X4_move_X4 rfl rfl (by decide) fl_X4_move_59 rfl rfl ?_
  refine x_nif_gt E 48 dX4_move_16 (by decide) (by omega) (fun h => False.elim (by omega)) (fun h16 => ?_)
  refine x_aload_n E 0 dX4_move_19 rfl ?_
  refine x_get E 0 1 dX4_move_20 ui_X4_move_X4 rfl rfl (by decide) fl_X4_move_13 rfl rfl ?_
  refine x_iconst E (v := nI 0) dX4_move_23 (by decide) ?_
  refine x_nald E 2 1 dX4_move_24 rfl rfl (by omega) (by decide) ?_
  refine x_aload_n E 0 dX4_move_25 rfl ?_
  refine x_get E 0 1 dX4_move_26 ui_X4_move_X4 rfl rfl (by decide) fl_X4_move_13 rfl rfl ?_
  refine x_iconst E (v := nI 1) dX4_move_29 (by decide) ?_
  refine x_nald E 2 1 dX4_move_30 rfl rfl (by omega) (by decide) ?_
  refine x_ncmp_ne E 48 dX4_move_31 (by decide) (by omega) (by omega) (fun h => absurd h (fun h => h hzz)) (fun h31 => ?_)
  refine x_aload_n E 0 dX4_move_34 rfl ?_
  refine x_iconst E (v := nI 0) dX4_move_35 (by decide) ?_
  refine x_aload_n E 0 dX4_move_36 rfl ?_
  refine x_get E 0 1 dX4_move_37 ui_X4_move_X4 rfl rfl (by decide) fl_X4_move_13 rfl rfl ?_
  refine x_iconst E (v := nI 0) dX4_move_40 (by decide) ?_
  refine x_nald E 2 1 dX4_move_41 rfl rfl (by omega) (by decide) ?_
  refine x_cV E [.int (nI 0), .int (nI (z 0))] [] [.int (if arS B z 0 ((z 0) - 0) = true then 1 else 0)] [(r0, .inr (4, [.ref d0, .ref d1, .ref d2, .ref d3, .ref d4, .int (nI kn), .int (nI mv), .ref d5, .ref d6, .int (nI ng), .ref d7, .ref d8, .ref d9, .int (nI nr), .ref d10, .int (nI fc), .int (if false = true then 1 else 0), .int (nI rp), .int bad, .int (nI 0), .int (nI sr), .int (nI sb), .int (nI at9)])), (d0, .inl (cI, 16384, .inl (uf B))), (d1, .inl (cI, 2, .inl (nf z))), (d2, .inl (cI, 600, .inl (nf S))), (d3, .inl (cI, 600, .inl (nf Ln))), (d4, .inl (cI, 38400, .inl (uf K))), (d5, .inl (cI, 600, .inl (nf gr))), (d6, .inl (cI, 600, .inl (nf gb))), (d7, .inl (cI, 16, .inl (nf nS))), (d8, .inl (cI, 16, .inl (nf nL))), (d9, .inl (cI, 1024, .inl (uf nK))), (d10, .inl (cI, 64, .inl (uf F)))] (c_X4_areSame l D cB cI cZ cJ r0 d0 d1 d2 d3 d4 d5 d6 d7 d8 d9 d10 kn mv ng nr fc false rp bad 0 sr sb at9 B z S Ln K gr gb nS nL nK F 0 (z 0) (by omega) (by omega) (by omega) (by omega)) 0 rfl rfl (cwV 2 hts gX4_move_X4_areSame rfl rfl rfl (by decide +kernel) ⟨Nat.le_of_ble_eq_true rfl, Nat.le_of_ble_eq_true rfl⟩) [0, 1, 2, 3, 4, 5, 6, 7, 8, 9, 10, 11] [] rfl rfl (by decide) (by decide) (by decide) [0, 1, 2, 3, 4, 5, 6, 7, 8, 9, 10, 11] (by decide) rfl rfl (Nat.le_of_ble_eq_true rfl) dX4_move_42 ⟨Nat.zero_le _, Nat.zero_le _⟩ rfl rfl ?_
  refine x_qif_ne E 50 dX4_move_45 (by decide) (fun h45 => ?_) (fun h => False.elim (by rw [has] at h; cases h))
  refine x_iconst E (v := nI 0) dX4_move_50 (by decide) ?_
  refine x_istore_n E [(2, .int (nI 0)), (0, .ref r0), (1, .int mo)] dX4_move_51 (by decide) rfl ?_
  refine x_iconst E (v := nI 0) dX4_move_52 (by decide) ?_
  refine x_istore_n E [(3, .int (nI 0)), (2, .int (nI 0)), (0, .ref r0), (1, .int mo)] dX4_move_53 (by decide) rfl ?_
  refine x_aload_n E 2 dX4_move_54 rfl ?_
  refine x_get E 0 6 dX4_move_55 ui_X4_move_X4 rfl rfl (by decide) fl_X4_move_87 rfl rfl ?_
  refine x_istore E [(4, .int (nI mv)), (3, .int (nI 0)), (2, .int (nI 0)), (0, .ref r0), (1, .int mo)] dX4_move_58 (by decide) rfl ?_
  exact cnt ng 0 0 mv (by omega) rfl rfl
set_option maxRecDepth 100000 in
set_option maxHeartbeats 4000000 in
theorem c_X4_move_ok (l : Launch) (D : va_G) (cB cI cZ cJ : ClassId) (r0 : Nat) (d0 : Nat) (d1 : Nat) (d2 : Nat) (d3 : Nat) (d4 : Nat) (d5 : Nat) (d6 : Nat) (d7 : Nat) (d8 : Nat) (d9 : Nat) (d10 : Nat) (kn : Nat) (mv : Nat) (ng : Nat) (nr : Nat) (fc : Nat) (sh : Bool) (rp : Nat) (bad : Int32) (th : Nat) (sr : Nat) (sb : Nat) (at9 : Nat) (B : Nat → UInt8) (z : Nat → Nat) (S : Nat → Nat) (Ln : Nat → Nat) (K : Nat → UInt8) (gr : Nat → Nat) (gb : Nat → Nat) (nS : Nat → Nat) (nL : Nat → Nat) (nK : Nat → UInt8) (F : Nat → UInt8) (mo : Int32) (hkn : kn ≤ 600) (hz0 : z 0 ≤ 8192) (hz1 : z 1 ≤ 8192) (hnr : nr = 0) (hzz : z 0 = z 1) (has : arS B z 0 (z 0 - 0) = true) (hng : ng ≤ 600) (hgr : ∀ i, i < ng → 0 < gr i) (hmk : mv + smN gr ng ≤ kn) (hs : ∀ r, r < kn → S r ≤ 1000000000) (h9 : 0 < (mvL S gr gb mo ng 0 0 mv).1) (h9a : (mvL S gr gb mo ng 0 0 mv).1 ≤ ng) (h9b : (mvL S gr gb mo ng 0 0 mv).2.1 ≤ z 0) (h9c : (mvL S gr gb mo ng 0 0 mv).2.1 ≤ z 1) (h9d : (mvL S gr gb mo ng 0 0 mv).2.2 ≤ 600) : Ct l D vwCl (tyl cB cI cZ cJ) yX4_move wsX4_move rmX4_move [.ref r0, .int mo] [(r0, .inr (4, [.ref d0, .ref d1, .ref d2, .ref d3, .ref d4, .int (nI kn), .int (nI mv), .ref d5, .ref d6, .int (nI ng), .ref d7, .ref d8, .ref d9, .int (nI nr), .ref d10, .int (nI fc), .int (if false = true then 1 else 0), .int (nI rp), .int bad, .int (nI th), .int (nI sr), .int (nI sb), .int (nI at9)])), (d0, .inl (cI, 16384, .inl (uf B))), (d1, .inl (cI, 2, .inl (nf z))), (d2, .inl (cI, 600, .inl (nf S))), (d3, .inl (cI, 600, .inl (nf Ln))), (d4, .inl (cI, 38400, .inl (uf K))), (d5, .inl (cI, 600, .inl (nf gr))), (d6, .inl (cI, 600, .inl (nf gb))), (d7, .inl (cI, 16, .inl (nf nS))), (d8, .inl (cI, 16, .inl (nf nL))), (d9, .inl (cI, 1024, .inl (uf nK))), (d10, .inl (cI, 64, .inl (uf F)))] (some (.int (nI 1))) [(r0, .inr (4, [.ref d0, .ref d1, .ref d2, .ref d3, .ref d4, .int (nI kn), .int (nI ((mvL S gr gb mo ng 0 0 mv).2.2)), .ref d5, .ref d6, .int (nI (ng - (mvL S gr gb mo ng 0 0 mv).1)), .ref d7, .ref d8, .ref d9, .int (nI nr), .ref d10, .int (nI fc), .int (if false = true then 1 else 0), .int (nI rp), .int bad, .int (nI 0), .int (nI sr), .int (nI sb), .int (nI at9)])), (d0, .inl (cI, 16384, .inl (uf (shB 1 ((mvL S gr gb mo ng 0 0 mv).2.1) (z 1 - (mvL S gr gb mo ng 0 0 mv).2.1) ((mvL S gr gb mo ng 0 0 mv).2.1) (shB 0 ((mvL S gr gb mo ng 0 0 mv).2.1) (z 0 - ((mvL S gr gb mo ng 0 0 mv).2.1)) ((mvL S gr gb mo ng 0 0 mv).2.1) B))))), (d1, .inl (cI, 2, .inl (nf (va_up (va_up z 0 (z 0 - (mvL S gr gb mo ng 0 0 mv).2.1)) 1 (z 1 - (mvL S gr gb mo ng 0 0 mv).2.1))))), (d2, .inl (cI, 600, .inl (nf S))), (d3, .inl (cI, 600, .inl (nf Ln))), (d4, .inl (cI, 38400, .inl (uf K))), (d5, .inl (cI, 600, .inl (nf (shN ((mvL S gr gb mo ng 0 0 mv).1) (ng - (mvL S gr gb mo ng 0 0 mv).1) ((mvL S gr gb mo ng 0 0 mv).1) gr)))), (d6, .inl (cI, 600, .inl (nf (shN ((mvL S gr gb mo ng 0 0 mv).1) (ng - (mvL S gr gb mo ng 0 0 mv).1) ((mvL S gr gb mo ng 0 0 mv).1) gb)))), (d7, .inl (cI, 16, .inl (nf nS))), (d8, .inl (cI, 16, .inl (nf nL))), (d9, .inl (cI, 1024, .inl (uf nK))), (d10, .inl (cI, 64, .inl (uf F)))] := by
  refine x_start (cc := cX4_move) (maxL := 7) (ret := (some .boolean)) (by decide) rfl (Nat.le_of_ble_eq_true rfl) ?_
  intro xp xe xs xm xb xt xc xA E hr hlocks hnm
  obtain ⟨-, -, -, hown, hts, hK, hA⟩ := id E
  refine x_lve (lv' := [(0, .ref r0), (1, .int mo)]) rfl ?_
  have shg : ∀ (k i : Nat) (gr' gb' : Nat → Nat), i + k = ng → (mvL S gr gb mo ng 0 0 mv).1 ≤ i → shN ((mvL S gr gb mo ng 0 0 mv).1) k i gr' = shN ((mvL S gr gb mo ng 0 0 mv).1) (ng - (mvL S gr gb mo ng 0 0 mv).1) ((mvL S gr gb mo ng 0 0 mv).1) gr → shN ((mvL S gr gb mo ng 0 0 mv).1) k i gb' = shN ((mvL S gr gb mo ng 0 0 mv).1) (ng - (mvL S gr gb mo ng 0 0 mv).1) ((mvL S gr gb mo ng 0 0 mv).1) gb → Xs xp l xe rmX4_move xs xm ([.ref r0, .int mo] : List Value).toArray xb xt xc D vwCl xA 7 0 0 (MQ xb (CQ D vwCl (tyl cB cI cZ cJ) xA (fun r u => r = (some (.int (nI 1))) ∧ u = [(r0, .inr (4, [.ref d0, .ref d1, .ref d2, .ref d3, .ref d4, .int (nI kn), .int (nI ((mvL S gr gb mo ng 0 0 mv).2.2)), .ref d5, .ref d6, .int (nI (ng - (mvL S gr gb mo ng 0 0 mv).1)), .ref d7, .ref d8, .ref d9, .int (nI nr), .ref d10, .int (nI fc), .int (if false = true then 1 else 0), .int (nI rp), .int bad, .int (nI 0), .int (nI sr), .int (nI sb), .int (nI at9)])), (d0, .inl (cI, 16384, .inl (uf (shB 1 ((mvL S gr gb mo ng 0 0 mv).2.1) (z 1 - (mvL S gr gb mo ng 0 0 mv).2.1) ((mvL S gr gb mo ng 0 0 mv).2.1) (shB 0 ((mvL S gr gb mo ng 0 0 mv).2.1) (z 0 - ((mvL S gr gb mo ng 0 0 mv).2.1)) ((mvL S gr gb mo ng 0 0 mv).2.1) B))))), (d1, .inl (cI, 2, .inl (nf (va_up (va_up z 0 (z 0 - (mvL S gr gb mo ng 0 0 mv).2.1)) 1 (z 1 - (mvL S gr gb mo ng 0 0 mv).2.1))))), (d2, .inl (cI, 600, .inl (nf S))), (d3, .inl (cI, 600, .inl (nf Ln))), (d4, .inl (cI, 38400, .inl (uf K))), (d5, .inl (cI, 600, .inl (nf (shN ((mvL S gr gb mo ng 0 0 mv).1) (ng - (mvL S gr gb mo ng 0 0 mv).1) ((mvL S gr gb mo ng 0 0 mv).1) gr)))), (d6, .inl (cI, 600, .inl (nf (shN ((mvL S gr gb mo ng 0 0 mv).1) (ng - (mvL S gr gb mo ng 0 0 mv).1) ((mvL S gr gb mo ng 0 0 mv).1) gb)))), (d7, .inl (cI, 16, .inl (nf nS))), (d8, .inl (cI, 16, .inl (nf nL))), (d9, .inl (cI, 1024, .inl (uf nK))), (d10, .inl (cI, 64, .inl (uf F)))])) ([.ref r0, .int mo] : List Value).toArray xs 0 0 xA) [(r0, .inr (4, [.ref d0, .ref d1, .ref d2, .ref d3, .ref d4, .int (nI kn), .int (nI mv), .ref d5, .ref d6, .int (nI ng), .ref d7, .ref d8, .ref d9, .int (nI nr), .ref d10, .int (nI fc), .int (if false = true then 1 else 0), .int (nI rp), .int bad, .int (nI 0), .int (nI sr), .int (nI sb), .int (nI at9)])), (d0, .inl (cI, 16384, .inl (uf (shB 1 ((mvL S gr gb mo ng 0 0 mv).2.1) (z 1 - (mvL S gr gb mo ng 0 0 mv).2.1) ((mvL S gr gb mo ng 0 0 mv).2.1) (shB 0 ((mvL S gr gb mo ng 0 0 mv).2.1) (z 0 - ((mvL S gr gb mo ng 0 0 mv).2.1)) ((mvL S gr gb mo ng 0 0 mv).2.1) B))))), (d1, .inl (cI, 2, .inl (nf (va_up (va_up z 0 (z 0 - (mvL S gr gb mo ng 0 0 mv).2.1)) 1 (z 1 - (mvL S gr gb mo ng 0 0 mv).2.1))))), (d2, .inl (cI, 600, .inl (nf S))), (d3, .inl (cI, 600, .inl (nf Ln))), (d4, .inl (cI, 38400, .inl (uf K))), (d5, .inl (cI, 600, .inl (nf gr'))), (d6, .inl (cI, 600, .inl (nf gb'))), (d7, .inl (cI, 16, .inl (nf nS))), (d8, .inl (cI, 16, .inl (nf nL))), (d9, .inl (cI, 1024, .inl (uf nK))), (d10, .inl (cI, 64, .inl (uf F)))] [(5, .int (nI i)), (4, .int (nI ((mvL S gr gb mo ng 0 0 mv).2.2))), (3, .int (nI ((mvL S gr gb mo ng 0 0 mv).2.1))), (2, .int (nI ((mvL S gr gb mo ng 0 0 mv).1))), (0, .ref r0), (1, .int mo)] 203 [] := by
    intro k
    induction k with
    | zero =>
      intro i gr' gb' e1 e0 e2 e3
      have e2 : gr' = shN ((mvL S gr gb mo ng 0 0 mv).1) (ng - (mvL S gr gb mo ng 0 0 mv).1) ((mvL S gr gb mo ng 0 0 mv).1) gr := e2
      have e3 : gb' = shN ((mvL S gr gb mo ng 0 0 mv).1) (ng - (mvL S gr gb mo ng 0 0 mv).1) ((mvL S gr gb mo ng 0 0 mv).1) gb := e3
      subst e2
      subst e3
      refine x_iload E 0 dX4_move_203 rfl ?_
      refine x_aload_n E 4 dX4_move_205 rfl ?_
      refine x_get E 0 9 dX4_move_206 ui_X4_move_X4 rfl rfl (by decide) fl_X4_move_84 rfl rfl ?_
      refine x_ncmp_ge E 250 dX4_move_209 (by decide) (by omega) (by omega) (fun h209 => ?_) (fun h => False.elim (by omega))
      refine x_aload_n E 4 dX4_move_250 rfl ?_
      refine x_dup E dX4_move_251 rfl ?_
      refine x_get E 0 9 dX4_move_252 ui_X4_move_X4 rfl rfl (by decide) fl_X4_move_84 rfl rfl ?_
      refine x_iload_n E 3 dX4_move_255 rfl ?_
      refine x_nisub E dX4_move_256 (by omega) ?_
      refine x_put E 0 9 [(r0, .inr (4, [.ref d0, .ref d1, .ref d2, .ref d3, .ref d4, .int (nI kn), .int (nI mv), .ref d5, .ref d6, .int (nI (ng - ((mvL S gr gb mo ng 0 0 mv).1))), .ref d7, .ref d8, .ref d9, .int (nI nr), .ref d10, .int (nI fc), .int (if false = true then 1 else 0), .int (nI rp), .int bad, .int (nI 0), .int (nI sr), .int (nI sb), .int (nI at9)])), (d0, .inl (cI, 16384, .inl (uf (shB 1 ((mvL S gr gb mo ng 0 0 mv).2.1) (z 1 - (mvL S gr gb mo ng 0 0 mv).2.1) ((mvL S gr gb mo ng 0 0 mv).2.1) (shB 0 ((mvL S gr gb mo ng 0 0 mv).2.1) (z 0 - ((mvL S gr gb mo ng 0 0 mv).2.1)) ((mvL S gr gb mo ng 0 0 mv).2.1) B))))), (d1, .inl (cI, 2, .inl (nf (va_up (va_up z 0 (z 0 - (mvL S gr gb mo ng 0 0 mv).2.1)) 1 (z 1 - (mvL S gr gb mo ng 0 0 mv).2.1))))), (d2, .inl (cI, 600, .inl (nf S))), (d3, .inl (cI, 600, .inl (nf Ln))), (d4, .inl (cI, 38400, .inl (uf K))), (d5, .inl (cI, 600, .inl (nf (shN ((mvL S gr gb mo ng 0 0 mv).1) (ng - (mvL S gr gb mo ng 0 0 mv).1) ((mvL S gr gb mo ng 0 0 mv).1) gr)))), (d6, .inl (cI, 600, .inl (nf (shN ((mvL S gr gb mo ng 0 0 mv).1) (ng - (mvL S gr gb mo ng 0 0 mv).1) ((mvL S gr gb mo ng 0 0 mv).1) gb)))), (d7, .inl (cI, 16, .inl (nf nS))), (d8, .inl (cI, 16, .inl (nf nL))), (d9, .inl (cI, 1024, .inl (uf nK))), (d10, .inl (cI, 64, .inl (uf F)))] dX4_move_257 ui_X4_move_X4 tyX4_ok nmX4 rfl rfl (by decide) fl_X4_move_84 rfl rfl rfl rfl (Nat.le_of_ble_eq_true rfl) rfl ?_
      refine x_aload_n E 4 dX4_move_260 rfl ?_
      refine x_iload E 1 dX4_move_261 rfl ?_
      refine x_put E 0 6 [(r0, .inr (4, [.ref d0, .ref d1, .ref d2, .ref d3, .ref d4, .int (nI kn), .int (nI ((mvL S gr gb mo ng 0 0 mv).2.2)), .ref d5, .ref d6, .int (nI (ng - ((mvL S gr gb mo ng 0 0 mv).1))), .ref d7, .ref d8, .ref d9, .int (nI nr), .ref d10, .int (nI fc), .int (if false = true then 1 else 0), .int (nI rp), .int bad, .int (nI 0), .int (nI sr), .int (nI sb), .int (nI at9)])), (d0, .inl (cI, 16384, .inl (uf (shB 1 ((mvL S gr gb mo ng 0 0 mv).2.1) (z 1 - (mvL S gr gb mo ng 0 0 mv).2.1) ((mvL S gr gb mo ng 0 0 mv).2.1) (shB 0 ((mvL S gr gb mo ng 0 0 mv).2.1) (z 0 - ((mvL S gr gb mo ng 0 0 mv).2.1)) ((mvL S gr gb mo ng 0 0 mv).2.1) B))))), (d1, .inl (cI, 2, .inl (nf (va_up (va_up z 0 (z 0 - (mvL S gr gb mo ng 0 0 mv).2.1)) 1 (z 1 - (mvL S gr gb mo ng 0 0 mv).2.1))))), (d2, .inl (cI, 600, .inl (nf S))), (d3, .inl (cI, 600, .inl (nf Ln))), (d4, .inl (cI, 38400, .inl (uf K))), (d5, .inl (cI, 600, .inl (nf (shN ((mvL S gr gb mo ng 0 0 mv).1) (ng - (mvL S gr gb mo ng 0 0 mv).1) ((mvL S gr gb mo ng 0 0 mv).1) gr)))), (d6, .inl (cI, 600, .inl (nf (shN ((mvL S gr gb mo ng 0 0 mv).1) (ng - (mvL S gr gb mo ng 0 0 mv).1) ((mvL S gr gb mo ng 0 0 mv).1) gb)))), (d7, .inl (cI, 16, .inl (nf nS))), (d8, .inl (cI, 16, .inl (nf nL))), (d9, .inl (cI, 1024, .inl (uf nK))), (d10, .inl (cI, 64, .inl (uf F)))] dX4_move_263 ui_X4_move_X4 tyX4_ok nmX4 rfl rfl (by decide) fl_X4_move_87 rfl rfl rfl rfl (Nat.le_of_ble_eq_true rfl) rfl ?_
      refine x_iconst E (v := nI 1) dX4_move_266 (by decide) ?_
      exact x_zret E hr hlocks dX4_move_267 rfl ⟨rfl, rfl⟩
    | succ k ih =>
      intro i gr' gb' e1 e0 e2 e3
      refine x_iload E 0 dX4_move_203 rfl ?_
      refine x_aload_n E 4 dX4_move_205 rfl ?_
      refine x_get E 0 9 dX4_move_206 ui_X4_move_X4 rfl rfl (by decide) fl_X4_move_84 rfl rfl ?_
      refine x_ncmp_ge E 250 dX4_move_209 (by decide) (by omega) (by omega) (fun h => False.elim (by omega)) (fun h209 => ?_)
      refine x_aload_n E 4 dX4_move_212 rfl ?_
      refine x_get E 0 7 dX4_move_213 ui_X4_move_X4 rfl rfl (by decide) fl_X4_move_26 rfl rfl ?_
      refine x_iload E 0 dX4_move_216 rfl ?_
      refine x_iload_n E 3 dX4_move_218 rfl ?_
      refine x_nisub E dX4_move_219 (by omega) ?_
      refine x_aload_n E 4 dX4_move_220 rfl ?_
      refine x_get E 0 7 dX4_move_221 ui_X4_move_X4 rfl rfl (by decide) fl_X4_move_26 rfl rfl ?_
      refine x_iload E 0 dX4_move_224 rfl ?_
      refine x_nald E 6 1 dX4_move_226 rfl rfl (by omega) (by decide) ?_
      refine x_nast E 6 1 [(r0, .inr (4, [.ref d0, .ref d1, .ref d2, .ref d3, .ref d4, .int (nI kn), .int (nI mv), .ref d5, .ref d6, .int (nI ng), .ref d7, .ref d8, .ref d9, .int (nI nr), .ref d10, .int (nI fc), .int (if false = true then 1 else 0), .int (nI rp), .int bad, .int (nI 0), .int (nI sr), .int (nI sb), .int (nI at9)])), (d0, .inl (cI, 16384, .inl (uf (shB 1 ((mvL S gr gb mo ng 0 0 mv).2.1) (z 1 - (mvL S gr gb mo ng 0 0 mv).2.1) ((mvL S gr gb mo ng 0 0 mv).2.1) (shB 0 ((mvL S gr gb mo ng 0 0 mv).2.1) (z 0 - ((mvL S gr gb mo ng 0 0 mv).2.1)) ((mvL S gr gb mo ng 0 0 mv).2.1) B))))), (d1, .inl (cI, 2, .inl (nf (va_up (va_up z 0 (z 0 - (mvL S gr gb mo ng 0 0 mv).2.1)) 1 (z 1 - (mvL S gr gb mo ng 0 0 mv).2.1))))), (d2, .inl (cI, 600, .inl (nf S))), (d3, .inl (cI, 600, .inl (nf Ln))), (d4, .inl (cI, 38400, .inl (uf K))), (d5, .inl (cI, 600, .inl (nf (va_up gr' (i - ((mvL S gr gb mo ng 0 0 mv).1)) (gr' i))))), (d6, .inl (cI, 600, .inl (nf gb'))), (d7, .inl (cI, 16, .inl (nf nS))), (d8, .inl (cI, 16, .inl (nf nL))), (d9, .inl (cI, 1024, .inl (uf nK))), (d10, .inl (cI, 64, .inl (uf F)))] dX4_move_227 rfl rfl (by omega) (by decide) rfl ?_
      refine x_aload_n E 4 dX4_move_228 rfl ?_
      refine x_get E 0 8 dX4_move_229 ui_X4_move_X4 rfl rfl (by decide) fl_X4_move_29 rfl rfl ?_
      refine x_iload E 0 dX4_move_232 rfl ?_
      refine x_iload_n E 3 dX4_move_234 rfl ?_
      refine x_nisub E dX4_move_235 (by omega) ?_
      refine x_aload_n E 4 dX4_move_236 rfl ?_
      refine x_get E 0 8 dX4_move_237 ui_X4_move_X4 rfl rfl (by decide) fl_X4_move_29 rfl rfl ?_
      refine x_iload E 0 dX4_move_240 rfl ?_
      refine x_nald E 7 1 dX4_move_242 rfl rfl (by omega) (by decide) ?_
      refine x_nast E 7 1 [(r0, .inr (4, [.ref d0, .ref d1, .ref d2, .ref d3, .ref d4, .int (nI kn), .int (nI mv), .ref d5, .ref d6, .int (nI ng), .ref d7, .ref d8, .ref d9, .int (nI nr), .ref d10, .int (nI fc), .int (if false = true then 1 else 0), .int (nI rp), .int bad, .int (nI 0), .int (nI sr), .int (nI sb), .int (nI at9)])), (d0, .inl (cI, 16384, .inl (uf (shB 1 ((mvL S gr gb mo ng 0 0 mv).2.1) (z 1 - (mvL S gr gb mo ng 0 0 mv).2.1) ((mvL S gr gb mo ng 0 0 mv).2.1) (shB 0 ((mvL S gr gb mo ng 0 0 mv).2.1) (z 0 - ((mvL S gr gb mo ng 0 0 mv).2.1)) ((mvL S gr gb mo ng 0 0 mv).2.1) B))))), (d1, .inl (cI, 2, .inl (nf (va_up (va_up z 0 (z 0 - (mvL S gr gb mo ng 0 0 mv).2.1)) 1 (z 1 - (mvL S gr gb mo ng 0 0 mv).2.1))))), (d2, .inl (cI, 600, .inl (nf S))), (d3, .inl (cI, 600, .inl (nf Ln))), (d4, .inl (cI, 38400, .inl (uf K))), (d5, .inl (cI, 600, .inl (nf (va_up gr' (i - ((mvL S gr gb mo ng 0 0 mv).1)) (gr' i))))), (d6, .inl (cI, 600, .inl (nf (va_up gb' (i - ((mvL S gr gb mo ng 0 0 mv).1)) (gb' i))))), (d7, .inl (cI, 16, .inl (nf nS))), (d8, .inl (cI, 16, .inl (nf nL))), (d9, .inl (cI, 1024, .inl (uf nK))), (d10, .inl (cI, 64, .inl (uf F)))] dX4_move_243 rfl rfl (by omega) (by decide) rfl ?_
      refine x_iinc E 0 [(5, .int (nI (i + 1))), (4, .int (nI ((mvL S gr gb mo ng 0 0 mv).2.2))), (3, .int (nI ((mvL S gr gb mo ng 0 0 mv).2.1))), (2, .int (nI ((mvL S gr gb mo ng 0 0 mv).1))), (0, .ref r0), (1, .int mo)] dX4_move_244 rfl (nI_add _ _) (by decide) rfl ?_
      refine x_goto E 203 dX4_move_247 (by decide) ?_
      exact ih (i + 1) _ _ (by omega) (by omega) (by rw [← e2, shN_s]) (by rw [← e3, shN_s])
  have mv1 : ∀ (k i : Nat) (B' : Nat → UInt8), i + k = z 1 → (mvL S gr gb mo ng 0 0 mv).2.1 ≤ i → shB 1 ((mvL S gr gb mo ng 0 0 mv).2.1) k i B' = shB 1 ((mvL S gr gb mo ng 0 0 mv).2.1) (z 1 - (mvL S gr gb mo ng 0 0 mv).2.1) ((mvL S gr gb mo ng 0 0 mv).2.1) (shB 0 ((mvL S gr gb mo ng 0 0 mv).2.1) (z 0 - ((mvL S gr gb mo ng 0 0 mv).2.1)) ((mvL S gr gb mo ng 0 0 mv).2.1) B) → Xs xp l xe rmX4_move xs xm ([.ref r0, .int mo] : List Value).toArray xb xt xc D vwCl xA 7 0 0 (MQ xb (CQ D vwCl (tyl cB cI cZ cJ) xA (fun r u => r = (some (.int (nI 1))) ∧ u = [(r0, .inr (4, [.ref d0, .ref d1, .ref d2, .ref d3, .ref d4, .int (nI kn), .int (nI ((mvL S gr gb mo ng 0 0 mv).2.2)), .ref d5, .ref d6, .int (nI (ng - (mvL S gr gb mo ng 0 0 mv).1)), .ref d7, .ref d8, .ref d9, .int (nI nr), .ref d10, .int (nI fc), .int (if false = true then 1 else 0), .int (nI rp), .int bad, .int (nI 0), .int (nI sr), .int (nI sb), .int (nI at9)])), (d0, .inl (cI, 16384, .inl (uf (shB 1 ((mvL S gr gb mo ng 0 0 mv).2.1) (z 1 - (mvL S gr gb mo ng 0 0 mv).2.1) ((mvL S gr gb mo ng 0 0 mv).2.1) (shB 0 ((mvL S gr gb mo ng 0 0 mv).2.1) (z 0 - ((mvL S gr gb mo ng 0 0 mv).2.1)) ((mvL S gr gb mo ng 0 0 mv).2.1) B))))), (d1, .inl (cI, 2, .inl (nf (va_up (va_up z 0 (z 0 - (mvL S gr gb mo ng 0 0 mv).2.1)) 1 (z 1 - (mvL S gr gb mo ng 0 0 mv).2.1))))), (d2, .inl (cI, 600, .inl (nf S))), (d3, .inl (cI, 600, .inl (nf Ln))), (d4, .inl (cI, 38400, .inl (uf K))), (d5, .inl (cI, 600, .inl (nf (shN ((mvL S gr gb mo ng 0 0 mv).1) (ng - (mvL S gr gb mo ng 0 0 mv).1) ((mvL S gr gb mo ng 0 0 mv).1) gr)))), (d6, .inl (cI, 600, .inl (nf (shN ((mvL S gr gb mo ng 0 0 mv).1) (ng - (mvL S gr gb mo ng 0 0 mv).1) ((mvL S gr gb mo ng 0 0 mv).1) gb)))), (d7, .inl (cI, 16, .inl (nf nS))), (d8, .inl (cI, 16, .inl (nf nL))), (d9, .inl (cI, 1024, .inl (uf nK))), (d10, .inl (cI, 64, .inl (uf F)))])) ([.ref r0, .int mo] : List Value).toArray xs 0 0 xA) [(r0, .inr (4, [.ref d0, .ref d1, .ref d2, .ref d3, .ref d4, .int (nI kn), .int (nI mv), .ref d5, .ref d6, .int (nI ng), .ref d7, .ref d8, .ref d9, .int (nI nr), .ref d10, .int (nI fc), .int (if false = true then 1 else 0), .int (nI rp), .int bad, .int (nI 0), .int (nI sr), .int (nI sb), .int (nI at9)])), (d0, .inl (cI, 16384, .inl (uf B'))), (d1, .inl (cI, 2, .inl (nf (va_up z 0 (z 0 - (mvL S gr gb mo ng 0 0 mv).2.1))))), (d2, .inl (cI, 600, .inl (nf S))), (d3, .inl (cI, 600, .inl (nf Ln))), (d4, .inl (cI, 38400, .inl (uf K))), (d5, .inl (cI, 600, .inl (nf gr))), (d6, .inl (cI, 600, .inl (nf gb))), (d7, .inl (cI, 16, .inl (nf nS))), (d8, .inl (cI, 16, .inl (nf nL))), (d9, .inl (cI, 1024, .inl (uf nK))), (d10, .inl (cI, 64, .inl (uf F)))] [(6, .int (nI i)), (5, .int (nI 1)), (4, .int (nI ((mvL S gr gb mo ng 0 0 mv).2.2))), (3, .int (nI ((mvL S gr gb mo ng 0 0 mv).2.1))), (2, .int (nI ((mvL S gr gb mo ng 0 0 mv).1))), (0, .ref r0), (1, .int mo)] 135 [] := by
    intro k
    induction k with
    | zero =>
      intro i B' e1 e0 e2
      have e2 : B' = shB 1 ((mvL S gr gb mo ng 0 0 mv).2.1) (z 1 - (mvL S gr gb mo ng 0 0 mv).2.1) ((mvL S gr gb mo ng 0 0 mv).2.1) (shB 0 ((mvL S gr gb mo ng 0 0 mv).2.1) (z 0 - ((mvL S gr gb mo ng 0 0 mv).2.1)) ((mvL S gr gb mo ng 0 0 mv).2.1) B) := e2
      subst e2
      refine x_iload E 0 dX4_move_135 rfl ?_
      refine x_aload_n E 5 dX4_move_137 rfl ?_
      refine x_get E 0 1 dX4_move_138 ui_X4_move_X4 rfl rfl (by decide) fl_X4_move_13 rfl rfl ?_
      refine x_iload E 1 dX4_move_141 rfl ?_
      refine x_nald E 2 1 dX4_move_143 rfl rfl (by omega) (by decide) ?_
      refine x_top (w := .int (nI (z 1))) (by rw [va_up_ne _ _ (by decide)]) ?_
      refine x_ncmp_ge E 183 dX4_move_144 (by decide) (by omega) (by omega) (fun h144 => ?_) (fun h => False.elim (by omega))
      refine x_aload_n E 5 dX4_move_183 rfl ?_
      refine x_get E 0 1 dX4_move_184 ui_X4_move_X4 rfl rfl (by decide) fl_X4_move_13 rfl rfl ?_
      refine x_iload E 1 dX4_move_187 rfl ?_
      refine x_dup2 E dX4_move_189 rfl rfl ?_
      refine x_nald E 2 1 dX4_move_190 rfl rfl (by omega) (by decide) ?_
      refine x_top (w := .int (nI (z 1))) (by rw [va_up_ne _ _ (by decide)]) ?_
      refine x_iload_n E 3 dX4_move_191 rfl ?_
      refine x_nisub E dX4_move_192 (by omega) ?_
      refine x_nast E 2 1 [(r0, .inr (4, [.ref d0, .ref d1, .ref d2, .ref d3, .ref d4, .int (nI kn), .int (nI mv), .ref d5, .ref d6, .int (nI ng), .ref d7, .ref d8, .ref d9, .int (nI nr), .ref d10, .int (nI fc), .int (if false = true then 1 else 0), .int (nI rp), .int bad, .int (nI 0), .int (nI sr), .int (nI sb), .int (nI at9)])), (d0, .inl (cI, 16384, .inl (uf (shB 1 ((mvL S gr gb mo ng 0 0 mv).2.1) (z 1 - (mvL S gr gb mo ng 0 0 mv).2.1) ((mvL S gr gb mo ng 0 0 mv).2.1) (shB 0 ((mvL S gr gb mo ng 0 0 mv).2.1) (z 0 - ((mvL S gr gb mo ng 0 0 mv).2.1)) ((mvL S gr gb mo ng 0 0 mv).2.1) B))))), (d1, .inl (cI, 2, .inl (nf (va_up (va_up z 0 (z 0 - (mvL S gr gb mo ng 0 0 mv).2.1)) 1 ((z 1) - ((mvL S gr gb mo ng 0 0 mv).2.1)))))), (d2, .inl (cI, 600, .inl (nf S))), (d3, .inl (cI, 600, .inl (nf Ln))), (d4, .inl (cI, 38400, .inl (uf K))), (d5, .inl (cI, 600, .inl (nf gr))), (d6, .inl (cI, 600, .inl (nf gb))), (d7, .inl (cI, 16, .inl (nf nS))), (d8, .inl (cI, 16, .inl (nf nL))), (d9, .inl (cI, 1024, .inl (uf nK))), (d10, .inl (cI, 64, .inl (uf F)))] dX4_move_193 rfl rfl (by omega) (by decide) rfl ?_
      refine x_iinc E 1 [(5, .int (nI 2)), (6, .int (nI i)), (4, .int (nI ((mvL S gr gb mo ng 0 0 mv).2.2))), (3, .int (nI ((mvL S gr gb mo ng 0 0 mv).2.1))), (2, .int (nI ((mvL S gr gb mo ng 0 0 mv).1))), (0, .ref r0), (1, .int mo)] dX4_move_194 rfl (by decide) (by decide) rfl ?_
      refine x_goto E 126 dX4_move_197 (by decide) ?_
      refine x_iload E 0 dX4_move_126 rfl ?_
      refine x_iconst E (v := nI 2) dX4_move_128 (by decide) ?_
      refine x_ncmp_ge E 200 dX4_move_129 (by decide) (by decide) (by decide) (fun h129 => ?_) (fun h => False.elim (by omega))
      refine x_iload_n E 4 dX4_move_200 rfl ?_
      refine x_istore E [(5, .int (nI ((mvL S gr gb mo ng 0 0 mv).1))), (6, .int (nI i)), (4, .int (nI ((mvL S gr gb mo ng 0 0 mv).2.2))), (3, .int (nI ((mvL S gr gb mo ng 0 0 mv).2.1))), (2, .int (nI ((mvL S gr gb mo ng 0 0 mv).1))), (0, .ref r0), (1, .int mo)] dX4_move_201 (by decide) rfl ?_
      refine x_lv [0, 2, 3, 4, 5, 6] rfl ?_
      exact shg (ng - (mvL S gr gb mo ng 0 0 mv).1) ((mvL S gr gb mo ng 0 0 mv).1) gr gb (by omega) (Nat.le_refl _) rfl rfl
    | succ k ih =>
      intro i B' e1 e0 e2
      refine x_iload E 0 dX4_move_135 rfl ?_
      refine x_aload_n E 5 dX4_move_137 rfl ?_
      refine x_get E 0 1 dX4_move_138 ui_X4_move_X4 rfl rfl (by decide) fl_X4_move_13 rfl rfl ?_
      refine x_iload E 1 dX4_move_141 rfl ?_
      refine x_nald E 2 1 dX4_move_143 rfl rfl (by omega) (by decide) ?_
      refine x_top (w := .int (nI (z 1))) (by rw [va_up_ne _ _ (by decide)]) ?_
      refine x_ncmp_ge E 183 dX4_move_144 (by decide) (by omega) (by omega) (fun h => False.elim (by omega)) (fun h144 => ?_)
      refine x_aload_n E 5 dX4_move_147 rfl ?_
      refine x_get E 0 0 dX4_move_148 ui_X4_move_X4 rfl rfl (by decide) fl_X4_move_9 rfl rfl ?_
      refine x_iload E 1 dX4_move_151 rfl ?_
      refine x_sipush E (v := nI 8192) dX4_move_153 (by decide) ?_
      refine x_nimul E dX4_move_156 ?_
      refine x_iload E 0 dX4_move_157 rfl ?_
      refine x_niadd E dX4_move_159 ?_
      refine x_iload_n E 3 dX4_move_160 rfl ?_
      refine x_nisub E dX4_move_161 (by omega) ?_
      refine x_aload_n E 5 dX4_move_162 rfl ?_
      refine x_get E 0 0 dX4_move_163 ui_X4_move_X4 rfl rfl (by decide) fl_X4_move_9 rfl rfl ?_
      refine x_iload E 1 dX4_move_166 rfl ?_
      refine x_sipush E (v := nI 8192) dX4_move_168 (by decide) ?_
      refine x_nimul E dX4_move_171 ?_
      refine x_iload E 0 dX4_move_172 rfl ?_
      refine x_niadd E dX4_move_174 ?_
      refine x_uald E 1 1 dX4_move_175 rfl rfl (by omega) (by decide) ?_
      refine x_uast E 1 1 [(r0, .inr (4, [.ref d0, .ref d1, .ref d2, .ref d3, .ref d4, .int (nI kn), .int (nI mv), .ref d5, .ref d6, .int (nI ng), .ref d7, .ref d8, .ref d9, .int (nI nr), .ref d10, .int (nI fc), .int (if false = true then 1 else 0), .int (nI rp), .int bad, .int (nI 0), .int (nI sr), .int (nI sb), .int (nI at9)])), (d0, .inl (cI, 16384, .inl (uf (va_up B' (((1 * 8192) + i) - ((mvL S gr gb mo ng 0 0 mv).2.1)) (B' ((1 * 8192) + i)))))), (d1, .inl (cI, 2, .inl (nf (va_up z 0 (z 0 - (mvL S gr gb mo ng 0 0 mv).2.1))))), (d2, .inl (cI, 600, .inl (nf S))), (d3, .inl (cI, 600, .inl (nf Ln))), (d4, .inl (cI, 38400, .inl (uf K))), (d5, .inl (cI, 600, .inl (nf gr))), (d6, .inl (cI, 600, .inl (nf gb))), (d7, .inl (cI, 16, .inl (nf nS))), (d8, .inl (cI, 16, .inl (nf nL))), (d9, .inl (cI, 1024, .inl (uf nK))), (d10, .inl (cI, 64, .inl (uf F)))] dX4_move_176 rfl rfl (by omega) (by decide) rfl rfl ?_
      refine x_iinc E 0 [(6, .int (nI (i + 1))), (5, .int (nI 1)), (4, .int (nI ((mvL S gr gb mo ng 0 0 mv).2.2))), (3, .int (nI ((mvL S gr gb mo ng 0 0 mv).2.1))), (2, .int (nI ((mvL S gr gb mo ng 0 0 mv).1))), (0, .ref r0), (1, .int mo)] dX4_move_177 rfl (nI_add _ _) (by decide) rfl ?_
      refine x_goto E 135 dX4_move_180 (by decide) ?_
      exact ih (i + 1) _ (by omega) (by omega) (by rw [← e2, shB_s])
  have mv0 : ∀ (k i : Nat) (B' : Nat → UInt8), i + k = z 0 → (mvL S gr gb mo ng 0 0 mv).2.1 ≤ i → shB 0 ((mvL S gr gb mo ng 0 0 mv).2.1) k i B' = shB 0 ((mvL S gr gb mo ng 0 0 mv).2.1) (z 0 - ((mvL S gr gb mo ng 0 0 mv).2.1)) ((mvL S gr gb mo ng 0 0 mv).2.1) B → Xs xp l xe rmX4_move xs xm ([.ref r0, .int mo] : List Value).toArray xb xt xc D vwCl xA 7 0 0 (MQ xb (CQ D vwCl (tyl cB cI cZ cJ) xA (fun r u => r = (some (.int (nI 1))) ∧ u = [(r0, .inr (4, [.ref d0, .ref d1, .ref d2, .ref d3, .ref d4, .int (nI kn), .int (nI ((mvL S gr gb mo ng 0 0 mv).2.2)), .ref d5, .ref d6, .int (nI (ng - (mvL S gr gb mo ng 0 0 mv).1)), .ref d7, .ref d8, .ref d9, .int (nI nr), .ref d10, .int (nI fc), .int (if false = true then 1 else 0), .int (nI rp), .int bad, .int (nI 0), .int (nI sr), .int (nI sb), .int (nI at9)])), (d0, .inl (cI, 16384, .inl (uf (shB 1 ((mvL S gr gb mo ng 0 0 mv).2.1) (z 1 - (mvL S gr gb mo ng 0 0 mv).2.1) ((mvL S gr gb mo ng 0 0 mv).2.1) (shB 0 ((mvL S gr gb mo ng 0 0 mv).2.1) (z 0 - ((mvL S gr gb mo ng 0 0 mv).2.1)) ((mvL S gr gb mo ng 0 0 mv).2.1) B))))), (d1, .inl (cI, 2, .inl (nf (va_up (va_up z 0 (z 0 - (mvL S gr gb mo ng 0 0 mv).2.1)) 1 (z 1 - (mvL S gr gb mo ng 0 0 mv).2.1))))), (d2, .inl (cI, 600, .inl (nf S))), (d3, .inl (cI, 600, .inl (nf Ln))), (d4, .inl (cI, 38400, .inl (uf K))), (d5, .inl (cI, 600, .inl (nf (shN ((mvL S gr gb mo ng 0 0 mv).1) (ng - (mvL S gr gb mo ng 0 0 mv).1) ((mvL S gr gb mo ng 0 0 mv).1) gr)))), (d6, .inl (cI, 600, .inl (nf (shN ((mvL S gr gb mo ng 0 0 mv).1) (ng - (mvL S gr gb mo ng 0 0 mv).1) ((mvL S gr gb mo ng 0 0 mv).1) gb)))), (d7, .inl (cI, 16, .inl (nf nS))), (d8, .inl (cI, 16, .inl (nf nL))), (d9, .inl (cI, 1024, .inl (uf nK))), (d10, .inl (cI, 64, .inl (uf F)))])) ([.ref r0, .int mo] : List Value).toArray xs 0 0 xA) [(r0, .inr (4, [.ref d0, .ref d1, .ref d2, .ref d3, .ref d4, .int (nI kn), .int (nI mv), .ref d5, .ref d6, .int (nI ng), .ref d7, .ref d8, .ref d9, .int (nI nr), .ref d10, .int (nI fc), .int (if false = true then 1 else 0), .int (nI rp), .int bad, .int (nI 0), .int (nI sr), .int (nI sb), .int (nI at9)])), (d0, .inl (cI, 16384, .inl (uf B'))), (d1, .inl (cI, 2, .inl (nf z))), (d2, .inl (cI, 600, .inl (nf S))), (d3, .inl (cI, 600, .inl (nf Ln))), (d4, .inl (cI, 38400, .inl (uf K))), (d5, .inl (cI, 600, .inl (nf gr))), (d6, .inl (cI, 600, .inl (nf gb))), (d7, .inl (cI, 16, .inl (nf nS))), (d8, .inl (cI, 16, .inl (nf nL))), (d9, .inl (cI, 1024, .inl (uf nK))), (d10, .inl (cI, 64, .inl (uf F)))] [(6, .int (nI i)), (5, .int (nI 0)), (4, .int (nI ((mvL S gr gb mo ng 0 0 mv).2.2))), (3, .int (nI ((mvL S gr gb mo ng 0 0 mv).2.1))), (2, .int (nI ((mvL S gr gb mo ng 0 0 mv).1))), (0, .ref r0), (1, .int mo)] 135 [] := by
    intro k
    induction k with
    | zero =>
      intro i B' e1 e0 e2
      have e2 : B' = shB 0 ((mvL S gr gb mo ng 0 0 mv).2.1) (z 0 - ((mvL S gr gb mo ng 0 0 mv).2.1)) ((mvL S gr gb mo ng 0 0 mv).2.1) B := e2
      subst e2
      refine x_iload E 0 dX4_move_135 rfl ?_
      refine x_aload_n E 5 dX4_move_137 rfl ?_
      refine x_get E 0 1 dX4_move_138 ui_X4_move_X4 rfl rfl (by decide) fl_X4_move_13 rfl rfl ?_
      refine x_iload E 1 dX4_move_141 rfl ?_
      refine x_nald E 2 1 dX4_move_143 rfl rfl (by omega) (by decide) ?_
      refine x_ncmp_ge E 183 dX4_move_144 (by decide) (by omega) (by omega) (fun h144 => ?_) (fun h => False.elim (by omega))
      refine x_aload_n E 5 dX4_move_183 rfl ?_
      refine x_get E 0 1 dX4_move_184 ui_X4_move_X4 rfl rfl (by decide) fl_X4_move_13 rfl rfl ?_
      refine x_iload E 1 dX4_move_187 rfl ?_
      refine x_dup2 E dX4_move_189 rfl rfl ?_
      refine x_nald E 2 1 dX4_move_190 rfl rfl (by omega) (by decide) ?_
      refine x_iload_n E 3 dX4_move_191 rfl ?_
      refine x_nisub E dX4_move_192 (by omega) ?_
      refine x_nast E 2 1 [(r0, .inr (4, [.ref d0, .ref d1, .ref d2, .ref d3, .ref d4, .int (nI kn), .int (nI mv), .ref d5, .ref d6, .int (nI ng), .ref d7, .ref d8, .ref d9, .int (nI nr), .ref d10, .int (nI fc), .int (if false = true then 1 else 0), .int (nI rp), .int bad, .int (nI 0), .int (nI sr), .int (nI sb), .int (nI at9)])), (d0, .inl (cI, 16384, .inl (uf (shB 0 ((mvL S gr gb mo ng 0 0 mv).2.1) (z 0 - ((mvL S gr gb mo ng 0 0 mv).2.1)) ((mvL S gr gb mo ng 0 0 mv).2.1) B)))), (d1, .inl (cI, 2, .inl (nf (va_up z 0 ((z 0) - ((mvL S gr gb mo ng 0 0 mv).2.1)))))), (d2, .inl (cI, 600, .inl (nf S))), (d3, .inl (cI, 600, .inl (nf Ln))), (d4, .inl (cI, 38400, .inl (uf K))), (d5, .inl (cI, 600, .inl (nf gr))), (d6, .inl (cI, 600, .inl (nf gb))), (d7, .inl (cI, 16, .inl (nf nS))), (d8, .inl (cI, 16, .inl (nf nL))), (d9, .inl (cI, 1024, .inl (uf nK))), (d10, .inl (cI, 64, .inl (uf F)))] dX4_move_193 rfl rfl (by omega) (by decide) rfl ?_
      refine x_iinc E 1 [(5, .int (nI 1)), (6, .int (nI i)), (4, .int (nI ((mvL S gr gb mo ng 0 0 mv).2.2))), (3, .int (nI ((mvL S gr gb mo ng 0 0 mv).2.1))), (2, .int (nI ((mvL S gr gb mo ng 0 0 mv).1))), (0, .ref r0), (1, .int mo)] dX4_move_194 rfl (by decide) (by decide) rfl ?_
      refine x_goto E 126 dX4_move_197 (by decide) ?_
      refine x_iload E 0 dX4_move_126 rfl ?_
      refine x_iconst E (v := nI 2) dX4_move_128 (by decide) ?_
      refine x_ncmp_ge E 200 dX4_move_129 (by decide) (by decide) (by decide) (fun h => False.elim (by omega)) (fun h129 => ?_)
      refine x_iload_n E 3 dX4_move_132 rfl ?_
      refine x_istore E [(6, .int (nI ((mvL S gr gb mo ng 0 0 mv).2.1))), (5, .int (nI 1)), (4, .int (nI ((mvL S gr gb mo ng 0 0 mv).2.2))), (3, .int (nI ((mvL S gr gb mo ng 0 0 mv).2.1))), (2, .int (nI ((mvL S gr gb mo ng 0 0 mv).1))), (0, .ref r0), (1, .int mo)] dX4_move_133 (by decide) rfl ?_
      refine x_lv [0, 1, 2, 3, 4, 5, 6] rfl ?_
      exact mv1 (z 1 - (mvL S gr gb mo ng 0 0 mv).2.1) ((mvL S gr gb mo ng 0 0 mv).2.1) _ (by omega) (Nat.le_refl _) rfl
    | succ k ih =>
      intro i B' e1 e0 e2
      refine x_iload E 0 dX4_move_135 rfl ?_
      refine x_aload_n E 5 dX4_move_137 rfl ?_
      refine x_get E 0 1 dX4_move_138 ui_X4_move_X4 rfl rfl (by decide) fl_X4_move_13 rfl rfl ?_
      refine x_iload E 1 dX4_move_141 rfl ?_
      refine x_nald E 2 1 dX4_move_143 rfl rfl (by omega) (by decide) ?_
      refine x_ncmp_ge E 183 dX4_move_144 (by decide) (by omega) (by omega) (fun h => False.elim (by omega)) (fun h144 => ?_)
      refine x_aload_n E 5 dX4_move_147 rfl ?_
      refine x_get E 0 0 dX4_move_148 ui_X4_move_X4 rfl rfl (by decide) fl_X4_move_9 rfl rfl ?_
      refine x_iload E 1 dX4_move_151 rfl ?_
      refine x_sipush E (v := nI 8192) dX4_move_153 (by decide) ?_
      refine x_nimul E dX4_move_156 ?_
      refine x_iload E 0 dX4_move_157 rfl ?_
      refine x_niadd E dX4_move_159 ?_
      refine x_iload_n E 3 dX4_move_160 rfl ?_
      refine x_nisub E dX4_move_161 (by omega) ?_
      refine x_aload_n E 5 dX4_move_162 rfl ?_
      refine x_get E 0 0 dX4_move_163 ui_X4_move_X4 rfl rfl (by decide) fl_X4_move_9 rfl rfl ?_
      refine x_iload E 1 dX4_move_166 rfl ?_
      refine x_sipush E (v := nI 8192) dX4_move_168 (by decide) ?_
      refine x_nimul E dX4_move_171 ?_
      refine x_iload E 0 dX4_move_172 rfl ?_
      refine x_niadd E dX4_move_174 ?_
      refine x_uald E 1 1 dX4_move_175 rfl rfl (by omega) (by decide) ?_
      refine x_uast E 1 1 [(r0, .inr (4, [.ref d0, .ref d1, .ref d2, .ref d3, .ref d4, .int (nI kn), .int (nI mv), .ref d5, .ref d6, .int (nI ng), .ref d7, .ref d8, .ref d9, .int (nI nr), .ref d10, .int (nI fc), .int (if false = true then 1 else 0), .int (nI rp), .int bad, .int (nI 0), .int (nI sr), .int (nI sb), .int (nI at9)])), (d0, .inl (cI, 16384, .inl (uf (va_up B' (((0 * 8192) + i) - ((mvL S gr gb mo ng 0 0 mv).2.1)) (B' ((0 * 8192) + i)))))), (d1, .inl (cI, 2, .inl (nf z))), (d2, .inl (cI, 600, .inl (nf S))), (d3, .inl (cI, 600, .inl (nf Ln))), (d4, .inl (cI, 38400, .inl (uf K))), (d5, .inl (cI, 600, .inl (nf gr))), (d6, .inl (cI, 600, .inl (nf gb))), (d7, .inl (cI, 16, .inl (nf nS))), (d8, .inl (cI, 16, .inl (nf nL))), (d9, .inl (cI, 1024, .inl (uf nK))), (d10, .inl (cI, 64, .inl (uf F)))] dX4_move_176 rfl rfl (by omega) (by decide) rfl rfl ?_
      refine x_iinc E 0 [(6, .int (nI (i + 1))), (5, .int (nI 0)), (4, .int (nI ((mvL S gr gb mo ng 0 0 mv).2.2))), (3, .int (nI ((mvL S gr gb mo ng 0 0 mv).2.1))), (2, .int (nI ((mvL S gr gb mo ng 0 0 mv).1))), (0, .ref r0), (1, .int mo)] dX4_move_177 rfl (nI_add _ _) (by decide) rfl ?_
      refine x_goto E 135 dX4_move_180 (by decide) ?_
      exact ih (i + 1) _ (by omega) (by omega) (by rw [← e2, shB_s])
  have main : Xs xp l xe rmX4_move xs xm ([.ref r0, .int mo] : List Value).toArray xb xt xc D vwCl xA 7 0 0 (MQ xb (CQ D vwCl (tyl cB cI cZ cJ) xA (fun r u => r = (some (.int (nI 1))) ∧ u = [(r0, .inr (4, [.ref d0, .ref d1, .ref d2, .ref d3, .ref d4, .int (nI kn), .int (nI ((mvL S gr gb mo ng 0 0 mv).2.2)), .ref d5, .ref d6, .int (nI (ng - (mvL S gr gb mo ng 0 0 mv).1)), .ref d7, .ref d8, .ref d9, .int (nI nr), .ref d10, .int (nI fc), .int (if false = true then 1 else 0), .int (nI rp), .int bad, .int (nI 0), .int (nI sr), .int (nI sb), .int (nI at9)])), (d0, .inl (cI, 16384, .inl (uf (shB 1 ((mvL S gr gb mo ng 0 0 mv).2.1) (z 1 - (mvL S gr gb mo ng 0 0 mv).2.1) ((mvL S gr gb mo ng 0 0 mv).2.1) (shB 0 ((mvL S gr gb mo ng 0 0 mv).2.1) (z 0 - ((mvL S gr gb mo ng 0 0 mv).2.1)) ((mvL S gr gb mo ng 0 0 mv).2.1) B))))), (d1, .inl (cI, 2, .inl (nf (va_up (va_up z 0 (z 0 - (mvL S gr gb mo ng 0 0 mv).2.1)) 1 (z 1 - (mvL S gr gb mo ng 0 0 mv).2.1))))), (d2, .inl (cI, 600, .inl (nf S))), (d3, .inl (cI, 600, .inl (nf Ln))), (d4, .inl (cI, 38400, .inl (uf K))), (d5, .inl (cI, 600, .inl (nf (shN ((mvL S gr gb mo ng 0 0 mv).1) (ng - (mvL S gr gb mo ng 0 0 mv).1) ((mvL S gr gb mo ng 0 0 mv).1) gr)))), (d6, .inl (cI, 600, .inl (nf (shN ((mvL S gr gb mo ng 0 0 mv).1) (ng - (mvL S gr gb mo ng 0 0 mv).1) ((mvL S gr gb mo ng 0 0 mv).1) gb)))), (d7, .inl (cI, 16, .inl (nf nS))), (d8, .inl (cI, 16, .inl (nf nL))), (d9, .inl (cI, 1024, .inl (uf nK))), (d10, .inl (cI, 64, .inl (uf F)))])) ([.ref r0, .int mo] : List Value).toArray xs 0 0 xA) [(r0, .inr (4, [.ref d0, .ref d1, .ref d2, .ref d3, .ref d4, .int (nI kn), .int (nI mv), .ref d5, .ref d6, .int (nI ng), .ref d7, .ref d8, .ref d9, .int (nI nr), .ref d10, .int (nI fc), .int (if false = true then 1 else 0), .int (nI rp), .int bad, .int (nI 0), .int (nI sr), .int (nI sb), .int (nI at9)])), (d0, .inl (cI, 16384, .inl (uf B))), (d1, .inl (cI, 2, .inl (nf z))), (d2, .inl (cI, 600, .inl (nf S))), (d3, .inl (cI, 600, .inl (nf Ln))), (d4, .inl (cI, 38400, .inl (uf K))), (d5, .inl (cI, 600, .inl (nf gr))), (d6, .inl (cI, 600, .inl (nf gb))), (d7, .inl (cI, 16, .inl (nf nS))), (d8, .inl (cI, 16, .inl (nf nL))), (d9, .inl (cI, 1024, .inl (uf nK))), (d10, .inl (cI, 64, .inl (uf F)))] [(4, .int (nI ((mvL S gr gb mo ng 0 0 mv).2.2))), (3, .int (nI ((mvL S gr gb mo ng 0 0 mv).2.1))), (2, .int (nI ((mvL S gr gb mo ng 0 0 mv).1))), (0, .ref r0), (1, .int mo)] 117 [] := by
    refine x_iload_n E 2 dX4_move_117 rfl ?_
    refine x_nif_ne E 123 dX4_move_118 (by decide) (by omega) (fun h118 => ?_) (fun h => False.elim (by omega))
    refine x_iconst E (v := nI 0) dX4_move_123 (by decide) ?_
    refine x_istore E [(5, .int (nI 0)), (4, .int (nI ((mvL S gr gb mo ng 0 0 mv).2.2))), (3, .int (nI ((mvL S gr gb mo ng 0 0 mv).2.1))), (2, .int (nI ((mvL S gr gb mo ng 0 0 mv).1))), (0, .ref r0), (1, .int mo)] dX4_move_124 (by decide) rfl ?_
    refine x_iload E 0 dX4_move_126 rfl ?_
    refine x_iconst E (v := nI 2) dX4_move_128 (by decide) ?_
    refine x_ncmp_ge E 200 dX4_move_129 (by decide) (by decide) (by decide) (fun h => False.elim (by omega)) (fun h129 => ?_)
    refine x_iload_n E 2 dX4_move_132 rfl ?_
    refine x_istore E [(6, .int (nI ((mvL S gr gb mo ng 0 0 mv).2.1))), (5, .int (nI 0)), (4, .int (nI ((mvL S gr gb mo ng 0 0 mv).2.2))), (3, .int (nI ((mvL S gr gb mo ng 0 0 mv).2.1))), (2, .int (nI ((mvL S gr gb mo ng 0 0 mv).1))), (0, .ref r0), (1, .int mo)] dX4_move_133 (by decide) rfl ?_
    refine x_lv [0, 1, 2, 3, 4, 5, 6] rfl ?_
    exact mv0 (z 0 - (mvL S gr gb mo ng 0 0 mv).2.1) ((mvL S gr gb mo ng 0 0 mv).2.1) B (by omega) (Nat.le_refl _) rfl
  have cnt : ∀ (f g c r : Nat), g + f = ng → r = mv + smN gr g → mvL S gr gb mo f g c r = mvL S gr gb mo ng 0 0 mv → Xs xp l xe rmX4_move xs xm ([.ref r0, .int mo] : List Value).toArray xb xt xc D vwCl xA 7 0 0 (MQ xb (CQ D vwCl (tyl cB cI cZ cJ) xA (fun r u => r = (some (.int (nI 1))) ∧ u = [(r0, .inr (4, [.ref d0, .ref d1, .ref d2, .ref d3, .ref d4, .int (nI kn), .int (nI ((mvL S gr gb mo ng 0 0 mv).2.2)), .ref d5, .ref d6, .int (nI (ng - (mvL S gr gb mo ng 0 0 mv).1)), .ref d7, .ref d8, .ref d9, .int (nI nr), .ref d10, .int (nI fc), .int (if false = true then 1 else 0), .int (nI rp), .int bad, .int (nI 0), .int (nI sr), .int (nI sb), .int (nI at9)])), (d0, .inl (cI, 16384, .inl (uf (shB 1 ((mvL S gr gb mo ng 0 0 mv).2.1) (z 1 - (mvL S gr gb mo ng 0 0 mv).2.1) ((mvL S gr gb mo ng 0 0 mv).2.1) (shB 0 ((mvL S gr gb mo ng 0 0 mv).2.1) (z 0 - ((mvL S gr gb mo ng 0 0 mv).2.1)) ((mvL S gr gb mo ng 0 0 mv).2.1) B))))), (d1, .inl (cI, 2, .inl (nf (va_up (va_up z 0 (z 0 - (mvL S gr gb mo ng 0 0 mv).2.1)) 1 (z 1 - (mvL S gr gb mo ng 0 0 mv).2.1))))), (d2, .inl (cI, 600, .inl (nf S))), (d3, .inl (cI, 600, .inl (nf Ln))), (d4, .inl (cI, 38400, .inl (uf K))), (d5, .inl (cI, 600, .inl (nf (shN ((mvL S gr gb mo ng 0 0 mv).1) (ng - (mvL S gr gb mo ng 0 0 mv).1) ((mvL S gr gb mo ng 0 0 mv).1) gr)))), (d6, .inl (cI, 600, .inl (nf (shN ((mvL S gr gb mo ng 0 0 mv).1) (ng - (mvL S gr gb mo ng 0 0 mv).1) ((mvL S gr gb mo ng 0 0 mv).1) gb)))), (d7, .inl (cI, 16, .inl (nf nS))), (d8, .inl (cI, 16, .inl (nf nL))), (d9, .inl (cI, 1024, .inl (uf nK))), (d10, .inl (cI, 64, .inl (uf F)))])) ([.ref r0, .int mo] : List Value).toArray xs 0 0 xA) [(r0, .inr (4, [.ref d0, .ref d1, .ref d2, .ref d3, .ref d4, .int (nI kn), .int (nI mv), .ref d5, .ref d6, .int (nI ng), .ref d7, .ref d8, .ref d9, .int (nI nr), .ref d10, .int (nI fc), .int (if false = true then 1 else 0), .int (nI rp), .int bad, .int (nI 0), .int (nI sr), .int (nI sb), .int (nI at9)])), (d0, .inl (cI, 16384, .inl (uf B))), (d1, .inl (cI, 2, .inl (nf z))), (d2, .inl (cI, 600, .inl (nf S))), (d3, .inl (cI, 600, .inl (nf Ln))), (d4, .inl (cI, 38400, .inl (uf K))), (d5, .inl (cI, 600, .inl (nf gr))), (d6, .inl (cI, 600, .inl (nf gb))), (d7, .inl (cI, 16, .inl (nf nS))), (d8, .inl (cI, 16, .inl (nf nL))), (d9, .inl (cI, 1024, .inl (uf nK))), (d10, .inl (cI, 64, .inl (uf F)))] [(4, .int (nI r)), (3, .int (nI c)), (2, .int (nI g)), (0, .ref r0), (1, .int mo)] 60 [] := by
    intro f
    induction f with
    | zero =>
      intro g c r e1 e2 e3
      have e3 : (g, c, r) = mvL S gr gb mo ng 0 0 mv := e3
      refine x_iload_n E 2 dX4_move_60 rfl ?_
      refine x_aload_n E 3 dX4_move_61 rfl ?_
      refine x_get E 0 9 dX4_move_62 ui_X4_move_X4 rfl rfl (by decide) fl_X4_move_84 rfl rfl ?_
      refine x_ncmp_ge E 117 dX4_move_65 (by decide) (by omega) (by omega) (fun h65 => ?_) (fun h => False.elim (by omega))
      refine x_lve (lv' := [(4, .int (nI ((mvL S gr gb mo ng 0 0 mv).2.2))), (3, .int (nI ((mvL S gr gb mo ng 0 0 mv).2.1))), (2, .int (nI ((mvL S gr gb mo ng 0 0 mv).1))), (0, .ref r0), (1, .int mo)]) (by rw [← e3]) ?_
      exact main
    | succ f ih =>
      intro g c r e1 e2 e3
      have hg1 := hgr g (by omega)
      have hg2 := smN_le gr (show g + 1 ≤ ng by omega)
      rw [smN_s] at hg2
      have hs1 := hs (r + gr g - 1) (by omega)
      refine x_iload_n E 2 dX4_move_60 rfl ?_
      refine x_aload_n E 3 dX4_move_61 rfl ?_
      refine x_get E 0 9 dX4_move_62 ui_X4_move_X4 rfl rfl (by decide) fl_X4_move_84 rfl rfl ?_
      refine x_ncmp_ge E 117 dX4_move_65 (by decide) (by omega) (by omega) (fun h => False.elim (by omega)) (fun h65 => ?_)
      refine x_aload_n E 3 dX4_move_68 rfl ?_
      refine x_get E 0 2 dX4_move_69 ui_X4_move_X4 rfl rfl (by decide) fl_X4_move_16 rfl rfl ?_
      refine x_iload E 0 dX4_move_72 rfl ?_
      refine x_aload_n E 3 dX4_move_74 rfl ?_
      refine x_get E 0 7 dX4_move_75 ui_X4_move_X4 rfl rfl (by decide) fl_X4_move_26 rfl rfl ?_
      refine x_iload_n E 2 dX4_move_78 rfl ?_
      refine x_nald E 6 1 dX4_move_79 rfl rfl (by omega) (by decide) ?_
      refine x_niadd E dX4_move_80 ?_
      refine x_iconst E (v := nI 1) dX4_move_81 (by decide) ?_
      refine x_nisub E dX4_move_82 (by omega) ?_
      refine x_nald E 3 1 dX4_move_83 rfl rfl (by omega) (by decide) ?_
      refine x_ldc E (v := nI 2592000) dX4_move_84 cn_X4_move_121 (by decide +kernel) ?_
      refine x_nidiv E dX4_move_86 (by omega) (by omega) (by decide) ?_
      refine x_iload_n E 4 dX4_move_87 rfl ?_
      refine x_icmp_gt E 117 dX4_move_88 (by decide) (fun h88 => ?_) (fun h88 => ?_)
      · refine x_lve (lv' := [(4, .int (nI ((mvL S gr gb mo ng 0 0 mv).2.2))), (3, .int (nI ((mvL S gr gb mo ng 0 0 mv).2.1))), (2, .int (nI ((mvL S gr gb mo ng 0 0 mv).1))), (0, .ref r0), (1, .int mo)]) (by rw [← e3, mvL_s, if_pos h88]) ?_
        exact main
      · refine x_iload E 0 dX4_move_91 rfl ?_
        refine x_aload_n E 3 dX4_move_93 rfl ?_
        refine x_get E 0 7 dX4_move_94 ui_X4_move_X4 rfl rfl (by decide) fl_X4_move_26 rfl rfl ?_
        refine x_iload_n E 2 dX4_move_97 rfl ?_
        refine x_nald E 6 1 dX4_move_98 rfl rfl (by omega) (by decide) ?_
        refine x_niadd E dX4_move_99 ?_
        refine x_istore E [(4, .int (nI (r + (gr g)))), (3, .int (nI c)), (2, .int (nI g)), (0, .ref r0), (1, .int mo)] dX4_move_100 (by decide) rfl ?_
        refine x_iload_n E 1 dX4_move_102 rfl ?_
        refine x_aload_n E 3 dX4_move_103 rfl ?_
        refine x_get E 0 8 dX4_move_104 ui_X4_move_X4 rfl rfl (by decide) fl_X4_move_29 rfl rfl ?_
        refine x_iload_n E 2 dX4_move_107 rfl ?_
        refine x_nald E 7 1 dX4_move_108 rfl rfl (by omega) (by decide) ?_
        refine x_niadd E dX4_move_109 ?_
        refine x_istore_n E [(3, .int (nI (c + (gb g)))), (4, .int (nI (r + (gr g)))), (2, .int (nI g)), (0, .ref r0), (1, .int mo)] dX4_move_110 (by decide) rfl ?_
        refine x_iinc E 2 [(2, .int (nI (g + 1))), (3, .int (nI (c + (gb g)))), (4, .int (nI (r + (gr g)))), (0, .ref r0), (1, .int mo)] dX4_move_111 rfl (nI_add _ _) (by decide) rfl ?_
        refine x_goto E 60 dX4_move_114 (by decide) ?_
        refine x_lv [2, 1, 0, 3, 4] rfl ?_
        exact ih (g + 1) _ _ (by omega) (by rw [smN_s]; omega) (by rw [← e3, mvL_s, if_neg h88])
  refine x_aload_n E 0 dX4_move_0 rfl ?_
  refine x_iconst E (v := nI 0) dX4_move_1 (by decide) ?_
  refine x_put E 0 19 [(r0, .inr (4, [.ref d0, .ref d1, .ref d2, .ref d3, .ref d4, .int (nI kn), .int (nI mv), .ref d5, .ref d6, .int (nI ng), .ref d7, .ref d8, .ref d9, .int (nI nr), .ref d10, .int (nI fc), .int (if false = true then 1 else 0), .int (nI rp), .int bad, .int (nI 0), .int (nI sr), .int (nI sb), .int (nI at9)])), (d0, .inl (cI, 16384, .inl (uf B))), (d1, .inl (cI, 2, .inl (nf z))), (d2, .inl (cI, 600, .inl (nf S))), (d3, .inl (cI, 600, .inl (nf Ln))), (d4, .inl (cI, 38400, .inl (uf K))), (d5, .inl (cI, 600, .inl (nf gr))), (d6, .inl (cI, 600, .inl (nf gb))), (d7, .inl (cI, 16, .inl (nf nS))), (d8, .inl (cI, 16, .inl (nf nL))), (d9, .inl (cI, 1024, .inl (uf nK))), (d10, .inl (cI, 64, .inl (uf F)))] dX4_move_2 ui_X4_move_X4 tyX4_ok nmX4 rfl rfl (by decide) fl_X4_move_48 rfl rfl rfl rfl (Nat.le_of_ble_eq_true rfl) rfl ?_
  refine x_aload_n E 0 dX4_move_5 rfl ?_
  refine x_get E 0 16 dX4_move_6 ui_X4_move_X4 rfl rfl (by decide) fl_X4_move_52 rfl rfl ?_
  refine x_qif_ne E 48 dX4_move_9 (by decide) (fun h => False.elim (by cases h)) (fun h9 => ?_)
  refine x_aload_n E 0 dX4_move_12 rfl ?_
  refine x_get E 0 13 dX4_move_13 ui_X4_move_X4 rfl rfl (by decide) fl_X4_move_59 rfl rfl ?_
  refine x_nif_gt E 48 dX4_move_16 (by decide) (by omega) (fun h => False.elim (by omega)) (fun h16 => ?_)
  refine x_aload_n E 0 dX4_move_19 rfl ?_
  refine x_get E 0 1 dX4_move_20 ui_X4_move_X4 rfl rfl (by decide) fl_X4_move_13 rfl rfl ?_
  refine x_iconst E (v := nI 0) dX4_move_23 (by decide) ?_
  refine x_nald E 2 1 dX4_move_24 rfl rfl (by omega) (by decide) ?_
  refine x_aload_n E 0 dX4_move_25 rfl ?_
  refine x_get E 0 1 dX4_move_26 ui_X4_move_X4 rfl rfl (by decide) fl_X4_move_13 rfl rfl ?_
  refine x_iconst E (v := nI 1) dX4_move_29 (by decide) ?_
  refine x_nald E 2 1 dX4_move_30 rfl rfl (by omega) (by decide) ?_
  refine x_ncmp_ne E 48 dX4_move_31 (by decide) (by omega) (by omega) (fun h => absurd h (fun h => h hzz)) (fun h31 => ?_)
  refine x_aload_n E 0 dX4_move_34 rfl ?_
  refine x_iconst E (v := nI 0) dX4_move_35 (by decide) ?_
  refine x_aload_n E 0 dX4_move_36 rfl ?_
  refine x_get E 0 1 dX4_move_37 ui_X4_move_X4 rfl rfl (by decide) fl_X4_move_13 rfl rfl ?_
  refine x_iconst E (v := nI 0) dX4_move_40 (by decide) ?_
  refine x_nald E 2 1 dX4_move_41 rfl rfl (by omega) (by decide) ?_
  refine x_cV E [.int (nI 0), .int (nI (z 0))] [] [.int (if arS B z 0 ((z 0) - 0) = true then 1 else 0)] [(r0, .inr (4, [.ref d0, .ref d1, .ref d2, .ref d3, .ref d4, .int (nI kn), .int (nI mv), .ref d5, .ref d6, .int (nI ng), .ref d7, .ref d8, .ref d9, .int (nI nr), .ref d10, .int (nI fc), .int (if false = true then 1 else 0), .int (nI rp), .int bad, .int (nI 0), .int (nI sr), .int (nI sb), .int (nI at9)])), (d0, .inl (cI, 16384, .inl (uf B))), (d1, .inl (cI, 2, .inl (nf z))), (d2, .inl (cI, 600, .inl (nf S))), (d3, .inl (cI, 600, .inl (nf Ln))), (d4, .inl (cI, 38400, .inl (uf K))), (d5, .inl (cI, 600, .inl (nf gr))), (d6, .inl (cI, 600, .inl (nf gb))), (d7, .inl (cI, 16, .inl (nf nS))), (d8, .inl (cI, 16, .inl (nf nL))), (d9, .inl (cI, 1024, .inl (uf nK))), (d10, .inl (cI, 64, .inl (uf F)))] (c_X4_areSame l D cB cI cZ cJ r0 d0 d1 d2 d3 d4 d5 d6 d7 d8 d9 d10 kn mv ng nr fc false rp bad 0 sr sb at9 B z S Ln K gr gb nS nL nK F 0 (z 0) (by omega) (by omega) (by omega) (by omega)) 0 rfl rfl (cwV 2 hts gX4_move_X4_areSame rfl rfl rfl (by decide +kernel) ⟨Nat.le_of_ble_eq_true rfl, Nat.le_of_ble_eq_true rfl⟩) [0, 1, 2, 3, 4, 5, 6, 7, 8, 9, 10, 11] [] rfl rfl (by decide) (by decide) (by decide) [0, 1, 2, 3, 4, 5, 6, 7, 8, 9, 10, 11] (by decide) rfl rfl (Nat.le_of_ble_eq_true rfl) dX4_move_42 ⟨Nat.zero_le _, Nat.zero_le _⟩ rfl rfl ?_
  refine x_qif_ne E 50 dX4_move_45 (by decide) (fun h45 => ?_) (fun h => False.elim (by rw [has] at h; cases h))
  refine x_iconst E (v := nI 0) dX4_move_50 (by decide) ?_
  refine x_istore_n E [(2, .int (nI 0)), (0, .ref r0), (1, .int mo)] dX4_move_51 (by decide) rfl ?_
  refine x_iconst E (v := nI 0) dX4_move_52 (by decide) ?_
  refine x_istore_n E [(3, .int (nI 0)), (2, .int (nI 0)), (0, .ref r0), (1, .int mo)] dX4_move_53 (by decide) rfl ?_
  refine x_aload_n E 2 dX4_move_54 rfl ?_
  refine x_get E 0 6 dX4_move_55 ui_X4_move_X4 rfl rfl (by decide) fl_X4_move_87 rfl rfl ?_
  refine x_istore E [(4, .int (nI mv)), (3, .int (nI 0)), (2, .int (nI 0)), (0, .ref r0), (1, .int mo)] dX4_move_58 (by decide) rfl ?_
  exact cnt ng 0 0 mv (by omega) rfl rfl
