abbrev rmX4_endGroup : Room := { frames := 3, cells := 0, slots := 0, locals := 67 }
theorem fl_X4_endGroup_59 : Cond.fieldLink RX4 59 "MirrorLogModel" "newRows" "I" ∈ wsX4_endGroup := by decide +kernel
theorem ui_X4_endGroup_X4 : ∀ w ∈ wsX40, w ∈ wsX4_endGroup := by decide +kernel
theorem fl_X4_endGroup_52 : Cond.fieldLink RX4 52 "MirrorLogModel" "shut" "Z" ∈ wsX4_endGroup := by decide +kernel
theorem fl_X4_endGroup_13 : Cond.fieldLink RX4 13 "MirrorLogModel" "sizes" "[I" ∈ wsX4_endGroup := by decide +kernel
theorem fl_X4_endGroup_35 : Cond.fieldLink RX4 35 "MirrorLogModel" "newLengths" "[I" ∈ wsX4_endGroup := by decide +kernel
theorem fl_X4_endGroup_48 : Cond.fieldLink RX4 48 "MirrorLogModel" "thrown" "I" ∈ wsX4_endGroup := by decide +kernel
theorem fl_X4_endGroup_70 : Cond.fieldLink RX4 70 "MirrorLogModel" "at" "I" ∈ wsX4_endGroup := by decide +kernel
theorem fl_X4_endGroup_26 : Cond.fieldLink RX4 26 "MirrorLogModel" "groupRows" "[I" ∈ wsX4_endGroup := by decide +kernel
theorem fl_X4_endGroup_84 : Cond.fieldLink RX4 84 "MirrorLogModel" "groups" "I" ∈ wsX4_endGroup := by decide +kernel
theorem fl_X4_endGroup_29 : Cond.fieldLink RX4 29 "MirrorLogModel" "groupBytes" "[I" ∈ wsX4_endGroup := by decide +kernel
theorem fl_X4_endGroup_62 : Cond.fieldLink RX4 62 "MirrorLogModel" "known" "I" ∈ wsX4_endGroup := by decide +kernel
theorem fl_X4_endGroup_16 : Cond.fieldLink RX4 16 "MirrorLogModel" "seconds" "[I" ∈ wsX4_endGroup := by decide +kernel
theorem fl_X4_endGroup_32 : Cond.fieldLink RX4 32 "MirrorLogModel" "newSeconds" "[I" ∈ wsX4_endGroup := by decide +kernel
theorem fl_X4_endGroup_19 : Cond.fieldLink RX4 19 "MirrorLogModel" "lengths" "[I" ∈ wsX4_endGroup := by decide +kernel
theorem fl_X4_endGroup_38 : Cond.fieldLink RX4 38 "MirrorLogModel" "newContents" "[I" ∈ wsX4_endGroup := by decide +kernel
theorem fl_X4_endGroup_23 : Cond.fieldLink RX4 23 "MirrorLogModel" "contents" "[I" ∈ wsX4_endGroup := by decide +kernel
theorem rowL_e (num sec len : Nat) (g : Nat → UInt8) (p : Nat) : rowL num sec len g p = (u8 (nI len) :: beL (nI sec) 4) ++ (conL g p len ++ beL (nI num) 2) := rfl
set_option maxRecDepth 100000 in
set_option maxHeartbeats 4000000 in
theorem c_X4_endGroup_no (l : Launch) (D : va_G) (cB cI cZ cJ : ClassId) (r0 : Nat) (d0 : Nat) (d1 : Nat) (d2 : Nat) (d3 : Nat) (d4 : Nat) (d5 : Nat) (d6 : Nat) (d7 : Nat) (d8 : Nat) (d9 : Nat) (d10 : Nat) (kn : Nat) (mv : Nat) (ng : Nat) (nr : Nat) (fc : Nat) (sh : Bool) (rp : Nat) (bad : Int32) (th : Nat) (sr : Nat) (sb : Nat) (at9 : Nat) (B : Nat → UInt8) (z : Nat → Nat) (S : Nat → Nat) (Ln : Nat → Nat) (K : Nat → UInt8) (gr : Nat → Nat) (gb : Nat → Nat) (nS : Nat → Nat) (nL : Nat → Nat) (nK : Nat → UInt8) (F : Nat → UInt8) (hnr : nr ≤ 16) (hz0 : z 0 ≤ 8192) (hz1 : z 1 ≤ 8192) (hsz : 6 + rsz nL 0 nr < 2 ^ 30) (hno : sh = true ∨ nr = 0 ∨ 8192 < z 0 + (6 + rsz nL 0 nr) ∨ 8192 < z 1 + (6 + rsz nL 0 nr)) : Ct l D vwCl (tyl cB cI cZ cJ) yX4_endGroup wsX4_endGroup rmX4_endGroup [.ref r0] [(r0, .inr (4, [.ref d0, .ref d1, .ref d2, .ref d3, .ref d4, .int (nI kn), .int (nI mv), .ref d5, .ref d6, .int (nI ng), .ref d7, .ref d8, .ref d9, .int (nI nr), .ref d10, .int (nI fc), .int (if sh = true then 1 else 0), .int (nI rp), .int bad, .int (nI th), .int (nI sr), .int (nI sb), .int (nI at9)])), (d0, .inl (cI, 16384, .inl (uf B))), (d1, .inl (cI, 2, .inl (nf z))), (d2, .inl (cI, 600, .inl (nf S))), (d3, .inl (cI, 600, .inl (nf Ln))), (d4, .inl (cI, 38400, .inl (uf K))), (d5, .inl (cI, 600, .inl (nf gr))), (d6, .inl (cI, 600, .inl (nf gb))), (d7, .inl (cI, 16, .inl (nf nS))), (d8, .inl (cI, 16, .inl (nf nL))), (d9, .inl (cI, 1024, .inl (uf nK))), (d10, .inl (cI, 64, .inl (uf F)))] (some (.int (nI 0))) [(r0, .inr (4, [.ref d0, .ref d1, .ref d2, .ref d3, .ref d4, .int (nI kn), .int (nI mv), .ref d5, .ref d6, .int (nI ng), .ref d7, .ref d8, .ref d9, .int (nI nr), .ref d10, .int (nI fc), .int (if sh = true then 1 else 0), .int (nI rp), .int bad, .int (nI 0), .int (nI sr), .int (nI sb), .int (nI at9)])), (d0, .inl (cI, 16384, .inl (uf B))), (d1, .inl (cI, 2, .inl (nf z))), (d2, .inl (cI, 600, .inl (nf S))), (d3, .inl (cI, 600, .inl (nf Ln))), (d4, .inl (cI, 38400, .inl (uf K))), (d5, .inl (cI, 600, .inl (nf gr))), (d6, .inl (cI, 600, .inl (nf gb))), (d7, .inl (cI, 16, .inl (nf nS))), (d8, .inl (cI, 16, .inl (nf nL))), (d9, .inl (cI, 1024, .inl (uf nK))), (d10, .inl (cI, 64, .inl (uf F)))] := by
  refine x_start (cc := cX4_endGroup) (maxL := 5) (ret := (some .boolean)) (by decide) rfl (Nat.le_of_ble_eq_true rfl) ?_
  intro xp xe xs xm xb xt xc xA E hr hlocks hnm
  obtain ⟨-, -, -, hown, hts, hK, hA⟩ := id E
  refine x_lve (lv' := [(0, .ref r0)]) rfl ?_
  have sizes : ∀ (k r a : Nat), r + k = nr → a + rsz nL r k = 6 + rsz nL 0 nr → Xs xp l xe rmX4_endGroup xs xm ([.ref r0] : List Value).toArray xb xt xc D vwCl xA 5 0 0 (MQ xb (CQ D vwCl (tyl cB cI cZ cJ) xA (fun r u => r = (some (.int (nI 0))) ∧ u = [(r0, .inr (4, [.ref d0, .ref d1, .ref d2, .ref d3, .ref d4, .int (nI kn), .int (nI mv), .ref d5, .ref d6, .int (nI ng), .ref d7, .ref d8, .ref d9, .int (nI nr), .ref d10, .int (nI fc), .int (if sh = true then 1 else 0), .int (nI rp), .int bad, .int (nI 0), .int (nI sr), .int (nI sb), .int (nI at9)])), (d0, .inl (cI, 16384, .inl (uf B))), (d1, .inl (cI, 2, .inl (nf z))), (d2, .inl (cI, 600, .inl (nf S))), (d3, .inl (cI, 600, .inl (nf Ln))), (d4, .inl (cI, 38400, .inl (uf K))), (d5, .inl (cI, 600, .inl (nf gr))), (d6, .inl (cI, 600, .inl (nf gb))), (d7, .inl (cI, 16, .inl (nf nS))), (d8, .inl (cI, 16, .inl (nf nL))), (d9, .inl (cI, 1024, .inl (uf nK))), (d10, .inl (cI, 64, .inl (uf F)))])) ([.ref r0] : List Value).toArray xs 0 0 xA) [(r0, .inr (4, [.ref d0, .ref d1, .ref d2, .ref d3, .ref d4, .int (nI kn), .int (nI mv), .ref d5, .ref d6, .int (nI ng), .ref d7, .ref d8, .ref d9, .int (nI nr), .ref d10, .int (nI fc), .int (if sh = true then 1 else 0), .int (nI rp), .int bad, .int (nI 0), .int (nI sr), .int (nI sb), .int (nI at9)])), (d0, .inl (cI, 16384, .inl (uf B))), (d1, .inl (cI, 2, .inl (nf z))), (d2, .inl (cI, 600, .inl (nf S))), (d3, .inl (cI, 600, .inl (nf Ln))), (d4, .inl (cI, 38400, .inl (uf K))), (d5, .inl (cI, 600, .inl (nf gr))), (d6, .inl (cI, 600, .inl (nf gb))), (d7, .inl (cI, 16, .inl (nf nS))), (d8, .inl (cI, 16, .inl (nf nL))), (d9, .inl (cI, 1024, .inl (uf nK))), (d10, .inl (cI, 64, .inl (uf F)))] [(2, .int (nI r)), (1, .int (nI a)), (0, .ref r0)] 10 [] := by
    intro k
    induction k with
    | zero =>
      intro r a e1 e2
      have e2 : a = 6 + rsz nL 0 nr := e2
      have e1 : r = nr := e1
      subst e2
      refine x_iload_n E 0 dX4_endGroup_10 rfl ?_
      refine x_aload_n E 2 dX4_endGroup_11 rfl ?_
      refine x_get E 0 13 dX4_endGroup_12 ui_X4_endGroup_X4 rfl rfl (by decide) fl_X4_endGroup_59 rfl rfl ?_
      refine x_ncmp_ge E 36 dX4_endGroup_15 (by decide) (by omega) (by omega) (fun h15 => ?_) (fun h => False.elim (by omega))
      refine x_aload_n E 2 dX4_endGroup_36 rfl ?_
      refine x_get E 0 16 dX4_endGroup_37 ui_X4_endGroup_X4 rfl rfl (by decide) fl_X4_endGroup_52 rfl rfl ?_
      refine x_qif_ne E 78 dX4_endGroup_40 (by decide) (fun h40 => ?_) (fun h40 => ?_)
      · refine x_iconst E (v := nI 0) dX4_endGroup_78 (by decide) ?_
        exact x_zret E hr hlocks dX4_endGroup_79 rfl ⟨rfl, rfl⟩
      · refine x_aload_n E 2 dX4_endGroup_43 rfl ?_
        refine x_get E 0 13 dX4_endGroup_44 ui_X4_endGroup_X4 rfl rfl (by decide) fl_X4_endGroup_59 rfl rfl ?_
        refine x_nif_eq E 78 dX4_endGroup_47 (by decide) (by omega) (fun h47 => ?_) (fun h47 => ?_)
        · refine x_iconst E (v := nI 0) dX4_endGroup_78 (by decide) ?_
          exact x_zret E hr hlocks dX4_endGroup_79 rfl ⟨rfl, rfl⟩
        · refine x_aload_n E 2 dX4_endGroup_50 rfl ?_
          refine x_get E 0 1 dX4_endGroup_51 ui_X4_endGroup_X4 rfl rfl (by decide) fl_X4_endGroup_13 rfl rfl ?_
          refine x_iconst E (v := nI 0) dX4_endGroup_54 (by decide) ?_
          refine x_nald E 2 1 dX4_endGroup_55 rfl rfl (by omega) (by decide) ?_
          refine x_iload_n E 1 dX4_endGroup_56 rfl ?_
          refine x_niadd E dX4_endGroup_57 ?_
          refine x_sipush E (v := nI 8192) dX4_endGroup_58 (by decide) ?_
          refine x_ncmp_gt E 78 dX4_endGroup_61 (by decide) (by omega) (by decide) (fun h61 => ?_) (fun h61 => ?_)
          · refine x_iconst E (v := nI 0) dX4_endGroup_78 (by decide) ?_
            exact x_zret E hr hlocks dX4_endGroup_79 rfl ⟨rfl, rfl⟩
          · refine x_aload_n E 2 dX4_endGroup_64 rfl ?_
            refine x_get E 0 1 dX4_endGroup_65 ui_X4_endGroup_X4 rfl rfl (by decide) fl_X4_endGroup_13 rfl rfl ?_
            refine x_iconst E (v := nI 1) dX4_endGroup_68 (by decide) ?_
            refine x_nald E 2 1 dX4_endGroup_69 rfl rfl (by omega) (by decide) ?_
            refine x_iload_n E 1 dX4_endGroup_70 rfl ?_
            refine x_niadd E dX4_endGroup_71 ?_
            refine x_sipush E (v := nI 8192) dX4_endGroup_72 (by decide) ?_
            refine x_ncmp_le E 80 dX4_endGroup_75 (by decide) (by omega) (by decide) (fun h => False.elim (by rcases hno with q | q | q | q; exact absurd (h40.symm.trans q) (by decide); omega; omega; omega)) (fun h75 => ?_)
            refine x_iconst E (v := nI 0) dX4_endGroup_78 (by decide) ?_
            exact x_zret E hr hlocks dX4_endGroup_79 rfl ⟨rfl, rfl⟩
    | succ k ih =>
      intro r a e1 e2
      rw [rsz_s] at e2
      refine x_iload_n E 0 dX4_endGroup_10 rfl ?_
      refine x_aload_n E 2 dX4_endGroup_11 rfl ?_
      refine x_get E 0 13 dX4_endGroup_12 ui_X4_endGroup_X4 rfl rfl (by decide) fl_X4_endGroup_59 rfl rfl ?_
      refine x_ncmp_ge E 36 dX4_endGroup_15 (by decide) (by omega) (by omega) (fun h => False.elim (by omega)) (fun h15 => ?_)
      refine x_iload_n E 1 dX4_endGroup_18 rfl ?_
      refine x_bipush E (v := nI 11) dX4_endGroup_19 (by decide) ?_
      refine x_aload_n E 2 dX4_endGroup_21 rfl ?_
      refine x_get E 0 11 dX4_endGroup_22 ui_X4_endGroup_X4 rfl rfl (by decide) fl_X4_endGroup_35 rfl rfl ?_
      refine x_iload_n E 0 dX4_endGroup_25 rfl ?_
      refine x_nald E 9 1 dX4_endGroup_26 rfl rfl (by omega) (by decide) ?_
      refine x_niadd E dX4_endGroup_27 ?_
      refine x_niadd E dX4_endGroup_28 ?_
      refine x_istore_n E [(1, .int (nI (a + (11 + (nL r))))), (2, .int (nI r)), (0, .ref r0)] dX4_endGroup_29 (by decide) rfl ?_
      refine x_iinc E 1 [(2, .int (nI (r + 1))), (1, .int (nI (a + (11 + (nL r))))), (0, .ref r0)] dX4_endGroup_30 rfl (nI_add _ _) (by decide) rfl ?_
      refine x_goto E 10 dX4_endGroup_33 (by decide) ?_
      refine x_lv [0, 1, 2] rfl ?_
      exact ih (r + 1) _ (by omega) (by omega)
  refine x_aload_n E 0 dX4_endGroup_0 rfl ?_
  refine x_iconst E (v := nI 0) dX4_endGroup_1 (by decide) ?_
  refine x_put E 0 19 [(r0, .inr (4, [.ref d0, .ref d1, .ref d2, .ref d3, .ref d4, .int (nI kn), .int (nI mv), .ref d5, .ref d6, .int (nI ng), .ref d7, .ref d8, .ref d9, .int (nI nr), .ref d10, .int (nI fc), .int (if sh = true then 1 else 0), .int (nI rp), .int bad, .int (nI 0), .int (nI sr), .int (nI sb), .int (nI at9)])), (d0, .inl (cI, 16384, .inl (uf B))), (d1, .inl (cI, 2, .inl (nf z))), (d2, .inl (cI, 600, .inl (nf S))), (d3, .inl (cI, 600, .inl (nf Ln))), (d4, .inl (cI, 38400, .inl (uf K))), (d5, .inl (cI, 600, .inl (nf gr))), (d6, .inl (cI, 600, .inl (nf gb))), (d7, .inl (cI, 16, .inl (nf nS))), (d8, .inl (cI, 16, .inl (nf nL))), (d9, .inl (cI, 1024, .inl (uf nK))), (d10, .inl (cI, 64, .inl (uf F)))] dX4_endGroup_2 ui_X4_endGroup_X4 tyX4_ok nmX4 rfl rfl (by decide) fl_X4_endGroup_48 rfl rfl rfl rfl (Nat.le_of_ble_eq_true rfl) rfl ?_
  refine x_bipush E (v := nI 6) dX4_endGroup_5 (by decide) ?_
  refine x_istore_n E [(1, .int (nI 6)), (0, .ref r0)] dX4_endGroup_7 (by decide) rfl ?_
  refine x_iconst E (v := nI 0) dX4_endGroup_8 (by decide) ?_
  refine x_istore_n E [(2, .int (nI 0)), (1, .int (nI 6)), (0, .ref r0)] dX4_endGroup_9 (by decide) rfl ?_
  exact sizes nr 0 6 (by omega) rfl
set_option maxRecDepth 100000 in
set_option maxHeartbeats 4000000 in
theorem c_X4_endGroup_ok (l : Launch) (D : va_G) (cB cI cZ cJ : ClassId) (r0 : Nat) (d0 : Nat) (d1 : Nat) (d2 : Nat) (d3 : Nat) (d4 : Nat) (d5 : Nat) (d6 : Nat) (d7 : Nat) (d8 : Nat) (d9 : Nat) (d10 : Nat) (kn : Nat) (mv : Nat) (ng : Nat) (nr : Nat) (fc : Nat) (sh : Bool) (rp : Nat) (bad : Int32) (th : Nat) (sr : Nat) (sb : Nat) (at9 : Nat) (B : Nat → UInt8) (z : Nat → Nat) (S : Nat → Nat) (Ln : Nat → Nat) (K : Nat → UInt8) (gr : Nat → Nat) (gb : Nat → Nat) (nS : Nat → Nat) (nL : Nat → Nat) (nK : Nat → UInt8) (F : Nat → UInt8) (hnr : nr ≤ 16) (hn0 : 0 < nr) (hkr : kn + nr ≤ 600) (hL : ∀ i, i < nr → nL i ≤ 64) (h1 : z 0 + (6 + rsz nL 0 nr) ≤ 8192) (h2 : z 1 + (6 + rsz nL 0 nr) ≤ 8192) (hng : ng < 600) : Ct l D vwCl (tyl cB cI cZ cJ) yX4_endGroup wsX4_endGroup rmX4_endGroup [.ref r0] [(r0, .inr (4, [.ref d0, .ref d1, .ref d2, .ref d3, .ref d4, .int (nI kn), .int (nI mv), .ref d5, .ref d6, .int (nI ng), .ref d7, .ref d8, .ref d9, .int (nI nr), .ref d10, .int (nI fc), .int (if false = true then 1 else 0), .int (nI rp), .int bad, .int (nI th), .int (nI sr), .int (nI sb), .int (nI at9)])), (d0, .inl (cI, 16384, .inl (uf B))), (d1, .inl (cI, 2, .inl (nf z))), (d2, .inl (cI, 600, .inl (nf S))), (d3, .inl (cI, 600, .inl (nf Ln))), (d4, .inl (cI, 38400, .inl (uf K))), (d5, .inl (cI, 600, .inl (nf gr))), (d6, .inl (cI, 600, .inl (nf gb))), (d7, .inl (cI, 16, .inl (nf nS))), (d8, .inl (cI, 16, .inl (nf nL))), (d9, .inl (cI, 1024, .inl (uf nK))), (d10, .inl (cI, 64, .inl (uf F)))] (some (.int (nI 1))) [(r0, .inr (4, [.ref d0, .ref d1, .ref d2, .ref d3, .ref d4, .int (nI (kn + nr)), .int (nI mv), .ref d5, .ref d6, .int (nI (ng + 1)), .ref d7, .ref d8, .ref d9, .int (nI 0), .ref d10, .int (nI fc), .int (if false = true then 1 else 0), .int (nI rp), .int bad, .int (nI 0), .int (nI sr), .int (nI sb), .int (nI (z 0 + (rsz nL 0 nr + 6)))])), (d0, .inl (cI, 16384, .inl (uf (app2 B (z 0) (nwB nS nL nK nr 0 kn ++ endB nr (nwSm nS nL nK nr 0 kn (nI 0))))))), (d1, .inl (cI, 2, .inl (nf (va_up (va_up z 0 (z 0 + (rsz nL 0 nr + 6))) 1 (z 0 + (rsz nL 0 nr + 6)))))), (d2, .inl (cI, 600, .inl (nf (mvN nS nr 0 kn S)))), (d3, .inl (cI, 600, .inl (nf (mvN nL nr 0 kn Ln)))), (d4, .inl (cI, 38400, .inl (uf (mvK nL nK nr 0 kn K)))), (d5, .inl (cI, 600, .inl (nf (va_up gr ng nr)))), (d6, .inl (cI, 600, .inl (nf (va_up gb ng (6 + rsz nL 0 nr))))), (d7, .inl (cI, 16, .inl (nf nS))), (d8, .inl (cI, 16, .inl (nf nL))), (d9, .inl (cI, 1024, .inl (uf nK))), (d10, .inl (cI, 64, .inl (uf F)))] := by
  refine x_start (cc := cX4_endGroup) (maxL := 5) (ret := (some .boolean)) (by decide) rfl (Nat.le_of_ble_eq_true rfl) ?_
  intro xp xe xs xm xb xt xc xA E hr hlocks hnm
  obtain ⟨-, -, -, hown, hts, hK, hA⟩ := id E
  refine x_lve (lv' := [(0, .ref r0)]) rfl ?_
  have rows : ∀ (k i kn' at' : Nat) (s' : Int32) (B' : Nat → UInt8) (S' L' : Nat → Nat) (K' : Nat → UInt8), i + k = nr → kn' + k = kn + nr → at' + rsz nL i k = z 0 + rsz nL 0 nr → app2 B' at' (nwB nS nL nK k i kn') = app2 B (z 0) (nwB nS nL nK nr 0 kn) → nwSm nS nL nK k i kn' s' = nwSm nS nL nK nr 0 kn (nI 0) → mvN nS k i kn' S' = mvN nS nr 0 kn S → mvN nL k i kn' L' = mvN nL nr 0 kn Ln → mvK nL nK k i kn' K' = mvK nL nK nr 0 kn K → Xs xp l xe rmX4_endGroup xs xm ([.ref r0] : List Value).toArray xb xt xc D vwCl xA 5 0 0 (MQ xb (CQ D vwCl (tyl cB cI cZ cJ) xA (fun r u => r = (some (.int (nI 1))) ∧ u = [(r0, .inr (4, [.ref d0, .ref d1, .ref d2, .ref d3, .ref d4, .int (nI (kn + nr)), .int (nI mv), .ref d5, .ref d6, .int (nI (ng + 1)), .ref d7, .ref d8, .ref d9, .int (nI 0), .ref d10, .int (nI fc), .int (if false = true then 1 else 0), .int (nI rp), .int bad, .int (nI 0), .int (nI sr), .int (nI sb), .int (nI (z 0 + (rsz nL 0 nr + 6)))])), (d0, .inl (cI, 16384, .inl (uf (app2 B (z 0) (nwB nS nL nK nr 0 kn ++ endB nr (nwSm nS nL nK nr 0 kn (nI 0))))))), (d1, .inl (cI, 2, .inl (nf (va_up (va_up z 0 (z 0 + (rsz nL 0 nr + 6))) 1 (z 0 + (rsz nL 0 nr + 6)))))), (d2, .inl (cI, 600, .inl (nf (mvN nS nr 0 kn S)))), (d3, .inl (cI, 600, .inl (nf (mvN nL nr 0 kn Ln)))), (d4, .inl (cI, 38400, .inl (uf (mvK nL nK nr 0 kn K)))), (d5, .inl (cI, 600, .inl (nf (va_up gr ng nr)))), (d6, .inl (cI, 600, .inl (nf (va_up gb ng (6 + rsz nL 0 nr))))), (d7, .inl (cI, 16, .inl (nf nS))), (d8, .inl (cI, 16, .inl (nf nL))), (d9, .inl (cI, 1024, .inl (uf nK))), (d10, .inl (cI, 64, .inl (uf F)))])) ([.ref r0] : List Value).toArray xs 0 0 xA) [(r0, .inr (4, [.ref d0, .ref d1, .ref d2, .ref d3, .ref d4, .int (nI kn'), .int (nI mv), .ref d5, .ref d6, .int (nI ng), .ref d7, .ref d8, .ref d9, .int (nI nr), .ref d10, .int (nI fc), .int (if false = true then 1 else 0), .int (nI rp), .int bad, .int (nI 0), .int (nI sr), .int (nI sb), .int (nI at')])), (d0, .inl (cI, 16384, .inl (uf B'))), (d1, .inl (cI, 2, .inl (nf z))), (d2, .inl (cI, 600, .inl (nf S'))), (d3, .inl (cI, 600, .inl (nf L'))), (d4, .inl (cI, 38400, .inl (uf K'))), (d5, .inl (cI, 600, .inl (nf gr))), (d6, .inl (cI, 600, .inl (nf gb))), (d7, .inl (cI, 16, .inl (nf nS))), (d8, .inl (cI, 16, .inl (nf nL))), (d9, .inl (cI, 1024, .inl (uf nK))), (d10, .inl (cI, 64, .inl (uf F)))] [(3, .int (nI i)), (2, .int s'), (1, .int (nI (6 + rsz nL 0 nr))), (0, .ref r0)] 94 [] := by
    intro k
    induction k with
    | zero =>
      intro i kn' at' s' B' S' L' K' e1 e2 e3 e4 e5 e6 e7 e8
      have e2 : kn' = kn + nr := e2
      have e3 : at' = z 0 + rsz nL 0 nr := e3
      have e4 : B' = app2 B (z 0) (nwB nS nL nK nr 0 kn) := e4
      have e5 : s' = nwSm nS nL nK nr 0 kn (nI 0) := e5
      have e6 : S' = mvN nS nr 0 kn S := e6
      have e7 : L' = mvN nL nr 0 kn Ln := e7
      have e8 : K' = mvK nL nK nr 0 kn K := e8
      subst e2
      subst e3
      subst e4
      subst e5
      subst e6
      subst e7
      subst e8
      refine x_iload_n E 0 dX4_endGroup_94 rfl ?_
      refine x_aload_n E 3 dX4_endGroup_95 rfl ?_
      refine x_get E 0 13 dX4_endGroup_96 ui_X4_endGroup_X4 rfl rfl (by decide) fl_X4_endGroup_59 rfl rfl ?_
      refine x_ncmp_ge E 291 dX4_endGroup_99 (by decide) (by omega) (by omega) (fun h99 => ?_) (fun h => False.elim (by omega))
      refine x_aload_n E 3 dX4_endGroup_291 rfl ?_
      refine x_iload_n E 1 dX4_endGroup_292 rfl ?_
      refine x_iconst E (v := nI 0) dX4_endGroup_293 (by decide) ?_
      refine x_cV E [.int (nwSm nS nL nK nr 0 kn (nI 0)), .int (nI 0)] [] [.int (sm (nwSm nS nL nK nr 0 kn (nI 0)) (u8 (nI 0)))] [(r0, .inr (4, [.ref d0, .ref d1, .ref d2, .ref d3, .ref d4, .int (nI (kn + nr)), .int (nI mv), .ref d5, .ref d6, .int (nI ng), .ref d7, .ref d8, .ref d9, .int (nI nr), .ref d10, .int (nI fc), .int (if false = true then 1 else 0), .int (nI rp), .int bad, .int (nI 0), .int (nI sr), .int (nI sb), .int (nI ((z 0 + rsz nL 0 nr) + 1))])), (d0, .inl (cI, 16384, .inl (uf (va_up (va_up (app2 B (z 0) (nwB nS nL nK nr 0 kn)) (z 0 + rsz nL 0 nr) (u8 (nI 0))) (8192 + (z 0 + rsz nL 0 nr)) (u8 (nI 0)))))), (d1, .inl (cI, 2, .inl (nf z))), (d2, .inl (cI, 600, .inl (nf (mvN nS nr 0 kn S)))), (d3, .inl (cI, 600, .inl (nf (mvN nL nr 0 kn Ln)))), (d4, .inl (cI, 38400, .inl (uf (mvK nL nK nr 0 kn K)))), (d5, .inl (cI, 600, .inl (nf gr))), (d6, .inl (cI, 600, .inl (nf gb))), (d7, .inl (cI, 16, .inl (nf nS))), (d8, .inl (cI, 16, .inl (nf nL))), (d9, .inl (cI, 1024, .inl (uf nK))), (d10, .inl (cI, 64, .inl (uf F)))] (c_X4_write l D cB cI cZ cJ r0 d0 d1 d2 d3 d4 d5 d6 d7 d8 d9 d10 (kn + nr) mv ng nr fc false rp bad 0 sr sb (z 0 + rsz nL 0 nr) (app2 B (z 0) (nwB nS nL nK nr 0 kn)) z (mvN nS nr 0 kn S) (mvN nL nr 0 kn Ln) (mvK nL nK nr 0 kn K) gr gb nS nL nK F (nwSm nS nL nK nr 0 kn (nI 0)) (nI 0) (u8 (nI 0)) (by omega) (u8_v (by omega))) 0 rfl rfl (cwV 2 hts gX4_endGroup_X4_write rfl rfl rfl (by decide +kernel) ⟨Nat.le_of_ble_eq_true rfl, Nat.le_of_ble_eq_true rfl⟩) [0, 1, 2, 3, 4, 5, 6, 7, 8, 9, 10, 11] [] rfl rfl (by decide) (by decide) (by decide) [0, 1, 2, 3, 4, 5, 6, 7, 8, 9, 10, 11] (by decide) rfl rfl (Nat.le_of_ble_eq_true rfl) dX4_endGroup_294 ⟨Nat.zero_le _, Nat.zero_le _⟩ rfl rfl ?_
      refine x_istore_n E [(2, .int (sm (nwSm nS nL nK nr 0 kn (nI 0)) (u8 (nI 0)))), (3, .int (nI i)), (1, .int (nI (6 + rsz nL 0 nr))), (0, .ref r0)] dX4_endGroup_297 (by decide) rfl ?_
      refine x_aload_n E 3 dX4_endGroup_298 rfl ?_
      refine x_iload_n E 0 dX4_endGroup_299 rfl ?_
      refine x_aload_n E 3 dX4_endGroup_300 rfl ?_
      refine x_get E 0 13 dX4_endGroup_301 ui_X4_endGroup_X4 rfl rfl (by decide) fl_X4_endGroup_59 rfl rfl ?_
      refine x_cV E [.int (sm (nwSm nS nL nK nr 0 kn (nI 0)) (u8 (nI 0))), .int (nI nr)] [] [.int (sm (sm (nwSm nS nL nK nr 0 kn (nI 0)) (u8 (nI 0))) (u8 (nI nr)))] [(r0, .inr (4, [.ref d0, .ref d1, .ref d2, .ref d3, .ref d4, .int (nI (kn + nr)), .int (nI mv), .ref d5, .ref d6, .int (nI ng), .ref d7, .ref d8, .ref d9, .int (nI nr), .ref d10, .int (nI fc), .int (if false = true then 1 else 0), .int (nI rp), .int bad, .int (nI 0), .int (nI sr), .int (nI sb), .int (nI (((z 0 + rsz nL 0 nr) + 1) + 1))])), (d0, .inl (cI, 16384, .inl (uf (va_up (va_up (va_up (va_up (app2 B (z 0) (nwB nS nL nK nr 0 kn)) (z 0 + rsz nL 0 nr) (u8 (nI 0))) (8192 + (z 0 + rsz nL 0 nr)) (u8 (nI 0))) ((z 0 + rsz nL 0 nr) + 1) (u8 (nI nr))) (8192 + ((z 0 + rsz nL 0 nr) + 1)) (u8 (nI nr)))))), (d1, .inl (cI, 2, .inl (nf z))), (d2, .inl (cI, 600, .inl (nf (mvN nS nr 0 kn S)))), (d3, .inl (cI, 600, .inl (nf (mvN nL nr 0 kn Ln)))), (d4, .inl (cI, 38400, .inl (uf (mvK nL nK nr 0 kn K)))), (d5, .inl (cI, 600, .inl (nf gr))), (d6, .inl (cI, 600, .inl (nf gb))), (d7, .inl (cI, 16, .inl (nf nS))), (d8, .inl (cI, 16, .inl (nf nL))), (d9, .inl (cI, 1024, .inl (uf nK))), (d10, .inl (cI, 64, .inl (uf F)))] (c_X4_write l D cB cI cZ cJ r0 d0 d1 d2 d3 d4 d5 d6 d7 d8 d9 d10 (kn + nr) mv ng nr fc false rp bad 0 sr sb ((z 0 + rsz nL 0 nr) + 1) (va_up (va_up (app2 B (z 0) (nwB nS nL nK nr 0 kn)) (z 0 + rsz nL 0 nr) (u8 (nI 0))) (8192 + (z 0 + rsz nL 0 nr)) (u8 (nI 0))) z (mvN nS nr 0 kn S) (mvN nL nr 0 kn Ln) (mvK nL nK nr 0 kn K) gr gb nS nL nK F (sm (nwSm nS nL nK nr 0 kn (nI 0)) (u8 (nI 0))) (nI nr) (u8 (nI nr)) (by omega) (u8_v (by omega))) 0 rfl rfl (cwV 2 hts gX4_endGroup_X4_write rfl rfl rfl (by decide +kernel) ⟨Nat.le_of_ble_eq_true rfl, Nat.le_of_ble_eq_true rfl⟩) [0, 1, 2, 3, 4, 5, 6, 7, 8, 9, 10, 11] [] rfl rfl (by decide) (by decide) (by decide) [0, 1, 2, 3, 4, 5, 6, 7, 8, 9, 10, 11] (by decide) rfl rfl (Nat.le_of_ble_eq_true rfl) dX4_endGroup_304 ⟨Nat.zero_le _, Nat.zero_le _⟩ rfl rfl ?_
      refine x_istore_n E [(2, .int (sm (sm (nwSm nS nL nK nr 0 kn (nI 0)) (u8 (nI 0))) (u8 (nI nr)))), (3, .int (nI i)), (1, .int (nI (6 + rsz nL 0 nr))), (0, .ref r0)] dX4_endGroup_307 (by decide) rfl ?_
      refine x_aload_n E 3 dX4_endGroup_308 rfl ?_
      refine x_iload_n E 0 dX4_endGroup_309 rfl ?_
      refine x_cV E [.int (sm (sm (nwSm nS nL nK nr 0 kn (nI 0)) (u8 (nI 0))) (u8 (nI nr)))] [] [] [(r0, .inr (4, [.ref d0, .ref d1, .ref d2, .ref d3, .ref d4, .int (nI (kn + nr)), .int (nI mv), .ref d5, .ref d6, .int (nI ng), .ref d7, .ref d8, .ref d9, .int (nI nr), .ref d10, .int (nI fc), .int (if false = true then 1 else 0), .int (nI rp), .int bad, .int (nI 0), .int (nI sr), .int (nI sb), .int (nI ((((z 0 + rsz nL 0 nr) + 1) + 1) + 4))])), (d0, .inl (cI, 16384, .inl (uf (app2 (va_up (va_up (va_up (va_up (app2 B (z 0) (nwB nS nL nK nr 0 kn)) (z 0 + rsz nL 0 nr) (u8 (nI 0))) (8192 + (z 0 + rsz nL 0 nr)) (u8 (nI 0))) ((z 0 + rsz nL 0 nr) + 1) (u8 (nI nr))) (8192 + ((z 0 + rsz nL 0 nr) + 1)) (u8 (nI nr))) (((z 0 + rsz nL 0 nr) + 1) + 1) (beL (sm (sm (nwSm nS nL nK nr 0 kn (nI 0)) (u8 (nI 0))) (u8 (nI nr))) 4))))), (d1, .inl (cI, 2, .inl (nf z))), (d2, .inl (cI, 600, .inl (nf (mvN nS nr 0 kn S)))), (d3, .inl (cI, 600, .inl (nf (mvN nL nr 0 kn Ln)))), (d4, .inl (cI, 38400, .inl (uf (mvK nL nK nr 0 kn K)))), (d5, .inl (cI, 600, .inl (nf gr))), (d6, .inl (cI, 600, .inl (nf gb))), (d7, .inl (cI, 16, .inl (nf nS))), (d8, .inl (cI, 16, .inl (nf nL))), (d9, .inl (cI, 1024, .inl (uf nK))), (d10, .inl (cI, 64, .inl (uf F)))] (c_X4_four l D cB cI cZ cJ r0 d0 d1 d2 d3 d4 d5 d6 d7 d8 d9 d10 (kn + nr) mv ng nr fc false rp bad 0 sr sb (((z 0 + rsz nL 0 nr) + 1) + 1) (va_up (va_up (va_up (va_up (app2 B (z 0) (nwB nS nL nK nr 0 kn)) (z 0 + rsz nL 0 nr) (u8 (nI 0))) (8192 + (z 0 + rsz nL 0 nr)) (u8 (nI 0))) ((z 0 + rsz nL 0 nr) + 1) (u8 (nI nr))) (8192 + ((z 0 + rsz nL 0 nr) + 1)) (u8 (nI nr))) z (mvN nS nr 0 kn S) (mvN nL nr 0 kn Ln) (mvK nL nK nr 0 kn K) gr gb nS nL nK F (sm (sm (nwSm nS nL nK nr 0 kn (nI 0)) (u8 (nI 0))) (u8 (nI nr))) (by omega)) 0 rfl rfl (cwV 1 hts gX4_endGroup_X4_four rfl rfl rfl (by decide +kernel) ⟨Nat.le_of_ble_eq_true rfl, Nat.le_of_ble_eq_true rfl⟩) [0, 1, 2, 3, 4, 5, 6, 7, 8, 9, 10, 11] [] rfl rfl (by decide) (by decide) (by decide) [0, 1, 2, 3, 4, 5, 6, 7, 8, 9, 10, 11] (by decide) rfl rfl (Nat.le_of_ble_eq_true rfl) dX4_endGroup_310 ⟨Nat.zero_le _, Nat.zero_le _⟩ rfl rfl ?_
      refine x_aload_n E 3 dX4_endGroup_313 rfl ?_
      refine x_get E 0 1 dX4_endGroup_314 ui_X4_endGroup_X4 rfl rfl (by decide) fl_X4_endGroup_13 rfl rfl ?_
      refine x_iconst E (v := nI 0) dX4_endGroup_317 (by decide) ?_
      refine x_aload_n E 3 dX4_endGroup_318 rfl ?_
      refine x_get E 0 22 dX4_endGroup_319 ui_X4_endGroup_X4 rfl rfl (by decide) fl_X4_endGroup_70 rfl rfl ?_
      refine x_nast E 2 1 [(r0, .inr (4, [.ref d0, .ref d1, .ref d2, .ref d3, .ref d4, .int (nI (kn + nr)), .int (nI mv), .ref d5, .ref d6, .int (nI ng), .ref d7, .ref d8, .ref d9, .int (nI nr), .ref d10, .int (nI fc), .int (if false = true then 1 else 0), .int (nI rp), .int bad, .int (nI 0), .int (nI sr), .int (nI sb), .int (nI ((((z 0 + rsz nL 0 nr) + 1) + 1) + 4))])), (d0, .inl (cI, 16384, .inl (uf (app2 (va_up (va_up (va_up (va_up (app2 B (z 0) (nwB nS nL nK nr 0 kn)) (z 0 + rsz nL 0 nr) (u8 (nI 0))) (8192 + (z 0 + rsz nL 0 nr)) (u8 (nI 0))) ((z 0 + rsz nL 0 nr) + 1) (u8 (nI nr))) (8192 + ((z 0 + rsz nL 0 nr) + 1)) (u8 (nI nr))) (((z 0 + rsz nL 0 nr) + 1) + 1) (beL (sm (sm (nwSm nS nL nK nr 0 kn (nI 0)) (u8 (nI 0))) (u8 (nI nr))) 4))))), (d1, .inl (cI, 2, .inl (nf (va_up z 0 ((((z 0 + rsz nL 0 nr) + 1) + 1) + 4))))), (d2, .inl (cI, 600, .inl (nf (mvN nS nr 0 kn S)))), (d3, .inl (cI, 600, .inl (nf (mvN nL nr 0 kn Ln)))), (d4, .inl (cI, 38400, .inl (uf (mvK nL nK nr 0 kn K)))), (d5, .inl (cI, 600, .inl (nf gr))), (d6, .inl (cI, 600, .inl (nf gb))), (d7, .inl (cI, 16, .inl (nf nS))), (d8, .inl (cI, 16, .inl (nf nL))), (d9, .inl (cI, 1024, .inl (uf nK))), (d10, .inl (cI, 64, .inl (uf F)))] dX4_endGroup_322 rfl rfl (by omega) (by decide) rfl ?_
      refine x_aload_n E 3 dX4_endGroup_323 rfl ?_
      refine x_get E 0 1 dX4_endGroup_324 ui_X4_endGroup_X4 rfl rfl (by decide) fl_X4_endGroup_13 rfl rfl ?_
      refine x_iconst E (v := nI 1) dX4_endGroup_327 (by decide) ?_
      refine x_aload_n E 3 dX4_endGroup_328 rfl ?_
      refine x_get E 0 22 dX4_endGroup_329 ui_X4_endGroup_X4 rfl rfl (by decide) fl_X4_endGroup_70 rfl rfl ?_
      refine x_nast E 2 1 [(r0, .inr (4, [.ref d0, .ref d1, .ref d2, .ref d3, .ref d4, .int (nI (kn + nr)), .int (nI mv), .ref d5, .ref d6, .int (nI ng), .ref d7, .ref d8, .ref d9, .int (nI nr), .ref d10, .int (nI fc), .int (if false = true then 1 else 0), .int (nI rp), .int bad, .int (nI 0), .int (nI sr), .int (nI sb), .int (nI ((((z 0 + rsz nL 0 nr) + 1) + 1) + 4))])), (d0, .inl (cI, 16384, .inl (uf (app2 (va_up (va_up (va_up (va_up (app2 B (z 0) (nwB nS nL nK nr 0 kn)) (z 0 + rsz nL 0 nr) (u8 (nI 0))) (8192 + (z 0 + rsz nL 0 nr)) (u8 (nI 0))) ((z 0 + rsz nL 0 nr) + 1) (u8 (nI nr))) (8192 + ((z 0 + rsz nL 0 nr) + 1)) (u8 (nI nr))) (((z 0 + rsz nL 0 nr) + 1) + 1) (beL (sm (sm (nwSm nS nL nK nr 0 kn (nI 0)) (u8 (nI 0))) (u8 (nI nr))) 4))))), (d1, .inl (cI, 2, .inl (nf (va_up (va_up z 0 ((((z 0 + rsz nL 0 nr) + 1) + 1) + 4)) 1 ((((z 0 + rsz nL 0 nr) + 1) + 1) + 4))))), (d2, .inl (cI, 600, .inl (nf (mvN nS nr 0 kn S)))), (d3, .inl (cI, 600, .inl (nf (mvN nL nr 0 kn Ln)))), (d4, .inl (cI, 38400, .inl (uf (mvK nL nK nr 0 kn K)))), (d5, .inl (cI, 600, .inl (nf gr))), (d6, .inl (cI, 600, .inl (nf gb))), (d7, .inl (cI, 16, .inl (nf nS))), (d8, .inl (cI, 16, .inl (nf nL))), (d9, .inl (cI, 1024, .inl (uf nK))), (d10, .inl (cI, 64, .inl (uf F)))] dX4_endGroup_332 rfl rfl (by omega) (by decide) rfl ?_
      refine x_aload_n E 3 dX4_endGroup_333 rfl ?_
      refine x_get E 0 7 dX4_endGroup_334 ui_X4_endGroup_X4 rfl rfl (by decide) fl_X4_endGroup_26 rfl rfl ?_
      refine x_aload_n E 3 dX4_endGroup_337 rfl ?_
      refine x_get E 0 9 dX4_endGroup_338 ui_X4_endGroup_X4 rfl rfl (by decide) fl_X4_endGroup_84 rfl rfl ?_
      refine x_aload_n E 3 dX4_endGroup_341 rfl ?_
      refine x_get E 0 13 dX4_endGroup_342 ui_X4_endGroup_X4 rfl rfl (by decide) fl_X4_endGroup_59 rfl rfl ?_
      refine x_nast E 6 1 [(r0, .inr (4, [.ref d0, .ref d1, .ref d2, .ref d3, .ref d4, .int (nI (kn + nr)), .int (nI mv), .ref d5, .ref d6, .int (nI ng), .ref d7, .ref d8, .ref d9, .int (nI nr), .ref d10, .int (nI fc), .int (if false = true then 1 else 0), .int (nI rp), .int bad, .int (nI 0), .int (nI sr), .int (nI sb), .int (nI ((((z 0 + rsz nL 0 nr) + 1) + 1) + 4))])), (d0, .inl (cI, 16384, .inl (uf (app2 (va_up (va_up (va_up (va_up (app2 B (z 0) (nwB nS nL nK nr 0 kn)) (z 0 + rsz nL 0 nr) (u8 (nI 0))) (8192 + (z 0 + rsz nL 0 nr)) (u8 (nI 0))) ((z 0 + rsz nL 0 nr) + 1) (u8 (nI nr))) (8192 + ((z 0 + rsz nL 0 nr) + 1)) (u8 (nI nr))) (((z 0 + rsz nL 0 nr) + 1) + 1) (beL (sm (sm (nwSm nS nL nK nr 0 kn (nI 0)) (u8 (nI 0))) (u8 (nI nr))) 4))))), (d1, .inl (cI, 2, .inl (nf (va_up (va_up z 0 ((((z 0 + rsz nL 0 nr) + 1) + 1) + 4)) 1 ((((z 0 + rsz nL 0 nr) + 1) + 1) + 4))))), (d2, .inl (cI, 600, .inl (nf (mvN nS nr 0 kn S)))), (d3, .inl (cI, 600, .inl (nf (mvN nL nr 0 kn Ln)))), (d4, .inl (cI, 38400, .inl (uf (mvK nL nK nr 0 kn K)))), (d5, .inl (cI, 600, .inl (nf (va_up gr ng nr)))), (d6, .inl (cI, 600, .inl (nf gb))), (d7, .inl (cI, 16, .inl (nf nS))), (d8, .inl (cI, 16, .inl (nf nL))), (d9, .inl (cI, 1024, .inl (uf nK))), (d10, .inl (cI, 64, .inl (uf F)))] dX4_endGroup_345 rfl rfl (by omega) (by decide) rfl ?_
      refine x_aload_n E 3 dX4_endGroup_346 rfl ?_
      refine x_get E 0 8 dX4_endGroup_347 ui_X4_endGroup_X4 rfl rfl (by decide) fl_X4_endGroup_29 rfl rfl ?_
      refine x_aload_n E 3 dX4_endGroup_350 rfl ?_
      refine x_get E 0 9 dX4_endGroup_351 ui_X4_endGroup_X4 rfl rfl (by decide) fl_X4_endGroup_84 rfl rfl ?_
      refine x_iload_n E 2 dX4_endGroup_354 rfl ?_
      refine x_nast E 7 1 [(r0, .inr (4, [.ref d0, .ref d1, .ref d2, .ref d3, .ref d4, .int (nI (kn + nr)), .int (nI mv), .ref d5, .ref d6, .int (nI ng), .ref d7, .ref d8, .ref d9, .int (nI nr), .ref d10, .int (nI fc), .int (if false = true then 1 else 0), .int (nI rp), .int bad, .int (nI 0), .int (nI sr), .int (nI sb), .int (nI ((((z 0 + rsz nL 0 nr) + 1) + 1) + 4))])), (d0, .inl (cI, 16384, .inl (uf (app2 (va_up (va_up (va_up (va_up (app2 B (z 0) (nwB nS nL nK nr 0 kn)) (z 0 + rsz nL 0 nr) (u8 (nI 0))) (8192 + (z 0 + rsz nL 0 nr)) (u8 (nI 0))) ((z 0 + rsz nL 0 nr) + 1) (u8 (nI nr))) (8192 + ((z 0 + rsz nL 0 nr) + 1)) (u8 (nI nr))) (((z 0 + rsz nL 0 nr) + 1) + 1) (beL (sm (sm (nwSm nS nL nK nr 0 kn (nI 0)) (u8 (nI 0))) (u8 (nI nr))) 4))))), (d1, .inl (cI, 2, .inl (nf (va_up (va_up z 0 ((((z 0 + rsz nL 0 nr) + 1) + 1) + 4)) 1 ((((z 0 + rsz nL 0 nr) + 1) + 1) + 4))))), (d2, .inl (cI, 600, .inl (nf (mvN nS nr 0 kn S)))), (d3, .inl (cI, 600, .inl (nf (mvN nL nr 0 kn Ln)))), (d4, .inl (cI, 38400, .inl (uf (mvK nL nK nr 0 kn K)))), (d5, .inl (cI, 600, .inl (nf (va_up gr ng nr)))), (d6, .inl (cI, 600, .inl (nf (va_up gb ng (6 + rsz nL 0 nr))))), (d7, .inl (cI, 16, .inl (nf nS))), (d8, .inl (cI, 16, .inl (nf nL))), (d9, .inl (cI, 1024, .inl (uf nK))), (d10, .inl (cI, 64, .inl (uf F)))] dX4_endGroup_355 rfl rfl (by omega) (by decide) rfl ?_
      refine x_aload_n E 3 dX4_endGroup_356 rfl ?_
      refine x_dup E dX4_endGroup_357 rfl ?_
      refine x_get E 0 9 dX4_endGroup_358 ui_X4_endGroup_X4 rfl rfl (by decide) fl_X4_endGroup_84 rfl rfl ?_
      refine x_iconst E (v := nI 1) dX4_endGroup_361 (by decide) ?_
      refine x_niadd E dX4_endGroup_362 ?_
      refine x_put E 0 9 [(r0, .inr (4, [.ref d0, .ref d1, .ref d2, .ref d3, .ref d4, .int (nI (kn + nr)), .int (nI mv), .ref d5, .ref d6, .int (nI (ng + 1)), .ref d7, .ref d8, .ref d9, .int (nI nr), .ref d10, .int (nI fc), .int (if false = true then 1 else 0), .int (nI rp), .int bad, .int (nI 0), .int (nI sr), .int (nI sb), .int (nI ((((z 0 + rsz nL 0 nr) + 1) + 1) + 4))])), (d0, .inl (cI, 16384, .inl (uf (app2 (va_up (va_up (va_up (va_up (app2 B (z 0) (nwB nS nL nK nr 0 kn)) (z 0 + rsz nL 0 nr) (u8 (nI 0))) (8192 + (z 0 + rsz nL 0 nr)) (u8 (nI 0))) ((z 0 + rsz nL 0 nr) + 1) (u8 (nI nr))) (8192 + ((z 0 + rsz nL 0 nr) + 1)) (u8 (nI nr))) (((z 0 + rsz nL 0 nr) + 1) + 1) (beL (sm (sm (nwSm nS nL nK nr 0 kn (nI 0)) (u8 (nI 0))) (u8 (nI nr))) 4))))), (d1, .inl (cI, 2, .inl (nf (va_up (va_up z 0 ((((z 0 + rsz nL 0 nr) + 1) + 1) + 4)) 1 ((((z 0 + rsz nL 0 nr) + 1) + 1) + 4))))), (d2, .inl (cI, 600, .inl (nf (mvN nS nr 0 kn S)))), (d3, .inl (cI, 600, .inl (nf (mvN nL nr 0 kn Ln)))), (d4, .inl (cI, 38400, .inl (uf (mvK nL nK nr 0 kn K)))), (d5, .inl (cI, 600, .inl (nf (va_up gr ng nr)))), (d6, .inl (cI, 600, .inl (nf (va_up gb ng (6 + rsz nL 0 nr))))), (d7, .inl (cI, 16, .inl (nf nS))), (d8, .inl (cI, 16, .inl (nf nL))), (d9, .inl (cI, 1024, .inl (uf nK))), (d10, .inl (cI, 64, .inl (uf F)))] dX4_endGroup_363 ui_X4_endGroup_X4 tyX4_ok nmX4 rfl rfl (by decide) fl_X4_endGroup_84 rfl rfl rfl rfl (Nat.le_of_ble_eq_true rfl) rfl ?_
      refine x_aload_n E 3 dX4_endGroup_366 rfl ?_
      refine x_iconst E (v := nI 0) dX4_endGroup_367 (by decide) ?_
      refine x_put E 0 13 [(r0, .inr (4, [.ref d0, .ref d1, .ref d2, .ref d3, .ref d4, .int (nI (kn + nr)), .int (nI mv), .ref d5, .ref d6, .int (nI (ng + 1)), .ref d7, .ref d8, .ref d9, .int (nI 0), .ref d10, .int (nI fc), .int (if false = true then 1 else 0), .int (nI rp), .int bad, .int (nI 0), .int (nI sr), .int (nI sb), .int (nI ((((z 0 + rsz nL 0 nr) + 1) + 1) + 4))])), (d0, .inl (cI, 16384, .inl (uf (app2 (va_up (va_up (va_up (va_up (app2 B (z 0) (nwB nS nL nK nr 0 kn)) (z 0 + rsz nL 0 nr) (u8 (nI 0))) (8192 + (z 0 + rsz nL 0 nr)) (u8 (nI 0))) ((z 0 + rsz nL 0 nr) + 1) (u8 (nI nr))) (8192 + ((z 0 + rsz nL 0 nr) + 1)) (u8 (nI nr))) (((z 0 + rsz nL 0 nr) + 1) + 1) (beL (sm (sm (nwSm nS nL nK nr 0 kn (nI 0)) (u8 (nI 0))) (u8 (nI nr))) 4))))), (d1, .inl (cI, 2, .inl (nf (va_up (va_up z 0 ((((z 0 + rsz nL 0 nr) + 1) + 1) + 4)) 1 ((((z 0 + rsz nL 0 nr) + 1) + 1) + 4))))), (d2, .inl (cI, 600, .inl (nf (mvN nS nr 0 kn S)))), (d3, .inl (cI, 600, .inl (nf (mvN nL nr 0 kn Ln)))), (d4, .inl (cI, 38400, .inl (uf (mvK nL nK nr 0 kn K)))), (d5, .inl (cI, 600, .inl (nf (va_up gr ng nr)))), (d6, .inl (cI, 600, .inl (nf (va_up gb ng (6 + rsz nL 0 nr))))), (d7, .inl (cI, 16, .inl (nf nS))), (d8, .inl (cI, 16, .inl (nf nL))), (d9, .inl (cI, 1024, .inl (uf nK))), (d10, .inl (cI, 64, .inl (uf F)))] dX4_endGroup_368 ui_X4_endGroup_X4 tyX4_ok nmX4 rfl rfl (by decide) fl_X4_endGroup_59 rfl rfl rfl rfl (Nat.le_of_ble_eq_true rfl) rfl ?_
      refine x_iconst E (v := nI 1) dX4_endGroup_371 (by decide) ?_
      exact x_zret E hr hlocks dX4_endGroup_372 rfl ⟨rfl, by rw [show z 0 + (rsz nL 0 nr + 6) = (((z 0 + rsz nL 0 nr) + 1) + 1) + 4 by omega, app2_app, nwB_len]; unfold endB; rw [app2_s, app2_s, smL_c, smL_c, smL_n]⟩
    | succ k ih =>
      intro i kn' at' s' B' S' L' K' e1 e2 e3 e4 e5 e6 e7 e8
      rw [rsz_s] at e3
      have hLi := hL i (by omega)
      have inner : ∀ (k2 j at2 : Nat) (s2 : Int32) (B2 K2 : Nat → UInt8), j + k2 = nL i → at2 + k2 = at' + 5 + nL i → app2 B2 at2 (conL nK (i * 64 + j) k2) = app2 (app2 B' at' (u8 (nI (nL i)) :: beL (nI (nS i)) 4)) (at' + 5) (conL nK (i * 64) (nL i)) → smL (conL nK (i * 64 + j) k2) s2 = smL (conL nK (i * 64) (nL i)) (smL (u8 (nI (nL i)) :: beL (nI (nS i)) 4) (nI 0)) → app K2 (kn' * 64 + j) (conL nK (i * 64 + j) k2) = app K' (kn' * 64) (conL nK (i * 64) (nL i)) → Xs xp l xe rmX4_endGroup xs xm ([.ref r0] : List Value).toArray xb xt xc D vwCl xA 5 0 0 (MQ xb (CQ D vwCl (tyl cB cI cZ cJ) xA (fun r u => r = (some (.int (nI 1))) ∧ u = [(r0, .inr (4, [.ref d0, .ref d1, .ref d2, .ref d3, .ref d4, .int (nI (kn + nr)), .int (nI mv), .ref d5, .ref d6, .int (nI (ng + 1)), .ref d7, .ref d8, .ref d9, .int (nI 0), .ref d10, .int (nI fc), .int (if false = true then 1 else 0), .int (nI rp), .int bad, .int (nI 0), .int (nI sr), .int (nI sb), .int (nI (z 0 + (rsz nL 0 nr + 6)))])), (d0, .inl (cI, 16384, .inl (uf (app2 B (z 0) (nwB nS nL nK nr 0 kn ++ endB nr (nwSm nS nL nK nr 0 kn (nI 0))))))), (d1, .inl (cI, 2, .inl (nf (va_up (va_up z 0 (z 0 + (rsz nL 0 nr + 6))) 1 (z 0 + (rsz nL 0 nr + 6)))))), (d2, .inl (cI, 600, .inl (nf (mvN nS nr 0 kn S)))), (d3, .inl (cI, 600, .inl (nf (mvN nL nr 0 kn Ln)))), (d4, .inl (cI, 38400, .inl (uf (mvK nL nK nr 0 kn K)))), (d5, .inl (cI, 600, .inl (nf (va_up gr ng nr)))), (d6, .inl (cI, 600, .inl (nf (va_up gb ng (6 + rsz nL 0 nr))))), (d7, .inl (cI, 16, .inl (nf nS))), (d8, .inl (cI, 16, .inl (nf nL))), (d9, .inl (cI, 1024, .inl (uf nK))), (d10, .inl (cI, 64, .inl (uf F)))])) ([.ref r0] : List Value).toArray xs 0 0 xA) [(r0, .inr (4, [.ref d0, .ref d1, .ref d2, .ref d3, .ref d4, .int (nI kn'), .int (nI mv), .ref d5, .ref d6, .int (nI ng), .ref d7, .ref d8, .ref d9, .int (nI nr), .ref d10, .int (nI fc), .int (if false = true then 1 else 0), .int (nI rp), .int bad, .int (nI 0), .int (nI sr), .int (nI sb), .int (nI at2)])), (d0, .inl (cI, 16384, .inl (uf B2))), (d1, .inl (cI, 2, .inl (nf z))), (d2, .inl (cI, 600, .inl (nf S'))), (d3, .inl (cI, 600, .inl (nf L'))), (d4, .inl (cI, 38400, .inl (uf K2))), (d5, .inl (cI, 600, .inl (nf gr))), (d6, .inl (cI, 600, .inl (nf gb))), (d7, .inl (cI, 16, .inl (nf nS))), (d8, .inl (cI, 16, .inl (nf nL))), (d9, .inl (cI, 1024, .inl (uf nK))), (d10, .inl (cI, 64, .inl (uf F)))] [(4, .int (nI j)), (3, .int (nI i)), (2, .int s2), (1, .int (nI (6 + rsz nL 0 nr))), (0, .ref r0)] 151 [] := by
        intro k2
        induction k2 with
        | zero =>
          intro j at2 s2 B2 K2 f1 f2 f3 f4 f5
          have f2 : at2 = at' + 5 + nL i := f2
          have f3 : B2 = app2 (app2 B' at' (u8 (nI (nL i)) :: beL (nI (nS i)) 4)) (at' + 5) (conL nK (i * 64) (nL i)) := f3
          have f4 : s2 = smL (conL nK (i * 64) (nL i)) (smL (u8 (nI (nL i)) :: beL (nI (nS i)) 4) (nI 0)) := f4
          have f5 : K2 = app K' (kn' * 64) (conL nK (i * 64) (nL i)) := f5
          subst f2
          subst f3
          subst f4
          subst f5
          refine x_iload E 0 dX4_endGroup_151 rfl ?_
          refine x_aload_n E 4 dX4_endGroup_153 rfl ?_
          refine x_get E 0 11 dX4_endGroup_154 ui_X4_endGroup_X4 rfl rfl (by decide) fl_X4_endGroup_35 rfl rfl ?_
          refine x_iload_n E 1 dX4_endGroup_157 rfl ?_
          refine x_nald E 9 1 dX4_endGroup_158 rfl rfl (by omega) (by decide) ?_
          refine x_ncmp_ge E 213 dX4_endGroup_159 (by decide) (by omega) (by omega) (fun h159 => ?_) (fun h => False.elim (by omega))
          refine x_aload_n E 4 dX4_endGroup_213 rfl ?_
          refine x_iload_n E 2 dX4_endGroup_214 rfl ?_
          refine x_aload_n E 4 dX4_endGroup_215 rfl ?_
          refine x_get E 0 5 dX4_endGroup_216 ui_X4_endGroup_X4 rfl rfl (by decide) fl_X4_endGroup_62 rfl rfl ?_
          refine x_bipush E (v := nI 8) dX4_endGroup_219 (by decide) ?_
          refine x_iushr E dX4_endGroup_221 rfl ?_
          refine x_cV E [.int (smL (conL nK (i * 64) (nL i)) (smL (u8 (nI (nL i)) :: beL (nI (nS i)) 4) (nI 0))), .int (((nI kn').toUInt32 >>> ((nI 8).toUInt32 &&& Int32.toUInt32 31)).toInt32)] [] [.int (sm (smL (conL nK (i * 64) (nL i)) (smL (u8 (nI (nL i)) :: beL (nI (nS i)) 4) (nI 0))) (byt (nI kn') 1))] [(r0, .inr (4, [.ref d0, .ref d1, .ref d2, .ref d3, .ref d4, .int (nI kn'), .int (nI mv), .ref d5, .ref d6, .int (nI ng), .ref d7, .ref d8, .ref d9, .int (nI nr), .ref d10, .int (nI fc), .int (if false = true then 1 else 0), .int (nI rp), .int bad, .int (nI 0), .int (nI sr), .int (nI sb), .int (nI ((at' + 5 + nL i) + 1))])), (d0, .inl (cI, 16384, .inl (uf (va_up (va_up (app2 (app2 B' at' (u8 (nI (nL i)) :: beL (nI (nS i)) 4)) (at' + 5) (conL nK (i * 64) (nL i))) (at' + 5 + nL i) (byt (nI kn') 1)) (8192 + (at' + 5 + nL i)) (byt (nI kn') 1))))), (d1, .inl (cI, 2, .inl (nf z))), (d2, .inl (cI, 600, .inl (nf S'))), (d3, .inl (cI, 600, .inl (nf L'))), (d4, .inl (cI, 38400, .inl (uf (app K' (kn' * 64) (conL nK (i * 64) (nL i)))))), (d5, .inl (cI, 600, .inl (nf gr))), (d6, .inl (cI, 600, .inl (nf gb))), (d7, .inl (cI, 16, .inl (nf nS))), (d8, .inl (cI, 16, .inl (nf nL))), (d9, .inl (cI, 1024, .inl (uf nK))), (d10, .inl (cI, 64, .inl (uf F)))] (c_X4_write l D cB cI cZ cJ r0 d0 d1 d2 d3 d4 d5 d6 d7 d8 d9 d10 kn' mv ng nr fc false rp bad 0 sr sb (at' + 5 + nL i) (app2 (app2 B' at' (u8 (nI (nL i)) :: beL (nI (nS i)) 4)) (at' + 5) (conL nK (i * 64) (nL i))) z S' L' (app K' (kn' * 64) (conL nK (i * 64) (nL i))) gr gb nS nL nK F (smL (conL nK (i * 64) (nL i)) (smL (u8 (nI (nL i)) :: beL (nI (nS i)) 4) (nI 0))) (((nI kn').toUInt32 >>> ((nI 8).toUInt32 &&& Int32.toUInt32 31)).toInt32) (byt (nI kn') 1) (by omega) (byt_1 (by omega))) 0 rfl rfl (cwV 2 hts gX4_endGroup_X4_write rfl rfl rfl (by decide +kernel) ⟨Nat.le_of_ble_eq_true rfl, Nat.le_of_ble_eq_true rfl⟩) [0, 1, 2, 3, 4, 5, 6, 7, 8, 9, 10, 11] [] rfl rfl (by decide) (by decide) (by decide) [0, 1, 2, 3, 4, 5, 6, 7, 8, 9, 10, 11] (by decide) rfl rfl (Nat.le_of_ble_eq_true rfl) dX4_endGroup_222 ⟨Nat.zero_le _, Nat.zero_le _⟩ rfl rfl ?_
          refine x_istore_n E [(2, .int (sm (smL (conL nK (i * 64) (nL i)) (smL (u8 (nI (nL i)) :: beL (nI (nS i)) 4) (nI 0))) (byt (nI kn') 1))), (4, .int (nI j)), (3, .int (nI i)), (1, .int (nI (6 + rsz nL 0 nr))), (0, .ref r0)] dX4_endGroup_225 (by decide) rfl ?_
          refine x_aload_n E 4 dX4_endGroup_226 rfl ?_
          refine x_iload_n E 0 dX4_endGroup_227 rfl ?_
          refine x_aload_n E 4 dX4_endGroup_228 rfl ?_
          refine x_get E 0 5 dX4_endGroup_229 ui_X4_endGroup_X4 rfl rfl (by decide) fl_X4_endGroup_62 rfl rfl ?_
          refine x_sipush E (v := nI 255) dX4_endGroup_232 (by decide) ?_
          refine x_iand E dX4_endGroup_235 ?_
          refine x_cV E [.int (sm (smL (conL nK (i * 64) (nL i)) (smL (u8 (nI (nL i)) :: beL (nI (nS i)) 4) (nI 0))) (byt (nI kn') 1)), .int ((nI kn') &&& (nI 255))] [] [.int (sm (sm (smL (conL nK (i * 64) (nL i)) (smL (u8 (nI (nL i)) :: beL (nI (nS i)) 4) (nI 0))) (byt (nI kn') 1)) (byt (nI kn') 0))] [(r0, .inr (4, [.ref d0, .ref d1, .ref d2, .ref d3, .ref d4, .int (nI kn'), .int (nI mv), .ref d5, .ref d6, .int (nI ng), .ref d7, .ref d8, .ref d9, .int (nI nr), .ref d10, .int (nI fc), .int (if false = true then 1 else 0), .int (nI rp), .int bad, .int (nI 0), .int (nI sr), .int (nI sb), .int (nI (((at' + 5 + nL i) + 1) + 1))])), (d0, .inl (cI, 16384, .inl (uf (va_up (va_up (va_up (va_up (app2 (app2 B' at' (u8 (nI (nL i)) :: beL (nI (nS i)) 4)) (at' + 5) (conL nK (i * 64) (nL i))) (at' + 5 + nL i) (byt (nI kn') 1)) (8192 + (at' + 5 + nL i)) (byt (nI kn') 1)) ((at' + 5 + nL i) + 1) (byt (nI kn') 0)) (8192 + ((at' + 5 + nL i) + 1)) (byt (nI kn') 0))))), (d1, .inl (cI, 2, .inl (nf z))), (d2, .inl (cI, 600, .inl (nf S'))), (d3, .inl (cI, 600, .inl (nf L'))), (d4, .inl (cI, 38400, .inl (uf (app K' (kn' * 64) (conL nK (i * 64) (nL i)))))), (d5, .inl (cI, 600, .inl (nf gr))), (d6, .inl (cI, 600, .inl (nf gb))), (d7, .inl (cI, 16, .inl (nf nS))), (d8, .inl (cI, 16, .inl (nf nL))), (d9, .inl (cI, 1024, .inl (uf nK))), (d10, .inl (cI, 64, .inl (uf F)))] (c_X4_write l D cB cI cZ cJ r0 d0 d1 d2 d3 d4 d5 d6 d7 d8 d9 d10 kn' mv ng nr fc false rp bad 0 sr sb ((at' + 5 + nL i) + 1) (va_up (va_up (app2 (app2 B' at' (u8 (nI (nL i)) :: beL (nI (nS i)) 4)) (at' + 5) (conL nK (i * 64) (nL i))) (at' + 5 + nL i) (byt (nI kn') 1)) (8192 + (at' + 5 + nL i)) (byt (nI kn') 1)) z S' L' (app K' (kn' * 64) (conL nK (i * 64) (nL i))) gr gb nS nL nK F (sm (smL (conL nK (i * 64) (nL i)) (smL (u8 (nI (nL i)) :: beL (nI (nS i)) 4) (nI 0))) (byt (nI kn') 1)) ((nI kn') &&& (nI 255)) (byt (nI kn') 0) (by omega) (by rw [byt_0]; exact u8_255 _)) 0 rfl rfl (cwV 2 hts gX4_endGroup_X4_write rfl rfl rfl (by decide +kernel) ⟨Nat.le_of_ble_eq_true rfl, Nat.le_of_ble_eq_true rfl⟩) [0, 1, 2, 3, 4, 5, 6, 7, 8, 9, 10, 11] [] rfl rfl (by decide) (by decide) (by decide) [0, 1, 2, 3, 4, 5, 6, 7, 8, 9, 10, 11] (by decide) rfl rfl (Nat.le_of_ble_eq_true rfl) dX4_endGroup_236 ⟨Nat.zero_le _, Nat.zero_le _⟩ rfl rfl ?_
          refine x_top (w := .int (rowSm kn' (nS i) (nL i) nK (i * 64))) (by unfold rowSm; rw [rowL_e, smL_app, smL_app, beL2, smL_c (byt (nI kn') 1), smL_c (byt (nI kn') 0), smL_n]) ?_
          refine x_istore_n E [(2, .int (rowSm kn' (nS i) (nL i) nK (i * 64))), (4, .int (nI j)), (3, .int (nI i)), (1, .int (nI (6 + rsz nL 0 nr))), (0, .ref r0)] dX4_endGroup_239 (by decide) rfl ?_
          refine x_ws (ws' := [(r0, .inr (4, [.ref d0, .ref d1, .ref d2, .ref d3, .ref d4, .int (nI kn'), .int (nI mv), .ref d5, .ref d6, .int (nI ng), .ref d7, .ref d8, .ref d9, .int (nI nr), .ref d10, .int (nI fc), .int (if false = true then 1 else 0), .int (nI rp), .int bad, .int (nI 0), .int (nI sr), .int (nI sb), .int (nI (((at' + 5 + nL i) + 1) + 1))])), (d0, .inl (cI, 16384, .inl (uf (app2 B' at' (rowL kn' (nS i) (nL i) nK (i * 64)))))), (d1, .inl (cI, 2, .inl (nf z))), (d2, .inl (cI, 600, .inl (nf S'))), (d3, .inl (cI, 600, .inl (nf L'))), (d4, .inl (cI, 38400, .inl (uf (app K' (kn' * 64) (conL nK (i * 64) (nL i)))))), (d5, .inl (cI, 600, .inl (nf gr))), (d6, .inl (cI, 600, .inl (nf gb))), (d7, .inl (cI, 16, .inl (nf nS))), (d8, .inl (cI, 16, .inl (nf nL))), (d9, .inl (cI, 1024, .inl (uf nK))), (d10, .inl (cI, 64, .inl (uf F)))]) (by rw [rowL_e, app2_app, app2_app, conL_len, show ((u8 (nI (nL i)) :: beL (nI (nS i)) 4)).length = 5 from rfl, beL2, app2_s, app2_s]; rfl) ?_
          refine x_aload_n E 4 dX4_endGroup_240 rfl ?_
          refine x_iload_n E 0 dX4_endGroup_241 rfl ?_
          refine x_cV E [.int (rowSm kn' (nS i) (nL i) nK (i * 64))] [] [] [(r0, .inr (4, [.ref d0, .ref d1, .ref d2, .ref d3, .ref d4, .int (nI kn'), .int (nI mv), .ref d5, .ref d6, .int (nI ng), .ref d7, .ref d8, .ref d9, .int (nI nr), .ref d10, .int (nI fc), .int (if false = true then 1 else 0), .int (nI rp), .int bad, .int (nI 0), .int (nI sr), .int (nI sb), .int (nI ((((at' + 5 + nL i) + 1) + 1) + 4))])), (d0, .inl (cI, 16384, .inl (uf (app2 (app2 B' at' (rowL kn' (nS i) (nL i) nK (i * 64))) (((at' + 5 + nL i) + 1) + 1) (beL (rowSm kn' (nS i) (nL i) nK (i * 64)) 4))))), (d1, .inl (cI, 2, .inl (nf z))), (d2, .inl (cI, 600, .inl (nf S'))), (d3, .inl (cI, 600, .inl (nf L'))), (d4, .inl (cI, 38400, .inl (uf (app K' (kn' * 64) (conL nK (i * 64) (nL i)))))), (d5, .inl (cI, 600, .inl (nf gr))), (d6, .inl (cI, 600, .inl (nf gb))), (d7, .inl (cI, 16, .inl (nf nS))), (d8, .inl (cI, 16, .inl (nf nL))), (d9, .inl (cI, 1024, .inl (uf nK))), (d10, .inl (cI, 64, .inl (uf F)))] (c_X4_four l D cB cI cZ cJ r0 d0 d1 d2 d3 d4 d5 d6 d7 d8 d9 d10 kn' mv ng nr fc false rp bad 0 sr sb (((at' + 5 + nL i) + 1) + 1) (app2 B' at' (rowL kn' (nS i) (nL i) nK (i * 64))) z S' L' (app K' (kn' * 64) (conL nK (i * 64) (nL i))) gr gb nS nL nK F (rowSm kn' (nS i) (nL i) nK (i * 64)) (by omega)) 0 rfl rfl (cwV 1 hts gX4_endGroup_X4_four rfl rfl rfl (by decide +kernel) ⟨Nat.le_of_ble_eq_true rfl, Nat.le_of_ble_eq_true rfl⟩) [0, 1, 2, 3, 4, 5, 6, 7, 8, 9, 10, 11] [] rfl rfl (by decide) (by decide) (by decide) [0, 1, 2, 3, 4, 5, 6, 7, 8, 9, 10, 11] (by decide) rfl rfl (Nat.le_of_ble_eq_true rfl) dX4_endGroup_242 ⟨Nat.zero_le _, Nat.zero_le _⟩ rfl rfl ?_
          refine x_aload_n E 4 dX4_endGroup_245 rfl ?_
          refine x_get E 0 2 dX4_endGroup_246 ui_X4_endGroup_X4 rfl rfl (by decide) fl_X4_endGroup_16 rfl rfl ?_
          refine x_aload_n E 4 dX4_endGroup_249 rfl ?_
          refine x_get E 0 5 dX4_endGroup_250 ui_X4_endGroup_X4 rfl rfl (by decide) fl_X4_endGroup_62 rfl rfl ?_
          refine x_aload_n E 4 dX4_endGroup_253 rfl ?_
          refine x_get E 0 10 dX4_endGroup_254 ui_X4_endGroup_X4 rfl rfl (by decide) fl_X4_endGroup_32 rfl rfl ?_
          refine x_iload_n E 2 dX4_endGroup_257 rfl ?_
          refine x_nald E 8 1 dX4_endGroup_258 rfl rfl (by omega) (by decide) ?_
          refine x_nast E 3 1 [(r0, .inr (4, [.ref d0, .ref d1, .ref d2, .ref d3, .ref d4, .int (nI kn'), .int (nI mv), .ref d5, .ref d6, .int (nI ng), .ref d7, .ref d8, .ref d9, .int (nI nr), .ref d10, .int (nI fc), .int (if false = true then 1 else 0), .int (nI rp), .int bad, .int (nI 0), .int (nI sr), .int (nI sb), .int (nI ((((at' + 5 + nL i) + 1) + 1) + 4))])), (d0, .inl (cI, 16384, .inl (uf (app2 (app2 B' at' (rowL kn' (nS i) (nL i) nK (i * 64))) (((at' + 5 + nL i) + 1) + 1) (beL (rowSm kn' (nS i) (nL i) nK (i * 64)) 4))))), (d1, .inl (cI, 2, .inl (nf z))), (d2, .inl (cI, 600, .inl (nf (va_up S' kn' (nS i))))), (d3, .inl (cI, 600, .inl (nf L'))), (d4, .inl (cI, 38400, .inl (uf (app K' (kn' * 64) (conL nK (i * 64) (nL i)))))), (d5, .inl (cI, 600, .inl (nf gr))), (d6, .inl (cI, 600, .inl (nf gb))), (d7, .inl (cI, 16, .inl (nf nS))), (d8, .inl (cI, 16, .inl (nf nL))), (d9, .inl (cI, 1024, .inl (uf nK))), (d10, .inl (cI, 64, .inl (uf F)))] dX4_endGroup_259 rfl rfl (by omega) (by decide) rfl ?_
          refine x_aload_n E 4 dX4_endGroup_260 rfl ?_
          refine x_get E 0 3 dX4_endGroup_261 ui_X4_endGroup_X4 rfl rfl (by decide) fl_X4_endGroup_19 rfl rfl ?_
          refine x_aload_n E 4 dX4_endGroup_264 rfl ?_
          refine x_get E 0 5 dX4_endGroup_265 ui_X4_endGroup_X4 rfl rfl (by decide) fl_X4_endGroup_62 rfl rfl ?_
          refine x_aload_n E 4 dX4_endGroup_268 rfl ?_
          refine x_get E 0 11 dX4_endGroup_269 ui_X4_endGroup_X4 rfl rfl (by decide) fl_X4_endGroup_35 rfl rfl ?_
          refine x_iload_n E 2 dX4_endGroup_272 rfl ?_
          refine x_nald E 9 1 dX4_endGroup_273 rfl rfl (by omega) (by decide) ?_
          refine x_nast E 4 1 [(r0, .inr (4, [.ref d0, .ref d1, .ref d2, .ref d3, .ref d4, .int (nI kn'), .int (nI mv), .ref d5, .ref d6, .int (nI ng), .ref d7, .ref d8, .ref d9, .int (nI nr), .ref d10, .int (nI fc), .int (if false = true then 1 else 0), .int (nI rp), .int bad, .int (nI 0), .int (nI sr), .int (nI sb), .int (nI ((((at' + 5 + nL i) + 1) + 1) + 4))])), (d0, .inl (cI, 16384, .inl (uf (app2 (app2 B' at' (rowL kn' (nS i) (nL i) nK (i * 64))) (((at' + 5 + nL i) + 1) + 1) (beL (rowSm kn' (nS i) (nL i) nK (i * 64)) 4))))), (d1, .inl (cI, 2, .inl (nf z))), (d2, .inl (cI, 600, .inl (nf (va_up S' kn' (nS i))))), (d3, .inl (cI, 600, .inl (nf (va_up L' kn' (nL i))))), (d4, .inl (cI, 38400, .inl (uf (app K' (kn' * 64) (conL nK (i * 64) (nL i)))))), (d5, .inl (cI, 600, .inl (nf gr))), (d6, .inl (cI, 600, .inl (nf gb))), (d7, .inl (cI, 16, .inl (nf nS))), (d8, .inl (cI, 16, .inl (nf nL))), (d9, .inl (cI, 1024, .inl (uf nK))), (d10, .inl (cI, 64, .inl (uf F)))] dX4_endGroup_274 rfl rfl (by omega) (by decide) rfl ?_
          refine x_aload_n E 4 dX4_endGroup_275 rfl ?_
          refine x_dup E dX4_endGroup_276 rfl ?_
          refine x_get E 0 5 dX4_endGroup_277 ui_X4_endGroup_X4 rfl rfl (by decide) fl_X4_endGroup_62 rfl rfl ?_
          refine x_iconst E (v := nI 1) dX4_endGroup_280 (by decide) ?_
          refine x_niadd E dX4_endGroup_281 ?_
          refine x_put E 0 5 [(r0, .inr (4, [.ref d0, .ref d1, .ref d2, .ref d3, .ref d4, .int (nI (kn' + 1)), .int (nI mv), .ref d5, .ref d6, .int (nI ng), .ref d7, .ref d8, .ref d9, .int (nI nr), .ref d10, .int (nI fc), .int (if false = true then 1 else 0), .int (nI rp), .int bad, .int (nI 0), .int (nI sr), .int (nI sb), .int (nI ((((at' + 5 + nL i) + 1) + 1) + 4))])), (d0, .inl (cI, 16384, .inl (uf (app2 (app2 B' at' (rowL kn' (nS i) (nL i) nK (i * 64))) (((at' + 5 + nL i) + 1) + 1) (beL (rowSm kn' (nS i) (nL i) nK (i * 64)) 4))))), (d1, .inl (cI, 2, .inl (nf z))), (d2, .inl (cI, 600, .inl (nf (va_up S' kn' (nS i))))), (d3, .inl (cI, 600, .inl (nf (va_up L' kn' (nL i))))), (d4, .inl (cI, 38400, .inl (uf (app K' (kn' * 64) (conL nK (i * 64) (nL i)))))), (d5, .inl (cI, 600, .inl (nf gr))), (d6, .inl (cI, 600, .inl (nf gb))), (d7, .inl (cI, 16, .inl (nf nS))), (d8, .inl (cI, 16, .inl (nf nL))), (d9, .inl (cI, 1024, .inl (uf nK))), (d10, .inl (cI, 64, .inl (uf F)))] dX4_endGroup_282 ui_X4_endGroup_X4 tyX4_ok nmX4 rfl rfl (by decide) fl_X4_endGroup_62 rfl rfl rfl rfl (Nat.le_of_ble_eq_true rfl) rfl ?_
          refine x_iinc E 2 [(3, .int (nI (i + 1))), (2, .int (rowSm kn' (nS i) (nL i) nK (i * 64))), (4, .int (nI j)), (1, .int (nI (6 + rsz nL 0 nr))), (0, .ref r0)] dX4_endGroup_285 rfl (nI_add _ _) (by decide) rfl ?_
          refine x_goto E 94 dX4_endGroup_288 (by decide) ?_
          refine x_ws (ws' := [(r0, .inr (4, [.ref d0, .ref d1, .ref d2, .ref d3, .ref d4, .int (nI (kn' + 1)), .int (nI mv), .ref d5, .ref d6, .int (nI ng), .ref d7, .ref d8, .ref d9, .int (nI nr), .ref d10, .int (nI fc), .int (if false = true then 1 else 0), .int (nI rp), .int bad, .int (nI 0), .int (nI sr), .int (nI sb), .int (nI ((((at' + 5 + nL i) + 1) + 1) + 4))])), (d0, .inl (cI, 16384, .inl (uf (app2 B' at' (rowB kn' (nS i) (nL i) nK (i * 64)))))), (d1, .inl (cI, 2, .inl (nf z))), (d2, .inl (cI, 600, .inl (nf (va_up S' kn' (nS i))))), (d3, .inl (cI, 600, .inl (nf (va_up L' kn' (nL i))))), (d4, .inl (cI, 38400, .inl (uf (app K' (kn' * 64) (conL nK (i * 64) (nL i)))))), (d5, .inl (cI, 600, .inl (nf gr))), (d6, .inl (cI, 600, .inl (nf gb))), (d7, .inl (cI, 16, .inl (nf nS))), (d8, .inl (cI, 16, .inl (nf nL))), (d9, .inl (cI, 1024, .inl (uf nK))), (d10, .inl (cI, 64, .inl (uf F)))]) (by unfold rowB; rw [app2_app, rowL_len, show at' + (7 + nL i) = (((at' + 5 + nL i) + 1) + 1) + 4 - 4 by omega]; rfl) ?_
          refine x_lv [0, 1, 3, 4] rfl ?_
          exact ih (i + 1) (kn' + 1) _ _ _ _ _ _ (by omega) (by omega) (by omega) (by rw [← e4, nwB_s, app2_app, rowB_len, show at' + (11 + nL i) = (((at' + 5 + nL i) + 1) + 1) + 4 by omega]) (by rw [← e5, nwSm_s]) e6 e7 e8
        | succ k2 ih2 =>
          intro j at2 s2 B2 K2 f1 f2 f3 f4 f5
          refine x_iload E 0 dX4_endGroup_151 rfl ?_
          refine x_aload_n E 4 dX4_endGroup_153 rfl ?_
          refine x_get E 0 11 dX4_endGroup_154 ui_X4_endGroup_X4 rfl rfl (by decide) fl_X4_endGroup_35 rfl rfl ?_
          refine x_iload_n E 1 dX4_endGroup_157 rfl ?_
          refine x_nald E 9 1 dX4_endGroup_158 rfl rfl (by omega) (by decide) ?_
          refine x_ncmp_ge E 213 dX4_endGroup_159 (by decide) (by omega) (by omega) (fun h => False.elim (by omega)) (fun h159 => ?_)
          refine x_aload_n E 4 dX4_endGroup_162 rfl ?_
          refine x_iload_n E 2 dX4_endGroup_163 rfl ?_
          refine x_aload_n E 4 dX4_endGroup_164 rfl ?_
          refine x_get E 0 12 dX4_endGroup_165 ui_X4_endGroup_X4 rfl rfl (by decide) fl_X4_endGroup_38 rfl rfl ?_
          refine x_iload_n E 1 dX4_endGroup_168 rfl ?_
          refine x_bipush E (v := nI 64) dX4_endGroup_169 (by decide) ?_
          refine x_nimul E dX4_endGroup_171 ?_
          refine x_iload E 0 dX4_endGroup_172 rfl ?_
          refine x_niadd E dX4_endGroup_174 ?_
          refine x_uald E 10 1 dX4_endGroup_175 rfl rfl (by omega) (by decide) ?_
          refine x_cV E [.int s2, .int (nI ((nK ((i * 64) + j)).toNat))] [] [.int (sm s2 (nK (i * 64 + j)))] [(r0, .inr (4, [.ref d0, .ref d1, .ref d2, .ref d3, .ref d4, .int (nI kn'), .int (nI mv), .ref d5, .ref d6, .int (nI ng), .ref d7, .ref d8, .ref d9, .int (nI nr), .ref d10, .int (nI fc), .int (if false = true then 1 else 0), .int (nI rp), .int bad, .int (nI 0), .int (nI sr), .int (nI sb), .int (nI (at2 + 1))])), (d0, .inl (cI, 16384, .inl (uf (va_up (va_up B2 at2 (nK (i * 64 + j))) (8192 + at2) (nK (i * 64 + j)))))), (d1, .inl (cI, 2, .inl (nf z))), (d2, .inl (cI, 600, .inl (nf S'))), (d3, .inl (cI, 600, .inl (nf L'))), (d4, .inl (cI, 38400, .inl (uf K2))), (d5, .inl (cI, 600, .inl (nf gr))), (d6, .inl (cI, 600, .inl (nf gb))), (d7, .inl (cI, 16, .inl (nf nS))), (d8, .inl (cI, 16, .inl (nf nL))), (d9, .inl (cI, 1024, .inl (uf nK))), (d10, .inl (cI, 64, .inl (uf F)))] (c_X4_write l D cB cI cZ cJ r0 d0 d1 d2 d3 d4 d5 d6 d7 d8 d9 d10 kn' mv ng nr fc false rp bad 0 sr sb at2 B2 z S' L' K2 gr gb nS nL nK F s2 (nI ((nK ((i * 64) + j)).toNat)) (nK (i * 64 + j)) (by omega) rfl) 0 rfl rfl (cwV 2 hts gX4_endGroup_X4_write rfl rfl rfl (by decide +kernel) ⟨Nat.le_of_ble_eq_true rfl, Nat.le_of_ble_eq_true rfl⟩) [0, 1, 2, 3, 4, 5, 6, 7, 8, 9, 10, 11] [] rfl rfl (by decide) (by decide) (by decide) [0, 1, 2, 3, 4, 5, 6, 7, 8, 9, 10, 11] (by decide) rfl rfl (Nat.le_of_ble_eq_true rfl) dX4_endGroup_176 ⟨Nat.zero_le _, Nat.zero_le _⟩ rfl rfl ?_
          refine x_istore_n E [(2, .int (sm s2 (nK (i * 64 + j)))), (4, .int (nI j)), (3, .int (nI i)), (1, .int (nI (6 + rsz nL 0 nr))), (0, .ref r0)] dX4_endGroup_179 (by decide) rfl ?_
          refine x_aload_n E 4 dX4_endGroup_180 rfl ?_
          refine x_get E 0 4 dX4_endGroup_181 ui_X4_endGroup_X4 rfl rfl (by decide) fl_X4_endGroup_23 rfl rfl ?_
          refine x_aload_n E 4 dX4_endGroup_184 rfl ?_
          refine x_get E 0 5 dX4_endGroup_185 ui_X4_endGroup_X4 rfl rfl (by decide) fl_X4_endGroup_62 rfl rfl ?_
          refine x_bipush E (v := nI 64) dX4_endGroup_188 (by decide) ?_
          refine x_nimul E dX4_endGroup_190 ?_
          refine x_iload E 1 dX4_endGroup_191 rfl ?_
          refine x_niadd E dX4_endGroup_193 ?_
          refine x_aload_n E 4 dX4_endGroup_194 rfl ?_
          refine x_get E 0 12 dX4_endGroup_195 ui_X4_endGroup_X4 rfl rfl (by decide) fl_X4_endGroup_38 rfl rfl ?_
          refine x_iload_n E 2 dX4_endGroup_198 rfl ?_
          refine x_bipush E (v := nI 64) dX4_endGroup_199 (by decide) ?_
          refine x_nimul E dX4_endGroup_201 ?_
          refine x_iload E 1 dX4_endGroup_202 rfl ?_
          refine x_niadd E dX4_endGroup_204 ?_
          refine x_uald E 10 1 dX4_endGroup_205 rfl rfl (by omega) (by decide) ?_
          refine x_uast E 5 1 [(r0, .inr (4, [.ref d0, .ref d1, .ref d2, .ref d3, .ref d4, .int (nI kn'), .int (nI mv), .ref d5, .ref d6, .int (nI ng), .ref d7, .ref d8, .ref d9, .int (nI nr), .ref d10, .int (nI fc), .int (if false = true then 1 else 0), .int (nI rp), .int bad, .int (nI 0), .int (nI sr), .int (nI sb), .int (nI (at2 + 1))])), (d0, .inl (cI, 16384, .inl (uf (va_up (va_up B2 at2 (nK (i * 64 + j))) (8192 + at2) (nK (i * 64 + j)))))), (d1, .inl (cI, 2, .inl (nf z))), (d2, .inl (cI, 600, .inl (nf S'))), (d3, .inl (cI, 600, .inl (nf L'))), (d4, .inl (cI, 38400, .inl (uf (va_up K2 ((kn' * 64) + j) (nK ((i * 64) + j)))))), (d5, .inl (cI, 600, .inl (nf gr))), (d6, .inl (cI, 600, .inl (nf gb))), (d7, .inl (cI, 16, .inl (nf nS))), (d8, .inl (cI, 16, .inl (nf nL))), (d9, .inl (cI, 1024, .inl (uf nK))), (d10, .inl (cI, 64, .inl (uf F)))] dX4_endGroup_206 rfl rfl (by omega) (by decide) rfl rfl ?_
          refine x_iinc E 1 [(4, .int (nI (j + 1))), (2, .int (sm s2 (nK (i * 64 + j)))), (3, .int (nI i)), (1, .int (nI (6 + rsz nL 0 nr))), (0, .ref r0)] dX4_endGroup_207 rfl (nI_add _ _) (by decide) rfl ?_
          refine x_goto E 151 dX4_endGroup_210 (by decide) ?_
          refine x_lv [0, 2, 1, 3, 4] rfl ?_
          exact ih2 (j + 1) _ _ _ _ (by omega) (by omega) (by rw [← f3, conL_s, app2_s]; rfl) (by rw [← f4, conL_s, smL_c]; rfl) (by rw [← f5, conL_s, app_s]; rfl)
      refine x_iload_n E 0 dX4_endGroup_94 rfl ?_
      refine x_aload_n E 3 dX4_endGroup_95 rfl ?_
      refine x_get E 0 13 dX4_endGroup_96 ui_X4_endGroup_X4 rfl rfl (by decide) fl_X4_endGroup_59 rfl rfl ?_
      refine x_ncmp_ge E 291 dX4_endGroup_99 (by decide) (by omega) (by omega) (fun h => False.elim (by omega)) (fun h99 => ?_)
      refine x_aload_n E 3 dX4_endGroup_102 rfl ?_
      refine x_iconst E (v := nI 0) dX4_endGroup_103 (by decide) ?_
      refine x_aload_n E 3 dX4_endGroup_104 rfl ?_
      refine x_get E 0 11 dX4_endGroup_105 ui_X4_endGroup_X4 rfl rfl (by decide) fl_X4_endGroup_35 rfl rfl ?_
      refine x_iload_n E 0 dX4_endGroup_108 rfl ?_
      refine x_nald E 9 1 dX4_endGroup_109 rfl rfl (by omega) (by decide) ?_
      refine x_cV E [.int (nI 0), .int (nI (nL i))] [] [.int (sm (nI 0) (u8 (nI (nL i))))] [(r0, .inr (4, [.ref d0, .ref d1, .ref d2, .ref d3, .ref d4, .int (nI kn'), .int (nI mv), .ref d5, .ref d6, .int (nI ng), .ref d7, .ref d8, .ref d9, .int (nI nr), .ref d10, .int (nI fc), .int (if false = true then 1 else 0), .int (nI rp), .int bad, .int (nI 0), .int (nI sr), .int (nI sb), .int (nI (at' + 1))])), (d0, .inl (cI, 16384, .inl (uf (va_up (va_up B' at' (u8 (nI (nL i)))) (8192 + at') (u8 (nI (nL i))))))), (d1, .inl (cI, 2, .inl (nf z))), (d2, .inl (cI, 600, .inl (nf S'))), (d3, .inl (cI, 600, .inl (nf L'))), (d4, .inl (cI, 38400, .inl (uf K'))), (d5, .inl (cI, 600, .inl (nf gr))), (d6, .inl (cI, 600, .inl (nf gb))), (d7, .inl (cI, 16, .inl (nf nS))), (d8, .inl (cI, 16, .inl (nf nL))), (d9, .inl (cI, 1024, .inl (uf nK))), (d10, .inl (cI, 64, .inl (uf F)))] (c_X4_write l D cB cI cZ cJ r0 d0 d1 d2 d3 d4 d5 d6 d7 d8 d9 d10 kn' mv ng nr fc false rp bad 0 sr sb at' B' z S' L' K' gr gb nS nL nK F (nI 0) (nI (nL i)) (u8 (nI (nL i))) (by omega) (u8_v (by omega))) 0 rfl rfl (cwV 2 hts gX4_endGroup_X4_write rfl rfl rfl (by decide +kernel) ⟨Nat.le_of_ble_eq_true rfl, Nat.le_of_ble_eq_true rfl⟩) [0, 1, 2, 3, 4, 5, 6, 7, 8, 9, 10, 11] [] rfl rfl (by decide) (by decide) (by decide) [0, 1, 2, 3, 4, 5, 6, 7, 8, 9, 10, 11] (by decide) rfl rfl (Nat.le_of_ble_eq_true rfl) dX4_endGroup_110 ⟨Nat.zero_le _, Nat.zero_le _⟩ rfl rfl ?_
      refine x_istore_n E [(2, .int (sm (nI 0) (u8 (nI (nL i))))), (3, .int (nI i)), (1, .int (nI (6 + rsz nL 0 nr))), (0, .ref r0)] dX4_endGroup_113 (by decide) rfl ?_
      refine x_bipush E (v := nI 24) dX4_endGroup_114 (by decide) ?_
      refine x_istore E [(4, .int (nI 24)), (2, .int (sm (nI 0) (u8 (nI (nL i))))), (3, .int (nI i)), (1, .int (nI (6 + rsz nL 0 nr))), (0, .ref r0)] dX4_endGroup_116 (by decide) rfl ?_
      refine x_iload E 0 dX4_endGroup_118 rfl ?_
      refine x_nif_lt E 148 dX4_endGroup_120 (by decide) (by decide) (fun h => absurd h (fun h => Nat.not_lt_zero _ h)) (fun h120 => ?_)
      refine x_aload_n E 4 dX4_endGroup_123 rfl ?_
      refine x_iload_n E 1 dX4_endGroup_124 rfl ?_
      refine x_aload_n E 4 dX4_endGroup_125 rfl ?_
      refine x_get E 0 10 dX4_endGroup_126 ui_X4_endGroup_X4 rfl rfl (by decide) fl_X4_endGroup_32 rfl rfl ?_
      refine x_iload_n E 2 dX4_endGroup_129 rfl ?_
      refine x_nald E 8 1 dX4_endGroup_130 rfl rfl (by omega) (by decide) ?_
      refine x_iload E 0 dX4_endGroup_131 rfl ?_
      refine x_iushr E dX4_endGroup_133 rfl ?_
      refine x_sipush E (v := nI 255) dX4_endGroup_134 (by decide) ?_
      refine x_iand E dX4_endGroup_137 ?_
      refine x_cV E [.int (sm (nI 0) (u8 (nI (nL i)))), .int ((((nI (nS i)).toUInt32 >>> ((nI 24).toUInt32 &&& Int32.toUInt32 31)).toInt32) &&& (nI 255))] [] [.int (sm (sm (nI 0) (u8 (nI (nL i)))) (byt (nI (nS i)) 3))] [(r0, .inr (4, [.ref d0, .ref d1, .ref d2, .ref d3, .ref d4, .int (nI kn'), .int (nI mv), .ref d5, .ref d6, .int (nI ng), .ref d7, .ref d8, .ref d9, .int (nI nr), .ref d10, .int (nI fc), .int (if false = true then 1 else 0), .int (nI rp), .int bad, .int (nI 0), .int (nI sr), .int (nI sb), .int (nI ((at' + 1) + 1))])), (d0, .inl (cI, 16384, .inl (uf (va_up (va_up (va_up (va_up B' at' (u8 (nI (nL i)))) (8192 + at') (u8 (nI (nL i)))) (at' + 1) (byt (nI (nS i)) 3)) (8192 + (at' + 1)) (byt (nI (nS i)) 3))))), (d1, .inl (cI, 2, .inl (nf z))), (d2, .inl (cI, 600, .inl (nf S'))), (d3, .inl (cI, 600, .inl (nf L'))), (d4, .inl (cI, 38400, .inl (uf K'))), (d5, .inl (cI, 600, .inl (nf gr))), (d6, .inl (cI, 600, .inl (nf gb))), (d7, .inl (cI, 16, .inl (nf nS))), (d8, .inl (cI, 16, .inl (nf nL))), (d9, .inl (cI, 1024, .inl (uf nK))), (d10, .inl (cI, 64, .inl (uf F)))] (c_X4_write l D cB cI cZ cJ r0 d0 d1 d2 d3 d4 d5 d6 d7 d8 d9 d10 kn' mv ng nr fc false rp bad 0 sr sb (at' + 1) (va_up (va_up B' at' (u8 (nI (nL i)))) (8192 + at') (u8 (nI (nL i)))) z S' L' K' gr gb nS nL nK F (sm (nI 0) (u8 (nI (nL i)))) ((((nI (nS i)).toUInt32 >>> ((nI 24).toUInt32 &&& Int32.toUInt32 31)).toInt32) &&& (nI 255)) (byt (nI (nS i)) 3) (by omega) (u8_255 _)) 0 rfl rfl (cwV 2 hts gX4_endGroup_X4_write rfl rfl rfl (by decide +kernel) ⟨Nat.le_of_ble_eq_true rfl, Nat.le_of_ble_eq_true rfl⟩) [0, 1, 2, 3, 4, 5, 6, 7, 8, 9, 10, 11] [] rfl rfl (by decide) (by decide) (by decide) [0, 1, 2, 3, 4, 5, 6, 7, 8, 9, 10, 11] (by decide) rfl rfl (Nat.le_of_ble_eq_true rfl) dX4_endGroup_138 ⟨Nat.zero_le _, Nat.zero_le _⟩ rfl rfl ?_
      refine x_istore_n E [(2, .int (sm (sm (nI 0) (u8 (nI (nL i)))) (byt (nI (nS i)) 3))), (4, .int (nI 24)), (3, .int (nI i)), (1, .int (nI (6 + rsz nL 0 nr))), (0, .ref r0)] dX4_endGroup_141 (by decide) rfl ?_
      refine x_iinc E 1 [(4, .int (nI 16)), (2, .int (sm (sm (nI 0) (u8 (nI (nL i)))) (byt (nI (nS i)) 3))), (3, .int (nI i)), (1, .int (nI (6 + rsz nL 0 nr))), (0, .ref r0)] dX4_endGroup_142 rfl (by decide) (by decide) rfl ?_
      refine x_goto E 118 dX4_endGroup_145 (by decide) ?_
      refine x_iload E 0 dX4_endGroup_118 rfl ?_
      refine x_nif_lt E 148 dX4_endGroup_120 (by decide) (by decide) (fun h => absurd h (fun h => Nat.not_lt_zero _ h)) (fun h120 => ?_)
      refine x_aload_n E 4 dX4_endGroup_123 rfl ?_
      refine x_iload_n E 1 dX4_endGroup_124 rfl ?_
      refine x_aload_n E 4 dX4_endGroup_125 rfl ?_
      refine x_get E 0 10 dX4_endGroup_126 ui_X4_endGroup_X4 rfl rfl (by decide) fl_X4_endGroup_32 rfl rfl ?_
      refine x_iload_n E 2 dX4_endGroup_129 rfl ?_
      refine x_nald E 8 1 dX4_endGroup_130 rfl rfl (by omega) (by decide) ?_
      refine x_iload E 0 dX4_endGroup_131 rfl ?_
      refine x_iushr E dX4_endGroup_133 rfl ?_
      refine x_sipush E (v := nI 255) dX4_endGroup_134 (by decide) ?_
      refine x_iand E dX4_endGroup_137 ?_
      refine x_cV E [.int (sm (sm (nI 0) (u8 (nI (nL i)))) (byt (nI (nS i)) 3)), .int ((((nI (nS i)).toUInt32 >>> ((nI 16).toUInt32 &&& Int32.toUInt32 31)).toInt32) &&& (nI 255))] [] [.int (sm (sm (sm (nI 0) (u8 (nI (nL i)))) (byt (nI (nS i)) 3)) (byt (nI (nS i)) 2))] [(r0, .inr (4, [.ref d0, .ref d1, .ref d2, .ref d3, .ref d4, .int (nI kn'), .int (nI mv), .ref d5, .ref d6, .int (nI ng), .ref d7, .ref d8, .ref d9, .int (nI nr), .ref d10, .int (nI fc), .int (if false = true then 1 else 0), .int (nI rp), .int bad, .int (nI 0), .int (nI sr), .int (nI sb), .int (nI (((at' + 1) + 1) + 1))])), (d0, .inl (cI, 16384, .inl (uf (va_up (va_up (va_up (va_up (va_up (va_up B' at' (u8 (nI (nL i)))) (8192 + at') (u8 (nI (nL i)))) (at' + 1) (byt (nI (nS i)) 3)) (8192 + (at' + 1)) (byt (nI (nS i)) 3)) ((at' + 1) + 1) (byt (nI (nS i)) 2)) (8192 + ((at' + 1) + 1)) (byt (nI (nS i)) 2))))), (d1, .inl (cI, 2, .inl (nf z))), (d2, .inl (cI, 600, .inl (nf S'))), (d3, .inl (cI, 600, .inl (nf L'))), (d4, .inl (cI, 38400, .inl (uf K'))), (d5, .inl (cI, 600, .inl (nf gr))), (d6, .inl (cI, 600, .inl (nf gb))), (d7, .inl (cI, 16, .inl (nf nS))), (d8, .inl (cI, 16, .inl (nf nL))), (d9, .inl (cI, 1024, .inl (uf nK))), (d10, .inl (cI, 64, .inl (uf F)))] (c_X4_write l D cB cI cZ cJ r0 d0 d1 d2 d3 d4 d5 d6 d7 d8 d9 d10 kn' mv ng nr fc false rp bad 0 sr sb ((at' + 1) + 1) (va_up (va_up (va_up (va_up B' at' (u8 (nI (nL i)))) (8192 + at') (u8 (nI (nL i)))) (at' + 1) (byt (nI (nS i)) 3)) (8192 + (at' + 1)) (byt (nI (nS i)) 3)) z S' L' K' gr gb nS nL nK F (sm (sm (nI 0) (u8 (nI (nL i)))) (byt (nI (nS i)) 3)) ((((nI (nS i)).toUInt32 >>> ((nI 16).toUInt32 &&& Int32.toUInt32 31)).toInt32) &&& (nI 255)) (byt (nI (nS i)) 2) (by omega) (u8_255 _)) 0 rfl rfl (cwV 2 hts gX4_endGroup_X4_write rfl rfl rfl (by decide +kernel) ⟨Nat.le_of_ble_eq_true rfl, Nat.le_of_ble_eq_true rfl⟩) [0, 1, 2, 3, 4, 5, 6, 7, 8, 9, 10, 11] [] rfl rfl (by decide) (by decide) (by decide) [0, 1, 2, 3, 4, 5, 6, 7, 8, 9, 10, 11] (by decide) rfl rfl (Nat.le_of_ble_eq_true rfl) dX4_endGroup_138 ⟨Nat.zero_le _, Nat.zero_le _⟩ rfl rfl ?_
      refine x_istore_n E [(2, .int (sm (sm (sm (nI 0) (u8 (nI (nL i)))) (byt (nI (nS i)) 3)) (byt (nI (nS i)) 2))), (4, .int (nI 16)), (3, .int (nI i)), (1, .int (nI (6 + rsz nL 0 nr))), (0, .ref r0)] dX4_endGroup_141 (by decide) rfl ?_
      refine x_iinc E 1 [(4, .int (nI 8)), (2, .int (sm (sm (sm (nI 0) (u8 (nI (nL i)))) (byt (nI (nS i)) 3)) (byt (nI (nS i)) 2))), (3, .int (nI i)), (1, .int (nI (6 + rsz nL 0 nr))), (0, .ref r0)] dX4_endGroup_142 rfl (by decide) (by decide) rfl ?_
      refine x_goto E 118 dX4_endGroup_145 (by decide) ?_
      refine x_iload E 0 dX4_endGroup_118 rfl ?_
      refine x_nif_lt E 148 dX4_endGroup_120 (by decide) (by decide) (fun h => absurd h (fun h => Nat.not_lt_zero _ h)) (fun h120 => ?_)
      refine x_aload_n E 4 dX4_endGroup_123 rfl ?_
      refine x_iload_n E 1 dX4_endGroup_124 rfl ?_
      refine x_aload_n E 4 dX4_endGroup_125 rfl ?_
      refine x_get E 0 10 dX4_endGroup_126 ui_X4_endGroup_X4 rfl rfl (by decide) fl_X4_endGroup_32 rfl rfl ?_
      refine x_iload_n E 2 dX4_endGroup_129 rfl ?_
      refine x_nald E 8 1 dX4_endGroup_130 rfl rfl (by omega) (by decide) ?_
      refine x_iload E 0 dX4_endGroup_131 rfl ?_
      refine x_iushr E dX4_endGroup_133 rfl ?_
      refine x_sipush E (v := nI 255) dX4_endGroup_134 (by decide) ?_
      refine x_iand E dX4_endGroup_137 ?_
      refine x_cV E [.int (sm (sm (sm (nI 0) (u8 (nI (nL i)))) (byt (nI (nS i)) 3)) (byt (nI (nS i)) 2)), .int ((((nI (nS i)).toUInt32 >>> ((nI 8).toUInt32 &&& Int32.toUInt32 31)).toInt32) &&& (nI 255))] [] [.int (sm (sm (sm (sm (nI 0) (u8 (nI (nL i)))) (byt (nI (nS i)) 3)) (byt (nI (nS i)) 2)) (byt (nI (nS i)) 1))] [(r0, .inr (4, [.ref d0, .ref d1, .ref d2, .ref d3, .ref d4, .int (nI kn'), .int (nI mv), .ref d5, .ref d6, .int (nI ng), .ref d7, .ref d8, .ref d9, .int (nI nr), .ref d10, .int (nI fc), .int (if false = true then 1 else 0), .int (nI rp), .int bad, .int (nI 0), .int (nI sr), .int (nI sb), .int (nI ((((at' + 1) + 1) + 1) + 1))])), (d0, .inl (cI, 16384, .inl (uf (va_up (va_up (va_up (va_up (va_up (va_up (va_up (va_up B' at' (u8 (nI (nL i)))) (8192 + at') (u8 (nI (nL i)))) (at' + 1) (byt (nI (nS i)) 3)) (8192 + (at' + 1)) (byt (nI (nS i)) 3)) ((at' + 1) + 1) (byt (nI (nS i)) 2)) (8192 + ((at' + 1) + 1)) (byt (nI (nS i)) 2)) (((at' + 1) + 1) + 1) (byt (nI (nS i)) 1)) (8192 + (((at' + 1) + 1) + 1)) (byt (nI (nS i)) 1))))), (d1, .inl (cI, 2, .inl (nf z))), (d2, .inl (cI, 600, .inl (nf S'))), (d3, .inl (cI, 600, .inl (nf L'))), (d4, .inl (cI, 38400, .inl (uf K'))), (d5, .inl (cI, 600, .inl (nf gr))), (d6, .inl (cI, 600, .inl (nf gb))), (d7, .inl (cI, 16, .inl (nf nS))), (d8, .inl (cI, 16, .inl (nf nL))), (d9, .inl (cI, 1024, .inl (uf nK))), (d10, .inl (cI, 64, .inl (uf F)))] (c_X4_write l D cB cI cZ cJ r0 d0 d1 d2 d3 d4 d5 d6 d7 d8 d9 d10 kn' mv ng nr fc false rp bad 0 sr sb (((at' + 1) + 1) + 1) (va_up (va_up (va_up (va_up (va_up (va_up B' at' (u8 (nI (nL i)))) (8192 + at') (u8 (nI (nL i)))) (at' + 1) (byt (nI (nS i)) 3)) (8192 + (at' + 1)) (byt (nI (nS i)) 3)) ((at' + 1) + 1) (byt (nI (nS i)) 2)) (8192 + ((at' + 1) + 1)) (byt (nI (nS i)) 2)) z S' L' K' gr gb nS nL nK F (sm (sm (sm (nI 0) (u8 (nI (nL i)))) (byt (nI (nS i)) 3)) (byt (nI (nS i)) 2)) ((((nI (nS i)).toUInt32 >>> ((nI 8).toUInt32 &&& Int32.toUInt32 31)).toInt32) &&& (nI 255)) (byt (nI (nS i)) 1) (by omega) (u8_255 _)) 0 rfl rfl (cwV 2 hts gX4_endGroup_X4_write rfl rfl rfl (by decide +kernel) ⟨Nat.le_of_ble_eq_true rfl, Nat.le_of_ble_eq_true rfl⟩) [0, 1, 2, 3, 4, 5, 6, 7, 8, 9, 10, 11] [] rfl rfl (by decide) (by decide) (by decide) [0, 1, 2, 3, 4, 5, 6, 7, 8, 9, 10, 11] (by decide) rfl rfl (Nat.le_of_ble_eq_true rfl) dX4_endGroup_138 ⟨Nat.zero_le _, Nat.zero_le _⟩ rfl rfl ?_
      refine x_istore_n E [(2, .int (sm (sm (sm (sm (nI 0) (u8 (nI (nL i)))) (byt (nI (nS i)) 3)) (byt (nI (nS i)) 2)) (byt (nI (nS i)) 1))), (4, .int (nI 8)), (3, .int (nI i)), (1, .int (nI (6 + rsz nL 0 nr))), (0, .ref r0)] dX4_endGroup_141 (by decide) rfl ?_
      refine x_iinc E 1 [(4, .int (nI 0)), (2, .int (sm (sm (sm (sm (nI 0) (u8 (nI (nL i)))) (byt (nI (nS i)) 3)) (byt (nI (nS i)) 2)) (byt (nI (nS i)) 1))), (3, .int (nI i)), (1, .int (nI (6 + rsz nL 0 nr))), (0, .ref r0)] dX4_endGroup_142 rfl (by decide) (by decide) rfl ?_
      refine x_goto E 118 dX4_endGroup_145 (by decide) ?_
      refine x_iload E 0 dX4_endGroup_118 rfl ?_
      refine x_nif_lt E 148 dX4_endGroup_120 (by decide) (by decide) (fun h => absurd h (fun h => Nat.not_lt_zero _ h)) (fun h120 => ?_)
      refine x_aload_n E 4 dX4_endGroup_123 rfl ?_
      refine x_iload_n E 1 dX4_endGroup_124 rfl ?_
      refine x_aload_n E 4 dX4_endGroup_125 rfl ?_
      refine x_get E 0 10 dX4_endGroup_126 ui_X4_endGroup_X4 rfl rfl (by decide) fl_X4_endGroup_32 rfl rfl ?_
      refine x_iload_n E 2 dX4_endGroup_129 rfl ?_
      refine x_nald E 8 1 dX4_endGroup_130 rfl rfl (by omega) (by decide) ?_
      refine x_iload E 0 dX4_endGroup_131 rfl ?_
      refine x_iushr E dX4_endGroup_133 rfl ?_
      refine x_sipush E (v := nI 255) dX4_endGroup_134 (by decide) ?_
      refine x_iand E dX4_endGroup_137 ?_
      refine x_cV E [.int (sm (sm (sm (sm (nI 0) (u8 (nI (nL i)))) (byt (nI (nS i)) 3)) (byt (nI (nS i)) 2)) (byt (nI (nS i)) 1)), .int ((((nI (nS i)).toUInt32 >>> ((nI 0).toUInt32 &&& Int32.toUInt32 31)).toInt32) &&& (nI 255))] [] [.int (sm (sm (sm (sm (sm (nI 0) (u8 (nI (nL i)))) (byt (nI (nS i)) 3)) (byt (nI (nS i)) 2)) (byt (nI (nS i)) 1)) (byt (nI (nS i)) 0))] [(r0, .inr (4, [.ref d0, .ref d1, .ref d2, .ref d3, .ref d4, .int (nI kn'), .int (nI mv), .ref d5, .ref d6, .int (nI ng), .ref d7, .ref d8, .ref d9, .int (nI nr), .ref d10, .int (nI fc), .int (if false = true then 1 else 0), .int (nI rp), .int bad, .int (nI 0), .int (nI sr), .int (nI sb), .int (nI (((((at' + 1) + 1) + 1) + 1) + 1))])), (d0, .inl (cI, 16384, .inl (uf (va_up (va_up (va_up (va_up (va_up (va_up (va_up (va_up (va_up (va_up B' at' (u8 (nI (nL i)))) (8192 + at') (u8 (nI (nL i)))) (at' + 1) (byt (nI (nS i)) 3)) (8192 + (at' + 1)) (byt (nI (nS i)) 3)) ((at' + 1) + 1) (byt (nI (nS i)) 2)) (8192 + ((at' + 1) + 1)) (byt (nI (nS i)) 2)) (((at' + 1) + 1) + 1) (byt (nI (nS i)) 1)) (8192 + (((at' + 1) + 1) + 1)) (byt (nI (nS i)) 1)) ((((at' + 1) + 1) + 1) + 1) (byt (nI (nS i)) 0)) (8192 + ((((at' + 1) + 1) + 1) + 1)) (byt (nI (nS i)) 0))))), (d1, .inl (cI, 2, .inl (nf z))), (d2, .inl (cI, 600, .inl (nf S'))), (d3, .inl (cI, 600, .inl (nf L'))), (d4, .inl (cI, 38400, .inl (uf K'))), (d5, .inl (cI, 600, .inl (nf gr))), (d6, .inl (cI, 600, .inl (nf gb))), (d7, .inl (cI, 16, .inl (nf nS))), (d8, .inl (cI, 16, .inl (nf nL))), (d9, .inl (cI, 1024, .inl (uf nK))), (d10, .inl (cI, 64, .inl (uf F)))] (c_X4_write l D cB cI cZ cJ r0 d0 d1 d2 d3 d4 d5 d6 d7 d8 d9 d10 kn' mv ng nr fc false rp bad 0 sr sb ((((at' + 1) + 1) + 1) + 1) (va_up (va_up (va_up (va_up (va_up (va_up (va_up (va_up B' at' (u8 (nI (nL i)))) (8192 + at') (u8 (nI (nL i)))) (at' + 1) (byt (nI (nS i)) 3)) (8192 + (at' + 1)) (byt (nI (nS i)) 3)) ((at' + 1) + 1) (byt (nI (nS i)) 2)) (8192 + ((at' + 1) + 1)) (byt (nI (nS i)) 2)) (((at' + 1) + 1) + 1) (byt (nI (nS i)) 1)) (8192 + (((at' + 1) + 1) + 1)) (byt (nI (nS i)) 1)) z S' L' K' gr gb nS nL nK F (sm (sm (sm (sm (nI 0) (u8 (nI (nL i)))) (byt (nI (nS i)) 3)) (byt (nI (nS i)) 2)) (byt (nI (nS i)) 1)) ((((nI (nS i)).toUInt32 >>> ((nI 0).toUInt32 &&& Int32.toUInt32 31)).toInt32) &&& (nI 255)) (byt (nI (nS i)) 0) (by omega) (u8_255 _)) 0 rfl rfl (cwV 2 hts gX4_endGroup_X4_write rfl rfl rfl (by decide +kernel) ⟨Nat.le_of_ble_eq_true rfl, Nat.le_of_ble_eq_true rfl⟩) [0, 1, 2, 3, 4, 5, 6, 7, 8, 9, 10, 11] [] rfl rfl (by decide) (by decide) (by decide) [0, 1, 2, 3, 4, 5, 6, 7, 8, 9, 10, 11] (by decide) rfl rfl (Nat.le_of_ble_eq_true rfl) dX4_endGroup_138 ⟨Nat.zero_le _, Nat.zero_le _⟩ rfl rfl ?_
      refine x_istore_n E [(2, .int (sm (sm (sm (sm (sm (nI 0) (u8 (nI (nL i)))) (byt (nI (nS i)) 3)) (byt (nI (nS i)) 2)) (byt (nI (nS i)) 1)) (byt (nI (nS i)) 0))), (4, .int (nI 0)), (3, .int (nI i)), (1, .int (nI (6 + rsz nL 0 nr))), (0, .ref r0)] dX4_endGroup_141 (by decide) rfl ?_
      refine x_iinc E 1 [(4, .int (-8)), (2, .int (sm (sm (sm (sm (sm (nI 0) (u8 (nI (nL i)))) (byt (nI (nS i)) 3)) (byt (nI (nS i)) 2)) (byt (nI (nS i)) 1)) (byt (nI (nS i)) 0))), (3, .int (nI i)), (1, .int (nI (6 + rsz nL 0 nr))), (0, .ref r0)] dX4_endGroup_142 rfl (by decide) (by decide) rfl ?_
      refine x_goto E 118 dX4_endGroup_145 (by decide) ?_
      refine x_iload E 0 dX4_endGroup_118 rfl ?_
      refine x_if_lt E 148 dX4_endGroup_120 (by decide) (fun h120 => ?_) (fun h => absurd (by decide) h)
      refine x_iconst E (v := nI 0) dX4_endGroup_148 (by decide) ?_
      refine x_istore E [(4, .int (nI 0)), (2, .int (sm (sm (sm (sm (sm (nI 0) (u8 (nI (nL i)))) (byt (nI (nS i)) 3)) (byt (nI (nS i)) 2)) (byt (nI (nS i)) 1)) (byt (nI (nS i)) 0))), (3, .int (nI i)), (1, .int (nI (6 + rsz nL 0 nr))), (0, .ref r0)] dX4_endGroup_149 (by decide) rfl ?_
      refine x_ws (ws' := [(r0, .inr (4, [.ref d0, .ref d1, .ref d2, .ref d3, .ref d4, .int (nI kn'), .int (nI mv), .ref d5, .ref d6, .int (nI ng), .ref d7, .ref d8, .ref d9, .int (nI nr), .ref d10, .int (nI fc), .int (if false = true then 1 else 0), .int (nI rp), .int bad, .int (nI 0), .int (nI sr), .int (nI sb), .int (nI (at' + 5))])), (d0, .inl (cI, 16384, .inl (uf (app2 B' at' (u8 (nI (nL i)) :: beL (nI (nS i)) 4))))), (d1, .inl (cI, 2, .inl (nf z))), (d2, .inl (cI, 600, .inl (nf S'))), (d3, .inl (cI, 600, .inl (nf L'))), (d4, .inl (cI, 38400, .inl (uf K'))), (d5, .inl (cI, 600, .inl (nf gr))), (d6, .inl (cI, 600, .inl (nf gb))), (d7, .inl (cI, 16, .inl (nf nS))), (d8, .inl (cI, 16, .inl (nf nL))), (d9, .inl (cI, 1024, .inl (uf nK))), (d10, .inl (cI, 64, .inl (uf F)))]) (by rw [show ((((at' + 1) + 1) + 1) + 1) + 1 = at' + 5 by omega]; rfl) ?_
      refine x_lve (lv' := [(4, .int (nI 0)), (2, .int (smL (u8 (nI (nL i)) :: beL (nI (nS i)) 4) (nI 0))), (3, .int (nI i)), (1, .int (nI (6 + rsz nL 0 nr))), (0, .ref r0)]) (by rw [smL_c, beL4, smL_c, smL_c, smL_c, smL_c, smL_n]) ?_
      refine x_lv [0, 2, 1, 3, 4] rfl ?_
      exact inner (nL i) 0 _ _ _ _ (by omega) rfl rfl rfl rfl
  have main : ∀ r : Nat, Xs xp l xe rmX4_endGroup xs xm ([.ref r0] : List Value).toArray xb xt xc D vwCl xA 5 0 0 (MQ xb (CQ D vwCl (tyl cB cI cZ cJ) xA (fun r u => r = (some (.int (nI 1))) ∧ u = [(r0, .inr (4, [.ref d0, .ref d1, .ref d2, .ref d3, .ref d4, .int (nI (kn + nr)), .int (nI mv), .ref d5, .ref d6, .int (nI (ng + 1)), .ref d7, .ref d8, .ref d9, .int (nI 0), .ref d10, .int (nI fc), .int (if false = true then 1 else 0), .int (nI rp), .int bad, .int (nI 0), .int (nI sr), .int (nI sb), .int (nI (z 0 + (rsz nL 0 nr + 6)))])), (d0, .inl (cI, 16384, .inl (uf (app2 B (z 0) (nwB nS nL nK nr 0 kn ++ endB nr (nwSm nS nL nK nr 0 kn (nI 0))))))), (d1, .inl (cI, 2, .inl (nf (va_up (va_up z 0 (z 0 + (rsz nL 0 nr + 6))) 1 (z 0 + (rsz nL 0 nr + 6)))))), (d2, .inl (cI, 600, .inl (nf (mvN nS nr 0 kn S)))), (d3, .inl (cI, 600, .inl (nf (mvN nL nr 0 kn Ln)))), (d4, .inl (cI, 38400, .inl (uf (mvK nL nK nr 0 kn K)))), (d5, .inl (cI, 600, .inl (nf (va_up gr ng nr)))), (d6, .inl (cI, 600, .inl (nf (va_up gb ng (6 + rsz nL 0 nr))))), (d7, .inl (cI, 16, .inl (nf nS))), (d8, .inl (cI, 16, .inl (nf nL))), (d9, .inl (cI, 1024, .inl (uf nK))), (d10, .inl (cI, 64, .inl (uf F)))])) ([.ref r0] : List Value).toArray xs 0 0 xA) [(r0, .inr (4, [.ref d0, .ref d1, .ref d2, .ref d3, .ref d4, .int (nI kn), .int (nI mv), .ref d5, .ref d6, .int (nI ng), .ref d7, .ref d8, .ref d9, .int (nI nr), .ref d10, .int (nI fc), .int (if false = true then 1 else 0), .int (nI rp), .int bad, .int (nI 0), .int (nI sr), .int (nI sb), .int (nI at9)])), (d0, .inl (cI, 16384, .inl (uf B))), (d1, .inl (cI, 2, .inl (nf z))), (d2, .inl (cI, 600, .inl (nf S))), (d3, .inl (cI, 600, .inl (nf Ln))), (d4, .inl (cI, 38400, .inl (uf K))), (d5, .inl (cI, 600, .inl (nf gr))), (d6, .inl (cI, 600, .inl (nf gb))), (d7, .inl (cI, 16, .inl (nf nS))), (d8, .inl (cI, 16, .inl (nf nL))), (d9, .inl (cI, 1024, .inl (uf nK))), (d10, .inl (cI, 64, .inl (uf F)))] [(2, .int (nI r)), (1, .int (nI (6 + rsz nL 0 nr))), (0, .ref r0)] 36 [] := by
    intro r
    refine x_aload_n E 2 dX4_endGroup_36 rfl ?_
    refine x_get E 0 16 dX4_endGroup_37 ui_X4_endGroup_X4 rfl rfl (by decide) fl_X4_endGroup_52 rfl rfl ?_
    refine x_qif_ne E 78 dX4_endGroup_40 (by decide) (fun h => False.elim (by cases h)) (fun h40 => ?_)
    refine x_aload_n E 2 dX4_endGroup_43 rfl ?_
    refine x_get E 0 13 dX4_endGroup_44 ui_X4_endGroup_X4 rfl rfl (by decide) fl_X4_endGroup_59 rfl rfl ?_
    refine x_nif_eq E 78 dX4_endGroup_47 (by decide) (by omega) (fun h => False.elim (by omega)) (fun h47 => ?_)
    refine x_aload_n E 2 dX4_endGroup_50 rfl ?_
    refine x_get E 0 1 dX4_endGroup_51 ui_X4_endGroup_X4 rfl rfl (by decide) fl_X4_endGroup_13 rfl rfl ?_
    refine x_iconst E (v := nI 0) dX4_endGroup_54 (by decide) ?_
    refine x_nald E 2 1 dX4_endGroup_55 rfl rfl (by omega) (by decide) ?_
    refine x_iload_n E 1 dX4_endGroup_56 rfl ?_
    refine x_niadd E dX4_endGroup_57 ?_
    refine x_sipush E (v := nI 8192) dX4_endGroup_58 (by decide) ?_
    refine x_ncmp_gt E 78 dX4_endGroup_61 (by decide) (by omega) (by decide) (fun h => False.elim (by omega)) (fun h61 => ?_)
    refine x_aload_n E 2 dX4_endGroup_64 rfl ?_
    refine x_get E 0 1 dX4_endGroup_65 ui_X4_endGroup_X4 rfl rfl (by decide) fl_X4_endGroup_13 rfl rfl ?_
    refine x_iconst E (v := nI 1) dX4_endGroup_68 (by decide) ?_
    refine x_nald E 2 1 dX4_endGroup_69 rfl rfl (by omega) (by decide) ?_
    refine x_iload_n E 1 dX4_endGroup_70 rfl ?_
    refine x_niadd E dX4_endGroup_71 ?_
    refine x_sipush E (v := nI 8192) dX4_endGroup_72 (by decide) ?_
    refine x_ncmp_le E 80 dX4_endGroup_75 (by decide) (by omega) (by decide) (fun h75 => ?_) (fun h => False.elim (by omega))
    refine x_aload_n E 2 dX4_endGroup_80 rfl ?_
    refine x_aload_n E 2 dX4_endGroup_81 rfl ?_
    refine x_get E 0 1 dX4_endGroup_82 ui_X4_endGroup_X4 rfl rfl (by decide) fl_X4_endGroup_13 rfl rfl ?_
    refine x_iconst E (v := nI 0) dX4_endGroup_85 (by decide) ?_
    refine x_nald E 2 1 dX4_endGroup_86 rfl rfl (by omega) (by decide) ?_
    refine x_put E 0 22 [(r0, .inr (4, [.ref d0, .ref d1, .ref d2, .ref d3, .ref d4, .int (nI kn), .int (nI mv), .ref d5, .ref d6, .int (nI ng), .ref d7, .ref d8, .ref d9, .int (nI nr), .ref d10, .int (nI fc), .int (if false = true then 1 else 0), .int (nI rp), .int bad, .int (nI 0), .int (nI sr), .int (nI sb), .int (nI (z 0))])), (d0, .inl (cI, 16384, .inl (uf B))), (d1, .inl (cI, 2, .inl (nf z))), (d2, .inl (cI, 600, .inl (nf S))), (d3, .inl (cI, 600, .inl (nf Ln))), (d4, .inl (cI, 38400, .inl (uf K))), (d5, .inl (cI, 600, .inl (nf gr))), (d6, .inl (cI, 600, .inl (nf gb))), (d7, .inl (cI, 16, .inl (nf nS))), (d8, .inl (cI, 16, .inl (nf nL))), (d9, .inl (cI, 1024, .inl (uf nK))), (d10, .inl (cI, 64, .inl (uf F)))] dX4_endGroup_87 ui_X4_endGroup_X4 tyX4_ok nmX4 rfl rfl (by decide) fl_X4_endGroup_70 rfl rfl rfl rfl (Nat.le_of_ble_eq_true rfl) rfl ?_
    refine x_iconst E (v := nI 0) dX4_endGroup_90 (by decide) ?_
    refine x_istore_n E [(2, .int (nI 0)), (1, .int (nI (6 + rsz nL 0 nr))), (0, .ref r0)] dX4_endGroup_91 (by decide) rfl ?_
    refine x_iconst E (v := nI 0) dX4_endGroup_92 (by decide) ?_
    refine x_istore_n E [(3, .int (nI 0)), (2, .int (nI 0)), (1, .int (nI (6 + rsz nL 0 nr))), (0, .ref r0)] dX4_endGroup_93 (by decide) rfl ?_
    refine x_lv [0, 1, 2, 3] rfl ?_
    exact rows nr 0 kn (z 0) (nI 0) B S Ln K (by omega) rfl rfl rfl rfl rfl rfl rfl
  have sizes : ∀ (k r a : Nat), r + k = nr → a + rsz nL r k = 6 + rsz nL 0 nr → Xs xp l xe rmX4_endGroup xs xm ([.ref r0] : List Value).toArray xb xt xc D vwCl xA 5 0 0 (MQ xb (CQ D vwCl (tyl cB cI cZ cJ) xA (fun r u => r = (some (.int (nI 1))) ∧ u = [(r0, .inr (4, [.ref d0, .ref d1, .ref d2, .ref d3, .ref d4, .int (nI (kn + nr)), .int (nI mv), .ref d5, .ref d6, .int (nI (ng + 1)), .ref d7, .ref d8, .ref d9, .int (nI 0), .ref d10, .int (nI fc), .int (if false = true then 1 else 0), .int (nI rp), .int bad, .int (nI 0), .int (nI sr), .int (nI sb), .int (nI (z 0 + (rsz nL 0 nr + 6)))])), (d0, .inl (cI, 16384, .inl (uf (app2 B (z 0) (nwB nS nL nK nr 0 kn ++ endB nr (nwSm nS nL nK nr 0 kn (nI 0))))))), (d1, .inl (cI, 2, .inl (nf (va_up (va_up z 0 (z 0 + (rsz nL 0 nr + 6))) 1 (z 0 + (rsz nL 0 nr + 6)))))), (d2, .inl (cI, 600, .inl (nf (mvN nS nr 0 kn S)))), (d3, .inl (cI, 600, .inl (nf (mvN nL nr 0 kn Ln)))), (d4, .inl (cI, 38400, .inl (uf (mvK nL nK nr 0 kn K)))), (d5, .inl (cI, 600, .inl (nf (va_up gr ng nr)))), (d6, .inl (cI, 600, .inl (nf (va_up gb ng (6 + rsz nL 0 nr))))), (d7, .inl (cI, 16, .inl (nf nS))), (d8, .inl (cI, 16, .inl (nf nL))), (d9, .inl (cI, 1024, .inl (uf nK))), (d10, .inl (cI, 64, .inl (uf F)))])) ([.ref r0] : List Value).toArray xs 0 0 xA) [(r0, .inr (4, [.ref d0, .ref d1, .ref d2, .ref d3, .ref d4, .int (nI kn), .int (nI mv), .ref d5, .ref d6, .int (nI ng), .ref d7, .ref d8, .ref d9, .int (nI nr), .ref d10, .int (nI fc), .int (if false = true then 1 else 0), .int (nI rp), .int bad, .int (nI 0), .int (nI sr), .int (nI sb), .int (nI at9)])), (d0, .inl (cI, 16384, .inl (uf B))), (d1, .inl (cI, 2, .inl (nf z))), (d2, .inl (cI, 600, .inl (nf S))), (d3, .inl (cI, 600, .inl (nf Ln))), (d4, .inl (cI, 38400, .inl (uf K))), (d5, .inl (cI, 600, .inl (nf gr))), (d6, .inl (cI, 600, .inl (nf gb))), (d7, .inl (cI, 16, .inl (nf nS))), (d8, .inl (cI, 16, .inl (nf nL))), (d9, .inl (cI, 1024, .inl (uf nK))), (d10, .inl (cI, 64, .inl (uf F)))] [(2, .int (nI r)), (1, .int (nI a)), (0, .ref r0)] 10 [] := by
    intro k
    induction k with
    | zero =>
      intro r a e1 e2
      have e2 : a = 6 + rsz nL 0 nr := e2
      have e1 : r = nr := e1
      subst e2
      refine x_iload_n E 0 dX4_endGroup_10 rfl ?_
      refine x_aload_n E 2 dX4_endGroup_11 rfl ?_
      refine x_get E 0 13 dX4_endGroup_12 ui_X4_endGroup_X4 rfl rfl (by decide) fl_X4_endGroup_59 rfl rfl ?_
      refine x_ncmp_ge E 36 dX4_endGroup_15 (by decide) (by omega) (by omega) (fun h15 => ?_) (fun h => False.elim (by omega))
      exact main r
    | succ k ih =>
      intro r a e1 e2
      rw [rsz_s] at e2
      refine x_iload_n E 0 dX4_endGroup_10 rfl ?_
      refine x_aload_n E 2 dX4_endGroup_11 rfl ?_
      refine x_get E 0 13 dX4_endGroup_12 ui_X4_endGroup_X4 rfl rfl (by decide) fl_X4_endGroup_59 rfl rfl ?_
      refine x_ncmp_ge E 36 dX4_endGroup_15 (by decide) (by omega) (by omega) (fun h => False.elim (by omega)) (fun h15 => ?_)
      refine x_iload_n E 1 dX4_endGroup_18 rfl ?_
      refine x_bipush E (v := nI 11) dX4_endGroup_19 (by decide) ?_
      refine x_aload_n E 2 dX4_endGroup_21 rfl ?_
      refine x_get E 0 11 dX4_endGroup_22 ui_X4_endGroup_X4 rfl rfl (by decide) fl_X4_endGroup_35 rfl rfl ?_
      refine x_iload_n E 0 dX4_endGroup_25 rfl ?_
      refine x_nald E 9 1 dX4_endGroup_26 rfl rfl (by omega) (by decide) ?_
      refine x_niadd E dX4_endGroup_27 ?_
      refine x_niadd E dX4_endGroup_28 ?_
      refine x_istore_n E [(1, .int (nI (a + (11 + (nL r))))), (2, .int (nI r)), (0, .ref r0)] dX4_endGroup_29 (by decide) rfl ?_
      refine x_iinc E 1 [(2, .int (nI (r + 1))), (1, .int (nI (a + (11 + (nL r))))), (0, .ref r0)] dX4_endGroup_30 rfl (nI_add _ _) (by decide) rfl ?_
      refine x_goto E 10 dX4_endGroup_33 (by decide) ?_
      refine x_lv [0, 1, 2] rfl ?_
      exact ih (r + 1) _ (by omega) (by omega)
  refine x_aload_n E 0 dX4_endGroup_0 rfl ?_
  refine x_iconst E (v := nI 0) dX4_endGroup_1 (by decide) ?_
  refine x_put E 0 19 [(r0, .inr (4, [.ref d0, .ref d1, .ref d2, .ref d3, .ref d4, .int (nI kn), .int (nI mv), .ref d5, .ref d6, .int (nI ng), .ref d7, .ref d8, .ref d9, .int (nI nr), .ref d10, .int (nI fc), .int (if false = true then 1 else 0), .int (nI rp), .int bad, .int (nI 0), .int (nI sr), .int (nI sb), .int (nI at9)])), (d0, .inl (cI, 16384, .inl (uf B))), (d1, .inl (cI, 2, .inl (nf z))), (d2, .inl (cI, 600, .inl (nf S))), (d3, .inl (cI, 600, .inl (nf Ln))), (d4, .inl (cI, 38400, .inl (uf K))), (d5, .inl (cI, 600, .inl (nf gr))), (d6, .inl (cI, 600, .inl (nf gb))), (d7, .inl (cI, 16, .inl (nf nS))), (d8, .inl (cI, 16, .inl (nf nL))), (d9, .inl (cI, 1024, .inl (uf nK))), (d10, .inl (cI, 64, .inl (uf F)))] dX4_endGroup_2 ui_X4_endGroup_X4 tyX4_ok nmX4 rfl rfl (by decide) fl_X4_endGroup_48 rfl rfl rfl rfl (Nat.le_of_ble_eq_true rfl) rfl ?_
  refine x_bipush E (v := nI 6) dX4_endGroup_5 (by decide) ?_
  refine x_istore_n E [(1, .int (nI 6)), (0, .ref r0)] dX4_endGroup_7 (by decide) rfl ?_
  refine x_iconst E (v := nI 0) dX4_endGroup_8 (by decide) ?_
  refine x_istore_n E [(2, .int (nI 0)), (1, .int (nI 6)), (0, .ref r0)] dX4_endGroup_9 (by decide) rfl ?_
  exact sizes nr 0 6 (by omega) rfl
