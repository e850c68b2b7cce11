abbrev rmX4_areSame : Room := { frames := 0, cells := 0, slots := 0, locals := 0 }
abbrev rmX4_byteAt : Room := { frames := 0, cells := 0, slots := 0, locals := 0 }
abbrev rmX4_number : Room := { frames := 0, cells := 0, slots := 0, locals := 0 }
abbrev rmX4_rows : Room := { frames := 0, cells := 0, slots := 0, locals := 0 }
abbrev rmX4_same : Room := { frames := 1, cells := 0, slots := 0, locals := 24 }
abbrev rmX4_sumOf : Room := { frames := 1, cells := 0, slots := 0, locals := 22 }
theorem fl_X4_areSame_13 : Cond.fieldLink RX4 13 "MirrorLogModel" "sizes" "[I" ∈ wsX4_areSame := by decide +kernel
theorem ui_X4_areSame_X4 : ∀ w ∈ wsX40, w ∈ wsX4_areSame := by decide +kernel
theorem fl_X4_areSame_9 : Cond.fieldLink RX4 9 "MirrorLogModel" "bytes" "[I" ∈ wsX4_areSame := by decide +kernel
theorem fl_X4_same_48 : Cond.fieldLink RX4 48 "MirrorLogModel" "thrown" "I" ∈ wsX4_same := by decide +kernel
theorem ui_X4_same_X4 : ∀ w ∈ wsX40, w ∈ wsX4_same := by decide +kernel
theorem fl_X4_same_13 : Cond.fieldLink RX4 13 "MirrorLogModel" "sizes" "[I" ∈ wsX4_same := by decide +kernel
theorem fl_X4_number_9 : Cond.fieldLink RX4 9 "MirrorLogModel" "bytes" "[I" ∈ wsX4_number := by decide +kernel
theorem ui_X4_number_X4 : ∀ w ∈ wsX40, w ∈ wsX4_number := by decide +kernel
theorem fl_X4_sumOf_9 : Cond.fieldLink RX4 9 "MirrorLogModel" "bytes" "[I" ∈ wsX4_sumOf := by decide +kernel
theorem ui_X4_sumOf_X4 : ∀ w ∈ wsX40, w ∈ wsX4_sumOf := by decide +kernel
theorem fl_X4_byteAt_48 : Cond.fieldLink RX4 48 "MirrorLogModel" "thrown" "I" ∈ wsX4_byteAt := by decide +kernel
theorem ui_X4_byteAt_X4 : ∀ w ∈ wsX40, w ∈ wsX4_byteAt := by decide +kernel
theorem fl_X4_byteAt_62 : Cond.fieldLink RX4 62 "MirrorLogModel" "known" "I" ∈ wsX4_byteAt := by decide +kernel
theorem fl_X4_byteAt_19 : Cond.fieldLink RX4 19 "MirrorLogModel" "lengths" "[I" ∈ wsX4_byteAt := by decide +kernel
theorem fl_X4_byteAt_23 : Cond.fieldLink RX4 23 "MirrorLogModel" "contents" "[I" ∈ wsX4_byteAt := by decide +kernel
theorem fl_X4_rows_62 : Cond.fieldLink RX4 62 "MirrorLogModel" "known" "I" ∈ wsX4_rows := by decide +kernel
theorem ui_X4_rows_X4 : ∀ w ∈ wsX40, w ∈ wsX4_rows := by decide +kernel
theorem fl_X4_rows_16 : Cond.fieldLink RX4 16 "MirrorLogModel" "seconds" "[I" ∈ wsX4_rows := by decide +kernel
theorem cn_X4_rows_121 : Jvm.Cond.constant RX4 121 (2592000) ∈ wsX4_rows := by decide +kernel
theorem fl_X4_rows_48 : Cond.fieldLink RX4 48 "MirrorLogModel" "thrown" "I" ∈ wsX4_rows := by decide +kernel
def sameR (B : Nat → UInt8) (z : Nat → Nat) : Bool := if arS B z 0 (z 0 - 0) = true then decide (z 0 = z 1) else false
/-- what the group's rows take, k from r on -/
def szR (nL : Nat → Nat) : Nat → Nat → Nat → Nat
  | 0, _, a => a
  | k + 1, r, a => szR nL k (r + 1) (a + (11 + nL r))
theorem szR_s (nL : Nat → Nat) (k r a : Nat) : szR nL (k + 1) r a = szR nL k (r + 1) (a + (11 + nL r)) := rfl
theorem szR_e (nL : Nat → Nat) : ∀ (k r a : Nat), szR nL k r a = a + rsz nL r k
  | 0, _, _ => rfl
  | k + 1, r, a => by rw [szR_s, szR_e nL k, rsz_s]; omega
/-- the group's rows in the files: k from i on, numbers from m on; and the last one's sum -/
def nwB (nS nL : Nat → Nat) (nK : Nat → UInt8) : Nat → Nat → Nat → List UInt8
  | 0, _, _ => []
  | k + 1, i, m => rowB m (nS i) (nL i) nK (i * 64) ++ nwB nS nL nK k (i + 1) (m + 1)
def nwSm (nS nL : Nat → Nat) (nK : Nat → UInt8) : Nat → Nat → Nat → Int32 → Int32
  | 0, _, _, s => s
  | k + 1, i, m, _ => nwSm nS nL nK k (i + 1) (m + 1) (rowSm m (nS i) (nL i) nK (i * 64))
theorem nwB_s (nS nL : Nat → Nat) (nK : Nat → UInt8) (k i m : Nat) : nwB nS nL nK (k + 1) i m = rowB m (nS i) (nL i) nK (i * 64) ++ nwB nS nL nK k (i + 1) (m + 1) := rfl
theorem nwSm_s (nS nL : Nat → Nat) (nK : Nat → UInt8) (k i m : Nat) (s : Int32) : nwSm nS nL nK (k + 1) i m s = nwSm nS nL nK k (i + 1) (m + 1) (rowSm m (nS i) (nL i) nK (i * 64)) := rfl
theorem nwB_len (nS nL : Nat → Nat) (nK : Nat → UInt8) : ∀ (k i m : Nat), (nwB nS nL nK k i m).length = rsz nL i k
  | 0, _, _ => rfl
  | k + 1, i, m => by rw [nwB_s, List.length_append, rowB_len, nwB_len nS nL nK k, rsz_s]; omega
/-- the rows come to the known ones -/
def mvN (f : Nat → Nat) : Nat → Nat → Nat → (Nat → Nat) → Nat → Nat
  | 0, _, _, S => S
  | k + 1, i, m, S => mvN f k (i + 1) (m + 1) (va_up S m (f i))
def mvK (nL : Nat → Nat) (nK : Nat → UInt8) : Nat → Nat → Nat → (Nat → UInt8) → Nat → UInt8
  | 0, _, _, K => K
  | k + 1, i, m, K => mvK nL nK k (i + 1) (m + 1) (app K (m * 64) (conL nK (i * 64) (nL i)))
theorem itL_app (f : Int32 → UInt8 → Int32) (l1 l2 : List UInt8) : ∀ s, itL f (l1 ++ l2) s = itL f l2 (itL f l1 s) := by
  induction l1 with
  | nil => intro s; rfl
  | cons b r ih => intro s; rw [List.cons_append, itL_s, itL_s, ih]
theorem smL_app (l1 l2 : List UInt8) (s : Int32) : smL (l1 ++ l2) s = smL l2 (smL l1 s) := itL_app sm l1 l2 s
theorem smL_c (b : UInt8) (r : List UInt8) (s : Int32) : smL (b :: r) s = smL r (sm s b) := itL_s sm b r s
theorem smL_n (s : Int32) : smL [] s = s := rfl
theorem beL4 (v : Int32) : beL v 4 = [byt v 3, byt v 2, byt v 1, byt v 0] := rfl
theorem beL2 (v : Int32) : beL v 2 = [byt v 1, byt v 0] := rfl
set_option maxRecDepth 100000 in
set_option maxHeartbeats 4000000 in
theorem c_X4_areSame (l : Launch) (D : va_G) (cB cI cZ cJ : ClassId) (r0 : Nat) (d0 : Nat) (d1 : Nat) (d2 : Nat) (d3 : Nat) (d4 : Nat) (d5 : Nat) (d6 : Nat) (d7 : Nat) (d8 : Nat) (d9 : Nat) (d10 : Nat) (kn : Nat) (mv : Nat) (ng : Nat) (nr : Nat) (fc : Nat) (sh : Bool) (rp : Nat) (bad : Int32) (th : Nat) (sr : Nat) (sb : Nat) (at9 : Nat) (B : Nat → UInt8) (z : Nat → Nat) (S : Nat → Nat) (Ln : Nat → Nat) (K : Nat → UInt8) (gr : Nat → Nat) (gb : Nat → Nat) (nS : Nat → Nat) (nL : Nat → Nat) (nK : Nat → UInt8) (F : Nat → UInt8) (p0 : Nat) (q0 : Nat) (hz0 : z 0 ≤ 8192) (hz1 : z 1 ≤ 8192) (hp : p0 ≤ q0) (hq : q0 < 2 ^ 30) : Ct l D vwCl (tyl cB cI cZ cJ) yX4_areSame wsX4_areSame rmX4_areSame [.ref r0, .int (nI p0), .int (nI q0)] [(r0, .inr (4, [.ref d0, .ref d1, .ref d2, .ref d3, .ref d4, .int (nI kn), .int (nI mv), .ref d5, .ref d6, .int (nI ng), .ref d7, .ref d8, .ref d9, .int (nI nr), .ref d10, .int (nI fc), .int (if sh = true then 1 else 0), .int (nI rp), .int bad, .int (nI th), .int (nI sr), .int (nI sb), .int (nI at9)])), (d0, .inl (cI, 16384, .inl (uf B))), (d1, .inl (cI, 2, .inl (nf z))), (d2, .inl (cI, 600, .inl (nf S))), (d3, .inl (cI, 600, .inl (nf Ln))), (d4, .inl (cI, 38400, .inl (uf K))), (d5, .inl (cI, 600, .inl (nf gr))), (d6, .inl (cI, 600, .inl (nf gb))), (d7, .inl (cI, 16, .inl (nf nS))), (d8, .inl (cI, 16, .inl (nf nL))), (d9, .inl (cI, 1024, .inl (uf nK))), (d10, .inl (cI, 64, .inl (uf F)))] (some (.int (if arS B z p0 (q0 - p0) = true then 1 else 0))) [(r0, .inr (4, [.ref d0, .ref d1, .ref d2, .ref d3, .ref d4, .int (nI kn), .int (nI mv), .ref d5, .ref d6, .int (nI ng), .ref d7, .ref d8, .ref d9, .int (nI nr), .ref d10, .int (nI fc), .int (if sh = true then 1 else 0), .int (nI rp), .int bad, .int (nI th), .int (nI sr), .int (nI sb), .int (nI at9)])), (d0, .inl (cI, 16384, .inl (uf B))), (d1, .inl (cI, 2, .inl (nf z))), (d2, .inl (cI, 600, .inl (nf S))), (d3, .inl (cI, 600, .inl (nf Ln))), (d4, .inl (cI, 38400, .inl (uf K))), (d5, .inl (cI, 600, .inl (nf gr))), (d6, .inl (cI, 600, .inl (nf gb))), (d7, .inl (cI, 16, .inl (nf nS))), (d8, .inl (cI, 16, .inl (nf nL))), (d9, .inl (cI, 1024, .inl (uf nK))), (d10, .inl (cI, 64, .inl (uf F)))] := by
  refine x_start (cc := cX4_areSame) (maxL := 5) (ret := (some .boolean)) (by decide) rfl (Nat.le_of_ble_eq_true rfl) ?_
  intro xp xe xs xm xb xt xc xA E hr hlocks hnm
  obtain ⟨-, -, -, hown, hts, hK, hA⟩ := id E
  refine x_lve (lv' := [(0, .ref r0), (1, .int (nI p0)), (2, .int (nI q0))]) rfl ?_
  have loop : ∀ (j i : Nat), i + j = q0 → arS B z i j = arS B z p0 (q0 - p0) → Xs xp l xe rmX4_areSame xs xm ([.ref r0, .int (nI p0), .int (nI q0)] : List Value).toArray xb xt xc D vwCl xA 5 0 0 (MQ xb (CQ D vwCl (tyl cB cI cZ cJ) xA (fun r u => r = (some (.int (if arS B z p0 (q0 - p0) = true then 1 else 0))) ∧ u = [(r0, .inr (4, [.ref d0, .ref d1, .ref d2, .ref d3, .ref d4, .int (nI kn), .int (nI mv), .ref d5, .ref d6, .int (nI ng), .ref d7, .ref d8, .ref d9, .int (nI nr), .ref d10, .int (nI fc), .int (if sh = true then 1 else 0), .int (nI rp), .int bad, .int (nI th), .int (nI sr), .int (nI sb), .int (nI at9)])), (d0, .inl (cI, 16384, .inl (uf B))), (d1, .inl (cI, 2, .inl (nf z))), (d2, .inl (cI, 600, .inl (nf S))), (d3, .inl (cI, 600, .inl (nf Ln))), (d4, .inl (cI, 38400, .inl (uf K))), (d5, .inl (cI, 600, .inl (nf gr))), (d6, .inl (cI, 600, .inl (nf gb))), (d7, .inl (cI, 16, .inl (nf nS))), (d8, .inl (cI, 16, .inl (nf nL))), (d9, .inl (cI, 1024, .inl (uf nK))), (d10, .inl (cI, 64, .inl (uf F)))])) ([.ref r0, .int (nI p0), .int (nI q0)] : List Value).toArray xs 0 0 xA) [(r0, .inr (4, [.ref d0, .ref d1, .ref d2, .ref d3, .ref d4, .int (nI kn), .int (nI mv), .ref d5, .ref d6, .int (nI ng), .ref d7, .ref d8, .ref d9, .int (nI nr), .ref d10, .int (nI fc), .int (if sh = true then 1 else 0), .int (nI rp), .int bad, .int (nI th), .int (nI sr), .int (nI sb), .int (nI at9)])), (d0, .inl (cI, 16384, .inl (uf B))), (d1, .inl (cI, 2, .inl (nf z))), (d2, .inl (cI, 600, .inl (nf S))), (d3, .inl (cI, 600, .inl (nf Ln))), (d4, .inl (cI, 38400, .inl (uf K))), (d5, .inl (cI, 600, .inl (nf gr))), (d6, .inl (cI, 600, .inl (nf gb))), (d7, .inl (cI, 16, .inl (nf nS))), (d8, .inl (cI, 16, .inl (nf nL))), (d9, .inl (cI, 1024, .inl (uf nK))), (d10, .inl (cI, 64, .inl (uf F)))] [(4, .int (nI i)), (3, .int (nI 1)), (0, .ref r0), (1, .int (nI p0)), (2, .int (nI q0))] 5 [] := by
    intro j
    induction j with
    | zero =>
      intro i e1 e2
      refine x_iload E 0 dX4_areSame_5 rfl ?_
      refine x_iload_n E 4 dX4_areSame_7 rfl ?_
      refine x_ncmp_ge E 70 dX4_areSame_8 (by decide) (by omega) (by omega) (fun h8 => ?_) (fun h => False.elim (by omega))
      refine x_iload_n E 1 dX4_areSame_70 rfl ?_
      exact x_zret E hr hlocks dX4_areSame_71 rfl ⟨q_t' e2.symm, rfl⟩
    | succ j ih =>
      intro i e1 e2
      refine x_iload E 0 dX4_areSame_5 rfl ?_
      refine x_iload_n E 4 dX4_areSame_7 rfl ?_
      refine x_ncmp_ge E 70 dX4_areSame_8 (by decide) (by omega) (by omega) (fun h => False.elim (by omega)) (fun h8 => ?_)
      refine x_iload_n E 1 dX4_areSame_11 rfl ?_
      refine x_nif_eq E 70 dX4_areSame_12 (by decide) (by decide) (fun h => False.elim (by omega)) (fun h12 => ?_)
      refine x_iload E 0 dX4_areSame_15 rfl ?_
      refine x_aload_n E 2 dX4_areSame_17 rfl ?_
      refine x_get E 0 1 dX4_areSame_18 ui_X4_areSame_X4 rfl rfl (by decide) fl_X4_areSame_13 rfl rfl ?_
      refine x_iconst E (v := nI 0) dX4_areSame_21 (by decide) ?_
      refine x_nald E 2 1 dX4_areSame_22 rfl rfl (by omega) (by decide) ?_
      refine x_ncmp_ge E 62 dX4_areSame_23 (by decide) (by omega) (by omega) (fun h23 => ?_) (fun h23 => ?_)
      · refine x_iconst E (v := nI 0) dX4_areSame_62 (by decide) ?_
        refine x_istore_n E [(3, .int (nI 0)), (4, .int (nI i)), (0, .ref r0), (1, .int (nI p0)), (2, .int (nI q0))] dX4_areSame_63 (by decide) rfl ?_
        refine x_iinc E 1 [(4, .int (nI (i + 1))), (3, .int (nI 0)), (0, .ref r0), (1, .int (nI p0)), (2, .int (nI q0))] dX4_areSame_64 rfl (nI_add _ _) (by decide) rfl ?_
        refine x_goto E 5 dX4_areSame_67 (by decide) ?_
        refine x_iload E 0 dX4_areSame_5 rfl ?_
        refine x_iload_n E 4 dX4_areSame_7 rfl ?_
        refine x_ncmp_ge E 70 dX4_areSame_8 (by decide) (by omega) (by omega) (fun h8 => ?_) (fun h8 => ?_)
        · refine x_iload_n E 1 dX4_areSame_70 rfl ?_
          exact x_zret E hr hlocks dX4_areSame_71 rfl ⟨q_f' (by rw [← e2, arS_s, if_neg (fun q => by first | omega | exact h55 (congrArg UInt8.toNat q.2.2))]), rfl⟩
        · refine x_iload_n E 1 dX4_areSame_11 rfl ?_
          refine x_nif_eq E 70 dX4_areSame_12 (by decide) (by decide) (fun h12 => ?_) (fun h => absurd h (fun h => h rfl))
          refine x_iload_n E 1 dX4_areSame_70 rfl ?_
          exact x_zret E hr hlocks dX4_areSame_71 rfl ⟨q_f' (by rw [← e2, arS_s, if_neg (fun q => by first | omega | exact h55 (congrArg UInt8.toNat q.2.2))]), rfl⟩
      · refine x_iload E 0 dX4_areSame_26 rfl ?_
        refine x_aload_n E 2 dX4_areSame_28 rfl ?_
        refine x_get E 0 1 dX4_areSame_29 ui_X4_areSame_X4 rfl rfl (by decide) fl_X4_areSame_13 rfl rfl ?_
        refine x_iconst E (v := nI 1) dX4_areSame_32 (by decide) ?_
        refine x_nald E 2 1 dX4_areSame_33 rfl rfl (by omega) (by decide) ?_
        refine x_ncmp_ge E 62 dX4_areSame_34 (by decide) (by omega) (by omega) (fun h34 => ?_) (fun h34 => ?_)
        · refine x_iconst E (v := nI 0) dX4_areSame_62 (by decide) ?_
          refine x_istore_n E [(3, .int (nI 0)), (4, .int (nI i)), (0, .ref r0), (1, .int (nI p0)), (2, .int (nI q0))] dX4_areSame_63 (by decide) rfl ?_
          refine x_iinc E 1 [(4, .int (nI (i + 1))), (3, .int (nI 0)), (0, .ref r0), (1, .int (nI p0)), (2, .int (nI q0))] dX4_areSame_64 rfl (nI_add _ _) (by decide) rfl ?_
          refine x_goto E 5 dX4_areSame_67 (by decide) ?_
          refine x_iload E 0 dX4_areSame_5 rfl ?_
          refine x_iload_n E 4 dX4_areSame_7 rfl ?_
          refine x_ncmp_ge E 70 dX4_areSame_8 (by decide) (by omega) (by omega) (fun h8 => ?_) (fun h8 => ?_)
          · refine x_iload_n E 1 dX4_areSame_70 rfl ?_
            exact x_zret E hr hlocks dX4_areSame_71 rfl ⟨q_f' (by rw [← e2, arS_s, if_neg (fun q => by first | omega | exact h55 (congrArg UInt8.toNat q.2.2))]), rfl⟩
          · refine x_iload_n E 1 dX4_areSame_11 rfl ?_
            refine x_nif_eq E 70 dX4_areSame_12 (by decide) (by decide) (fun h12 => ?_) (fun h => absurd h (fun h => h rfl))
            refine x_iload_n E 1 dX4_areSame_70 rfl ?_
            exact x_zret E hr hlocks dX4_areSame_71 rfl ⟨q_f' (by rw [← e2, arS_s, if_neg (fun q => by first | omega | exact h55 (congrArg UInt8.toNat q.2.2))]), rfl⟩
        · refine x_aload_n E 2 dX4_areSame_37 rfl ?_
          refine x_get E 0 0 dX4_areSame_38 ui_X4_areSame_X4 rfl rfl (by decide) fl_X4_areSame_9 rfl rfl ?_
          refine x_iload E 0 dX4_areSame_41 rfl ?_
          refine x_uald E 1 1 dX4_areSame_43 rfl rfl (by omega) (by decide) ?_
          refine x_aload_n E 2 dX4_areSame_44 rfl ?_
          refine x_get E 0 0 dX4_areSame_45 ui_X4_areSame_X4 rfl rfl (by decide) fl_X4_areSame_9 rfl rfl ?_
          refine x_sipush E (v := nI 8192) dX4_areSame_48 (by decide) ?_
          refine x_iload E 0 dX4_areSame_51 rfl ?_
          refine x_niadd E dX4_areSame_53 ?_
          refine x_uald E 1 1 dX4_areSame_54 rfl rfl (by omega) (by decide) ?_
          refine x_ncmp_ne E 62 dX4_areSame_55 (by decide) (u8lt (B i)) (u8lt (B (8192 + i))) (fun h55 => ?_) (fun h55 => ?_)
          · refine x_iconst E (v := nI 0) dX4_areSame_62 (by decide) ?_
            refine x_istore_n E [(3, .int (nI 0)), (4, .int (nI i)), (0, .ref r0), (1, .int (nI p0)), (2, .int (nI q0))] dX4_areSame_63 (by decide) rfl ?_
            refine x_iinc E 1 [(4, .int (nI (i + 1))), (3, .int (nI 0)), (0, .ref r0), (1, .int (nI p0)), (2, .int (nI q0))] dX4_areSame_64 rfl (nI_add _ _) (by decide) rfl ?_
            refine x_goto E 5 dX4_areSame_67 (by decide) ?_
            refine x_iload E 0 dX4_areSame_5 rfl ?_
            refine x_iload_n E 4 dX4_areSame_7 rfl ?_
            refine x_ncmp_ge E 70 dX4_areSame_8 (by decide) (by omega) (by omega) (fun h8 => ?_) (fun h8 => ?_)
            · refine x_iload_n E 1 dX4_areSame_70 rfl ?_
              exact x_zret E hr hlocks dX4_areSame_71 rfl ⟨q_f' (by rw [← e2, arS_s, if_neg (fun q => by first | omega | exact h55 (congrArg UInt8.toNat q.2.2))]), rfl⟩
            · refine x_iload_n E 1 dX4_areSame_11 rfl ?_
              refine x_nif_eq E 70 dX4_areSame_12 (by decide) (by decide) (fun h12 => ?_) (fun h => absurd h (fun h => h rfl))
              refine x_iload_n E 1 dX4_areSame_70 rfl ?_
              exact x_zret E hr hlocks dX4_areSame_71 rfl ⟨q_f' (by rw [← e2, arS_s, if_neg (fun q => by first | omega | exact h55 (congrArg UInt8.toNat q.2.2))]), rfl⟩
          · refine x_iconst E (v := nI 1) dX4_areSame_58 (by decide) ?_
            refine x_goto E 63 dX4_areSame_59 (by decide) ?_
            refine x_istore_n E [(3, .int (nI 1)), (4, .int (nI i)), (0, .ref r0), (1, .int (nI p0)), (2, .int (nI q0))] dX4_areSame_63 (by decide) rfl ?_
            refine x_iinc E 1 [(4, .int (nI (i + 1))), (3, .int (nI 1)), (0, .ref r0), (1, .int (nI p0)), (2, .int (nI q0))] dX4_areSame_64 rfl (nI_add _ _) (by decide) rfl ?_
            refine x_goto E 5 dX4_areSame_67 (by decide) ?_
            refine x_lv [0, 1, 2, 3, 4] rfl ?_
            exact ih (i + 1) (by omega) (by rw [← e2, arS_s, if_pos ⟨by omega, by omega, UInt8.toNat_inj.mp h55⟩])
  refine x_iconst E (v := nI 1) dX4_areSame_0 (by decide) ?_
  refine x_istore_n E [(3, .int (nI 1)), (0, .ref r0), (1, .int (nI p0)), (2, .int (nI q0))] dX4_areSame_1 (by decide) rfl ?_
  refine x_iload_n E 2 dX4_areSame_2 rfl ?_
  refine x_istore E [(4, .int (nI p0)), (3, .int (nI 1)), (0, .ref r0), (1, .int (nI p0)), (2, .int (nI q0))] dX4_areSame_3 (by decide) rfl ?_
  exact loop (q0 - p0) p0 (by omega) rfl
set_option maxRecDepth 100000 in
set_option maxHeartbeats 4000000 in
theorem c_X4_same (l : Launch) (D : va_G) (cB cI cZ cJ : ClassId) (r0 : Nat) (d0 : Nat) (d1 : Nat) (d2 : Nat) (d3 : Nat) (d4 : Nat) (d5 : Nat) (d6 : Nat) (d7 : Nat) (d8 : Nat) (d9 : Nat) (d10 : Nat) (kn : Nat) (mv : Nat) (ng : Nat) (nr : Nat) (fc : Nat) (sh : Bool) (rp : Nat) (bad : Int32) (th : Nat) (sr : Nat) (sb : Nat) (at9 : Nat) (B : Nat → UInt8) (z : Nat → Nat) (S : Nat → Nat) (Ln : Nat → Nat) (K : Nat → UInt8) (gr : Nat → Nat) (gb : Nat → Nat) (nS : Nat → Nat) (nL : Nat → Nat) (nK : Nat → UInt8) (F : Nat → UInt8) (hz0 : z 0 ≤ 8192) (hz1 : z 1 ≤ 8192) : Ct l D vwCl (tyl cB cI cZ cJ) yX4_same wsX4_same rmX4_same [.ref r0] [(r0, .inr (4, [.ref d0, .ref d1, .ref d2, .ref d3, .ref d4, .int (nI kn), .int (nI mv), .ref d5, .ref d6, .int (nI ng), .ref d7, .ref d8, .ref d9, .int (nI nr), .ref d10, .int (nI fc), .int (if sh = true then 1 else 0), .int (nI rp), .int bad, .int (nI th), .int (nI sr), .int (nI sb), .int (nI at9)])), (d0, .inl (cI, 16384, .inl (uf B))), (d1, .inl (cI, 2, .inl (nf z))), (d2, .inl (cI, 600, .inl (nf S))), (d3, .inl (cI, 600, .inl (nf Ln))), (d4, .inl (cI, 38400, .inl (uf K))), (d5, .inl (cI, 600, .inl (nf gr))), (d6, .inl (cI, 600, .inl (nf gb))), (d7, .inl (cI, 16, .inl (nf nS))), (d8, .inl (cI, 16, .inl (nf nL))), (d9, .inl (cI, 1024, .inl (uf nK))), (d10, .inl (cI, 64, .inl (uf F)))] (some (.int (if sameR B z = true then 1 else 0))) [(r0, .inr (4, [.ref d0, .ref d1, .ref d2, .ref d3, .ref d4, .int (nI kn), .int (nI mv), .ref d5, .ref d6, .int (nI ng), .ref d7, .ref d8, .ref d9, .int (nI nr), .ref d10, .int (nI fc), .int (if sh = true then 1 else 0), .int (nI rp), .int bad, .int (nI 0), .int (nI sr), .int (nI sb), .int (nI at9)])), (d0, .inl (cI, 16384, .inl (uf B))), (d1, .inl (cI, 2, .inl (nf z))), (d2, .inl (cI, 600, .inl (nf S))), (d3, .inl (cI, 600, .inl (nf Ln))), (d4, .inl (cI, 38400, .inl (uf K))), (d5, .inl (cI, 600, .inl (nf gr))), (d6, .inl (cI, 600, .inl (nf gb))), (d7, .inl (cI, 16, .inl (nf nS))), (d8, .inl (cI, 16, .inl (nf nL))), (d9, .inl (cI, 1024, .inl (uf nK))), (d10, .inl (cI, 64, .inl (uf F)))] := by
  refine x_start (cc := cX4_same) (maxL := 1) (ret := (some .boolean)) (by decide) rfl (Nat.le_of_ble_eq_true rfl) ?_
  intro xp xe xs xm xb xt xc xA E hr hlocks hnm
  obtain ⟨-, -, -, hown, hts, hK, hA⟩ := id E
  refine x_lve (lv' := [(0, .ref r0)]) rfl ?_
  refine x_aload_n E 0 dX4_same_0 rfl ?_
  refine x_iconst E (v := nI 0) dX4_same_1 (by decide) ?_
  refine x_put E 0 19 [(r0, .inr (4, [.ref d0, .ref d1, .ref d2, .ref d3, .ref d4, .int (nI kn), .int (nI mv), .ref d5, .ref d6, .int (nI ng), .ref d7, .ref d8, .ref d9, .int (nI nr), .ref d10, .int (nI fc), .int (if sh = true then 1 else 0), .int (nI rp), .int bad, .int (nI 0), .int (nI sr), .int (nI sb), .int (nI at9)])), (d0, .inl (cI, 16384, .inl (uf B))), (d1, .inl (cI, 2, .inl (nf z))), (d2, .inl (cI, 600, .inl (nf S))), (d3, .inl (cI, 600, .inl (nf Ln))), (d4, .inl (cI, 38400, .inl (uf K))), (d5, .inl (cI, 600, .inl (nf gr))), (d6, .inl (cI, 600, .inl (nf gb))), (d7, .inl (cI, 16, .inl (nf nS))), (d8, .inl (cI, 16, .inl (nf nL))), (d9, .inl (cI, 1024, .inl (uf nK))), (d10, .inl (cI, 64, .inl (uf F)))] dX4_same_2 ui_X4_same_X4 tyX4_ok nmX4 rfl rfl (by decide) fl_X4_same_48 rfl rfl rfl rfl (Nat.le_of_ble_eq_true rfl) rfl ?_
  refine x_aload_n E 0 dX4_same_5 rfl ?_
  refine x_iconst E (v := nI 0) dX4_same_6 (by decide) ?_
  refine x_aload_n E 0 dX4_same_7 rfl ?_
  refine x_get E 0 1 dX4_same_8 ui_X4_same_X4 rfl rfl (by decide) fl_X4_same_13 rfl rfl ?_
  refine x_iconst E (v := nI 0) dX4_same_11 (by decide) ?_
  refine x_nald E 2 1 dX4_same_12 rfl rfl (by omega) (by decide) ?_
  refine x_cV E [.int (nI 0), .int (nI (z 0))] [] [.int (if arS B z 0 ((z 0) - 0) = true then 1 else 0)] [(r0, .inr (4, [.ref d0, .ref d1, .ref d2, .ref d3, .ref d4, .int (nI kn), .int (nI mv), .ref d5, .ref d6, .int (nI ng), .ref d7, .ref d8, .ref d9, .int (nI nr), .ref d10, .int (nI fc), .int (if sh = true then 1 else 0), .int (nI rp), .int bad, .int (nI 0), .int (nI sr), .int (nI sb), .int (nI at9)])), (d0, .inl (cI, 16384, .inl (uf B))), (d1, .inl (cI, 2, .inl (nf z))), (d2, .inl (cI, 600, .inl (nf S))), (d3, .inl (cI, 600, .inl (nf Ln))), (d4, .inl (cI, 38400, .inl (uf K))), (d5, .inl (cI, 600, .inl (nf gr))), (d6, .inl (cI, 600, .inl (nf gb))), (d7, .inl (cI, 16, .inl (nf nS))), (d8, .inl (cI, 16, .inl (nf nL))), (d9, .inl (cI, 1024, .inl (uf nK))), (d10, .inl (cI, 64, .inl (uf F)))] (c_X4_areSame l D cB cI cZ cJ r0 d0 d1 d2 d3 d4 d5 d6 d7 d8 d9 d10 kn mv ng nr fc sh rp bad 0 sr sb at9 B z S Ln K gr gb nS nL nK F 0 (z 0) (by omega) (by omega) (by omega) (by omega)) 0 rfl rfl (cwV 2 hts gX4_same_X4_areSame rfl rfl rfl (by decide +kernel) ⟨Nat.le_of_ble_eq_true rfl, Nat.le_of_ble_eq_true rfl⟩) [0, 1, 2, 3, 4, 5, 6, 7, 8, 9, 10, 11] [] rfl rfl (by decide) (by decide) (by decide) [0, 1, 2, 3, 4, 5, 6, 7, 8, 9, 10, 11] (by decide) rfl rfl (Nat.le_of_ble_eq_true rfl) dX4_same_13 ⟨Nat.zero_le _, Nat.zero_le _⟩ rfl rfl ?_
  refine x_qif_eq E 38 dX4_same_16 (by decide) (fun h16 => ?_) (fun h16 => ?_)
  · refine x_iconst E (v := nI 0) dX4_same_38 (by decide) ?_
    exact x_zret E hr hlocks dX4_same_39 rfl ⟨q_f' (by unfold sameR; first | (rw [if_neg (by rw [h16]; decide)]; done) | (rw [if_pos h16]; exact decide_eq_false h31)), rfl⟩
  · refine x_aload_n E 0 dX4_same_19 rfl ?_
    refine x_get E 0 1 dX4_same_20 ui_X4_same_X4 rfl rfl (by decide) fl_X4_same_13 rfl rfl ?_
    refine x_iconst E (v := nI 0) dX4_same_23 (by decide) ?_
    refine x_nald E 2 1 dX4_same_24 rfl rfl (by omega) (by decide) ?_
    refine x_aload_n E 0 dX4_same_25 rfl ?_
    refine x_get E 0 1 dX4_same_26 ui_X4_same_X4 rfl rfl (by decide) fl_X4_same_13 rfl rfl ?_
    refine x_iconst E (v := nI 1) dX4_same_29 (by decide) ?_
    refine x_nald E 2 1 dX4_same_30 rfl rfl (by omega) (by decide) ?_
    refine x_ncmp_ne E 38 dX4_same_31 (by decide) (by omega) (by omega) (fun h31 => ?_) (fun h31 => ?_)
    · refine x_iconst E (v := nI 0) dX4_same_38 (by decide) ?_
      exact x_zret E hr hlocks dX4_same_39 rfl ⟨q_f' (by unfold sameR; first | (rw [if_neg (by rw [h16]; decide)]; done) | (rw [if_pos h16]; exact decide_eq_false h31)), rfl⟩
    · refine x_iconst E (v := nI 1) dX4_same_34 (by decide) ?_
      refine x_goto E 39 dX4_same_35 (by decide) ?_
      exact x_zret E hr hlocks dX4_same_39 rfl ⟨q_t' (by unfold sameR; rw [if_pos h16]; exact decide_eq_true h31), rfl⟩
set_option maxRecDepth 100000 in
set_option maxHeartbeats 4000000 in
theorem c_X4_number (l : Launch) (D : va_G) (cB cI cZ cJ : ClassId) (r0 : Nat) (d0 : Nat) (d1 : Nat) (d2 : Nat) (d3 : Nat) (d4 : Nat) (d5 : Nat) (d6 : Nat) (d7 : Nat) (d8 : Nat) (d9 : Nat) (d10 : Nat) (kn : Nat) (mv : Nat) (ng : Nat) (nr : Nat) (fc : Nat) (sh : Bool) (rp : Nat) (bad : Int32) (th : Nat) (sr : Nat) (sb : Nat) (at9 : Nat) (B : Nat → UInt8) (z : Nat → Nat) (S : Nat → Nat) (Ln : Nat → Nat) (K : Nat → UInt8) (gr : Nat → Nat) (gb : Nat → Nat) (nS : Nat → Nat) (nL : Nat → Nat) (nK : Nat → UInt8) (F : Nat → UInt8) (f : Nat) (p0 : Nat) (w : Nat) (hf : f ≤ 1) (hp : p0 + w ≤ 8192) : Ct l D vwCl (tyl cB cI cZ cJ) yX4_number wsX4_number rmX4_number [.ref r0, .int (nI f), .int (nI p0), .int (nI w)] [(r0, .inr (4, [.ref d0, .ref d1, .ref d2, .ref d3, .ref d4, .int (nI kn), .int (nI mv), .ref d5, .ref d6, .int (nI ng), .ref d7, .ref d8, .ref d9, .int (nI nr), .ref d10, .int (nI fc), .int (if sh = true then 1 else 0), .int (nI rp), .int bad, .int (nI th), .int (nI sr), .int (nI sb), .int (nI at9)])), (d0, .inl (cI, 16384, .inl (uf B))), (d1, .inl (cI, 2, .inl (nf z))), (d2, .inl (cI, 600, .inl (nf S))), (d3, .inl (cI, 600, .inl (nf Ln))), (d4, .inl (cI, 38400, .inl (uf K))), (d5, .inl (cI, 600, .inl (nf gr))), (d6, .inl (cI, 600, .inl (nf gb))), (d7, .inl (cI, 16, .inl (nf nS))), (d8, .inl (cI, 16, .inl (nf nL))), (d9, .inl (cI, 1024, .inl (uf nK))), (d10, .inl (cI, 64, .inl (uf F)))] (some (.int (beG (fl B f) p0 w (nI 0)))) [(r0, .inr (4, [.ref d0, .ref d1, .ref d2, .ref d3, .ref d4, .int (nI kn), .int (nI mv), .ref d5, .ref d6, .int (nI ng), .ref d7, .ref d8, .ref d9, .int (nI nr), .ref d10, .int (nI fc), .int (if sh = true then 1 else 0), .int (nI rp), .int bad, .int (nI th), .int (nI sr), .int (nI sb), .int (nI at9)])), (d0, .inl (cI, 16384, .inl (uf B))), (d1, .inl (cI, 2, .inl (nf z))), (d2, .inl (cI, 600, .inl (nf S))), (d3, .inl (cI, 600, .inl (nf Ln))), (d4, .inl (cI, 38400, .inl (uf K))), (d5, .inl (cI, 600, .inl (nf gr))), (d6, .inl (cI, 600, .inl (nf gb))), (d7, .inl (cI, 16, .inl (nf nS))), (d8, .inl (cI, 16, .inl (nf nL))), (d9, .inl (cI, 1024, .inl (uf nK))), (d10, .inl (cI, 64, .inl (uf F)))] := by
  refine x_start (cc := cX4_number) (maxL := 6) (ret := (some .int)) (by decide) rfl (Nat.le_of_ble_eq_true rfl) ?_
  intro xp xe xs xm xb xt xc xA E hr hlocks hnm
  obtain ⟨-, -, -, hown, hts, hK, hA⟩ := id E
  refine x_lve (lv' := [(0, .ref r0), (1, .int (nI f)), (2, .int (nI p0)), (3, .int (nI w))]) rfl ?_
  have loop : ∀ (k i : Nat) (v9 : Int32), i + k = w → beG (fl B f) (p0 + i) k v9 = beG (fl B f) p0 w (nI 0) → Xs xp l xe rmX4_number xs xm ([.ref r0, .int (nI f), .int (nI p0), .int (nI w)] : List Value).toArray xb xt xc D vwCl xA 6 0 0 (MQ xb (CQ D vwCl (tyl cB cI cZ cJ) xA (fun r u => r = (some (.int (beG (fl B f) p0 w (nI 0)))) ∧ u = [(r0, .inr (4, [.ref d0, .ref d1, .ref d2, .ref d3, .ref d4, .int (nI kn), .int (nI mv), .ref d5, .ref d6, .int (nI ng), .ref d7, .ref d8, .ref d9, .int (nI nr), .ref d10, .int (nI fc), .int (if sh = true then 1 else 0), .int (nI rp), .int bad, .int (nI th), .int (nI sr), .int (nI sb), .int (nI at9)])), (d0, .inl (cI, 16384, .inl (uf B))), (d1, .inl (cI, 2, .inl (nf z))), (d2, .inl (cI, 600, .inl (nf S))), (d3, .inl (cI, 600, .inl (nf Ln))), (d4, .inl (cI, 38400, .inl (uf K))), (d5, .inl (cI, 600, .inl (nf gr))), (d6, .inl (cI, 600, .inl (nf gb))), (d7, .inl (cI, 16, .inl (nf nS))), (d8, .inl (cI, 16, .inl (nf nL))), (d9, .inl (cI, 1024, .inl (uf nK))), (d10, .inl (cI, 64, .inl (uf F)))])) ([.ref r0, .int (nI f), .int (nI p0), .int (nI w)] : List Value).toArray xs 0 0 xA) [(r0, .inr (4, [.ref d0, .ref d1, .ref d2, .ref d3, .ref d4, .int (nI kn), .int (nI mv), .ref d5, .ref d6, .int (nI ng), .ref d7, .ref d8, .ref d9, .int (nI nr), .ref d10, .int (nI fc), .int (if sh = true then 1 else 0), .int (nI rp), .int bad, .int (nI th), .int (nI sr), .int (nI sb), .int (nI at9)])), (d0, .inl (cI, 16384, .inl (uf B))), (d1, .inl (cI, 2, .inl (nf z))), (d2, .inl (cI, 600, .inl (nf S))), (d3, .inl (cI, 600, .inl (nf Ln))), (d4, .inl (cI, 38400, .inl (uf K))), (d5, .inl (cI, 600, .inl (nf gr))), (d6, .inl (cI, 600, .inl (nf gb))), (d7, .inl (cI, 16, .inl (nf nS))), (d8, .inl (cI, 16, .inl (nf nL))), (d9, .inl (cI, 1024, .inl (uf nK))), (d10, .inl (cI, 64, .inl (uf F)))] [(5, .int (nI i)), (4, .int v9), (0, .ref r0), (1, .int (nI f)), (2, .int (nI p0)), (3, .int (nI w))] 6 [] := by
    intro k
    induction k with
    | zero =>
      intro i v9 h1 h2
      refine x_iload E 0 dX4_number_6 rfl ?_
      refine x_iload_n E 5 dX4_number_8 rfl ?_
      refine x_ncmp_ge E 41 dX4_number_9 (by decide) (by omega) (by omega) (fun h9 => ?_) (fun h => False.elim (by omega))
      refine x_iload E 1 dX4_number_41 rfl ?_
      exact x_iret E hr hlocks dX4_number_43 ⟨by rw [← h2]; rfl, rfl⟩
    | succ k ih =>
      intro i v9 h1 h2
      refine x_iload E 0 dX4_number_6 rfl ?_
      refine x_iload_n E 5 dX4_number_8 rfl ?_
      refine x_ncmp_ge E 41 dX4_number_9 (by decide) (by omega) (by omega) (fun h => False.elim (by omega)) (fun h9 => ?_)
      refine x_iload E 1 dX4_number_12 rfl ?_
      refine x_bipush E (v := nI 8) dX4_number_14 (by decide) ?_
      refine x_ishl E dX4_number_16 ?_
      refine x_aload_n E 2 dX4_number_17 rfl ?_
      refine x_get E 0 0 dX4_number_18 ui_X4_number_X4 rfl rfl (by decide) fl_X4_number_9 rfl rfl ?_
      refine x_iload_n E 3 dX4_number_21 rfl ?_
      refine x_sipush E (v := nI 8192) dX4_number_22 (by decide) ?_
      refine x_nimul E dX4_number_25 ?_
      refine x_iload_n E 4 dX4_number_26 rfl ?_
      refine x_niadd E dX4_number_27 ?_
      refine x_iload E 0 dX4_number_28 rfl ?_
      refine x_niadd E dX4_number_30 ?_
      refine x_uald E 1 1 dX4_number_31 rfl rfl (by omega) (by decide) ?_
      refine x_top (w := .int (nI ((fl B f (p0 + i)).toNat))) (by rw [Nat.add_assoc]; rfl) ?_
      refine x_ior E dX4_number_32 ?_
      refine x_istore E [(4, .int ((v9 <<< ((nI 8) &&& 31)) ||| (nI ((fl B f (p0 + i)).toNat)))), (5, .int (nI i)), (0, .ref r0), (1, .int (nI f)), (2, .int (nI p0)), (3, .int (nI w))] dX4_number_33 (by decide) rfl ?_
      refine x_iinc E 1 [(5, .int (nI (i + 1))), (4, .int ((v9 <<< ((nI 8) &&& 31)) ||| (nI ((fl B f (p0 + i)).toNat)))), (0, .ref r0), (1, .int (nI f)), (2, .int (nI p0)), (3, .int (nI w))] dX4_number_35 rfl (nI_add _ _) (by decide) rfl ?_
      refine x_goto E 6 dX4_number_38 (by decide) ?_
      exact ih (i + 1) _ (by omega) (by rw [← h2, beG_s]; rfl)
  refine x_iconst E (v := nI 0) dX4_number_0 (by decide) ?_
  refine x_istore E [(4, .int (nI 0)), (0, .ref r0), (1, .int (nI f)), (2, .int (nI p0)), (3, .int (nI w))] dX4_number_1 (by decide) rfl ?_
  refine x_iconst E (v := nI 0) dX4_number_3 (by decide) ?_
  refine x_istore E [(5, .int (nI 0)), (4, .int (nI 0)), (0, .ref r0), (1, .int (nI f)), (2, .int (nI p0)), (3, .int (nI w))] dX4_number_4 (by decide) rfl ?_
  exact loop w 0 (nI 0) (by omega) rfl
set_option maxRecDepth 100000 in
set_option maxHeartbeats 4000000 in
theorem c_X4_sumOf (l : Launch) (D : va_G) (cB cI cZ cJ : ClassId) (r0 : Nat) (d0 : Nat) (d1 : Nat) (d2 : Nat) (d3 : Nat) (d4 : Nat) (d5 : Nat) (d6 : Nat) (d7 : Nat) (d8 : Nat) (d9 : Nat) (d10 : Nat) (kn : Nat) (mv : Nat) (ng : Nat) (nr : Nat) (fc : Nat) (sh : Bool) (rp : Nat) (bad : Int32) (th : Nat) (sr : Nat) (sb : Nat) (at9 : Nat) (B : Nat → UInt8) (z : Nat → Nat) (S : Nat → Nat) (Ln : Nat → Nat) (K : Nat → UInt8) (gr : Nat → Nat) (gb : Nat → Nat) (nS : Nat → Nat) (nL : Nat → Nat) (nK : Nat → UInt8) (F : Nat → UInt8) (f : Nat) (p0 : Nat) (q0 : Nat) (b : Int32) (hf : f ≤ 1) (hp : p0 ≤ q0) (hq : q0 ≤ 8192) : Ct l D vwCl (tyl cB cI cZ cJ) yX4_sumOf wsX4_sumOf rmX4_sumOf [.ref r0, .int (nI f), .int (nI p0), .int (nI q0), .int b] [(r0, .inr (4, [.ref d0, .ref d1, .ref d2, .ref d3, .ref d4, .int (nI kn), .int (nI mv), .ref d5, .ref d6, .int (nI ng), .ref d7, .ref d8, .ref d9, .int (nI nr), .ref d10, .int (nI fc), .int (if sh = true then 1 else 0), .int (nI rp), .int bad, .int (nI th), .int (nI sr), .int (nI sb), .int (nI at9)])), (d0, .inl (cI, 16384, .inl (uf B))), (d1, .inl (cI, 2, .inl (nf z))), (d2, .inl (cI, 600, .inl (nf S))), (d3, .inl (cI, 600, .inl (nf Ln))), (d4, .inl (cI, 38400, .inl (uf K))), (d5, .inl (cI, 600, .inl (nf gr))), (d6, .inl (cI, 600, .inl (nf gb))), (d7, .inl (cI, 16, .inl (nf nS))), (d8, .inl (cI, 16, .inl (nf nL))), (d9, .inl (cI, 1024, .inl (uf nK))), (d10, .inl (cI, 64, .inl (uf F)))] (some (.int (smG (fl B f) p0 (q0 - p0) b))) [(r0, .inr (4, [.ref d0, .ref d1, .ref d2, .ref d3, .ref d4, .int (nI kn), .int (nI mv), .ref d5, .ref d6, .int (nI ng), .ref d7, .ref d8, .ref d9, .int (nI nr), .ref d10, .int (nI fc), .int (if sh = true then 1 else 0), .int (nI rp), .int bad, .int (nI th), .int (nI sr), .int (nI sb), .int (nI at9)])), (d0, .inl (cI, 16384, .inl (uf B))), (d1, .inl (cI, 2, .inl (nf z))), (d2, .inl (cI, 600, .inl (nf S))), (d3, .inl (cI, 600, .inl (nf Ln))), (d4, .inl (cI, 38400, .inl (uf K))), (d5, .inl (cI, 600, .inl (nf gr))), (d6, .inl (cI, 600, .inl (nf gb))), (d7, .inl (cI, 16, .inl (nf nS))), (d8, .inl (cI, 16, .inl (nf nL))), (d9, .inl (cI, 1024, .inl (uf nK))), (d10, .inl (cI, 64, .inl (uf F)))] := by
  refine x_start (cc := cX4_sumOf) (maxL := 7) (ret := (some .int)) (by decide) rfl (Nat.le_of_ble_eq_true rfl) ?_
  intro xp xe xs xm xb xt xc xA E hr hlocks hnm
  obtain ⟨-, -, -, hown, hts, hK, hA⟩ := id E
  refine x_lve (lv' := [(0, .ref r0), (1, .int (nI f)), (2, .int (nI p0)), (3, .int (nI q0)), (4, .int b)]) rfl ?_
  have loop : ∀ (k i : Nat) (v9 : Int32), i + k = q0 → smG (fl B f) i k v9 = smG (fl B f) p0 (q0 - p0) b → Xs xp l xe rmX4_sumOf xs xm ([.ref r0, .int (nI f), .int (nI p0), .int (nI q0), .int b] : List Value).toArray xb xt xc D vwCl xA 7 0 0 (MQ xb (CQ D vwCl (tyl cB cI cZ cJ) xA (fun r u => r = (some (.int (smG (fl B f) p0 (q0 - p0) b))) ∧ u = [(r0, .inr (4, [.ref d0, .ref d1, .ref d2, .ref d3, .ref d4, .int (nI kn), .int (nI mv), .ref d5, .ref d6, .int (nI ng), .ref d7, .ref d8, .ref d9, .int (nI nr), .ref d10, .int (nI fc), .int (if sh = true then 1 else 0), .int (nI rp), .int bad, .int (nI th), .int (nI sr), .int (nI sb), .int (nI at9)])), (d0, .inl (cI, 16384, .inl (uf B))), (d1, .inl (cI, 2, .inl (nf z))), (d2, .inl (cI, 600, .inl (nf S))), (d3, .inl (cI, 600, .inl (nf Ln))), (d4, .inl (cI, 38400, .inl (uf K))), (d5, .inl (cI, 600, .inl (nf gr))), (d6, .inl (cI, 600, .inl (nf gb))), (d7, .inl (cI, 16, .inl (nf nS))), (d8, .inl (cI, 16, .inl (nf nL))), (d9, .inl (cI, 1024, .inl (uf nK))), (d10, .inl (cI, 64, .inl (uf F)))])) ([.ref r0, .int (nI f), .int (nI p0), .int (nI q0), .int b] : List Value).toArray xs 0 0 xA) [(r0, .inr (4, [.ref d0, .ref d1, .ref d2, .ref d3, .ref d4, .int (nI kn), .int (nI mv), .ref d5, .ref d6, .int (nI ng), .ref d7, .ref d8, .ref d9, .int (nI nr), .ref d10, .int (nI fc), .int (if sh = true then 1 else 0), .int (nI rp), .int bad, .int (nI th), .int (nI sr), .int (nI sb), .int (nI at9)])), (d0, .inl (cI, 16384, .inl (uf B))), (d1, .inl (cI, 2, .inl (nf z))), (d2, .inl (cI, 600, .inl (nf S))), (d3, .inl (cI, 600, .inl (nf Ln))), (d4, .inl (cI, 38400, .inl (uf K))), (d5, .inl (cI, 600, .inl (nf gr))), (d6, .inl (cI, 600, .inl (nf gb))), (d7, .inl (cI, 16, .inl (nf nS))), (d8, .inl (cI, 16, .inl (nf nL))), (d9, .inl (cI, 1024, .inl (uf nK))), (d10, .inl (cI, 64, .inl (uf F)))] [(6, .int (nI i)), (5, .int v9), (0, .ref r0), (1, .int (nI f)), (2, .int (nI p0)), (3, .int (nI q0)), (4, .int b)] 7 [] := by
    intro k
    induction k with
    | zero =>
      intro i v9 h1 h2
      refine x_iload E 0 dX4_sumOf_7 rfl ?_
      refine x_iload_n E 5 dX4_sumOf_9 rfl ?_
      refine x_ncmp_ge E 39 dX4_sumOf_10 (by decide) (by omega) (by omega) (fun h10 => ?_) (fun h => False.elim (by omega))
      refine x_iload E 1 dX4_sumOf_39 rfl ?_
      exact x_iret E hr hlocks dX4_sumOf_41 ⟨by rw [← h2]; rfl, rfl⟩
    | succ k ih =>
      intro i v9 h1 h2
      refine x_iload E 0 dX4_sumOf_7 rfl ?_
      refine x_iload_n E 5 dX4_sumOf_9 rfl ?_
      refine x_ncmp_ge E 39 dX4_sumOf_10 (by decide) (by omega) (by omega) (fun h => False.elim (by omega)) (fun h10 => ?_)
      refine x_iload E 1 dX4_sumOf_13 rfl ?_
      refine x_aload_n E 2 dX4_sumOf_15 rfl ?_
      refine x_get E 0 0 dX4_sumOf_16 ui_X4_sumOf_X4 rfl rfl (by decide) fl_X4_sumOf_9 rfl rfl ?_
      refine x_iload_n E 3 dX4_sumOf_19 rfl ?_
      refine x_sipush E (v := nI 8192) dX4_sumOf_20 (by decide) ?_
      refine x_nimul E dX4_sumOf_23 ?_
      refine x_iload E 0 dX4_sumOf_24 rfl ?_
      refine x_niadd E dX4_sumOf_26 ?_
      refine x_uald E 1 1 dX4_sumOf_27 rfl rfl (by omega) (by decide) ?_
      refine x_cS E [.int v9, .int (nI ((B ((f * 8192) + i)).toNat))] [] [.int (sm v9 (fl B f i))] [(r0, .inr (4, [.ref d0, .ref d1, .ref d2, .ref d3, .ref d4, .int (nI kn), .int (nI mv), .ref d5, .ref d6, .int (nI ng), .ref d7, .ref d8, .ref d9, .int (nI nr), .ref d10, .int (nI fc), .int (if sh = true then 1 else 0), .int (nI rp), .int bad, .int (nI th), .int (nI sr), .int (nI sb), .int (nI at9)])), (d0, .inl (cI, 16384, .inl (uf B))), (d1, .inl (cI, 2, .inl (nf z))), (d2, .inl (cI, 600, .inl (nf S))), (d3, .inl (cI, 600, .inl (nf Ln))), (d4, .inl (cI, 38400, .inl (uf K))), (d5, .inl (cI, 600, .inl (nf gr))), (d6, .inl (cI, 600, .inl (nf gb))), (d7, .inl (cI, 16, .inl (nf nS))), (d8, .inl (cI, 16, .inl (nf nL))), (d9, .inl (cI, 1024, .inl (uf nK))), (d10, .inl (cI, 64, .inl (uf F)))] (c_X4_summed_u l D cB cI cZ cJ v9 (nI ((B ((f * 8192) + i)).toNat)) (fl B f i) rfl) (va_cwS 2 hts gX4_sumOf_X4_summed rfl rfl rfl (by decide +kernel) ⟨Nat.le_of_ble_eq_true rfl, Nat.le_of_ble_eq_true rfl⟩) [] [0, 1, 2, 3, 4, 5, 6, 7, 8, 9, 10, 11] rfl rfl (by decide) (by decide) (by decide) [0, 1, 2, 3, 4, 5, 6, 7, 8, 9, 10, 11] (by decide) rfl rfl (Nat.le_of_ble_eq_true rfl) dX4_sumOf_28 ⟨Nat.zero_le _, Nat.zero_le _⟩ rfl rfl ?_
      refine x_istore E [(5, .int (sm v9 (fl B f i))), (6, .int (nI i)), (0, .ref r0), (1, .int (nI f)), (2, .int (nI p0)), (3, .int (nI q0)), (4, .int b)] dX4_sumOf_31 (by decide) rfl ?_
      refine x_iinc E 1 [(6, .int (nI (i + 1))), (5, .int (sm v9 (fl B f i))), (0, .ref r0), (1, .int (nI f)), (2, .int (nI p0)), (3, .int (nI q0)), (4, .int b)] dX4_sumOf_33 rfl (nI_add _ _) (by decide) rfl ?_
      refine x_goto E 7 dX4_sumOf_36 (by decide) ?_
      refine x_lv [0, 1, 2, 3, 4, 5, 6] rfl ?_
      exact ih (i + 1) _ (by omega) (by rw [← h2, smG_s])
  refine x_iload E 4 dX4_sumOf_0 rfl ?_
  refine x_istore E [(5, .int b), (0, .ref r0), (1, .int (nI f)), (2, .int (nI p0)), (3, .int (nI q0)), (4, .int b)] dX4_sumOf_2 (by decide) rfl ?_
  refine x_iload_n E 3 dX4_sumOf_4 rfl ?_
  refine x_istore E [(6, .int (nI p0)), (5, .int b), (0, .ref r0), (1, .int (nI f)), (2, .int (nI p0)), (3, .int (nI q0)), (4, .int b)] dX4_sumOf_5 (by decide) rfl ?_
  exact loop (q0 - p0) p0 b (by omega) rfl
set_option maxRecDepth 100000 in
set_option maxHeartbeats 4000000 in
theorem c_X4_byteAt_thr (l : Launch) (D : va_G) (cB cI cZ cJ : ClassId) (r0 : Nat) (d0 : Nat) (d1 : Nat) (d2 : Nat) (d3 : Nat) (d4 : Nat) (d5 : Nat) (d6 : Nat) (d7 : Nat) (d8 : Nat) (d9 : Nat) (d10 : Nat) (kn : Nat) (mv : Nat) (ng : Nat) (nr : Nat) (fc : Nat) (sh : Bool) (rp : Nat) (bad : Int32) (th : Nat) (sr : Nat) (sb : Nat) (at9 : Nat) (B : Nat → UInt8) (z : Nat → Nat) (S : Nat → Nat) (Ln : Nat → Nat) (K : Nat → UInt8) (gr : Nat → Nat) (gb : Nat → Nat) (nS : Nat → Nat) (nL : Nat → Nat) (nK : Nat → UInt8) (F : Nat → UInt8) (x : Int32) (y : Int32) (hkn : kn ≤ 600) (hx : x < 0 ∨ nI kn ≤ x) : Ct l D vwCl (tyl cB cI cZ cJ) yX4_byteAt wsX4_byteAt rmX4_byteAt [.ref r0, .int x, .int y] [(r0, .inr (4, [.ref d0, .ref d1, .ref d2, .ref d3, .ref d4, .int (nI kn), .int (nI mv), .ref d5, .ref d6, .int (nI ng), .ref d7, .ref d8, .ref d9, .int (nI nr), .ref d10, .int (nI fc), .int (if sh = true then 1 else 0), .int (nI rp), .int bad, .int (nI th), .int (nI sr), .int (nI sb), .int (nI at9)])), (d0, .inl (cI, 16384, .inl (uf B))), (d1, .inl (cI, 2, .inl (nf z))), (d2, .inl (cI, 600, .inl (nf S))), (d3, .inl (cI, 600, .inl (nf Ln))), (d4, .inl (cI, 38400, .inl (uf K))), (d5, .inl (cI, 600, .inl (nf gr))), (d6, .inl (cI, 600, .inl (nf gb))), (d7, .inl (cI, 16, .inl (nf nS))), (d8, .inl (cI, 16, .inl (nf nL))), (d9, .inl (cI, 1024, .inl (uf nK))), (d10, .inl (cI, 64, .inl (uf F)))] (some (.int (-1))) [(r0, .inr (4, [.ref d0, .ref d1, .ref d2, .ref d3, .ref d4, .int (nI kn), .int (nI mv), .ref d5, .ref d6, .int (nI ng), .ref d7, .ref d8, .ref d9, .int (nI nr), .ref d10, .int (nI fc), .int (if sh = true then 1 else 0), .int (nI rp), .int bad, .int (nI 1), .int (nI sr), .int (nI sb), .int (nI at9)])), (d0, .inl (cI, 16384, .inl (uf B))), (d1, .inl (cI, 2, .inl (nf z))), (d2, .inl (cI, 600, .inl (nf S))), (d3, .inl (cI, 600, .inl (nf Ln))), (d4, .inl (cI, 38400, .inl (uf K))), (d5, .inl (cI, 600, .inl (nf gr))), (d6, .inl (cI, 600, .inl (nf gb))), (d7, .inl (cI, 16, .inl (nf nS))), (d8, .inl (cI, 16, .inl (nf nL))), (d9, .inl (cI, 1024, .inl (uf nK))), (d10, .inl (cI, 64, .inl (uf F)))] := by
  refine x_start (cc := cX4_byteAt) (maxL := 3) (ret := (some .int)) (by decide) rfl (Nat.le_of_ble_eq_true rfl) ?_
  intro xp xe xs xm xb xt xc xA E hr hlocks hnm
  obtain ⟨-, -, -, hown, hts, hK, hA⟩ := id E
  refine x_lve (lv' := [(0, .ref r0), (1, .int x), (2, .int y)]) rfl ?_
  refine x_aload_n E 0 dX4_byteAt_0 rfl ?_
  refine x_iload_n E 1 dX4_byteAt_1 rfl ?_
  refine x_if_lt E 13 dX4_byteAt_2 (by decide) (fun h2 => ?_) (fun h2 => ?_)
  · refine x_iconst E (v := nI 1) dX4_byteAt_13 (by decide) ?_
    refine x_goto E 18 dX4_byteAt_14 (by decide) ?_
    refine x_put E 0 19 [(r0, .inr (4, [.ref d0, .ref d1, .ref d2, .ref d3, .ref d4, .int (nI kn), .int (nI mv), .ref d5, .ref d6, .int (nI ng), .ref d7, .ref d8, .ref d9, .int (nI nr), .ref d10, .int (nI fc), .int (if sh = true then 1 else 0), .int (nI rp), .int bad, .int (nI 1), .int (nI sr), .int (nI sb), .int (nI at9)])), (d0, .inl (cI, 16384, .inl (uf B))), (d1, .inl (cI, 2, .inl (nf z))), (d2, .inl (cI, 600, .inl (nf S))), (d3, .inl (cI, 600, .inl (nf Ln))), (d4, .inl (cI, 38400, .inl (uf K))), (d5, .inl (cI, 600, .inl (nf gr))), (d6, .inl (cI, 600, .inl (nf gb))), (d7, .inl (cI, 16, .inl (nf nS))), (d8, .inl (cI, 16, .inl (nf nL))), (d9, .inl (cI, 1024, .inl (uf nK))), (d10, .inl (cI, 64, .inl (uf F)))] dX4_byteAt_18 ui_X4_byteAt_X4 tyX4_ok nmX4 rfl rfl (by decide) fl_X4_byteAt_48 rfl rfl rfl rfl (Nat.le_of_ble_eq_true rfl) rfl ?_
    refine x_aload_n E 0 dX4_byteAt_21 rfl ?_
    refine x_get E 0 19 dX4_byteAt_22 ui_X4_byteAt_X4 rfl rfl (by decide) fl_X4_byteAt_48 rfl rfl ?_
    refine x_iconst E (v := nI 1) dX4_byteAt_25 (by decide) ?_
    refine x_ncmp_eq E 43 dX4_byteAt_26 (by decide) (by decide) (by decide) (fun h26 => ?_) (fun h => False.elim (by omega))
    refine x_iconst E (v := (-1)) dX4_byteAt_43 (by decide) ?_
    refine x_goto E 58 dX4_byteAt_44 (by decide) ?_
    exact x_iret E hr hlocks dX4_byteAt_58 ⟨rfl, rfl⟩
  · refine x_iload_n E 1 dX4_byteAt_5 rfl ?_
    refine x_aload_n E 0 dX4_byteAt_6 rfl ?_
    refine x_get E 0 5 dX4_byteAt_7 ui_X4_byteAt_X4 rfl rfl (by decide) fl_X4_byteAt_62 rfl rfl ?_
    refine x_icmp_lt E 17 dX4_byteAt_10 (by decide) (fun h => False.elim (by rcases hx with q | q; exact h2 q; exact Int32.not_lt.mpr q h)) (fun h10 => ?_)
    refine x_iconst E (v := nI 1) dX4_byteAt_13 (by decide) ?_
    refine x_goto E 18 dX4_byteAt_14 (by decide) ?_
    refine x_put E 0 19 [(r0, .inr (4, [.ref d0, .ref d1, .ref d2, .ref d3, .ref d4, .int (nI kn), .int (nI mv), .ref d5, .ref d6, .int (nI ng), .ref d7, .ref d8, .ref d9, .int (nI nr), .ref d10, .int (nI fc), .int (if sh = true then 1 else 0), .int (nI rp), .int bad, .int (nI 1), .int (nI sr), .int (nI sb), .int (nI at9)])), (d0, .inl (cI, 16384, .inl (uf B))), (d1, .inl (cI, 2, .inl (nf z))), (d2, .inl (cI, 600, .inl (nf S))), (d3, .inl (cI, 600, .inl (nf Ln))), (d4, .inl (cI, 38400, .inl (uf K))), (d5, .inl (cI, 600, .inl (nf gr))), (d6, .inl (cI, 600, .inl (nf gb))), (d7, .inl (cI, 16, .inl (nf nS))), (d8, .inl (cI, 16, .inl (nf nL))), (d9, .inl (cI, 1024, .inl (uf nK))), (d10, .inl (cI, 64, .inl (uf F)))] dX4_byteAt_18 ui_X4_byteAt_X4 tyX4_ok nmX4 rfl rfl (by decide) fl_X4_byteAt_48 rfl rfl rfl rfl (Nat.le_of_ble_eq_true rfl) rfl ?_
    refine x_aload_n E 0 dX4_byteAt_21 rfl ?_
    refine x_get E 0 19 dX4_byteAt_22 ui_X4_byteAt_X4 rfl rfl (by decide) fl_X4_byteAt_48 rfl rfl ?_
    refine x_iconst E (v := nI 1) dX4_byteAt_25 (by decide) ?_
    refine x_ncmp_eq E 43 dX4_byteAt_26 (by decide) (by decide) (by decide) (fun h26 => ?_) (fun h => False.elim (by omega))
    refine x_iconst E (v := (-1)) dX4_byteAt_43 (by decide) ?_
    refine x_goto E 58 dX4_byteAt_44 (by decide) ?_
    exact x_iret E hr hlocks dX4_byteAt_58 ⟨rfl, rfl⟩
set_option maxRecDepth 100000 in
set_option maxHeartbeats 4000000 in
theorem c_X4_byteAt_ok (l : Launch) (D : va_G) (cB cI cZ cJ : ClassId) (r0 : Nat) (d0 : Nat) (d1 : Nat) (d2 : Nat) (d3 : Nat) (d4 : Nat) (d5 : Nat) (d6 : Nat) (d7 : Nat) (d8 : Nat) (d9 : Nat) (d10 : Nat) (kn : Nat) (mv : Nat) (ng : Nat) (nr : Nat) (fc : Nat) (sh : Bool) (rp : Nat) (bad : Int32) (th : Nat) (sr : Nat) (sb : Nat) (at9 : Nat) (B : Nat → UInt8) (z : Nat → Nat) (S : Nat → Nat) (Ln : Nat → Nat) (K : Nat → UInt8) (gr : Nat → Nat) (gb : Nat → Nat) (nS : Nat → Nat) (nL : Nat → Nat) (nK : Nat → UInt8) (F : Nat → UInt8) (k : Nat) (y : Int32) (hkn : kn ≤ 600) (hk : k < kn) (hl : Ln k ≤ 64) : Ct l D vwCl (tyl cB cI cZ cJ) yX4_byteAt wsX4_byteAt rmX4_byteAt [.ref r0, .int (nI k), .int y] [(r0, .inr (4, [.ref d0, .ref d1, .ref d2, .ref d3, .ref d4, .int (nI kn), .int (nI mv), .ref d5, .ref d6, .int (nI ng), .ref d7, .ref d8, .ref d9, .int (nI nr), .ref d10, .int (nI fc), .int (if sh = true then 1 else 0), .int (nI rp), .int bad, .int (nI th), .int (nI sr), .int (nI sb), .int (nI at9)])), (d0, .inl (cI, 16384, .inl (uf B))), (d1, .inl (cI, 2, .inl (nf z))), (d2, .inl (cI, 600, .inl (nf S))), (d3, .inl (cI, 600, .inl (nf Ln))), (d4, .inl (cI, 38400, .inl (uf K))), (d5, .inl (cI, 600, .inl (nf gr))), (d6, .inl (cI, 600, .inl (nf gb))), (d7, .inl (cI, 16, .inl (nf nS))), (d8, .inl (cI, 16, .inl (nf nL))), (d9, .inl (cI, 1024, .inl (uf nK))), (d10, .inl (cI, 64, .inl (uf F)))] (some (.int (cAt (Ln k) (fun j => K (k * 64 + j)) y))) [(r0, .inr (4, [.ref d0, .ref d1, .ref d2, .ref d3, .ref d4, .int (nI kn), .int (nI mv), .ref d5, .ref d6, .int (nI ng), .ref d7, .ref d8, .ref d9, .int (nI nr), .ref d10, .int (nI fc), .int (if sh = true then 1 else 0), .int (nI rp), .int bad, .int (nI 0), .int (nI sr), .int (nI sb), .int (nI at9)])), (d0, .inl (cI, 16384, .inl (uf B))), (d1, .inl (cI, 2, .inl (nf z))), (d2, .inl (cI, 600, .inl (nf S))), (d3, .inl (cI, 600, .inl (nf Ln))), (d4, .inl (cI, 38400, .inl (uf K))), (d5, .inl (cI, 600, .inl (nf gr))), (d6, .inl (cI, 600, .inl (nf gb))), (d7, .inl (cI, 16, .inl (nf nS))), (d8, .inl (cI, 16, .inl (nf nL))), (d9, .inl (cI, 1024, .inl (uf nK))), (d10, .inl (cI, 64, .inl (uf F)))] := by
  refine x_start (cc := cX4_byteAt) (maxL := 3) (ret := (some .int)) (by decide) rfl (Nat.le_of_ble_eq_true rfl) ?_
  intro xp xe xs xm xb xt xc xA E hr hlocks hnm
  obtain ⟨-, -, -, hown, hts, hK, hA⟩ := id E
  refine x_lve (lv' := [(0, .ref r0), (1, .int (nI k)), (2, .int y)]) rfl ?_
  refine x_aload_n E 0 dX4_byteAt_0 rfl ?_
  refine x_iload_n E 1 dX4_byteAt_1 rfl ?_
  refine x_nif_lt E 13 dX4_byteAt_2 (by decide) (by omega) (fun h => absurd h (fun h => Nat.not_lt_zero _ h)) (fun h2 => ?_)
  refine x_iload_n E 1 dX4_byteAt_5 rfl ?_
  refine x_aload_n E 0 dX4_byteAt_6 rfl ?_
  refine x_get E 0 5 dX4_byteAt_7 ui_X4_byteAt_X4 rfl rfl (by decide) fl_X4_byteAt_62 rfl rfl ?_
  refine x_ncmp_lt E 17 dX4_byteAt_10 (by decide) (by omega) (by omega) (fun h10 => ?_) (fun h => False.elim (by omega))
  refine x_iconst E (v := nI 0) dX4_byteAt_17 (by decide) ?_
  refine x_put E 0 19 [(r0, .inr (4, [.ref d0, .ref d1, .ref d2, .ref d3, .ref d4, .int (nI kn), .int (nI mv), .ref d5, .ref d6, .int (nI ng), .ref d7, .ref d8, .ref d9, .int (nI nr), .ref d10, .int (nI fc), .int (if sh = true then 1 else 0), .int (nI rp), .int bad, .int (nI 0), .int (nI sr), .int (nI sb), .int (nI at9)])), (d0, .inl (cI, 16384, .inl (uf B))), (d1, .inl (cI, 2, .inl (nf z))), (d2, .inl (cI, 600, .inl (nf S))), (d3, .inl (cI, 600, .inl (nf Ln))), (d4, .inl (cI, 38400, .inl (uf K))), (d5, .inl (cI, 600, .inl (nf gr))), (d6, .inl (cI, 600, .inl (nf gb))), (d7, .inl (cI, 16, .inl (nf nS))), (d8, .inl (cI, 16, .inl (nf nL))), (d9, .inl (cI, 1024, .inl (uf nK))), (d10, .inl (cI, 64, .inl (uf F)))] dX4_byteAt_18 ui_X4_byteAt_X4 tyX4_ok nmX4 rfl rfl (by decide) fl_X4_byteAt_48 rfl rfl rfl rfl (Nat.le_of_ble_eq_true rfl) rfl ?_
  refine x_aload_n E 0 dX4_byteAt_21 rfl ?_
  refine x_get E 0 19 dX4_byteAt_22 ui_X4_byteAt_X4 rfl rfl (by decide) fl_X4_byteAt_48 rfl rfl ?_
  refine x_iconst E (v := nI 1) dX4_byteAt_25 (by decide) ?_
  refine x_ncmp_eq E 43 dX4_byteAt_26 (by decide) (by decide) (by decide) (fun h => False.elim (by omega)) (fun h26 => ?_)
  refine x_iload_n E 2 dX4_byteAt_29 rfl ?_
  refine x_if_lt E 43 dX4_byteAt_30 (by decide) (fun h30 => ?_) (fun h30 => ?_)
  · refine x_iconst E (v := (-1)) dX4_byteAt_43 (by decide) ?_
    refine x_goto E 58 dX4_byteAt_44 (by decide) ?_
    exact x_iret E hr hlocks dX4_byteAt_58 ⟨by unfold cAt; rw [if_pos h30], rfl⟩
  · obtain ⟨j, hj, rfl⟩ := nI_of h30
    refine x_iload_n E 2 dX4_byteAt_33 rfl ?_
    refine x_aload_n E 0 dX4_byteAt_34 rfl ?_
    refine x_get E 0 3 dX4_byteAt_35 ui_X4_byteAt_X4 rfl rfl (by decide) fl_X4_byteAt_19 rfl rfl ?_
    refine x_iload_n E 1 dX4_byteAt_38 rfl ?_
    refine x_nald E 4 1 dX4_byteAt_39 rfl rfl (by omega) (by decide) ?_
    refine x_ncmp_lt E 47 dX4_byteAt_40 (by decide) (by omega) (by omega) (fun h40 => ?_) (fun h40 => ?_)
    · refine x_aload_n E 0 dX4_byteAt_47 rfl ?_
      refine x_get E 0 4 dX4_byteAt_48 ui_X4_byteAt_X4 rfl rfl (by decide) fl_X4_byteAt_23 rfl rfl ?_
      refine x_iload_n E 1 dX4_byteAt_51 rfl ?_
      refine x_bipush E (v := nI 64) dX4_byteAt_52 (by decide) ?_
      refine x_nimul E dX4_byteAt_54 ?_
      refine x_iload_n E 2 dX4_byteAt_55 rfl ?_
      refine x_niadd E dX4_byteAt_56 ?_
      refine x_uald E 5 1 dX4_byteAt_57 rfl rfl (by omega) (by decide) ?_
      exact x_iret E hr hlocks dX4_byteAt_58 ⟨by unfold cAt; rw [if_neg h30, if_neg (fun q => absurd ((nI_leI (by omega) (by omega)).mp q) (by omega)), nI_clamp hj], rfl⟩
    · refine x_iconst E (v := (-1)) dX4_byteAt_43 (by decide) ?_
      refine x_goto E 58 dX4_byteAt_44 (by decide) ?_
      exact x_iret E hr hlocks dX4_byteAt_58 ⟨by unfold cAt; rw [if_neg h30, if_pos ((nI_leI (by omega) (by omega)).mpr (by omega))], rfl⟩
set_option maxRecDepth 100000 in
set_option maxHeartbeats 4000000 in
theorem c_X4_rows (l : Launch) (D : va_G) (cB cI cZ cJ : ClassId) (r0 : Nat) (d0 : Nat) (d1 : Nat) (d2 : Nat) (d3 : Nat) (d4 : Nat) (d5 : Nat) (d6 : Nat) (d7 : Nat) (d8 : Nat) (d9 : Nat) (d10 : Nat) (kn : Nat) (mv : Nat) (ng : Nat) (nr : Nat) (fc : Nat) (sh : Bool) (rp : Nat) (bad : Int32) (th : Nat) (sr : Nat) (sb : Nat) (at9 : Nat) (B : Nat → UInt8) (z : Nat → Nat) (S : Nat → Nat) (Ln : Nat → Nat) (K : Nat → UInt8) (gr : Nat → Nat) (gb : Nat → Nat) (nS : Nat → Nat) (nL : Nat → Nat) (nK : Nat → UInt8) (F : Nat → UInt8) (mo : Int32) (hkn : kn ≤ 600) (hs : ∀ r, r < kn → S r ≤ 1000000000) : Ct l D vwCl (tyl cB cI cZ cJ) yX4_rows wsX4_rows rmX4_rows [.ref r0, .int mo] [(r0, .inr (4, [.ref d0, .ref d1, .ref d2, .ref d3, .ref d4, .int (nI kn), .int (nI mv), .ref d5, .ref d6, .int (nI ng), .ref d7, .ref d8, .ref d9, .int (nI nr), .ref d10, .int (nI fc), .int (if sh = true then 1 else 0), .int (nI rp), .int bad, .int (nI th), .int (nI sr), .int (nI sb), .int (nI at9)])), (d0, .inl (cI, 16384, .inl (uf B))), (d1, .inl (cI, 2, .inl (nf z))), (d2, .inl (cI, 600, .inl (nf S))), (d3, .inl (cI, 600, .inl (nf Ln))), (d4, .inl (cI, 38400, .inl (uf K))), (d5, .inl (cI, 600, .inl (nf gr))), (d6, .inl (cI, 600, .inl (nf gb))), (d7, .inl (cI, 16, .inl (nf nS))), (d8, .inl (cI, 16, .inl (nf nL))), (d9, .inl (cI, 1024, .inl (uf nK))), (d10, .inl (cI, 64, .inl (uf F)))] (some (.int (nI (rwC S mo kn 0 0)))) [(r0, .inr (4, [.ref d0, .ref d1, .ref d2, .ref d3, .ref d4, .int (nI kn), .int (nI mv), .ref d5, .ref d6, .int (nI ng), .ref d7, .ref d8, .ref d9, .int (nI nr), .ref d10, .int (nI fc), .int (if sh = true then 1 else 0), .int (nI rp), .int bad, .int (nI 0), .int (nI sr), .int (nI sb), .int (nI at9)])), (d0, .inl (cI, 16384, .inl (uf B))), (d1, .inl (cI, 2, .inl (nf z))), (d2, .inl (cI, 600, .inl (nf S))), (d3, .inl (cI, 600, .inl (nf Ln))), (d4, .inl (cI, 38400, .inl (uf K))), (d5, .inl (cI, 600, .inl (nf gr))), (d6, .inl (cI, 600, .inl (nf gb))), (d7, .inl (cI, 16, .inl (nf nS))), (d8, .inl (cI, 16, .inl (nf nL))), (d9, .inl (cI, 1024, .inl (uf nK))), (d10, .inl (cI, 64, .inl (uf F)))] := by
  refine x_start (cc := cX4_rows) (maxL := 4) (ret := (some .int)) (by decide) rfl (Nat.le_of_ble_eq_true rfl) ?_
  intro xp xe xs xm xb xt xc xA E hr hlocks hnm
  obtain ⟨-, -, -, hown, hts, hK, hA⟩ := id E
  refine x_lve (lv' := [(0, .ref r0), (1, .int mo)]) rfl ?_
  have loop : ∀ (k r a : Nat), r + k = kn → rwC S mo k r a = rwC S mo kn 0 0 → Xs xp l xe rmX4_rows xs xm ([.ref r0, .int mo] : List Value).toArray xb xt xc D vwCl xA 4 0 0 (MQ xb (CQ D vwCl (tyl cB cI cZ cJ) xA (fun r u => r = (some (.int (nI (rwC S mo kn 0 0)))) ∧ u = [(r0, .inr (4, [.ref d0, .ref d1, .ref d2, .ref d3, .ref d4, .int (nI kn), .int (nI mv), .ref d5, .ref d6, .int (nI ng), .ref d7, .ref d8, .ref d9, .int (nI nr), .ref d10, .int (nI fc), .int (if sh = true then 1 else 0), .int (nI rp), .int bad, .int (nI 0), .int (nI sr), .int (nI sb), .int (nI at9)])), (d0, .inl (cI, 16384, .inl (uf B))), (d1, .inl (cI, 2, .inl (nf z))), (d2, .inl (cI, 600, .inl (nf S))), (d3, .inl (cI, 600, .inl (nf Ln))), (d4, .inl (cI, 38400, .inl (uf K))), (d5, .inl (cI, 600, .inl (nf gr))), (d6, .inl (cI, 600, .inl (nf gb))), (d7, .inl (cI, 16, .inl (nf nS))), (d8, .inl (cI, 16, .inl (nf nL))), (d9, .inl (cI, 1024, .inl (uf nK))), (d10, .inl (cI, 64, .inl (uf F)))])) ([.ref r0, .int mo] : List Value).toArray xs 0 0 xA) [(r0, .inr (4, [.ref d0, .ref d1, .ref d2, .ref d3, .ref d4, .int (nI kn), .int (nI mv), .ref d5, .ref d6, .int (nI ng), .ref d7, .ref d8, .ref d9, .int (nI nr), .ref d10, .int (nI fc), .int (if sh = true then 1 else 0), .int (nI rp), .int bad, .int (nI 0), .int (nI sr), .int (nI sb), .int (nI at9)])), (d0, .inl (cI, 16384, .inl (uf B))), (d1, .inl (cI, 2, .inl (nf z))), (d2, .inl (cI, 600, .inl (nf S))), (d3, .inl (cI, 600, .inl (nf Ln))), (d4, .inl (cI, 38400, .inl (uf K))), (d5, .inl (cI, 600, .inl (nf gr))), (d6, .inl (cI, 600, .inl (nf gb))), (d7, .inl (cI, 16, .inl (nf nS))), (d8, .inl (cI, 16, .inl (nf nL))), (d9, .inl (cI, 1024, .inl (uf nK))), (d10, .inl (cI, 64, .inl (uf F)))] [(3, .int (nI r)), (2, .int (nI a)), (0, .ref r0), (1, .int mo)] 9 [] := by
    intro k
    induction k with
    | zero =>
      intro r a e1 e2
      refine x_iload_n E 0 dX4_rows_9 rfl ?_
      refine x_aload_n E 2 dX4_rows_10 rfl ?_
      refine x_get E 0 5 dX4_rows_11 ui_X4_rows_X4 rfl rfl (by decide) fl_X4_rows_62 rfl rfl ?_
      refine x_ncmp_ge E 44 dX4_rows_14 (by decide) (by omega) (by omega) (fun h14 => ?_) (fun h => False.elim (by omega))
      refine x_iload_n E 1 dX4_rows_44 rfl ?_
      exact x_iret E hr hlocks dX4_rows_45 ⟨by rw [← e2]; rfl, rfl⟩
    | succ k ih =>
      intro r a e1 e2
      have hsr := hs r (by omega)
      refine x_iload_n E 0 dX4_rows_9 rfl ?_
      refine x_aload_n E 2 dX4_rows_10 rfl ?_
      refine x_get E 0 5 dX4_rows_11 ui_X4_rows_X4 rfl rfl (by decide) fl_X4_rows_62 rfl rfl ?_
      refine x_ncmp_ge E 44 dX4_rows_14 (by decide) (by omega) (by omega) (fun h => False.elim (by omega)) (fun h14 => ?_)
      refine x_iload_n E 1 dX4_rows_17 rfl ?_
      refine x_aload_n E 2 dX4_rows_18 rfl ?_
      refine x_get E 0 2 dX4_rows_19 ui_X4_rows_X4 rfl rfl (by decide) fl_X4_rows_16 rfl rfl ?_
      refine x_iload_n E 0 dX4_rows_22 rfl ?_
      refine x_nald E 3 1 dX4_rows_23 rfl rfl (by omega) (by decide) ?_
      refine x_ldc E (v := nI 2592000) dX4_rows_24 cn_X4_rows_121 (by decide +kernel) ?_
      refine x_nidiv E dX4_rows_26 (by omega) (by omega) (by decide) ?_
      refine x_iload_n E 3 dX4_rows_27 rfl ?_
      refine x_icmp_ne E 35 dX4_rows_28 (by decide) (fun h28 => ?_) (fun h28 => ?_)
      · refine x_iconst E (v := nI 0) dX4_rows_35 (by decide) ?_
        refine x_niadd E dX4_rows_36 ?_
        refine x_istore_n E [(2, .int (nI (a + 0))), (3, .int (nI r)), (0, .ref r0), (1, .int mo)] dX4_rows_37 (by decide) rfl ?_
        refine x_iinc E 1 [(3, .int (nI (r + 1))), (2, .int (nI (a + 0))), (0, .ref r0), (1, .int mo)] dX4_rows_38 rfl (nI_add _ _) (by decide) rfl ?_
        refine x_goto E 9 dX4_rows_41 (by decide) ?_
        refine x_lv [0, 1, 2, 3] rfl ?_
        exact ih (r + 1) _ (by omega) (by rw [← e2, rwC_s, if_neg h28]; rfl)
      · refine x_iconst E (v := nI 1) dX4_rows_31 (by decide) ?_
        refine x_goto E 36 dX4_rows_32 (by decide) ?_
        refine x_niadd E dX4_rows_36 ?_
        refine x_istore_n E [(2, .int (nI (a + 1))), (3, .int (nI r)), (0, .ref r0), (1, .int mo)] dX4_rows_37 (by decide) rfl ?_
        refine x_iinc E 1 [(3, .int (nI (r + 1))), (2, .int (nI (a + 1))), (0, .ref r0), (1, .int mo)] dX4_rows_38 rfl (nI_add _ _) (by decide) rfl ?_
        refine x_goto E 9 dX4_rows_41 (by decide) ?_
        refine x_lv [0, 1, 2, 3] rfl ?_
        exact ih (r + 1) _ (by omega) (by rw [← e2, rwC_s, if_pos h28])
  refine x_aload_n E 0 dX4_rows_0 rfl ?_
  refine x_iconst E (v := nI 0) dX4_rows_1 (by decide) ?_
  refine x_put E 0 19 [(r0, .inr (4, [.ref d0, .ref d1, .ref d2, .ref d3, .ref d4, .int (nI kn), .int (nI mv), .ref d5, .ref d6, .int (nI ng), .ref d7, .ref d8, .ref d9, .int (nI nr), .ref d10, .int (nI fc), .int (if sh = true then 1 else 0), .int (nI rp), .int bad, .int (nI 0), .int (nI sr), .int (nI sb), .int (nI at9)])), (d0, .inl (cI, 16384, .inl (uf B))), (d1, .inl (cI, 2, .inl (nf z))), (d2, .inl (cI, 600, .inl (nf S))), (d3, .inl (cI, 600, .inl (nf Ln))), (d4, .inl (cI, 38400, .inl (uf K))), (d5, .inl (cI, 600, .inl (nf gr))), (d6, .inl (cI, 600, .inl (nf gb))), (d7, .inl (cI, 16, .inl (nf nS))), (d8, .inl (cI, 16, .inl (nf nL))), (d9, .inl (cI, 1024, .inl (uf nK))), (d10, .inl (cI, 64, .inl (uf F)))] dX4_rows_2 ui_X4_rows_X4 tyX4_ok nmX4 rfl rfl (by decide) fl_X4_rows_48 rfl rfl rfl rfl (Nat.le_of_ble_eq_true rfl) rfl ?_
  refine x_iconst E (v := nI 0) dX4_rows_5 (by decide) ?_
  refine x_istore_n E [(2, .int (nI 0)), (0, .ref r0), (1, .int mo)] dX4_rows_6 (by decide) rfl ?_
  refine x_iconst E (v := nI 0) dX4_rows_7 (by decide) ?_
  refine x_istore_n E [(3, .int (nI 0)), (2, .int (nI 0)), (0, .ref r0), (1, .int mo)] dX4_rows_8 (by decide) rfl ?_
  exact loop kn 0 0 (by omega) rfl
