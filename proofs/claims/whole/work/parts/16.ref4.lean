abbrev rmX4_isGood : Room := { frames := 2, cells := 0, slots := 0, locals := 48 }
abbrev rmX4_take : Room := { frames := 1, cells := 0, slots := 0, locals := 25 }
theorem fl_X4_isGood_13 : Cond.fieldLink RX4 13 "MirrorLogModel" "sizes" "[I" ∈ wsX4_isGood := by decide +kernel
theorem ui_X4_isGood_X4 : ∀ w ∈ wsX40, w ∈ wsX4_isGood := by decide +kernel
theorem fl_X4_isGood_9 : Cond.fieldLink RX4 9 "MirrorLogModel" "bytes" "[I" ∈ wsX4_isGood := by decide +kernel
theorem fl_X4_isGood_62 : Cond.fieldLink RX4 62 "MirrorLogModel" "known" "I" ∈ wsX4_isGood := by decide +kernel
theorem fl_X4_isGood_105 : Cond.fieldLink RX4 105 "MirrorLogModel" "seenRows" "I" ∈ wsX4_isGood := by decide +kernel
theorem fl_X4_isGood_108 : Cond.fieldLink RX4 108 "MirrorLogModel" "seenBytes" "I" ∈ wsX4_isGood := by decide +kernel
theorem cn_X4_isGood_65 : Jvm.Cond.constant RX4 65 (1000000000) ∈ wsX4_isGood := by decide +kernel
theorem fl_X4_isGood_16 : Cond.fieldLink RX4 16 "MirrorLogModel" "seconds" "[I" ∈ wsX4_isGood := by decide +kernel
theorem fl_X4_take_108 : Cond.fieldLink RX4 108 "MirrorLogModel" "seenBytes" "I" ∈ wsX4_take := by decide +kernel
theorem ui_X4_take_X4 : ∀ w ∈ wsX40, w ∈ wsX4_take := by decide +kernel
theorem fl_X4_take_26 : Cond.fieldLink RX4 26 "MirrorLogModel" "groupRows" "[I" ∈ wsX4_take := by decide +kernel
theorem fl_X4_take_84 : Cond.fieldLink RX4 84 "MirrorLogModel" "groups" "I" ∈ wsX4_take := by decide +kernel
theorem fl_X4_take_105 : Cond.fieldLink RX4 105 "MirrorLogModel" "seenRows" "I" ∈ wsX4_take := by decide +kernel
theorem fl_X4_take_29 : Cond.fieldLink RX4 29 "MirrorLogModel" "groupBytes" "[I" ∈ wsX4_take := by decide +kernel
theorem fl_X4_take_9 : Cond.fieldLink RX4 9 "MirrorLogModel" "bytes" "[I" ∈ wsX4_take := by decide +kernel
theorem fl_X4_take_62 : Cond.fieldLink RX4 62 "MirrorLogModel" "known" "I" ∈ wsX4_take := by decide +kernel
theorem fl_X4_take_23 : Cond.fieldLink RX4 23 "MirrorLogModel" "contents" "[I" ∈ wsX4_take := by decide +kernel
theorem fl_X4_take_16 : Cond.fieldLink RX4 16 "MirrorLogModel" "seconds" "[I" ∈ wsX4_take := by decide +kernel
theorem fl_X4_take_19 : Cond.fieldLink RX4 19 "MirrorLogModel" "lengths" "[I" ∈ wsX4_take := by decide +kernel
/-- the reference's test of a row -/
abbrev RowR (n : Nat) (g : Nat → UInt8) (p m k : Nat) (sb : Int32) : Prop :=
  (g p).toNat ≤ 64 ∧ p + 11 + (g p).toNat ≤ n ∧ ¬ k = 16 ∧ smG g p (p + 7 + (g p).toNat - p) (nI 0) = beG g (p + 7 + (g p).toNat) 4 (nI 0) ∧ beG g (p + 5 + (g p).toNat) 2 (nI 0) = nI m ∧ ¬ beG g (p + 1) 4 (nI 0) < sb ∧ beG g (p + 1) 4 (nI 0) ≤ nI 1000000000
def scanR (n : Nat) (g : Nat → UInt8) (base : Nat) : Nat → Nat → Nat → Int32 → Int32 → Option (Nat × Nat × Int32)
  | 0, _, _, _, _ => none
  | f + 1, p, k, sb, sum => if p < n ∧ ¬ (g p).toNat = 0 then (if RowR n g p (base + k) k sb then scanR n g base f (p + (11 + (g p).toNat)) (k + 1) (beG g (p + 1) 4 (nI 0)) (smG g p (p + 7 + (g p).toNat - p) (nI 0)) else none) else some (p, k, sum)
theorem scanR_s (n : Nat) (g : Nat → UInt8) (base f p k : Nat) (sb sum : Int32) : scanR n g base (f + 1) p k sb sum = if p < n ∧ ¬ (g p).toNat = 0 then (if RowR n g p (base + k) k sb then scanR n g base f (p + (11 + (g p).toNat)) (k + 1) (beG g (p + 1) 4 (nI 0)) (smG g p (p + 7 + (g p).toNat - p) (nI 0)) else none) else some (p, k, sum) := rfl
abbrev EndR (n : Nat) (g : Nat → UInt8) (base p k : Nat) (sum : Int32) : Prop :=
  ¬ k = 0 ∧ p + 6 ≤ n ∧ (g (p + 1)).toNat = k ∧ smG g p (p + 2 - p) sum = beG g (p + 2) 4 (nI 0) ∧ base + k ≤ 600
def goodE (n : Nat) (g : Nat → UInt8) (base : Nat) (o : Option (Nat × Nat × Int32)) : Option (Nat × Nat) := match o with
  | none => none
  | some (p, k, sum) => if EndR n g base p k sum then some (p, k) else none
theorem goodE_s (n : Nat) (g : Nat → UInt8) (base p k : Nat) (sum : Int32) : goodE n g base (some (p, k, sum)) = if EndR n g base p k sum then some (p, k) else none := rfl
def goodR (n : Nat) (g : Nat → UInt8) (base : Nat) (sb : Int32) (p : Nat) : Option (Nat × Nat) := goodE n g base (scanR n g base 17 p 0 sb (nI 0))
def goK (o : Option (Nat × Nat)) (d : Nat) : Nat := match o with
  | none => d
  | some (_, k) => k
def goP (o : Option (Nat × Nat)) (p0 d : Nat) : Nat := match o with
  | none => d
  | some (p, _) => p + 6 - p0
/-- a group's bytes come to the other file: k from p on -/
def cpB (f : Nat) : Nat → Nat → (Nat → UInt8) → Nat → UInt8
  | 0, _, B => B
  | k + 1, p, B => cpB f k (p + 1) (va_up B ((1 - f) * 8192 + p) (B (f * 8192 + p)))
theorem cpB_s (f k p : Nat) (B : Nat → UInt8) : cpB f (k + 1) p B = cpB f k (p + 1) (va_up B ((1 - f) * 8192 + p) (B (f * 8192 + p))) := rfl
set_option maxRecDepth 100000 in
set_option maxHeartbeats 4000000 in
theorem c_X4_isGood (l : Launch) (D : va_G) (cB cI cZ cJ : ClassId) (r0 : Nat) (d0 : Nat) (d1 : Nat) (d2 : Nat) (d3 : Nat) (d4 : Nat) (d5 : Nat) (d6 : Nat) (d7 : Nat) (d8 : Nat) (d9 : Nat) (d10 : Nat) (kn : Nat) (mv : Nat) (ng : Nat) (nr : Nat) (fc : Nat) (sh : Bool) (rp : Nat) (bad : Int32) (th : Nat) (sr : Nat) (sb : Nat) (at9 : Nat) (B : Nat → UInt8) (z : Nat → Nat) (S : Nat → Nat) (Ln : Nat → Nat) (K : Nat → UInt8) (gr : Nat → Nat) (gb : Nat → Nat) (nS : Nat → Nat) (nL : Nat → Nat) (nK : Nat → UInt8) (F : Nat → UInt8) (f : Nat) (p0 : Nat) (hf : f ≤ 1) (hzf : z f ≤ 8192) (hkn : kn ≤ 600) (hp : p0 ≤ 8192) : Ct l D vwCl (tyl cB cI cZ cJ) yX4_isGood wsX4_isGood rmX4_isGood [.ref r0, .int (nI f), .int (nI p0)] [(r0, .inr (4, [.ref d0, .ref d1, .ref d2, .ref d3, .ref d4, .int (nI kn), .int (nI mv), .ref d5, .ref d6, .int (nI ng), .ref d7, .ref d8, .ref d9, .int (nI nr), .ref d10, .int (nI fc), .int (if sh = true then 1 else 0), .int (nI rp), .int bad, .int (nI th), .int (nI sr), .int (nI sb), .int (nI at9)])), (d0, .inl (cI, 16384, .inl (uf B))), (d1, .inl (cI, 2, .inl (nf z))), (d2, .inl (cI, 600, .inl (nf S))), (d3, .inl (cI, 600, .inl (nf Ln))), (d4, .inl (cI, 38400, .inl (uf K))), (d5, .inl (cI, 600, .inl (nf gr))), (d6, .inl (cI, 600, .inl (nf gb))), (d7, .inl (cI, 16, .inl (nf nS))), (d8, .inl (cI, 16, .inl (nf nL))), (d9, .inl (cI, 1024, .inl (uf nK))), (d10, .inl (cI, 64, .inl (uf F)))] (some (.int (if (goodR (z f) (fl B f) kn (nI (lastS kn S)) p0).isSome = true then 1 else 0))) [(r0, .inr (4, [.ref d0, .ref d1, .ref d2, .ref d3, .ref d4, .int (nI kn), .int (nI mv), .ref d5, .ref d6, .int (nI ng), .ref d7, .ref d8, .ref d9, .int (nI nr), .ref d10, .int (nI fc), .int (if sh = true then 1 else 0), .int (nI rp), .int bad, .int (nI th), .int (nI (goK (goodR (z f) (fl B f) kn (nI (lastS kn S)) p0) sr)), .int (nI (goP (goodR (z f) (fl B f) kn (nI (lastS kn S)) p0) p0 sb)), .int (nI at9)])), (d0, .inl (cI, 16384, .inl (uf B))), (d1, .inl (cI, 2, .inl (nf z))), (d2, .inl (cI, 600, .inl (nf S))), (d3, .inl (cI, 600, .inl (nf Ln))), (d4, .inl (cI, 38400, .inl (uf K))), (d5, .inl (cI, 600, .inl (nf gr))), (d6, .inl (cI, 600, .inl (nf gb))), (d7, .inl (cI, 16, .inl (nf nS))), (d8, .inl (cI, 16, .inl (nf nL))), (d9, .inl (cI, 1024, .inl (uf nK))), (d10, .inl (cI, 64, .inl (uf F)))] := by
  refine x_start (cc := cX4_isGood) (maxL := 9) (ret := (some .boolean)) (by decide) rfl (Nat.le_of_ble_eq_true rfl) ?_
  intro xp xe xs xm xb xt xc xA E hr hlocks hnm
  obtain ⟨-, -, -, hown, hts, hK, hA⟩ := id E
  refine x_lve (lv' := [(0, .ref r0), (1, .int (nI f)), (2, .int (nI p0))]) rfl ?_
  have loop : ∀ (f9 p k : Nat) (s9 m9 : Int32), k + (f9 + 1) = 17 → p ≤ 8192 → p0 ≤ p → goodE (z f) (fl B f) kn (scanR (z f) (fl B f) kn (f9 + 1) p k s9 m9) = goodR (z f) (fl B f) kn (nI (lastS kn S)) p0 → Xs xp l xe rmX4_isGood xs xm ([.ref r0, .int (nI f), .int (nI p0)] : List Value).toArray xb xt xc D vwCl xA 9 0 0 (MQ xb (CQ D vwCl (tyl cB cI cZ cJ) xA (fun r u => r = (some (.int (if (goodR (z f) (fl B f) kn (nI (lastS kn S)) p0).isSome = true then 1 else 0))) ∧ u = [(r0, .inr (4, [.ref d0, .ref d1, .ref d2, .ref d3, .ref d4, .int (nI kn), .int (nI mv), .ref d5, .ref d6, .int (nI ng), .ref d7, .ref d8, .ref d9, .int (nI nr), .ref d10, .int (nI fc), .int (if sh = true then 1 else 0), .int (nI rp), .int bad, .int (nI th), .int (nI (goK (goodR (z f) (fl B f) kn (nI (lastS kn S)) p0) sr)), .int (nI (goP (goodR (z f) (fl B f) kn (nI (lastS kn S)) p0) p0 sb)), .int (nI at9)])), (d0, .inl (cI, 16384, .inl (uf B))), (d1, .inl (cI, 2, .inl (nf z))), (d2, .inl (cI, 600, .inl (nf S))), (d3, .inl (cI, 600, .inl (nf Ln))), (d4, .inl (cI, 38400, .inl (uf K))), (d5, .inl (cI, 600, .inl (nf gr))), (d6, .inl (cI, 600, .inl (nf gb))), (d7, .inl (cI, 16, .inl (nf nS))), (d8, .inl (cI, 16, .inl (nf nL))), (d9, .inl (cI, 1024, .inl (uf nK))), (d10, .inl (cI, 64, .inl (uf F)))])) ([.ref r0, .int (nI f), .int (nI p0)] : List Value).toArray xs 0 0 xA) [(r0, .inr (4, [.ref d0, .ref d1, .ref d2, .ref d3, .ref d4, .int (nI kn), .int (nI mv), .ref d5, .ref d6, .int (nI ng), .ref d7, .ref d8, .ref d9, .int (nI nr), .ref d10, .int (nI fc), .int (if sh = true then 1 else 0), .int (nI rp), .int bad, .int (nI th), .int (nI sr), .int (nI sb), .int (nI at9)])), (d0, .inl (cI, 16384, .inl (uf B))), (d1, .inl (cI, 2, .inl (nf z))), (d2, .inl (cI, 600, .inl (nf S))), (d3, .inl (cI, 600, .inl (nf Ln))), (d4, .inl (cI, 38400, .inl (uf K))), (d5, .inl (cI, 600, .inl (nf gr))), (d6, .inl (cI, 600, .inl (nf gb))), (d7, .inl (cI, 16, .inl (nf nS))), (d8, .inl (cI, 16, .inl (nf nL))), (d9, .inl (cI, 1024, .inl (uf nK))), (d10, .inl (cI, 64, .inl (uf F)))] [(6, .int m9), (5, .int s9), (4, .int (nI k)), (3, .int (nI p)), (0, .ref r0), (1, .int (nI f)), (2, .int (nI p0))] 32 [] := by
    intro f9
    induction f9 with
    | zero =>
      intro p k s9 m9 e1 hp1 hp2 e2
      refine x_iload_n E 3 dX4_isGood_32 rfl ?_
      refine x_aload_n E 4 dX4_isGood_33 rfl ?_
      refine x_get E 0 1 dX4_isGood_34 ui_X4_isGood_X4 rfl rfl (by decide) fl_X4_isGood_13 rfl rfl ?_
      refine x_iload_n E 5 dX4_isGood_37 rfl ?_
      refine x_nald E 2 1 dX4_isGood_38 rfl rfl (by omega) (by decide) ?_
      refine x_ncmp_ge E 204 dX4_isGood_39 (by decide) (by omega) (by omega) (fun h39 => ?_) (fun h39 => ?_)
      · refine x_iload E 2 dX4_isGood_204 rfl ?_
        refine x_nif_eq E 277 dX4_isGood_206 (by decide) (by omega) (fun h206 => ?_) (fun h206 => ?_)
        · refine x_iconst E (v := nI 0) dX4_isGood_277 (by decide) ?_
          exact x_zret E hr hlocks dX4_isGood_278 rfl ⟨q_f' (by rw [(show goodR (z f) (fl B f) kn (nI (lastS kn S)) p0 = none by rw [← e2, scanR_s, if_neg (by first | (intro q; omega)), goodE_s, if_neg (fun q => by obtain ⟨q1, q2, q3, q4, q5⟩ := q; first | omega | exact h261 q4 | exact h238 q3)])]; rfl), by rw [(show goodR (z f) (fl B f) kn (nI (lastS kn S)) p0 = none by rw [← e2, scanR_s, if_neg (by first | (intro q; omega)), goodE_s, if_neg (fun q => by obtain ⟨q1, q2, q3, q4, q5⟩ := q; first | omega | exact h261 q4 | exact h238 q3)])]; rfl⟩
        · refine x_iload_n E 3 dX4_isGood_209 rfl ?_
          refine x_bipush E (v := nI 6) dX4_isGood_210 (by decide) ?_
          refine x_niadd E dX4_isGood_212 ?_
          refine x_aload_n E 4 dX4_isGood_213 rfl ?_
          refine x_get E 0 1 dX4_isGood_214 ui_X4_isGood_X4 rfl rfl (by decide) fl_X4_isGood_13 rfl rfl ?_
          refine x_iload_n E 5 dX4_isGood_217 rfl ?_
          refine x_nald E 2 1 dX4_isGood_218 rfl rfl (by omega) (by decide) ?_
          refine x_ncmp_gt E 277 dX4_isGood_219 (by decide) (by omega) (by omega) (fun h219 => ?_) (fun h219 => ?_)
          · refine x_iconst E (v := nI 0) dX4_isGood_277 (by decide) ?_
            exact x_zret E hr hlocks dX4_isGood_278 rfl ⟨q_f' (by rw [(show goodR (z f) (fl B f) kn (nI (lastS kn S)) p0 = none by rw [← e2, scanR_s, if_neg (by first | (intro q; omega)), goodE_s, if_neg (fun q => by obtain ⟨q1, q2, q3, q4, q5⟩ := q; first | omega | exact h261 q4 | exact h238 q3)])]; rfl), by rw [(show goodR (z f) (fl B f) kn (nI (lastS kn S)) p0 = none by rw [← e2, scanR_s, if_neg (by first | (intro q; omega)), goodE_s, if_neg (fun q => by obtain ⟨q1, q2, q3, q4, q5⟩ := q; first | omega | exact h261 q4 | exact h238 q3)])]; rfl⟩
          · refine x_aload_n E 4 dX4_isGood_222 rfl ?_
            refine x_get E 0 0 dX4_isGood_223 ui_X4_isGood_X4 rfl rfl (by decide) fl_X4_isGood_9 rfl rfl ?_
            refine x_iload_n E 5 dX4_isGood_226 rfl ?_
            refine x_sipush E (v := nI 8192) dX4_isGood_227 (by decide) ?_
            refine x_nimul E dX4_isGood_230 ?_
            refine x_iload_n E 3 dX4_isGood_231 rfl ?_
            refine x_niadd E dX4_isGood_232 ?_
            refine x_iconst E (v := nI 1) dX4_isGood_233 (by decide) ?_
            refine x_niadd E dX4_isGood_234 ?_
            refine x_uald E 1 1 dX4_isGood_235 rfl rfl (by omega) (by decide) ?_
            refine x_top (w := .int (nI ((fl B f (p + 1)).toNat))) (by rw [Nat.add_assoc]; rfl) ?_
            refine x_iload E 2 dX4_isGood_236 rfl ?_
            refine x_ncmp_ne E 277 dX4_isGood_238 (by decide) (u8lt (fl B f (p + 1))) (by omega) (fun h238 => ?_) (fun h238 => ?_)
            · refine x_iconst E (v := nI 0) dX4_isGood_277 (by decide) ?_
              exact x_zret E hr hlocks dX4_isGood_278 rfl ⟨q_f' (by rw [(show goodR (z f) (fl B f) kn (nI (lastS kn S)) p0 = none by rw [← e2, scanR_s, if_neg (by first | (intro q; omega)), goodE_s, if_neg (fun q => by obtain ⟨q1, q2, q3, q4, q5⟩ := q; first | omega | exact h261 q4 | exact h238 q3)])]; rfl), by rw [(show goodR (z f) (fl B f) kn (nI (lastS kn S)) p0 = none by rw [← e2, scanR_s, if_neg (by first | (intro q; omega)), goodE_s, if_neg (fun q => by obtain ⟨q1, q2, q3, q4, q5⟩ := q; first | omega | exact h261 q4 | exact h238 q3)])]; rfl⟩
            · refine x_aload_n E 4 dX4_isGood_241 rfl ?_
              refine x_iload_n E 5 dX4_isGood_242 rfl ?_
              refine x_iload_n E 3 dX4_isGood_243 rfl ?_
              refine x_iload_n E 3 dX4_isGood_244 rfl ?_
              refine x_iconst E (v := nI 2) dX4_isGood_245 (by decide) ?_
              refine x_niadd E dX4_isGood_246 ?_
              refine x_iload E 0 dX4_isGood_247 rfl ?_
              refine x_cV E [.int (nI f), .int (nI p), .int (nI (p + 2)), .int m9] [] [.int (smG (fl B f) p ((p + 2) - p) m9)] [(r0, .inr (4, [.ref d0, .ref d1, .ref d2, .ref d3, .ref d4, .int (nI kn), .int (nI mv), .ref d5, .ref d6, .int (nI ng), .ref d7, .ref d8, .ref d9, .int (nI nr), .ref d10, .int (nI fc), .int (if sh = true then 1 else 0), .int (nI rp), .int bad, .int (nI th), .int (nI sr), .int (nI sb), .int (nI at9)])), (d0, .inl (cI, 16384, .inl (uf B))), (d1, .inl (cI, 2, .inl (nf z))), (d2, .inl (cI, 600, .inl (nf S))), (d3, .inl (cI, 600, .inl (nf Ln))), (d4, .inl (cI, 38400, .inl (uf K))), (d5, .inl (cI, 600, .inl (nf gr))), (d6, .inl (cI, 600, .inl (nf gb))), (d7, .inl (cI, 16, .inl (nf nS))), (d8, .inl (cI, 16, .inl (nf nL))), (d9, .inl (cI, 1024, .inl (uf nK))), (d10, .inl (cI, 64, .inl (uf F)))] (c_X4_sumOf l D cB cI cZ cJ r0 d0 d1 d2 d3 d4 d5 d6 d7 d8 d9 d10 kn mv ng nr fc sh rp bad th sr sb at9 B z S Ln K gr gb nS nL nK F f p (p + 2) m9 (by omega) (by omega) (by omega)) 0 rfl rfl (cwV 4 hts gX4_isGood_X4_sumOf rfl rfl rfl (by decide +kernel) ⟨Nat.le_of_ble_eq_true rfl, Nat.le_of_ble_eq_true rfl⟩) [0, 1, 2, 3, 4, 5, 6, 7, 8, 9, 10, 11] [] rfl rfl (by decide) (by decide) (by decide) [0, 1, 2, 3, 4, 5, 6, 7, 8, 9, 10, 11] (by decide) rfl rfl (Nat.le_of_ble_eq_true rfl) dX4_isGood_249 ⟨Nat.zero_le _, Nat.zero_le _⟩ rfl rfl ?_
              refine x_aload_n E 4 dX4_isGood_252 rfl ?_
              refine x_iload_n E 5 dX4_isGood_253 rfl ?_
              refine x_iload_n E 3 dX4_isGood_254 rfl ?_
              refine x_iconst E (v := nI 2) dX4_isGood_255 (by decide) ?_
              refine x_niadd E dX4_isGood_256 ?_
              refine x_iconst E (v := nI 4) dX4_isGood_257 (by decide) ?_
              refine x_cV E [.int (nI f), .int (nI (p + 2)), .int (nI 4)] [.int (smG (fl B f) p ((p + 2) - p) m9)] [.int (beG (fl B f) (p + 2) 4 (nI 0)), .int (smG (fl B f) p ((p + 2) - p) m9)] [(r0, .inr (4, [.ref d0, .ref d1, .ref d2, .ref d3, .ref d4, .int (nI kn), .int (nI mv), .ref d5, .ref d6, .int (nI ng), .ref d7, .ref d8, .ref d9, .int (nI nr), .ref d10, .int (nI fc), .int (if sh = true then 1 else 0), .int (nI rp), .int bad, .int (nI th), .int (nI sr), .int (nI sb), .int (nI at9)])), (d0, .inl (cI, 16384, .inl (uf B))), (d1, .inl (cI, 2, .inl (nf z))), (d2, .inl (cI, 600, .inl (nf S))), (d3, .inl (cI, 600, .inl (nf Ln))), (d4, .inl (cI, 38400, .inl (uf K))), (d5, .inl (cI, 600, .inl (nf gr))), (d6, .inl (cI, 600, .inl (nf gb))), (d7, .inl (cI, 16, .inl (nf nS))), (d8, .inl (cI, 16, .inl (nf nL))), (d9, .inl (cI, 1024, .inl (uf nK))), (d10, .inl (cI, 64, .inl (uf F)))] (c_X4_number l D cB cI cZ cJ r0 d0 d1 d2 d3 d4 d5 d6 d7 d8 d9 d10 kn mv ng nr fc sh rp bad th sr sb at9 B z S Ln K gr gb nS nL nK F f (p + 2) 4 (by omega) (by omega)) 0 rfl rfl (cwV 3 hts gX4_isGood_X4_number rfl rfl rfl (by decide +kernel) ⟨Nat.le_of_ble_eq_true rfl, Nat.le_of_ble_eq_true rfl⟩) [0, 1, 2, 3, 4, 5, 6, 7, 8, 9, 10, 11] [] rfl rfl (by decide) (by decide) (by decide) [0, 1, 2, 3, 4, 5, 6, 7, 8, 9, 10, 11] (by decide) rfl rfl (Nat.le_of_ble_eq_true rfl) dX4_isGood_258 ⟨Nat.zero_le _, Nat.zero_le _⟩ rfl rfl ?_
              refine x_icmp_ne E 277 dX4_isGood_261 (by decide) (fun h261 => ?_) (fun h261 => ?_)
              · refine x_iconst E (v := nI 0) dX4_isGood_277 (by decide) ?_
                exact x_zret E hr hlocks dX4_isGood_278 rfl ⟨q_f' (by rw [(show goodR (z f) (fl B f) kn (nI (lastS kn S)) p0 = none by rw [← e2, scanR_s, if_neg (by first | (intro q; omega)), goodE_s, if_neg (fun q => by obtain ⟨q1, q2, q3, q4, q5⟩ := q; first | omega | exact h261 q4 | exact h238 q3)])]; rfl), by rw [(show goodR (z f) (fl B f) kn (nI (lastS kn S)) p0 = none by rw [← e2, scanR_s, if_neg (by first | (intro q; omega)), goodE_s, if_neg (fun q => by obtain ⟨q1, q2, q3, q4, q5⟩ := q; first | omega | exact h261 q4 | exact h238 q3)])]; rfl⟩
              · refine x_aload_n E 4 dX4_isGood_264 rfl ?_
                refine x_get E 0 5 dX4_isGood_265 ui_X4_isGood_X4 rfl rfl (by decide) fl_X4_isGood_62 rfl rfl ?_
                refine x_iload E 2 dX4_isGood_268 rfl ?_
                refine x_niadd E dX4_isGood_270 ?_
                refine x_sipush E (v := nI 600) dX4_isGood_271 (by decide) ?_
                refine x_ncmp_le E 279 dX4_isGood_274 (by decide) (by omega) (by decide) (fun h274 => ?_) (fun h274 => ?_)
                · refine x_aload_n E 4 dX4_isGood_279 rfl ?_
                  refine x_iload E 2 dX4_isGood_280 rfl ?_
                  refine x_put E 0 20 [(r0, .inr (4, [.ref d0, .ref d1, .ref d2, .ref d3, .ref d4, .int (nI kn), .int (nI mv), .ref d5, .ref d6, .int (nI ng), .ref d7, .ref d8, .ref d9, .int (nI nr), .ref d10, .int (nI fc), .int (if sh = true then 1 else 0), .int (nI rp), .int bad, .int (nI th), .int (nI k), .int (nI sb), .int (nI at9)])), (d0, .inl (cI, 16384, .inl (uf B))), (d1, .inl (cI, 2, .inl (nf z))), (d2, .inl (cI, 600, .inl (nf S))), (d3, .inl (cI, 600, .inl (nf Ln))), (d4, .inl (cI, 38400, .inl (uf K))), (d5, .inl (cI, 600, .inl (nf gr))), (d6, .inl (cI, 600, .inl (nf gb))), (d7, .inl (cI, 16, .inl (nf nS))), (d8, .inl (cI, 16, .inl (nf nL))), (d9, .inl (cI, 1024, .inl (uf nK))), (d10, .inl (cI, 64, .inl (uf F)))] dX4_isGood_282 ui_X4_isGood_X4 tyX4_ok nmX4 rfl rfl (by decide) fl_X4_isGood_105 rfl rfl rfl rfl (Nat.le_of_ble_eq_true rfl) rfl ?_
                  refine x_aload_n E 4 dX4_isGood_285 rfl ?_
                  refine x_iload_n E 3 dX4_isGood_286 rfl ?_
                  refine x_bipush E (v := nI 6) dX4_isGood_287 (by decide) ?_
                  refine x_niadd E dX4_isGood_289 ?_
                  refine x_iload_n E 6 dX4_isGood_290 rfl ?_
                  refine x_nisub E dX4_isGood_291 (by omega) ?_
                  refine x_put E 0 21 [(r0, .inr (4, [.ref d0, .ref d1, .ref d2, .ref d3, .ref d4, .int (nI kn), .int (nI mv), .ref d5, .ref d6, .int (nI ng), .ref d7, .ref d8, .ref d9, .int (nI nr), .ref d10, .int (nI fc), .int (if sh = true then 1 else 0), .int (nI rp), .int bad, .int (nI th), .int (nI k), .int (nI ((p + 6) - p0)), .int (nI at9)])), (d0, .inl (cI, 16384, .inl (uf B))), (d1, .inl (cI, 2, .inl (nf z))), (d2, .inl (cI, 600, .inl (nf S))), (d3, .inl (cI, 600, .inl (nf Ln))), (d4, .inl (cI, 38400, .inl (uf K))), (d5, .inl (cI, 600, .inl (nf gr))), (d6, .inl (cI, 600, .inl (nf gb))), (d7, .inl (cI, 16, .inl (nf nS))), (d8, .inl (cI, 16, .inl (nf nL))), (d9, .inl (cI, 1024, .inl (uf nK))), (d10, .inl (cI, 64, .inl (uf F)))] dX4_isGood_292 ui_X4_isGood_X4 tyX4_ok nmX4 rfl rfl (by decide) fl_X4_isGood_108 rfl rfl rfl rfl (Nat.le_of_ble_eq_true rfl) rfl ?_
                  refine x_iconst E (v := nI 1) dX4_isGood_295 (by decide) ?_
                  exact x_zret E hr hlocks dX4_isGood_296 rfl ⟨q_t' (by rw [(show goodR (z f) (fl B f) kn (nI (lastS kn S)) p0 = some (p, k) by rw [← e2, scanR_s, if_neg (by first | (intro q; omega)), goodE_s, if_pos ⟨h206, by omega, h238, h261, h274⟩])]; rfl), by rw [(show goodR (z f) (fl B f) kn (nI (lastS kn S)) p0 = some (p, k) by rw [← e2, scanR_s, if_neg (by first | (intro q; omega)), goodE_s, if_pos ⟨h206, by omega, h238, h261, h274⟩])]; rfl⟩
                · refine x_iconst E (v := nI 0) dX4_isGood_277 (by decide) ?_
                  exact x_zret E hr hlocks dX4_isGood_278 rfl ⟨q_f' (by rw [(show goodR (z f) (fl B f) kn (nI (lastS kn S)) p0 = none by rw [← e2, scanR_s, if_neg (by first | (intro q; omega)), goodE_s, if_neg (fun q => by obtain ⟨q1, q2, q3, q4, q5⟩ := q; first | omega | exact h261 q4 | exact h238 q3)])]; rfl), by rw [(show goodR (z f) (fl B f) kn (nI (lastS kn S)) p0 = none by rw [← e2, scanR_s, if_neg (by first | (intro q; omega)), goodE_s, if_neg (fun q => by obtain ⟨q1, q2, q3, q4, q5⟩ := q; first | omega | exact h261 q4 | exact h238 q3)])]; rfl⟩
      · refine x_aload_n E 4 dX4_isGood_42 rfl ?_
        refine x_get E 0 0 dX4_isGood_43 ui_X4_isGood_X4 rfl rfl (by decide) fl_X4_isGood_9 rfl rfl ?_
        refine x_iload_n E 5 dX4_isGood_46 rfl ?_
        refine x_sipush E (v := nI 8192) dX4_isGood_47 (by decide) ?_
        refine x_nimul E dX4_isGood_50 ?_
        refine x_iload_n E 3 dX4_isGood_51 rfl ?_
        refine x_niadd E dX4_isGood_52 ?_
        refine x_uald E 1 1 dX4_isGood_53 rfl rfl (by omega) (by decide) ?_
        refine x_top (w := .int (nI ((fl B f p).toNat))) rfl ?_
        refine x_nif_eq E 204 dX4_isGood_54 (by decide) (u8lt (fl B f p)) (fun h54 => ?_) (fun h54 => ?_)
        · refine x_iload E 2 dX4_isGood_204 rfl ?_
          refine x_nif_eq E 277 dX4_isGood_206 (by decide) (by omega) (fun h206 => ?_) (fun h206 => ?_)
          · refine x_iconst E (v := nI 0) dX4_isGood_277 (by decide) ?_
            exact x_zret E hr hlocks dX4_isGood_278 rfl ⟨q_f' (by rw [(show goodR (z f) (fl B f) kn (nI (lastS kn S)) p0 = none by rw [← e2, scanR_s, if_neg (by first | (intro q; omega)), goodE_s, if_neg (fun q => by obtain ⟨q1, q2, q3, q4, q5⟩ := q; first | omega | exact h261 q4 | exact h238 q3)])]; rfl), by rw [(show goodR (z f) (fl B f) kn (nI (lastS kn S)) p0 = none by rw [← e2, scanR_s, if_neg (by first | (intro q; omega)), goodE_s, if_neg (fun q => by obtain ⟨q1, q2, q3, q4, q5⟩ := q; first | omega | exact h261 q4 | exact h238 q3)])]; rfl⟩
          · refine x_iload_n E 3 dX4_isGood_209 rfl ?_
            refine x_bipush E (v := nI 6) dX4_isGood_210 (by decide) ?_
            refine x_niadd E dX4_isGood_212 ?_
            refine x_aload_n E 4 dX4_isGood_213 rfl ?_
            refine x_get E 0 1 dX4_isGood_214 ui_X4_isGood_X4 rfl rfl (by decide) fl_X4_isGood_13 rfl rfl ?_
            refine x_iload_n E 5 dX4_isGood_217 rfl ?_
            refine x_nald E 2 1 dX4_isGood_218 rfl rfl (by omega) (by decide) ?_
            refine x_ncmp_gt E 277 dX4_isGood_219 (by decide) (by omega) (by omega) (fun h219 => ?_) (fun h219 => ?_)
            · refine x_iconst E (v := nI 0) dX4_isGood_277 (by decide) ?_
              exact x_zret E hr hlocks dX4_isGood_278 rfl ⟨q_f' (by rw [(show goodR (z f) (fl B f) kn (nI (lastS kn S)) p0 = none by rw [← e2, scanR_s, if_neg (by first | (intro q; omega)), goodE_s, if_neg (fun q => by obtain ⟨q1, q2, q3, q4, q5⟩ := q; first | omega | exact h261 q4 | exact h238 q3)])]; rfl), by rw [(show goodR (z f) (fl B f) kn (nI (lastS kn S)) p0 = none by rw [← e2, scanR_s, if_neg (by first | (intro q; omega)), goodE_s, if_neg (fun q => by obtain ⟨q1, q2, q3, q4, q5⟩ := q; first | omega | exact h261 q4 | exact h238 q3)])]; rfl⟩
            · refine x_aload_n E 4 dX4_isGood_222 rfl ?_
              refine x_get E 0 0 dX4_isGood_223 ui_X4_isGood_X4 rfl rfl (by decide) fl_X4_isGood_9 rfl rfl ?_
              refine x_iload_n E 5 dX4_isGood_226 rfl ?_
              refine x_sipush E (v := nI 8192) dX4_isGood_227 (by decide) ?_
              refine x_nimul E dX4_isGood_230 ?_
              refine x_iload_n E 3 dX4_isGood_231 rfl ?_
              refine x_niadd E dX4_isGood_232 ?_
              refine x_iconst E (v := nI 1) dX4_isGood_233 (by decide) ?_
              refine x_niadd E dX4_isGood_234 ?_
              refine x_uald E 1 1 dX4_isGood_235 rfl rfl (by omega) (by decide) ?_
              refine x_top (w := .int (nI ((fl B f (p + 1)).toNat))) (by rw [Nat.add_assoc]; rfl) ?_
              refine x_iload E 2 dX4_isGood_236 rfl ?_
              refine x_ncmp_ne E 277 dX4_isGood_238 (by decide) (u8lt (fl B f (p + 1))) (by omega) (fun h238 => ?_) (fun h238 => ?_)
              · refine x_iconst E (v := nI 0) dX4_isGood_277 (by decide) ?_
                exact x_zret E hr hlocks dX4_isGood_278 rfl ⟨q_f' (by rw [(show goodR (z f) (fl B f) kn (nI (lastS kn S)) p0 = none by rw [← e2, scanR_s, if_neg (by first | (intro q; omega)), goodE_s, if_neg (fun q => by obtain ⟨q1, q2, q3, q4, q5⟩ := q; first | omega | exact h261 q4 | exact h238 q3)])]; rfl), by rw [(show goodR (z f) (fl B f) kn (nI (lastS kn S)) p0 = none by rw [← e2, scanR_s, if_neg (by first | (intro q; omega)), goodE_s, if_neg (fun q => by obtain ⟨q1, q2, q3, q4, q5⟩ := q; first | omega | exact h261 q4 | exact h238 q3)])]; rfl⟩
              · refine x_aload_n E 4 dX4_isGood_241 rfl ?_
                refine x_iload_n E 5 dX4_isGood_242 rfl ?_
                refine x_iload_n E 3 dX4_isGood_243 rfl ?_
                refine x_iload_n E 3 dX4_isGood_244 rfl ?_
                refine x_iconst E (v := nI 2) dX4_isGood_245 (by decide) ?_
                refine x_niadd E dX4_isGood_246 ?_
                refine x_iload E 0 dX4_isGood_247 rfl ?_
                refine x_cV E [.int (nI f), .int (nI p), .int (nI (p + 2)), .int m9] [] [.int (smG (fl B f) p ((p + 2) - p) m9)] [(r0, .inr (4, [.ref d0, .ref d1, .ref d2, .ref d3, .ref d4, .int (nI kn), .int (nI mv), .ref d5, .ref d6, .int (nI ng), .ref d7, .ref d8, .ref d9, .int (nI nr), .ref d10, .int (nI fc), .int (if sh = true then 1 else 0), .int (nI rp), .int bad, .int (nI th), .int (nI sr), .int (nI sb), .int (nI at9)])), (d0, .inl (cI, 16384, .inl (uf B))), (d1, .inl (cI, 2, .inl (nf z))), (d2, .inl (cI, 600, .inl (nf S))), (d3, .inl (cI, 600, .inl (nf Ln))), (d4, .inl (cI, 38400, .inl (uf K))), (d5, .inl (cI, 600, .inl (nf gr))), (d6, .inl (cI, 600, .inl (nf gb))), (d7, .inl (cI, 16, .inl (nf nS))), (d8, .inl (cI, 16, .inl (nf nL))), (d9, .inl (cI, 1024, .inl (uf nK))), (d10, .inl (cI, 64, .inl (uf F)))] (c_X4_sumOf l D cB cI cZ cJ r0 d0 d1 d2 d3 d4 d5 d6 d7 d8 d9 d10 kn mv ng nr fc sh rp bad th sr sb at9 B z S Ln K gr gb nS nL nK F f p (p + 2) m9 (by omega) (by omega) (by omega)) 0 rfl rfl (cwV 4 hts gX4_isGood_X4_sumOf rfl rfl rfl (by decide +kernel) ⟨Nat.le_of_ble_eq_true rfl, Nat.le_of_ble_eq_true rfl⟩) [0, 1, 2, 3, 4, 5, 6, 7, 8, 9, 10, 11] [] rfl rfl (by decide) (by decide) (by decide) [0, 1, 2, 3, 4, 5, 6, 7, 8, 9, 10, 11] (by decide) rfl rfl (Nat.le_of_ble_eq_true rfl) dX4_isGood_249 ⟨Nat.zero_le _, Nat.zero_le _⟩ rfl rfl ?_
                refine x_aload_n E 4 dX4_isGood_252 rfl ?_
                refine x_iload_n E 5 dX4_isGood_253 rfl ?_
                refine x_iload_n E 3 dX4_isGood_254 rfl ?_
                refine x_iconst E (v := nI 2) dX4_isGood_255 (by decide) ?_
                refine x_niadd E dX4_isGood_256 ?_
                refine x_iconst E (v := nI 4) dX4_isGood_257 (by decide) ?_
                refine x_cV E [.int (nI f), .int (nI (p + 2)), .int (nI 4)] [.int (smG (fl B f) p ((p + 2) - p) m9)] [.int (beG (fl B f) (p + 2) 4 (nI 0)), .int (smG (fl B f) p ((p + 2) - p) m9)] [(r0, .inr (4, [.ref d0, .ref d1, .ref d2, .ref d3, .ref d4, .int (nI kn), .int (nI mv), .ref d5, .ref d6, .int (nI ng), .ref d7, .ref d8, .ref d9, .int (nI nr), .ref d10, .int (nI fc), .int (if sh = true then 1 else 0), .int (nI rp), .int bad, .int (nI th), .int (nI sr), .int (nI sb), .int (nI at9)])), (d0, .inl (cI, 16384, .inl (uf B))), (d1, .inl (cI, 2, .inl (nf z))), (d2, .inl (cI, 600, .inl (nf S))), (d3, .inl (cI, 600, .inl (nf Ln))), (d4, .inl (cI, 38400, .inl (uf K))), (d5, .inl (cI, 600, .inl (nf gr))), (d6, .inl (cI, 600, .inl (nf gb))), (d7, .inl (cI, 16, .inl (nf nS))), (d8, .inl (cI, 16, .inl (nf nL))), (d9, .inl (cI, 1024, .inl (uf nK))), (d10, .inl (cI, 64, .inl (uf F)))] (c_X4_number l D cB cI cZ cJ r0 d0 d1 d2 d3 d4 d5 d6 d7 d8 d9 d10 kn mv ng nr fc sh rp bad th sr sb at9 B z S Ln K gr gb nS nL nK F f (p + 2) 4 (by omega) (by omega)) 0 rfl rfl (cwV 3 hts gX4_isGood_X4_number rfl rfl rfl (by decide +kernel) ⟨Nat.le_of_ble_eq_true rfl, Nat.le_of_ble_eq_true rfl⟩) [0, 1, 2, 3, 4, 5, 6, 7, 8, 9, 10, 11] [] rfl rfl (by decide) (by decide) (by decide) [0, 1, 2, 3, 4, 5, 6, 7, 8, 9, 10, 11] (by decide) rfl rfl (Nat.le_of_ble_eq_true rfl) dX4_isGood_258 ⟨Nat.zero_le _, Nat.zero_le _⟩ rfl rfl ?_
                refine x_icmp_ne E 277 dX4_isGood_261 (by decide) (fun h261 => ?_) (fun h261 => ?_)
                · refine x_iconst E (v := nI 0) dX4_isGood_277 (by decide) ?_
                  exact x_zret E hr hlocks dX4_isGood_278 rfl ⟨q_f' (by rw [(show goodR (z f) (fl B f) kn (nI (lastS kn S)) p0 = none by rw [← e2, scanR_s, if_neg (by first | (intro q; omega)), goodE_s, if_neg (fun q => by obtain ⟨q1, q2, q3, q4, q5⟩ := q; first | omega | exact h261 q4 | exact h238 q3)])]; rfl), by rw [(show goodR (z f) (fl B f) kn (nI (lastS kn S)) p0 = none by rw [← e2, scanR_s, if_neg (by first | (intro q; omega)), goodE_s, if_neg (fun q => by obtain ⟨q1, q2, q3, q4, q5⟩ := q; first | omega | exact h261 q4 | exact h238 q3)])]; rfl⟩
                · refine x_aload_n E 4 dX4_isGood_264 rfl ?_
                  refine x_get E 0 5 dX4_isGood_265 ui_X4_isGood_X4 rfl rfl (by decide) fl_X4_isGood_62 rfl rfl ?_
                  refine x_iload E 2 dX4_isGood_268 rfl ?_
                  refine x_niadd E dX4_isGood_270 ?_
                  refine x_sipush E (v := nI 600) dX4_isGood_271 (by decide) ?_
                  refine x_ncmp_le E 279 dX4_isGood_274 (by decide) (by omega) (by decide) (fun h274 => ?_) (fun h274 => ?_)
                  · refine x_aload_n E 4 dX4_isGood_279 rfl ?_
                    refine x_iload E 2 dX4_isGood_280 rfl ?_
                    refine x_put E 0 20 [(r0, .inr (4, [.ref d0, .ref d1, .ref d2, .ref d3, .ref d4, .int (nI kn), .int (nI mv), .ref d5, .ref d6, .int (nI ng), .ref d7, .ref d8, .ref d9, .int (nI nr), .ref d10, .int (nI fc), .int (if sh = true then 1 else 0), .int (nI rp), .int bad, .int (nI th), .int (nI k), .int (nI sb), .int (nI at9)])), (d0, .inl (cI, 16384, .inl (uf B))), (d1, .inl (cI, 2, .inl (nf z))), (d2, .inl (cI, 600, .inl (nf S))), (d3, .inl (cI, 600, .inl (nf Ln))), (d4, .inl (cI, 38400, .inl (uf K))), (d5, .inl (cI, 600, .inl (nf gr))), (d6, .inl (cI, 600, .inl (nf gb))), (d7, .inl (cI, 16, .inl (nf nS))), (d8, .inl (cI, 16, .inl (nf nL))), (d9, .inl (cI, 1024, .inl (uf nK))), (d10, .inl (cI, 64, .inl (uf F)))] dX4_isGood_282 ui_X4_isGood_X4 tyX4_ok nmX4 rfl rfl (by decide) fl_X4_isGood_105 rfl rfl rfl rfl (Nat.le_of_ble_eq_true rfl) rfl ?_
                    refine x_aload_n E 4 dX4_isGood_285 rfl ?_
                    refine x_iload_n E 3 dX4_isGood_286 rfl ?_
                    refine x_bipush E (v := nI 6) dX4_isGood_287 (by decide) ?_
                    refine x_niadd E dX4_isGood_289 ?_
                    refine x_iload_n E 6 dX4_isGood_290 rfl ?_
                    refine x_nisub E dX4_isGood_291 (by omega) ?_
                    refine x_put E 0 21 [(r0, .inr (4, [.ref d0, .ref d1, .ref d2, .ref d3, .ref d4, .int (nI kn), .int (nI mv), .ref d5, .ref d6, .int (nI ng), .ref d7, .ref d8, .ref d9, .int (nI nr), .ref d10, .int (nI fc), .int (if sh = true then 1 else 0), .int (nI rp), .int bad, .int (nI th), .int (nI k), .int (nI ((p + 6) - p0)), .int (nI at9)])), (d0, .inl (cI, 16384, .inl (uf B))), (d1, .inl (cI, 2, .inl (nf z))), (d2, .inl (cI, 600, .inl (nf S))), (d3, .inl (cI, 600, .inl (nf Ln))), (d4, .inl (cI, 38400, .inl (uf K))), (d5, .inl (cI, 600, .inl (nf gr))), (d6, .inl (cI, 600, .inl (nf gb))), (d7, .inl (cI, 16, .inl (nf nS))), (d8, .inl (cI, 16, .inl (nf nL))), (d9, .inl (cI, 1024, .inl (uf nK))), (d10, .inl (cI, 64, .inl (uf F)))] dX4_isGood_292 ui_X4_isGood_X4 tyX4_ok nmX4 rfl rfl (by decide) fl_X4_isGood_108 rfl rfl rfl rfl (Nat.le_of_ble_eq_true rfl) rfl ?_
                    refine x_iconst E (v := nI 1) dX4_isGood_295 (by decide) ?_
                    exact x_zret E hr hlocks dX4_isGood_296 rfl ⟨q_t' (by rw [(show goodR (z f) (fl B f) kn (nI (lastS kn S)) p0 = some (p, k) by rw [← e2, scanR_s, if_neg (by first | (intro q; omega)), goodE_s, if_pos ⟨h206, by omega, h238, h261, h274⟩])]; rfl), by rw [(show goodR (z f) (fl B f) kn (nI (lastS kn S)) p0 = some (p, k) by rw [← e2, scanR_s, if_neg (by first | (intro q; omega)), goodE_s, if_pos ⟨h206, by omega, h238, h261, h274⟩])]; rfl⟩
                  · refine x_iconst E (v := nI 0) dX4_isGood_277 (by decide) ?_
                    exact x_zret E hr hlocks dX4_isGood_278 rfl ⟨q_f' (by rw [(show goodR (z f) (fl B f) kn (nI (lastS kn S)) p0 = none by rw [← e2, scanR_s, if_neg (by first | (intro q; omega)), goodE_s, if_neg (fun q => by obtain ⟨q1, q2, q3, q4, q5⟩ := q; first | omega | exact h261 q4 | exact h238 q3)])]; rfl), by rw [(show goodR (z f) (fl B f) kn (nI (lastS kn S)) p0 = none by rw [← e2, scanR_s, if_neg (by first | (intro q; omega)), goodE_s, if_neg (fun q => by obtain ⟨q1, q2, q3, q4, q5⟩ := q; first | omega | exact h261 q4 | exact h238 q3)])]; rfl⟩
        · refine x_aload_n E 4 dX4_isGood_57 rfl ?_
          refine x_get E 0 0 dX4_isGood_58 ui_X4_isGood_X4 rfl rfl (by decide) fl_X4_isGood_9 rfl rfl ?_
          refine x_iload_n E 5 dX4_isGood_61 rfl ?_
          refine x_sipush E (v := nI 8192) dX4_isGood_62 (by decide) ?_
          refine x_nimul E dX4_isGood_65 ?_
          refine x_iload_n E 3 dX4_isGood_66 rfl ?_
          refine x_niadd E dX4_isGood_67 ?_
          refine x_uald E 1 1 dX4_isGood_68 rfl rfl (by omega) (by decide) ?_
          refine x_top (w := .int (nI ((fl B f p).toNat))) rfl ?_
          refine x_istore E [(7, .int (nI ((fl B f p).toNat))), (6, .int m9), (5, .int s9), (4, .int (nI k)), (3, .int (nI p)), (0, .ref r0), (1, .int (nI f)), (2, .int (nI p0))] dX4_isGood_69 (by decide) rfl ?_
          refine x_iload E 0 dX4_isGood_71 rfl ?_
          refine x_bipush E (v := nI 64) dX4_isGood_73 (by decide) ?_
          refine x_ncmp_gt E 101 dX4_isGood_75 (by decide) (u8lt (fl B f p)) (by decide) (fun h75 => ?_) (fun h75 => ?_)
          · refine x_iconst E (v := nI 0) dX4_isGood_101 (by decide) ?_
            exact x_zret E hr hlocks dX4_isGood_102 rfl ⟨q_f' (by rw [(show goodR (z f) (fl B f) kn (nI (lastS kn S)) p0 = none by rw [← e2, scanR_s, if_pos ⟨by omega, h54⟩, if_neg (fun q => by obtain ⟨q1, q2, q3, q4, q5, q6, q7⟩ := q; first | omega | exact h181 q7 | exact q6 h174 | exact h167 q5 | exact h145 q4)]; rfl)]; rfl), by rw [(show goodR (z f) (fl B f) kn (nI (lastS kn S)) p0 = none by rw [← e2, scanR_s, if_pos ⟨by omega, h54⟩, if_neg (fun q => by obtain ⟨q1, q2, q3, q4, q5, q6, q7⟩ := q; first | omega | exact h181 q7 | exact q6 h174 | exact h167 q5 | exact h145 q4)]; rfl)]; rfl⟩
          · refine x_iload_n E 4 dX4_isGood_78 rfl ?_
            refine x_bipush E (v := nI 11) dX4_isGood_79 (by decide) ?_
            refine x_niadd E dX4_isGood_81 ?_
            refine x_iload E 0 dX4_isGood_82 rfl ?_
            refine x_niadd E dX4_isGood_84 ?_
            refine x_aload_n E 5 dX4_isGood_85 rfl ?_
            refine x_get E 0 1 dX4_isGood_86 ui_X4_isGood_X4 rfl rfl (by decide) fl_X4_isGood_13 rfl rfl ?_
            refine x_iload_n E 6 dX4_isGood_89 rfl ?_
            refine x_nald E 2 1 dX4_isGood_90 rfl rfl (by omega) (by decide) ?_
            refine x_ncmp_gt E 101 dX4_isGood_91 (by decide) (by omega) (by omega) (fun h91 => ?_) (fun h91 => ?_)
            · refine x_iconst E (v := nI 0) dX4_isGood_101 (by decide) ?_
              exact x_zret E hr hlocks dX4_isGood_102 rfl ⟨q_f' (by rw [(show goodR (z f) (fl B f) kn (nI (lastS kn S)) p0 = none by rw [← e2, scanR_s, if_pos ⟨by omega, h54⟩, if_neg (fun q => by obtain ⟨q1, q2, q3, q4, q5, q6, q7⟩ := q; first | omega | exact h181 q7 | exact q6 h174 | exact h167 q5 | exact h145 q4)]; rfl)]; rfl), by rw [(show goodR (z f) (fl B f) kn (nI (lastS kn S)) p0 = none by rw [← e2, scanR_s, if_pos ⟨by omega, h54⟩, if_neg (fun q => by obtain ⟨q1, q2, q3, q4, q5, q6, q7⟩ := q; first | omega | exact h181 q7 | exact q6 h174 | exact h167 q5 | exact h145 q4)]; rfl)]; rfl⟩
            · refine x_iload E 3 dX4_isGood_94 rfl ?_
              refine x_bipush E (v := nI 16) dX4_isGood_96 (by decide) ?_
              refine x_ncmp_ne E 103 dX4_isGood_98 (by decide) (by omega) (by decide) (fun h => False.elim (by omega)) (fun h98 => ?_)
              refine x_iconst E (v := nI 0) dX4_isGood_101 (by decide) ?_
              exact x_zret E hr hlocks dX4_isGood_102 rfl ⟨q_f' (by rw [(show goodR (z f) (fl B f) kn (nI (lastS kn S)) p0 = none by rw [← e2, scanR_s, if_pos ⟨by omega, h54⟩, if_neg (fun q => by obtain ⟨q1, q2, q3, q4, q5, q6, q7⟩ := q; first | omega | exact h181 q7 | exact q6 h174 | exact h167 q5 | exact h145 q4)]; rfl)]; rfl), by rw [(show goodR (z f) (fl B f) kn (nI (lastS kn S)) p0 = none by rw [← e2, scanR_s, if_pos ⟨by omega, h54⟩, if_neg (fun q => by obtain ⟨q1, q2, q3, q4, q5, q6, q7⟩ := q; first | omega | exact h181 q7 | exact q6 h174 | exact h167 q5 | exact h145 q4)]; rfl)]; rfl⟩
    | succ f9 ih =>
      intro p k s9 m9 e1 hp1 hp2 e2
      refine x_iload_n E 3 dX4_isGood_32 rfl ?_
      refine x_aload_n E 4 dX4_isGood_33 rfl ?_
      refine x_get E 0 1 dX4_isGood_34 ui_X4_isGood_X4 rfl rfl (by decide) fl_X4_isGood_13 rfl rfl ?_
      refine x_iload_n E 5 dX4_isGood_37 rfl ?_
      refine x_nald E 2 1 dX4_isGood_38 rfl rfl (by omega) (by decide) ?_
      refine x_ncmp_ge E 204 dX4_isGood_39 (by decide) (by omega) (by omega) (fun h39 => ?_) (fun h39 => ?_)
      · refine x_iload E 2 dX4_isGood_204 rfl ?_
        refine x_nif_eq E 277 dX4_isGood_206 (by decide) (by omega) (fun h206 => ?_) (fun h206 => ?_)
        · refine x_iconst E (v := nI 0) dX4_isGood_277 (by decide) ?_
          exact x_zret E hr hlocks dX4_isGood_278 rfl ⟨q_f' (by rw [(show goodR (z f) (fl B f) kn (nI (lastS kn S)) p0 = none by rw [← e2, scanR_s, if_neg (by first | (intro q; omega)), goodE_s, if_neg (fun q => by obtain ⟨q1, q2, q3, q4, q5⟩ := q; first | omega | exact h261 q4 | exact h238 q3)])]; rfl), by rw [(show goodR (z f) (fl B f) kn (nI (lastS kn S)) p0 = none by rw [← e2, scanR_s, if_neg (by first | (intro q; omega)), goodE_s, if_neg (fun q => by obtain ⟨q1, q2, q3, q4, q5⟩ := q; first | omega | exact h261 q4 | exact h238 q3)])]; rfl⟩
        · refine x_iload_n E 3 dX4_isGood_209 rfl ?_
          refine x_bipush E (v := nI 6) dX4_isGood_210 (by decide) ?_
          refine x_niadd E dX4_isGood_212 ?_
          refine x_aload_n E 4 dX4_isGood_213 rfl ?_
          refine x_get E 0 1 dX4_isGood_214 ui_X4_isGood_X4 rfl rfl (by decide) fl_X4_isGood_13 rfl rfl ?_
          refine x_iload_n E 5 dX4_isGood_217 rfl ?_
          refine x_nald E 2 1 dX4_isGood_218 rfl rfl (by omega) (by decide) ?_
          refine x_ncmp_gt E 277 dX4_isGood_219 (by decide) (by omega) (by omega) (fun h219 => ?_) (fun h219 => ?_)
          · refine x_iconst E (v := nI 0) dX4_isGood_277 (by decide) ?_
            exact x_zret E hr hlocks dX4_isGood_278 rfl ⟨q_f' (by rw [(show goodR (z f) (fl B f) kn (nI (lastS kn S)) p0 = none by rw [← e2, scanR_s, if_neg (by first | (intro q; omega)), goodE_s, if_neg (fun q => by obtain ⟨q1, q2, q3, q4, q5⟩ := q; first | omega | exact h261 q4 | exact h238 q3)])]; rfl), by rw [(show goodR (z f) (fl B f) kn (nI (lastS kn S)) p0 = none by rw [← e2, scanR_s, if_neg (by first | (intro q; omega)), goodE_s, if_neg (fun q => by obtain ⟨q1, q2, q3, q4, q5⟩ := q; first | omega | exact h261 q4 | exact h238 q3)])]; rfl⟩
          · refine x_aload_n E 4 dX4_isGood_222 rfl ?_
            refine x_get E 0 0 dX4_isGood_223 ui_X4_isGood_X4 rfl rfl (by decide) fl_X4_isGood_9 rfl rfl ?_
            refine x_iload_n E 5 dX4_isGood_226 rfl ?_
            refine x_sipush E (v := nI 8192) dX4_isGood_227 (by decide) ?_
            refine x_nimul E dX4_isGood_230 ?_
            refine x_iload_n E 3 dX4_isGood_231 rfl ?_
            refine x_niadd E dX4_isGood_232 ?_
            refine x_iconst E (v := nI 1) dX4_isGood_233 (by decide) ?_
            refine x_niadd E dX4_isGood_234 ?_
            refine x_uald E 1 1 dX4_isGood_235 rfl rfl (by omega) (by decide) ?_
            refine x_top (w := .int (nI ((fl B f (p + 1)).toNat))) (by rw [Nat.add_assoc]; rfl) ?_
            refine x_iload E 2 dX4_isGood_236 rfl ?_
            refine x_ncmp_ne E 277 dX4_isGood_238 (by decide) (u8lt (fl B f (p + 1))) (by omega) (fun h238 => ?_) (fun h238 => ?_)
            · refine x_iconst E (v := nI 0) dX4_isGood_277 (by decide) ?_
              exact x_zret E hr hlocks dX4_isGood_278 rfl ⟨q_f' (by rw [(show goodR (z f) (fl B f) kn (nI (lastS kn S)) p0 = none by rw [← e2, scanR_s, if_neg (by first | (intro q; omega)), goodE_s, if_neg (fun q => by obtain ⟨q1, q2, q3, q4, q5⟩ := q; first | omega | exact h261 q4 | exact h238 q3)])]; rfl), by rw [(show goodR (z f) (fl B f) kn (nI (lastS kn S)) p0 = none by rw [← e2, scanR_s, if_neg (by first | (intro q; omega)), goodE_s, if_neg (fun q => by obtain ⟨q1, q2, q3, q4, q5⟩ := q; first | omega | exact h261 q4 | exact h238 q3)])]; rfl⟩
            · refine x_aload_n E 4 dX4_isGood_241 rfl ?_
              refine x_iload_n E 5 dX4_isGood_242 rfl ?_
              refine x_iload_n E 3 dX4_isGood_243 rfl ?_
              refine x_iload_n E 3 dX4_isGood_244 rfl ?_
              refine x_iconst E (v := nI 2) dX4_isGood_245 (by decide) ?_
              refine x_niadd E dX4_isGood_246 ?_
              refine x_iload E 0 dX4_isGood_247 rfl ?_
              refine x_cV E [.int (nI f), .int (nI p), .int (nI (p + 2)), .int m9] [] [.int (smG (fl B f) p ((p + 2) - p) m9)] [(r0, .inr (4, [.ref d0, .ref d1, .ref d2, .ref d3, .ref d4, .int (nI kn), .int (nI mv), .ref d5, .ref d6, .int (nI ng), .ref d7, .ref d8, .ref d9, .int (nI nr), .ref d10, .int (nI fc), .int (if sh = true then 1 else 0), .int (nI rp), .int bad, .int (nI th), .int (nI sr), .int (nI sb), .int (nI at9)])), (d0, .inl (cI, 16384, .inl (uf B))), (d1, .inl (cI, 2, .inl (nf z))), (d2, .inl (cI, 600, .inl (nf S))), (d3, .inl (cI, 600, .inl (nf Ln))), (d4, .inl (cI, 38400, .inl (uf K))), (d5, .inl (cI, 600, .inl (nf gr))), (d6, .inl (cI, 600, .inl (nf gb))), (d7, .inl (cI, 16, .inl (nf nS))), (d8, .inl (cI, 16, .inl (nf nL))), (d9, .inl (cI, 1024, .inl (uf nK))), (d10, .inl (cI, 64, .inl (uf F)))] (c_X4_sumOf l D cB cI cZ cJ r0 d0 d1 d2 d3 d4 d5 d6 d7 d8 d9 d10 kn mv ng nr fc sh rp bad th sr sb at9 B z S Ln K gr gb nS nL nK F f p (p + 2) m9 (by omega) (by omega) (by omega)) 0 rfl rfl (cwV 4 hts gX4_isGood_X4_sumOf rfl rfl rfl (by decide +kernel) ⟨Nat.le_of_ble_eq_true rfl, Nat.le_of_ble_eq_true rfl⟩) [0, 1, 2, 3, 4, 5, 6, 7, 8, 9, 10, 11] [] rfl rfl (by decide) (by decide) (by decide) [0, 1, 2, 3, 4, 5, 6, 7, 8, 9, 10, 11] (by decide) rfl rfl (Nat.le_of_ble_eq_true rfl) dX4_isGood_249 ⟨Nat.zero_le _, Nat.zero_le _⟩ rfl rfl ?_
              refine x_aload_n E 4 dX4_isGood_252 rfl ?_
              refine x_iload_n E 5 dX4_isGood_253 rfl ?_
              refine x_iload_n E 3 dX4_isGood_254 rfl ?_
              refine x_iconst E (v := nI 2) dX4_isGood_255 (by decide) ?_
              refine x_niadd E dX4_isGood_256 ?_
              refine x_iconst E (v := nI 4) dX4_isGood_257 (by decide) ?_
              refine x_cV E [.int (nI f), .int (nI (p + 2)), .int (nI 4)] [.int (smG (fl B f) p ((p + 2) - p) m9)] [.int (beG (fl B f) (p + 2) 4 (nI 0)), .int (smG (fl B f) p ((p + 2) - p) m9)] [(r0, .inr (4, [.ref d0, .ref d1, .ref d2, .ref d3, .ref d4, .int (nI kn), .int (nI mv), .ref d5, .ref d6, .int (nI ng), .ref d7, .ref d8, .ref d9, .int (nI nr), .ref d10, .int (nI fc), .int (if sh = true then 1 else 0), .int (nI rp), .int bad, .int (nI th), .int (nI sr), .int (nI sb), .int (nI at9)])), (d0, .inl (cI, 16384, .inl (uf B))), (d1, .inl (cI, 2, .inl (nf z))), (d2, .inl (cI, 600, .inl (nf S))), (d3, .inl (cI, 600, .inl (nf Ln))), (d4, .inl (cI, 38400, .inl (uf K))), (d5, .inl (cI, 600, .inl (nf gr))), (d6, .inl (cI, 600, .inl (nf gb))), (d7, .inl (cI, 16, .inl (nf nS))), (d8, .inl (cI, 16, .inl (nf nL))), (d9, .inl (cI, 1024, .inl (uf nK))), (d10, .inl (cI, 64, .inl (uf F)))] (c_X4_number l D cB cI cZ cJ r0 d0 d1 d2 d3 d4 d5 d6 d7 d8 d9 d10 kn mv ng nr fc sh rp bad th sr sb at9 B z S Ln K gr gb nS nL nK F f (p + 2) 4 (by omega) (by omega)) 0 rfl rfl (cwV 3 hts gX4_isGood_X4_number rfl rfl rfl (by decide +kernel) ⟨Nat.le_of_ble_eq_true rfl, Nat.le_of_ble_eq_true rfl⟩) [0, 1, 2, 3, 4, 5, 6, 7, 8, 9, 10, 11] [] rfl rfl (by decide) (by decide) (by decide) [0, 1, 2, 3, 4, 5, 6, 7, 8, 9, 10, 11] (by decide) rfl rfl (Nat.le_of_ble_eq_true rfl) dX4_isGood_258 ⟨Nat.zero_le _, Nat.zero_le _⟩ rfl rfl ?_
              refine x_icmp_ne E 277 dX4_isGood_261 (by decide) (fun h261 => ?_) (fun h261 => ?_)
              · refine x_iconst E (v := nI 0) dX4_isGood_277 (by decide) ?_
                exact x_zret E hr hlocks dX4_isGood_278 rfl ⟨q_f' (by rw [(show goodR (z f) (fl B f) kn (nI (lastS kn S)) p0 = none by rw [← e2, scanR_s, if_neg (by first | (intro q; omega)), goodE_s, if_neg (fun q => by obtain ⟨q1, q2, q3, q4, q5⟩ := q; first | omega | exact h261 q4 | exact h238 q3)])]; rfl), by rw [(show goodR (z f) (fl B f) kn (nI (lastS kn S)) p0 = none by rw [← e2, scanR_s, if_neg (by first | (intro q; omega)), goodE_s, if_neg (fun q => by obtain ⟨q1, q2, q3, q4, q5⟩ := q; first | omega | exact h261 q4 | exact h238 q3)])]; rfl⟩
              · refine x_aload_n E 4 dX4_isGood_264 rfl ?_
                refine x_get E 0 5 dX4_isGood_265 ui_X4_isGood_X4 rfl rfl (by decide) fl_X4_isGood_62 rfl rfl ?_
                refine x_iload E 2 dX4_isGood_268 rfl ?_
                refine x_niadd E dX4_isGood_270 ?_
                refine x_sipush E (v := nI 600) dX4_isGood_271 (by decide) ?_
                refine x_ncmp_le E 279 dX4_isGood_274 (by decide) (by omega) (by decide) (fun h274 => ?_) (fun h274 => ?_)
                · refine x_aload_n E 4 dX4_isGood_279 rfl ?_
                  refine x_iload E 2 dX4_isGood_280 rfl ?_
                  refine x_put E 0 20 [(r0, .inr (4, [.ref d0, .ref d1, .ref d2, .ref d3, .ref d4, .int (nI kn), .int (nI mv), .ref d5, .ref d6, .int (nI ng), .ref d7, .ref d8, .ref d9, .int (nI nr), .ref d10, .int (nI fc), .int (if sh = true then 1 else 0), .int (nI rp), .int bad, .int (nI th), .int (nI k), .int (nI sb), .int (nI at9)])), (d0, .inl (cI, 16384, .inl (uf B))), (d1, .inl (cI, 2, .inl (nf z))), (d2, .inl (cI, 600, .inl (nf S))), (d3, .inl (cI, 600, .inl (nf Ln))), (d4, .inl (cI, 38400, .inl (uf K))), (d5, .inl (cI, 600, .inl (nf gr))), (d6, .inl (cI, 600, .inl (nf gb))), (d7, .inl (cI, 16, .inl (nf nS))), (d8, .inl (cI, 16, .inl (nf nL))), (d9, .inl (cI, 1024, .inl (uf nK))), (d10, .inl (cI, 64, .inl (uf F)))] dX4_isGood_282 ui_X4_isGood_X4 tyX4_ok nmX4 rfl rfl (by decide) fl_X4_isGood_105 rfl rfl rfl rfl (Nat.le_of_ble_eq_true rfl) rfl ?_
                  refine x_aload_n E 4 dX4_isGood_285 rfl ?_
                  refine x_iload_n E 3 dX4_isGood_286 rfl ?_
                  refine x_bipush E (v := nI 6) dX4_isGood_287 (by decide) ?_
                  refine x_niadd E dX4_isGood_289 ?_
                  refine x_iload_n E 6 dX4_isGood_290 rfl ?_
                  refine x_nisub E dX4_isGood_291 (by omega) ?_
                  refine x_put E 0 21 [(r0, .inr (4, [.ref d0, .ref d1, .ref d2, .ref d3, .ref d4, .int (nI kn), .int (nI mv), .ref d5, .ref d6, .int (nI ng), .ref d7, .ref d8, .ref d9, .int (nI nr), .ref d10, .int (nI fc), .int (if sh = true then 1 else 0), .int (nI rp), .int bad, .int (nI th), .int (nI k), .int (nI ((p + 6) - p0)), .int (nI at9)])), (d0, .inl (cI, 16384, .inl (uf B))), (d1, .inl (cI, 2, .inl (nf z))), (d2, .inl (cI, 600, .inl (nf S))), (d3, .inl (cI, 600, .inl (nf Ln))), (d4, .inl (cI, 38400, .inl (uf K))), (d5, .inl (cI, 600, .inl (nf gr))), (d6, .inl (cI, 600, .inl (nf gb))), (d7, .inl (cI, 16, .inl (nf nS))), (d8, .inl (cI, 16, .inl (nf nL))), (d9, .inl (cI, 1024, .inl (uf nK))), (d10, .inl (cI, 64, .inl (uf F)))] dX4_isGood_292 ui_X4_isGood_X4 tyX4_ok nmX4 rfl rfl (by decide) fl_X4_isGood_108 rfl rfl rfl rfl (Nat.le_of_ble_eq_true rfl) rfl ?_
                  refine x_iconst E (v := nI 1) dX4_isGood_295 (by decide) ?_
                  exact x_zret E hr hlocks dX4_isGood_296 rfl ⟨q_t' (by rw [(show goodR (z f) (fl B f) kn (nI (lastS kn S)) p0 = some (p, k) by rw [← e2, scanR_s, if_neg (by first | (intro q; omega)), goodE_s, if_pos ⟨h206, by omega, h238, h261, h274⟩])]; rfl), by rw [(show goodR (z f) (fl B f) kn (nI (lastS kn S)) p0 = some (p, k) by rw [← e2, scanR_s, if_neg (by first | (intro q; omega)), goodE_s, if_pos ⟨h206, by omega, h238, h261, h274⟩])]; rfl⟩
                · refine x_iconst E (v := nI 0) dX4_isGood_277 (by decide) ?_
                  exact x_zret E hr hlocks dX4_isGood_278 rfl ⟨q_f' (by rw [(show goodR (z f) (fl B f) kn (nI (lastS kn S)) p0 = none by rw [← e2, scanR_s, if_neg (by first | (intro q; omega)), goodE_s, if_neg (fun q => by obtain ⟨q1, q2, q3, q4, q5⟩ := q; first | omega | exact h261 q4 | exact h238 q3)])]; rfl), by rw [(show goodR (z f) (fl B f) kn (nI (lastS kn S)) p0 = none by rw [← e2, scanR_s, if_neg (by first | (intro q; omega)), goodE_s, if_neg (fun q => by obtain ⟨q1, q2, q3, q4, q5⟩ := q; first | omega | exact h261 q4 | exact h238 q3)])]; rfl⟩
      · refine x_aload_n E 4 dX4_isGood_42 rfl ?_
        refine x_get E 0 0 dX4_isGood_43 ui_X4_isGood_X4 rfl rfl (by decide) fl_X4_isGood_9 rfl rfl ?_
        refine x_iload_n E 5 dX4_isGood_46 rfl ?_
        refine x_sipush E (v := nI 8192) dX4_isGood_47 (by decide) ?_
        refine x_nimul E dX4_isGood_50 ?_
        refine x_iload_n E 3 dX4_isGood_51 rfl ?_
        refine x_niadd E dX4_isGood_52 ?_
        refine x_uald E 1 1 dX4_isGood_53 rfl rfl (by omega) (by decide) ?_
        refine x_top (w := .int (nI ((fl B f p).toNat))) rfl ?_
        refine x_nif_eq E 204 dX4_isGood_54 (by decide) (u8lt (fl B f p)) (fun h54 => ?_) (fun h54 => ?_)
        · refine x_iload E 2 dX4_isGood_204 rfl ?_
          refine x_nif_eq E 277 dX4_isGood_206 (by decide) (by omega) (fun h206 => ?_) (fun h206 => ?_)
          · refine x_iconst E (v := nI 0) dX4_isGood_277 (by decide) ?_
            exact x_zret E hr hlocks dX4_isGood_278 rfl ⟨q_f' (by rw [(show goodR (z f) (fl B f) kn (nI (lastS kn S)) p0 = none by rw [← e2, scanR_s, if_neg (by first | (intro q; omega)), goodE_s, if_neg (fun q => by obtain ⟨q1, q2, q3, q4, q5⟩ := q; first | omega | exact h261 q4 | exact h238 q3)])]; rfl), by rw [(show goodR (z f) (fl B f) kn (nI (lastS kn S)) p0 = none by rw [← e2, scanR_s, if_neg (by first | (intro q; omega)), goodE_s, if_neg (fun q => by obtain ⟨q1, q2, q3, q4, q5⟩ := q; first | omega | exact h261 q4 | exact h238 q3)])]; rfl⟩
          · refine x_iload_n E 3 dX4_isGood_209 rfl ?_
            refine x_bipush E (v := nI 6) dX4_isGood_210 (by decide) ?_
            refine x_niadd E dX4_isGood_212 ?_
            refine x_aload_n E 4 dX4_isGood_213 rfl ?_
            refine x_get E 0 1 dX4_isGood_214 ui_X4_isGood_X4 rfl rfl (by decide) fl_X4_isGood_13 rfl rfl ?_
            refine x_iload_n E 5 dX4_isGood_217 rfl ?_
            refine x_nald E 2 1 dX4_isGood_218 rfl rfl (by omega) (by decide) ?_
            refine x_ncmp_gt E 277 dX4_isGood_219 (by decide) (by omega) (by omega) (fun h219 => ?_) (fun h219 => ?_)
            · refine x_iconst E (v := nI 0) dX4_isGood_277 (by decide) ?_
              exact x_zret E hr hlocks dX4_isGood_278 rfl ⟨q_f' (by rw [(show goodR (z f) (fl B f) kn (nI (lastS kn S)) p0 = none by rw [← e2, scanR_s, if_neg (by first | (intro q; omega)), goodE_s, if_neg (fun q => by obtain ⟨q1, q2, q3, q4, q5⟩ := q; first | omega | exact h261 q4 | exact h238 q3)])]; rfl), by rw [(show goodR (z f) (fl B f) kn (nI (lastS kn S)) p0 = none by rw [← e2, scanR_s, if_neg (by first | (intro q; omega)), goodE_s, if_neg (fun q => by obtain ⟨q1, q2, q3, q4, q5⟩ := q; first | omega | exact h261 q4 | exact h238 q3)])]; rfl⟩
            · refine x_aload_n E 4 dX4_isGood_222 rfl ?_
              refine x_get E 0 0 dX4_isGood_223 ui_X4_isGood_X4 rfl rfl (by decide) fl_X4_isGood_9 rfl rfl ?_
              refine x_iload_n E 5 dX4_isGood_226 rfl ?_
              refine x_sipush E (v := nI 8192) dX4_isGood_227 (by decide) ?_
              refine x_nimul E dX4_isGood_230 ?_
              refine x_iload_n E 3 dX4_isGood_231 rfl ?_
              refine x_niadd E dX4_isGood_232 ?_
              refine x_iconst E (v := nI 1) dX4_isGood_233 (by decide) ?_
              refine x_niadd E dX4_isGood_234 ?_
              refine x_uald E 1 1 dX4_isGood_235 rfl rfl (by omega) (by decide) ?_
              refine x_top (w := .int (nI ((fl B f (p + 1)).toNat))) (by rw [Nat.add_assoc]; rfl) ?_
              refine x_iload E 2 dX4_isGood_236 rfl ?_
              refine x_ncmp_ne E 277 dX4_isGood_238 (by decide) (u8lt (fl B f (p + 1))) (by omega) (fun h238 => ?_) (fun h238 => ?_)
              · refine x_iconst E (v := nI 0) dX4_isGood_277 (by decide) ?_
                exact x_zret E hr hlocks dX4_isGood_278 rfl ⟨q_f' (by rw [(show goodR (z f) (fl B f) kn (nI (lastS kn S)) p0 = none by rw [← e2, scanR_s, if_neg (by first | (intro q; omega)), goodE_s, if_neg (fun q => by obtain ⟨q1, q2, q3, q4, q5⟩ := q; first | omega | exact h261 q4 | exact h238 q3)])]; rfl), by rw [(show goodR (z f) (fl B f) kn (nI (lastS kn S)) p0 = none by rw [← e2, scanR_s, if_neg (by first | (intro q; omega)), goodE_s, if_neg (fun q => by obtain ⟨q1, q2, q3, q4, q5⟩ := q; first | omega | exact h261 q4 | exact h238 q3)])]; rfl⟩
              · refine x_aload_n E 4 dX4_isGood_241 rfl ?_
                refine x_iload_n E 5 dX4_isGood_242 rfl ?_
                refine x_iload_n E 3 dX4_isGood_243 rfl ?_
                refine x_iload_n E 3 dX4_isGood_244 rfl ?_
                refine x_iconst E (v := nI 2) dX4_isGood_245 (by decide) ?_
                refine x_niadd E dX4_isGood_246 ?_
                refine x_iload E 0 dX4_isGood_247 rfl ?_
                refine x_cV E [.int (nI f), .int (nI p), .int (nI (p + 2)), .int m9] [] [.int (smG (fl B f) p ((p + 2) - p) m9)] [(r0, .inr (4, [.ref d0, .ref d1, .ref d2, .ref d3, .ref d4, .int (nI kn), .int (nI mv), .ref d5, .ref d6, .int (nI ng), .ref d7, .ref d8, .ref d9, .int (nI nr), .ref d10, .int (nI fc), .int (if sh = true then 1 else 0), .int (nI rp), .int bad, .int (nI th), .int (nI sr), .int (nI sb), .int (nI at9)])), (d0, .inl (cI, 16384, .inl (uf B))), (d1, .inl (cI, 2, .inl (nf z))), (d2, .inl (cI, 600, .inl (nf S))), (d3, .inl (cI, 600, .inl (nf Ln))), (d4, .inl (cI, 38400, .inl (uf K))), (d5, .inl (cI, 600, .inl (nf gr))), (d6, .inl (cI, 600, .inl (nf gb))), (d7, .inl (cI, 16, .inl (nf nS))), (d8, .inl (cI, 16, .inl (nf nL))), (d9, .inl (cI, 1024, .inl (uf nK))), (d10, .inl (cI, 64, .inl (uf F)))] (c_X4_sumOf l D cB cI cZ cJ r0 d0 d1 d2 d3 d4 d5 d6 d7 d8 d9 d10 kn mv ng nr fc sh rp bad th sr sb at9 B z S Ln K gr gb nS nL nK F f p (p + 2) m9 (by omega) (by omega) (by omega)) 0 rfl rfl (cwV 4 hts gX4_isGood_X4_sumOf rfl rfl rfl (by decide +kernel) ⟨Nat.le_of_ble_eq_true rfl, Nat.le_of_ble_eq_true rfl⟩) [0, 1, 2, 3, 4, 5, 6, 7, 8, 9, 10, 11] [] rfl rfl (by decide) (by decide) (by decide) [0, 1, 2, 3, 4, 5, 6, 7, 8, 9, 10, 11] (by decide) rfl rfl (Nat.le_of_ble_eq_true rfl) dX4_isGood_249 ⟨Nat.zero_le _, Nat.zero_le _⟩ rfl rfl ?_
                refine x_aload_n E 4 dX4_isGood_252 rfl ?_
                refine x_iload_n E 5 dX4_isGood_253 rfl ?_
                refine x_iload_n E 3 dX4_isGood_254 rfl ?_
                refine x_iconst E (v := nI 2) dX4_isGood_255 (by decide) ?_
                refine x_niadd E dX4_isGood_256 ?_
                refine x_iconst E (v := nI 4) dX4_isGood_257 (by decide) ?_
                refine x_cV E [.int (nI f), .int (nI (p + 2)), .int (nI 4)] [.int (smG (fl B f) p ((p + 2) - p) m9)] [.int (beG (fl B f) (p + 2) 4 (nI 0)), .int (smG (fl B f) p ((p + 2) - p) m9)] [(r0, .inr (4, [.ref d0, .ref d1, .ref d2, .ref d3, .ref d4, .int (nI kn), .int (nI mv), .ref d5, .ref d6, .int (nI ng), .ref d7, .ref d8, .ref d9, .int (nI nr), .ref d10, .int (nI fc), .int (if sh = true then 1 else 0), .int (nI rp), .int bad, .int (nI th), .int (nI sr), .int (nI sb), .int (nI at9)])), (d0, .inl (cI, 16384, .inl (uf B))), (d1, .inl (cI, 2, .inl (nf z))), (d2, .inl (cI, 600, .inl (nf S))), (d3, .inl (cI, 600, .inl (nf Ln))), (d4, .inl (cI, 38400, .inl (uf K))), (d5, .inl (cI, 600, .inl (nf gr))), (d6, .inl (cI, 600, .inl (nf gb))), (d7, .inl (cI, 16, .inl (nf nS))), (d8, .inl (cI, 16, .inl (nf nL))), (d9, .inl (cI, 1024, .inl (uf nK))), (d10, .inl (cI, 64, .inl (uf F)))] (c_X4_number l D cB cI cZ cJ r0 d0 d1 d2 d3 d4 d5 d6 d7 d8 d9 d10 kn mv ng nr fc sh rp bad th sr sb at9 B z S Ln K gr gb nS nL nK F f (p + 2) 4 (by omega) (by omega)) 0 rfl rfl (cwV 3 hts gX4_isGood_X4_number rfl rfl rfl (by decide +kernel) ⟨Nat.le_of_ble_eq_true rfl, Nat.le_of_ble_eq_true rfl⟩) [0, 1, 2, 3, 4, 5, 6, 7, 8, 9, 10, 11] [] rfl rfl (by decide) (by decide) (by decide) [0, 1, 2, 3, 4, 5, 6, 7, 8, 9, 10, 11] (by decide) rfl rfl (Nat.le_of_ble_eq_true rfl) dX4_isGood_258 ⟨Nat.zero_le _, Nat.zero_le _⟩ rfl rfl ?_
                refine x_icmp_ne E 277 dX4_isGood_261 (by decide) (fun h261 => ?_) (fun h261 => ?_)
                · refine x_iconst E (v := nI 0) dX4_isGood_277 (by decide) ?_
                  exact x_zret E hr hlocks dX4_isGood_278 rfl ⟨q_f' (by rw [(show goodR (z f) (fl B f) kn (nI (lastS kn S)) p0 = none by rw [← e2, scanR_s, if_neg (by first | (intro q; omega)), goodE_s, if_neg (fun q => by obtain ⟨q1, q2, q3, q4, q5⟩ := q; first | omega | exact h261 q4 | exact h238 q3)])]; rfl), by rw [(show goodR (z f) (fl B f) kn (nI (lastS kn S)) p0 = none by rw [← e2, scanR_s, if_neg (by first | (intro q; omega)), goodE_s, if_neg (fun q => by obtain ⟨q1, q2, q3, q4, q5⟩ := q; first | omega | exact h261 q4 | exact h238 q3)])]; rfl⟩
                · refine x_aload_n E 4 dX4_isGood_264 rfl ?_
                  refine x_get E 0 5 dX4_isGood_265 ui_X4_isGood_X4 rfl rfl (by decide) fl_X4_isGood_62 rfl rfl ?_
                  refine x_iload E 2 dX4_isGood_268 rfl ?_
                  refine x_niadd E dX4_isGood_270 ?_
                  refine x_sipush E (v := nI 600) dX4_isGood_271 (by decide) ?_
                  refine x_ncmp_le E 279 dX4_isGood_274 (by decide) (by omega) (by decide) (fun h274 => ?_) (fun h274 => ?_)
                  · refine x_aload_n E 4 dX4_isGood_279 rfl ?_
                    refine x_iload E 2 dX4_isGood_280 rfl ?_
                    refine x_put E 0 20 [(r0, .inr (4, [.ref d0, .ref d1, .ref d2, .ref d3, .ref d4, .int (nI kn), .int (nI mv), .ref d5, .ref d6, .int (nI ng), .ref d7, .ref d8, .ref d9, .int (nI nr), .ref d10, .int (nI fc), .int (if sh = true then 1 else 0), .int (nI rp), .int bad, .int (nI th), .int (nI k), .int (nI sb), .int (nI at9)])), (d0, .inl (cI, 16384, .inl (uf B))), (d1, .inl (cI, 2, .inl (nf z))), (d2, .inl (cI, 600, .inl (nf S))), (d3, .inl (cI, 600, .inl (nf Ln))), (d4, .inl (cI, 38400, .inl (uf K))), (d5, .inl (cI, 600, .inl (nf gr))), (d6, .inl (cI, 600, .inl (nf gb))), (d7, .inl (cI, 16, .inl (nf nS))), (d8, .inl (cI, 16, .inl (nf nL))), (d9, .inl (cI, 1024, .inl (uf nK))), (d10, .inl (cI, 64, .inl (uf F)))] dX4_isGood_282 ui_X4_isGood_X4 tyX4_ok nmX4 rfl rfl (by decide) fl_X4_isGood_105 rfl rfl rfl rfl (Nat.le_of_ble_eq_true rfl) rfl ?_
                    refine x_aload_n E 4 dX4_isGood_285 rfl ?_
                    refine x_iload_n E 3 dX4_isGood_286 rfl ?_
                    refine x_bipush E (v := nI 6) dX4_isGood_287 (by decide) ?_
                    refine x_niadd E dX4_isGood_289 ?_
                    refine x_iload_n E 6 dX4_isGood_290 rfl ?_
                    refine x_nisub E dX4_isGood_291 (by omega) ?_
                    refine x_put E 0 21 [(r0, .inr (4, [.ref d0, .ref d1, .ref d2, .ref d3, .ref d4, .int (nI kn), .int (nI mv), .ref d5, .ref d6, .int (nI ng), .ref d7, .ref d8, .ref d9, .int (nI nr), .ref d10, .int (nI fc), .int (if sh = true then 1 else 0), .int (nI rp), .int bad, .int (nI th), .int (nI k), .int (nI ((p + 6) - p0)), .int (nI at9)])), (d0, .inl (cI, 16384, .inl (uf B))), (d1, .inl (cI, 2, .inl (nf z))), (d2, .inl (cI, 600, .inl (nf S))), (d3, .inl (cI, 600, .inl (nf Ln))), (d4, .inl (cI, 38400, .inl (uf K))), (d5, .inl (cI, 600, .inl (nf gr))), (d6, .inl (cI, 600, .inl (nf gb))), (d7, .inl (cI, 16, .inl (nf nS))), (d8, .inl (cI, 16, .inl (nf nL))), (d9, .inl (cI, 1024, .inl (uf nK))), (d10, .inl (cI, 64, .inl (uf F)))] dX4_isGood_292 ui_X4_isGood_X4 tyX4_ok nmX4 rfl rfl (by decide) fl_X4_isGood_108 rfl rfl rfl rfl (Nat.le_of_ble_eq_true rfl) rfl ?_
                    refine x_iconst E (v := nI 1) dX4_isGood_295 (by decide) ?_
                    exact x_zret E hr hlocks dX4_isGood_296 rfl ⟨q_t' (by rw [(show goodR (z f) (fl B f) kn (nI (lastS kn S)) p0 = some (p, k) by rw [← e2, scanR_s, if_neg (by first | (intro q; omega)), goodE_s, if_pos ⟨h206, by omega, h238, h261, h274⟩])]; rfl), by rw [(show goodR (z f) (fl B f) kn (nI (lastS kn S)) p0 = some (p, k) by rw [← e2, scanR_s, if_neg (by first | (intro q; omega)), goodE_s, if_pos ⟨h206, by omega, h238, h261, h274⟩])]; rfl⟩
                  · refine x_iconst E (v := nI 0) dX4_isGood_277 (by decide) ?_
                    exact x_zret E hr hlocks dX4_isGood_278 rfl ⟨q_f' (by rw [(show goodR (z f) (fl B f) kn (nI (lastS kn S)) p0 = none by rw [← e2, scanR_s, if_neg (by first | (intro q; omega)), goodE_s, if_neg (fun q => by obtain ⟨q1, q2, q3, q4, q5⟩ := q; first | omega | exact h261 q4 | exact h238 q3)])]; rfl), by rw [(show goodR (z f) (fl B f) kn (nI (lastS kn S)) p0 = none by rw [← e2, scanR_s, if_neg (by first | (intro q; omega)), goodE_s, if_neg (fun q => by obtain ⟨q1, q2, q3, q4, q5⟩ := q; first | omega | exact h261 q4 | exact h238 q3)])]; rfl⟩
        · refine x_aload_n E 4 dX4_isGood_57 rfl ?_
          refine x_get E 0 0 dX4_isGood_58 ui_X4_isGood_X4 rfl rfl (by decide) fl_X4_isGood_9 rfl rfl ?_
          refine x_iload_n E 5 dX4_isGood_61 rfl ?_
          refine x_sipush E (v := nI 8192) dX4_isGood_62 (by decide) ?_
          refine x_nimul E dX4_isGood_65 ?_
          refine x_iload_n E 3 dX4_isGood_66 rfl ?_
          refine x_niadd E dX4_isGood_67 ?_
          refine x_uald E 1 1 dX4_isGood_68 rfl rfl (by omega) (by decide) ?_
          refine x_top (w := .int (nI ((fl B f p).toNat))) rfl ?_
          refine x_istore E [(7, .int (nI ((fl B f p).toNat))), (6, .int m9), (5, .int s9), (4, .int (nI k)), (3, .int (nI p)), (0, .ref r0), (1, .int (nI f)), (2, .int (nI p0))] dX4_isGood_69 (by decide) rfl ?_
          refine x_iload E 0 dX4_isGood_71 rfl ?_
          refine x_bipush E (v := nI 64) dX4_isGood_73 (by decide) ?_
          refine x_ncmp_gt E 101 dX4_isGood_75 (by decide) (u8lt (fl B f p)) (by decide) (fun h75 => ?_) (fun h75 => ?_)
          · refine x_iconst E (v := nI 0) dX4_isGood_101 (by decide) ?_
            exact x_zret E hr hlocks dX4_isGood_102 rfl ⟨q_f' (by rw [(show goodR (z f) (fl B f) kn (nI (lastS kn S)) p0 = none by rw [← e2, scanR_s, if_pos ⟨by omega, h54⟩, if_neg (fun q => by obtain ⟨q1, q2, q3, q4, q5, q6, q7⟩ := q; first | omega | exact h181 q7 | exact q6 h174 | exact h167 q5 | exact h145 q4)]; rfl)]; rfl), by rw [(show goodR (z f) (fl B f) kn (nI (lastS kn S)) p0 = none by rw [← e2, scanR_s, if_pos ⟨by omega, h54⟩, if_neg (fun q => by obtain ⟨q1, q2, q3, q4, q5, q6, q7⟩ := q; first | omega | exact h181 q7 | exact q6 h174 | exact h167 q5 | exact h145 q4)]; rfl)]; rfl⟩
          · refine x_iload_n E 4 dX4_isGood_78 rfl ?_
            refine x_bipush E (v := nI 11) dX4_isGood_79 (by decide) ?_
            refine x_niadd E dX4_isGood_81 ?_
            refine x_iload E 0 dX4_isGood_82 rfl ?_
            refine x_niadd E dX4_isGood_84 ?_
            refine x_aload_n E 5 dX4_isGood_85 rfl ?_
            refine x_get E 0 1 dX4_isGood_86 ui_X4_isGood_X4 rfl rfl (by decide) fl_X4_isGood_13 rfl rfl ?_
            refine x_iload_n E 6 dX4_isGood_89 rfl ?_
            refine x_nald E 2 1 dX4_isGood_90 rfl rfl (by omega) (by decide) ?_
            refine x_ncmp_gt E 101 dX4_isGood_91 (by decide) (by omega) (by omega) (fun h91 => ?_) (fun h91 => ?_)
            · refine x_iconst E (v := nI 0) dX4_isGood_101 (by decide) ?_
              exact x_zret E hr hlocks dX4_isGood_102 rfl ⟨q_f' (by rw [(show goodR (z f) (fl B f) kn (nI (lastS kn S)) p0 = none by rw [← e2, scanR_s, if_pos ⟨by omega, h54⟩, if_neg (fun q => by obtain ⟨q1, q2, q3, q4, q5, q6, q7⟩ := q; first | omega | exact h181 q7 | exact q6 h174 | exact h167 q5 | exact h145 q4)]; rfl)]; rfl), by rw [(show goodR (z f) (fl B f) kn (nI (lastS kn S)) p0 = none by rw [← e2, scanR_s, if_pos ⟨by omega, h54⟩, if_neg (fun q => by obtain ⟨q1, q2, q3, q4, q5, q6, q7⟩ := q; first | omega | exact h181 q7 | exact q6 h174 | exact h167 q5 | exact h145 q4)]; rfl)]; rfl⟩
            · refine x_iload E 3 dX4_isGood_94 rfl ?_
              refine x_bipush E (v := nI 16) dX4_isGood_96 (by decide) ?_
              refine x_ncmp_ne E 103 dX4_isGood_98 (by decide) (by omega) (by decide) (fun h98 => ?_) (fun h98 => ?_)
              · refine x_aload_n E 5 dX4_isGood_103 rfl ?_
                refine x_iload_n E 6 dX4_isGood_104 rfl ?_
                refine x_iload_n E 4 dX4_isGood_105 rfl ?_
                refine x_iconst E (v := nI 1) dX4_isGood_106 (by decide) ?_
                refine x_niadd E dX4_isGood_107 ?_
                refine x_iconst E (v := nI 4) dX4_isGood_108 (by decide) ?_
                refine x_cV E [.int (nI f), .int (nI (p + 1)), .int (nI 4)] [] [.int (beG (fl B f) (p + 1) 4 (nI 0))] [(r0, .inr (4, [.ref d0, .ref d1, .ref d2, .ref d3, .ref d4, .int (nI kn), .int (nI mv), .ref d5, .ref d6, .int (nI ng), .ref d7, .ref d8, .ref d9, .int (nI nr), .ref d10, .int (nI fc), .int (if sh = true then 1 else 0), .int (nI rp), .int bad, .int (nI th), .int (nI sr), .int (nI sb), .int (nI at9)])), (d0, .inl (cI, 16384, .inl (uf B))), (d1, .inl (cI, 2, .inl (nf z))), (d2, .inl (cI, 600, .inl (nf S))), (d3, .inl (cI, 600, .inl (nf Ln))), (d4, .inl (cI, 38400, .inl (uf K))), (d5, .inl (cI, 600, .inl (nf gr))), (d6, .inl (cI, 600, .inl (nf gb))), (d7, .inl (cI, 16, .inl (nf nS))), (d8, .inl (cI, 16, .inl (nf nL))), (d9, .inl (cI, 1024, .inl (uf nK))), (d10, .inl (cI, 64, .inl (uf F)))] (c_X4_number l D cB cI cZ cJ r0 d0 d1 d2 d3 d4 d5 d6 d7 d8 d9 d10 kn mv ng nr fc sh rp bad th sr sb at9 B z S Ln K gr gb nS nL nK F f (p + 1) 4 (by omega) (by omega)) 0 rfl rfl (cwV 3 hts gX4_isGood_X4_number rfl rfl rfl (by decide +kernel) ⟨Nat.le_of_ble_eq_true rfl, Nat.le_of_ble_eq_true rfl⟩) [0, 1, 2, 3, 4, 5, 6, 7, 8, 9, 10, 11] [] rfl rfl (by decide) (by decide) (by decide) [0, 1, 2, 3, 4, 5, 6, 7, 8, 9, 10, 11] (by decide) rfl rfl (Nat.le_of_ble_eq_true rfl) dX4_isGood_109 ⟨Nat.zero_le _, Nat.zero_le _⟩ rfl rfl ?_
                refine x_istore E [(8, .int (beG (fl B f) (p + 1) 4 (nI 0))), (7, .int (nI ((fl B f p).toNat))), (6, .int m9), (5, .int s9), (4, .int (nI k)), (3, .int (nI p)), (0, .ref r0), (1, .int (nI f)), (2, .int (nI p0))] dX4_isGood_112 (by decide) rfl ?_
                refine x_aload_n E 6 dX4_isGood_114 rfl ?_
                refine x_iload_n E 7 dX4_isGood_115 rfl ?_
                refine x_iload_n E 5 dX4_isGood_116 rfl ?_
                refine x_iload_n E 5 dX4_isGood_117 rfl ?_
                refine x_bipush E (v := nI 7) dX4_isGood_118 (by decide) ?_
                refine x_niadd E dX4_isGood_120 ?_
                refine x_iload E 1 dX4_isGood_121 rfl ?_
                refine x_niadd E dX4_isGood_123 ?_
                refine x_iconst E (v := nI 0) dX4_isGood_124 (by decide) ?_
                refine x_cV E [.int (nI f), .int (nI p), .int (nI ((p + 7) + ((fl B f p).toNat))), .int (nI 0)] [] [.int (smG (fl B f) p (((p + 7) + ((fl B f p).toNat)) - p) (nI 0))] [(r0, .inr (4, [.ref d0, .ref d1, .ref d2, .ref d3, .ref d4, .int (nI kn), .int (nI mv), .ref d5, .ref d6, .int (nI ng), .ref d7, .ref d8, .ref d9, .int (nI nr), .ref d10, .int (nI fc), .int (if sh = true then 1 else 0), .int (nI rp), .int bad, .int (nI th), .int (nI sr), .int (nI sb), .int (nI at9)])), (d0, .inl (cI, 16384, .inl (uf B))), (d1, .inl (cI, 2, .inl (nf z))), (d2, .inl (cI, 600, .inl (nf S))), (d3, .inl (cI, 600, .inl (nf Ln))), (d4, .inl (cI, 38400, .inl (uf K))), (d5, .inl (cI, 600, .inl (nf gr))), (d6, .inl (cI, 600, .inl (nf gb))), (d7, .inl (cI, 16, .inl (nf nS))), (d8, .inl (cI, 16, .inl (nf nL))), (d9, .inl (cI, 1024, .inl (uf nK))), (d10, .inl (cI, 64, .inl (uf F)))] (c_X4_sumOf l D cB cI cZ cJ r0 d0 d1 d2 d3 d4 d5 d6 d7 d8 d9 d10 kn mv ng nr fc sh rp bad th sr sb at9 B z S Ln K gr gb nS nL nK F f p ((p + 7) + ((fl B f p).toNat)) (nI 0) (by omega) (by omega) (by omega)) 0 rfl rfl (cwV 4 hts gX4_isGood_X4_sumOf rfl rfl rfl (by decide +kernel) ⟨Nat.le_of_ble_eq_true rfl, Nat.le_of_ble_eq_true rfl⟩) [0, 1, 2, 3, 4, 5, 6, 7, 8, 9, 10, 11] [] rfl rfl (by decide) (by decide) (by decide) [0, 1, 2, 3, 4, 5, 6, 7, 8, 9, 10, 11] (by decide) rfl rfl (Nat.le_of_ble_eq_true rfl) dX4_isGood_125 ⟨Nat.zero_le _, Nat.zero_le _⟩ rfl rfl ?_
                refine x_istore E [(6, .int (smG (fl B f) p (((p + 7) + ((fl B f p).toNat)) - p) (nI 0))), (8, .int (beG (fl B f) (p + 1) 4 (nI 0))), (7, .int (nI ((fl B f p).toNat))), (5, .int s9), (4, .int (nI k)), (3, .int (nI p)), (0, .ref r0), (1, .int (nI f)), (2, .int (nI p0))] dX4_isGood_128 (by decide) rfl ?_
                refine x_iload E 0 dX4_isGood_130 rfl ?_
                refine x_aload_n E 6 dX4_isGood_132 rfl ?_
                refine x_iload_n E 7 dX4_isGood_133 rfl ?_
                refine x_iload_n E 5 dX4_isGood_134 rfl ?_
                refine x_bipush E (v := nI 7) dX4_isGood_135 (by decide) ?_
                refine x_niadd E dX4_isGood_137 ?_
                refine x_iload E 2 dX4_isGood_138 rfl ?_
                refine x_niadd E dX4_isGood_140 ?_
                refine x_iconst E (v := nI 4) dX4_isGood_141 (by decide) ?_
                refine x_cV E [.int (nI f), .int (nI ((p + 7) + ((fl B f p).toNat))), .int (nI 4)] [.int (smG (fl B f) p (((p + 7) + ((fl B f p).toNat)) - p) (nI 0))] [.int (beG (fl B f) ((p + 7) + ((fl B f p).toNat)) 4 (nI 0)), .int (smG (fl B f) p (((p + 7) + ((fl B f p).toNat)) - p) (nI 0))] [(r0, .inr (4, [.ref d0, .ref d1, .ref d2, .ref d3, .ref d4, .int (nI kn), .int (nI mv), .ref d5, .ref d6, .int (nI ng), .ref d7, .ref d8, .ref d9, .int (nI nr), .ref d10, .int (nI fc), .int (if sh = true then 1 else 0), .int (nI rp), .int bad, .int (nI th), .int (nI sr), .int (nI sb), .int (nI at9)])), (d0, .inl (cI, 16384, .inl (uf B))), (d1, .inl (cI, 2, .inl (nf z))), (d2, .inl (cI, 600, .inl (nf S))), (d3, .inl (cI, 600, .inl (nf Ln))), (d4, .inl (cI, 38400, .inl (uf K))), (d5, .inl (cI, 600, .inl (nf gr))), (d6, .inl (cI, 600, .inl (nf gb))), (d7, .inl (cI, 16, .inl (nf nS))), (d8, .inl (cI, 16, .inl (nf nL))), (d9, .inl (cI, 1024, .inl (uf nK))), (d10, .inl (cI, 64, .inl (uf F)))] (c_X4_number l D cB cI cZ cJ r0 d0 d1 d2 d3 d4 d5 d6 d7 d8 d9 d10 kn mv ng nr fc sh rp bad th sr sb at9 B z S Ln K gr gb nS nL nK F f ((p + 7) + ((fl B f p).toNat)) 4 (by omega) (by omega)) 0 rfl rfl (cwV 3 hts gX4_isGood_X4_number rfl rfl rfl (by decide +kernel) ⟨Nat.le_of_ble_eq_true rfl, Nat.le_of_ble_eq_true rfl⟩) [0, 1, 2, 3, 4, 5, 6, 7, 8, 9, 10, 11] [] rfl rfl (by decide) (by decide) (by decide) [0, 1, 2, 3, 4, 5, 6, 7, 8, 9, 10, 11] (by decide) rfl rfl (Nat.le_of_ble_eq_true rfl) dX4_isGood_142 ⟨Nat.zero_le _, Nat.zero_le _⟩ rfl rfl ?_
                refine x_icmp_ne E 184 dX4_isGood_145 (by decide) (fun h145 => ?_) (fun h145 => ?_)
                · refine x_iconst E (v := nI 0) dX4_isGood_184 (by decide) ?_
                  exact x_zret E hr hlocks dX4_isGood_185 rfl ⟨q_f' (by rw [(show goodR (z f) (fl B f) kn (nI (lastS kn S)) p0 = none by rw [← e2, scanR_s, if_pos ⟨by omega, h54⟩, if_neg (fun q => by obtain ⟨q1, q2, q3, q4, q5, q6, q7⟩ := q; first | omega | exact h181 q7 | exact q6 h174 | exact h167 q5 | exact h145 q4)]; rfl)]; rfl), by rw [(show goodR (z f) (fl B f) kn (nI (lastS kn S)) p0 = none by rw [← e2, scanR_s, if_pos ⟨by omega, h54⟩, if_neg (fun q => by obtain ⟨q1, q2, q3, q4, q5, q6, q7⟩ := q; first | omega | exact h181 q7 | exact q6 h174 | exact h167 q5 | exact h145 q4)]; rfl)]; rfl⟩
                · refine x_aload_n E 6 dX4_isGood_148 rfl ?_
                  refine x_iload_n E 7 dX4_isGood_149 rfl ?_
                  refine x_iload_n E 5 dX4_isGood_150 rfl ?_
                  refine x_iconst E (v := nI 5) dX4_isGood_151 (by decide) ?_
                  refine x_niadd E dX4_isGood_152 ?_
                  refine x_iload E 2 dX4_isGood_153 rfl ?_
                  refine x_niadd E dX4_isGood_155 ?_
                  refine x_iconst E (v := nI 2) dX4_isGood_156 (by decide) ?_
                  refine x_cV E [.int (nI f), .int (nI ((p + 5) + ((fl B f p).toNat))), .int (nI 2)] [] [.int (beG (fl B f) ((p + 5) + ((fl B f p).toNat)) 2 (nI 0))] [(r0, .inr (4, [.ref d0, .ref d1, .ref d2, .ref d3, .ref d4, .int (nI kn), .int (nI mv), .ref d5, .ref d6, .int (nI ng), .ref d7, .ref d8, .ref d9, .int (nI nr), .ref d10, .int (nI fc), .int (if sh = true then 1 else 0), .int (nI rp), .int bad, .int (nI th), .int (nI sr), .int (nI sb), .int (nI at9)])), (d0, .inl (cI, 16384, .inl (uf B))), (d1, .inl (cI, 2, .inl (nf z))), (d2, .inl (cI, 600, .inl (nf S))), (d3, .inl (cI, 600, .inl (nf Ln))), (d4, .inl (cI, 38400, .inl (uf K))), (d5, .inl (cI, 600, .inl (nf gr))), (d6, .inl (cI, 600, .inl (nf gb))), (d7, .inl (cI, 16, .inl (nf nS))), (d8, .inl (cI, 16, .inl (nf nL))), (d9, .inl (cI, 1024, .inl (uf nK))), (d10, .inl (cI, 64, .inl (uf F)))] (c_X4_number l D cB cI cZ cJ r0 d0 d1 d2 d3 d4 d5 d6 d7 d8 d9 d10 kn mv ng nr fc sh rp bad th sr sb at9 B z S Ln K gr gb nS nL nK F f ((p + 5) + ((fl B f p).toNat)) 2 (by omega) (by omega)) 0 rfl rfl (cwV 3 hts gX4_isGood_X4_number rfl rfl rfl (by decide +kernel) ⟨Nat.le_of_ble_eq_true rfl, Nat.le_of_ble_eq_true rfl⟩) [0, 1, 2, 3, 4, 5, 6, 7, 8, 9, 10, 11] [] rfl rfl (by decide) (by decide) (by decide) [0, 1, 2, 3, 4, 5, 6, 7, 8, 9, 10, 11] (by decide) rfl rfl (Nat.le_of_ble_eq_true rfl) dX4_isGood_157 ⟨Nat.zero_le _, Nat.zero_le _⟩ rfl rfl ?_
                  refine x_aload_n E 6 dX4_isGood_160 rfl ?_
                  refine x_get E 0 5 dX4_isGood_161 ui_X4_isGood_X4 rfl rfl (by decide) fl_X4_isGood_62 rfl rfl ?_
                  refine x_iload E 4 dX4_isGood_164 rfl ?_
                  refine x_niadd E dX4_isGood_166 ?_
                  refine x_icmp_ne E 184 dX4_isGood_167 (by decide) (fun h167 => ?_) (fun h167 => ?_)
                  · refine x_iconst E (v := nI 0) dX4_isGood_184 (by decide) ?_
                    exact x_zret E hr hlocks dX4_isGood_185 rfl ⟨q_f' (by rw [(show goodR (z f) (fl B f) kn (nI (lastS kn S)) p0 = none by rw [← e2, scanR_s, if_pos ⟨by omega, h54⟩, if_neg (fun q => by obtain ⟨q1, q2, q3, q4, q5, q6, q7⟩ := q; first | omega | exact h181 q7 | exact q6 h174 | exact h167 q5 | exact h145 q4)]; rfl)]; rfl), by rw [(show goodR (z f) (fl B f) kn (nI (lastS kn S)) p0 = none by rw [← e2, scanR_s, if_pos ⟨by omega, h54⟩, if_neg (fun q => by obtain ⟨q1, q2, q3, q4, q5, q6, q7⟩ := q; first | omega | exact h181 q7 | exact q6 h174 | exact h167 q5 | exact h145 q4)]; rfl)]; rfl⟩
                  · refine x_iload E 1 dX4_isGood_170 rfl ?_
                    refine x_iload E 3 dX4_isGood_172 rfl ?_
                    refine x_icmp_lt E 184 dX4_isGood_174 (by decide) (fun h174 => ?_) (fun h174 => ?_)
                    · refine x_iconst E (v := nI 0) dX4_isGood_184 (by decide) ?_
                      exact x_zret E hr hlocks dX4_isGood_185 rfl ⟨q_f' (by rw [(show goodR (z f) (fl B f) kn (nI (lastS kn S)) p0 = none by rw [← e2, scanR_s, if_pos ⟨by omega, h54⟩, if_neg (fun q => by obtain ⟨q1, q2, q3, q4, q5, q6, q7⟩ := q; first | omega | exact h181 q7 | exact q6 h174 | exact h167 q5 | exact h145 q4)]; rfl)]; rfl), by rw [(show goodR (z f) (fl B f) kn (nI (lastS kn S)) p0 = none by rw [← e2, scanR_s, if_pos ⟨by omega, h54⟩, if_neg (fun q => by obtain ⟨q1, q2, q3, q4, q5, q6, q7⟩ := q; first | omega | exact h181 q7 | exact q6 h174 | exact h167 q5 | exact h145 q4)]; rfl)]; rfl⟩
                    · refine x_iload E 1 dX4_isGood_177 rfl ?_
                      refine x_ldc E (v := nI 1000000000) dX4_isGood_179 cn_X4_isGood_65 (by decide +kernel) ?_
                      refine x_icmp_le E 186 dX4_isGood_181 (by decide) (fun h181 => ?_) (fun h181 => ?_)
                      · refine x_iload E 1 dX4_isGood_186 rfl ?_
                        refine x_istore E [(5, .int (beG (fl B f) (p + 1) 4 (nI 0))), (6, .int (smG (fl B f) p (((p + 7) + ((fl B f p).toNat)) - p) (nI 0))), (8, .int (beG (fl B f) (p + 1) 4 (nI 0))), (7, .int (nI ((fl B f p).toNat))), (4, .int (nI k)), (3, .int (nI p)), (0, .ref r0), (1, .int (nI f)), (2, .int (nI p0))] dX4_isGood_188 (by decide) rfl ?_
                        refine x_iinc E 4 [(4, .int (nI (k + 1))), (5, .int (beG (fl B f) (p + 1) 4 (nI 0))), (6, .int (smG (fl B f) p (((p + 7) + ((fl B f p).toNat)) - p) (nI 0))), (8, .int (beG (fl B f) (p + 1) 4 (nI 0))), (7, .int (nI ((fl B f p).toNat))), (3, .int (nI p)), (0, .ref r0), (1, .int (nI f)), (2, .int (nI p0))] dX4_isGood_190 rfl (nI_add _ _) (by decide) rfl ?_
                        refine x_iload_n E 5 dX4_isGood_193 rfl ?_
                        refine x_bipush E (v := nI 11) dX4_isGood_194 (by decide) ?_
                        refine x_iload E 4 dX4_isGood_196 rfl ?_
                        refine x_niadd E dX4_isGood_198 ?_
                        refine x_niadd E dX4_isGood_199 ?_
                        refine x_istore_n E [(3, .int (nI (p + (11 + ((fl B f p).toNat))))), (4, .int (nI (k + 1))), (5, .int (beG (fl B f) (p + 1) 4 (nI 0))), (6, .int (smG (fl B f) p (((p + 7) + ((fl B f p).toNat)) - p) (nI 0))), (8, .int (beG (fl B f) (p + 1) 4 (nI 0))), (7, .int (nI ((fl B f p).toNat))), (0, .ref r0), (1, .int (nI f)), (2, .int (nI p0))] dX4_isGood_200 (by decide) rfl ?_
                        refine x_goto E 32 dX4_isGood_201 (by decide) ?_
                        refine x_lv [3, 2, 1, 0, 6, 7, 8] rfl ?_
                        exact ih _ _ _ _ (by omega) (by omega) (by omega) (by rw [← e2, scanR_s _ _ _ (f9 + 1) p k, if_pos ⟨by omega, h54⟩, if_pos ⟨by omega, by omega, by omega, h145, h167, h174, h181⟩])
                      · refine x_iconst E (v := nI 0) dX4_isGood_184 (by decide) ?_
                        exact x_zret E hr hlocks dX4_isGood_185 rfl ⟨q_f' (by rw [(show goodR (z f) (fl B f) kn (nI (lastS kn S)) p0 = none by rw [← e2, scanR_s, if_pos ⟨by omega, h54⟩, if_neg (fun q => by obtain ⟨q1, q2, q3, q4, q5, q6, q7⟩ := q; first | omega | exact h181 q7 | exact q6 h174 | exact h167 q5 | exact h145 q4)]; rfl)]; rfl), by rw [(show goodR (z f) (fl B f) kn (nI (lastS kn S)) p0 = none by rw [← e2, scanR_s, if_pos ⟨by omega, h54⟩, if_neg (fun q => by obtain ⟨q1, q2, q3, q4, q5, q6, q7⟩ := q; first | omega | exact h181 q7 | exact q6 h174 | exact h167 q5 | exact h145 q4)]; rfl)]; rfl⟩
              · refine x_iconst E (v := nI 0) dX4_isGood_101 (by decide) ?_
                exact x_zret E hr hlocks dX4_isGood_102 rfl ⟨q_f' (by rw [(show goodR (z f) (fl B f) kn (nI (lastS kn S)) p0 = none by rw [← e2, scanR_s, if_pos ⟨by omega, h54⟩, if_neg (fun q => by obtain ⟨q1, q2, q3, q4, q5, q6, q7⟩ := q; first | omega | exact h181 q7 | exact q6 h174 | exact h167 q5 | exact h145 q4)]; rfl)]; rfl), by rw [(show goodR (z f) (fl B f) kn (nI (lastS kn S)) p0 = none by rw [← e2, scanR_s, if_pos ⟨by omega, h54⟩, if_neg (fun q => by obtain ⟨q1, q2, q3, q4, q5, q6, q7⟩ := q; first | omega | exact h181 q7 | exact q6 h174 | exact h167 q5 | exact h145 q4)]; rfl)]; rfl⟩
  refine x_iload_n E 2 dX4_isGood_0 rfl ?_
  refine x_istore_n E [(3, .int (nI p0)), (0, .ref r0), (1, .int (nI f)), (2, .int (nI p0))] dX4_isGood_1 (by decide) rfl ?_
  refine x_iconst E (v := nI 0) dX4_isGood_2 (by decide) ?_
  refine x_istore E [(4, .int (nI 0)), (3, .int (nI p0)), (0, .ref r0), (1, .int (nI f)), (2, .int (nI p0))] dX4_isGood_3 (by decide) rfl ?_
  refine x_aload_n E 2 dX4_isGood_5 rfl ?_
  refine x_get E 0 5 dX4_isGood_6 ui_X4_isGood_X4 rfl rfl (by decide) fl_X4_isGood_62 rfl rfl ?_
  refine x_nif_le E 26 dX4_isGood_9 (by decide) (by omega) (fun h9 => ?_) (fun h9 => ?_)
  · refine x_iconst E (v := nI 0) dX4_isGood_26 (by decide) ?_
    refine x_top (w := .int (nI (lastS kn S))) (by unfold lastS; rw [if_pos (by omega)]) ?_
    refine x_istore E [(5, .int (nI (lastS kn S))), (4, .int (nI 0)), (3, .int (nI p0)), (0, .ref r0), (1, .int (nI f)), (2, .int (nI p0))] dX4_isGood_27 (by decide) rfl ?_
    refine x_iconst E (v := nI 0) dX4_isGood_29 (by decide) ?_
    refine x_istore E [(6, .int (nI 0)), (5, .int (nI (lastS kn S))), (4, .int (nI 0)), (3, .int (nI p0)), (0, .ref r0), (1, .int (nI f)), (2, .int (nI p0))] dX4_isGood_30 (by decide) rfl ?_
    exact loop 16 p0 0 _ _ rfl hp (Nat.le_refl _) rfl
  · refine x_aload_n E 2 dX4_isGood_12 rfl ?_
    refine x_get E 0 2 dX4_isGood_13 ui_X4_isGood_X4 rfl rfl (by decide) fl_X4_isGood_16 rfl rfl ?_
    refine x_aload_n E 2 dX4_isGood_16 rfl ?_
    refine x_get E 0 5 dX4_isGood_17 ui_X4_isGood_X4 rfl rfl (by decide) fl_X4_isGood_62 rfl rfl ?_
    refine x_iconst E (v := nI 1) dX4_isGood_20 (by decide) ?_
    refine x_nisub E dX4_isGood_21 (by omega) ?_
    refine x_nald E 3 1 dX4_isGood_22 rfl rfl (by omega) (by decide) ?_
    refine x_goto E 27 dX4_isGood_23 (by decide) ?_
    refine x_top (w := .int (nI (lastS kn S))) (by unfold lastS; rw [if_neg (by omega)]) ?_
    refine x_istore E [(5, .int (nI (lastS kn S))), (4, .int (nI 0)), (3, .int (nI p0)), (0, .ref r0), (1, .int (nI f)), (2, .int (nI p0))] dX4_isGood_27 (by decide) rfl ?_
    refine x_iconst E (v := nI 0) dX4_isGood_29 (by decide) ?_
    refine x_istore E [(6, .int (nI 0)), (5, .int (nI (lastS kn S))), (4, .int (nI 0)), (3, .int (nI p0)), (0, .ref r0), (1, .int (nI f)), (2, .int (nI p0))] dX4_isGood_30 (by decide) rfl ?_
    exact loop 16 p0 0 _ _ rfl hp (Nat.le_refl _) rfl
set_option maxRecDepth 100000 in
set_option maxHeartbeats 4000000 in
theorem c_X4_take (l : Launch) (D : va_G) (cB cI cZ cJ : ClassId) (r0 : Nat) (d0 : Nat) (d1 : Nat) (d2 : Nat) (d3 : Nat) (d4 : Nat) (d5 : Nat) (d6 : Nat) (d7 : Nat) (d8 : Nat) (d9 : Nat) (d10 : Nat) (kn : Nat) (mv : Nat) (ng : Nat) (nr : Nat) (fc : Nat) (sh : Bool) (rp : Nat) (bad : Int32) (th : Nat) (sr : Nat) (sb : Nat) (at9 : Nat) (B : Nat → UInt8) (z : Nat → Nat) (S : Nat → Nat) (Ln : Nat → Nat) (K : Nat → UInt8) (gr : Nat → Nat) (gb : Nat → Nat) (nS : Nat → Nat) (nL : Nat → Nat) (nK : Nat → UInt8) (F : Nat → UInt8) (f : Nat) (p0 : Nat) (hf : f ≤ 1) (hzf : z f ≤ 8192) (hks : kn + sr ≤ 600) (hp : p0 ≤ 8192) (hg : GR (z f) (fl B f) p0 sr) (hsb : p0 + sb ≤ 8192) (hng : ng < 600) : Ct l D vwCl (tyl cB cI cZ cJ) yX4_take wsX4_take rmX4_take [.ref r0, .int (nI f), .int (nI p0)] [(r0, .inr (4, [.ref d0, .ref d1, .ref d2, .ref d3, .ref d4, .int (nI kn), .int (nI mv), .ref d5, .ref d6, .int (nI ng), .ref d7, .ref d8, .ref d9, .int (nI nr), .ref d10, .int (nI fc), .int (if sh = true then 1 else 0), .int (nI rp), .int bad, .int (nI th), .int (nI sr), .int (nI sb), .int (nI at9)])), (d0, .inl (cI, 16384, .inl (uf B))), (d1, .inl (cI, 2, .inl (nf z))), (d2, .inl (cI, 600, .inl (nf S))), (d3, .inl (cI, 600, .inl (nf Ln))), (d4, .inl (cI, 38400, .inl (uf K))), (d5, .inl (cI, 600, .inl (nf gr))), (d6, .inl (cI, 600, .inl (nf gb))), (d7, .inl (cI, 16, .inl (nf nS))), (d8, .inl (cI, 16, .inl (nf nL))), (d9, .inl (cI, 1024, .inl (uf nK))), (d10, .inl (cI, 64, .inl (uf F)))] none [(r0, .inr (4, [.ref d0, .ref d1, .ref d2, .ref d3, .ref d4, .int (nI (kn + sr)), .int (nI mv), .ref d5, .ref d6, .int (nI (ng + 1)), .ref d7, .ref d8, .ref d9, .int (nI nr), .ref d10, .int (nI fc), .int (if sh = true then 1 else 0), .int (nI rp), .int bad, .int (nI th), .int (nI sr), .int (nI sb), .int (nI at9)])), (d0, .inl (cI, 16384, .inl (uf (cpB f sb p0 B)))), (d1, .inl (cI, 2, .inl (nf z))), (d2, .inl (cI, 600, .inl (nf (rdS (fl B f) sr p0 kn S)))), (d3, .inl (cI, 600, .inl (nf (rdL (fl B f) sr p0 kn Ln)))), (d4, .inl (cI, 38400, .inl (uf (rdK (fl B f) sr p0 kn K)))), (d5, .inl (cI, 600, .inl (nf (va_up gr ng sr)))), (d6, .inl (cI, 600, .inl (nf (va_up gb ng sb)))), (d7, .inl (cI, 16, .inl (nf nS))), (d8, .inl (cI, 16, .inl (nf nL))), (d9, .inl (cI, 1024, .inl (uf nK))), (d10, .inl (cI, 64, .inl (uf F)))] := by
  refine x_start (cc := cX4_take) (maxL := 7) (ret := none) (by decide) rfl (Nat.le_of_ble_eq_true rfl) ?_
  intro xp xe xs xm xb xt xc xA E hr hlocks hnm
  obtain ⟨-, -, -, hown, hts, hK, hA⟩ := id E
  refine x_lve (lv' := [(0, .ref r0), (1, .int (nI f)), (2, .int (nI p0))]) rfl ?_
  have copy : ∀ (k i p9 : Nat) (B2 : Nat → UInt8), i + k = p0 + sb → cpB f k i B2 = cpB f sb p0 B → Xs xp l xe rmX4_take xs xm ([.ref r0, .int (nI f), .int (nI p0)] : List Value).toArray xb xt xc D vwCl xA 7 0 0 (MQ xb (CQ D vwCl (tyl cB cI cZ cJ) xA (fun r u => r = none ∧ u = [(r0, .inr (4, [.ref d0, .ref d1, .ref d2, .ref d3, .ref d4, .int (nI (kn + sr)), .int (nI mv), .ref d5, .ref d6, .int (nI (ng + 1)), .ref d7, .ref d8, .ref d9, .int (nI nr), .ref d10, .int (nI fc), .int (if sh = true then 1 else 0), .int (nI rp), .int bad, .int (nI th), .int (nI sr), .int (nI sb), .int (nI at9)])), (d0, .inl (cI, 16384, .inl (uf (cpB f sb p0 B)))), (d1, .inl (cI, 2, .inl (nf z))), (d2, .inl (cI, 600, .inl (nf (rdS (fl B f) sr p0 kn S)))), (d3, .inl (cI, 600, .inl (nf (rdL (fl B f) sr p0 kn Ln)))), (d4, .inl (cI, 38400, .inl (uf (rdK (fl B f) sr p0 kn K)))), (d5, .inl (cI, 600, .inl (nf (va_up gr ng sr)))), (d6, .inl (cI, 600, .inl (nf (va_up gb ng sb)))), (d7, .inl (cI, 16, .inl (nf nS))), (d8, .inl (cI, 16, .inl (nf nL))), (d9, .inl (cI, 1024, .inl (uf nK))), (d10, .inl (cI, 64, .inl (uf F)))])) ([.ref r0, .int (nI f), .int (nI p0)] : List Value).toArray xs 0 0 xA) [(r0, .inr (4, [.ref d0, .ref d1, .ref d2, .ref d3, .ref d4, .int (nI (kn + sr)), .int (nI mv), .ref d5, .ref d6, .int (nI ng), .ref d7, .ref d8, .ref d9, .int (nI nr), .ref d10, .int (nI fc), .int (if sh = true then 1 else 0), .int (nI rp), .int bad, .int (nI th), .int (nI sr), .int (nI sb), .int (nI at9)])), (d0, .inl (cI, 16384, .inl (uf B2))), (d1, .inl (cI, 2, .inl (nf z))), (d2, .inl (cI, 600, .inl (nf (rdS (fl B f) sr p0 kn S)))), (d3, .inl (cI, 600, .inl (nf (rdL (fl B f) sr p0 kn Ln)))), (d4, .inl (cI, 38400, .inl (uf (rdK (fl B f) sr p0 kn K)))), (d5, .inl (cI, 600, .inl (nf gr))), (d6, .inl (cI, 600, .inl (nf gb))), (d7, .inl (cI, 16, .inl (nf nS))), (d8, .inl (cI, 16, .inl (nf nL))), (d9, .inl (cI, 1024, .inl (uf nK))), (d10, .inl (cI, 64, .inl (uf F)))] [(4, .int (nI i)), (3, .int (nI p9)), (0, .ref r0), (1, .int (nI f)), (2, .int (nI p0))] 132 [] := by
    intro k
    induction k with
    | zero =>
      intro i p9 B2 e1 e2
      have e2 : B2 = cpB f sb p0 B := e2
      subst e2
      refine x_iload E 0 dX4_take_132 rfl ?_
      refine x_iload_n E 4 dX4_take_134 rfl ?_
      refine x_aload_n E 2 dX4_take_135 rfl ?_
      refine x_get E 0 21 dX4_take_136 ui_X4_take_X4 rfl rfl (by decide) fl_X4_take_108 rfl rfl ?_
      refine x_niadd E dX4_take_139 ?_
      refine x_ncmp_ge E 177 dX4_take_140 (by decide) (by omega) (by omega) (fun h140 => ?_) (fun h => False.elim (by omega))
      refine x_aload_n E 2 dX4_take_177 rfl ?_
      refine x_get E 0 7 dX4_take_178 ui_X4_take_X4 rfl rfl (by decide) fl_X4_take_26 rfl rfl ?_
      refine x_aload_n E 2 dX4_take_181 rfl ?_
      refine x_get E 0 9 dX4_take_182 ui_X4_take_X4 rfl rfl (by decide) fl_X4_take_84 rfl rfl ?_
      refine x_aload_n E 2 dX4_take_185 rfl ?_
      refine x_get E 0 20 dX4_take_186 ui_X4_take_X4 rfl rfl (by decide) fl_X4_take_105 rfl rfl ?_
      refine x_nast E 6 1 [(r0, .inr (4, [.ref d0, .ref d1, .ref d2, .ref d3, .ref d4, .int (nI (kn + sr)), .int (nI mv), .ref d5, .ref d6, .int (nI ng), .ref d7, .ref d8, .ref d9, .int (nI nr), .ref d10, .int (nI fc), .int (if sh = true then 1 else 0), .int (nI rp), .int bad, .int (nI th), .int (nI sr), .int (nI sb), .int (nI at9)])), (d0, .inl (cI, 16384, .inl (uf (cpB f sb p0 B)))), (d1, .inl (cI, 2, .inl (nf z))), (d2, .inl (cI, 600, .inl (nf (rdS (fl B f) sr p0 kn S)))), (d3, .inl (cI, 600, .inl (nf (rdL (fl B f) sr p0 kn Ln)))), (d4, .inl (cI, 38400, .inl (uf (rdK (fl B f) sr p0 kn K)))), (d5, .inl (cI, 600, .inl (nf (va_up gr ng sr)))), (d6, .inl (cI, 600, .inl (nf gb))), (d7, .inl (cI, 16, .inl (nf nS))), (d8, .inl (cI, 16, .inl (nf nL))), (d9, .inl (cI, 1024, .inl (uf nK))), (d10, .inl (cI, 64, .inl (uf F)))] dX4_take_189 rfl rfl (by omega) (by decide) rfl ?_
      refine x_aload_n E 2 dX4_take_190 rfl ?_
      refine x_get E 0 8 dX4_take_191 ui_X4_take_X4 rfl rfl (by decide) fl_X4_take_29 rfl rfl ?_
      refine x_aload_n E 2 dX4_take_194 rfl ?_
      refine x_get E 0 9 dX4_take_195 ui_X4_take_X4 rfl rfl (by decide) fl_X4_take_84 rfl rfl ?_
      refine x_aload_n E 2 dX4_take_198 rfl ?_
      refine x_get E 0 21 dX4_take_199 ui_X4_take_X4 rfl rfl (by decide) fl_X4_take_108 rfl rfl ?_
      refine x_nast E 7 1 [(r0, .inr (4, [.ref d0, .ref d1, .ref d2, .ref d3, .ref d4, .int (nI (kn + sr)), .int (nI mv), .ref d5, .ref d6, .int (nI ng), .ref d7, .ref d8, .ref d9, .int (nI nr), .ref d10, .int (nI fc), .int (if sh = true then 1 else 0), .int (nI rp), .int bad, .int (nI th), .int (nI sr), .int (nI sb), .int (nI at9)])), (d0, .inl (cI, 16384, .inl (uf (cpB f sb p0 B)))), (d1, .inl (cI, 2, .inl (nf z))), (d2, .inl (cI, 600, .inl (nf (rdS (fl B f) sr p0 kn S)))), (d3, .inl (cI, 600, .inl (nf (rdL (fl B f) sr p0 kn Ln)))), (d4, .inl (cI, 38400, .inl (uf (rdK (fl B f) sr p0 kn K)))), (d5, .inl (cI, 600, .inl (nf (va_up gr ng sr)))), (d6, .inl (cI, 600, .inl (nf (va_up gb ng sb)))), (d7, .inl (cI, 16, .inl (nf nS))), (d8, .inl (cI, 16, .inl (nf nL))), (d9, .inl (cI, 1024, .inl (uf nK))), (d10, .inl (cI, 64, .inl (uf F)))] dX4_take_202 rfl rfl (by omega) (by decide) rfl ?_
      refine x_aload_n E 2 dX4_take_203 rfl ?_
      refine x_dup E dX4_take_204 rfl ?_
      refine x_get E 0 9 dX4_take_205 ui_X4_take_X4 rfl rfl (by decide) fl_X4_take_84 rfl rfl ?_
      refine x_iconst E (v := nI 1) dX4_take_208 (by decide) ?_
      refine x_niadd E dX4_take_209 ?_
      refine x_put E 0 9 [(r0, .inr (4, [.ref d0, .ref d1, .ref d2, .ref d3, .ref d4, .int (nI (kn + sr)), .int (nI mv), .ref d5, .ref d6, .int (nI (ng + 1)), .ref d7, .ref d8, .ref d9, .int (nI nr), .ref d10, .int (nI fc), .int (if sh = true then 1 else 0), .int (nI rp), .int bad, .int (nI th), .int (nI sr), .int (nI sb), .int (nI at9)])), (d0, .inl (cI, 16384, .inl (uf (cpB f sb p0 B)))), (d1, .inl (cI, 2, .inl (nf z))), (d2, .inl (cI, 600, .inl (nf (rdS (fl B f) sr p0 kn S)))), (d3, .inl (cI, 600, .inl (nf (rdL (fl B f) sr p0 kn Ln)))), (d4, .inl (cI, 38400, .inl (uf (rdK (fl B f) sr p0 kn K)))), (d5, .inl (cI, 600, .inl (nf (va_up gr ng sr)))), (d6, .inl (cI, 600, .inl (nf (va_up gb ng sb)))), (d7, .inl (cI, 16, .inl (nf nS))), (d8, .inl (cI, 16, .inl (nf nL))), (d9, .inl (cI, 1024, .inl (uf nK))), (d10, .inl (cI, 64, .inl (uf F)))] dX4_take_210 ui_X4_take_X4 tyX4_ok nmX4 rfl rfl (by decide) fl_X4_take_84 rfl rfl rfl rfl (Nat.le_of_ble_eq_true rfl) rfl ?_
      exact x_vret E hr hlocks dX4_take_213 ⟨rfl, rfl⟩
    | succ k ih =>
      intro i p9 B2 e1 e2
      refine x_iload E 0 dX4_take_132 rfl ?_
      refine x_iload_n E 4 dX4_take_134 rfl ?_
      refine x_aload_n E 2 dX4_take_135 rfl ?_
      refine x_get E 0 21 dX4_take_136 ui_X4_take_X4 rfl rfl (by decide) fl_X4_take_108 rfl rfl ?_
      refine x_niadd E dX4_take_139 ?_
      refine x_ncmp_ge E 177 dX4_take_140 (by decide) (by omega) (by omega) (fun h => False.elim (by omega)) (fun h140 => ?_)
      refine x_aload_n E 2 dX4_take_143 rfl ?_
      refine x_get E 0 0 dX4_take_144 ui_X4_take_X4 rfl rfl (by decide) fl_X4_take_9 rfl rfl ?_
      refine x_iconst E (v := nI 1) dX4_take_147 (by decide) ?_
      refine x_iload_n E 3 dX4_take_148 rfl ?_
      refine x_nisub E dX4_take_149 (by omega) ?_
      refine x_sipush E (v := nI 8192) dX4_take_150 (by decide) ?_
      refine x_nimul E dX4_take_153 ?_
      refine x_iload E 0 dX4_take_154 rfl ?_
      refine x_niadd E dX4_take_156 ?_
      refine x_aload_n E 2 dX4_take_157 rfl ?_
      refine x_get E 0 0 dX4_take_158 ui_X4_take_X4 rfl rfl (by decide) fl_X4_take_9 rfl rfl ?_
      refine x_iload_n E 3 dX4_take_161 rfl ?_
      refine x_sipush E (v := nI 8192) dX4_take_162 (by decide) ?_
      refine x_nimul E dX4_take_165 ?_
      refine x_iload E 0 dX4_take_166 rfl ?_
      refine x_niadd E dX4_take_168 ?_
      refine x_uald E 1 1 dX4_take_169 rfl rfl (by omega) (by decide) ?_
      refine x_uast E 1 1 [(r0, .inr (4, [.ref d0, .ref d1, .ref d2, .ref d3, .ref d4, .int (nI (kn + sr)), .int (nI mv), .ref d5, .ref d6, .int (nI ng), .ref d7, .ref d8, .ref d9, .int (nI nr), .ref d10, .int (nI fc), .int (if sh = true then 1 else 0), .int (nI rp), .int bad, .int (nI th), .int (nI sr), .int (nI sb), .int (nI at9)])), (d0, .inl (cI, 16384, .inl (uf (va_up B2 (((1 - f) * 8192) + i) (B2 ((f * 8192) + i)))))), (d1, .inl (cI, 2, .inl (nf z))), (d2, .inl (cI, 600, .inl (nf (rdS (fl B f) sr p0 kn S)))), (d3, .inl (cI, 600, .inl (nf (rdL (fl B f) sr p0 kn Ln)))), (d4, .inl (cI, 38400, .inl (uf (rdK (fl B f) sr p0 kn K)))), (d5, .inl (cI, 600, .inl (nf gr))), (d6, .inl (cI, 600, .inl (nf gb))), (d7, .inl (cI, 16, .inl (nf nS))), (d8, .inl (cI, 16, .inl (nf nL))), (d9, .inl (cI, 1024, .inl (uf nK))), (d10, .inl (cI, 64, .inl (uf F)))] dX4_take_170 rfl rfl (by omega) (by decide) rfl rfl ?_
      refine x_iinc E 0 [(4, .int (nI (i + 1))), (3, .int (nI p9)), (0, .ref r0), (1, .int (nI f)), (2, .int (nI p0))] dX4_take_171 rfl (nI_add _ _) (by decide) rfl ?_
      refine x_goto E 132 dX4_take_174 (by decide) ?_
      refine x_lv [0, 1, 2, 3, 4] rfl ?_
      exact ih (i + 1) p9 _ (by omega) (by rw [← e2, cpB_s])
  have rows : ∀ (j r p kn' : Nat) (S' L' : Nat → Nat) (K' : Nat → UInt8), r + j = sr → p ≤ 8192 → kn' + j = kn + sr → GR (z f) (fl B f) p j → rdS (fl B f) j p kn' S' = rdS (fl B f) sr p0 kn S → rdL (fl B f) j p kn' L' = rdL (fl B f) sr p0 kn Ln → rdK (fl B f) j p kn' K' = rdK (fl B f) sr p0 kn K → Xs xp l xe rmX4_take xs xm ([.ref r0, .int (nI f), .int (nI p0)] : List Value).toArray xb xt xc D vwCl xA 7 0 0 (MQ xb (CQ D vwCl (tyl cB cI cZ cJ) xA (fun r u => r = none ∧ u = [(r0, .inr (4, [.ref d0, .ref d1, .ref d2, .ref d3, .ref d4, .int (nI (kn + sr)), .int (nI mv), .ref d5, .ref d6, .int (nI (ng + 1)), .ref d7, .ref d8, .ref d9, .int (nI nr), .ref d10, .int (nI fc), .int (if sh = true then 1 else 0), .int (nI rp), .int bad, .int (nI th), .int (nI sr), .int (nI sb), .int (nI at9)])), (d0, .inl (cI, 16384, .inl (uf (cpB f sb p0 B)))), (d1, .inl (cI, 2, .inl (nf z))), (d2, .inl (cI, 600, .inl (nf (rdS (fl B f) sr p0 kn S)))), (d3, .inl (cI, 600, .inl (nf (rdL (fl B f) sr p0 kn Ln)))), (d4, .inl (cI, 38400, .inl (uf (rdK (fl B f) sr p0 kn K)))), (d5, .inl (cI, 600, .inl (nf (va_up gr ng sr)))), (d6, .inl (cI, 600, .inl (nf (va_up gb ng sb)))), (d7, .inl (cI, 16, .inl (nf nS))), (d8, .inl (cI, 16, .inl (nf nL))), (d9, .inl (cI, 1024, .inl (uf nK))), (d10, .inl (cI, 64, .inl (uf F)))])) ([.ref r0, .int (nI f), .int (nI p0)] : List Value).toArray xs 0 0 xA) [(r0, .inr (4, [.ref d0, .ref d1, .ref d2, .ref d3, .ref d4, .int (nI kn'), .int (nI mv), .ref d5, .ref d6, .int (nI ng), .ref d7, .ref d8, .ref d9, .int (nI nr), .ref d10, .int (nI fc), .int (if sh = true then 1 else 0), .int (nI rp), .int bad, .int (nI th), .int (nI sr), .int (nI sb), .int (nI at9)])), (d0, .inl (cI, 16384, .inl (uf B))), (d1, .inl (cI, 2, .inl (nf z))), (d2, .inl (cI, 600, .inl (nf S'))), (d3, .inl (cI, 600, .inl (nf L'))), (d4, .inl (cI, 38400, .inl (uf K'))), (d5, .inl (cI, 600, .inl (nf gr))), (d6, .inl (cI, 600, .inl (nf gb))), (d7, .inl (cI, 16, .inl (nf nS))), (d8, .inl (cI, 16, .inl (nf nL))), (d9, .inl (cI, 1024, .inl (uf nK))), (d10, .inl (cI, 64, .inl (uf F)))] [(4, .int (nI r)), (3, .int (nI p)), (0, .ref r0), (1, .int (nI f)), (2, .int (nI p0))] 5 [] := by
    intro j
    induction j with
    | zero =>
      intro r p kn' S' L' K' e1 hp1 e2 hg1 e3 e4 e5
      have e2 : kn' = kn + sr := e2
      have e3 : S' = rdS (fl B f) sr p0 kn S := e3
      have e4 : L' = rdL (fl B f) sr p0 kn Ln := e4
      have e5 : K' = rdK (fl B f) sr p0 kn K := e5
      subst e2
      subst e3
      subst e4
      subst e5
      refine x_iload E 0 dX4_take_5 rfl ?_
      refine x_aload_n E 2 dX4_take_7 rfl ?_
      refine x_get E 0 20 dX4_take_8 ui_X4_take_X4 rfl rfl (by decide) fl_X4_take_105 rfl rfl ?_
      refine x_ncmp_ge E 129 dX4_take_11 (by decide) (by omega) (by omega) (fun h11 => ?_) (fun h => False.elim (by omega))
      refine x_iload_n E 4 dX4_take_129 rfl ?_
      refine x_istore E [(4, .int (nI p0)), (3, .int (nI p)), (0, .ref r0), (1, .int (nI f)), (2, .int (nI p0))] dX4_take_130 (by decide) rfl ?_
      exact copy sb p0 p B rfl rfl
    | succ j ih =>
      intro r p kn' S' L' K' e1 hp1 e2 hg1 e3 e4 e5
      obtain ⟨ga, gb9, gc, gd, ge, gf⟩ := hg1
      have inner : ∀ (k i : Nat) (K2 : Nat → UInt8), i + k = (fl B f p).toNat → app K2 (kn' * 64 + i) (conL (fl B f) (p + 5 + i) k) = app K' (kn' * 64) (conL (fl B f) (p + 5) (fl B f p).toNat) → Xs xp l xe rmX4_take xs xm ([.ref r0, .int (nI f), .int (nI p0)] : List Value).toArray xb xt xc D vwCl xA 7 0 0 (MQ xb (CQ D vwCl (tyl cB cI cZ cJ) xA (fun r u => r = none ∧ u = [(r0, .inr (4, [.ref d0, .ref d1, .ref d2, .ref d3, .ref d4, .int (nI (kn + sr)), .int (nI mv), .ref d5, .ref d6, .int (nI (ng + 1)), .ref d7, .ref d8, .ref d9, .int (nI nr), .ref d10, .int (nI fc), .int (if sh = true then 1 else 0), .int (nI rp), .int bad, .int (nI th), .int (nI sr), .int (nI sb), .int (nI at9)])), (d0, .inl (cI, 16384, .inl (uf (cpB f sb p0 B)))), (d1, .inl (cI, 2, .inl (nf z))), (d2, .inl (cI, 600, .inl (nf (rdS (fl B f) sr p0 kn S)))), (d3, .inl (cI, 600, .inl (nf (rdL (fl B f) sr p0 kn Ln)))), (d4, .inl (cI, 38400, .inl (uf (rdK (fl B f) sr p0 kn K)))), (d5, .inl (cI, 600, .inl (nf (va_up gr ng sr)))), (d6, .inl (cI, 600, .inl (nf (va_up gb ng sb)))), (d7, .inl (cI, 16, .inl (nf nS))), (d8, .inl (cI, 16, .inl (nf nL))), (d9, .inl (cI, 1024, .inl (uf nK))), (d10, .inl (cI, 64, .inl (uf F)))])) ([.ref r0, .int (nI f), .int (nI p0)] : List Value).toArray xs 0 0 xA) [(r0, .inr (4, [.ref d0, .ref d1, .ref d2, .ref d3, .ref d4, .int (nI kn'), .int (nI mv), .ref d5, .ref d6, .int (nI ng), .ref d7, .ref d8, .ref d9, .int (nI nr), .ref d10, .int (nI fc), .int (if sh = true then 1 else 0), .int (nI rp), .int bad, .int (nI th), .int (nI sr), .int (nI sb), .int (nI at9)])), (d0, .inl (cI, 16384, .inl (uf B))), (d1, .inl (cI, 2, .inl (nf z))), (d2, .inl (cI, 600, .inl (nf (va_up S' kn' (secN (fl B f) p))))), (d3, .inl (cI, 600, .inl (nf (va_up L' kn' (fl B f p).toNat)))), (d4, .inl (cI, 38400, .inl (uf K2))), (d5, .inl (cI, 600, .inl (nf gr))), (d6, .inl (cI, 600, .inl (nf gb))), (d7, .inl (cI, 16, .inl (nf nS))), (d8, .inl (cI, 16, .inl (nf nL))), (d9, .inl (cI, 1024, .inl (uf nK))), (d10, .inl (cI, 64, .inl (uf F)))] [(6, .int (nI i)), (5, .int (nI ((fl B f p).toNat))), (4, .int (nI r)), (3, .int (nI p)), (0, .ref r0), (1, .int (nI f)), (2, .int (nI p0))] 60 [] := by
        intro k
        induction k with
        | zero =>
          intro i K2 f1 f2
          have f2 : K2 = app K' (kn' * 64) (conL (fl B f) (p + 5) (fl B f p).toNat) := f2
          subst f2
          refine x_iload E 0 dX4_take_60 rfl ?_
          refine x_iload E 1 dX4_take_62 rfl ?_
          refine x_ncmp_ge E 105 dX4_take_64 (by decide) (by omega) (u8lt (fl B f p)) (fun h64 => ?_) (fun h => False.elim (by omega))
          refine x_aload_n E 4 dX4_take_105 rfl ?_
          refine x_dup E dX4_take_106 rfl ?_
          refine x_get E 0 5 dX4_take_107 ui_X4_take_X4 rfl rfl (by decide) fl_X4_take_62 rfl rfl ?_
          refine x_iconst E (v := nI 1) dX4_take_110 (by decide) ?_
          refine x_niadd E dX4_take_111 ?_
          refine x_put E 0 5 [(r0, .inr (4, [.ref d0, .ref d1, .ref d2, .ref d3, .ref d4, .int (nI (kn' + 1)), .int (nI mv), .ref d5, .ref d6, .int (nI ng), .ref d7, .ref d8, .ref d9, .int (nI nr), .ref d10, .int (nI fc), .int (if sh = true then 1 else 0), .int (nI rp), .int bad, .int (nI th), .int (nI sr), .int (nI sb), .int (nI at9)])), (d0, .inl (cI, 16384, .inl (uf B))), (d1, .inl (cI, 2, .inl (nf z))), (d2, .inl (cI, 600, .inl (nf (va_up S' kn' (secN (fl B f) p))))), (d3, .inl (cI, 600, .inl (nf (va_up L' kn' (fl B f p).toNat)))), (d4, .inl (cI, 38400, .inl (uf (app K' (kn' * 64) (conL (fl B f) (p + 5) (fl B f p).toNat))))), (d5, .inl (cI, 600, .inl (nf gr))), (d6, .inl (cI, 600, .inl (nf gb))), (d7, .inl (cI, 16, .inl (nf nS))), (d8, .inl (cI, 16, .inl (nf nL))), (d9, .inl (cI, 1024, .inl (uf nK))), (d10, .inl (cI, 64, .inl (uf F)))] dX4_take_112 ui_X4_take_X4 tyX4_ok nmX4 rfl rfl (by decide) fl_X4_take_62 rfl rfl rfl rfl (Nat.le_of_ble_eq_true rfl) rfl ?_
          refine x_iload_n E 3 dX4_take_115 rfl ?_
          refine x_bipush E (v := nI 11) dX4_take_116 (by decide) ?_
          refine x_iload E 1 dX4_take_118 rfl ?_
          refine x_niadd E dX4_take_120 ?_
          refine x_niadd E dX4_take_121 ?_
          refine x_istore_n E [(3, .int (nI (p + (11 + ((fl B f p).toNat))))), (6, .int (nI i)), (5, .int (nI ((fl B f p).toNat))), (4, .int (nI r)), (0, .ref r0), (1, .int (nI f)), (2, .int (nI p0))] dX4_take_122 (by decide) rfl ?_
          refine x_iinc E 3 [(4, .int (nI (r + 1))), (3, .int (nI (p + (11 + ((fl B f p).toNat))))), (6, .int (nI i)), (5, .int (nI ((fl B f p).toNat))), (0, .ref r0), (1, .int (nI f)), (2, .int (nI p0))] dX4_take_123 rfl (nI_add _ _) (by decide) rfl ?_
          refine x_goto E 5 dX4_take_126 (by decide) ?_
          refine x_lv [0, 1, 4, 5, 6] rfl ?_
          refine x_lve (lv' := [(4, .int (nI (r + 1))), (3, .int (nI (p + ((fl B f p).toNat + 11)))), (0, .ref r0), (1, .int (nI f)), (2, .int (nI p0))]) (by rw [Nat.add_comm 11 (fl B f p).toNat]; rfl) ?_
          exact ih (r + 1) _ (kn' + 1) _ _ _ (by omega) (by omega) (by omega) gf e3 e4 e5
        | succ k ih2 =>
          intro i K2 f1 f2
          refine x_iload E 0 dX4_take_60 rfl ?_
          refine x_iload E 1 dX4_take_62 rfl ?_
          refine x_ncmp_ge E 105 dX4_take_64 (by decide) (by omega) (u8lt (fl B f p)) (fun h => False.elim (by omega)) (fun h64 => ?_)
          refine x_aload_n E 4 dX4_take_67 rfl ?_
          refine x_get E 0 4 dX4_take_68 ui_X4_take_X4 rfl rfl (by decide) fl_X4_take_23 rfl rfl ?_
          refine x_aload_n E 4 dX4_take_71 rfl ?_
          refine x_get E 0 5 dX4_take_72 ui_X4_take_X4 rfl rfl (by decide) fl_X4_take_62 rfl rfl ?_
          refine x_bipush E (v := nI 64) dX4_take_75 (by decide) ?_
          refine x_nimul E dX4_take_77 ?_
          refine x_iload E 0 dX4_take_78 rfl ?_
          refine x_niadd E dX4_take_80 ?_
          refine x_aload_n E 4 dX4_take_81 rfl ?_
          refine x_get E 0 0 dX4_take_82 ui_X4_take_X4 rfl rfl (by decide) fl_X4_take_9 rfl rfl ?_
          refine x_iload_n E 5 dX4_take_85 rfl ?_
          refine x_sipush E (v := nI 8192) dX4_take_86 (by decide) ?_
          refine x_nimul E dX4_take_89 ?_
          refine x_iload_n E 3 dX4_take_90 rfl ?_
          refine x_niadd E dX4_take_91 ?_
          refine x_iconst E (v := nI 5) dX4_take_92 (by decide) ?_
          refine x_niadd E dX4_take_93 ?_
          refine x_iload E 0 dX4_take_94 rfl ?_
          refine x_niadd E dX4_take_96 ?_
          refine x_uald E 1 1 dX4_take_97 rfl rfl (by omega) (by decide) ?_
          refine x_top (w := .int (nI ((fl B f (p + 5 + i)).toNat))) (by rw [Nat.add_assoc, Nat.add_assoc, ← Nat.add_assoc p]; rfl) ?_
          refine x_uast E 5 1 [(r0, .inr (4, [.ref d0, .ref d1, .ref d2, .ref d3, .ref d4, .int (nI kn'), .int (nI mv), .ref d5, .ref d6, .int (nI ng), .ref d7, .ref d8, .ref d9, .int (nI nr), .ref d10, .int (nI fc), .int (if sh = true then 1 else 0), .int (nI rp), .int bad, .int (nI th), .int (nI sr), .int (nI sb), .int (nI at9)])), (d0, .inl (cI, 16384, .inl (uf B))), (d1, .inl (cI, 2, .inl (nf z))), (d2, .inl (cI, 600, .inl (nf (va_up S' kn' (secN (fl B f) p))))), (d3, .inl (cI, 600, .inl (nf (va_up L' kn' (fl B f p).toNat)))), (d4, .inl (cI, 38400, .inl (uf (va_up K2 ((kn' * 64) + i) (fl B f (p + 5 + i)))))), (d5, .inl (cI, 600, .inl (nf gr))), (d6, .inl (cI, 600, .inl (nf gb))), (d7, .inl (cI, 16, .inl (nf nS))), (d8, .inl (cI, 16, .inl (nf nL))), (d9, .inl (cI, 1024, .inl (uf nK))), (d10, .inl (cI, 64, .inl (uf F)))] dX4_take_98 rfl rfl (by omega) (by decide) rfl rfl ?_
          refine x_iinc E 0 [(6, .int (nI (i + 1))), (5, .int (nI ((fl B f p).toNat))), (4, .int (nI r)), (3, .int (nI p)), (0, .ref r0), (1, .int (nI f)), (2, .int (nI p0))] dX4_take_99 rfl (nI_add _ _) (by decide) rfl ?_
          refine x_goto E 60 dX4_take_102 (by decide) ?_
          refine x_lv [0, 1, 2, 3, 4, 5, 6] rfl ?_
          exact ih2 (i + 1) _ (by omega) (by rw [← f2, conL_s, app_s]; rfl)
      refine x_iload E 0 dX4_take_5 rfl ?_
      refine x_aload_n E 2 dX4_take_7 rfl ?_
      refine x_get E 0 20 dX4_take_8 ui_X4_take_X4 rfl rfl (by decide) fl_X4_take_105 rfl rfl ?_
      refine x_ncmp_ge E 129 dX4_take_11 (by decide) (by omega) (by omega) (fun h => False.elim (by omega)) (fun h11 => ?_)
      refine x_aload_n E 2 dX4_take_14 rfl ?_
      refine x_get E 0 0 dX4_take_15 ui_X4_take_X4 rfl rfl (by decide) fl_X4_take_9 rfl rfl ?_
      refine x_iload_n E 3 dX4_take_18 rfl ?_
      refine x_sipush E (v := nI 8192) dX4_take_19 (by decide) ?_
      refine x_nimul E dX4_take_22 ?_
      refine x_iload_n E 1 dX4_take_23 rfl ?_
      refine x_niadd E dX4_take_24 ?_
      refine x_uald E 1 1 dX4_take_25 rfl rfl (by omega) (by decide) ?_
      refine x_top (w := .int (nI ((fl B f p).toNat))) rfl ?_
      refine x_istore E [(5, .int (nI ((fl B f p).toNat))), (4, .int (nI r)), (3, .int (nI p)), (0, .ref r0), (1, .int (nI f)), (2, .int (nI p0))] dX4_take_26 (by decide) rfl ?_
      refine x_aload_n E 3 dX4_take_28 rfl ?_
      refine x_get E 0 2 dX4_take_29 ui_X4_take_X4 rfl rfl (by decide) fl_X4_take_16 rfl rfl ?_
      refine x_aload_n E 3 dX4_take_32 rfl ?_
      refine x_get E 0 5 dX4_take_33 ui_X4_take_X4 rfl rfl (by decide) fl_X4_take_62 rfl rfl ?_
      refine x_aload_n E 3 dX4_take_36 rfl ?_
      refine x_iload_n E 4 dX4_take_37 rfl ?_
      refine x_iload_n E 2 dX4_take_38 rfl ?_
      refine x_iconst E (v := nI 1) dX4_take_39 (by decide) ?_
      refine x_niadd E dX4_take_40 ?_
      refine x_iconst E (v := nI 4) dX4_take_41 (by decide) ?_
      refine x_cV E [.int (nI f), .int (nI (p + 1)), .int (nI 4)] [.int (nI kn'), .ref d2] [.int (beG (fl B f) (p + 1) 4 (nI 0)), .int (nI kn'), .ref d2] [(r0, .inr (4, [.ref d0, .ref d1, .ref d2, .ref d3, .ref d4, .int (nI kn'), .int (nI mv), .ref d5, .ref d6, .int (nI ng), .ref d7, .ref d8, .ref d9, .int (nI nr), .ref d10, .int (nI fc), .int (if sh = true then 1 else 0), .int (nI rp), .int bad, .int (nI th), .int (nI sr), .int (nI sb), .int (nI at9)])), (d0, .inl (cI, 16384, .inl (uf B))), (d1, .inl (cI, 2, .inl (nf z))), (d2, .inl (cI, 600, .inl (nf S'))), (d3, .inl (cI, 600, .inl (nf L'))), (d4, .inl (cI, 38400, .inl (uf K'))), (d5, .inl (cI, 600, .inl (nf gr))), (d6, .inl (cI, 600, .inl (nf gb))), (d7, .inl (cI, 16, .inl (nf nS))), (d8, .inl (cI, 16, .inl (nf nL))), (d9, .inl (cI, 1024, .inl (uf nK))), (d10, .inl (cI, 64, .inl (uf F)))] (c_X4_number l D cB cI cZ cJ r0 d0 d1 d2 d3 d4 d5 d6 d7 d8 d9 d10 kn' mv ng nr fc sh rp bad th sr sb at9 B z S' L' K' gr gb nS nL nK F f (p + 1) 4 (by omega) (by omega)) 0 rfl rfl (cwV 3 hts gX4_take_X4_number rfl rfl rfl (by decide +kernel) ⟨Nat.le_of_ble_eq_true rfl, Nat.le_of_ble_eq_true rfl⟩) [0, 1, 2, 3, 4, 5, 6, 7, 8, 9, 10, 11] [] rfl rfl (by decide) (by decide) (by decide) [0, 1, 2, 3, 4, 5, 6, 7, 8, 9, 10, 11] (by decide) rfl rfl (Nat.le_of_ble_eq_true rfl) dX4_take_42 ⟨Nat.zero_le _, Nat.zero_le _⟩ rfl rfl ?_
      refine x_top (w := .int (nI (secN (fl B f) p))) (by rw [gd]) ?_
      refine x_nast E 3 1 [(r0, .inr (4, [.ref d0, .ref d1, .ref d2, .ref d3, .ref d4, .int (nI kn'), .int (nI mv), .ref d5, .ref d6, .int (nI ng), .ref d7, .ref d8, .ref d9, .int (nI nr), .ref d10, .int (nI fc), .int (if sh = true then 1 else 0), .int (nI rp), .int bad, .int (nI th), .int (nI sr), .int (nI sb), .int (nI at9)])), (d0, .inl (cI, 16384, .inl (uf B))), (d1, .inl (cI, 2, .inl (nf z))), (d2, .inl (cI, 600, .inl (nf (va_up S' kn' (secN (fl B f) p))))), (d3, .inl (cI, 600, .inl (nf L'))), (d4, .inl (cI, 38400, .inl (uf K'))), (d5, .inl (cI, 600, .inl (nf gr))), (d6, .inl (cI, 600, .inl (nf gb))), (d7, .inl (cI, 16, .inl (nf nS))), (d8, .inl (cI, 16, .inl (nf nL))), (d9, .inl (cI, 1024, .inl (uf nK))), (d10, .inl (cI, 64, .inl (uf F)))] dX4_take_45 rfl rfl (by omega) (by decide) rfl ?_
      refine x_aload_n E 3 dX4_take_46 rfl ?_
      refine x_get E 0 3 dX4_take_47 ui_X4_take_X4 rfl rfl (by decide) fl_X4_take_19 rfl rfl ?_
      refine x_aload_n E 3 dX4_take_50 rfl ?_
      refine x_get E 0 5 dX4_take_51 ui_X4_take_X4 rfl rfl (by decide) fl_X4_take_62 rfl rfl ?_
      refine x_iload E 0 dX4_take_54 rfl ?_
      refine x_nast E 4 1 [(r0, .inr (4, [.ref d0, .ref d1, .ref d2, .ref d3, .ref d4, .int (nI kn'), .int (nI mv), .ref d5, .ref d6, .int (nI ng), .ref d7, .ref d8, .ref d9, .int (nI nr), .ref d10, .int (nI fc), .int (if sh = true then 1 else 0), .int (nI rp), .int bad, .int (nI th), .int (nI sr), .int (nI sb), .int (nI at9)])), (d0, .inl (cI, 16384, .inl (uf B))), (d1, .inl (cI, 2, .inl (nf z))), (d2, .inl (cI, 600, .inl (nf (va_up S' kn' (secN (fl B f) p))))), (d3, .inl (cI, 600, .inl (nf (va_up L' kn' ((fl B f p).toNat))))), (d4, .inl (cI, 38400, .inl (uf K'))), (d5, .inl (cI, 600, .inl (nf gr))), (d6, .inl (cI, 600, .inl (nf gb))), (d7, .inl (cI, 16, .inl (nf nS))), (d8, .inl (cI, 16, .inl (nf nL))), (d9, .inl (cI, 1024, .inl (uf nK))), (d10, .inl (cI, 64, .inl (uf F)))] dX4_take_56 rfl rfl (by omega) (by decide) rfl ?_
      refine x_iconst E (v := nI 0) dX4_take_57 (by decide) ?_
      refine x_istore E [(6, .int (nI 0)), (5, .int (nI ((fl B f p).toNat))), (4, .int (nI r)), (3, .int (nI p)), (0, .ref r0), (1, .int (nI f)), (2, .int (nI p0))] dX4_take_58 (by decide) rfl ?_
      refine x_lv [0, 1, 2, 3, 4, 5, 6] rfl ?_
      exact inner (fl B f p).toNat 0 K' (by omega) rfl
  refine x_iload_n E 2 dX4_take_0 rfl ?_
  refine x_istore_n E [(3, .int (nI p0)), (0, .ref r0), (1, .int (nI f)), (2, .int (nI p0))] dX4_take_1 (by decide) rfl ?_
  refine x_iconst E (v := nI 0) dX4_take_2 (by decide) ?_
  refine x_istore E [(4, .int (nI 0)), (3, .int (nI p0)), (0, .ref r0), (1, .int (nI f)), (2, .int (nI p0))] dX4_take_3 (by decide) rfl ?_
  refine x_lv [0, 1, 2, 3, 4] rfl ?_
  exact rows sr 0 p0 kn S Ln K (by omega) hp rfl hg rfl rfl rfl
