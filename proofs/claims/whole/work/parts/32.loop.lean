section LL
variable {p : Program} {l : Launch} {e : Env} {s : State} {m : MethodId} {below : List Frame} {meth : Method} {c : Code} {D : va_G} {cB cI cZ cJ : ClassId} {am ar : Nat → Nat} {o0 b L : Nat} {xs : Nat → Int32}
set_option maxRecDepth 100000 in
set_option maxHeartbeats 2000000 in
/-- the law's loop, from any two related logs on: it comes to its end with 1 -/
theorem lw_loop (htr : l.stackTraces = false) (hJL : JL s) (hr : meth.sig.returnType = ret) (hlocks : meth.locks = false) (E : En p s m #[Value.ref b] c code 7 RL wsL_law D vwCl (tyl cB cI cZ cJ) (fun q => s.heap.size ≤ q)) (hX : va_X b L xs s s.heap) (hbl : b < s.heap.size) (hL : L ≤ 2048) :
    ∀ (k t : Nat) (x : CS) (y : RS) (f : Nat → Int64), t + k = 513 → Rel x y → XL p l e s m below meth c D cB cI cZ cJ am ar o0 b (24 + t) (115000 + 6 * t) (4 * t) x y f 23 := by
  intro k
  induction k with
  | zero =>
    intro t x y f ht h
    refine x_iload E 0 dL_law_23 rfl ?_
    refine x_aload_n E 4 dL_law_25 rfl ?_
    refine x_slen E hX hbl (Nat.not_le.mpr hbl) dL_law_26 ?_
    refine x_iconst E (v := nI 4) dL_law_27 (by decide) ?_
    refine x_isub E dL_law_28 ?_
    refine x_icmp_gt E 425 dL_law_29 (by decide) (fun _ => ?_) (fun q => ?_)
    · refine x_iconst E (v := 1) dL_law_425 (by decide) ?_
      exact x_lawret E hr hlocks dL_law_426 (by omega) (by omega)
    · have := len4 hL (by omega) q
      omega
  | succ k ih =>
    intro t x y f ht h
    refine x_iload E 0 dL_law_23 rfl ?_
    refine x_aload_n E 4 dL_law_25 rfl ?_
    refine x_slen E hX hbl (Nat.not_le.mpr hbl) dL_law_26 ?_
    refine x_iconst E (v := nI 4) dL_law_27 (by decide) ?_
    refine x_isub E dL_law_28 ?_
    refine x_icmp_gt E 425 dL_law_29 (by decide) (fun _ => ?_) (fun q => ?_)
    · refine x_iconst E (v := 1) dL_law_425 (by decide) ?_
      exact x_lawret E hr hlocks dL_law_426 (by omega) (by omega)
    have hi := len4 hL (by omega) q
    have hnext : ∀ (x' : CS) (y' : RS) (f' : Nat → Int64), Rel x' y' → XL p l e s m below meth c D cB cI cZ cJ am ar o0 b (24 + t + 1) (115000 + 6 * t + 6) (4 * t) x' y' f' 419 := by
      intro x' y' f' h'
      refine x_iinc E 0 [(4, .int (nI (4 * t + 4))), (3, .ref o0), (2, .ref (ar 0)), (1, .ref (am 0)), (0, .ref b)] dL_law_419 rfl (nI_add _ _) (by decide) rfl ?_
      refine x_goto E 23 dL_law_422 (by decide) ?_
      refine x_wide (show 24 + t + 1 ≤ 24 + (t + 1) by omega) (show 115000 + 6 * t + 6 ≤ 115000 + 6 * (t + 1) by omega) ?_
      exact ih (t + 1) x' y' f' (by omega) h'
    have hsame : ∀ (x' : CS) (y' : RS), Rel x' y' → XL p l e s m below meth c D cB cI cZ cJ am ar o0 b (24 + t) (115000 + 6 * t) (4 * t) x' y' f 419 := fun x' y' h' =>
      x_wide (show 24 + t ≤ 24 + t + 1 by omega) (show 115000 + 6 * t ≤ 115000 + 6 * t + 6 by omega) (hnext x' y' f h')
    have hc1 : 24 + t ≤ 601000 := by omega
    have hs1 : 115000 + 6 * t ≤ 7290000 := by omega
    refine x_aload_n E 4 dL_law_32 rfl ?_
    refine x_iload E 0 dL_law_33 rfl ?_
    refine x_nsld E hX hbl (Nat.not_le.mpr hbl) dL_law_35 (by omega) (by omega) ?_
    refine x_bipush E (v := nI 15) dL_law_36 (by decide) ?_
    refine x_iand E dL_law_38 ?_
    obtain ⟨v, hv, ev⟩ := and15 (xs (4 * t))
    refine x_top (w := .int (nI v)) (by rw [ev]) ?_
    have hv16 : v = 0 ∨ v = 1 ∨ v = 2 ∨ v = 3 ∨ v = 4 ∨ v = 5 ∨ v = 6 ∨ v = 7 ∨ v = 8 ∨ v = 9 ∨ v = 10 ∨ v = 11 ∨ 12 ≤ v := by omega
    rcases hv16 with rfl | rfl | rfl | rfl | rfl | rfl | rfl | rfl | rfl | rfl | rfl | rfl | hv12
    · exact x_tabIn E 100 dL_law_39 (by decide) (by decide) rfl (by decide) (lw_feed E hX hbl hL hi hc1 hs1 h hsame)
    · exact x_tabIn E 125 dL_law_39 (by decide) (by decide) rfl (by decide) (lw_row E hX hbl hL hi hc1 hs1 h hsame)
    · exact x_tabIn E 150 dL_law_39 (by decide) (by decide) rfl (by decide) (lw_endGroup E hX hbl hL hi hc1 hs1 h hsame)
    · exact x_tabIn E 163 dL_law_39 (by decide) (by decide) rfl (by decide) (lw_crash E hX hbl hL hi hc1 hs1 h hsame)
    · exact x_tabIn E 200 dL_law_39 (by decide) (by decide) rfl (by decide) (lw_reopen E hX hbl hL hi hc1 hs1 h hsame)
    · exact x_tabIn E 213 dL_law_39 (by decide) (by decide) rfl (by decide) (lw_byteAt htr hJL E hX hbl hL hi hc1 hs1 h hnext)
    · exact x_tabIn E 281 dL_law_39 (by decide) (by decide) rfl (by decide) (lw_poke E hX hbl hL hi hc1 hs1 h hsame)
    · exact x_tabIn E 330 dL_law_39 (by decide) (by decide) rfl (by decide) (lw_repaired E hX hbl hL hi hc1 hs1 h hsame)
    · exact x_tabIn E 343 dL_law_39 (by decide) (by decide) rfl (by decide) (lw_badAt E hX hbl hL hi hc1 hs1 h hsame)
    · exact x_tabIn E 356 dL_law_39 (by decide) (by decide) rfl (by decide) (lw_move E hX hbl hL hi hc1 hs1 h hsame)
    · exact x_tabIn E 381 dL_law_39 (by decide) (by decide) rfl (by decide) (lw_rows E hX hbl hL hi hc1 hs1 h hsame)
    · exact x_tabIn E 406 dL_law_39 (by decide) (by decide) rfl (by decide) (lw_same E hX hbl hL hi hc1 hs1 h hsame)
    · refine x_tabOut E 419 dL_law_39 (Or.inr ?_) (by decide) (hsame x y h)
      rw [nI_toInt (by omega)]
      omega
end LL
