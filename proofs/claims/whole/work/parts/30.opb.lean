theorem cAt_congr {La Lb : Nat} {f g : Nat → UInt8} (hL : La = Lb) (h : ∀ j, j < Lb → f j = g j) (h64 : Lb ≤ 64) (y : Int32) : cAt La f y = cAt Lb g y := by
  subst hL
  unfold cAt
  by_cases h1 : y < 0
  · rw [if_pos h1, if_pos h1]
  · rw [if_neg h1, if_neg h1]
    by_cases h2 : nI La ≤ y
    · rw [if_pos h2, if_pos h2]
    · rw [if_neg h2, if_neg h2]
      obtain ⟨k, hk, rfl⟩ := nI_of2 (M := nI La) (n := La) (nI_toInt (by omega)) h1 (Int32.le_of_lt (Int32.not_le.mp h2))
      have hk2 : k < La := Nat.lt_of_le_of_ne hk (fun q => h2 (by rw [q]; exact Int32.le_refl _))
      rw [nI_clamp (by omega), h k hk2]
/-- byteAt on both sides: the law's own byteAt, the reference's byteAt and thrown -/
def OpB (l : Launch) (D : va_G) (cB cI cZ cJ : ClassId) (am ar : Nat → Nat) (o0 : Nat) (f : Nat → Int64) (a b : Int32) (x : CS) (y : RS) : Prop :=
  ∃ (k : Nat) (f' : Nat → Int64) (y1 y2 : RS) (r : Int32), Cj l D vwCl (tyl cB cI cZ cJ) yL_byteAt wsL_byteAt rmL_byteAt 1 6 [.ref (am 0), .int a, .int b, .ref o0] (WM cB cI cZ am x ++ [(o0, .inl (cJ, 1, .inr (.inl f)))]) JL (fun r u => r = some (.int (nI k)) ∧ u = WM cB cI cZ am x ++ [(o0, .inl (cJ, 1, .inr (.inl f')))]) ∧
    Ct l D vwCl (tyl cB cI cZ cJ) yX4_byteAt wsX4_byteAt rmX4_byteAt [.ref (ar 0), .int a, .int b] (WR cI ar y) (some (.int r)) (WR cI ar y1) ∧ Ct l D vwCl (tyl cB cI cZ cJ) yX4_thrown wsX4_thrown rmX4_thrown [.ref (ar 0)] (WR cI ar y1) (some (.int (nI k))) (WR cI ar y2) ∧ (k = 0 ∨ k = 1) ∧ (k = 0 → f' 0 = r.toInt64) ∧ Rel x y2
section OPB
variable {l : Launch} {D : va_G} {cB cI cZ cJ : ClassId} {am ar : Nat → Nat} {x : CS} {y : RS}
set_option maxHeartbeats 1000000 in
theorem op_byteAt (htr : l.stackTraces = false) (o0 : Nat) (f : Nat → Int64) (a b : Int32) (h : Rel x y) : OpB l D cB cI cZ cJ am ar o0 f a b x y := by
  obtain ⟨fc, mv, kn, sh, rp, bad, F, n, g, n2, g2, c, S, Ln, Z, K⟩ := x
  obtain ⟨kn', mv', ng, nr, fc', sh', rp', bad', th, sr, sb, at9, B, z, S', L', K', gr, gb, nS, nL, nK, F'⟩ := y
  obtain ⟨⟨rfl, hfc, hF⟩, ⟨rfl, rfl, hmk, rfl, hnr, hc, rfl, rfl, rfl⟩, ⟨rfl, rfl, hn, hn2, hB0, hB1⟩, hrow, hnew, hlen, hg, ho⟩ := h
  by_cases hx : a < 0 ∨ nI kn' ≤ a
  · have hC := c_L_byteAt_thr l htr D cB cI cZ cJ (am 0) (am 1) (am 2) (am 3) (am 4) (am 5) (am 6) (am 7) (am 8) (am 9) (am 10) fc' mv' kn' sh' rp' bad' F (z 0) g (z 1) g2 (kn' + nr) S Ln Z K a b o0 f hx
    have hR := c_X4_byteAt_thr l D cB cI cZ cJ (ar 0) (ar 1) (ar 2) (ar 3) (ar 4) (ar 5) (ar 6) (ar 7) (ar 8) (ar 9) (ar 10) (ar 11) kn' mv' ng nr fc' sh' rp' bad' th sr sb at9 B z S' L' K' gr gb nS nL nK F' a b (by omega) hx
    have hT := c_X4_thrown l D cB cI cZ cJ (ar 0) (ar 1) (ar 2) (ar 3) (ar 4) (ar 5) (ar 6) (ar 7) (ar 8) (ar 9) (ar 10) (ar 11) kn' mv' ng nr fc' sh' rp' bad' 1 sr sb at9 B z S' L' K' gr gb nS nL nK F' 
    exact ⟨1, f, (kn', mv', ng, nr, fc', sh', rp', bad', 1, sr, sb, at9, B, z, S', L', K', gr, gb, nS, nL, nK, F'), (kn', mv', ng, nr, fc', sh', rp', bad', 1, sr, sb, at9, B, z, S', L', K', gr, gb, nS, nL, nK, F'), -1, hC, hR, hT, Or.inr rfl, fun q => absurd q (by decide), ⟨rfl, hfc, hF⟩, ⟨rfl, rfl, hmk, rfl, hnr, hc, rfl, rfl, rfl⟩, ⟨rfl, rfl, hn, hn2, hB0, hB1⟩, hrow, hnew, hlen, hg, ho⟩
  · obtain ⟨k, hk, rfl⟩ := nI_of2 (M := nI kn') (n := kn') (nI_toInt (by omega)) (fun q => hx (Or.inl q)) (Int32.le_of_lt (Int32.not_le.mp (fun q => hx (Or.inr q))))
    have hk2 : k < kn' := Nat.lt_of_le_of_ne hk (fun q => hx (Or.inr (by rw [q]; exact Int32.le_refl _)))
    have hl1 := (hlen k (by omega)).1
    have hl2 := (hrow k hk2).2.1
    have hC := c_L_byteAt_ok l D cB cI cZ cJ (am 0) (am 1) (am 2) (am 3) (am 4) (am 5) (am 6) (am 7) (am 8) (am 9) (am 10) fc' mv' kn' sh' rp' bad' F (z 0) g (z 1) g2 (kn' + nr) S Ln Z K k b o0 f hc (by omega) hk2 hl1
    have hR := c_X4_byteAt_ok l D cB cI cZ cJ (ar 0) (ar 1) (ar 2) (ar 3) (ar 4) (ar 5) (ar 6) (ar 7) (ar 8) (ar 9) (ar 10) (ar 11) kn' mv' ng nr fc' sh' rp' bad' th sr sb at9 B z S' L' K' gr gb nS nL nK F' k b (by omega) hk2 (by omega)
    have hT := c_X4_thrown l D cB cI cZ cJ (ar 0) (ar 1) (ar 2) (ar 3) (ar 4) (ar 5) (ar 6) (ar 7) (ar 8) (ar 9) (ar 10) (ar 11) kn' mv' ng nr fc' sh' rp' bad' 0 sr sb at9 B z S' L' K' gr gb nS nL nK F' 
    refine ⟨0, _, (kn', mv', ng, nr, fc', sh', rp', bad', 0, sr, sb, at9, B, z, S', L', K', gr, gb, nS, nL, nK, F'), (kn', mv', ng, nr, fc', sh', rp', bad', 0, sr, sb, at9, B, z, S', L', K', gr, gb, nS, nL, nK, F'), _, hC, hR, hT, Or.inl rfl, fun _ => ?_, ⟨rfl, hfc, hF⟩, ⟨rfl, rfl, hmk, rfl, hnr, hc, rfl, rfl, rfl⟩, ⟨rfl, rfl, hn, hn2, hB0, hB1⟩, hrow, hnew, hlen, hg, ho⟩
    show (cAt _ _ b).toInt64 = (cAt _ _ b).toInt64
    rw [cAt_congr hl2 (fun j hj => (hrow k hk2).2.2 j hj) hl1 b]
end OPB
