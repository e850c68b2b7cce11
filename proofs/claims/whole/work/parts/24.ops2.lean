theorem smN_congr {f g : Nat → Nat} : ∀ (k : Nat), (∀ i, i < k → f i = g i) → smN f k = smN g k
  | 0, _ => rfl
  | k + 1, h => by rw [smN_s, smN_s, smN_congr k (fun i hi => h i (by omega)), h k (by omega)]
theorem smN_ge {f : Nat → Nat} : ∀ (k : Nat), (∀ i, i < k → 0 < f i) → k ≤ smN f k
  | 0, _ => Nat.le_refl _
  | k + 1, h => by
    rw [smN_s]
    have h1 := smN_ge k (fun i hi => h i (by omega))
    have h2 := h k (by omega)
    omega
/-- one group more, at the end -/
theorem Grp_add {Z Z' : Nat → Bool} {Ln Ln' gr gb : Nat → Nat} {ng mv kn k b : Nat} (h : Grp Z Ln gr gb ng mv kn) (hk : 0 < k) (hz : ∀ r, r < kn → Z' r = Z r) (hl : ∀ r, r < kn → Ln' r = Ln r) (hzn : ∀ j, j < k → (Z' (kn + j) = true ↔ j + 1 = k)) (hb : b = rsz Ln' kn k + 6) : Grp Z' Ln' (va_up gr ng k) (va_up gb ng b) (ng + 1) mv (kn + k) := by
  obtain ⟨h1, h2⟩ := h
  have e : ∀ i, i ≤ ng → smN (va_up gr ng k) i = smN gr i := fun i hi => smN_congr i (fun q hq => va_up_ne _ _ (by omega))
  refine ⟨?_, fun i hi => ?_⟩
  · rw [smN_s, e ng (Nat.le_refl _), va_up_self]
    omega
  · rw [e i (by omega)]
    by_cases y : i = ng
    · subst y
      rw [va_up_self, va_up_self, h1]
      exact ⟨hk, hb, hzn⟩
    · rw [va_up_ne _ _ y, va_up_ne _ _ y]
      obtain ⟨a1, a2, a3⟩ := h2 i (by omega)
      have hle := smN_le gr (show i + 1 ≤ ng by omega)
      rw [smN_s] at hle
      refine ⟨a1, ?_, fun j hj => ?_⟩
      · rw [a2, rsz_eq Ln Ln' (gr i) _ _ (fun q hq => (hl _ (by omega)).symm)]
      · rw [hz _ (by omega)]
        exact a3 j hj
theorem app2_lo (l : List UInt8) : ∀ (B : Nat → UInt8) (p j : Nat), p + l.length ≤ 8192 → j < 8192 → app2 B p l j = app B p l j := by
  induction l with
  | nil => intro B p j _ _; rfl
  | cons b r ih =>
    intro B p j h1 h2
    rw [List.length_cons] at h1
    rw [app2_s, app_s, ih _ _ _ (by omega) h2]
    -- the upper byte isn't seen
    have key : ∀ (l : List UInt8) (G G' : Nat → UInt8) (p : Nat), (∀ q, q < 8192 → G q = G' q) → app G p l j = app G' p l j := by
      intro l
      induction l with
      | nil => intro G G' p h; exact h j h2
      | cons b r ih =>
        intro G G' p h
        rw [app_s, app_s]
        apply ih
        intro q hq
        by_cases e : q = p
        · subst e; rw [va_up_self, va_up_self]
        · rw [va_up_ne _ _ e, va_up_ne _ _ e]; exact h q hq
    apply key
    intro q hq
    rw [va_up_ne _ _ (by omega)]
theorem app2_hi (l : List UInt8) : ∀ (B : Nat → UInt8) (p j : Nat), p + l.length ≤ 8192 → app2 B p l (8192 + j) = app (fun q => B (8192 + q)) p l j := by
  induction l with
  | nil => intro B p j _; rfl
  | cons b r ih =>
    intro B p j h1
    rw [List.length_cons] at h1
    rw [app2_s, app_s, ih _ _ _ (by omega)]
    congr 1
    funext q
    by_cases e : q = p
    · subst e; rw [va_up_self, va_up_self]
    · rw [va_up_ne _ _ (by omega), va_up_ne _ _ (by omega), va_up_ne _ _ e]
theorem app_congr (l : List UInt8) : ∀ (G G' : Nat → UInt8) (p j : Nat), (∀ q, q < p → G q = G' q) → j < p + l.length → app G p l j = app G' p l j := by
  induction l with
  | nil => intro G G' p j h hj; exact h j (by simpa using hj)
  | cons b r ih =>
    intro G G' p j h hj
    rw [List.length_cons] at hj
    rw [app_s, app_s]
    apply ih _ _ _ _ _ (by omega)
    intro q hq
    by_cases e : q = p
    · subst e; rw [va_up_self, va_up_self]
    · rw [va_up_ne _ _ e, va_up_ne _ _ e]; exact h q (by omega)
theorem conL_congr {f g : Nat → UInt8} : ∀ (k p q : Nat), (∀ j, j < k → f (p + j) = g (q + j)) → conL f p k = conL g q k
  | 0, _, _, _ => rfl
  | k + 1, p, q, h => by
    have h0 := h 0 (by omega)
    rw [Nat.add_zero, Nat.add_zero] at h0
    rw [conL_s, conL_s, h0, conL_congr k (p + 1) (q + 1) (fun j hj => by rw [show p + 1 + j = p + (j + 1) by omega, show q + 1 + j = q + (j + 1) by omega]; exact h (j + 1) (by omega))]
theorem rowL_congr {m s n : Nat} {f g : Nat → UInt8} {p q : Nat} (h : ∀ j, j < n → f (p + j) = g (q + j)) : rowL m s n f p = rowL m s n g q := by
  unfold rowL
  rw [conL_congr n p q h]
/-- the group's bytes, from the table's rows and from the reference's new rows -/
theorem grp_bytes {S Ln nS nL : Nat → Nat} {K nK : Nat → UInt8} : ∀ (k i m : Nat) (s : Int32), (∀ j, j < k → nS (i + j) = S (m + j) ∧ nL (i + j) = Ln (m + j) ∧ ∀ t, t < nL (i + j) → nK ((i + j) * 64 + t) = K ((m + j) * 64 + t)) → rowsB S Ln K m k = nwB nS nL nK k i m ∧ rowsSm S Ln K m k s = nwSm nS nL nK k i m s
  | 0, _, _, _, _ => ⟨rfl, rfl⟩
  | k + 1, i, m, s, h => by
    obtain ⟨a1, a2, a3⟩ := h 0 (by omega)
    rw [Nat.add_zero, Nat.add_zero] at a1 a2 a3
    have e : rowL m (nS i) (nL i) nK (i * 64) = rowL m (S m) (Ln m) K (m * 64) := by
      rw [a1, rowL_congr (f := nK) (g := K) (p := i * 64) (q := m * 64) a3, a2]
    have e2 : rowSm m (nS i) (nL i) nK (i * 64) = rowSm m (S m) (Ln m) K (m * 64) := by
      unfold rowSm
      rw [e]
    have e3 : rowB m (nS i) (nL i) nK (i * 64) = rowB m (S m) (Ln m) K (m * 64) := by
      unfold rowB
      rw [e, e2]
    obtain ⟨b1, b2⟩ := grp_bytes (S := S) (Ln := Ln) (nS := nS) (nL := nL) (K := K) (nK := nK) k (i + 1) (m + 1) (rowSm m (S m) (Ln m) K (m * 64)) (fun j hj => by
      have := h (j + 1) (by omega)
      rw [show i + (j + 1) = i + 1 + j by omega, show m + (j + 1) = m + 1 + j by omega] at this
      exact this)
    rw [rowsB_s, nwB_s, rowsSm_s, nwSm_s, e3, e2, b1, b2]
    exact ⟨rfl, rfl⟩
theorem mvN_lo (f : Nat → Nat) : ∀ (k i m : Nat) (S : Nat → Nat) (r : Nat), r < m → mvN f k i m S r = S r
  | 0, _, _, _, _, _ => rfl
  | k + 1, i, m, S, r, h => by
    show mvN f k _ (m + 1) _ r = _
    rw [mvN_lo f k _ (m + 1) _ r (by omega), va_up_ne _ _ (by omega)]
theorem mvN_in (f : Nat → Nat) : ∀ (k i m : Nat) (S : Nat → Nat) (j : Nat), j < k → mvN f k i m S (m + j) = f (i + j)
  | 0, _, _, _, _, h => absurd h (Nat.not_lt_zero _)
  | k + 1, i, m, S, j, h => by
    show mvN f k (i + 1) (m + 1) _ (m + j) = _
    rcases Nat.eq_zero_or_pos j with e | e
    · subst e
      rw [mvN_lo f k _ (m + 1) _ _ (by omega), Nat.add_zero, va_up_self]
      rfl
    · rw [show m + j = m + 1 + (j - 1) by omega, mvN_in f k (i + 1) (m + 1) _ (j - 1) (by omega)]
      congr 1
      omega
theorem mvK_lo (nL : Nat → Nat) (nK : Nat → UInt8) : ∀ (k i m : Nat) (K : Nat → UInt8) (r : Nat), r < m * 64 → mvK nL nK k i m K r = K r
  | 0, _, _, _, _, _ => rfl
  | k + 1, i, m, K, r, h => by
    show mvK nL nK k _ (m + 1) _ r = _
    rw [mvK_lo nL nK k _ (m + 1) _ r (by omega), app_lo _ _ _ _ h]
theorem mvK_in (nL : Nat → Nat) (nK : Nat → UInt8) : ∀ (k i m : Nat) (K : Nat → UInt8) (j t : Nat), j < k → t < nL (i + j) → t < 64 → mvK nL nK k i m K ((m + j) * 64 + t) = nK ((i + j) * 64 + t)
  | 0, _, _, _, _, _, h, _, _ => absurd h (Nat.not_lt_zero _)
  | k + 1, i, m, K, j, t, h, ht, h64 => by
    show mvK nL nK k (i + 1) (m + 1) _ ((m + j) * 64 + t) = _
    rcases Nat.eq_zero_or_pos j with e | e
    · subst e
      rw [mvK_lo nL nK k _ (m + 1) _ _ (by omega), Nat.add_zero, app_at _ _ _ _ _ _ (by simpa using ht)]
      rfl
    · rw [show m + j = m + 1 + (j - 1) by omega, mvK_in nL nK k (i + 1) (m + 1) _ (j - 1) t (by omega) (by rw [show i + 1 + (j - 1) = i + j by omega]; exact ht) h64, show i + 1 + (j - 1) = i + j by omega]
section OPS
variable {l : Launch} {D : va_G} {cB cI cZ cJ : ClassId} {am ar : Nat → Nat} {x : CS} {y : RS}
set_option maxHeartbeats 1000000 in
theorem op_endGroup (h : Rel x y) : Op2 Rel l D cB cI cZ cJ am ar yX3_endGroup wsX3_endGroup rmX3_endGroup yX4_endGroup wsX4_endGroup rmX4_endGroup [] x y := by
  obtain ⟨fc, mv, kn, sh, rp, bad, F, n, g, n2, g2, c, S, Ln, Z, K⟩ := x
  obtain ⟨kn', mv', ng, nr, fc', sh', rp', bad', th, sr, sb, at9, B, z, S', L', K', gr, gb, nS, nL, nK, F'⟩ := y
  obtain ⟨⟨rfl, hfc, hF⟩, ⟨rfl, rfl, hmk, rfl, hnr, hc, rfl, rfl, rfl⟩, ⟨rfl, rfl, hn, hn2, hB0, hB1⟩, hrow, hnew, hlen, hg, ho⟩ := h
  have eq : kn' + nr - kn' = nr := by omega
  have hb : bsz Ln Z kn' (kn' + nr - kn') 0 = rsz Ln kn' nr := by
    rw [eq, bsz_f Ln Z nr kn' 0 (fun i hi => (hnew i hi).2.2.1)]
    omega
  have hrn : rsz nL 0 nr = rsz Ln kn' nr := rsz_eq nL Ln nr 0 kn' (fun i hi => by rw [Nat.zero_add]; exact (hnew i hi).2.1)
  have hle : rsz Ln kn' nr ≤ 75 * nr := rsz_le Ln nr kn' (fun i a b => (hlen i (by omega)).1)
  by_cases h1 : sh' = true ∨ nr = 0
  · exact ⟨(fc', mv', kn', sh', rp', bad', F, z 0, g, z 1, g2, kn' + nr, S, Ln, Z, K), (kn', mv', ng, nr, fc', sh', rp', bad', 0, sr, sb, at9, B, z, S', L', K', gr, gb, nS, nL, nK, F'), nI 0, c_X3_endGroup_no1 l D cB cI cZ cJ _ _ _ _ _ _ _ _ _ _ _ fc' mv' kn' sh' rp' bad' F (z 0) g (z 1) g2 (kn' + nr) S Ln Z K hc (by omega) (h1.imp id (fun q => by omega)), c_X4_endGroup_no l D cB cI cZ cJ _ _ _ _ _ _ _ _ _ _ _ _ kn' mv' ng nr fc' sh' rp' bad' th sr sb at9 B z S' L' K' gr gb nS nL nK F' hnr hn hn2 (by omega) (h1.imp id (fun q => Or.inl q)), ⟨rfl, hfc, hF⟩, ⟨rfl, rfl, hmk, rfl, hnr, hc, rfl, rfl, rfl⟩, ⟨rfl, rfl, hn, hn2, hB0, hB1⟩, hrow, hnew, hlen, hg, ho⟩
  · have hs : sh' = false := Bool.eq_false_iff.mpr (fun q => h1 (Or.inl q))
    subst hs
    have hn0 : 0 < nr := Nat.pos_of_ne_zero (fun q => h1 (Or.inr q))
    obtain ⟨hzz, hsm⟩ := ho rfl
    by_cases h2 : 8192 < z 0 + (rsz Ln kn' nr + 6)
    · exact ⟨(fc', mv', kn', false, rp', bad', F, z 0, g, z 1, g2, kn' + nr, S, Ln, Z, K), (kn', mv', ng, nr, fc', false, rp', bad', 0, sr, sb, at9, B, z, S', L', K', gr, gb, nS, nL, nK, F'), nI 0, c_X3_endGroup_no2 l D cB cI cZ cJ _ _ _ _ _ _ _ _ _ _ _ fc' mv' kn' false rp' bad' F (z 0) g (z 1) g2 (kn' + nr) S Ln Z K hn hn2 hc (by omega) (by omega) (Or.inl (by omega)), c_X4_endGroup_no l D cB cI cZ cJ _ _ _ _ _ _ _ _ _ _ _ _ kn' mv' ng nr fc' false rp' bad' th sr sb at9 B z S' L' K' gr gb nS nL nK F' hnr hn hn2 (by omega) (Or.inr (Or.inr (Or.inl (by omega)))), ⟨rfl, hfc, hF⟩, ⟨rfl, rfl, hmk, rfl, hnr, hc, rfl, rfl, rfl⟩, ⟨rfl, rfl, hn, hn2, hB0, hB1⟩, hrow, hnew, hlen, hg, ho⟩
    · have hng : ng ≤ smN gr ng := smN_ge ng (fun i hi => (hg.2 i hi).1)
      have hg1 := hg.1
      have hC := c_X3_endGroup_ok l D cB cI cZ cJ (am 0) (am 1) (am 2) (am 3) (am 4) (am 5) (am 6) (am 7) (am 8) (am 9) (am 10) fc' mv' kn' false rp' bad' F (z 0) g (z 1) g2 (kn' + nr) S Ln Z K hc (by omega) (fun r hr => (hlen r hr).1) (by rw [hb, eq]) (by rw [eq]; omega) (by rw [eq]; omega)
      rw [eq] at hC
      obtain ⟨gb1, gb2⟩ := grp_bytes (S := S) (Ln := Ln) (nS := nS) (nL := nL) (K := K) (nK := nK) nr 0 kn' (nI 0) (fun j hj => by
        rw [Nat.zero_add]
        obtain ⟨a1, a2, -, a4⟩ := hnew j hj
        exact ⟨a1, a2, a4⟩)
      have hgb : nwB nS nL nK nr 0 kn' ++ endB nr (nwSm nS nL nK nr 0 kn' (nI 0)) = grpB S Ln K kn' nr := by
        unfold grpB
        rw [gb1, gb2]
      have hll : (grpB S Ln K kn' nr).length = rsz Ln kn' nr + 6 := by
        unfold grpB
        rw [List.length_append, rowsB_len]
        unfold endB
        rw [List.length_cons, List.length_cons, beL_len]
      refine ⟨(fc', mv', kn' + nr, false, rp', bad', F, z 0 + (rsz Ln kn' nr + 6), app g (z 0) (grpB S Ln K kn' nr), z 1 + (rsz Ln kn' nr + 6), app g2 (z 1) (grpB S Ln K kn' nr), kn' + nr, S, Ln, va_up Z (kn' + nr - 1) true, K), (kn' + nr, mv', ng + 1, 0, fc', false, rp', bad', 0, sr, sb, z 0 + (rsz nL 0 nr + 6), app2 B (z 0) (nwB nS nL nK nr 0 kn' ++ endB nr (nwSm nS nL nK nr 0 kn' (nI 0))), va_up (va_up z 0 (z 0 + (rsz nL 0 nr + 6))) 1 (z 0 + (rsz nL 0 nr + 6)), mvN nS nr 0 kn' S', mvN nL nr 0 kn' L', mvK nL nK nr 0 kn' K', va_up gr ng nr, va_up gb ng (6 + rsz nL 0 nr), nS, nL, nK, F'), nI 1, hC, c_X4_endGroup_ok l D cB cI cZ cJ _ _ _ _ _ _ _ _ _ _ _ _ kn' mv' ng nr fc' false rp' bad' th sr sb at9 B z S' L' K' gr gb nS nL nK F' hnr hn0 hc (fun i hi => by rw [(hnew i hi).2.1]; exact (hlen _ (by omega)).1) (by omega) (by omega) (by omega), ⟨rfl, hfc, hF⟩, ⟨rfl, rfl, by omega, rfl, by omega, hc, rfl, rfl, rfl⟩, ⟨?_, ?_, by omega, by omega, fun j hj => ?_, fun j hj => ?_⟩, fun r hr => ?_, fun i hi => absurd hi (Nat.not_lt_zero i), hlen, ?_, fun _ => ⟨by omega, ?_⟩⟩
      · rw [va_up_ne _ _ (by decide), va_up_self, hrn]
      · rw [va_up_self, hrn, hzz]
      · rw [hgb, app2_lo _ _ _ _ (by rw [hll]; omega) (by omega)]
        exact app_congr _ _ _ _ _ hB0 (by rw [hll]; exact hj)
      · rw [hgb, app2_hi _ _ _ _ (by rw [hll]; omega), hzz]
        exact app_congr _ _ _ _ _ hB1 (by rw [hll]; exact hj)
      · by_cases e : r < kn'
        · obtain ⟨a1, a2, a3⟩ := hrow r e
          have a4 := (hlen r (by omega)).1
          rw [mvN_lo _ _ _ _ _ _ e, mvN_lo _ _ _ _ _ _ e]
          refine ⟨a1, a2, fun j hj => ?_⟩
          rw [mvK_lo _ _ _ _ _ _ _ (by omega)]
          exact a3 j hj
        · obtain ⟨i, rfl⟩ : ∃ i, r = kn' + i := ⟨r - kn', by omega⟩
          obtain ⟨a1, a2, -, a4⟩ := hnew i (by omega)
          have a5 := (hlen (kn' + i) hr).1
          rw [mvN_in _ _ _ _ _ _ (by omega), mvN_in _ _ _ _ _ _ (by omega), Nat.zero_add]
          refine ⟨a1, a2, fun j hj => ?_⟩
          rw [mvK_in _ _ _ _ _ _ _ _ (by omega) (by rw [Nat.zero_add, a2]; exact hj) (by omega), Nat.zero_add]
          exact a4 j (by rw [a2]; exact hj)
      · refine Grp_add hg hn0 (fun r hr => va_up_ne _ _ (by omega)) (fun r hr => rfl) (fun j hj => ?_) (by omega)
        by_cases e : j + 1 = nr
        · rw [show kn' + j = kn' + nr - 1 by omega, va_up_self]
          simp [e]
        · rw [va_up_ne _ _ (by omega), (hnew j hj).2.2.1]
          simp [e]
      · rw [smN_s, va_up_self, smN_congr ng (fun i hi => va_up_ne _ _ (by omega)), ← hsm]
        omega
end OPS
