theorem app_at (f : Nat → UInt8) : ∀ (k q : Nat) (g : Nat → UInt8) (p j : Nat), j < k → app g p (conL f q k) (p + j) = f (q + j)
  | 0, _, _, _, _, h => absurd h (Nat.not_lt_zero _)
  | k + 1, q, g, p, j, h => by
    rw [conL_s, app_s]
    rcases Nat.eq_zero_or_pos j with e | e
    · subst e
      rw [app_lo _ _ _ _ (by omega), Nat.add_zero, va_up_self]
      rfl
    · rw [show p + j = p + 1 + (j - 1) by omega, app_at f k (q + 1) _ (p + 1) (j - 1) (by omega)]
      congr 1
      omega
theorem Grp_congr {Z Z' : Nat → Bool} {Ln Ln' gr gb : Nat → Nat} {ng mv kn : Nat} (hz : ∀ r, r < kn → Z' r = Z r) (hl : ∀ r, r < kn → Ln' r = Ln r) (h : Grp Z Ln gr gb ng mv kn) : Grp Z' Ln' gr gb ng mv kn := by
  obtain ⟨h1, h2⟩ := h
  refine ⟨h1, fun i hi => ?_⟩
  obtain ⟨a1, a2, a3⟩ := h2 i hi
  have hle := smN_le gr (show i + 1 ≤ ng by omega)
  rw [smN_s] at hle
  refine ⟨a1, ?_, fun j hj => ?_⟩
  · rw [a2, rsz_eq Ln Ln' (gr i) _ _ (fun q hq => (hl _ (by omega)).symm)]
  · rw [hz _ (by omega)]
    exact a3 j hj
theorem lastR_eq {nr kn : Nat} {nS S' S : Nat → Nat} (h1 : ∀ i, i < nr → nS i = S (kn + i)) (h2 : ∀ r, r < kn → S' r = S r) : lastR nr kn nS S' = lastS (kn + nr) S := by
  unfold lastR lastS
  by_cases a : 0 < nr
  · rw [if_pos a, if_neg (by omega), h1 _ (by omega)]
    congr 1
    omega
  · rw [if_neg a]
    have : nr = 0 := by omega
    subst this
    by_cases b : 0 < kn
    · rw [if_pos b, if_neg (by omega), h2 _ (by omega)]
      rfl
    · rw [if_neg b, if_pos (by omega)]
theorem arS_iff (B : Nat → UInt8) (z : Nat → Nat) : ∀ (k p : Nat), arS B z p k = true ↔ ∀ i, i < k → p + i < z 0 ∧ p + i < z 1 ∧ B (p + i) = B (8192 + (p + i))
  | 0, p => ⟨fun _ i h => absurd h (Nat.not_lt_zero i), fun _ => rfl⟩
  | k + 1, p => by
    rw [arS_s]
    by_cases y : p < z 0 ∧ p < z 1 ∧ B p = B (8192 + p)
    · rw [if_pos y, arS_iff B z k (p + 1)]
      constructor
      · intro h i hi
        rcases Nat.eq_zero_or_pos i with q | q
        · subst q; exact y
        · have h1 := h (i - 1) (by omega)
          rw [show p + 1 + (i - 1) = p + i by omega] at h1
          exact h1
      · intro h i hi
        have h1 := h (i + 1) (by omega)
        rw [show p + (i + 1) = p + 1 + i by omega] at h1
        exact h1
    · rw [if_neg y]
      constructor
      · intro h; cases h
      · intro h; exact absurd (h 0 (by omega)) y
theorem gt_iff {n n2 : Nat} {g g2 : Nat → UInt8} {k : Nat} (hk : k < n) : gt n g k = gt n2 g2 k ↔ k < n2 ∧ g k = g2 k := by
  constructor
  · intro h; exact gt_eq h hk
  · rintro ⟨a, b⟩; rw [gt_in hk, gt_in a, b]
theorem bool_eq {a b : Bool} (h : a = true ↔ b = true) : a = b := by
  cases a <;> cases b <;> simp_all
/-- file 0 against file 1, as far as file 0 goes -/
theorem agr_arS {z : Nat → Nat} {B g g2 : Nat → UInt8} (h0 : ∀ j, j < z 0 → B j = g j) (h1 : ∀ j, j < z 1 → B (8192 + j) = g2 j) {p k : Nat} (hp : p + k ≤ z 0) : agr (z 0) g (z 1) g2 p k = arS B z p k := by
  apply bool_eq
  rw [agr_iff, arS_iff]
  constructor
  · intro h i hi
    obtain ⟨a, b⟩ := (gt_iff (by omega)).mp (h i hi)
    exact ⟨by omega, a, by rw [h0 _ (by omega), h1 _ a, b]⟩
  · intro h i hi
    obtain ⟨a, b, e⟩ := h i hi
    exact (gt_iff a).mpr ⟨b, by rw [← h0 _ a, ← h1 _ b, e]⟩
theorem agr_arS' {z : Nat → Nat} {B g g2 : Nat → UInt8} (h0 : ∀ j, j < z 0 → B j = g j) (h1 : ∀ j, j < z 1 → B (8192 + j) = g2 j) {p k : Nat} (hp : p + k ≤ z 1) : agr (z 1) g2 (z 0) g p k = arS B z p k := by
  apply bool_eq
  rw [agr_iff, arS_iff]
  constructor
  · intro h i hi
    obtain ⟨a, b⟩ := (gt_iff (by omega)).mp (h i hi)
    exact ⟨a, by omega, by rw [h0 _ a, h1 _ (by omega), b]⟩
  · intro h i hi
    obtain ⟨a, b, e⟩ := h i hi
    exact (gt_iff b).mpr ⟨a, by rw [← h0 _ a, ← h1 _ b, e]⟩
theorem same_eq {z : Nat → Nat} {B g g2 : Nat → UInt8} (h0 : ∀ j, j < z 0 → B j = g j) (h1 : ∀ j, j < z 1 → B (8192 + j) = g2 j) : sameB (z 0) g (z 1) g2 = sameR B z := by
  unfold sameB sameR
  rw [agr_arS h0 h1 (by omega)]
  by_cases e : z 0 = z 1
  · rw [if_pos e, decide_eq_true e]
    by_cases a : arS B z 0 (z 0 - 0) = true
    · rw [if_pos a, a]
    · rw [if_neg a]; exact Bool.eq_false_iff.mpr a
  · rw [if_neg e, decide_eq_false e]
    split <;> rfl
theorem rwC_congr {S S' : Nat → Nat} (mo : Int32) : ∀ (k r a : Nat), (∀ q, q < r + k → S' q = S q) → rwC S' mo k r a = rwC S mo k r a
  | 0, _, _, _ => rfl
  | k + 1, r, a, h => by
    rw [rwC_s, rwC_s, h r (by omega), rwC_congr mo k (r + 1) _ (fun q hq => h q (by omega))]
section OPS
variable {l : Launch} {D : va_G} {cB cI cZ cJ : ClassId} {am ar : Nat → Nat} {x : CS} {y : RS}
theorem op_feed (b : Int32) (h : Rel x y) : Op2 Rel l D cB cI cZ cJ am ar yX3_feed wsX3_feed rmX3_feed yX4_feed wsX4_feed rmX4_feed [.int b] x y := by
  obtain ⟨fc, mv, kn, sh, rp, bad, F, n, g, n2, g2, c, S, Ln, Z, K⟩ := x
  obtain ⟨kn', mv', ng, nr, fc', sh', rp', bad', th, sr, sb, at9, B, z, S', L', K', gr, gb, nS, nL, nK, F'⟩ := y
  obtain ⟨⟨rfl, hfc, hF⟩, ⟨rfl, rfl, hmk, rfl, hnr, hc, rfl, rfl, rfl⟩, ⟨rfl, rfl, hn, hn2, hB0, hB1⟩, hrow, hnew, hlen, hg, ho⟩ := h
  by_cases hno : sh' = true ∨ b < 0 ∨ nI 255 < b ∨ 64 ≤ fc'
  · exact ⟨(fc', mv', kn', sh', rp', bad', F, z 0, g, z 1, g2, kn' + nr, S, Ln, Z, K), (kn', mv', ng, nr, fc', sh', rp', bad', 0, sr, sb, at9, B, z, S', L', K', gr, gb, nS, nL, nK, F'), nI 0, c_X3_feed_no l D cB cI cZ cJ _ _ _ _ _ _ _ _ _ _ _ fc' mv' kn' sh' rp' bad' F (z 0) g (z 1) g2 (kn' + nr) S Ln Z K b hfc hno, c_X4_feed_no l D cB cI cZ cJ _ _ _ _ _ _ _ _ _ _ _ _ kn' mv' ng nr fc' sh' rp' bad' th sr sb at9 B z S' L' K' gr gb nS nL nK F' b hfc hno, ⟨rfl, hfc, hF⟩, ⟨rfl, rfl, hmk, rfl, hnr, hc, rfl, rfl, rfl⟩, ⟨rfl, rfl, hn, hn2, hB0, hB1⟩, hrow, hnew, hlen, hg, ho⟩
  · have hs : sh' = false := Bool.eq_false_iff.mpr (fun q => hno (Or.inl q))
    subst hs
    obtain ⟨j, hj, rfl⟩ := nI_of2 (M := nI 255) (n := 255) (nI_toInt (by omega)) (fun q => hno (Or.inr (Or.inl q))) (Int32.not_lt.mp (fun q => hno (Or.inr (Or.inr (Or.inl q)))))
    have hf : fc' < 64 := Nat.not_le.mp (fun q => hno (Or.inr (Or.inr (Or.inr q))))
    refine ⟨(fc' + 1, mv', kn', false, rp', bad', va_up F fc' (u8 (nI j)), z 0, g, z 1, g2, kn' + nr, S, Ln, Z, K), (kn', mv', ng, nr, fc' + 1, false, rp', bad', 0, sr, sb, at9, B, z, S', L', K', gr, gb, nS, nL, nK, va_up F' fc' (u8 (nI j))), nI 1, c_X3_feed_ok l D cB cI cZ cJ _ _ _ _ _ _ _ _ _ _ _ fc' mv' kn' false rp' bad' F (z 0) g (z 1) g2 (kn' + nr) S Ln Z K j hj hf, c_X4_feed_ok l D cB cI cZ cJ _ _ _ _ _ _ _ _ _ _ _ _ kn' mv' ng nr fc' false rp' bad' th sr sb at9 B z S' L' K' gr gb nS nL nK F' j hj hf, ⟨rfl, by omega, fun i hi => ?_⟩, ⟨rfl, rfl, hmk, rfl, hnr, hc, rfl, rfl, rfl⟩, ⟨rfl, rfl, hn, hn2, hB0, hB1⟩, hrow, hnew, hlen, hg, ho⟩
    by_cases e : i = fc'
    · subst e
      rw [va_up_self, va_up_self]
    · rw [va_up_ne _ _ e, va_up_ne _ _ e]
      exact hF i (by omega)
theorem op_same (h : Rel x y) : Op2 Rel l D cB cI cZ cJ am ar yX3_same wsX3_same rmX3_same yX4_same wsX4_same rmX4_same [] x y := by
  obtain ⟨fc, mv, kn, sh, rp, bad, F, n, g, n2, g2, c, S, Ln, Z, K⟩ := x
  obtain ⟨kn', mv', ng, nr, fc', sh', rp', bad', th, sr, sb, at9, B, z, S', L', K', gr, gb, nS, nL, nK, F'⟩ := y
  obtain ⟨⟨rfl, hfc, hF⟩, ⟨rfl, rfl, hmk, rfl, hnr, hc, rfl, rfl, rfl⟩, ⟨rfl, rfl, hn, hn2, hB0, hB1⟩, hrow, hnew, hlen, hg, ho⟩ := h
  refine ⟨(fc', mv', kn', sh', rp', bad', F, z 0, g, z 1, g2, kn' + nr, S, Ln, Z, K), (kn', mv', ng, nr, fc', sh', rp', bad', 0, sr, sb, at9, B, z, S', L', K', gr, gb, nS, nL, nK, F'), if sameB (z 0) g (z 1) g2 = true then 1 else 0, c_X3_same l D cB cI cZ cJ _ _ _ _ _ _ _ _ _ _ _ fc' mv' kn' sh' rp' bad' F (z 0) g (z 1) g2 (kn' + nr) S Ln Z K hn hn2, ?_, ⟨rfl, hfc, hF⟩, ⟨rfl, rfl, hmk, rfl, hnr, hc, rfl, rfl, rfl⟩, ⟨rfl, rfl, hn, hn2, hB0, hB1⟩, hrow, hnew, hlen, hg, ho⟩
  rw [same_eq hB0 hB1]
  exact c_X4_same l D cB cI cZ cJ _ _ _ _ _ _ _ _ _ _ _ _ kn' mv' ng nr fc' sh' rp' bad' th sr sb at9 B z S' L' K' gr gb nS nL nK F' hn hn2
theorem op_rows (mo : Int32) (h : Rel x y) : Op2 Rel l D cB cI cZ cJ am ar yX3_rows wsX3_rows rmX3_rows yX4_rows wsX4_rows rmX4_rows [.int mo] x y := by
  obtain ⟨fc, mv, kn, sh, rp, bad, F, n, g, n2, g2, c, S, Ln, Z, K⟩ := x
  obtain ⟨kn', mv', ng, nr, fc', sh', rp', bad', th, sr, sb, at9, B, z, S', L', K', gr, gb, nS, nL, nK, F'⟩ := y
  obtain ⟨⟨rfl, hfc, hF⟩, ⟨rfl, rfl, hmk, rfl, hnr, hc, rfl, rfl, rfl⟩, ⟨rfl, rfl, hn, hn2, hB0, hB1⟩, hrow, hnew, hlen, hg, ho⟩ := h
  refine ⟨(fc', mv', kn', sh', rp', bad', F, z 0, g, z 1, g2, kn' + nr, S, Ln, Z, K), (kn', mv', ng, nr, fc', sh', rp', bad', 0, sr, sb, at9, B, z, S', L', K', gr, gb, nS, nL, nK, F'), nI (rwC S mo kn' 0 0), c_X3_rows l D cB cI cZ cJ _ _ _ _ _ _ _ _ _ _ _ fc' mv' kn' sh' rp' bad' F (z 0) g (z 1) g2 (kn' + nr) S Ln Z K mo hc (by omega) (fun r hr => (hlen r hr).2.1), ?_, ⟨rfl, hfc, hF⟩, ⟨rfl, rfl, hmk, rfl, hnr, hc, rfl, rfl, rfl⟩, ⟨rfl, rfl, hn, hn2, hB0, hB1⟩, hrow, hnew, hlen, hg, ho⟩
  rw [← rwC_congr mo kn' 0 0 (fun q hq => (hrow q (by omega)).1)]
  exact c_X4_rows l D cB cI cZ cJ _ _ _ _ _ _ _ _ _ _ _ _ kn' mv' ng nr fc' sh' rp' bad' th sr sb at9 B z S' L' K' gr gb nS nL nK F' mo (by omega) (fun r hr => by rw [(hrow r hr).1]; exact (hlen r (by omega)).2.1)
theorem op_crash (f v : Int32) (h : Rel x y) : Op2 Rel l D cB cI cZ cJ am ar yX3_crash wsX3_crash rmX3_crash yX4_crash wsX4_crash rmX4_crash [.int f, .int v] x y := by
  obtain ⟨fc, mv, kn, sh, rp, bad, F, n, g, n2, g2, c, S, Ln, Z, K⟩ := x
  obtain ⟨kn', mv', ng, nr, fc', sh', rp', bad', th, sr, sb, at9, B, z, S', L', K', gr, gb, nS, nL, nK, F'⟩ := y
  obtain ⟨⟨rfl, hfc, hF⟩, ⟨rfl, rfl, hmk, rfl, hnr, hc, rfl, rfl, rfl⟩, ⟨rfl, rfl, hn, hn2, hB0, hB1⟩, hrow, hnew, hlen, hg, ho⟩ := h
  by_cases hf : f = 0
  · skip
    have hx : f = nI 0 := hf
    subst hx
    by_cases hk : v < 0 ∨ ¬ v ≤ nI (z 0)
    · exact ⟨(fc', mv', kn', sh', rp', bad', F, z 0, g, z 1, g2, kn' + nr, S, Ln, Z, K), (kn', mv', ng, nr, fc', sh', rp', bad', 0, sr, sb, at9, B, z, S', L', K', gr, gb, nS, nL, nK, F'), nI 0, c_X3_crash_no0 l D cB cI cZ cJ _ _ _ _ _ _ _ _ _ _ _ fc' mv' kn' sh' rp' bad' F (z 0) g (z 1) g2 (kn' + nr) S Ln Z K v hn hn2 hk, c_X4_crash_no0 l D cB cI cZ cJ _ _ _ _ _ _ _ _ _ _ _ _ kn' mv' ng nr fc' sh' rp' bad' th sr sb at9 B z S' L' K' gr gb nS nL nK F' v hn hn2 hk, ⟨rfl, hfc, hF⟩, ⟨rfl, rfl, hmk, rfl, hnr, hc, rfl, rfl, rfl⟩, ⟨rfl, rfl, hn, hn2, hB0, hB1⟩, hrow, hnew, hlen, hg, ho⟩
    · obtain ⟨k, hk1, rfl⟩ := nI_of2 (M := nI (z 0)) (n := z 0) (nI_toInt (by omega)) (fun q => hk (Or.inl q)) (Classical.not_not.mp (fun q => hk (Or.inr q)))
      exact ⟨(0, mv', mv', true, rp', bad', F, k, g, z 1, g2, mv', S, Ln, Z, K), (mv', mv', 0, 0, 0, true, rp', bad', 0, sr, sb, at9, B, va_up z 0 k, S', L', K', gr, gb, nS, nL, nK, F'), nI 1, c_X3_crash_ok0 l D cB cI cZ cJ _ _ _ _ _ _ _ _ _ _ _ fc' mv' kn' sh' rp' bad' F (z 0) g (z 1) g2 (kn' + nr) S Ln Z K k hn hn2 hc (by omega) hmk hk1, c_X4_crash_ok0 l D cB cI cZ cJ _ _ _ _ _ _ _ _ _ _ _ _ kn' mv' ng nr fc' sh' rp' bad' th sr sb at9 B z S' L' K' gr gb nS nL nK F' k hn hn2 hk1, ⟨rfl, by omega, fun j hj => absurd hj (Nat.not_lt_zero j)⟩, ⟨rfl, rfl, Nat.le_refl _, rfl, by omega, by omega, rfl, rfl, rfl⟩, ⟨va_up_self _ _ _, va_up_ne _ _ (by decide), by omega, hn2, fun j hj => hB0 j (by omega), hB1⟩, fun r hr => hrow r (by omega), fun i hi => absurd hi (Nat.not_lt_zero i), fun r hr => hlen r (by omega), ⟨rfl, fun i hi => absurd hi (Nat.not_lt_zero i)⟩, fun q => by cases q⟩
  · by_cases hf1 : f = 1
    · skip
      have hx : f = nI 1 := hf1
      subst hx
      by_cases hk : v < 0 ∨ ¬ v ≤ nI (z 1)
      · exact ⟨(fc', mv', kn', sh', rp', bad', F, z 0, g, z 1, g2, kn' + nr, S, Ln, Z, K), (kn', mv', ng, nr, fc', sh', rp', bad', 0, sr, sb, at9, B, z, S', L', K', gr, gb, nS, nL, nK, F'), nI 0, c_X3_crash_no1 l D cB cI cZ cJ _ _ _ _ _ _ _ _ _ _ _ fc' mv' kn' sh' rp' bad' F (z 0) g (z 1) g2 (kn' + nr) S Ln Z K v hn hn2 hk, c_X4_crash_no1 l D cB cI cZ cJ _ _ _ _ _ _ _ _ _ _ _ _ kn' mv' ng nr fc' sh' rp' bad' th sr sb at9 B z S' L' K' gr gb nS nL nK F' v hn hn2 hk, ⟨rfl, hfc, hF⟩, ⟨rfl, rfl, hmk, rfl, hnr, hc, rfl, rfl, rfl⟩, ⟨rfl, rfl, hn, hn2, hB0, hB1⟩, hrow, hnew, hlen, hg, ho⟩
      · obtain ⟨k, hk1, rfl⟩ := nI_of2 (M := nI (z 1)) (n := z 1) (nI_toInt (by omega)) (fun q => hk (Or.inl q)) (Classical.not_not.mp (fun q => hk (Or.inr q)))
        exact ⟨(0, mv', mv', true, rp', bad', F, z 0, g, k, g2, mv', S, Ln, Z, K), (mv', mv', 0, 0, 0, true, rp', bad', 0, sr, sb, at9, B, va_up z 1 k, S', L', K', gr, gb, nS, nL, nK, F'), nI 1, c_X3_crash_ok1 l D cB cI cZ cJ _ _ _ _ _ _ _ _ _ _ _ fc' mv' kn' sh' rp' bad' F (z 0) g (z 1) g2 (kn' + nr) S Ln Z K k hn hn2 hc (by omega) hmk hk1, c_X4_crash_ok1 l D cB cI cZ cJ _ _ _ _ _ _ _ _ _ _ _ _ kn' mv' ng nr fc' sh' rp' bad' th sr sb at9 B z S' L' K' gr gb nS nL nK F' k hn hn2 hk1, ⟨rfl, by omega, fun j hj => absurd hj (Nat.not_lt_zero j)⟩, ⟨rfl, rfl, Nat.le_refl _, rfl, by omega, by omega, rfl, rfl, rfl⟩, ⟨va_up_ne _ _ (by decide), va_up_self _ _ _, hn, by omega, hB0, fun j hj => hB1 j (by omega)⟩, fun r hr => hrow r (by omega), fun i hi => absurd hi (Nat.not_lt_zero i), fun r hr => hlen r (by omega), ⟨rfl, fun i hi => absurd hi (Nat.not_lt_zero i)⟩, fun q => by cases q⟩
    · exact ⟨(fc', mv', kn', sh', rp', bad', F, z 0, g, z 1, g2, kn' + nr, S, Ln, Z, K), (kn', mv', ng, nr, fc', sh', rp', bad', 0, sr, sb, at9, B, z, S', L', K', gr, gb, nS, nL, nK, F'), nI 0, c_X3_crash_nof l D cB cI cZ cJ _ _ _ _ _ _ _ _ _ _ _ fc' mv' kn' sh' rp' bad' F (z 0) g (z 1) g2 (kn' + nr) S Ln Z K f v (fun q => q.elim hf hf1), c_X4_crash_nof l D cB cI cZ cJ _ _ _ _ _ _ _ _ _ _ _ _ kn' mv' ng nr fc' sh' rp' bad' th sr sb at9 B z S' L' K' gr gb nS nL nK F' f v (fun q => q.elim hf hf1), ⟨rfl, hfc, hF⟩, ⟨rfl, rfl, hmk, rfl, hnr, hc, rfl, rfl, rfl⟩, ⟨rfl, rfl, hn, hn2, hB0, hB1⟩, hrow, hnew, hlen, hg, ho⟩
theorem op_poke (f v u : Int32) (h : Rel x y) : Op2 Rel l D cB cI cZ cJ am ar yX3_poke wsX3_poke rmX3_poke yX4_poke wsX4_poke rmX4_poke [.int f, .int v, .int u] x y := by
  obtain ⟨fc, mv, kn, sh, rp, bad, F, n, g, n2, g2, c, S, Ln, Z, K⟩ := x
  obtain ⟨kn', mv', ng, nr, fc', sh', rp', bad', th, sr, sb, at9, B, z, S', L', K', gr, gb, nS, nL, nK, F'⟩ := y
  obtain ⟨⟨rfl, hfc, hF⟩, ⟨rfl, rfl, hmk, rfl, hnr, hc, rfl, rfl, rfl⟩, ⟨rfl, rfl, hn, hn2, hB0, hB1⟩, hrow, hnew, hlen, hg, ho⟩ := h
  by_cases hf : f = 0
  · skip
    have hx : f = nI 0 := hf
    subst hx
    by_cases hk : v < 0 ∨ nI (z 0) ≤ v ∨ u < nI 1 ∨ ¬ u ≤ nI 255
    · exact ⟨(fc', mv', kn', sh', rp', bad', F, z 0, g, z 1, g2, kn' + nr, S, Ln, Z, K), (kn', mv', ng, nr, fc', sh', rp', bad', 0, sr, sb, at9, B, z, S', L', K', gr, gb, nS, nL, nK, F'), nI 0, c_X3_poke_no0 l D cB cI cZ cJ _ _ _ _ _ _ _ _ _ _ _ fc' mv' kn' sh' rp' bad' F (z 0) g (z 1) g2 (kn' + nr) S Ln Z K v u hn hn2 hk, c_X4_poke_no0 l D cB cI cZ cJ _ _ _ _ _ _ _ _ _ _ _ _ kn' mv' ng nr fc' sh' rp' bad' th sr sb at9 B z S' L' K' gr gb nS nL nK F' v u hn hn2 hk, ⟨rfl, hfc, hF⟩, ⟨rfl, rfl, hmk, rfl, hnr, hc, rfl, rfl, rfl⟩, ⟨rfl, rfl, hn, hn2, hB0, hB1⟩, hrow, hnew, hlen, hg, ho⟩
    · obtain ⟨k, hk1, rfl⟩ := nI_of2 (M := nI (z 0)) (n := z 0) (nI_toInt (by omega)) (fun q => hk (Or.inl q)) (Int32.le_of_lt (Int32.not_le.mp (fun q => hk (Or.inr (Or.inl q)))))
      have hk2 : k < z 0 := Nat.lt_of_le_of_ne hk1 (fun q => hk (Or.inr (Or.inl (by rw [q]; exact Int32.le_refl _))))
      have hu1 : ¬ u < nI 1 := fun q => hk (Or.inr (Or.inr (Or.inl q)))
      have hu2 : u ≤ nI 255 := Classical.not_not.mp (fun q => hk (Or.inr (Or.inr (Or.inr q))))
      obtain ⟨w, hw1, rfl⟩ := nI_of2 (M := nI 255) (n := 255) (nI_toInt (by omega)) (fun q => hu1 (Int32.lt_trans q (by decide))) hu2
      have hw0 : 1 ≤ w := Nat.not_lt.mp (fun q => hu1 ((nI_ltI (by omega) (by omega)).mpr q))
      refine ⟨(fc', mv', kn', sh', rp', bad', F, z 0, va_up g k (u8 (bf g k ^^^ nI w)), z 1, g2, kn' + nr, S, Ln, Z, K), (kn', mv', ng, nr, fc', sh', rp', bad', 0, sr, sb, at9, va_up B (0 * 8192 + k) (u8 (bf (fun _ => B (0 * 8192 + k)) 0 ^^^ nI w)), z, S', L', K', gr, gb, nS, nL, nK, F'), nI 1, c_X3_poke_ok0 l D cB cI cZ cJ _ _ _ _ _ _ _ _ _ _ _ fc' mv' kn' sh' rp' bad' F (z 0) g (z 1) g2 (kn' + nr) S Ln Z K k (nI w) hn hn2 hk2 hu1 hu2, c_X4_poke_ok0 l D cB cI cZ cJ _ _ _ _ _ _ _ _ _ _ _ _ kn' mv' ng nr fc' sh' rp' bad' th sr sb at9 B z S' L' K' gr gb nS nL nK F' k w hn hn2 hk2 hw0 hw1, ⟨rfl, hfc, hF⟩, ⟨rfl, rfl, hmk, rfl, hnr, hc, rfl, rfl, rfl⟩, ⟨rfl, rfl, hn, hn2, fun j hj => ?_, fun j hj => ?_⟩, hrow, hnew, hlen, hg, ho⟩
      · by_cases e : j = k
        · subst e
          rw [show 0 * 8192 + j = j by omega, va_up_self, va_up_self]
          show u8 ((B j).toInt8.toInt32 ^^^ nI w) = u8 ((g j).toInt8.toInt32 ^^^ nI w)
          rw [hB0 j hj]
        · rw [va_up_ne _ _ (by omega), va_up_ne _ _ e]
          exact hB0 j hj
      · rw [va_up_ne _ _ (by omega)]
        exact hB1 j hj
  · by_cases hf1 : f = 1
    · skip
      have hx : f = nI 1 := hf1
      subst hx
      by_cases hk : v < 0 ∨ nI (z 1) ≤ v ∨ u < nI 1 ∨ ¬ u ≤ nI 255
      · exact ⟨(fc', mv', kn', sh', rp', bad', F, z 0, g, z 1, g2, kn' + nr, S, Ln, Z, K), (kn', mv', ng, nr, fc', sh', rp', bad', 0, sr, sb, at9, B, z, S', L', K', gr, gb, nS, nL, nK, F'), nI 0, c_X3_poke_no1 l D cB cI cZ cJ _ _ _ _ _ _ _ _ _ _ _ fc' mv' kn' sh' rp' bad' F (z 0) g (z 1) g2 (kn' + nr) S Ln Z K v u hn hn2 hk, c_X4_poke_no1 l D cB cI cZ cJ _ _ _ _ _ _ _ _ _ _ _ _ kn' mv' ng nr fc' sh' rp' bad' th sr sb at9 B z S' L' K' gr gb nS nL nK F' v u hn hn2 hk, ⟨rfl, hfc, hF⟩, ⟨rfl, rfl, hmk, rfl, hnr, hc, rfl, rfl, rfl⟩, ⟨rfl, rfl, hn, hn2, hB0, hB1⟩, hrow, hnew, hlen, hg, ho⟩
      · obtain ⟨k, hk1, rfl⟩ := nI_of2 (M := nI (z 1)) (n := z 1) (nI_toInt (by omega)) (fun q => hk (Or.inl q)) (Int32.le_of_lt (Int32.not_le.mp (fun q => hk (Or.inr (Or.inl q)))))
        have hk2 : k < z 1 := Nat.lt_of_le_of_ne hk1 (fun q => hk (Or.inr (Or.inl (by rw [q]; exact Int32.le_refl _))))
        have hu1 : ¬ u < nI 1 := fun q => hk (Or.inr (Or.inr (Or.inl q)))
        have hu2 : u ≤ nI 255 := Classical.not_not.mp (fun q => hk (Or.inr (Or.inr (Or.inr q))))
        obtain ⟨w, hw1, rfl⟩ := nI_of2 (M := nI 255) (n := 255) (nI_toInt (by omega)) (fun q => hu1 (Int32.lt_trans q (by decide))) hu2
        have hw0 : 1 ≤ w := Nat.not_lt.mp (fun q => hu1 ((nI_ltI (by omega) (by omega)).mpr q))
        refine ⟨(fc', mv', kn', sh', rp', bad', F, z 0, g, z 1, va_up g2 k (u8 (bf g2 k ^^^ nI w)), kn' + nr, S, Ln, Z, K), (kn', mv', ng, nr, fc', sh', rp', bad', 0, sr, sb, at9, va_up B (1 * 8192 + k) (u8 (bf (fun _ => B (1 * 8192 + k)) 0 ^^^ nI w)), z, S', L', K', gr, gb, nS, nL, nK, F'), nI 1, c_X3_poke_ok1 l D cB cI cZ cJ _ _ _ _ _ _ _ _ _ _ _ fc' mv' kn' sh' rp' bad' F (z 0) g (z 1) g2 (kn' + nr) S Ln Z K k (nI w) hn hn2 hk2 hu1 hu2, c_X4_poke_ok1 l D cB cI cZ cJ _ _ _ _ _ _ _ _ _ _ _ _ kn' mv' ng nr fc' sh' rp' bad' th sr sb at9 B z S' L' K' gr gb nS nL nK F' k w hn hn2 hk2 hw0 hw1, ⟨rfl, hfc, hF⟩, ⟨rfl, rfl, hmk, rfl, hnr, hc, rfl, rfl, rfl⟩, ⟨rfl, rfl, hn, hn2, fun j hj => ?_, fun j hj => ?_⟩, hrow, hnew, hlen, hg, ho⟩
        · rw [va_up_ne _ _ (by omega)]
          exact hB0 j hj
        · by_cases e : j = k
          · subst e
            rw [show 1 * 8192 + j = 8192 + j by omega, va_up_self, va_up_self]
            show u8 ((B (8192 + j)).toInt8.toInt32 ^^^ nI w) = u8 ((g2 j).toInt8.toInt32 ^^^ nI w)
            rw [hB1 j hj]
          · rw [va_up_ne _ _ (by omega), va_up_ne _ _ e]
            exact hB1 j hj
    · exact ⟨(fc', mv', kn', sh', rp', bad', F, z 0, g, z 1, g2, kn' + nr, S, Ln, Z, K), (kn', mv', ng, nr, fc', sh', rp', bad', 0, sr, sb, at9, B, z, S', L', K', gr, gb, nS, nL, nK, F'), nI 0, c_X3_poke_nof l D cB cI cZ cJ _ _ _ _ _ _ _ _ _ _ _ fc' mv' kn' sh' rp' bad' F (z 0) g (z 1) g2 (kn' + nr) S Ln Z K f v u (fun q => q.elim hf hf1), c_X4_poke_nof l D cB cI cZ cJ _ _ _ _ _ _ _ _ _ _ _ _ kn' mv' ng nr fc' sh' rp' bad' th sr sb at9 B z S' L' K' gr gb nS nL nK F' f v u (fun q => q.elim hf hf1), ⟨rfl, hfc, hF⟩, ⟨rfl, rfl, hmk, rfl, hnr, hc, rfl, rfl, rfl⟩, ⟨rfl, rfl, hn, hn2, hB0, hB1⟩, hrow, hnew, hlen, hg, ho⟩
theorem op_row (v : Int32) (h : Rel x y) : Op2 Rel l D cB cI cZ cJ am ar yX3_row wsX3_row rmX3_row yX4_row wsX4_row rmX4_row [.int v] x y := by
  obtain ⟨fc, mv, kn, sh, rp, bad, F, n, g, n2, g2, c, S, Ln, Z, K⟩ := x
  obtain ⟨kn', mv', ng, nr, fc', sh', rp', bad', th, sr, sb, at9, B, z, S', L', K', gr, gb, nS, nL, nK, F'⟩ := y
  obtain ⟨⟨rfl, hfc, hF⟩, ⟨rfl, rfl, hmk, rfl, hnr, hc, rfl, rfl, rfl⟩, ⟨rfl, rfl, hn, hn2, hB0, hB1⟩, hrow, hnew, hlen, hg, ho⟩ := h
  have hls : lastR nr kn' nS S' = lastS (kn' + nr) S := lastR_eq (fun i hi => (hnew i hi).1) (fun r hr => (hrow r hr).1)
  by_cases hno : sh' = true ∨ fc' = 0 ∨ nI 1000000000 < v ∨ ¬ nI (lastS (kn' + nr) S) ≤ v
  · refine ⟨(fc', mv', kn', sh', rp', bad', F, z 0, g, z 1, g2, kn' + nr, S, Ln, Z, K), (kn', mv', ng, nr, fc', sh', rp', bad', 0, sr, sb, at9, B, z, S', L', K', gr, gb, nS, nL, nK, F'), (-1), c_X3_row_none l D cB cI cZ cJ _ _ _ _ _ _ _ _ _ _ _ fc' mv' kn' sh' rp' bad' F (z 0) g (z 1) g2 (kn' + nr) S Ln Z K v hfc hc hno, c_X4_row_none l D cB cI cZ cJ _ _ _ _ _ _ _ _ _ _ _ _ kn' mv' ng nr fc' sh' rp' bad' th sr sb at9 B z S' L' K' gr gb nS nL nK F' v hfc hnr (by omega) ?_, ⟨rfl, hfc, hF⟩, ⟨rfl, rfl, hmk, rfl, hnr, hc, rfl, rfl, rfl⟩, ⟨rfl, rfl, hn, hn2, hB0, hB1⟩, hrow, hnew, hlen, hg, ho⟩
    rw [hls]
    rcases hno with q | q | q | q
    · exact Or.inl q
    · exact Or.inr (Or.inl q)
    · exact Or.inr (Or.inr (Or.inr (Or.inl q)))
    · exact Or.inr (Or.inr (Or.inr (Or.inr q)))
  · have hs : sh' = false := Bool.eq_false_iff.mpr (fun q => hno (Or.inl q))
    subst hs
    have hf0 : 0 < fc' := Nat.pos_of_ne_zero (fun q => hno (Or.inr (Or.inl q)))
    have hv1 : v ≤ nI 1000000000 := Int32.not_lt.mp (fun q => hno (Or.inr (Or.inr (Or.inl q))))
    have hv2 : nI (lastS (kn' + nr) S) ≤ v := Classical.not_not.mp (fun q => hno (Or.inr (Or.inr (Or.inr q))))
    have hl0 : lastS (kn' + nr) S ≤ 1000000000 := by
      unfold lastS
      split
      · omega
      · exact (hlen _ (by omega)).2.1
    obtain ⟨s0, hs0, rfl⟩ := nI_of2 (M := nI 1000000000) (n := 1000000000) (nI_toInt (by omega)) (Int32.not_lt.mpr (Int32.le_trans (nI_pos' (by omega)) hv2)) hv1
    have hs1 : lastS (kn' + nr) S ≤ s0 := (nI_leI (by omega) (by omega)).mp hv2
    by_cases hfu : 16 ≤ nr ∨ 600 ≤ kn' + nr
    · exact ⟨(fc', mv', kn', false, rp', bad', F, z 0, g, z 1, g2, kn' + nr, S, Ln, Z, K), (kn', mv', ng, nr, fc', false, rp', bad', 0, sr, sb, at9, B, z, S', L', K', gr, gb, nS, nL, nK, F'), (-2), c_X3_row_full l D cB cI cZ cJ _ _ _ _ _ _ _ _ _ _ _ fc' mv' kn' false rp' bad' F (z 0) g (z 1) g2 (kn' + nr) S Ln Z K s0 hc (by omega) hf0 hfc hs1 hs0 (by omega), c_X4_row_full l D cB cI cZ cJ _ _ _ _ _ _ _ _ _ _ _ _ kn' mv' ng nr fc' false rp' bad' th sr sb at9 B z S' L' K' gr gb nS nL nK F' s0 hnr hc hf0 hfc (by rw [hls]; exact hs1) hs0 hfu, ⟨rfl, hfc, hF⟩, ⟨rfl, rfl, hmk, rfl, hnr, hc, rfl, rfl, rfl⟩, ⟨rfl, rfl, hn, hn2, hB0, hB1⟩, hrow, hnew, hlen, hg, ho⟩
    · have h16 : nr < 16 := by omega
      have h600 : kn' + nr < 600 := by omega
      have hC := c_X3_row_ok l D cB cI cZ cJ (am 0) (am 1) (am 2) (am 3) (am 4) (am 5) (am 6) (am 7) (am 8) (am 9) (am 10) fc' mv' kn' false rp' bad' F (z 0) g (z 1) g2 (kn' + nr) S Ln Z K s0 (by omega) hf0 hfc hs1 hs0 (by omega) h600
      rw [show kn' + nr - kn' = nr by omega] at hC
      refine ⟨(0, mv', kn', false, rp', bad', F, z 0, g, z 1, g2, kn' + nr + 1, va_up S (kn' + nr) s0, va_up Ln (kn' + nr) fc', va_up Z (kn' + nr) false, app K ((kn' + nr) * 64) (conL F 0 fc')), (kn', mv', ng, nr + 1, 0, false, rp', bad', 0, sr, sb, at9, B, z, S', L', K', gr, gb, va_up nS nr s0, va_up nL nr fc', app nK (nr * 64) (conL F' 0 fc'), F'), nI nr, hC, c_X4_row_ok l D cB cI cZ cJ _ _ _ _ _ _ _ _ _ _ _ _ kn' mv' ng nr fc' false rp' bad' th sr sb at9 B z S' L' K' gr gb nS nL nK F' s0 hnr hc hf0 hfc (by rw [hls]; exact hs1) hs0 h16 h600, ⟨rfl, by omega, fun j hj => absurd hj (Nat.not_lt_zero j)⟩, ⟨rfl, rfl, hmk, rfl, by omega, by omega, rfl, rfl, rfl⟩, ⟨rfl, rfl, hn, hn2, hB0, hB1⟩, fun r hr => ?_, fun i hi => ?_, fun r hr => ?_, Grp_congr (fun r hr => va_up_ne _ _ (by omega)) (fun r hr => va_up_ne _ _ (by omega)) hg, ho⟩
      · obtain ⟨a1, a2, a3⟩ := hrow r hr
        have a4 := (hlen r (by omega)).1
        rw [va_up_ne _ _ (by omega), va_up_ne _ _ (by omega)]
        exact ⟨a1, a2, fun j hj => by rw [app_lo _ _ _ _ (by omega)]; exact a3 j hj⟩
      · by_cases e : i = nr
        · subst e
          rw [va_up_self, va_up_self, va_up_self, va_up_self, va_up_self]
          refine ⟨rfl, rfl, rfl, fun j hj => ?_⟩
          rw [app_at _ _ _ _ _ _ hj, app_at _ _ _ _ _ _ hj, Nat.zero_add]
          exact hF j hj
        · obtain ⟨a1, a2, a3, a4⟩ := hnew i (by omega)
          have a5 := (hlen (kn' + i) (by omega)).1
          rw [va_up_ne _ _ e, va_up_ne _ _ e, va_up_ne _ _ (by omega), va_up_ne _ _ (by omega), va_up_ne _ _ (by omega)]
          refine ⟨a1, a2, a3, fun j hj => ?_⟩
          rw [app_lo _ _ _ _ (by omega), app_lo _ _ _ _ (by omega)]
          exact a4 j hj
      · by_cases e : r = kn' + nr
        · subst e
          rw [va_up_self, va_up_self]
          refine ⟨hfc, hs0, fun q hq => ?_⟩
          by_cases e2 : q = kn' + nr
          · subst e2
            rw [va_up_self]
            exact Nat.le_refl _
          · rw [va_up_ne _ _ e2]
            have h1 := (hlen (kn' + nr - 1) (by omega)).2.2 q (by omega)
            have h2 : lastS (kn' + nr) S = S (kn' + nr - 1) := if_neg (by omega)
            omega
        · obtain ⟨a1, a2, a3⟩ := hlen r (by omega)
          rw [va_up_ne _ _ e, va_up_ne _ _ e]
          refine ⟨a1, a2, fun q hq => ?_⟩
          rw [va_up_ne _ _ (by omega)]
          exact a3 q hq
end OPS
