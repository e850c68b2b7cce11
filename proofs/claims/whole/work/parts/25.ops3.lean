/-- a group whose last row is of a later month: nothing of it goes -/
theorem eog_stop {S : Nat → Nat} {Z : Nat → Bool} {mo : Int32} : ∀ (m q e k : Nat), 0 < m → m ≤ k → (∀ j, j + 1 < m → Z (q + j) = false) → mo < nI (S (q + m - 1) / 2592000) → eog S Z mo k q e = e
  | 0, _, _, _, h, _, _, _ => absurd h (by omega)
  | m + 1, q, e, 0, _, hk, _, _ => absurd hk (by omega)
  | m + 1, q, e, k + 1, _, hk, hz, hm => by
    rw [eog_s]
    by_cases y : mo < nI (S q / 2592000)
    · rw [if_pos y]
    · rw [if_neg y]
      rcases Nat.eq_zero_or_pos m with a | a
      · subst a
        rw [show q + (0 + 1) - 1 = q by omega] at hm
        exact absurd hm y
      · have h0 := hz 0 (by omega)
        rw [Nat.add_zero] at h0
        rw [h0, if_neg (by decide)]
        exact eog_stop m (q + 1) e k a (by omega) (fun j hj => by rw [show q + 1 + j = q + (j + 1) by omega]; exact hz (j + 1) (by omega)) (by rw [show q + 1 + m - 1 = q + (m + 1) - 1 by omega]; exact hm)
/-- a group of months up to this one goes -/
theorem eog_pass {S : Nat → Nat} {Z : Nat → Bool} {mo : Int32} : ∀ (m q e k : Nat), 0 < m → (∀ j, j < m → (Z (q + j) = true ↔ j + 1 = m)) → (∀ j, j < m → ¬ mo < nI (S (q + j) / 2592000)) → eog S Z mo (m + k) q e = eog S Z mo k (q + m) (q + m)
  | 0, _, _, _, h, _, _ => absurd h (by omega)
  | m + 1, q, e, k, _, hz, hm => by
    have h0 := hm 0 (by omega)
    rw [Nat.add_zero] at h0
    rw [show m + 1 + k = (m + k) + 1 by omega, eog_s, if_neg h0]
    have hz0 := hz 0 (by omega)
    rw [Nat.add_zero] at hz0
    rcases Nat.eq_zero_or_pos m with a | a
    · subst a
      rw [hz0.mpr rfl, if_pos rfl, Nat.zero_add]
    · have hf : Z q = false := Bool.eq_false_iff.mpr (fun y => by have := hz0.mp y; omega)
      rw [hf, if_neg (by decide), eog_pass m (q + 1) e k a (fun j hj => by
        have := hz (j + 1) (by omega)
        rw [show q + (j + 1) = q + 1 + j by omega] at this
        rw [this]
        omega) (fun j hj => by
        have := hm (j + 1) (by omega)
        rw [show q + (j + 1) = q + 1 + j by omega] at this
        exact this), show q + 1 + m = q + (m + 1) by omega]
theorem mon_le {mo : Int32} {a b : Nat} (h : a ≤ b) (hb : b ≤ 1000000000) (hm : ¬ mo < nI (b / 2592000)) : ¬ mo < nI (a / 2592000) := by
  intro q
  apply hm
  have h1 : a / 2592000 ≤ b / 2592000 := Nat.div_le_div_right h
  exact Int32.lt_of_lt_of_le q (nI_le h1 (by omega))
/-- the groups that go: by rows on one side, by groups on the other -/
theorem mv_eq {S S' Ln gr gb : Nat → Nat} {Z : Nat → Bool} {ng mv kn : Nat} (mo : Int32) (hg : Grp Z Ln gr gb ng mv kn) (hS : ∀ r, r < kn → S' r = S r) (hs : ∀ r, r < kn → S r ≤ 1000000000 ∧ ∀ q, q ≤ r → S q ≤ S r) : ∀ (f g : Nat), g + f = ng → ∃ g', g ≤ g' ∧ g' ≤ ng ∧ mvL S' gr gb mo f g (smN gb g) (mv + smN gr g) = (g', smN gb g', mv + smN gr g') ∧ eog S Z mo (kn - (mv + smN gr g)) (mv + smN gr g) (mv + smN gr g) = mv + smN gr g'
  | 0, g, h => by
    have e : g = ng := by omega
    subst e
    refine ⟨g, Nat.le_refl _, Nat.le_refl _, rfl, ?_⟩
    rw [hg.1, Nat.sub_self]
    rfl
  | f + 1, g, h => by
    obtain ⟨a1, a2, a3⟩ := hg.2 g (by omega)
    have hle := smN_le gr (show g + 1 ≤ ng by omega)
    rw [smN_s] at hle
    have hk := hg.1
    rw [mvL_s, hS _ (by omega)]
    by_cases y : mo < nI (S (mv + smN gr g + gr g - 1) / 2592000)
    · rw [if_pos y]
      refine ⟨g, Nat.le_refl _, by omega, rfl, ?_⟩
      exact eog_stop (gr g) _ _ _ a1 (by omega) (fun j hj => Bool.eq_false_iff.mpr (fun q => by have := (a3 j (by omega)).mp q; omega)) y
    · rw [if_neg y]
      obtain ⟨g', b1, b2, b3, b4⟩ := mv_eq mo hg hS hs f (g + 1) (by omega)
      rw [smN_s, smN_s] at b3
      rw [smN_s] at b4
      refine ⟨g', by omega, b2, by rw [← b3, Nat.add_assoc], ?_⟩
      obtain ⟨c1, c2⟩ := hs (mv + smN gr g + gr g - 1) (by omega)
      rw [show kn - (mv + smN gr g) = gr g + (kn - (mv + (smN gr g + gr g))) by omega, eog_pass (gr g) _ _ _ a1 a3 (fun j hj => mon_le (c2 _ (by omega)) c1 y), show mv + smN gr g + gr g = mv + (smN gr g + gr g) by omega]
      exact b4
theorem bsz_app (Ln : Nat → Nat) (Z : Nat → Bool) : ∀ (a b p s : Nat), bsz Ln Z p (a + b) s = bsz Ln Z (p + a) b (bsz Ln Z p a s)
  | 0, b, p, s => by rw [Nat.zero_add]; rfl
  | a + 1, b, p, s => by
    rw [show a + 1 + b = (a + b) + 1 by omega, bsz_s, bsz_s, bsz_app Ln Z a b (p + 1), show p + 1 + a = p + (a + 1) by omega]
theorem bsz_grp (Ln : Nat → Nat) (Z : Nat → Bool) : ∀ (m p s : Nat), 0 < m → (∀ j, j < m → (Z (p + j) = true ↔ j + 1 = m)) → bsz Ln Z p m s = s + (rsz Ln p m + 6)
  | 0, _, _, h, _ => absurd h (by omega)
  | m + 1, p, s, _, hz => by
    have hz0 := hz 0 (by omega)
    rw [Nat.add_zero] at hz0
    rw [bsz_s, rsz_s]
    rcases Nat.eq_zero_or_pos m with a | a
    · subst a
      rw [hz0.mpr rfl, if_pos rfl]
      show s + (Ln p + 11 + 6) = s + (Ln p + 11 + 0 + 6)
      omega
    · have hf : Z p = false := Bool.eq_false_iff.mpr (fun y => by have := hz0.mp y; omega)
      rw [hf, if_neg (by decide), bsz_grp Ln Z m (p + 1) _ a (fun j hj => by
        have := hz (j + 1) (by omega)
        rw [show p + (j + 1) = p + 1 + j by omega] at this
        rw [this]
        omega)]
      omega
theorem bsz_all {Z : Nat → Bool} {Ln gr gb : Nat → Nat} {ng mv kn : Nat} (hg : Grp Z Ln gr gb ng mv kn) : ∀ g, g ≤ ng → bsz Ln Z mv (smN gr g) 0 = smN gb g
  | 0, _ => rfl
  | g + 1, h => by
    obtain ⟨a1, a2, a3⟩ := hg.2 g (by omega)
    rw [smN_s, smN_s, bsz_app, bsz_all hg g (by omega), bsz_grp Ln Z (gr g) _ _ a1 a3, a2]
theorem shB_at (f cut : Nat) : ∀ (k i : Nat) (B : Nat → UInt8) (j : Nat), cut ≤ i → shB f cut k i B j = if f * 8192 + i - cut ≤ j ∧ j < f * 8192 + i - cut + k then B (j + cut) else B j
  | 0, i, B, j, _ => by rw [if_neg (by omega)]; rfl
  | k + 1, i, B, j, h => by
    rw [shB_s, shB_at f cut k (i + 1) _ j (by omega)]
    by_cases y : f * 8192 + (i + 1) - cut ≤ j ∧ j < f * 8192 + (i + 1) - cut + k
    · rw [if_pos y, if_pos (by omega)]
      by_cases e : j + cut = f * 8192 + i - cut
      · exact absurd e (by omega)
      · rw [va_up_ne _ _ e]
    · rw [if_neg y]
      by_cases e : j = f * 8192 + i - cut
      · subst e
        rw [va_up_self, if_pos (by omega), show f * 8192 + i - cut + cut = f * 8192 + i by omega]
      · rw [va_up_ne _ _ e, if_neg (by omega)]
theorem shN_at (d : Nat) : ∀ (k i : Nat) (f : Nat → Nat) (j : Nat), d ≤ i → shN d k i f j = if i - d ≤ j ∧ j < i - d + k then f (j + d) else f j
  | 0, i, f, j, _ => by rw [if_neg (by omega)]; rfl
  | k + 1, i, f, j, h => by
    rw [shN_s, shN_at d k (i + 1) _ j (by omega)]
    by_cases y : i + 1 - d ≤ j ∧ j < i + 1 - d + k
    · rw [if_pos y, if_pos (by omega)]
      by_cases e : j + d = i - d
      · exact absurd e (by omega)
      · rw [va_up_ne _ _ e]
    · rw [if_neg y]
      by_cases e : j = i - d
      · subst e
        rw [va_up_self, if_pos (by omega), show i - d + d = i by omega]
      · rw [va_up_ne _ _ e, if_neg (by omega)]
theorem smN_sh {f f' : Nat → Nat} {d : Nat} : ∀ (k : Nat), (∀ i, i < k → f' i = f (i + d)) → smN f d + smN f' k = smN f (d + k)
  | 0, _ => rfl
  | k + 1, h => by
    rw [smN_s, ← Nat.add_assoc, smN_sh k (fun i hi => h i (by omega)), h k (by omega), show d + (k + 1) = (d + k) + 1 by omega, smN_s, Nat.add_comm k d]
/-- the first groups go -/
theorem Grp_drop {Z : Nat → Bool} {Ln gr gb gr' gb' : Nat → Nat} {ng mv kn d : Nat} (hg : Grp Z Ln gr gb ng mv kn) (hd : d ≤ ng) (h1 : ∀ i, i < ng - d → gr' i = gr (i + d)) (h2 : ∀ i, i < ng - d → gb' i = gb (i + d)) : Grp Z Ln gr' gb' (ng - d) (mv + smN gr d) kn := by
  refine ⟨?_, fun i hi => ?_⟩
  · have h3 := smN_sh (f := gr) (f' := gr') (d := d) (ng - d) h1
    rw [show d + (ng - d) = ng by omega] at h3
    have := hg.1
    omega
  · have h3 := smN_sh (f := gr) (f' := gr') (d := d) i (fun j hj => h1 j (by omega))
    obtain ⟨a1, a2, a3⟩ := hg.2 (i + d) (by omega)
    rw [h1 i hi, h2 i hi, Nat.add_assoc, h3, Nat.add_comm d i]
    exact ⟨a1, a2, a3⟩
section OPS
variable {l : Launch} {D : va_G} {cB cI cZ cJ : ClassId} {am ar : Nat → Nat} {x : CS} {y : RS}
set_option maxHeartbeats 1000000 in
theorem op_move (mo : Int32) (h : Rel x y) : Op2 Rel l D cB cI cZ cJ am ar yX3_move wsX3_move rmX3_move yX4_move wsX4_move rmX4_move [.int mo] x y := by
  obtain ⟨fc, mv, kn, sh, rp, bad, F, n, g, n2, g2, c, S, Ln, Z, K⟩ := x
  obtain ⟨kn', mv', ng, nr, fc', sh', rp', bad', th, sr, sb, at9, B, z, S', L', K', gr, gb, nS, nL, nK, F'⟩ := y
  obtain ⟨⟨rfl, hfc, hF⟩, ⟨rfl, rfl, hmk, rfl, hnr, hc, rfl, rfl, rfl⟩, ⟨rfl, rfl, hn, hn2, hB0, hB1⟩, hrow, hnew, hlen, hg, ho⟩ := h
  have hag := agr_arS hB0 hB1 (p := 0) (k := z 0 - 0) (by omega)
  by_cases hno : sh' = true ∨ 0 < nr ∨ ¬ z 0 = z 1 ∨ arS B z 0 (z 0 - 0) = false
  · refine ⟨(fc', mv', kn', sh', rp', bad', F, z 0, g, z 1, g2, kn' + nr, S, Ln, Z, K), (kn', mv', ng, nr, fc', sh', rp', bad', 0, sr, sb, at9, B, z, S', L', K', gr, gb, nS, nL, nK, F'), nI 0, c_X3_move_no1 l D cB cI cZ cJ _ _ _ _ _ _ _ _ _ _ _ fc' mv' kn' sh' rp' bad' F (z 0) g (z 1) g2 (kn' + nr) S Ln Z K mo hn hn2 hc (by omega) ?_, c_X4_move_no l D cB cI cZ cJ _ _ _ _ _ _ _ _ _ _ _ _ kn' mv' ng nr fc' sh' rp' bad' th sr sb at9 B z S' L' K' gr gb nS nL nK F' mo hnr hn hn2 hno, ⟨rfl, hfc, hF⟩, ⟨rfl, rfl, hmk, rfl, hnr, hc, rfl, rfl, rfl⟩, ⟨rfl, rfl, hn, hn2, hB0, hB1⟩, hrow, hnew, hlen, hg, ho⟩
    rcases hno with q | q | q | q
    · exact Or.inl q
    · exact Or.inr (Or.inl (by omega))
    · exact Or.inr (Or.inr (by unfold sameB; rw [if_neg q]))
    · refine Or.inr (Or.inr ?_)
      unfold sameB
      rw [hag, q]
      split <;> rfl
  · have hs : sh' = false := Bool.eq_false_iff.mpr (fun q => hno (Or.inl q))
    subst hs
    have hn0 : nr = 0 := Nat.eq_zero_of_not_pos (fun q => hno (Or.inr (Or.inl q)))
    subst hn0
    have hzz : z 0 = z 1 := Classical.not_not.mp (fun q => hno (Or.inr (Or.inr (Or.inl q))))
    have has : arS B z 0 (z 0 - 0) = true := by
      cases e : arS B z 0 (z 0 - 0) with
      | true => rfl
      | false => exact absurd (Or.inr (Or.inr (Or.inr e))) hno
    have hsm : sameB (z 0) g (z 1) g2 = true := by
      unfold sameB
      rw [if_pos hzz, hag, has]
    obtain ⟨-, hsz⟩ := ho rfl
    have hg1 := hg.1
    have hng : ng ≤ smN gr ng := smN_ge ng (fun i hi => (hg.2 i hi).1)
    obtain ⟨g9, b1, b2, b3, b4⟩ := mv_eq mo hg (fun r hr => (hrow r hr).1) (fun r hr => (hlen r (by omega)).2) ng 0 (by omega)
    have b3 : mvL S' gr gb mo ng 0 0 mv' = (g9, smN gb g9, mv' + smN gr g9) := b3
    have b4 : eog S Z mo (kn' - mv') mv' mv' = mv' + smN gr g9 := b4
    have hb : bsz Ln Z mv' (eog S Z mo (kn' - mv') mv' mv' - mv') 0 = smN gb g9 := by
      rw [b4, Nat.add_sub_cancel_left]
      exact bsz_all hg g9 b2
    have hcle := smN_le gb b2
    have hrle := smN_le gr b2
    by_cases h9 : g9 = 0
    · subst h9
      exact ⟨(fc', mv', kn', false, rp', bad', F, z 0, g, z 1, g2, kn' + 0, S, Ln, Z, K), (kn', mv', ng, 0, fc', false, rp', bad', 0, sr, sb, at9, B, z, S', L', K', gr, gb, nS, nL, nK, F'), nI 0, c_X3_move_no2 l D cB cI cZ cJ _ _ _ _ _ _ _ _ _ _ _ fc' mv' kn' false rp' bad' F (z 0) g (z 1) g2 (kn' + 0) S Ln Z K mo hn hn2 hc hmk (fun r hr => (hlen r hr).2.1) rfl hsm b4, c_X4_move_none l D cB cI cZ cJ _ _ _ _ _ _ _ _ _ _ _ _ kn' mv' ng 0 fc' false rp' bad' th sr sb at9 B z S' L' K' gr gb nS nL nK F' mo (by omega) hn hn2 rfl hzz has (by omega) (fun i hi => (hg.2 i hi).1) (by omega) (fun r hr => by rw [(hrow r hr).1]; exact (hlen r (by omega)).2.1) (by rw [b3]), ⟨rfl, hfc, hF⟩, ⟨rfl, rfl, hmk, rfl, hnr, hc, rfl, rfl, rfl⟩, ⟨rfl, rfl, hn, hn2, hB0, hB1⟩, hrow, hnew, hlen, hg, ho⟩
    · have hpos : 0 < smN gr g9 := by
        have := smN_ge g9 (fun i hi => (hg.2 i (by omega)).1)
        omega
      have hC := c_X3_move_ok l D cB cI cZ cJ (am 0) (am 1) (am 2) (am 3) (am 4) (am 5) (am 6) (am 7) (am 8) (am 9) (am 10) fc' mv' kn' false rp' bad' F (z 0) g (z 1) g2 (kn' + 0) S Ln Z K mo hn hn2 hc hmk (fun r hr => (hlen r hr).2.1) rfl hsm (by rw [b4]; omega) (by rw [b4]; omega) (by rw [b4]; omega) (by rw [hb]; omega) (by rw [hb]; omega)
      rw [hb, b4] at hC
      have hR := c_X4_move_ok l D cB cI cZ cJ (ar 0) (ar 1) (ar 2) (ar 3) (ar 4) (ar 5) (ar 6) (ar 7) (ar 8) (ar 9) (ar 10) (ar 11) kn' mv' ng 0 fc' false rp' bad' th sr sb at9 B z S' L' K' gr gb nS nL nK F' mo (by omega) hn hn2 rfl hzz has (by omega) (fun i hi => (hg.2 i hi).1) (by omega) (fun r hr => by rw [(hrow r hr).1]; exact (hlen r (by omega)).2.1) (by rw [b3]; exact Nat.pos_of_ne_zero h9) (by rw [b3]; exact b2) (by rw [b3]; show smN gb g9 ≤ z 0; omega) (by rw [b3]; show smN gb g9 ≤ z 1; omega) (by rw [b3]; show mv' + smN gr g9 ≤ 600; omega)
      rw [b3] at hR
      have s1 : ∀ i, i < ng - g9 → shN g9 (ng - g9) g9 gr i = gr (i + g9) := fun i hi => by rw [shN_at _ _ _ _ _ (Nat.le_refl _), if_pos (by omega)]
      have s2 : ∀ i, i < ng - g9 → shN g9 (ng - g9) g9 gb i = gb (i + g9) := fun i hi => by rw [shN_at _ _ _ _ _ (Nat.le_refl _), if_pos (by omega)]
      refine ⟨(fc', mv' + smN gr g9, kn', false, rp', bad', F, z 0 - smN gb g9, va_cpy g g (smN gb g9) 0 (z 0 - smN gb g9), z 1 - smN gb g9, va_cpy g2 g2 (smN gb g9) 0 (z 1 - smN gb g9), kn' + 0, S, Ln, Z, K), (kn', mv' + smN gr g9, ng - g9, 0, fc', false, rp', bad', 0, sr, sb, at9, shB 1 (smN gb g9) (z 1 - smN gb g9) (smN gb g9) (shB 0 (smN gb g9) (z 0 - smN gb g9) (smN gb g9) B), va_up (va_up z 0 (z 0 - smN gb g9)) 1 (z 1 - smN gb g9), S', L', K', shN g9 (ng - g9) g9 gr, shN g9 (ng - g9) g9 gb, nS, nL, nK, F'), nI 1, hC, hR, ⟨rfl, hfc, hF⟩, ⟨rfl, rfl, by omega, rfl, hnr, hc, rfl, rfl, rfl⟩, ⟨?_, ?_, by omega, by omega, fun j hj => ?_, fun j hj => ?_⟩, hrow, hnew, hlen, Grp_drop hg b2 s1 s2, fun _ => ⟨by omega, ?_⟩⟩
      · rw [va_up_ne _ _ (by decide), va_up_self]
      · rw [va_up_self]
      · rw [shB_at _ _ _ _ _ _ (Nat.le_refl _), if_neg (by omega), shB_at _ _ _ _ _ _ (Nat.le_refl _), if_pos (by omega), hB0 _ (by omega)]
        unfold va_cpy
        rw [if_pos (by omega)]
        congr 1
        omega
      · rw [shB_at _ _ _ _ _ _ (Nat.le_refl _), if_pos (by omega), shB_at _ _ _ _ _ _ (Nat.le_refl _), if_neg (by omega), show 8192 + j + smN gb g9 = 8192 + (j + smN gb g9) by omega, hB1 _ (by omega)]
        unfold va_cpy
        rw [if_pos (by omega)]
        congr 1
        omega
      · have h3 := smN_sh (f := gb) (f' := shN g9 (ng - g9) g9 gb) (d := g9) (ng - g9) s2
        rw [show g9 + (ng - g9) = ng by omega] at h3
        omega
end OPS
