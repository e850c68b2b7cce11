theorem itG_congr (f : Int32 → UInt8 → Int32) {g g' : Nat → UInt8} : ∀ (k p : Nat) (s : Int32), (∀ i, i < k → g (p + i) = g' (p + i)) → itG f g p k s = itG f g' p k s
  | 0, _, _, _ => rfl
  | k + 1, p, s, h => by
    have h0 := h 0 (by omega)
    rw [Nat.add_zero] at h0
    rw [itG_s, itG_s, h0]
    exact itG_congr f k (p + 1) _ (fun i hi => by rw [show p + 1 + i = p + (i + 1) by omega]; exact h (i + 1) (by omega))
theorem smG_congr {g g' : Nat → UInt8} {k p : Nat} {s : Int32} (h : ∀ i, i < k → g (p + i) = g' (p + i)) : smG g p k s = smG g' p k s := itG_congr sm k p s h
theorem beG_congr {g g' : Nat → UInt8} : ∀ (k p : Nat) (v : Int32), (∀ i, i < k → g (p + i) = g' (p + i)) → beG g p k v = beG g' p k v
  | 0, _, _, _ => rfl
  | k + 1, p, v, h => by
    have h0 := h 0 (by omega)
    rw [Nat.add_zero] at h0
    rw [beG_s, beG_s, h0]
    exact beG_congr k (p + 1) _ (fun i hi => by rw [show p + 1 + i = p + (i + 1) by omega]; exact h (i + 1) (by omega))
theorem RowR_congr {n : Nat} {g g' : Nat → UInt8} {p m k : Nat} {sb : Int32} (hp : p < n) (h : ∀ j, j < n → g j = g' j) : RowR n g p m k sb → RowR n g' p m k sb := by
  rintro ⟨a1, a2, a3, a4, a5, a6, a7⟩
  have e := h p hp
  rw [e] at a1 a2 a4 a5
  refine ⟨a1, a2, a3, ?_, ?_, ?_, ?_⟩
  · rw [← smG_congr (g := g) (fun i hi => h _ (by omega)), ← beG_congr (g := g) 4 _ _ (fun i hi => h _ (by omega))]
    exact a4
  · rw [← beG_congr (g := g) 2 _ _ (fun i hi => h _ (by omega))]
    exact a5
  · rw [← beG_congr (g := g) 4 _ _ (fun i hi => h _ (by omega))]
    exact a6
  · rw [← beG_congr (g := g) 4 _ _ (fun i hi => h _ (by omega))]
    exact a7
theorem scanR_congr {n : Nat} {g g' : Nat → UInt8} (base : Nat) (h : ∀ j, j < n → g j = g' j) : ∀ (f p k : Nat) (sb sum : Int32), scanR n g base f p k sb sum = scanR n g' base f p k sb sum
  | 0, _, _, _, _ => rfl
  | f + 1, p, k, sb, sum => by
    rw [scanR_s, scanR_s]
    by_cases z : p < n ∧ ¬ (g p).toNat = 0
    · have e := h p z.1
      rw [if_pos z, if_pos (show p < n ∧ ¬ (g' p).toNat = 0 by rw [← e]; exact z)]
      by_cases y : RowR n g p (base + k) k sb
      · obtain ⟨a1, a2, -⟩ := id y
        rw [if_pos y, if_pos (RowR_congr z.1 h y), scanR_congr base h f, ← e, smG_congr (g := g) (g' := g') (fun i hi => h _ (by omega)), beG_congr (g := g) (g' := g') 4 _ _ (fun i hi => h _ (by omega))]
      · rw [if_neg y, if_neg (fun q => y (RowR_congr z.1 (fun j hj => (h j hj).symm) q))]
    · rw [if_neg z, if_neg (fun q => z ⟨q.1, by rw [h p q.1]; exact q.2⟩)]
theorem EndR_congr {n : Nat} {g g' : Nat → UInt8} {base p k : Nat} {sum : Int32} (h : ∀ j, j < n → g j = g' j) : EndR n g base p k sum → EndR n g' base p k sum := by
  rintro ⟨a1, a2, a3, a4, a5⟩
  refine ⟨a1, a2, ?_, ?_, a5⟩
  · rw [← h _ (by omega)]; exact a3
  · rw [← smG_congr (g := g) (fun i hi => h _ (by omega)), ← beG_congr (g := g) 4 _ _ (fun i hi => h _ (by omega))]
    exact a4
theorem goodR_congr {n : Nat} {g g' : Nat → UInt8} {base p : Nat} {sb : Int32} (h : ∀ j, j < n → g j = g' j) : goodR n g base sb p = goodR n g' base sb p := by
  unfold goodR
  rw [scanR_congr base h]
  cases scanR n g' base 17 p 0 sb (nI 0) with
  | none => rfl
  | some o =>
    obtain ⟨p', k', s'⟩ := o
    rw [goodE_s, goodE_s]
    by_cases y : EndR n g base p' k' s'
    · rw [if_pos y, if_pos (EndR_congr h y)]
    · rw [if_neg y, if_neg (fun q => y (EndR_congr (fun j hj => (h j hj).symm) q))]
theorem goodR_out {n : Nat} {g : Nat → UInt8} {base p : Nat} {sb : Int32} (h : ¬ p < n) : goodR n g base sb p = none := by
  unfold goodR
  rw [scanR_s, if_neg (fun q => h q.1), goodE_s, if_neg (fun q => q.1 rfl)]
/-- the class's longer file tests as the reference's -/
theorem good_max {z0 : Nat} {g g' : Nat → UInt8} {base p : Nat} {sb : Int32} (h : ∀ j, j < max z0 p → g' j = g j) : goodR (max z0 p) g base sb p = goodR z0 g' base sb p := by
  by_cases y : p ≤ z0
  · rw [show max z0 p = z0 by omega]
    exact goodR_congr (fun j hj => (h j (by omega)).symm)
  · rw [goodR_out (by omega), goodR_out (by omega)]
/-- seconds that don't fall -/
def Ch (g : Nat → UInt8) : Nat → Nat → Nat → Prop
  | _, 0, _ => True
  | p, k + 1, s => s ≤ secN g p ∧ Ch g (p + ((g p).toNat + 11)) k (secN g p)
theorem scan_chain (n : Nat) (g : Nat → UInt8) (base : Nat) : ∀ (f p k s0 : Nat) (p' k' : Nat), s0 ≤ 1000000000 → scan n g base f p k (nI s0) = some (p', k') → k ≤ k' ∧ Ch g p (k' - k) s0
  | 0, p, k, s0, p', k', _, h => by
    have h : some (p, k) = some (p', k') := h
    cases h
    rw [Nat.sub_self]
    exact ⟨Nat.le_refl _, trivial⟩
  | f + 1, p, k, s0, p', k', hs, h => by
    rw [scan_s] at h
    by_cases z : p < n ∧ 0 < (g p).toNat
    · rw [if_pos z] at h
      by_cases y : RowOk n g p (base + k) (nI s0)
      · rw [if_pos y] at h
        obtain ⟨y1, y2, y3, y4, y5, y6, -, -⟩ := y
        obtain ⟨e1, e2, e3⟩ := sec_nat hs y5 y6
        rw [e1] at h
        obtain ⟨a1, a2⟩ := scan_chain n g base f _ _ _ p' k' e2 h
        refine ⟨by omega, ?_⟩
        rw [show k' - k = (k' - (k + 1)) + 1 by omega]
        exact ⟨e3, a2⟩
      · rw [if_neg y] at h
        cases h
    · rw [if_neg z] at h
      cases h
      rw [Nat.sub_self]
      exact ⟨Nat.le_refl _, trivial⟩
theorem good_chain {n : Nat} {g : Nat → UInt8} {base s0 p p1 k1 : Nat} (hb : base ≤ 600) (hs : s0 ≤ 1000000000) (h : goodR n g base (nI s0) p = some (p1, k1)) : Ch g p k1 s0 := by
  have e : endG n g base (nI s0) p = some (p1 + 6) := by rw [end_good hb, h]; rfl
  have hk := goodR_k h
  unfold endG at e
  cases hsc : scan n g base 16 p 0 (nI s0) with
  | none => rw [hsc] at e; cases e
  | some pk =>
    obtain ⟨p', k'⟩ := pk
    rw [hsc] at e
    have e : (if 0 < k' ∧ EndOk n g p' k' then some (p' + 6) else none) = some (p1 + 6) := e
    by_cases z : 0 < k' ∧ EndOk n g p' k'
    · rw [if_pos z] at e
      have e1 : p' = p1 := by have := Option.some.inj e; omega
      have e2 : k' = k1 := by rw [← hk, ← e1]; exact z.2.2.2.1.symm
      obtain ⟨-, a2⟩ := scan_chain n g base 16 p 0 s0 p' k' hs hsc
      rw [Nat.sub_zero, e2] at a2
      exact a2
    · rw [if_neg z] at e
      cases e
theorem secN_congr {g g' : Nat → UInt8} {p : Nat} (h : ∀ i, i < 4 → g (p + 1 + i) = g' (p + 1 + i)) : secN g p = secN g' p := by
  unfold secN
  rw [beG_congr 4 (p + 1) (nI 0) h]
theorem rdS_congr {n : Nat} {g g' : Nat → UInt8} (h : ∀ j, j < n → g' j = g j) : ∀ (k p c : Nat) (S S' : Nat → Nat), GR n g p k → (∀ r, r < c → S' r = S r) → ∀ r, r < c + k → rdS g' k p c S' r = rdS g k p c S r
  | 0, _, _, _, _, _, hS, r, hr => hS r hr
  | k + 1, p, c, S, S', hg, hS, r, hr => by
    obtain ⟨ga, gb, gc, -, -, gf⟩ := hg
    show rdS g' k (p + ((g' p).toNat + 11)) (c + 1) (va_up S' c (secN g' p)) r = rdS g k (p + ((g p).toNat + 11)) (c + 1) (va_up S c (secN g p)) r
    rw [h p (by omega), secN_congr (g := g') (g' := g) (fun i hi => h _ (by omega))]
    apply rdS_congr h k _ (c + 1) _ _ gf _ r (by omega)
    intro q hq
    by_cases e : q = c
    · subst e; rw [va_up_self, va_up_self]
    · rw [va_up_ne _ _ e, va_up_ne _ _ e]; exact hS q (by omega)
theorem rdL_congr {n : Nat} {g g' : Nat → UInt8} (h : ∀ j, j < n → g' j = g j) : ∀ (k p c : Nat) (S S' : Nat → Nat), GR n g p k → (∀ r, r < c → S' r = S r) → ∀ r, r < c + k → rdL g' k p c S' r = rdL g k p c S r
  | 0, _, _, _, _, _, hS, r, hr => hS r hr
  | k + 1, p, c, S, S', hg, hS, r, hr => by
    obtain ⟨ga, gb, gc, -, -, gf⟩ := hg
    show rdL g' k (p + ((g' p).toNat + 11)) (c + 1) (va_up S' c (g' p).toNat) r = rdL g k (p + ((g p).toNat + 11)) (c + 1) (va_up S c (g p).toNat) r
    rw [h p (by omega)]
    apply rdL_congr h k _ (c + 1) _ _ gf _ r (by omega)
    intro q hq
    by_cases e : q = c
    · subst e; rw [va_up_self, va_up_self]
    · rw [va_up_ne _ _ e, va_up_ne _ _ e]; exact hS q (by omega)
theorem rdK_congr {n : Nat} {g g' : Nat → UInt8} (h : ∀ j, j < n → g' j = g j) : ∀ (k p c : Nat) (Ln : Nat → Nat) (K K' : Nat → UInt8), GR n g p k → (∀ r, r < c → Ln r ≤ 64 ∧ ∀ j, j < Ln r → K' (r * 64 + j) = K (r * 64 + j)) → ∀ r, r < c + k → ∀ j, j < rdL g k p c Ln r → rdK g' k p c K' (r * 64 + j) = rdK g k p c K (r * 64 + j)
  | 0, _, _, _, _, _, _, hK, r, hr, j, hj => (hK r hr).2 j hj
  | k + 1, p, c, Ln, K, K', hg, hK, r, hr, j, hj => by
    obtain ⟨ga, gb, gc, -, -, gf⟩ := hg
    have hj : j < rdL g k (p + ((g p).toNat + 11)) (c + 1) (va_up Ln c (g p).toNat) r := hj
    show rdK g' k (p + ((g' p).toNat + 11)) (c + 1) (app K' (c * 64) (conL g' (p + 5) (g' p).toNat)) (r * 64 + j) = rdK g k (p + ((g p).toNat + 11)) (c + 1) (app K (c * 64) (conL g (p + 5) (g p).toNat)) (r * 64 + j)
    rw [h p (by omega)]
    refine rdK_congr h k _ (c + 1) (va_up Ln c (g p).toNat) _ _ gf (fun q hq => ?_) r (by omega) j hj
    by_cases e : q = c
    · subst e
      rw [va_up_self]
      refine ⟨gb, fun t ht => ?_⟩
      rw [app_at _ _ _ _ _ _ ht, app_at _ _ _ _ _ _ ht, h _ (by omega)]
    · rw [va_up_ne _ _ e]
      obtain ⟨a1, a2⟩ := hK q (by omega)
      refine ⟨a1, fun t ht => ?_⟩
      rw [app_lo _ _ _ _ (by omega), app_lo _ _ _ _ (by omega)]
      exact a2 t ht
theorem rdS_sorted {g : Nat → UInt8} : ∀ (k p c : Nat) (S : Nat → Nat), (∀ r, r < c → ∀ q, q ≤ r → S q ≤ S r) → Ch g p k (lastS c S) → ∀ r, r < c + k → ∀ q, q ≤ r → rdS g k p c S q ≤ rdS g k p c S r
  | 0, _, _, _, hS, _, r, hr, q, hq => hS r hr q hq
  | k + 1, p, c, S, hS, hc, r, hr, q, hq => by
    obtain ⟨c1, c2⟩ := hc
    have hl : lastS (c + 1) (va_up S c (secN g p)) = secN g p := by
      unfold lastS
      rw [if_neg (by omega), Nat.add_sub_cancel, va_up_self]
    refine rdS_sorted k _ (c + 1) (va_up S c (secN g p)) (fun a ha b hb => ?_) (by rw [hl]; exact c2) r (by omega) q hq
    by_cases e : a = c
    · subst e
      rw [va_up_self]
      by_cases e2 : b = a
      · subst e2; rw [va_up_self]; exact Nat.le_refl _
      · rw [va_up_ne _ _ e2]
        have h1 := hS (a - 1) (by omega) b (by omega)
        have h2 : lastS a S = S (a - 1) := if_neg (by omega)
        omega
    · rw [va_up_ne _ _ e, va_up_ne _ _ (by omega)]
      exact hS a (by omega) b hb
theorem rdZ_in : ∀ (k c : Nat) (Z : Nat → Bool) (j : Nat), j < k → rdZ k c Z (c + j) = false
  | 0, _, _, _, h => absurd h (Nat.not_lt_zero _)
  | k + 1, c, Z, j, h => by
    show rdZ k (c + 1) (va_up Z c false) (c + j) = false
    rcases Nat.eq_zero_or_pos j with e | e
    · subst e
      rw [rdZ_lo k (c + 1) _ _ (by omega), Nat.add_zero, va_up_self]
    · rw [show c + j = c + 1 + (j - 1) by omega]
      exact rdZ_in k (c + 1) _ (j - 1) (by omega)
theorem cpB_0 : ∀ (k p : Nat) (B : Nat → UInt8) (j : Nat), p + k ≤ 8192 → cpB 0 k p B j = if 8192 + p ≤ j ∧ j < 8192 + p + k then B (j - 8192) else B j
  | 0, p, B, j, _ => by rw [if_neg (by omega)]; rfl
  | k + 1, p, B, j, h => by
    rw [cpB_s, cpB_0 k (p + 1) _ j (by omega), show (1 - 0) * 8192 + p = 8192 + p by omega, show 0 * 8192 + p = p by omega]
    by_cases y : 8192 + (p + 1) ≤ j ∧ j < 8192 + (p + 1) + k
    · rw [if_pos y, if_pos (by omega), va_up_ne _ _ (by omega)]
    · rw [if_neg y]
      by_cases e : j = 8192 + p
      · subst e
        rw [va_up_self, if_pos (by omega), show 8192 + p - 8192 = p by omega]
      · rw [va_up_ne _ _ e, if_neg (by omega)]
theorem cpB_1 : ∀ (k p : Nat) (B : Nat → UInt8) (j : Nat), p + k ≤ 8192 → cpB 1 k p B j = if p ≤ j ∧ j < p + k then B (8192 + j) else B j
  | 0, p, B, j, _ => by rw [if_neg (by omega)]; rfl
  | k + 1, p, B, j, h => by
    rw [cpB_s, cpB_1 k (p + 1) _ j (by omega), show (1 - 1) * 8192 + p = p by omega, show 1 * 8192 + p = 8192 + p by omega]
    by_cases y : p + 1 ≤ j ∧ j < p + 1 + k
    · rw [if_pos y, if_pos (by omega), va_up_ne _ _ (by omega)]
    · rw [if_neg y]
      by_cases e : j = p
      · subst e
        rw [va_up_self, if_pos (by omega)]
      · rw [va_up_ne _ _ e, if_neg (by omega)]
/-- the other file behind a group taken: its bytes -/
theorem tkO_g {n n2 p q : Nat} {g g2 : Nat → UInt8} (hp : p ≤ n2) (hpq : p ≤ q) (hq : q ≤ n) {j : Nat} (hj : j < max n2 q) : (tkO n g n2 g2 p q).2 j = if p ≤ j ∧ j < q then g j else g2 j := by
  unfold tkO
  by_cases z : agr n g n2 g2 p (q - p) = true
  · rw [if_pos z]
    show g2 j = _
    by_cases y : p ≤ j ∧ j < q
    · rw [if_pos y]
      have h1 := (agr_iff n g n2 g2 (q - p) p).mp z (j - p) (by omega)
      rw [show p + (j - p) = j by omega] at h1
      exact (gt_eq h1 (by omega)).2.symm
    · rw [if_neg y]
  · rw [if_neg z, (cpF_spec n g (q - p) p n2 g2 hp).2 j]
    by_cases y : p ≤ j ∧ j < q
    · rw [if_pos y, if_pos (by omega), u8_gt (by omega)]
    · rw [if_neg y, if_neg (by omega)]
/-- both sides, while opening goes on -/
def RelT (z : Nat → Nat) (mv : Nat) (t : TS) (u : RT) : Prop := match t, u with
  | (n, g, n2, g2, c, S, Ln, Z, K, rp, p), (B, kn, S', L', K', gr, gb, ng, rp', p', _, _) =>
    (kn = c ∧ rp' = rp ∧ p' = p ∧ n = max (z 0) p ∧ n2 = max (z 1) p ∧ z 0 ≤ 8192 ∧ z 1 ≤ 8192 ∧ p ≤ 8192 ∧ c ≤ 600 ∧ mv ≤ c) ∧
    ((∀ j, j < n → B j = g j) ∧ ∀ j, j < n2 → B (8192 + j) = g2 j) ∧
    (∀ r, r < c → S' r = S r ∧ L' r = Ln r ∧ ∀ j, j < Ln r → K' (r * 64 + j) = K (r * 64 + j)) ∧
    (∀ r, r < c → Ln r ≤ 64 ∧ S r ≤ 1000000000 ∧ ∀ q, q ≤ r → S q ≤ S r) ∧
    Grp Z Ln gr gb ng mv c ∧ p = smN gb ng
theorem lastS_congr {c : Nat} {S S' : Nat → Nat} (h : ∀ r, r < c → S' r = S r) : lastS c S' = lastS c S := by
  unfold lastS
  split
  · rfl
  · exact h _ (by omega)
theorem lastS_le {c : Nat} {S : Nat → Nat} (h : ∀ r, r < c → S r ≤ 1000000000) : lastS c S ≤ 1000000000 := by
  unfold lastS
  split
  · omega
  · exact h _ (by omega)
/-- a good group that is read is as long as its rows and its end -/
theorem GR_len {n : Nat} {g : Nat → UInt8} (base : Nat) : ∀ (f p k : Nat) (sb : Int32) (p' k' : Nat), scan n g base f p k sb = some (p', k') → ∀ (c : Nat) (Ln : Nat → Nat), k ≤ k' ∧ p' = p + rsz (rdL g (k' - k) p c Ln) c (k' - k)
  | 0, p, k, sb, p', k', h, c, Ln => by
    have h : some (p, k) = some (p', k') := h
    cases h
    rw [Nat.sub_self]
    exact ⟨Nat.le_refl _, rfl⟩
  | f + 1, p, k, sb, p', k', h, c, Ln => by
    rw [scan_s] at h
    by_cases z : p < n ∧ 0 < (g p).toNat
    · rw [if_pos z] at h
      by_cases y : RowOk n g p (base + k) sb
      · rw [if_pos y] at h
        obtain ⟨a1, a2⟩ := GR_len base f _ _ _ p' k' h (c + 1) (va_up Ln c (g p).toNat)
        refine ⟨by omega, ?_⟩
        rw [show k' - k = (k' - (k + 1)) + 1 by omega, rsz_s]
        show p' = p + (rdL g (k' - (k + 1)) (p + ((g p).toNat + 11)) (c + 1) (va_up Ln c (g p).toNat) c + 11 + rsz (rdL g (k' - (k + 1)) (p + ((g p).toNat + 11)) (c + 1) (va_up Ln c (g p).toNat)) (c + 1) (k' - (k + 1)))
        rw [rdL_lo g _ _ (c + 1) _ c (by omega), va_up_self]
        omega
      · rw [if_neg y] at h
        cases h
    · rw [if_neg z] at h
      cases h
      rw [Nat.sub_self]
      exact ⟨Nat.le_refl _, rfl⟩
theorem good_len {n : Nat} {g : Nat → UInt8} {base s0 p p1 k1 : Nat} (hb : base ≤ 600) (h : goodR n g base (nI s0) p = some (p1, k1)) (c : Nat) (Ln : Nat → Nat) : p1 = p + rsz (rdL g k1 p c Ln) c k1 := by
  have e : endG n g base (nI s0) p = some (p1 + 6) := by rw [end_good hb, h]; rfl
  have hk := goodR_k h
  unfold endG at e
  cases hsc : scan n g base 16 p 0 (nI s0) with
  | none => rw [hsc] at e; cases e
  | some pk =>
    obtain ⟨p', k'⟩ := pk
    rw [hsc] at e
    have e : (if 0 < k' ∧ EndOk n g p' k' then some (p' + 6) else none) = some (p1 + 6) := e
    by_cases z : 0 < k' ∧ EndOk n g p' k'
    · rw [if_pos z] at e
      have e1 : p' = p1 := by have := Option.some.inj e; omega
      have e2 : k' = k1 := by rw [← hk, ← e1]; exact z.2.2.2.1.symm
      obtain ⟨-, a2⟩ := GR_len base 16 p 0 (nI s0) p' k' hsc c Ln
      rw [Nat.sub_zero, e2, e1] at a2
      exact a2
    · rw [if_neg z] at e
      cases e
set_option maxHeartbeats 1000000 in
theorem step_0 {z : Nat → Nat} {mv : Nat} {t : TS} {u : RT} {p1 k1 : Nat} (h : RelT z mv t u) (hg : gdR z u 0 = some (p1, k1)) : ed0 t = some (p1 + 6) ∧ RelT z mv (tk0 t (p1 + 6)) (tkF z 0 u (p1, k1)) := by
  obtain ⟨n, g, n2, g2, c0, S, Ln, Z, K, rp0, p0⟩ := t
  obtain ⟨B, c, S', L', K', gr, gb, ng, rp, p, sr, sb⟩ := u
  obtain ⟨⟨rfl, rfl, rfl, hn, hn2, hz0, hz1, hp, hc, hmv⟩, ⟨hB0, hB1⟩, hrow, hlen, hgr, hps⟩ := h
  have hls : lastS c S' = lastS c S := lastS_congr (fun r hr => (hrow r hr).1)
  have hl9 : lastS c S ≤ 1000000000 := lastS_le (fun r hr => (hlen r hr).2.1)
  have hfl : ∀ j, j < n → fl B 0 j = g j := fun j hj => by
    show B (0 * 8192 + j) = g j
    rw [show 0 * 8192 + j = j by omega]
    exact hB0 j hj
  have hgd : goodR n g c (nI (lastS c S)) p = some (p1, k1) := by
    change goodR (z 0) (fl B 0) c (nI (lastS c S')) p = some (p1, k1) at hg
    rw [hls] at hg
    rw [hn, good_max (g' := fl B 0) (fun j hj => hfl j (by omega))]
    exact hg
  obtain ⟨a1, a2, a3, a4, a5, a6⟩ := goodR_some hc hl9 hgd
  have hkk := goodR_k hgd
  have hpz : p < z 0 := by
    rcases Nat.lt_or_ge p (z 0) with q | q
    · exact q
    · exact absurd hgd (by rw [goodR_out (by omega)]; exact fun q => by cases q)
  have hnz : n = z 0 := by omega
  have ek : (g (p1 + 6 - 6 + 1)).toNat = k1 := by rw [show p1 + 6 - 6 + 1 = p1 + 1 by omega]; exact hkk
  have eO : (tkO n g n2 g2 p (p1 + 6)).1 = max n2 (p1 + 6) := tkO_n (by omega) (by omega) a4
  have hag : agr n g n2 g2 p (p1 + 6 - p) = arS B z p (p + (p1 + 6 - p) - p) := by
    rw [Nat.add_sub_cancel_left]
    apply bool_eq
    rw [agr_iff, arS_iff]
    constructor
    · intro q i hi
      obtain ⟨b1, b2⟩ := (gt_iff (by omega)).mp (q i hi)
      refine ⟨by omega, by omega, ?_⟩
      rw [hB0 _ (by omega), hB1 _ (by omega), b2]
    · intro q i hi
      obtain ⟨b1, b2, b3⟩ := q i hi
      refine (gt_iff (by omega)).mpr ⟨by omega, ?_⟩
      rw [← hB0 _ (by omega), ← hB1 _ (by omega), b3]
  have hlen9 := good_len hc hgd c Ln
  refine ⟨?_, ⟨?_, ?_, ?_, ?_, ?_, hz0, hz1, ?_, ?_, ?_⟩, ⟨fun j hj => ?_, fun j hj => ?_⟩, fun r hr => ?_, fun r hr => ?_, ?_, ?_⟩
  · show endG n g c (nI (lastS c S)) p = some (p1 + 6)
    rw [end_good hc, hgd]
    rfl
  · show c + k1 = c + (g (p1 + 6 - 6 + 1)).toNat
    rw [ek]
  · show rp + (if arS B z p (p + (p1 + 6 - p) - p) = true then 0 else 1) = tkR n g n2 g2 p (p1 + 6) rp
    unfold tkR
    rw [hag]
    split <;> rfl
  · show p + (p1 + 6 - p) = p1 + 6
    omega
  · show n = max (z 0) (p1 + 6)
    omega
  · show (tkO n g n2 g2 p (p1 + 6)).1 = max (z 1) (p1 + 6)
    rw [eO]
    omega
  · show p1 + 6 ≤ 8192
    omega
  · show c + (g (p1 + 6 - 6 + 1)).toNat ≤ 600
    rw [ek]
    exact a5
  · show mv ≤ c + (g (p1 + 6 - 6 + 1)).toNat
    omega
  · rw [cpB_0 _ _ _ _ (by omega), if_neg (by omega)]
    exact hB0 j hj
  · have hj : j < (tkO n g n2 g2 p (p1 + 6)).1 := hj
    rw [eO] at hj
    show cpB 0 (p1 + 6 - p) p B (8192 + j) = (tkO n g n2 g2 p (p1 + 6)).2 j
    rw [cpB_0 _ _ _ _ (by omega), tkO_g (by omega) (by omega) (by omega) hj]
    by_cases y : p ≤ j ∧ j < p1 + 6
    · rw [if_pos y, if_pos (by omega), show 8192 + j - 8192 = j by omega]
      exact hB0 j (by omega)
    · rw [if_neg y, if_neg (by omega)]
      exact hB1 j (by omega)
  · have hr : r < c + (g (p1 + 6 - 6 + 1)).toNat := hr
    rw [ek] at hr
    show rdS (fl B 0) k1 p c S' r = rdS g (g (p1 + 6 - 6 + 1)).toNat p c S r ∧ rdL (fl B 0) k1 p c L' r = rdL g (g (p1 + 6 - 6 + 1)).toNat p c Ln r ∧ ∀ j, j < rdL g (g (p1 + 6 - 6 + 1)).toNat p c Ln r → rdK (fl B 0) k1 p c K' (r * 64 + j) = rdK g (g (p1 + 6 - 6 + 1)).toNat p c K (r * 64 + j)
    rw [ek]
    exact ⟨rdS_congr hfl k1 p c S S' a6 (fun q hq => (hrow q hq).1) r hr, rdL_congr hfl k1 p c Ln L' a6 (fun q hq => (hrow q hq).2.1) r hr, rdK_congr hfl k1 p c Ln K K' a6 (fun q hq => ⟨(hlen q hq).1, (hrow q hq).2.2⟩) r hr⟩
  · have hr : r < c + (g (p1 + 6 - 6 + 1)).toNat := hr
    rw [ek] at hr
    show rdL g (g (p1 + 6 - 6 + 1)).toNat p c Ln r ≤ 64 ∧ rdS g (g (p1 + 6 - 6 + 1)).toNat p c S r ≤ 1000000000 ∧ ∀ q, q ≤ r → rdS g (g (p1 + 6 - 6 + 1)).toNat p c S q ≤ rdS g (g (p1 + 6 - 6 + 1)).toNat p c S r
    rw [ek]
    refine ⟨?_, ?_, rdS_sorted k1 p c S (fun a ha => (hlen a ha).2.2) (good_chain hc hl9 hgd) r hr⟩
    · by_cases e : r < c
      · rw [rdL_lo _ _ _ _ _ _ e]; exact (hlen r e).1
      · exact (rdL_in n g k1 p c Ln r a6 (by omega) hr).2
    · by_cases e : r < c
      · rw [rdS_lo _ _ _ _ _ _ e]; exact (hlen r e).2.1
      · exact rdS_in n g k1 p c S r a6 (by omega) hr
  · show Grp (va_up (rdZ (g (p1 + 6 - 6 + 1)).toNat c Z) (c + (g (p1 + 6 - 6 + 1)).toNat - 1) true) (rdL g (g (p1 + 6 - 6 + 1)).toNat p c Ln) (va_up gr ng k1) (va_up gb ng (p1 + 6 - p)) (ng + 1) mv (c + (g (p1 + 6 - 6 + 1)).toNat)
    rw [ek]
    refine Grp_add hgr a1 (fun r hr => by rw [va_up_ne _ _ (by omega), rdZ_lo _ _ _ _ hr]) (fun r hr => rdL_lo _ _ _ _ _ _ hr) (fun j hj => ?_) (by omega)
    by_cases e : j + 1 = k1
    · rw [show c + j = c + k1 - 1 by omega, va_up_self]
      simp [e]
    · rw [va_up_ne _ _ (by omega), rdZ_in _ _ _ _ hj]
      simp [e]
  · show p1 + 6 = smN (va_up gb ng (p1 + 6 - p)) (ng + 1)
    rw [smN_s, va_up_self, smN_congr ng (fun i hi => va_up_ne _ _ (by omega)), ← hps]
    omega
set_option maxHeartbeats 1000000 in
theorem step_1 {z : Nat → Nat} {mv : Nat} {t : TS} {u : RT} {p1 k1 : Nat} (h : RelT z mv t u) (hg : gdR z u 1 = some (p1, k1)) : ed1 t = some (p1 + 6) ∧ RelT z mv (tk1 t (p1 + 6)) (tkF z 1 u (p1, k1)) := by
  obtain ⟨n, g, n2, g2, c0, S, Ln, Z, K, rp0, p0⟩ := t
  obtain ⟨B, c, S', L', K', gr, gb, ng, rp, p, sr, sb⟩ := u
  obtain ⟨⟨rfl, rfl, rfl, hn, hn2, hz0, hz1, hp, hc, hmv⟩, ⟨hB0, hB1⟩, hrow, hlen, hgr, hps⟩ := h
  have hls : lastS c S' = lastS c S := lastS_congr (fun r hr => (hrow r hr).1)
  have hl9 : lastS c S ≤ 1000000000 := lastS_le (fun r hr => (hlen r hr).2.1)
  have hfl : ∀ j, j < n2 → fl B 1 j = g2 j := fun j hj => by
    show B (1 * 8192 + j) = g2 j
    rw [show 1 * 8192 + j = 8192 + j by omega]
    exact hB1 j hj
  have hgd : goodR n2 g2 c (nI (lastS c S)) p = some (p1, k1) := by
    change goodR (z 1) (fl B 1) c (nI (lastS c S')) p = some (p1, k1) at hg
    rw [hls] at hg
    rw [hn2, good_max (g' := fl B 1) (fun j hj => hfl j (by omega))]
    exact hg
  obtain ⟨a1, a2, a3, a4, a5, a6⟩ := goodR_some hc hl9 hgd
  have hkk := goodR_k hgd
  have hpz : p < z 1 := by
    rcases Nat.lt_or_ge p (z 1) with q | q
    · exact q
    · exact absurd hgd (by rw [goodR_out (by omega)]; exact fun q => by cases q)
  have hnz : n2 = z 1 := by omega
  have ek : (g2 (p1 + 6 - 6 + 1)).toNat = k1 := by rw [show p1 + 6 - 6 + 1 = p1 + 1 by omega]; exact hkk
  have eO : (tkO n2 g2 n g p (p1 + 6)).1 = max n (p1 + 6) := tkO_n (by omega) (by omega) a4
  have hag : agr n2 g2 n g p (p1 + 6 - p) = arS B z p (p + (p1 + 6 - p) - p) := by
    rw [Nat.add_sub_cancel_left]
    apply bool_eq
    rw [agr_iff, arS_iff]
    constructor
    · intro q i hi
      obtain ⟨b1, b2⟩ := (gt_iff (by omega)).mp (q i hi)
      refine ⟨by omega, by omega, ?_⟩
      rw [hB0 _ (by omega), hB1 _ (by omega), b2]
    · intro q i hi
      obtain ⟨b1, b2, b3⟩ := q i hi
      refine (gt_iff (by omega)).mpr ⟨by omega, ?_⟩
      rw [← hB0 _ (by omega), ← hB1 _ (by omega), b3]
  have hlen9 := good_len hc hgd c Ln
  refine ⟨?_, ⟨?_, ?_, ?_, ?_, ?_, hz0, hz1, ?_, ?_, ?_⟩, ⟨fun j hj => ?_, fun j hj => ?_⟩, fun r hr => ?_, fun r hr => ?_, ?_, ?_⟩
  · show endG n2 g2 c (nI (lastS c S)) p = some (p1 + 6)
    rw [end_good hc, hgd]
    rfl
  · show c + k1 = c + (g2 (p1 + 6 - 6 + 1)).toNat
    rw [ek]
  · show rp + (if arS B z p (p + (p1 + 6 - p) - p) = true then 0 else 1) = tkR n2 g2 n g p (p1 + 6) rp
    unfold tkR
    rw [hag]
    split <;> rfl
  · show p + (p1 + 6 - p) = p1 + 6
    omega
  · show (tkO n2 g2 n g p (p1 + 6)).1 = max (z 0) (p1 + 6)
    rw [eO]
    omega
  · show n2 = max (z 1) (p1 + 6)
    omega
  · show p1 + 6 ≤ 8192
    omega
  · show c + (g2 (p1 + 6 - 6 + 1)).toNat ≤ 600
    rw [ek]
    exact a5
  · show mv ≤ c + (g2 (p1 + 6 - 6 + 1)).toNat
    omega
  · have hj : j < (tkO n2 g2 n g p (p1 + 6)).1 := hj
    rw [eO] at hj
    show cpB 1 (p1 + 6 - p) p B j = (tkO n2 g2 n g p (p1 + 6)).2 j
    rw [cpB_1 _ _ _ _ (by omega), tkO_g (by omega) (by omega) (by omega) hj]
    by_cases y : p ≤ j ∧ j < p1 + 6
    · rw [if_pos y, if_pos (by omega)]
      exact hB1 j (by omega)
    · rw [if_neg y, if_neg (by omega)]
      exact hB0 j (by omega)
  · rw [cpB_1 _ _ _ _ (by omega), if_neg (by omega)]
    exact hB1 j hj
  · have hr : r < c + (g2 (p1 + 6 - 6 + 1)).toNat := hr
    rw [ek] at hr
    show rdS (fl B 1) k1 p c S' r = rdS g2 (g2 (p1 + 6 - 6 + 1)).toNat p c S r ∧ rdL (fl B 1) k1 p c L' r = rdL g2 (g2 (p1 + 6 - 6 + 1)).toNat p c Ln r ∧ ∀ j, j < rdL g2 (g2 (p1 + 6 - 6 + 1)).toNat p c Ln r → rdK (fl B 1) k1 p c K' (r * 64 + j) = rdK g2 (g2 (p1 + 6 - 6 + 1)).toNat p c K (r * 64 + j)
    rw [ek]
    exact ⟨rdS_congr hfl k1 p c S S' a6 (fun q hq => (hrow q hq).1) r hr, rdL_congr hfl k1 p c Ln L' a6 (fun q hq => (hrow q hq).2.1) r hr, rdK_congr hfl k1 p c Ln K K' a6 (fun q hq => ⟨(hlen q hq).1, (hrow q hq).2.2⟩) r hr⟩
  · have hr : r < c + (g2 (p1 + 6 - 6 + 1)).toNat := hr
    rw [ek] at hr
    show rdL g2 (g2 (p1 + 6 - 6 + 1)).toNat p c Ln r ≤ 64 ∧ rdS g2 (g2 (p1 + 6 - 6 + 1)).toNat p c S r ≤ 1000000000 ∧ ∀ q, q ≤ r → rdS g2 (g2 (p1 + 6 - 6 + 1)).toNat p c S q ≤ rdS g2 (g2 (p1 + 6 - 6 + 1)).toNat p c S r
    rw [ek]
    refine ⟨?_, ?_, rdS_sorted k1 p c S (fun a ha => (hlen a ha).2.2) (good_chain hc hl9 hgd) r hr⟩
    · by_cases e : r < c
      · rw [rdL_lo _ _ _ _ _ _ e]; exact (hlen r e).1
      · exact (rdL_in n2 g2 k1 p c Ln r a6 (by omega) hr).2
    · by_cases e : r < c
      · rw [rdS_lo _ _ _ _ _ _ e]; exact (hlen r e).2.1
      · exact rdS_in n2 g2 k1 p c S r a6 (by omega) hr
  · show Grp (va_up (rdZ (g2 (p1 + 6 - 6 + 1)).toNat c Z) (c + (g2 (p1 + 6 - 6 + 1)).toNat - 1) true) (rdL g2 (g2 (p1 + 6 - 6 + 1)).toNat p c Ln) (va_up gr ng k1) (va_up gb ng (p1 + 6 - p)) (ng + 1) mv (c + (g2 (p1 + 6 - 6 + 1)).toNat)
    rw [ek]
    refine Grp_add hgr a1 (fun r hr => by rw [va_up_ne _ _ (by omega), rdZ_lo _ _ _ _ hr]) (fun r hr => rdL_lo _ _ _ _ _ _ hr) (fun j hj => ?_) (by omega)
    by_cases e : j + 1 = k1
    · rw [show c + j = c + k1 - 1 by omega, va_up_self]
      simp [e]
    · rw [va_up_ne _ _ (by omega), rdZ_in _ _ _ _ hj]
      simp [e]
  · show p1 + 6 = smN (va_up gb ng (p1 + 6 - p)) (ng + 1)
    rw [smN_s, va_up_self, smN_congr ng (fun i hi => va_up_ne _ _ (by omega)), ← hps]
    omega
theorem step_none {z : Nat → Nat} {mv : Nat} {t : TS} {u : RT} (h : RelT z mv t u) : (gdR z u 0 = none → ed0 t = none) ∧ (gdR z u 1 = none → ed1 t = none) := by
  obtain ⟨n, g, n2, g2, c0, S, Ln, Z, K, rp0, p0⟩ := t
  obtain ⟨B, c, S', L', K', gr, gb, ng, rp, p, sr, sb⟩ := u
  obtain ⟨⟨rfl, rfl, rfl, hn, hn2, hz0, hz1, hp, hc, hmv⟩, ⟨hB0, hB1⟩, hrow, hlen, hgr, hps⟩ := h
  have hls : lastS c S' = lastS c S := lastS_congr (fun r hr => (hrow r hr).1)
  constructor
  · intro hg
    change goodR (z 0) (fl B 0) c (nI (lastS c S')) p = none at hg
    show endG n g c (nI (lastS c S)) p = none
    rw [end_good hc, hn, good_max (g' := fl B 0) (fun j hj => by
      show B (0 * 8192 + j) = g j
      rw [show 0 * 8192 + j = j by omega]
      exact hB0 j (by omega)), ← hls, hg]
    rfl
  · intro hg
    change goodR (z 1) (fl B 1) c (nI (lastS c S')) p = none at hg
    show endG n2 g2 c (nI (lastS c S)) p = none
    rw [end_good hc, hn2, good_max (g' := fl B 1) (fun j hj => by
      show B (1 * 8192 + j) = g2 j
      rw [show 1 * 8192 + j = 8192 + j by omega]
      exact hB1 j (by omega)), ← hls, hg]
    rfl
theorem loop_rel {z : Nat → Nat} {mv : Nat} : ∀ (f : Nat) (t : TS) (u : RT), RelT z mv t u → RelT z mv (loopT f t) (loopR z f u)
  | 0, _, _, h => h
  | f + 1, t, u, h => by
    cases h0 : gdR z u 0 with
    | some o =>
      obtain ⟨p1, k1⟩ := o
      obtain ⟨a, b⟩ := step_0 h h0
      rw [loopT_some (stepT_0 a), loopR_some (stepR_0 h0)]
      exact loop_rel f _ _ b
    | none =>
      have e0 := (step_none h).1 h0
      cases h1 : gdR z u 1 with
      | some o =>
        obtain ⟨p1, k1⟩ := o
        obtain ⟨a, b⟩ := step_1 h h1
        rw [loopT_some (stepT_1 e0 a), loopR_some (stepR_1 h0 h1)]
        exact loop_rel f _ _ b
      | none =>
        rw [loopT_none (stepT_n e0 ((step_none h).2 h1)), loopR_none (stepR_n h0 h1)]
        exact h
section OPS
variable {l : Launch} {D : va_G} {cB cI cZ cJ : ClassId} {am ar : Nat → Nat} {x : CS} {y : RS}
set_option maxHeartbeats 1000000 in
theorem op_reopen (h : Rel x y) : Op2 Rel l D cB cI cZ cJ am ar yX3_reopen wsX3_reopen rmX3_reopen yX4_reopen wsX4_reopen rmX4_reopen [] x y := by
  obtain ⟨fc, mv, kn, sh, rp, bad, F, n, g, n2, g2, c, S, Ln, Z, K⟩ := x
  obtain ⟨kn', mv', ng, nr, fc', sh', rp', bad', th, sr, sb, at9, B, z, S', L', K', gr, gb, nS, nL, nK, F'⟩ := y
  obtain ⟨⟨rfl, hfc, hF⟩, ⟨rfl, rfl, hmk, rfl, hnr, hc, rfl, rfl, rfl⟩, ⟨rfl, rfl, hn, hn2, hB0, hB1⟩, hrow, hnew, hlen, hg, ho⟩ := h
  have hls : lastS mv' S' = lastS mv' S := lastS_congr (fun r hr => (hrow r (by omega)).1)
  have hl9 : lastS mv' S ≤ 1000000000 := lastS_le (fun r hr => (hlen r (by omega)).2.1)
  have hC := c_X3_reopen l D cB cI cZ cJ (am 0) (am 1) (am 2) (am 3) (am 4) (am 5) (am 6) (am 7) (am 8) (am 9) (am 10) fc' mv' kn' sh' rp' bad' F (z 0) g (z 1) g2 (kn' + nr) S Ln Z K hn hn2 hc (by omega) hmk hl9
  have hR := c_X4_reopen l D cB cI cZ cJ (ar 0) (ar 1) (ar 2) (ar 3) (ar 4) (ar 5) (ar 6) (ar 7) (ar 8) (ar 9) (ar 10) (ar 11) kn' mv' ng nr fc' sh' rp' bad' th sr sb at9 B z S' L' K' gr gb nS nL nK F' hn hn2 (by omega) (by rw [hls]; exact hl9)
  have h0 : RelT z mv' (z 0, g, z 1, g2, mv', S, Ln, Z, K, 0, 0) (B, mv', S', L', K', gr, gb, 0, 0, 0, sr, sb) :=
    ⟨⟨rfl, rfl, rfl, by omega, by omega, hn, hn2, Nat.zero_le _, by omega, Nat.le_refl _⟩, ⟨hB0, hB1⟩, fun r hr => hrow r (by omega), fun r hr => hlen r (by omega), ⟨rfl, fun i hi => absurd hi (Nat.not_lt_zero i)⟩, rfl⟩
  have h1 := loop_rel 600 _ _ h0
  generalize loopT 600 (z 0, g, z 1, g2, mv', S, Ln, Z, K, 0, 0) = t at hC h1
  generalize loopR z 600 (B, mv', S', L', K', gr, gb, 0, 0, 0, sr, sb) = u at hR h1
  obtain ⟨n, g, n2, g2, c, S, Ln, Z, K, rp, p⟩ := t
  obtain ⟨B, kn, S', L', K', gr, gb, ng, rp', p', sr, sb⟩ := u
  obtain ⟨⟨rfl, rfl, rfl, gn, gn2, hz0, hz1, hp, hc, hmv⟩, ⟨gB0, gB1⟩, grow, glen, ggr, gps⟩ := h1
  have hbad : (if p' < n ∨ p' < n2 then nI p' else (-1)) = (if p' < z 0 ∨ p' < z 1 then nI p' else (-1)) := by
    by_cases e : p' < z 0 ∨ p' < z 1
    · rw [if_pos e, if_pos (by omega)]
    · rw [if_neg e, if_neg (by omega)]
  refine ⟨(0, mv', kn, false, rp', if p' < n ∨ p' < n2 then nI p' else (-1), F, p', g, p', g2, kn, S, Ln, Z, K), (kn, mv', ng, 0, 0, false, rp', if p' < z 0 ∨ p' < z 1 then nI p' else (-1), 0, sr, sb, at9, B, va_up (va_up z 0 p') 1 p', S', L', K', gr, gb, nS, nL, nK, F'), nI kn, hC, hR, ⟨rfl, by omega, fun j hj => absurd hj (Nat.not_lt_zero j)⟩, ⟨rfl, rfl, hmv, rfl, by omega, hc, rfl, rfl, hbad.symm⟩, ⟨?_, va_up_self _ _ _, hp, hp, fun j hj => gB0 j (by omega), fun j hj => gB1 j (by omega)⟩, grow, fun i hi => absurd hi (Nat.not_lt_zero i), glen, ggr, fun _ => ⟨rfl, gps⟩⟩
  rw [va_up_ne _ _ (by decide), va_up_self]
end OPS
