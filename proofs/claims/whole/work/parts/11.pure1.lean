/-! PURE: what good groups, reading and copying come to -/
theorem gt_in {n : Nat} {g : Nat → UInt8} {k : Nat} (h : k < n) : gt n g k = nI (g k).toNat := if_pos h
theorem gt_out {n : Nat} {g : Nat → UInt8} {k : Nat} (h : ¬ k < n) : gt n g k = (-1) := if_neg h
theorem u8_gt {n : Nat} {g : Nat → UInt8} {k : Nat} (h : k < n) : u8 (gt n g k) = g k := by rw [gt_in h, u8_u]
theorem nI_nm1 {a : Nat} (h : a < 2 ^ 31) : ¬ nI a = (-1) := by
  intro q
  have h1 := congrArg Int32.toInt q
  rw [nI_toInt h] at h1
  have h2 : Int32.toInt (-1) = -1 := by decide
  omega
theorem u_inj {u v : UInt8} (h : nI u.toNat = nI v.toNat) : u = v := by
  have h1 := (nI_eq (u8lt u) (u8lt v)).mp h
  exact UInt8.toNat_inj.mp h1
theorem gt_eq {n n2 : Nat} {g g2 : Nat → UInt8} {k : Nat} (h : gt n g k = gt n2 g2 k) (hk : k < n) : k < n2 ∧ g k = g2 k := by
  rw [gt_in hk] at h
  by_cases z : k < n2
  · rw [gt_in z] at h
    exact ⟨z, u_inj h⟩
  · rw [gt_out z] at h
    exact absurd h (nI_nm1 (u8lt _))
theorem agr_iff (n : Nat) (g : Nat → UInt8) (n2 : Nat) (g2 : Nat → UInt8) : ∀ (k p : Nat), agr n g n2 g2 p k = true ↔ ∀ i, i < k → gt n g (p + i) = gt n2 g2 (p + i)
  | 0, p => ⟨fun _ i h => absurd h (Nat.not_lt_zero i), fun _ => rfl⟩
  | k + 1, p => by
    rw [agr_s]
    by_cases z : gt n g p = gt n2 g2 p
    · rw [if_pos z, agr_iff n g n2 g2 k (p + 1)]
      constructor
      · intro h i hi
        rcases Nat.eq_zero_or_pos i with q | q
        · subst q; exact z
        · have h1 := h (i - 1) (by omega)
          rw [show p + 1 + (i - 1) = p + i by omega] at h1
          exact h1
      · intro h i hi
        have h1 := h (i + 1) (by omega)
        rw [show p + (i + 1) = p + 1 + i by omega] at h1
        exact h1
    · rw [if_neg z]
      constructor
      · intro h; cases h
      · intro h; exact absurd (h 0 (by omega)) z
theorem cpF_spec (n2 : Nat) (g2 : Nat → UInt8) : ∀ (k p n : Nat) (g : Nat → UInt8), p ≤ n → (cpF n2 g2 p k (n, g)).1 = max n (p + k) ∧ ∀ j, (cpF n2 g2 p k (n, g)).2 j = if p ≤ j ∧ j < p + k then u8 (gt n2 g2 j) else g j
  | 0, p, n, g, h => ⟨by show n = _; omega, fun j => by rw [if_neg (by omega)]; rfl⟩
  | k + 1, p, n, g, h => by
    rw [cpF_s]
    by_cases z : p = n
    · rw [if_pos z]
      obtain ⟨h1, h2⟩ := cpF_spec n2 g2 k (p + 1) (n + 1) (va_up g n (u8 (gt n2 g2 p))) (by omega)
      refine ⟨by rw [h1]; omega, fun j => ?_⟩
      rw [h2]
      by_cases y : j = p
      · subst y
        rw [if_neg (by omega), if_pos (by omega), z, va_up_self]
      · rw [va_up_ne _ _ (by omega)]
        by_cases x : p + 1 ≤ j ∧ j < p + 1 + k
        · rw [if_pos x, if_pos (by omega)]
        · rw [if_neg x, if_neg (by omega)]
    · rw [if_neg z, if_pos (by omega)]
      obtain ⟨h1, h2⟩ := cpF_spec n2 g2 k (p + 1) n (va_up g p (u8 (gt n2 g2 p))) (by omega)
      refine ⟨by rw [h1]; omega, fun j => ?_⟩
      rw [h2]
      by_cases y : j = p
      · subst y
        rw [if_neg (by omega), if_pos (by omega), va_up_self]
      · rw [va_up_ne _ _ (by omega)]
        by_cases x : p + 1 ≤ j ∧ j < p + 1 + k
        · rw [if_pos x, if_pos (by omega)]
        · rw [if_neg x, if_neg (by omega)]
/-- a second that is in its range is a number -/
theorem sec_nat {x : Int32} {s0 : Nat} (hs : s0 ≤ 1000000000) (h1 : ¬ x < nI s0) (h2 : x ≤ nI 1000000000) : x = nI x.toNatClampNeg ∧ x.toNatClampNeg ≤ 1000000000 ∧ s0 ≤ x.toNatClampNeg := by
  have h0 : ¬ x < 0 := fun q => h1 (by
    have e1 : x.toInt < 0 := by have := Int32.lt_iff_toInt_lt.mp q; simpa using this
    rw [Int32.lt_iff_toInt_lt, nI_toInt (by omega)]
    omega)
  obtain ⟨j, hj, rfl⟩ := nI_of2 (M := nI 1000000000) (n := 1000000000) (nI_toInt (by omega)) h0 h2
  rw [nI_clamp (by omega)]
  refine ⟨rfl, hj, ?_⟩
  have h3 : ¬ j < s0 := fun q => h1 ((nI_ltI (a := j) (b := s0) (by omega) (by omega)).mpr q)
  omega
theorem scan_some (n : Nat) (g : Nat → UInt8) (base : Nat) : ∀ (f p k : Nat) (sb : Int32) (p' k' : Nat), (∃ s0, sb = nI s0 ∧ s0 ≤ 1000000000) → scan n g base f p k sb = some (p', k') →
    k ≤ k' ∧ k' ≤ k + f ∧ p ≤ p' ∧ GR n g p (k' - k) ∧ (k = k' → p' = p) ∧ (k < k' → base + k' ≤ 600 ∧ p' ≤ n ∧ p + 12 ≤ p')
  | 0, p, k, sb, p', k', _, h => by
    have h : some (p, k) = some (p', k') := h
    cases h
    refine ⟨by omega, by omega, by omega, ?_, fun _ => rfl, fun q => absurd q (by omega)⟩
    rw [Nat.sub_self]
    trivial
  | f + 1, p, k, sb, p', k', hsb, h => by
    rw [scan_s] at h
    by_cases z : p < n ∧ 0 < (g p).toNat
    · rw [if_pos z] at h
      by_cases y : RowOk n g p (base + k) sb
      · rw [if_pos y] at h
        obtain ⟨s0, rfl, hs0⟩ := hsb
        obtain ⟨y1, y2, y3, y4, y5, y6, -, -⟩ := y
        obtain ⟨e1, e2, -⟩ := sec_nat hs0 y5 y6
        obtain ⟨a1, a2, a3, a4, a5, a6⟩ := scan_some n g base f _ _ _ p' k' ⟨_, e1, e2⟩ h
        obtain ⟨j, rfl⟩ : ∃ j, k' = k + 1 + j := ⟨k' - (k + 1), by omega⟩
        refine ⟨by omega, by omega, by omega, ?_, fun q => absurd q (by omega), fun _ => ?_⟩
        · rw [show k + 1 + j - k = j + 1 by omega]
          rw [show k + 1 + j - (k + 1) = j by omega] at a4
          exact ⟨y1, y2, y3, e1, e2, a4⟩
        · rcases Nat.eq_zero_or_pos j with q | q
          · subst q
            have := a5 rfl
            exact ⟨by omega, by omega, by omega⟩
          · obtain ⟨b1, b2, b3⟩ := a6 (by omega)
            exact ⟨b1, b2, by omega⟩
      · rw [if_neg y] at h
        cases h
    · rw [if_neg z] at h
      cases h
      refine ⟨by omega, by omega, by omega, ?_, fun _ => rfl, fun q => absurd q (by omega)⟩
      rw [Nat.sub_self]
      trivial
theorem endG_some {n : Nat} {g : Nat → UInt8} {base s0 p q : Nat} (hs : s0 ≤ 1000000000) (h : endG n g base (nI s0) p = some q) :
    0 < (g (q - 6 + 1)).toNat ∧ (g (q - 6 + 1)).toNat ≤ 16 ∧ p + 18 ≤ q ∧ q ≤ n ∧ base + (g (q - 6 + 1)).toNat ≤ 600 ∧ GR n g p (g (q - 6 + 1)).toNat := by
  unfold endG at h
  cases hsc : scan n g base 16 p 0 (nI s0) with
  | none => rw [hsc] at h; cases h
  | some pk =>
    obtain ⟨p', k'⟩ := pk
    rw [hsc] at h
    have h : (if 0 < k' ∧ EndOk n g p' k' then some (p' + 6) else none) = some q := h
    by_cases z : 0 < k' ∧ EndOk n g p' k'
    · rw [if_pos z] at h
      cases h
      obtain ⟨z0, z1, z2, z3, z4⟩ := z
      obtain ⟨a1, a2, a3, a4, a5, a6⟩ := scan_some n g base 16 p 0 (nI s0) p' k' ⟨s0, rfl, hs⟩ hsc
      obtain ⟨b1, b2, b3⟩ := a6 z0
      rw [show p' + 6 - 6 + 1 = p' + 1 by omega, z3]
      exact ⟨z0, by omega, by omega, z1, b1, by rw [Nat.sub_zero] at a4; exact a4⟩
    · rw [if_neg z] at h
      cases h
theorem rdS_lo (g : Nat → UInt8) : ∀ (k p c : Nat) (S : Nat → Nat) (j : Nat), j < c → rdS g k p c S j = S j
  | 0, _, _, _, _, _ => rfl
  | k + 1, p, c, S, j, h => by
    show rdS g k _ (c + 1) _ j = _
    rw [rdS_lo g k _ (c + 1) _ j (by omega), va_up_ne _ _ (by omega)]
theorem rdL_lo (g : Nat → UInt8) : ∀ (k p c : Nat) (S : Nat → Nat) (j : Nat), j < c → rdL g k p c S j = S j
  | 0, _, _, _, _, _ => rfl
  | k + 1, p, c, S, j, h => by
    show rdL g k _ (c + 1) _ j = _
    rw [rdL_lo g k _ (c + 1) _ j (by omega), va_up_ne _ _ (by omega)]
theorem rdZ_lo : ∀ (k c : Nat) (S : Nat → Bool) (j : Nat), j < c → rdZ k c S j = S j
  | 0, _, _, _, _ => rfl
  | k + 1, c, S, j, h => by
    show rdZ k (c + 1) _ j = _
    rw [rdZ_lo k (c + 1) _ j (by omega), va_up_ne _ _ (by omega)]
theorem rdK_lo (g : Nat → UInt8) : ∀ (k p c : Nat) (K : Nat → UInt8) (j : Nat), j < c * 64 → rdK g k p c K j = K j
  | 0, _, _, _, _, _ => rfl
  | k + 1, p, c, K, j, h => by
    show rdK g k _ (c + 1) _ j = _
    rw [rdK_lo g k _ (c + 1) _ j (by omega), app_lo _ _ _ _ h]
theorem rdS_in (n : Nat) (g : Nat → UInt8) : ∀ (k p c : Nat) (S : Nat → Nat) (j : Nat), GR n g p k → c ≤ j → j < c + k → rdS g k p c S j ≤ 1000000000
  | 0, _, _, _, _, _, h1, h2 => absurd h2 (by omega)
  | k + 1, p, c, S, j, hg, h1, h2 => by
    obtain ⟨-, -, -, -, ge, gf⟩ := hg
    show rdS g k _ (c + 1) _ j ≤ _
    by_cases z : j = c
    · subst z
      rw [rdS_lo g k _ (j + 1) _ j (by omega), va_up_self]
      exact ge
    · exact rdS_in n g k _ (c + 1) _ j gf (by omega) (by omega)
theorem rdL_in (n : Nat) (g : Nat → UInt8) : ∀ (k p c : Nat) (S : Nat → Nat) (j : Nat), GR n g p k → c ≤ j → j < c + k → 1 ≤ rdL g k p c S j ∧ rdL g k p c S j ≤ 64
  | 0, _, _, _, _, _, h1, h2 => absurd h2 (by omega)
  | k + 1, p, c, S, j, hg, h1, h2 => by
    obtain ⟨ga, gb, -, -, -, gf⟩ := hg
    show 1 ≤ rdL g k _ (c + 1) _ j ∧ rdL g k _ (c + 1) _ j ≤ _
    by_cases z : j = c
    · subst z
      rw [rdL_lo g k _ (j + 1) _ j (by omega), va_up_self]
      exact ⟨ga, gb⟩
    · exact rdL_in n g k _ (c + 1) _ j gf (by omega) (by omega)
theorem rdS_last {n : Nat} {g : Nat → UInt8} {k p c : Nat} {S : Nat → Nat} (hg : GR n g p k) (hk : 0 < k) : lastS (c + k) (rdS g k p c S) ≤ 1000000000 := by
  unfold lastS
  rw [if_neg (by omega)]
  exact rdS_in n g k p c S _ hg (by omega) (by omega)
/-- the state of opening: both files, the table, the groups put right, the place -/
abbrev TS : Type := Nat × (Nat → UInt8) × Nat × (Nat → UInt8) × Nat × (Nat → Nat) × (Nat → Nat) × (Nat → Bool) × (Nat → UInt8) × Nat × Nat
abbrev tN (t : TS) : Nat := t.1
abbrev tG (t : TS) : Nat → UInt8 := t.2.1
abbrev tN2 (t : TS) : Nat := t.2.2.1
abbrev tG2 (t : TS) : Nat → UInt8 := t.2.2.2.1
abbrev tC (t : TS) : Nat := t.2.2.2.2.1
abbrev tS (t : TS) : Nat → Nat := t.2.2.2.2.2.1
abbrev tL (t : TS) : Nat → Nat := t.2.2.2.2.2.2.1
abbrev tZ (t : TS) : Nat → Bool := t.2.2.2.2.2.2.2.1
abbrev tK (t : TS) : Nat → UInt8 := t.2.2.2.2.2.2.2.2.1
abbrev tR (t : TS) : Nat := t.2.2.2.2.2.2.2.2.2.1
abbrev tP (t : TS) : Nat := t.2.2.2.2.2.2.2.2.2.2
/-- the other file behind a group taken -/
def tkO (n : Nat) (g : Nat → UInt8) (n2 : Nat) (g2 : Nat → UInt8) (p q : Nat) : Nat × (Nat → UInt8) := if agr n g n2 g2 p (q - p) = true then (n2, g2) else cpF n g p (q - p) (n2, g2)
def tkR (n : Nat) (g : Nat → UInt8) (n2 : Nat) (g2 : Nat → UInt8) (p q rp : Nat) : Nat := if agr n g n2 g2 p (q - p) = true then rp else rp + 1
/-- the group at the place, from file 0 or from file 1 -/
def tk0 (t : TS) (q : Nat) : TS := match t with
  | (n, g, n2, g2, c, S, Ln, Z, K, rp, p) => (n, g, (tkO n g n2 g2 p q).1, (tkO n g n2 g2 p q).2, c + (g (q - 6 + 1)).toNat, rdS g (g (q - 6 + 1)).toNat p c S, rdL g (g (q - 6 + 1)).toNat p c Ln, va_up (rdZ (g (q - 6 + 1)).toNat c Z) (c + (g (q - 6 + 1)).toNat - 1) true, rdK g (g (q - 6 + 1)).toNat p c K, tkR n g n2 g2 p q rp, q)
def tk1 (t : TS) (q : Nat) : TS := match t with
  | (n, g, n2, g2, c, S, Ln, Z, K, rp, p) => ((tkO n2 g2 n g p q).1, (tkO n2 g2 n g p q).2, n2, g2, c + (g2 (q - 6 + 1)).toNat, rdS g2 (g2 (q - 6 + 1)).toNat p c S, rdL g2 (g2 (q - 6 + 1)).toNat p c Ln, va_up (rdZ (g2 (q - 6 + 1)).toNat c Z) (c + (g2 (q - 6 + 1)).toNat - 1) true, rdK g2 (g2 (q - 6 + 1)).toNat p c K, tkR n2 g2 n g p q rp, q)
def ed0 (t : TS) : Option Nat := endG (tN t) (tG t) (tC t) (nI (lastS (tC t) (tS t))) (tP t)
def ed1 (t : TS) : Option Nat := endG (tN2 t) (tG2 t) (tC t) (nI (lastS (tC t) (tS t))) (tP t)
def stepT (t : TS) : Option TS := match ed0 t with
  | some q => some (tk0 t q)
  | none => match ed1 t with
    | some q => some (tk1 t q)
    | none => none
def loopT : Nat → TS → TS
  | 0, t => t
  | f + 1, t => match stepT t with
    | none => t
    | some u => loopT f u
theorem loopT_none {f : Nat} {t : TS} (h : stepT t = none) : loopT f t = t := by
  cases f with
  | zero => rfl
  | succ f => show (match stepT t with | none => t | some u => loopT f u) = t; rw [h]
theorem loopT_some {f : Nat} {t u : TS} (h : stepT t = some u) : loopT (f + 1) t = loopT f u := by
  show (match stepT t with | none => t | some u => loopT f u) = _
  rw [h]
theorem stepT_0 {t : TS} {q : Nat} (h : ed0 t = some q) : stepT t = some (tk0 t q) := by unfold stepT; rw [h]
theorem stepT_1 {t : TS} {q : Nat} (h0 : ed0 t = none) (h : ed1 t = some q) : stepT t = some (tk1 t q) := by unfold stepT; rw [h0, h]
theorem stepT_n {t : TS} (h0 : ed0 t = none) (h : ed1 t = none) : stepT t = none := by unfold stepT; rw [h0, h]
/-- what holds while opening goes on -/
def TOK (t : TS) : Prop := tN t ≤ 8192 ∧ tN2 t ≤ 8192 ∧ tC t ≤ 600 ∧ tP t ≤ tN t ∧ tP t ≤ tN2 t ∧ lastS (tC t) (tS t) ≤ 1000000000
theorem tkO_n {n n2 p q : Nat} {g g2 : Nat → UInt8} (hp : p ≤ n2) (hpq : p ≤ q) (hq : q ≤ n) : (tkO n g n2 g2 p q).1 = max n2 q := by
  unfold tkO
  by_cases z : agr n g n2 g2 p (q - p) = true
  · rw [if_pos z]
    show n2 = max n2 q
    rcases Nat.lt_or_ge n2 q with y | y
    · have h1 := (agr_iff n g n2 g2 (q - p) p).mp z (n2 - p) (by omega)
      have h2 := gt_eq h1 (by omega)
      omega
    · omega
  · rw [if_neg z, (cpF_spec n g (q - p) p n2 g2 hp).1]
    congr 1
    omega
theorem tk0_ok {t : TS} {q : Nat} (h : TOK t) (he : ed0 t = some q) : TOK (tk0 t q) := by
  obtain ⟨n, g, n2, g2, c, S, Ln, Z, K, rp, p⟩ := t
  obtain ⟨h1, h2, h3, h4, h5, h6⟩ := h
  change n ≤ 8192 at h1
  change n2 ≤ 8192 at h2
  change c ≤ 600 at h3
  change p ≤ n at h4
  change p ≤ n2 at h5
  change lastS c S ≤ 1000000000 at h6
  change endG n g c (nI (lastS c S)) p = some q at he
  obtain ⟨a1, a2, a3, a4, a5, a6⟩ := endG_some h6 he
  have e := tkO_n (g := g) (g2 := g2) h5 (show p ≤ q by omega) a4
  refine ⟨h1, ?_, a5, a4, ?_, rdS_last a6 a1⟩
  · show (tkO n g n2 g2 p q).1 ≤ 8192
    rw [e]; omega
  · show q ≤ (tkO n g n2 g2 p q).1
    rw [e]; omega
theorem tk1_ok {t : TS} {q : Nat} (h : TOK t) (he : ed1 t = some q) : TOK (tk1 t q) := by
  obtain ⟨n, g, n2, g2, c, S, Ln, Z, K, rp, p⟩ := t
  obtain ⟨h1, h2, h3, h4, h5, h6⟩ := h
  change n ≤ 8192 at h1
  change n2 ≤ 8192 at h2
  change c ≤ 600 at h3
  change p ≤ n at h4
  change p ≤ n2 at h5
  change lastS c S ≤ 1000000000 at h6
  change endG n2 g2 c (nI (lastS c S)) p = some q at he
  obtain ⟨a1, a2, a3, a4, a5, a6⟩ := endG_some h6 he
  have e := tkO_n (g := g2) (g2 := g) h4 (show p ≤ q by omega) a4
  refine ⟨?_, h2, a5, ?_, a4, rdS_last a6 a1⟩
  · show (tkO n2 g2 n g p q).1 ≤ 8192
    rw [e]; omega
  · show q ≤ (tkO n2 g2 n g p q).1
    rw [e]; omega
theorem stepT_ok {t u : TS} (h : TOK t) (hs : stepT t = some u) : TOK u := by
  cases h0 : ed0 t with
  | some q => rw [stepT_0 h0] at hs; cases hs; exact tk0_ok h h0
  | none =>
    cases h1 : ed1 t with
    | some q => rw [stepT_1 h0 h1] at hs; cases hs; exact tk1_ok h h1
    | none => rw [stepT_n h0 h1] at hs; cases hs
theorem loopT_ok : ∀ (f : Nat) (t : TS), TOK t → TOK (loopT f t)
  | 0, _, h => h
  | f + 1, t, h => by
    cases hs : stepT t with
    | none => rw [loopT_none hs]; exact h
    | some u => rw [loopT_some hs]; exact loopT_ok f u (stepT_ok h hs)
