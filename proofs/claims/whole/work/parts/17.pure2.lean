/-! PURE: the reference's test of a group is the class's -/
theorem scanR_k (n : Nat) (g : Nat → UInt8) (base : Nat) : ∀ (f p k : Nat) (sb sum : Int32) (p' k' : Nat) (sum' : Int32), scanR n g base f p k sb sum = some (p', k', sum') → k ≤ k'
  | 0, _, _, _, _, _, _, _, h => by cases h
  | f + 1, p, k, sb, sum, p', k', sum', h => by
    rw [scanR_s] at h
    by_cases z : p < n ∧ ¬ (g p).toNat = 0
    · rw [if_pos z] at h
      by_cases y : RowR n g p (base + k) k sb
      · rw [if_pos y] at h
        have := scanR_k n g base f _ _ _ _ p' k' sum' h
        omega
      · rw [if_neg y] at h
        cases h
    · rw [if_neg z] at h
      cases h
      omega
theorem goodE_600 {n : Nat} {g : Nat → UInt8} {base f p k : Nat} {sb sum : Int32} (hb : 600 < base + k) : goodE n g base (scanR n g base f p k sb sum) = none := by
  cases hs : scanR n g base f p k sb sum with
  | none => rfl
  | some o =>
    obtain ⟨p', k', sum'⟩ := o
    have := scanR_k n g base f p k sb sum p' k' sum' hs
    rw [goodE_s, if_neg (fun q => by have := q.2.2.2.2; omega)]
theorem row_eq {n : Nat} {g : Nat → UInt8} {p m k : Nat} {sb : Int32} (hk : k < 16) (h0 : 0 < (g p).toNat) : RowOk n g p m sb ↔ RowR n g p m k sb ∧ m < 600 := by
  have e1 : p + (g p).toNat + 11 - 4 - 2 = p + 5 + (g p).toNat := by omega
  have e2 : p + (g p).toNat + 11 - 4 = p + 7 + (g p).toNat := by omega
  constructor
  · rintro ⟨a1, a2, a3, a4, a5, a6, a7, a8⟩
    rw [e1] at a7
    rw [e2] at a8
    exact ⟨⟨a2, by omega, by omega, a8.symm, a7, a5, a6⟩, a4⟩
  · rintro ⟨⟨a1, a2, a3, a4, a5, a6, a7⟩, a8⟩
    refine ⟨by omega, a1, by omega, a8, a6, a7, ?_, ?_⟩
    · rw [e1]; exact a5
    · rw [e2]; exact a4.symm
theorem end_eq {n : Nat} {g : Nat → UInt8} {base p k : Nat} {sum : Int32} (hb : base + k ≤ 600) (hs : 0 < k → sum = beG g (p - 4) 4 (nI 0)) (h0 : ¬ (p < n ∧ ¬ (g p).toNat = 0)) : (0 < k ∧ EndOk n g p k) ↔ EndR n g base p k sum := by
  constructor
  · rintro ⟨a0, a1, a2, a3, a4⟩
    exact ⟨by omega, a1, a3, by rw [hs a0]; exact a4.symm, hb⟩
  · rintro ⟨a0, a1, a2, a3, a4⟩
    refine ⟨by omega, a1, ?_, a2, ?_⟩
    · exact Classical.not_not.mp (fun q => h0 ⟨by omega, q⟩)
    · rw [← hs (by omega)]; exact a3.symm
theorem scan_eq (n : Nat) (g : Nat → UInt8) (base : Nat) : ∀ (f p k : Nat) (sb sum : Int32), k + f = 16 → base + k ≤ 600 → (0 < k → sum = beG g (p - 4) 4 (nI 0)) → endS n g (scan n g base f p k sb) = (goodE n g base (scanR n g base (f + 1) p k sb sum)).map (fun o => o.1 + 6)
  | 0, p, k, sb, sum, hk, hb, hs => by
    rw [scanR_s]
    show (if 0 < k ∧ EndOk n g p k then some (p + 6) else none) = _
    by_cases z : p < n ∧ ¬ (g p).toNat = 0
    · rw [if_pos z, if_neg (fun q => z.2 q.2.2.1), if_neg (fun q => by have := q.2.2.1; omega)]
      rfl
    · rw [if_neg z, goodE_s]
      by_cases y : 0 < k ∧ EndOk n g p k
      · rw [if_pos y, if_pos ((end_eq hb hs z).mp y)]; rfl
      · rw [if_neg y, if_neg (fun q => y ((end_eq hb hs z).mpr q))]; rfl
  | f + 1, p, k, sb, sum, hk, hb, hs => by
    rw [scan_s, scanR_s]
    by_cases z : p < n ∧ ¬ (g p).toNat = 0
    · have z2 : p < n ∧ 0 < (g p).toNat := ⟨z.1, by omega⟩
      rw [if_pos z, if_pos z2]
      have hrow := row_eq (n := n) (g := g) (p := p) (m := base + k) (k := k) (sb := sb) (by omega) z2.2
      by_cases y : RowOk n g p (base + k) sb
      · obtain ⟨y1, y2⟩ := hrow.mp y
        rw [if_pos y, if_pos y1, Nat.add_comm 11]
        exact scan_eq n g base f _ _ _ _ (by omega) (by omega) (fun _ => by
          rw [y1.2.2.2.1]
          congr 1
          omega)
      · rw [if_neg y]
        by_cases x : RowR n g p (base + k) k sb
        · have : ¬ base + k < 600 := fun q => y (hrow.mpr ⟨x, q⟩)
          rw [if_pos x, goodE_600 (by omega)]
          rfl
        · rw [if_neg x]
          rfl
    · have z2 : ¬ (p < n ∧ 0 < (g p).toNat) := fun q => z ⟨q.1, by omega⟩
      rw [if_neg z, if_neg z2, goodE_s]
      show (if 0 < k ∧ EndOk n g p k then some (p + 6) else none) = _
      by_cases y : 0 < k ∧ EndOk n g p k
      · rw [if_pos y, if_pos ((end_eq hb hs z).mp y)]; rfl
      · rw [if_neg y, if_neg (fun q => y ((end_eq hb hs z).mpr q))]; rfl
theorem end_good {n : Nat} {g : Nat → UInt8} {base : Nat} {sb : Int32} {p : Nat} (hb : base ≤ 600) : endG n g base sb p = (goodR n g base sb p).map (fun o => o.1 + 6) :=
  scan_eq n g base 16 p 0 sb (nI 0) rfl hb (fun h => absurd h (by omega))
theorem goodR_k {n : Nat} {g : Nat → UInt8} {base : Nat} {sb : Int32} {p p1 k1 : Nat} (h : goodR n g base sb p = some (p1, k1)) : (g (p1 + 1)).toNat = k1 := by
  unfold goodR at h
  cases hs : scanR n g base 17 p 0 sb (nI 0) with
  | none => rw [hs] at h; cases h
  | some o =>
    obtain ⟨p', k', sum'⟩ := o
    rw [hs, goodE_s] at h
    by_cases y : EndR n g base p' k' sum'
    · rw [if_pos y] at h
      cases h
      exact y.2.2.1
    · rw [if_neg y] at h
      cases h
theorem goodR_some {n : Nat} {g : Nat → UInt8} {base s0 : Nat} {p p1 k1 : Nat} (hb : base ≤ 600) (hs : s0 ≤ 1000000000) (h : goodR n g base (nI s0) p = some (p1, k1)) : 0 < k1 ∧ k1 ≤ 16 ∧ p + 18 ≤ p1 + 6 ∧ p1 + 6 ≤ n ∧ base + k1 ≤ 600 ∧ GR n g p k1 := by
  have e : endG n g base (nI s0) p = some (p1 + 6) := by rw [end_good hb, h]; rfl
  have hk := goodR_k h
  obtain ⟨a1, a2, a3, a4, a5, a6⟩ := endG_some hs e
  rw [show p1 + 6 - 6 + 1 = p1 + 1 by omega, hk] at a1 a2 a5 a6
  exact ⟨a1, a2, a3, a4, a5, a6⟩
theorem goodR_600 {n : Nat} {g : Nat → UInt8} {base s0 : Nat} {p : Nat} (hb : base = 600) (hs : s0 ≤ 1000000000) : goodR n g base (nI s0) p = none := by
  cases h : goodR n g base (nI s0) p with
  | none => rfl
  | some o =>
    obtain ⟨p1, k1⟩ := o
    have := goodR_some (by omega) hs h
    omega
/-- the reference's state of opening -/
abbrev RT : Type := (Nat → UInt8) × Nat × (Nat → Nat) × (Nat → Nat) × (Nat → UInt8) × (Nat → Nat) × (Nat → Nat) × Nat × Nat × Nat × Nat × Nat
abbrev qB (t : RT) : Nat → UInt8 := t.1
abbrev qC (t : RT) : Nat := t.2.1
abbrev qS (t : RT) : Nat → Nat := t.2.2.1
abbrev qL (t : RT) : Nat → Nat := t.2.2.2.1
abbrev qK (t : RT) : Nat → UInt8 := t.2.2.2.2.1
abbrev qGr (t : RT) : Nat → Nat := t.2.2.2.2.2.1
abbrev qGb (t : RT) : Nat → Nat := t.2.2.2.2.2.2.1
abbrev qNg (t : RT) : Nat := t.2.2.2.2.2.2.2.1
abbrev qRp (t : RT) : Nat := t.2.2.2.2.2.2.2.2.1
abbrev qP (t : RT) : Nat := t.2.2.2.2.2.2.2.2.2.1
abbrev qSr (t : RT) : Nat := t.2.2.2.2.2.2.2.2.2.2.1
abbrev qSb (t : RT) : Nat := t.2.2.2.2.2.2.2.2.2.2.2
def gdR (z : Nat → Nat) (t : RT) (f : Nat) : Option (Nat × Nat) := goodR (z f) (fl (qB t) f) (qC t) (nI (lastS (qC t) (qS t))) (qP t)
def tkF (z : Nat → Nat) (f : Nat) (t : RT) (pk : Nat × Nat) : RT := match t with
  | (B, kn, S, Ln, K, gr, gb, ng, rp, p, _, _) => (cpB f (pk.1 + 6 - p) p B, kn + pk.2, rdS (fl B f) pk.2 p kn S, rdL (fl B f) pk.2 p kn Ln, rdK (fl B f) pk.2 p kn K, va_up gr ng pk.2, va_up gb ng (pk.1 + 6 - p), ng + 1, rp + (if arS B z p (p + (pk.1 + 6 - p) - p) = true then 0 else 1), p + (pk.1 + 6 - p), pk.2, pk.1 + 6 - p)
def stepR (z : Nat → Nat) (t : RT) : Option RT := match gdR z t 0 with
  | some pk => some (tkF z 0 t pk)
  | none => match gdR z t 1 with
    | some pk => some (tkF z 1 t pk)
    | none => none
def loopR (z : Nat → Nat) : Nat → RT → RT
  | 0, t => t
  | f + 1, t => match stepR z t with
    | none => t
    | some u => loopR z f u
theorem loopR_none {z : Nat → Nat} {f : Nat} {t : RT} (h : stepR z t = none) : loopR z f t = t := by
  cases f with
  | zero => rfl
  | succ f => show (match stepR z t with | none => t | some u => loopR z f u) = t; rw [h]
theorem loopR_some {z : Nat → Nat} {f : Nat} {t u : RT} (h : stepR z t = some u) : loopR z (f + 1) t = loopR z f u := by
  show (match stepR z t with | none => t | some u => loopR z f u) = _
  rw [h]
theorem stepR_0 {z : Nat → Nat} {t : RT} {pk : Nat × Nat} (h : gdR z t 0 = some pk) : stepR z t = some (tkF z 0 t pk) := by unfold stepR; rw [h]
theorem stepR_1 {z : Nat → Nat} {t : RT} {pk : Nat × Nat} (h0 : gdR z t 0 = none) (h : gdR z t 1 = some pk) : stepR z t = some (tkF z 1 t pk) := by unfold stepR; rw [h0, h]
theorem stepR_n {z : Nat → Nat} {t : RT} (h0 : gdR z t 0 = none) (h : gdR z t 1 = none) : stepR z t = none := by unfold stepR; rw [h0, h]
def ROK (t : RT) : Prop := qC t ≤ 600 ∧ qP t ≤ 8192 ∧ lastS (qC t) (qS t) ≤ 1000000000 ∧ qNg t ≤ qC t
theorem tkF_ok {z : Nat → Nat} {f : Nat} {t : RT} {pk : Nat × Nat} (hz : z f ≤ 8192) (h : ROK t) (hg : gdR z t f = some pk) : ROK (tkF z f t pk) := by
  obtain ⟨B, kn, S, Ln, K, gr, gb, ng, rp, p, sr, sb⟩ := t
  obtain ⟨p1, k1⟩ := pk
  obtain ⟨h1, h2, h3, h4⟩ := h
  change kn ≤ 600 at h1
  change p ≤ 8192 at h2
  change lastS kn S ≤ 1000000000 at h3
  change ng ≤ kn at h4
  change goodR (z f) (fl B f) kn (nI (lastS kn S)) p = some (p1, k1) at hg
  obtain ⟨a1, a2, a3, a4, a5, a6⟩ := goodR_some h1 h3 hg
  refine ⟨a5, ?_, rdS_last a6 a1, ?_⟩
  · show p + (p1 + 6 - p) ≤ 8192
    omega
  · show ng + 1 ≤ kn + k1
    omega
