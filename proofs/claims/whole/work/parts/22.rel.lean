abbrev CS : Type := Nat × Nat × Nat × Bool × Nat × Int32 × (Nat → UInt8) × Nat × (Nat → UInt8) × Nat × (Nat → UInt8) × Nat × (Nat → Nat) × (Nat → Nat) × (Nat → Bool) × (Nat → UInt8)
abbrev RS : Type := Nat × Nat × Nat × Nat × Nat × Bool × Nat × Int32 × Nat × Nat × Nat × Nat × (Nat → UInt8) × (Nat → Nat) × (Nat → Nat) × (Nat → Nat) × (Nat → UInt8) × (Nat → Nat) × (Nat → Nat) × (Nat → Nat) × (Nat → Nat) × (Nat → UInt8) × (Nat → UInt8)
/-- the class's cells -/
abbrev WM (cB cI cZ : ClassId) (am : Nat → Nat) (x : CS) : va_W := [((am 0), .inr (3, [.ref (am 2), .ref (am 4), .ref (am 6), .ref (am 1), .int (nI x.1), .int (nI x.2.1), .int (nI x.2.2.1), .int (if x.2.2.2.1 = true then 1 else 0), .int (nI x.2.2.2.2.1), .int x.2.2.2.2.2.1])), ((am 1), .inl (cB, 64, .inl (bf x.2.2.2.2.2.2.1))), ((am 2), .inr (1, [.ref (am 3), .int (nI x.2.2.2.2.2.2.2.1)])), ((am 3), .inl (cB, 8192, .inl (bf x.2.2.2.2.2.2.2.2.1))), ((am 4), .inr (1, [.ref (am 5), .int (nI x.2.2.2.2.2.2.2.2.2.1)])), ((am 5), .inl (cB, 8192, .inl (bf x.2.2.2.2.2.2.2.2.2.2.1))), ((am 6), .inr (2, [.ref (am 7), .ref (am 8), .ref (am 9), .ref (am 10), .int (nI x.2.2.2.2.2.2.2.2.2.2.2.1)])), ((am 7), .inl (cI, 600, .inl (nf x.2.2.2.2.2.2.2.2.2.2.2.2.1))), ((am 8), .inl (cI, 600, .inl (nf x.2.2.2.2.2.2.2.2.2.2.2.2.2.1))), ((am 9), .inl (cZ, 600, .inl (zf x.2.2.2.2.2.2.2.2.2.2.2.2.2.2.1))), ((am 10), .inl (cB, 38400, .inl (bf x.2.2.2.2.2.2.2.2.2.2.2.2.2.2.2)))]
/-- the reference's cells -/
abbrev WR (cI : ClassId) (ar : Nat → Nat) (x : RS) : va_W := [((ar 0), .inr (4, [.ref (ar 1), .ref (ar 2), .ref (ar 3), .ref (ar 4), .ref (ar 5), .int (nI x.1), .int (nI x.2.1), .ref (ar 6), .ref (ar 7), .int (nI x.2.2.1), .ref (ar 8), .ref (ar 9), .ref (ar 10), .int (nI x.2.2.2.1), .ref (ar 11), .int (nI x.2.2.2.2.1), .int (if x.2.2.2.2.2.1 = true then 1 else 0), .int (nI x.2.2.2.2.2.2.1), .int x.2.2.2.2.2.2.2.1, .int (nI x.2.2.2.2.2.2.2.2.1), .int (nI x.2.2.2.2.2.2.2.2.2.1), .int (nI x.2.2.2.2.2.2.2.2.2.2.1), .int (nI x.2.2.2.2.2.2.2.2.2.2.2.1)])), ((ar 1), .inl (cI, 16384, .inl (uf x.2.2.2.2.2.2.2.2.2.2.2.2.1))), ((ar 2), .inl (cI, 2, .inl (nf x.2.2.2.2.2.2.2.2.2.2.2.2.2.1))), ((ar 3), .inl (cI, 600, .inl (nf x.2.2.2.2.2.2.2.2.2.2.2.2.2.2.1))), ((ar 4), .inl (cI, 600, .inl (nf x.2.2.2.2.2.2.2.2.2.2.2.2.2.2.2.1))), ((ar 5), .inl (cI, 38400, .inl (uf x.2.2.2.2.2.2.2.2.2.2.2.2.2.2.2.2.1))), ((ar 6), .inl (cI, 600, .inl (nf x.2.2.2.2.2.2.2.2.2.2.2.2.2.2.2.2.2.1))), ((ar 7), .inl (cI, 600, .inl (nf x.2.2.2.2.2.2.2.2.2.2.2.2.2.2.2.2.2.2.1))), ((ar 8), .inl (cI, 16, .inl (nf x.2.2.2.2.2.2.2.2.2.2.2.2.2.2.2.2.2.2.2.1))), ((ar 9), .inl (cI, 16, .inl (nf x.2.2.2.2.2.2.2.2.2.2.2.2.2.2.2.2.2.2.2.2.1))), ((ar 10), .inl (cI, 1024, .inl (uf x.2.2.2.2.2.2.2.2.2.2.2.2.2.2.2.2.2.2.2.2.2.1))), ((ar 11), .inl (cI, 64, .inl (uf x.2.2.2.2.2.2.2.2.2.2.2.2.2.2.2.2.2.2.2.2.2.2)))]
/-- a call on both sides with one answer, after which both are related again -/
def Op2 (Rel : CS → RS → Prop) (l : Launch) (D : va_G) (cB cI cZ cJ : ClassId) (am ar : Nat → Nat) (yM : MethodName) (wM : List Cond) (rM : Room) (yR : MethodName) (wR : List Cond) (rR : Room) (as : List Value) (x : CS) (y : RS) : Prop :=
  ∃ (x' : CS) (y' : RS) (r : Int32), Ct l D vwCl (tyl cB cI cZ cJ) yM wM rM (.ref (am 0) :: as) (WM cB cI cZ am x) (some (.int r)) (WM cB cI cZ am x') ∧ Ct l D vwCl (tyl cB cI cZ cJ) yR wR rR (.ref (ar 0) :: as) (WR cI ar y) (some (.int r)) (WR cI ar y') ∧ Rel x' y'
/-- the groups in the files: numbers of rows and bytes, the rows' flags -/
def Grp (Z : Nat → Bool) (Ln gr gb : Nat → Nat) (ng mv kn : Nat) : Prop :=
  mv + smN gr ng = kn ∧ ∀ i, i < ng → 0 < gr i ∧ gb i = rsz Ln (mv + smN gr i) (gr i) + 6 ∧ ∀ j, j < gr i → (Z (mv + smN gr i + j) = true ↔ j + 1 = gr i)
/-- class and reference hold the same log -/
def Rel (x : CS) (y : RS) : Prop := match x, y with
  | (fc, mv, kn, sh, rp, bad, F, n, g, n2, g2, c, S, Ln, Z, K), (kn', mv', ng, nr, fc', sh', rp', bad', _, _, _, _, B, z, S', L', K', gr, gb, nS, nL, nK, F') =>
    (fc' = fc ∧ fc ≤ 64 ∧ ∀ j, j < fc → F' j = F j) ∧
    (mv' = mv ∧ kn' = kn ∧ mv ≤ kn ∧ c = kn + nr ∧ nr ≤ 16 ∧ c ≤ 600 ∧ sh' = sh ∧ rp' = rp ∧ bad' = bad) ∧
    (z 0 = n ∧ z 1 = n2 ∧ n ≤ 8192 ∧ n2 ≤ 8192 ∧ (∀ j, j < n → B j = g j) ∧ ∀ j, j < n2 → B (8192 + j) = g2 j) ∧
    (∀ r, r < kn → S' r = S r ∧ L' r = Ln r ∧ ∀ j, j < Ln r → K' (r * 64 + j) = K (r * 64 + j)) ∧
    (∀ i, i < nr → nS i = S (kn + i) ∧ nL i = Ln (kn + i) ∧ Z (kn + i) = false ∧ ∀ j, j < nL i → nK (i * 64 + j) = K ((kn + i) * 64 + j)) ∧
    (∀ r, r < c → Ln r ≤ 64 ∧ S r ≤ 1000000000 ∧ ∀ q, q ≤ r → S q ≤ S r) ∧
    Grp Z Ln gr gb ng mv kn ∧ (sh = false → n = n2 ∧ n = smN gb ng)
theorem rsz_le (Ln : Nat → Nat) : ∀ (k r : Nat), (∀ i, r ≤ i → i < r + k → Ln i ≤ 64) → rsz Ln r k ≤ 75 * k
  | 0, _, _ => Nat.zero_le _
  | k + 1, r, h => by
    rw [rsz_s]
    have h1 := rsz_le Ln k (r + 1) (fun i a b => h i (by omega) (by omega))
    have h2 := h r (by omega) (by omega)
    omega
theorem rsz_eq (La Lb : Nat → Nat) : ∀ (k r q : Nat), (∀ i, i < k → La (r + i) = Lb (q + i)) → rsz La r k = rsz Lb q k
  | 0, _, _, _ => rfl
  | k + 1, r, q, h => by
    rw [rsz_s, rsz_s, rsz_eq La Lb k (r + 1) (q + 1) (fun i hi => by rw [show r + 1 + i = r + (i + 1) by omega, show q + 1 + i = q + (i + 1) by omega]; exact h (i + 1) (by omega))]
    have := h 0 (by omega)
    rw [Nat.add_zero, Nat.add_zero] at this
    rw [this]
theorem bsz_f (Ln : Nat → Nat) (Z : Nat → Bool) : ∀ (k p a : Nat), (∀ i, i < k → Z (p + i) = false) → bsz Ln Z p k a = a + rsz Ln p k
  | 0, _, _, _ => rfl
  | k + 1, p, a, h => by
    have h0 := h 0 (by omega)
    rw [Nat.add_zero] at h0
    rw [bsz_s, bsz_f Ln Z k (p + 1) _ (fun i hi => by rw [show p + 1 + i = p + (i + 1) by omega]; exact h (i + 1) (by omega)), rsz_s, h0]
    simp
    omega
theorem nI_m {a : Nat} (h : a < 2 ^ 31) : ¬ nI a < 0 := nI_pos h
section OPS
variable {l : Launch} {D : va_G} {cB cI cZ cJ : ClassId} {am ar : Nat → Nat} {x : CS} {y : RS}
theorem op_repaired (h : Rel x y) : Op2 Rel l D cB cI cZ cJ am ar yX3_repaired wsX3_repaired rmX3_repaired yX4_repaired wsX4_repaired rmX4_repaired [] x y := by
  obtain ⟨fc, mv, kn, sh, rp, bad, F, n, g, n2, g2, c, S, Ln, Z, K⟩ := x
  obtain ⟨kn', mv', ng, nr, fc', sh', rp', bad', th, sr, sb, at9, B, z, S', L', K', gr, gb, nS, nL, nK, F'⟩ := y
  obtain ⟨h1, ⟨rfl, rfl, h2, h3, h4, h5, rfl, rfl, rfl⟩, h6⟩ := h
  exact ⟨(fc, mv', kn', sh', rp', bad', F, n, g, n2, g2, c, S, Ln, Z, K), (kn', mv', ng, nr, fc', sh', rp', bad', 0, sr, sb, at9, B, z, S', L', K', gr, gb, nS, nL, nK, F'), nI rp', c_X3_repaired l D cB cI cZ cJ _ _ _ _ _ _ _ _ _ _ _ _ _ _ _ _ _ _ _ _ _ _ _ _ _ _ _, c_X4_repaired l D cB cI cZ cJ _ _ _ _ _ _ _ _ _ _ _ _ _ _ _ _ _ _ _ _ _ _ _ _ _ _ _ _ _ _ _ _ _ _ _, h1, ⟨rfl, rfl, h2, h3, h4, h5, rfl, rfl, rfl⟩, h6⟩
theorem op_badAt (h : Rel x y) : Op2 Rel l D cB cI cZ cJ am ar yX3_badAt wsX3_badAt rmX3_badAt yX4_badAt wsX4_badAt rmX4_badAt [] x y := by
  obtain ⟨fc, mv, kn, sh, rp, bad, F, n, g, n2, g2, c, S, Ln, Z, K⟩ := x
  obtain ⟨kn', mv', ng, nr, fc', sh', rp', bad', th, sr, sb, at9, B, z, S', L', K', gr, gb, nS, nL, nK, F'⟩ := y
  obtain ⟨h1, ⟨rfl, rfl, h2, h3, h4, h5, rfl, rfl, rfl⟩, h6⟩ := h
  exact ⟨(fc, mv', kn', sh', rp', bad', F, n, g, n2, g2, c, S, Ln, Z, K), (kn', mv', ng, nr, fc', sh', rp', bad', 0, sr, sb, at9, B, z, S', L', K', gr, gb, nS, nL, nK, F'), bad', c_X3_badAt l D cB cI cZ cJ _ _ _ _ _ _ _ _ _ _ _ _ _ _ _ _ _ _ _ _ _ _ _ _ _ _ _, c_X4_badAt l D cB cI cZ cJ _ _ _ _ _ _ _ _ _ _ _ _ _ _ _ _ _ _ _ _ _ _ _ _ _ _ _ _ _ _ _ _ _ _ _, h1, ⟨rfl, rfl, h2, h3, h4, h5, rfl, rfl, rfl⟩, h6⟩
end OPS
