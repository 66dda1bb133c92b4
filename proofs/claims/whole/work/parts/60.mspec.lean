/-! the reference's rows -/
def mB (f : Int → Int) (b : Int) : Int → Int := fun t => f (4 * b + t)
theorem mB_at (f : Int → Int) (b q : Int) : mB f b (q - 4 * b) = f q := by unfold mB; rw [show 4 * b + (q - 4 * b) = q by omega]
def mbOK (P n : Int) (co ex ey ez : Int → Int) : Prop := ∀ t : Int, 0 ≤ t → t < n → (0 ≤ co t ∧ co t < P) ∧ (0 ≤ ex t ∧ ex t ≤ 4) ∧ (0 ≤ ey t ∧ ey t ≤ 4) ∧ (0 ≤ ez t ∧ ez t ≤ 4)
theorem pow_sq (a : Int) (n : Nat) : (a * a) ^ n = a ^ n * a ^ n := by
  induction n with
  | zero => rw [Int.pow_zero, Int.pow_zero]; rfl
  | succ n ih => rw [Int.pow_succ, Int.pow_succ, ih]; grind
theorem half_pow {P r b e V : Int} (he : 0 ≤ e) (h : r * b ^ e.toNat % P = V) : (if e % 2 = 1 then r * b % P else r) * (b * b % P) ^ (e / 2).toNat % P = V := by
  rw [← h]
  have e1 : (b * b % P) ^ (e / 2).toNat % P = (b * b) ^ (e / 2).toNat % P := pow_cg (cg_m _ _) _
  by_cases q : e % 2 = 1
  · rw [if_pos q, cg_mul (cg_m P (r * b)) e1, pow_sq, show e.toNat = (e / 2).toNat + (e / 2).toNat + 1 by omega, Int.pow_succ, Int.pow_add]
    congr 1
    grind
  · rw [if_neg q, cg_mul rfl e1, pow_sq, show e.toNat = (e / 2).toNat + (e / 2).toNat by omega, Int.pow_add]
def mgR (rs : RS) (cr fr : Int → Int) (L f m : Int) : Prop := L = rs.2.2.1 ∧ f = rs.2.2.2.1 ∧ m = rs.2.2.2.2 ∧ ∀ j : Int, 0 ≤ j → j < 40 → cr j = rs.1 j ∧ fr j = rs.2.1 j
theorem mg_next {P n : Int} {row cr fr : Int → Int} {L f m : Int} (hn : 0 ≤ n) (h : mgR (bmS P row n (bm P row n.toNat)) cr fr L f m) : mgR (bm P row (n + 1).toNat) cr fr L f m := by
  rw [show (n + 1).toNat = n.toNat + 1 by omega]
  show mgR (bmS P row (n.toNat : Int) (bm P row n.toNat)) _ _ _ _ _
  rw [Int.toNat_of_nonneg hn]
  exact h
theorem mg_add {P n by_ : Int} {rs : RS} {cr fr cr2 : Int → Int} {L f m : Int} (hI : bmI P n rs) (hR : mgR rs cr fr L f m) (h2 : ∀ j : Int, 0 ≤ j → j < 40 → cr2 j = if m ≤ j then (cr j + (P - by_) * fr (j - m)) % P else cr j) : ∀ j : Int, 0 ≤ j → j < 40 → cr2 j = (rs.1 j + (P - by_) * rs.2.1 (j - rs.2.2.2.2)) % P := by
  obtain ⟨h3, h4, h5, hj⟩ := hR
  obtain ⟨⟨a1, a2, a3, a4, a5, a6⟩, hc, hf, hz, hcL, hfL⟩ := hI
  intro j h0 h1
  rw [h2 j h0 h1, ← h5]
  by_cases q : m ≤ j
  · rw [if_pos q, (hj j h0 h1).1, (hj (j - m) (by omega) (by omega)).2]
  · rw [if_neg q, (hj j h0 h1).1, (hz (j - m) (by omega)).2, Int.mul_zero, Int.add_zero]
    exact (Int.emod_eq_of_lt (hc j).1 (hc j).2).symm
