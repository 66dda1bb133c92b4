/-! the inverse by a power: every prime up to 997, every number, by reckoning -/
def prmN (n : Nat) : Bool := (List.range 32).all (fun d => Nat.ble d 1 || Nat.blt n (d * d) || !(Nat.beq (n % d) 0))
def fmRow (p : Nat) : Nat → Bool
  | 0 => true
  | v + 1 => Nat.beq ((v + 1) * ((v + 1) ^ (p - 2) % p) % p) 1 && fmRow p v
def fmAll : Nat → Bool
  | 0 => true
  | n + 1 => (!(Nat.ble 5 n) || !(prmN n) || fmRow n (n - 1)) && fmAll n
set_option maxRecDepth 100000 in
theorem fm_all : fmAll 998 = true := by decide +kernel
theorem fm_row {p : Nat} : ∀ {m : Nat}, fmRow p m = true → ∀ v : Nat, 1 ≤ v → v ≤ m → v * (v ^ (p - 2) % p) % p = 1
  | 0, _, v, h1, h2 => by omega
  | m + 1, h, v, h1, h2 => by
    have h3 : (Nat.beq ((m + 1) * ((m + 1) ^ (p - 2) % p) % p) 1 && fmRow p m) = true := h
    rw [Bool.and_eq_true] at h3
    rcases Nat.lt_or_ge v (m + 1) with q | q
    · exact fm_row h3.2 v h1 (by omega)
    · rw [show v = m + 1 by omega]
      exact Nat.eq_of_beq_eq_true h3.1
theorem fm_at : ∀ {n : Nat}, fmAll n = true → ∀ p : Nat, p < n → 5 ≤ p → prmN p = true → fmRow p (p - 1) = true
  | 0, _, p, h, _, _ => by omega
  | n + 1, h, p, hp, h5, hq => by
    have h3 : ((!(Nat.ble 5 n) || !(prmN n) || fmRow n (n - 1)) && fmAll n) = true := h
    rw [Bool.and_eq_true] at h3
    rcases Nat.lt_or_ge p n with q | q
    · exact fm_at h3.2 p q h5 hq
    · have e : p = n := by omega
      subst e
      have h4 := h3.1
      rw [hq, show Nat.ble 5 p = true from Nat.ble_eq_true_of_le h5] at h4
      simpa using h4
theorem prm_nat {p : Nat} (h : prm (p : Int)) : prmN p = true := by
  unfold prmN
  refine List.all_eq_true.mpr (fun d hd => ?_)
  have := List.all_eq_true.mp h d hd
  simp only [Bool.or_eq_true, decide_eq_true_eq] at this
  rcases this with (q | q) | q
  · rw [show Nat.ble d 1 = true from Nat.ble_eq_true_of_le (by omega)]; rfl
  · have e : p < d * d := by
      rw [← Int.natCast_mul] at q
      omega
    rw [show Nat.blt p (d * d) = true from Nat.ble_eq_true_of_le e]
    simp
  · have e : p % d ≠ 0 := fun z => q (by rw [← Int.natCast_emod, z]; rfl)
    have e2 : Nat.beq (p % d) 0 = false := by
      cases hb : Nat.beq (p % d) 0 with
      | false => rfl
      | true => exact absurd (Nat.eq_of_beq_eq_true hb) e
    rw [e2]
    simp
theorem ivF_in {P : Int} (h : 0 < P) (w : Int) : 0 ≤ ivF P w ∧ ivF P w < P := emB h _
theorem ivF_ok {P v : Int} (h : okP P) (h1 : 0 < v) (h2 : v < P) : v * ivF P v % P = 1 := by
  obtain ⟨p, rfl⟩ := Int.eq_ofNat_of_zero_le (show 0 ≤ P by omega)
  obtain ⟨n, rfl⟩ := Int.eq_ofNat_of_zero_le (show 0 ≤ v by omega)
  have r := fm_row (fm_at fm_all p (by omega) (by omega) (prm_nat h.2.2)) n (by omega) (by omega)
  unfold ivF
  rw [show ((p : Int) - 2).toNat = p - 2 by omega, ← Int.natCast_pow, ← Int.natCast_emod, ← Int.natCast_mul, ← Int.natCast_emod, r]
  rfl
theorem mod_z {P a b : Int} (h : okP P) (hab : a * b % P = 0) : a % P = 0 ∨ b % P = 0 := by
  by_cases ha : a % P = 0
  · exact Or.inl ha
  · refine Or.inr ?_
    have hb := emB (show 0 < P by omega) a
    have hi := ivF_ok h (show 0 < a % P by omega) hb.2
    have e : b % P = (ivF P (a % P) * (a * b)) % P := by
      have e1 : (ivF P (a % P) * (a * b)) % P = ((a % P * ivF P (a % P)) * b) % P := by
        rw [show ivF P (a % P) * (a * b) = (a * ivF P (a % P)) * b by grind]
        exact cg_mul (cg_mul (cg_m P a).symm rfl) rfl
      rw [e1, Int.mul_emod, hi, Int.one_mul, cg_m]
    rw [e, Int.mul_emod, hab, Int.mul_zero]
    rfl
theorem mod_cancel {P a x y : Int} (h : okP P) (ha : a % P ≠ 0) (he : a * x % P = a * y % P) : x % P = y % P := by
  have e : a * (x - y) % P = 0 := by
    rw [Int.mul_sub]
    exact Int.emod_eq_emod_iff_emod_sub_eq_zero.mp he
  rcases mod_z h e with q | q
  · exact absurd q ha
  · exact Int.emod_eq_emod_iff_emod_sub_eq_zero.mpr q
theorem mod_eq {P x y : Int} (hx : 0 ≤ x ∧ x < P) (hy : 0 ≤ y ∧ y < P) (h : x % P = y % P) : x = y := by
  rw [Int.emod_eq_of_lt hx.1 hx.2, Int.emod_eq_of_lt hy.1 hy.2] at h
  exact h
theorem tbl_tbF {P : Int} {iv : Int → Int} (h : okP P) (ht : tbl P iv) : tbF P iv := by
  intro w h1 h2
  obtain ⟨a, b, c⟩ := ht w h1 h2
  refine ⟨a, b, mod_eq ⟨a, b⟩ (ivF_in (by omega) w) (mod_cancel (a := w) h ?_ ?_)⟩
  · rw [Int.emod_eq_of_lt (by omega) h2]; omega
  · rw [c, ivF_ok h h1 h2]
