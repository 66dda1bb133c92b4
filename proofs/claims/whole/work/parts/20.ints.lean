/-! ints of the machine as integers: iI z; arrays of ints as functions of integers: aI f; uI: one place changed -/
def iI (z : Int) : Int32 := Int32.ofInt z
theorem iI_toInt {z : Int} (h1 : -2147483648 ≤ z) (h2 : z < 2147483648) : (iI z).toInt = z := Int32.toInt_ofInt_of_le (by omega) (by omega)
theorem iI_ex (x : Int32) : ∃ z : Int, x = iI z ∧ -2147483648 ≤ z ∧ z < 2147483648 := ⟨x.toInt, (Int32.ofInt_toInt x).symm, by have := x.le_toInt; omega, by have := x.toInt_lt; omega⟩
theorem iI_add (a b : Int) : iI a + iI b = iI (a + b) := (Int32.ofInt_add a b).symm
theorem iI_sub (a b : Int) : iI a - iI b = iI (a - b) := (Int32.ofInt_sub a b).symm
theorem iI_mul (a b : Int) : iI a * iI b = iI (a * b) := (Int32.ofInt_mul a b).symm
theorem iI_nat (n : Nat) : Int32.ofNat n = iI n := Int32.ofInt_eq_ofNat.symm
theorem iI_le {a b : Int} (h : -2147483648 ≤ a ∧ a < 2147483648 ∧ -2147483648 ≤ b ∧ b < 2147483648) : iI a ≤ iI b ↔ a ≤ b := by
  rw [Int32.le_iff_toInt_le, iI_toInt h.1 h.2.1, iI_toInt h.2.2.1 h.2.2.2]
theorem iI_lt {a b : Int} (h : -2147483648 ≤ a ∧ a < 2147483648 ∧ -2147483648 ≤ b ∧ b < 2147483648) : iI a < iI b ↔ a < b := by
  rw [Int32.lt_iff_toInt_lt, iI_toInt h.1 h.2.1, iI_toInt h.2.2.1 h.2.2.2]
theorem iI_eq {a b : Int} (h : -2147483648 ≤ a ∧ a < 2147483648 ∧ -2147483648 ≤ b ∧ b < 2147483648) : iI a = iI b ↔ a = b := by
  rw [← Int32.toInt_inj, iI_toInt h.1 h.2.1, iI_toInt h.2.2.1 h.2.2.2]
theorem iI_div {a d : Int} (h : 0 ≤ a ∧ a < 2147483648 ∧ 0 < d ∧ d < 2147483648) : iI a / iI d = iI (a / d) := by
  have e1 : Int32.minValue.toInt = -2147483648 := by decide
  have e2 : Int32.maxValue.toInt = 2147483647 := by decide
  have := Int32.ofInt_tdiv (a := a) (b := d) (by omega) (by omega) (by omega) (by omega)
  rw [Int.tdiv_eq_ediv_of_nonneg h.1] at this
  exact this.symm
theorem iI_rem {a d : Int} (h : 0 ≤ a ∧ a < 2147483648 ∧ 0 < d ∧ d < 2147483648) : iI a - iI a / iI d * iI d = iI (a % d) := by
  rw [iI_div h, iI_mul, iI_sub, Int.emod_def, Int.mul_comm]
theorem iI_ne0 {d : Int} (h : 0 < d ∧ d < 2147483648) : ¬ iI d = 0 := by
  have e : (0 : Int32) = iI 0 := rfl
  rw [e, iI_eq (by omega)]; omega
theorem iI_clamp {z : Int} (h : 0 ≤ z ∧ z < 2147483648) : (iI z).toNatClampNeg = z.toNat := Int32.toNatClampNeg_ofInt_of_le (by omega) (by omega)
theorem iI_in {z : Int} {n : Nat} (h : 0 ≤ z ∧ z < n ∧ n < 2147483648) : vp_in (iI z) n := by
  have e : (0 : Int32) = iI 0 := rfl
  unfold vp_in
  rw [e, iI_lt (by omega), iI_clamp (by omega)]
  omega
theorem iI_shl : ∀ n, n < 32 → ((nI n &&& 31).toBitVec.smod 32).toNat = n := by decide
theorem iI_shr {z k : Int} (h : 0 ≤ z ∧ z < 2147483648 ∧ 0 ≤ k ∧ k < 32) : iI z >>> (iI k &&& 31) = iI (z / 2 ^ k.toNat) := by
  obtain ⟨n, rfl⟩ := Int.eq_ofNat_of_zero_le h.1
  obtain ⟨j, rfl⟩ := Int.eq_ofNat_of_zero_le h.2.2.1
  rw [← iI_nat, ← iI_nat]
  have := pk_shrN (n := n) (by omega) (nI j &&& 31) j (iI_shl j (by omega))
  refine this.trans ?_
  show Int32.ofNat _ = _
  rw [iI_nat]
  congr 1
theorem iI_and1 {z : Int} (h : 0 ≤ z ∧ z < 2147483648) : iI z &&& iI 1 = iI (z % 2) := by
  obtain ⟨n, rfl⟩ := Int.eq_ofNat_of_zero_le h.1
  rw [← iI_nat]
  have := pk_andN (n := n) (by omega) (m := iI 1) 1 (by decide)
  refine this.trans ?_
  show Int32.ofNat _ = _
  rw [iI_nat]
  congr 1
def bI (P : Prop) [Decidable P] : Int := if P then 1 else 0
theorem bI_t {P : Prop} [Decidable P] (h : P) : bI P = 1 := if_pos h
theorem bI_f {P : Prop} [Decidable P] (h : ¬ P) : bI P = 0 := if_neg h
theorem bI_nar (P : Prop) [Decidable P] : narrow .boolean (.int (iI (bI P))) = .int (iI (bI P)) := by
  by_cases h : P
  · rw [bI_t h]; decide
  · rw [bI_f h]; decide
def aI (f : Int → Int) : Nat → Int32 := fun i => iI (f i)
def uI (f : Int → Int) (k v : Int) : Int → Int := fun j => if j = k then v else f j
theorem uI_s {f : Int → Int} {k v : Int} : uI f k v k = v := if_pos rfl
theorem uI_n {f : Int → Int} {k v j : Int} (h : j ≠ k) : uI f k v j = f j := if_neg h
theorem aI_upd (f : Int → Int) {k : Int} (v : Int) (h : 0 ≤ k) : upd (aI f) k.toNat (iI v) = aI (uI f k v) := by
  funext j
  unfold upd aI uI
  by_cases hj : j = k.toNat
  · rw [if_pos hj, if_pos (by omega)]
  · rw [if_neg hj, if_neg (by omega)]
def cpI (f g : Int → Int) (n : Int) : Int → Int := fun j => if j < n then f j else g j
theorem aI_cpy (f g : Int → Int) (n : Nat) : va_cpy (aI f) (aI g) 0 0 n = aI (cpI f g n) := by
  funext j
  unfold va_cpy aI cpI
  by_cases hj : j < n
  · rw [if_pos (by omega), if_pos (by omega)]
    congr 2
    omega
  · rw [if_neg (by omega), if_neg (by omega)]
theorem aI_0 : (fun _ : Nat => (0 : Int32)) = aI (fun _ => 0) := rfl
