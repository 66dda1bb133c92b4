/-! sums, powers, primes: plain words for what both classes reckon -/
def smN (f : Int → Int) : Nat → Int
  | 0 => 0
  | n + 1 => smN f n + f n
def sm (f : Int → Int) (n : Int) : Int := smN f n.toNat
theorem sm_0 (f : Int → Int) : sm f 0 = 0 := rfl
theorem sm_s (f : Int → Int) {n : Int} (h : 0 ≤ n) : sm f (n + 1) = sm f n + f n := by
  unfold sm
  rw [show (n + 1).toNat = n.toNat + 1 by omega]
  show smN f n.toNat + f (n.toNat : Int) = _
  rw [Int.toNat_of_nonneg h]
theorem smN_congr {f g : Int → Int} : ∀ {n : Nat}, (∀ i : Int, 0 ≤ i → i < n → f i = g i) → smN f n = smN g n
  | 0, _ => rfl
  | n + 1, h => by
    show smN f n + f n = smN g n + g n
    rw [smN_congr (fun i h1 h2 => h i h1 (by omega)), h n (by omega) (by omega)]
theorem sm_congr {f g : Int → Int} {n : Int} (h : ∀ i : Int, 0 ≤ i → i < n → f i = g i) : sm f n = sm g n := smN_congr (fun i h1 h2 => h i h1 (by omega))
theorem smN_bound {f : Int → Int} {B : Int} : ∀ {n : Nat}, (∀ i : Int, 0 ≤ i → i < n → 0 ≤ f i ∧ f i ≤ B) → 0 ≤ smN f n ∧ smN f n ≤ n * B
  | 0, _ => ⟨Int.le_refl 0, by rw [Int.ofNat_zero, Int.zero_mul]; exact Int.le_refl 0⟩
  | n + 1, h => by
    have h1 := smN_bound (n := n) (fun i a b => h i a (by omega))
    have h2 := h n (by omega) (by omega)
    show 0 ≤ smN f n + f n ∧ smN f n + f n ≤ _
    have e : ((n + 1 : Nat) : Int) * B = n * B + B := by rw [Int.natCast_add, Int.add_mul]; omega
    rw [e]
    omega
theorem sm_bound {f : Int → Int} {B n : Int} (hn : 0 ≤ n) (h : ∀ i : Int, 0 ≤ i → i < n → 0 ≤ f i ∧ f i ≤ B) : 0 ≤ sm f n ∧ sm f n ≤ n * B := by
  have := smN_bound (n := n.toNat) (B := B) (fun i a b => h i a (by omega))
  rw [Int.toNat_of_nonneg hn] at this
  exact this
theorem smN_mod (f : Int → Int) (P : Int) : ∀ n : Nat, smN (fun i => f i % P) n % P = smN f n % P
  | 0 => rfl
  | n + 1 => by
    show (smN (fun i => f i % P) n + f n % P) % P = (smN f n + f n) % P
    rw [Int.add_emod, smN_mod f P n, Int.emod_emod, ← Int.add_emod]
theorem sm_mod (f : Int → Int) (P n : Int) : sm (fun i => f i % P) n % P = sm f n % P := smN_mod f P n.toNat
def pwN (P v : Int) : Nat → Int
  | 0 => 1
  | n + 1 => pwN P v n * v % P
def pw (P v e : Int) : Int := pwN P v e.toNat
theorem pw_0 (P v : Int) : pw P v 0 = 1 := rfl
theorem pw_s (P v : Int) {e : Int} (h : 0 ≤ e) : pw P v (e + 1) = pw P v e * v % P := by
  unfold pw
  rw [show (e + 1).toNat = e.toNat + 1 by omega]
  rfl
theorem pwN_in {P : Int} (hP : 2 ≤ P) (v : Int) : ∀ n : Nat, 0 ≤ pwN P v n ∧ pwN P v n < P
  | 0 => by show (0 : Int) ≤ 1 ∧ (1 : Int) < P; omega
  | n + 1 => ⟨Int.emod_nonneg _ (by omega), Int.emod_lt_of_pos _ (by omega)⟩
theorem pw_in {P : Int} (hP : 2 ≤ P) (v e : Int) : 0 ≤ pw P v e ∧ pw P v e < P := pwN_in hP v _
theorem emB {P : Int} (hP : 0 < P) (a : Int) : 0 ≤ a % P ∧ a % P < P := ⟨Int.emod_nonneg a (by omega), Int.emod_lt_of_pos a hP⟩
theorem mulB {a b : Int} (h : 0 ≤ a ∧ a ≤ 1000 ∧ 0 ≤ b ∧ b ≤ 1000) : 0 ≤ a * b ∧ a * b ≤ 1000000 := ⟨Int.mul_nonneg h.1 h.2.2.1, Int.le_trans (Int.mul_le_mul_of_nonneg_left h.2.2.2 h.1) (by omega)⟩
/-- no divisor from 2 on whose square is at most n -/
def prmB (n : Int) : Bool := (List.range 32).all (fun d => decide ((d : Int) < 2) || decide (n < (d : Int) * d) || decide (n % (d : Int) ≠ 0))
abbrev prm (n : Int) : Prop := prmB n = true
theorem prm_no {n d : Int} (hn : n ≤ 997) (h2 : 2 ≤ d) (hd : d * d ≤ n) (h0 : n % d = 0) : ¬ prm n := by
  intro h
  have hd32 : d < 32 := by
    rcases Int.lt_or_le d 32 with q | q
    · exact q
    · have := Int.mul_le_mul q q (by omega) (by omega)
      omega
  obtain ⟨k, rfl⟩ := Int.eq_ofNat_of_zero_le (show 0 ≤ d by omega)
  have := List.all_eq_true.mp h k (List.mem_range.mpr (by omega))
  simp only [Bool.or_eq_true, decide_eq_true_eq] at this
  rcases this with (q | q) | q
  · omega
  · omega
  · exact q h0
theorem prm_yes {n d : Int} (h : ∀ j : Int, 2 ≤ j → j < d → n % j ≠ 0) (hd : n < d * d) (h2 : 2 ≤ d) : prm n := by
  refine List.all_eq_true.mpr (fun k hk => ?_)
  simp only [Bool.or_eq_true, decide_eq_true_eq]
  rcases Int.lt_or_le (k : Int) 2 with q | q
  · exact Or.inl (Or.inl q)
  · rcases Int.lt_or_le (k : Int) d with q2 | q2
    · exact Or.inr (h k q q2)
    · refine Or.inl (Or.inr ?_)
      have := Int.mul_le_mul q2 q2 (by omega) (by omega)
      omega
abbrev okP (P : Int) : Prop := 5 ≤ P ∧ P ≤ 997 ∧ prm P
theorem prm_div {P d : Int} (h : okP P) (h2 : 2 ≤ d) (hd : d < P) : P % d ≠ 0 := by
  intro h0
  have e := Int.mul_ediv_add_emod P d
  rw [h0, Int.add_zero] at e
  generalize hq : P / d = q at e
  have hq1 : 2 ≤ q := by
    rcases Int.lt_or_le q 2 with z | z
    · have h3 : d * q ≤ d * 1 := Int.mul_le_mul_of_nonneg_left (by omega) (by omega)
      omega
    · exact z
  rcases Int.le_total d q with z | z
  · exact prm_no h.2.1 h2 (by have := Int.mul_le_mul_of_nonneg_left z (show 0 ≤ d by omega); omega) h0 h.2.2
  · refine prm_no (d := q) h.2.1 hq1 (by have := Int.mul_le_mul_of_nonneg_right z (show 0 ≤ q by omega); omega) ?_ h.2.2
    rw [← e]
    exact Int.mul_emod_left d q
