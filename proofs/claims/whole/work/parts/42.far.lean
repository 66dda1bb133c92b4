/-! what a register tells far on: sums against a row that keeps to the register -/
theorem cg_add {P a b c d : Int} (h1 : a % P = b % P) (h2 : c % P = d % P) : (a + c) % P = (b + d) % P := by rw [Int.add_emod, h1, h2, ← Int.add_emod]
theorem cg_sub {P a b c d : Int} (h1 : a % P = b % P) (h2 : c % P = d % P) : (a - c) % P = (b - d) % P := by rw [Int.sub_emod, h1, h2, ← Int.sub_emod]
theorem cg_mul {P a b c d : Int} (h1 : a % P = b % P) (h2 : c % P = d % P) : (a * c) % P = (b * d) % P := by rw [Int.mul_emod, h1, h2, ← Int.mul_emod]
theorem cg_m (P a : Int) : a % P % P = a % P := Int.emod_emod a P
theorem smN_add (f g : Int → Int) : ∀ n : Nat, smN (fun i => f i + g i) n = smN f n + smN g n
  | 0 => rfl
  | n + 1 => by
    show smN (fun i => f i + g i) n + (f n + g n) = (smN f n + f n) + (smN g n + g n)
    rw [smN_add f g n]; omega
theorem sm_add (f g : Int → Int) (n : Int) : sm (fun i => f i + g i) n = sm f n + sm g n := smN_add f g _
theorem smN_mulc (c : Int) (f : Int → Int) : ∀ n : Nat, smN (fun i => c * f i) n = c * smN f n
  | 0 => (Int.mul_zero c).symm
  | n + 1 => by
    show smN (fun i => c * f i) n + c * f n = c * (smN f n + f n)
    rw [smN_mulc c f n, Int.mul_add]
theorem sm_mulc (c : Int) (f : Int → Int) (n : Int) : sm (fun i => c * f i) n = c * sm f n := smN_mulc c f _
theorem smN_cg {P : Int} {f g : Int → Int} : ∀ {n : Nat}, (∀ i : Int, 0 ≤ i → i < n → f i % P = g i % P) → smN f n % P = smN g n % P
  | 0, _ => rfl
  | n + 1, h => cg_add (smN_cg (fun i a b => h i a (by omega))) (h n (by omega) (by omega))
theorem sm_cg {P n : Int} {f g : Int → Int} (h : ∀ i : Int, 0 ≤ i → i < n → f i % P = g i % P) : sm f n % P = sm g n % P := smN_cg (fun i a b => h i a (by omega))
theorem smN_uI (f T : Int → Int) (k v : Int) : ∀ n : Nat, smN (fun q => uI f k v q * T q) n = smN (fun q => f q * T q) n + (if 0 ≤ k ∧ k < n then (v - f k) * T k else 0)
  | 0 => by rw [if_neg (by omega)]; rfl
  | n + 1 => by
    show smN (fun q => uI f k v q * T q) n + uI f k v n * T n = (smN (fun q => f q * T q) n + f n * T n) + _
    rw [smN_uI f T k v n]
    by_cases h : (n : Int) = k
    · rw [← h, uI_s, if_neg (by omega), if_pos (by omega), Int.sub_mul]; omega
    · rw [uI_n h]
      by_cases h2 : 0 ≤ k ∧ k < n
      · rw [if_pos h2, if_pos (by omega)]; omega
      · rw [if_neg h2, if_neg (by omega)]; omega
theorem sm_uI (f T : Int → Int) {k v n : Int} (h : 0 ≤ k ∧ k < n) : sm (fun q => uI f k v q * T q) n = sm (fun q => f q * T q) n + (v - f k) * T k := by
  unfold sm
  rw [smN_uI f T k v n.toNat, if_pos (by omega)]
theorem smN_zero : ∀ n : Nat, smN (fun _ => 0) n = 0
  | 0 => rfl
  | n + 1 => by show smN (fun _ => 0) n + 0 = 0; rw [smN_zero n]; rfl
theorem sm_zero {f : Int → Int} {n : Int} (h : ∀ i : Int, 0 ≤ i → i < n → f i = 0) : sm f n = 0 := (sm_congr h).trans (smN_zero _)
theorem smN_first (f : Int → Int) : ∀ n : Nat, smN f (n + 1) = f 0 + smN (fun i => f (i + 1)) n
  | 0 => by show (0 : Int) + f 0 = f 0 + 0; omega
  | n + 1 => by
    show smN f (n + 1) + f ((n + 1 : Nat) : Int) = f 0 + (smN (fun i => f (i + 1)) n + f ((n : Int) + 1))
    rw [smN_first f n, show ((n + 1 : Nat) : Int) = (n : Int) + 1 by omega]; omega
/-- the row goes on by the weights -/
def goesOn (P L : Int) (w S : Int → Int) : Prop := ∀ i : Int, L ≤ i → S i % P = sm (fun k => w (k + 1) * S (i - 1 - k)) L % P
def Rep (P L : Int) (S a : Int → Int) (n : Int) : Prop := ∀ t : Int, 0 ≤ t → sm (fun i => a i * S (t + i)) L % P = S (t + n) % P
theorem rep_sq {P L n bit : Int} {S a : Int → Int} (h : Rep P L S a n) (hn : 0 ≤ n) (hb : 0 ≤ bit) {t : Int} (ht : 0 ≤ t) : sm (fun i => sm (fun j => a i * a j * S (t + (i + j + bit))) L) L % P = S (t + (2 * n + bit)) % P := by
  have e1 : sm (fun i => sm (fun j => a i * a j * S (t + (i + j + bit))) L) L % P = sm (fun i => a i * S (t + bit + n + i)) L % P := by
    refine sm_cg (fun i h0 h1 => ?_)
    have e2 : sm (fun j => a i * a j * S (t + (i + j + bit))) L = a i * sm (fun j => a j * S (t + bit + i + j)) L := by
      rw [← sm_mulc]
      exact sm_congr (fun j _ _ => by rw [Int.mul_assoc, show t + (i + j + bit) = t + bit + i + j by omega])
    rw [e2]
    refine cg_mul rfl ?_
    rw [h (t + bit + i) (by omega), show t + bit + i + n = t + bit + n + i by omega]
  rw [e1, h (t + bit + n) (by omega), show t + bit + n + n = t + (2 * n + bit) by omega]
theorem half_step (n b : Int) (hb : 0 ≤ b) : n / 2 ^ b.toNat = 2 * (n / 2 ^ (b + 1).toNat) + n / 2 ^ b.toNat % 2 := by
  have e : n / 2 ^ (b + 1).toNat = n / 2 ^ b.toNat / 2 := by
    rw [show (b + 1).toNat = b.toNat + 1 by omega, Int.pow_succ, ← Int.ediv_ediv_of_nonneg]
    exact Int.pow_nonneg (by omega)
  rw [e]
  omega
theorem rep_1 {P L : Int} {S a : Int → Int} (h : ∀ j : Int, 0 ≤ j → j < 16 → a j = 0) (hL : 1 ≤ L ∧ L ≤ 16) : Rep P L S (uI a 0 1) 0 := by
  intro t ht
  have e : sm (fun i => uI a 0 1 i * S (t + i)) L = S (t + 0) := by
    rw [sm_uI a (fun i => S (t + i)) (by omega), h 0 (by omega) (by omega), sm_zero (fun i x y => by rw [h i x (by omega), Int.zero_mul])]
    omega
  rw [e]
theorem far_step {P L i k : Int} {w S pr1 : Int → Int} (hgo : goesOn P L w S) {t : Int} (ht : L ≤ t + i) (hi : 0 ≤ i) (hm : pr1 i % P % P = pr1 i % P) (hk : 1 ≤ k ∧ k ≤ L + 1) (hs : k = L + 1 ∨ pr1 i % P = 0) : (sm (fun q => pr1 q * S (t + q)) i + pr1 i % P * sm (fun u => w (u + 1) * (fun q => S (t + q)) (i - 1 - u)) (k - 1)) % P = (sm (fun q => pr1 q * S (t + q)) i + pr1 i * S (t + i)) % P := by
  refine cg_add rfl ?_
  rcases hs with q | q
  · rw [q, show L + 1 - 1 = L by omega]
    refine cg_mul hm ?_
    rw [hgo (t + i) ht]
    congr 1
    exact sm_congr (fun u x y => by dsimp only; rw [show t + (i - 1 - u) = t + i - 1 - u by omega])
  · rw [q, Int.zero_mul, Int.mul_emod, q, Int.zero_mul]
