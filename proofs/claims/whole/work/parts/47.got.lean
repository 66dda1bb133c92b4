/-! keys, roots, coefficients -/
theorem pwN_eq {P : Int} (hP : 2 ≤ P) (v : Int) : ∀ n : Nat, pwN P v n = v ^ n % P
  | 0 => by show (1 : Int) = v ^ 0 % P; rw [Int.pow_zero]; exact (Int.emod_eq_of_lt (by omega) (by omega)).symm
  | n + 1 => by
    show pwN P v n * v % P = v ^ (n + 1) % P
    rw [pwN_eq hP v n, Int.pow_succ]
    exact cg_mul (cg_m _ _) rfl
theorem pw_eq {P : Int} (hP : 2 ≤ P) (v e : Int) : pw P v e = v ^ e.toNat % P := pwN_eq hP v _
theorem pow_cg {P a b : Int} (h : a % P = b % P) : ∀ n : Nat, a ^ n % P = b ^ n % P
  | 0 => by rw [Int.pow_zero, Int.pow_zero]
  | n + 1 => by rw [Int.pow_succ, Int.pow_succ]; exact cg_mul (pow_cg h n) h
theorem pw_mod {P : Int} (hP : 2 ≤ P) (v e : Int) : pw P (v % P) e = pw P v e := by
  rw [pw_eq hP, pw_eq hP]; exact pow_cg (cg_m P v) _
def gw (P : Int) (c : Int → Int) (k : Int) : Int := (0 + P - c k) % P
theorem gw_in {P : Int} (hP : 0 < P) (c : Int → Int) (k : Int) : 0 ≤ gw P c k ∧ gw P c k < P := emB hP _
def rtV (P : Int) (c : Int → Int) (L r : Int) : Int := r ^ L.toNat - sm (fun k => gw P c (k + 1) * r ^ (L - 1 - k).toNat) L
abbrev isR (P : Int) (c : Int → Int) (L r : Int) : Prop := rtV P c L r % P = 0
theorem rtV_s (P : Int) (c : Int → Int) {i : Int} (hi : 0 ≤ i) (r : Int) : rtV P c (i + 1) r = rtV P c i r * r - gw P c (i + 1) := by
  unfold rtV
  rw [show (i + 1).toNat = i.toNat + 1 by omega, Int.pow_succ, sm_s _ hi]
  have e : sm (fun k => gw P c (k + 1) * r ^ (i + 1 - 1 - k).toNat) i = r * sm (fun k => gw P c (k + 1) * r ^ (i - 1 - k).toNat) i := by
    rw [← sm_mulc]
    refine sm_congr (fun k a b => ?_)
    show gw P c (k + 1) * r ^ (i + 1 - 1 - k).toNat = r * (gw P c (k + 1) * r ^ (i - 1 - k).toNat)
    rw [show (i + 1 - 1 - k).toNat = (i - 1 - k).toNat + 1 by omega, Int.pow_succ]
    grind
  rw [e, show (i + 1 - 1 - i).toNat = 0 by omega, Int.pow_zero]
  grind
theorem hor_step {P : Int} (c : Int → Int) {i v r : Int} (hi : 0 ≤ i) (h : v % P = rtV P c i r % P) : (v * r % P + P - gw P c (i + 1)) % P % P = rtV P c (i + 1) r % P := by
  rw [rtV_s P c hi r, cg_m]
  refine cg_sub ?_ rfl
  rw [Int.add_emod_right, cg_m]
  exact cg_mul h rfl
theorem isR_congr {P : Int} {c d : Int → Int} {L : Int} (h : ∀ k : Int, 1 ≤ k → k ≤ L → c k = d k) (r : Int) : rtV P c L r = rtV P d L r := by
  unfold rtV
  congr 1
  refine sm_congr (fun k a b => ?_)
  show gw P c (k + 1) * _ = gw P d (k + 1) * _
  unfold gw
  rw [h (k + 1) (by omega) (by omega)]
def nm3 (P a b c : Int) : Int := 2 ^ a.toNat * 3 ^ b.toNat * 5 ^ c.toNat % P
def nmc (P i : Int) : Int := nm3 P (i / 25) (i / 5 % 5) (i % 5)
theorem nm3_in {P : Int} (hP : 0 < P) (a b c : Int) : 0 ≤ nm3 P a b c ∧ nm3 P a b c < P := emB hP _
theorem nmc_in {P : Int} (hP : 0 < P) (i : Int) : 0 ≤ nmc P i ∧ nmc P i < P := emB hP _
theorem nmc_at (P : Int) {a b c : Int} (ha : 0 ≤ a) (hb : 0 ≤ b ∧ b ≤ 4) (hc : 0 ≤ c ∧ c ≤ 4) : nmc P (a * 25 + b * 5 + c) = nm3 P a b c := by
  unfold nmc
  rw [show (a * 25 + b * 5 + c) / 25 = a by omega, show (a * 25 + b * 5 + c) / 5 % 5 = b by omega, show (a * 25 + b * 5 + c) % 5 = c by omega]
theorem nm3_c (P a b : Int) {c : Int} (h : 0 ≤ c) : nm3 P a b c * 5 % P = nm3 P a b (c + 1) := by
  unfold nm3
  rw [show (c + 1).toNat = c.toNat + 1 by omega, Int.pow_succ, ← Int.mul_assoc]
  exact cg_mul (cg_m _ _) rfl
theorem nm3_b (P a : Int) {b : Int} (h : 0 ≤ b) : nm3 P a b 0 * 3 % P = nm3 P a (b + 1) 0 := by
  unfold nm3
  rw [show (b + 1).toNat = b.toNat + 1 by omega, Int.pow_succ, show (0 : Int).toNat = 0 from rfl, Int.pow_zero, Int.mul_one, Int.mul_one, ← Int.mul_assoc]
  exact cg_mul (cg_m _ _) rfl
theorem nm3_a (P : Int) {a : Int} (h : 0 ≤ a) : nm3 P a 0 0 * 2 % P = nm3 P (a + 1) 0 0 := by
  unfold nm3
  rw [show (a + 1).toNat = a.toNat + 1 by omega, Int.pow_succ, show (0 : Int).toNat = 0 from rfl, Int.pow_zero, Int.pow_zero, Int.mul_one, Int.mul_one, Int.mul_one, Int.mul_one]
  exact cg_mul (cg_m _ _) rfl
def cntR (P : Int) (c : Int → Int) (L i : Int) : Int := sm (fun j => bI (isR P c L (nmc P j))) i
theorem bI_in (Q : Prop) [Decidable Q] : 0 ≤ bI Q ∧ bI Q ≤ 1 := by unfold bI; split <;> omega
theorem cntR_s (P : Int) (c : Int → Int) (L : Int) {i : Int} (h : 0 ≤ i) : cntR P c L (i + 1) = cntR P c L i + bI (isR P c L (nmc P i)) := sm_s _ h
theorem cntR_mono (P : Int) (c : Int → Int) (L : Int) {i : Int} (hi : 0 ≤ i) : ∀ d : Nat, cntR P c L i ≤ cntR P c L (i + d)
  | 0 => by rw [show i + ((0 : Nat) : Int) = i by omega]; exact Int.le_refl _
  | d + 1 => by
    have h1 := cntR_mono P c L hi d
    have h2 := bI_in (isR P c L (nmc P (i + d)))
    rw [show i + ((d + 1 : Nat) : Int) = (i + d) + 1 by omega, cntR_s P c L (by omega)]
    omega
theorem cntR_le (P : Int) (c : Int → Int) (L : Int) {i j : Int} (hi : 0 ≤ i) (hj : i ≤ j) : cntR P c L i ≤ cntR P c L j := by
  have := cntR_mono P c L hi (j - i).toNat
  rw [show i + ((j - i).toNat : Int) = j by omega] at this
  exact this
theorem cntR_0 (P : Int) (c : Int → Int) (L : Int) {i : Int} (hi : 0 ≤ i) : 0 ≤ cntR P c L i := cntR_le P c L (i := 0) (by omega) hi
theorem cntR_congr {P : Int} {c d : Int → Int} {L : Int} (h : ∀ k : Int, 1 ≤ k → k ≤ L → c k = d k) (i : Int) : cntR P c L i = cntR P d L i := by
  unfold cntR
  congr 1
  funext j
  unfold isR
  rw [isR_congr h]
/-- the keys up to a code lie in the rows -/
def keysP (P : Int) (c : Int → Int) (L i : Int) (kn kx ky kz : Int → Int) : Prop := ∀ j : Int, 0 ≤ j → j < i → isR P c L (nmc P j) → kn (cntR P c L j) = nmc P j ∧ kx (cntR P c L j) = j / 25 ∧ ky (cntR P c L j) = j / 5 % 5 ∧ kz (cntR P c L j) = j % 5
def difB (kn : Int → Int) (K : Int) : Bool := (List.range 4).all (fun i => (List.range 4).all (fun j => decide (K ≤ (i : Int)) || decide ((i : Int) ≤ (j : Int)) || decide (kn i ≠ kn j)))
theorem difB_iff {kn : Int → Int} {K : Int} (hK : K ≤ 4) : difB kn K = true ↔ ∀ i j : Int, 0 ≤ j → j < i → i < K → kn i ≠ kn j := by
  constructor
  · intro h i j h0 h1 h2
    obtain ⟨a, rfl⟩ := Int.eq_ofNat_of_zero_le (show 0 ≤ i by omega)
    obtain ⟨b, rfl⟩ := Int.eq_ofNat_of_zero_le h0
    have := List.all_eq_true.mp (List.all_eq_true.mp h a (List.mem_range.mpr (by omega))) b (List.mem_range.mpr (by omega))
    simp only [Bool.or_eq_true, decide_eq_true_eq] at this
    rcases this with (q | q) | q
    · omega
    · omega
    · exact q
  · intro h
    refine List.all_eq_true.mpr (fun a ha => List.all_eq_true.mpr (fun b hb => ?_))
    simp only [Bool.or_eq_true, decide_eq_true_eq]
    by_cases q : K ≤ (a : Int)
    · exact Or.inl (Or.inl q)
    · by_cases q2 : (a : Int) ≤ (b : Int)
      · exact Or.inl (Or.inr q2)
      · exact Or.inr (h a b (by omega) (by omega) (by omega))
theorem difB_congr {kn kn2 : Int → Int} {K : Int} (hK : K ≤ 4) (h : ∀ j : Int, 0 ≤ j → j < K → kn j = kn2 j) : difB kn K = difB kn2 K := by
  have e : difB kn K = true ↔ difB kn2 K = true := by
    rw [difB_iff hK, difB_iff hK]
    constructor
    · intro q i j a b d; rw [← h i (by omega) d, ← h j a (by omega)]; exact q i j a b d
    · intro q i j a b d; rw [h i (by omega) d, h j a (by omega)]; exact q i j a b d
  cases h1 : difB kn K <;> cases h2 : difB kn2 K <;> simp_all
/-- coefficients that give the answers back -/
def slv (P K : Int) (kn an xs : Int → Int) : Prop := (∀ m : Int, 0 ≤ m → m < K → 0 ≤ xs m ∧ xs m < P) ∧ ∀ i : Int, 0 ≤ i → i < K → sm (fun m => xs m * kn m ^ i.toNat) K % P = an i % P
/-- the product of r less the other keys -/
def prdN (kn : Int → Int) (key r : Int) : Nat → Int
  | 0 => 1
  | j + 1 => if (j : Int) = key then prdN kn key r j else (r - kn j) * prdN kn key r j
def prd (kn : Int → Int) (key r j : Int) : Int := prdN kn key r j.toNat
theorem prd_s (kn : Int → Int) (key r : Int) {j : Int} (h : 0 ≤ j) : prd kn key r (j + 1) = if j = key then prd kn key r j else (r - kn j) * prd kn key r j := by
  unfold prd
  rw [show (j + 1).toNat = j.toNat + 1 by omega]
  show (if (j.toNat : Int) = key then _ else _) = _
  rw [Int.toNat_of_nonneg h]
theorem prdN_z {P : Int} (kn : Int → Int) (key r : Int) {m : Int} (hm : 0 ≤ m) (hk : m ≠ key) (hr : (r - kn m) % P = 0) : ∀ j : Nat, m < j → prdN kn key r j % P = 0
  | 0, h => by omega
  | j + 1, h => by
    show (if (j : Int) = key then prdN kn key r j else (r - kn j) * prdN kn key r j) % P = 0
    by_cases e : (j : Int) = m
    · rw [if_neg (by omega), Int.mul_emod, e, hr, Int.zero_mul]; rfl
    · have ih := prdN_z kn key r hm hk hr j (by omega)
      split
      · exact ih
      · rw [Int.mul_emod, ih, Int.mul_zero]; rfl
theorem prdN_nz {P : Int} (h : okP P) (kn : Int → Int) (key r : Int) : ∀ j : Nat, (∀ m : Int, 0 ≤ m → m < j → m ≠ key → (r - kn m) % P ≠ 0) → prdN kn key r j % P ≠ 0
  | 0, _ => by show (1 : Int) % P ≠ 0; rw [Int.emod_eq_of_lt (by omega) (by omega)]; omega
  | j + 1, hd => by
    show (if (j : Int) = key then prdN kn key r j else (r - kn j) * prdN kn key r j) % P ≠ 0
    have ih := prdN_nz h kn key r j (fun m a b => hd m a (by omega))
    split
    · exact ih
    · intro q
      rcases mod_z h q with z | z
      · exact hd j (by omega) (by omega) (by assumption) z
      · exact ih z
/-- the polynomial with these coefficients, at r -/
def pl5 (o : Int → Int) (n r : Int) : Int := sm (fun i => o i * r ^ i.toNat) n
theorem pl_by {P w : Int} {o o2 : Int → Int} (h4 : o 4 = 0) (h : ∀ i : Int, 0 ≤ i → i ≤ 4 → o2 i = ((if i = 0 then 0 else o (i - 1)) + P - o i * w % P) % P) (r : Int) : pl5 o2 5 r % P = ((r - w) * pl5 o 5 r) % P := by
  have e1 : pl5 o2 5 r % P = sm (fun i => ((if i = 0 then 0 else o (i - 1)) - o i * w) * r ^ i.toNat) 5 % P := by
    refine sm_cg (fun i a b => cg_mul ?_ rfl)
    rw [h i a (by omega), cg_m]
    refine cg_sub ?_ (cg_m _ _)
    rw [Int.add_emod_right]
  rw [e1]
  congr 1
  show smN _ 5 = (r - w) * smN _ 5
  simp only [smN]
  rw [show ((0 : Nat) : Int) = 0 from rfl, show ((1 : Nat) : Int) = 1 from rfl, show ((2 : Nat) : Int) = 2 from rfl, show ((3 : Nat) : Int) = 3 from rfl, show ((4 : Nat) : Int) = 4 from rfl]
  rw [show (0 : Int).toNat = 0 from rfl, show (1 : Int).toNat = 1 from rfl, show (2 : Int).toNat = 2 from rfl, show (3 : Int).toNat = 3 from rfl, show (4 : Int).toNat = 4 from rfl, h4]
  simp only [show ((1 : Int) = 0) = False by simp, show ((2 : Int) = 0) = False by simp, show ((3 : Int) = 0) = False by simp, show ((4 : Int) = 0) = False by simp, if_true, if_false, show (1 : Int) - 1 = 0 by omega, show (2 : Int) - 1 = 1 by omega, show (3 : Int) - 1 = 2 by omega, show (4 : Int) - 1 = 3 by omega]
  grind
theorem smN_swap (f : Int → Int → Int) (m : Nat) : ∀ n : Nat, smN (fun i => smN (fun j => f i j) m) n = smN (fun j => smN (fun i => f i j) n) m
  | 0 => (smN_zero m).symm
  | n + 1 => by
    show smN (fun i => smN (fun j => f i j) m) n + smN (fun j => f n j) m = smN (fun j => smN (fun i => f i j) n + f n j) m
    rw [smN_swap f m n, smN_add]
theorem sm_swap (f : Int → Int → Int) (m n : Int) : sm (fun i => sm (fun j => f i j) m) n = sm (fun j => sm (fun i => f i j) n) m := smN_swap f _ _
theorem smN_one {f : Int → Int} {P : Int} {k : Int} : ∀ {n : Nat}, (∀ i : Int, 0 ≤ i → i < n → i ≠ k → f i % P = 0) → smN f n % P = (if 0 ≤ k ∧ k < n then f k else 0) % P
  | 0, _ => by rw [if_neg (by omega)]; rfl
  | n + 1, h => by
    have ih := smN_one (n := n) (fun i a b => h i a (by omega))
    show (smN f n + f n) % P = _
    by_cases e : (n : Int) = k
    · rw [if_neg (by omega)] at ih
      rw [if_pos (by omega), Int.add_emod, ih, ← e]
      show (0 + f n % P) % P = f n % P
      rw [Int.zero_add, cg_m]
    · rw [Int.add_emod, ih, h n (by omega) (by omega) e, Int.add_zero, cg_m]
      by_cases q : 0 ≤ k ∧ k < n
      · rw [if_pos q, if_pos (by omega)]
      · rw [if_neg q, if_neg (by omega)]
theorem sm_one {f : Int → Int} {P k n : Int} (hk : 0 ≤ k ∧ k < n) (h : ∀ i : Int, 0 ≤ i → i < n → i ≠ k → f i % P = 0) : sm f n % P = f k % P := by
  unfold sm
  rw [smN_one (k := k) (fun i a b => h i a (by omega)), if_pos (by omega)]
/-- weighing the answers by a polynomial that is zero at the other keys -/
theorem co_one {P K key : Int} {kn an xs o : Int → Int} (hs : slv P K kn an xs) (hk : 0 ≤ key ∧ key < K) (hz : ∀ m : Int, 0 ≤ m → m < K → m ≠ key → pl5 o K (kn m) % P = 0) : sm (fun i => o i * an i) K % P = (xs key * pl5 o K (kn key)) % P := by
  have e1 : sm (fun i => o i * an i) K % P = sm (fun i => o i * sm (fun m => xs m * kn m ^ i.toNat) K) K % P := sm_cg (fun i a b => cg_mul rfl (hs.2 i a b).symm)
  have e2 : sm (fun i => o i * sm (fun m => xs m * kn m ^ i.toNat) K) K = sm (fun m => xs m * pl5 o K (kn m)) K := by
    have e3 : sm (fun i => o i * sm (fun m => xs m * kn m ^ i.toNat) K) K = sm (fun i => sm (fun m => o i * (xs m * kn m ^ i.toNat)) K) K := sm_congr (fun i _ _ => (sm_mulc _ _ _).symm)
    rw [e3, sm_swap]
    refine sm_congr (fun m _ _ => ?_)
    unfold pl5
    rw [← sm_mulc]
    exact sm_congr (fun i _ _ => by grind)
  rw [e1, e2]
  exact sm_one hk (fun m a b d => by rw [Int.mul_emod, hz m a b d, Int.mul_zero]; rfl)
theorem sm_cut {f : Int → Int} {m n : Int} (hm : 0 ≤ m) (hmn : m ≤ n) (h : ∀ i : Int, m ≤ i → i < n → f i = 0) : sm f n = sm f m := by
  obtain ⟨d, rfl⟩ : ∃ d : Nat, n = m + d := ⟨(n - m).toNat, by omega⟩
  induction d with
  | zero => rw [show m + ((0 : Nat) : Int) = m by omega]
  | succ d ih =>
    rw [show m + ((d + 1 : Nat) : Int) = (m + d) + 1 by omega, sm_s _ (by omega), h _ (by omega) (by omega), Int.add_zero]
    exact ih (by omega) (fun i a b => h i a (by omega))
theorem rtV_0 (P : Int) (c : Int → Int) (r : Int) : rtV P c 0 r = 1 := by
  unfold rtV
  rw [sm_0, show (0 : Int).toNat = 0 from rfl, Int.pow_zero]
  rfl
theorem bI_congr {A B : Prop} [Decidable A] [Decidable B] (h : A ↔ B) : bI A = bI B := by
  by_cases a : A
  · rw [bI_t a, bI_t (h.mp a)]
  · rw [bI_f a, bI_f (fun b => a (h.mpr b))]
theorem pl5_0 (o : Int → Int) (r : Int) : pl5 o 0 r = 0 := rfl
theorem pl5_s (o : Int → Int) (r : Int) {i : Int} (h : 0 ≤ i) : pl5 o (i + 1) r = pl5 o i r + o i * r ^ i.toNat := sm_s _ h
theorem pl5_1 {o : Int → Int} (h : ∀ i : Int, 0 ≤ i → i < 5 → o i = 0) (r : Int) : pl5 (uI o 0 1) 5 r = 1 := by
  unfold pl5
  rw [sm_uI o (fun i => r ^ i.toNat) (by omega), sm_zero (fun i a b => by rw [h i a b, Int.zero_mul]), h 0 (by omega) (by omega), show (0 : Int).toNat = 0 from rfl, Int.pow_zero]
  rfl
theorem hor2 {P v r oi : Int} {o : Int → Int} {K i : Int} (hi : 0 ≤ i) (ho : oi = o i) (h : (v * r ^ (i + 1).toNat + pl5 o (i + 1) r) % P = pl5 o K r % P) : (((v * r % P + oi) % P) * r ^ (i + -1 + 1).toNat + pl5 o (i + -1 + 1) r) % P = pl5 o K r % P := by
  rw [← h, show i + -1 + 1 = i by omega, pl5_s o r hi, show (i + 1).toNat = i.toNat + 1 by omega, Int.pow_succ, ho]
  have e : (((v * r % P + o i) % P) * r ^ i.toNat) % P = ((v * r + o i) * r ^ i.toNat) % P := cg_mul (by rw [cg_m]; exact cg_add (cg_m _ _) rfl) rfl
  rw [Int.add_emod, e, ← Int.add_emod]
  congr 1
  grind
def gAN (P sh sc k n : Int) (co ex ey ez : Int → Int) : Int → Int := fun i => ans P sh sc k n co ex ey ez (pw P 2 i) (pw P 3 i) (pw P 5 i)
def gC (P : Int) (AN : Int → Int) : Int → Int := (bm P AN 8).1
def gL (P : Int) (AN : Int → Int) : Int := (bm P AN 8).2.2.1
def gKC (P : Int) (AN kc : Int → Int) : Prop := gL P AN ≤ 4 → cntR P (gC P AN) (gL P AN) 125 = gL P AN → ∀ m : Int, 0 ≤ m → m < gL P AN → (0 ≤ kc m ∧ kc m < 125) ∧ isR P (gC P AN) (gL P AN) (nmc P (kc m)) ∧ cntR P (gC P AN) (gL P AN) (kc m) = m
def gXS (P : Int) (AN kc xs : Int → Int) : Prop := gL P AN ≤ 4 → cntR P (gC P AN) (gL P AN) 125 = gL P AN → difB (fun m => nmc P (kc m)) (gL P AN) = true → slv P (gL P AN) (fun m => nmc P (kc m)) AN xs
abbrev gOK (P : Int) (AN kc xs : Int → Int) : Prop := gL P AN ≤ 4 ∧ cntR P (gC P AN) (gL P AN) 125 = gL P AN ∧ difB (fun m => nmc P (kc m)) (gL P AN) = true ∧ sm (fun j => xs j * pw P (nmc P (kc j)) 8) (gL P AN) % P = AN 8
def gPT (L : Int) (kc xs pt : Int → Int) : Prop := ∀ j : Int, 0 ≤ j → j < L → pt (j * 4 + 0) = xs j ∧ pt (j * 4 + 1) = kc j / 25 ∧ pt (j * 4 + 2) = kc j / 5 % 5 ∧ pt (j * 4 + 3) = kc j % 5
theorem gPT_add {j : Int} {kc xs pt : Int → Int} {co a b c : Int} (h : gPT j kc xs pt) (h1 : co = xs j) (h2 : a = kc j / 25) (h3 : b = kc j / 5 % 5) (h4 : c = kc j % 5) : gPT (j + 1) kc xs (pt4 pt j co a b c) := by
  intro t ht0 ht
  unfold pt4 uI
  by_cases e : t = j
  · subst e
    refine ⟨?_, ?_, ?_, ?_⟩
    · rw [if_neg (by omega), if_neg (by omega), if_neg (by omega), if_pos rfl]; exact h1
    · rw [if_neg (by omega), if_neg (by omega), if_pos rfl]; exact h2
    · rw [if_neg (by omega), if_pos rfl]; exact h3
    · rw [if_pos rfl]; exact h4
  · have := h t ht0 (by omega)
    refine ⟨?_, ?_, ?_, ?_⟩ <;> (rw [if_neg (by omega), if_neg (by omega), if_neg (by omega), if_neg (by omega)])
    · exact this.1
    · exact this.2.1
    · exact this.2.2.1
    · exact this.2.2.2
def keE (ke : Int → Int) (j : Int) : Int → Int := fun t => ke (t * 3 + j)
theorem keysP_add {P : Int} {c : Int → Int} {L i K : Int} {kn kx ky kz kn2 kx2 ky2 kz2 : Int → Int} (h : keysP P c L i kn kx ky kz) (hi : 0 ≤ i) (hK : K = cntR P c L i) (h2 : ∀ j : Int, j ≠ K → kn2 j = kn j ∧ kx2 j = kx j ∧ ky2 j = ky j ∧ kz2 j = kz j) (h1 : kn2 K = nmc P i ∧ kx2 K = i / 25 ∧ ky2 K = i / 5 % 5 ∧ kz2 K = i % 5) : keysP P c L (i + 1) kn2 kx2 ky2 kz2 := by
  intro j hj0 hj hr
  by_cases e : j = i
  · subst e
    rw [← hK]; exact h1
  · have hlt : cntR P c L j + 1 ≤ cntR P c L i := by
      have e2 := cntR_s P c L hj0
      rw [bI_t hr] at e2
      rw [← e2]
      exact cntR_le P c L (by omega) (by omega)
    have q := h j hj0 (by omega) hr
    have z := h2 (cntR P c L j) (by omega)
    rw [z.1, z.2.1, z.2.2.1, z.2.2.2]
    exact q
theorem keysP_skip {P : Int} {c : Int → Int} {L i : Int} {kn kx ky kz : Int → Int} (h : keysP P c L i kn kx ky kz) (hn : ¬ isR P c L (nmc P i)) : keysP P c L (i + 1) kn kx ky kz := by
  intro j hj0 hj hr
  by_cases e : j = i
  · subst e; exact absurd hr hn
  · exact h j hj0 (by omega) hr
