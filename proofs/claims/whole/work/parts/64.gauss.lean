/-! keys' powers: one solution, none but nought for nought; lines taken from one another -/
theorem van_inj {P : Int} (h : okP P) : ∀ (K : Nat) (kn y : Int → Int), (∀ i j : Int, 0 ≤ j → j < i → i < K → (kn i - kn j) % P ≠ 0) → (∀ i : Int, 0 ≤ i → i < K → sm (fun m => y m * kn m ^ i.toNat) K % P = 0) → ∀ m : Int, 0 ≤ m → m < K → y m % P = 0
  | 0, _, _, _, _, m, h0, h1 => by omega
  | K + 1, kn, y, hd, hs, m, h0, h1 => by
    have e1 : ((K + 1 : Nat) : Int) = (K : Int) + 1 := by omega
    have hy : ∀ m : Int, 0 ≤ m → m < K → y m % P = 0 := by
      have ih := van_inj h K kn (fun m => y m * (kn m - kn K)) (fun i j a b c => hd i j a b (by omega)) (fun i a b => by
        have s1 := hs (i + 1) (by omega) (by omega)
        have s0 := hs i a (by omega)
        rw [e1, sm_s _ (by omega)] at s1 s0
        have e : sm (fun m => y m * (kn m - kn K) * kn m ^ i.toNat) K = sm (fun m => y m * kn m ^ (i + 1).toNat) K - kn K * sm (fun m => y m * kn m ^ i.toNat) K := by
          rw [← sm_mulc]
          have e2 : sm (fun m => y m * kn m ^ (i + 1).toNat) K = sm (fun m => y m * (kn m - kn K) * kn m ^ i.toNat) K + sm (fun m => kn K * (y m * kn m ^ i.toNat)) K := by
            rw [← sm_add]
            refine sm_congr (fun m _ _ => ?_)
            show y m * kn m ^ (i + 1).toNat = y m * (kn m - kn K) * kn m ^ i.toNat + kn K * (y m * kn m ^ i.toNat)
            rw [show (i + 1).toNat = i.toNat + 1 by omega, Int.pow_succ]
            grind
          rw [e2]; omega
        rw [e]
        have e3 : sm (fun m => y m * kn m ^ (i + 1).toNat) K - kn K * sm (fun m => y m * kn m ^ i.toNat) K = (sm (fun m => y m * kn m ^ (i + 1).toNat) K + y K * kn K ^ (i + 1).toNat) - kn K * (sm (fun m => y m * kn m ^ i.toNat) K + y K * kn K ^ i.toNat) := by
          rw [show (i + 1).toNat = i.toNat + 1 by omega, Int.pow_succ]
          grind
        rw [e3, Int.sub_emod, s1, Int.mul_emod, s0, Int.mul_zero]
        rfl)
      intro m a b
      rcases mod_z h (ih m a b) with q | q
      · exact q
      · exact absurd (Int.emod_eq_emod_iff_emod_sub_eq_zero.mp (Int.emod_eq_emod_iff_emod_sub_eq_zero.mpr q).symm) (hd K m a b (by omega))
    rcases Int.lt_or_le m K with q | q
    · exact hy m h0 q
    · rw [show m = K by omega]
      have s0 := hs 0 (by omega) (by omega)
      rw [e1, sm_s _ (by omega), show (0 : Int).toNat = 0 from rfl, Int.pow_zero, Int.mul_one, Int.add_emod] at s0
      have z : sm (fun m => y m * kn m ^ 0) K % P = 0 := by
        rw [sm_cg (g := fun _ => 0) (fun m a b => by show y m * kn m ^ 0 % P = 0 % P; rw [Int.pow_zero, Int.mul_one, hy m a b]; rfl), sm_zero (fun _ _ _ => rfl)]
        rfl
      rw [z, Int.zero_add, cg_m] at s0
      exact s0
theorem ivF_m {P a : Int} (h : okP P) (ha : a % P ≠ 0) : a * ivF P (a % P) % P = 1 := by
  have hb := emB (show 0 < P by omega) a
  rw [← ivF_ok h (show 0 < a % P by omega) hb.2]
  exact cg_mul (cg_m P a).symm rfl
theorem van_slv {P : Int} (h : okP P) : ∀ (K : Nat) (kn an : Int → Int), (∀ i j : Int, 0 ≤ j → j < i → i < K → (kn i - kn j) % P ≠ 0) → ∃ x : Int → Int, ∀ i : Int, 0 ≤ i → i < K → sm (fun m => x m * kn m ^ i.toNat) K % P = an i % P
  | 0, _, _, _ => ⟨fun _ => 0, fun i a b => by omega⟩
  | K + 1, kn, an, hd => by
    have e1 : ((K + 1 : Nat) : Int) = (K : Int) + 1 := by omega
    obtain ⟨y, hy⟩ := van_slv h K kn (fun i => an (i + 1) - kn K * an i) (fun i j a b c => hd i j a b (by omega))
    obtain ⟨x, hx⟩ : ∃ x : Int → Int, ∀ m : Int, x m = y m * ivF P ((kn m - kn K) % P) := ⟨_, fun _ => rfl⟩
    refine ⟨fun m => if m = K then an 0 - sm x K else x m, ?_⟩
    have hsum : ∀ i : Int, sm (fun m => (if m = (K : Int) then an 0 - sm x K else x m) * kn m ^ i.toNat) ((K + 1 : Nat) : Int) = sm (fun m => x m * kn m ^ i.toNat) K + (an 0 - sm x K) * kn K ^ i.toNat := by
      intro i
      rw [e1, sm_s _ (by omega), if_pos rfl]
      congr 1
      exact sm_congr (fun m a b => by rw [if_neg (by omega)])
    have hk : ∀ i : Nat, (i : Int) < ((K + 1 : Nat) : Int) → sm (fun m => (if m = (K : Int) then an 0 - sm x K else x m) * kn m ^ (i : Int).toNat) ((K + 1 : Nat) : Int) % P = an i % P := by
      intro i
      induction i with
      | zero =>
        intro _
        rw [hsum]
        show (sm (fun m => x m * kn m ^ 0) K + (an 0 - sm x K) * kn K ^ 0) % P = an 0 % P
        congr 1
        rw [Int.pow_zero, Int.mul_one, sm_congr (g := x) (fun m _ _ => by rw [Int.pow_zero, Int.mul_one])]
        omega
      | succ i ih =>
        intro hi
        have ih := ih (by omega)
        rw [hsum] at ih ⊢
        have e2 : sm (fun m => x m * kn m ^ ((i + 1 : Nat) : Int).toNat) K + (an 0 - sm x K) * kn K ^ ((i + 1 : Nat) : Int).toNat = sm (fun m => x m * (kn m - kn K) * kn m ^ (i : Int).toNat) K + kn K * (sm (fun m => x m * kn m ^ (i : Int).toNat) K + (an 0 - sm x K) * kn K ^ (i : Int).toNat) := by
          have e3 : sm (fun m => x m * kn m ^ ((i + 1 : Nat) : Int).toNat) K = sm (fun m => x m * (kn m - kn K) * kn m ^ (i : Int).toNat) K + kn K * sm (fun m => x m * kn m ^ (i : Int).toNat) K := by
            rw [← sm_mulc, ← sm_add]
            refine sm_congr (fun m _ _ => ?_)
            show x m * kn m ^ (i + 1) = x m * (kn m - kn K) * kn m ^ i + kn K * (x m * kn m ^ i)
            rw [Int.pow_succ]
            grind
          rw [e3]
          show _ + (an 0 - sm x K) * kn K ^ (i + 1) = _ + kn K * (_ + (an 0 - sm x K) * kn K ^ i)
          rw [Int.pow_succ]
          grind
        rw [e2, Int.add_emod, cg_mul rfl ih, ← Int.add_emod]
        have e4 : sm (fun m => x m * (kn m - kn K) * kn m ^ (i : Int).toNat) K % P = (an ((i : Int) + 1) - kn K * an i) % P := by
          rw [← hy i (by omega) (by omega)]
          refine sm_cg (fun m a b => cg_mul ?_ rfl)
          rw [hx m]
          have q := ivF_m h (a := kn m - kn K) (fun z => hd K m a b (by omega) (Int.emod_eq_emod_iff_emod_sub_eq_zero.mp (Int.emod_eq_emod_iff_emod_sub_eq_zero.mpr z).symm))
          rw [show y m * ivF P ((kn m - kn K) % P) * (kn m - kn K) = y m * ((kn m - kn K) * ivF P ((kn m - kn K) % P)) by grind, Int.mul_emod, q, Int.mul_one, cg_m]
        rw [Int.add_emod, e4, ← Int.add_emod]
        congr 1
        rw [show ((i + 1 : Nat) : Int) = (i : Int) + 1 by omega]
        omega
    intro i a b
    obtain ⟨j, rfl⟩ := Int.eq_ofNat_of_zero_le a
    exact hk j b
def sgm (k at_ i : Int) : Int := if i = k then at_ else if i = at_ then k else i
def gsI (K k : Int) (M : Int → Int → Int) : Prop := ∀ i j : Int, 0 ≤ i → i < K → 0 ≤ j → j < k → M i j = if i = j then 1 else 0
def gsS (P K : Int) (M : Int → Int → Int) (xs : Int → Int) : Prop := ∀ i : Int, 0 ≤ i → i < K → sm (fun j => M i j * xs j) K % P = M i 4 % P
def gsN (P K : Int) (M : Int → Int → Int) (kn : Int → Int) : Prop := ∀ y : Int → Int, (∀ i : Int, 0 ≤ i → i < K → sm (fun j => M i j * y j) K % P = 0) → ∀ i : Int, 0 ≤ i → i < K → sm (fun j => y j * kn j ^ i.toNat) K % P = 0
theorem gs_piv {P K k : Int} {M : Int → Int → Int} {kn : Int → Int} (h : okP P) (hk : 0 ≤ k ∧ k < K) (hd : ∀ i j : Int, 0 ≤ j → j < i → i < K → (kn i - kn j) % P ≠ 0) (hI : gsI K k M) (hN : gsN P K M kn) (hz : ∀ i : Int, k ≤ i → i < K → M i k = 0) : False := by
  obtain ⟨n, rfl⟩ := Int.eq_ofNat_of_zero_le (show 0 ≤ K by omega)
  have q := van_inj h n kn (fun j => if j < k then M j k else if j = k then -1 else 0) hd (hN _ (fun i a b => ?_)) k hk.1 hk.2
  · rw [if_neg (by omega), if_pos rfl] at q
    have e := Int.le_of_dvd (by omega) (Int.dvd_neg.mp (Int.dvd_of_emod_eq_zero q))
    omega
  · have e1 : sm (fun j => M i j * (if j < k then M j k else if j = k then -1 else 0)) n = sm (fun j => M i j * (if j < k then M j k else if j = k then -1 else 0)) (k + 1) := sm_cut (by omega) (by omega) (fun j x y => by rw [if_neg (by omega), if_neg (by omega), Int.mul_zero])
    rw [e1, sm_s _ hk.1, if_neg (by omega), if_pos rfl]
    have e2 : sm (fun j => M i j * (if j < k then M j k else if j = k then -1 else 0)) k = sm (fun j => (if i = j then 1 else 0) * M j k) k := sm_congr (fun j x y => by rw [if_pos y, hI i j a b x y])
    rw [e2]
    by_cases hik : i < k
    · have e3 : sm (fun j => (if i = j then 1 else 0) * M j k) k % P = (1 * M i k) % P := by
        have := sm_one (f := fun j => (if i = j then 1 else 0) * M j k) (P := P) (k := i) (n := k) ⟨a, hik⟩ (fun j x y z => by show (if i = j then 1 else 0) * M j k % P = 0; rw [if_neg (by omega), Int.zero_mul]; rfl)
        rw [this, if_pos rfl]
      rw [Int.add_emod, e3, ← Int.add_emod]
      rw [show 1 * M i k + M i k * -1 = 0 by omega]
      rfl
    · rw [sm_zero (fun j x y => by rw [if_neg (by omega), Int.zero_mul]), hz i (by omega) b]
      rfl
theorem gs_lin {P K u w : Int} {A B C y : Int → Int} (h : ∀ c : Int, 0 ≤ c → c < K → C c % P = (u * A c + w * B c) % P) : sm (fun j => C j * y j) K % P = (u * sm (fun j => A j * y j) K + w * sm (fun j => B j * y j) K) % P := by
  rw [← sm_mulc, ← sm_mulc, ← sm_add]
  refine sm_cg (fun j a b => ?_)
  have e : u * (A j * y j) + w * (B j * y j) = (u * A j + w * B j) * y j := by grind
  show C j * y j % P = (u * (A j * y j) + w * (B j * y j)) % P
  rw [e]
  exact cg_mul (h j a b) rfl
theorem gauss_step {P K k at_ by_ : Int} {M M2 : Int → Int → Int} {xs kn : Int → Int} (h : okP P) (hk : 0 ≤ k ∧ k < K ∧ K ≤ 4) (ha : k ≤ at_ ∧ at_ < K) (hp : 0 < M at_ k ∧ M at_ k < P) (hb : by_ = ivF P (M at_ k))
    (h2 : ∀ i c : Int, 0 ≤ i → i < K → 0 ≤ c → c < 5 → M2 i c = if i = k then M at_ c * by_ % P else (M (sgm k at_ i) c + (P - M (sgm k at_ i) k) * (M at_ c * by_ % P)) % P)
    (hI : gsI K k M) (hS : gsS P K M xs) (hN : gsN P K M kn) : gsI K (k + 1) M2 ∧ gsS P K M2 xs ∧ gsN P K M2 kn := by
  have hby : M at_ k * by_ % P = 1 := by rw [hb]; exact ivF_ok h hp.1 hp.2
  have hK : ∀ c : Int, 0 ≤ c → c < 5 → M2 k c = M at_ c * by_ % P := fun c a b => by rw [h2 k c hk.1 hk.2.1 a b, if_pos rfl]
  have hO : ∀ i c : Int, 0 ≤ i → i < K → i ≠ k → 0 ≤ c → c < 5 → M2 i c = (M (sgm k at_ i) c + (P - M (sgm k at_ i) k) * (M at_ c * by_ % P)) % P := fun i c a b d x y => by rw [h2 i c a b x y, if_neg d]
  have hK2 : ∀ c : Int, 0 ≤ c → c < 5 → M2 k c % P = (by_ * M at_ c + 0 * M at_ c) % P := fun c a b => by
    rw [hK c a b, cg_m, Int.zero_mul, Int.add_zero, Int.mul_comm]
  have hO2 : ∀ i c : Int, 0 ≤ i → i < K → i ≠ k → 0 ≤ c → c < 5 → M2 i c % P = (1 * M (sgm k at_ i) c + (P - M (sgm k at_ i) k) * by_ * M at_ c) % P := fun i c a b d x y => by
    rw [hO i c a b d x y, cg_m, Int.one_mul, Int.mul_assoc]
    refine cg_add rfl (cg_mul rfl ?_)
    rw [cg_m, Int.mul_comm]
  have hsg : ∀ i : Int, 0 ≤ i → i < K → 0 ≤ sgm k at_ i ∧ sgm k at_ i < K := fun i a b => by unfold sgm; split <;> (try split) <;> omega
  refine ⟨fun i j a b c d => ?_, fun i a b => ?_, fun y hy => hN y (fun i a b => ?_)⟩
  · by_cases e : i = k
    · subst e
      rw [hK j c (by omega)]
      by_cases q : j = i
      · subst q; rw [hby, if_pos rfl]
      · rw [hI at_ j (by omega) ha.2 c (by omega), if_neg (by omega), if_neg (by omega), Int.zero_mul]; rfl
    · rw [hO i j a b e c (by omega)]
      by_cases q : j = k
      · subst q
        rw [hby, if_neg e, Int.mul_one, show M (sgm j at_ i) j + (P - M (sgm j at_ i) j) = P by omega, Int.emod_self]
      · have hs := hsg i a b
        rw [hI at_ j (by omega) ha.2 c (by omega), if_neg (show ¬ at_ = j by omega), Int.zero_mul, Int.zero_emod, Int.mul_zero, Int.add_zero, hI (sgm k at_ i) j hs.1 hs.2 c (by omega)]
        by_cases r : i = j
        · rw [if_pos r, if_pos (by unfold sgm; rw [if_neg e, if_neg (by omega)]; exact r)]
          exact Int.emod_eq_of_lt (by omega) (by omega)
        · rw [if_neg r, if_neg (by unfold sgm; rw [if_neg e]; split <;> omega)]
          rfl
  · by_cases e : i = k
    · subst e
      rw [gs_lin (fun c x y => hK2 c x (by omega)), hK2 4 (by omega) (by omega)]
      exact cg_add (cg_mul rfl (hS at_ (by omega) ha.2)) (cg_mul rfl (hS at_ (by omega) ha.2))
    · have hs := hsg i a b
      rw [gs_lin (fun c x y => hO2 i c a b e x (by omega)), hO2 i 4 a b e (by omega) (by omega)]
      exact cg_add (cg_mul rfl (hS _ hs.1 hs.2)) (cg_mul rfl (hS at_ (by omega) ha.2))
  · have z0 := hy k hk.1 hk.2.1
    rw [gs_lin (fun c x y => hK2 c x (by omega)), Int.zero_mul, Int.add_zero] at z0
    have z1 : sm (fun j => M at_ j * y j) K % P = 0 := by
      rcases mod_z h z0 with q | q
      · rw [Int.mul_emod, q, Int.mul_zero] at hby
        exact absurd hby (by rw [Int.zero_emod]; omega)
      · exact q
    have z2 : ∀ m : Int, 0 ≤ m → m < K → m ≠ k → sm (fun j => M (sgm k at_ m) j * y j) K % P = 0 := fun m x y2 e => by
      have q := hy m x y2
      rw [gs_lin (fun c x2 y3 => hO2 m c x y2 e x2 (by omega)), Int.one_mul, Int.add_emod, Int.mul_emod ((P - M (sgm k at_ m) k) * by_), z1, Int.mul_zero, Int.zero_emod, Int.add_zero, cg_m] at q
      exact q
    by_cases e : i = at_
    · rw [e]; exact z1
    · by_cases e2 : i = k
      · have q := z2 at_ (by omega) ha.2 (by omega)
        unfold sgm at q
        rw [if_neg (by omega), if_pos rfl] at q
        rw [e2]; exact q
      · have q := z2 i a b e2
        unfold sgm at q
        rw [if_neg e2, if_neg e] at q
        exact q
theorem gs_0 {P K : Int} {kn an xs : Int → Int} {M : Int → Int → Int} (hP : 2 ≤ P) (hs : slv P K kn an xs) (h1 : ∀ i j : Int, 0 ≤ i → i < K → 0 ≤ j → j < K → M i j = pw P (kn j) i) (h4 : ∀ i : Int, 0 ≤ i → i < K → M i 4 = an i) : gsI K 0 M ∧ gsS P K M xs ∧ gsN P K M kn := by
  have e : ∀ y : Int → Int, ∀ i : Int, 0 ≤ i → i < K → sm (fun j => M i j * y j) K % P = sm (fun j => y j * kn j ^ i.toNat) K % P := fun y i a b => sm_cg (fun j c d => by
    show M i j * y j % P = y j * kn j ^ i.toNat % P
    rw [h1 i j a b c d, Int.mul_comm, pw_eq hP]
    exact cg_mul rfl (cg_m _ _))
  refine ⟨fun i j a b c d => by omega, fun i a b => ?_, fun y hy i a b => ?_⟩
  · rw [e xs i a b, h4 i a b]; exact hs.2 i a b
  · rw [← e y i a b]; exact hy i a b
theorem gs_end {P K : Int} {xs : Int → Int} {M : Int → Int → Int} (hx : ∀ m : Int, 0 ≤ m → m < K → 0 ≤ xs m ∧ xs m < P) (hI : gsI K K M) (hS : gsS P K M xs) {i : Int} (a : 0 ≤ i) (b : i < K) (hb : 0 ≤ M i 4 ∧ M i 4 < P) : M i 4 = xs i := by
  have q := hS i a b
  rw [sm_one (k := i) ⟨a, b⟩ (fun j c d e => by show M i j * xs j % P = 0; rw [hI i j a b c d, if_neg (by omega), Int.zero_mul]; rfl), hI i i a b a b, if_pos rfl, Int.one_mul, Int.emod_eq_of_lt (hx i a b).1 (hx i a b).2, Int.emod_eq_of_lt hb.1 hb.2] at q
  exact q.symm
theorem gs_dif {P a b : Int} (ha : 0 ≤ a ∧ a < P) (hb : 0 ≤ b ∧ b < P) (h : a ≠ b) : (a - b) % P ≠ 0 := fun q => by
  have e := Int.emod_eq_emod_iff_emod_sub_eq_zero.mpr q
  rw [Int.emod_eq_of_lt ha.1 ha.2, Int.emod_eq_of_lt hb.1 hb.2] at e
  exact h e
