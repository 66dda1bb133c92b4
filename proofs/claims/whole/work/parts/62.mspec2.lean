theorem rep_mul {P L n m : Int} {S a b : Int → Int} (ha : Rep P L S a n) (hb : Rep P L S b m) (hm : 0 ≤ m) {t : Int} (ht : 0 ≤ t) : sm (fun i => sm (fun j => a i * b j * S (t + (i + j))) L) L % P = S (t + (n + m)) % P := by
  have e1 : sm (fun i => sm (fun j => a i * b j * S (t + (i + j))) L) L % P = sm (fun i => a i * S (t + m + i)) L % P := by
    refine sm_cg (fun i h0 h1 => ?_)
    have e2 : sm (fun j => a i * b j * S (t + (i + j))) L = a i * sm (fun j => b j * S (t + i + j)) L := by
      rw [← sm_mulc]
      exact sm_congr (fun j _ _ => by rw [Int.mul_assoc, show t + (i + j) = t + i + j by omega])
    rw [e2]
    refine cg_mul rfl ?_
    rw [hb (t + i) (by omega), show t + i + m = t + m + i by omega]
  rw [e1, ha (t + m) (by omega), show t + m + n = t + (n + m) by omega]
theorem rep_of {P L n m : Int} {S a b c : Int → Int} (ha : Rep P L S a n) (hb : Rep P L S b m) (hm : 0 ≤ m) (h : ∀ t : Int, 0 ≤ t → sm (fun i => c i * S (t + i)) L % P = sm (fun i => sm (fun j => a i * b j * S (t + (i + j))) L) L % P) : Rep P L S c (n + m) := fun t ht => (h t ht).trans (rep_mul ha hb hm ht)
theorem rep_e0 {P L : Int} {S a : Int → Int} (hL : 1 ≤ L) (h : ∀ j : Int, 0 ≤ j → j < L → a j = if j = 0 then 1 else 0) : Rep P L S a 0 := by
  intro t ht
  have e : sm (fun i => a i * S (t + i)) L % P = (a 0 * S (t + 0)) % P := sm_one (f := fun i => a i * S (t + i)) (k := 0) (by omega) (fun i x y z => by show a i * S (t + i) % P = 0; rw [h i x y, if_neg z, Int.zero_mul]; rfl)
  rw [e, h 0 (by omega) (by omega), if_pos rfl, Int.one_mul]
theorem rep_e1 {P L : Int} {S a : Int → Int} (hL : 2 ≤ L) (h : ∀ j : Int, 0 ≤ j → j < L → a j = if j = 1 then 1 else 0) : Rep P L S a 1 := by
  intro t ht
  have e : sm (fun i => a i * S (t + i)) L % P = (a 1 * S (t + 1)) % P := sm_one (f := fun i => a i * S (t + i)) (k := 1) (by omega) (fun i x y z => by show a i * S (t + i) % P = 0; rw [h i x y, if_neg z, Int.zero_mul]; rfl)
  rw [e, h 1 (by omega) (by omega), if_pos rfl, Int.one_mul]
theorem rep_g1 {P L : Int} {S a w : Int → Int} (hL : L = 1) (hg : goesOn P L w S) (h : a 0 = w 1) : Rep P L S a 1 := by
  subst hL
  intro t ht
  rw [hg (t + 1) (by omega)]
  show smN (fun i => a i * S (t + i)) 1 % P = smN (fun k => w (k + 1) * S (t + 1 - 1 - k)) 1 % P
  simp only [smN]
  rw [show ((0 : Nat) : Int) = 0 from rfl, h, show (0 : Int) + 1 = 1 from rfl, show t + 0 = t by omega, show t + 1 - 1 - 0 = t by omega]
theorem rt_sum {P : Int} (hP : 2 ≤ P) (c : Int → Int) {L : Int} (hL : 0 ≤ L) (r : Int) : isR P c L r ↔ sm (fun k => gw P c (k + 1) * pw P r (L - 1 - k)) L % P = pw P r L := by
  have e1 : sm (fun k => gw P c (k + 1) * pw P r (L - 1 - k)) L % P = sm (fun k => gw P c (k + 1) * r ^ (L - 1 - k).toNat) L % P := sm_cg (fun k a b => cg_mul rfl (by rw [pw_eq hP, cg_m]))
  rw [e1, pw_eq hP]
  unfold isR rtV
  constructor
  · intro h; exact (Int.emod_eq_emod_iff_emod_sub_eq_zero.mpr h).symm
  · intro h; exact Int.emod_eq_emod_iff_emod_sub_eq_zero.mp h.symm
theorem far_step2 {P L i : Int} {w S pr1 : Int → Int} (hgo : goesOn P L w S) {t : Int} (ht : L ≤ t + i) (hi : 0 ≤ i) : (sm (fun q => pr1 q * S (t + q)) i + pr1 i * sm (fun u => w (u + 1) * (fun q => S (t + q)) (i - 1 - u)) L) % P = (sm (fun q => pr1 q * S (t + q)) i + pr1 i * S (t + i)) % P := by
  refine cg_add rfl (cg_mul rfl ?_)
  rw [hgo (t + i) ht]
  congr 1
  exact sm_congr (fun u x y => by dsimp only; rw [show t + (i - 1 - u) = t + i - 1 - u by omega])
theorem grow_le {P : Int} (hP : 2 ≤ P) {row : Int → Int} {nn cnt h L : Int} (hn : 0 ≤ nn ∧ nn ≤ cnt) (hL : L = bmL P row nn) (hs : nn = cnt ∨ h < L) : L ≤ h ↔ bmL P row cnt ≤ h := by
  rcases hs with q | q
  · rw [hL, q]
  · have := bmL_mono hP row hn.1 hn.2
    omega
theorem gw_congr {P : Int} {c d : Int → Int} {k : Int} (h : c k = d k) : gw P c k = gw P d k := by unfold gw; rw [h]
