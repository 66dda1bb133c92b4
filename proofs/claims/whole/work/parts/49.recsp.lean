/-! from the rows of keys to the keys themselves -/
theorem cnt_g {P : Int} {AN now : Int → Int} {L : Int} (hL : L = gL P AN) (hC : ∀ j : Int, 1 ≤ j → j ≤ L → now j = gC P AN j) (i : Int) : cntR P now L i = cntR P (gC P AN) (gL P AN) i := by
  subst hL
  exact cntR_congr hC i
theorem isR_g {P : Int} {AN now : Int → Int} {L : Int} (hL : L = gL P AN) (hC : ∀ j : Int, 1 ≤ j → j ≤ L → now j = gC P AN j) (r : Int) : isR P now L r ↔ isR P (gC P AN) (gL P AN) r := by
  subst hL
  unfold isR
  rw [isR_congr hC]
theorem key_at {P : Int} {AN kc now kn kx ky kz : Int → Int} {L : Int} (hL : L = gL P AN) (hC : ∀ j : Int, 1 ≤ j → j ≤ L → now j = gC P AN j) (hL4 : L ≤ 4) (hc : cntR P now L 125 = L) (hkc : gKC P AN kc) (hk : keysP P now L 125 kn kx ky kz) {m : Int} (h0 : 0 ≤ m) (hm : m < L) : kn m = nmc P (kc m) ∧ kx m = kc m / 25 ∧ ky m = kc m / 5 % 5 ∧ kz m = kc m % 5 := by
  have h := hkc (by omega) (by rw [← cnt_g hL hC, hc]; exact hL) m h0 (by omega)
  have q := hk (kc m) h.1.1 h.1.2 ((isR_g hL hC _).mpr h.2.1)
  rw [cnt_g hL hC, h.2.2] at q
  exact q
theorem slv_g {P K : Int} {AN kc kn an xs : Int → Int} (hkn : ∀ m : Int, 0 ≤ m → m < K → kn m = nmc P (kc m)) (han : ∀ i : Int, 0 ≤ i → i < K → an i = AN i) (h : slv P K (fun m => nmc P (kc m)) AN xs) : slv P K kn an xs := by
  refine ⟨h.1, fun i a b => ?_⟩
  rw [han i a b, ← h.2 i a b]
  congr 1
  exact sm_congr (fun m x y => by rw [hkn m x y])
theorem fits_g {P K : Int} {AN kc kn an xs cf : Int → Int} (hK : K = gL P AN) (hkn : ∀ m : Int, 0 ≤ m → m < K → kn m = nmc P (kc m)) (han : an 8 = AN 8) (hcf : ∀ m : Int, 0 ≤ m → m < K → cf m = xs m) : sm (fun j => cf j * pw P (kn j) 8) K % P = an 8 ↔ sm (fun j => xs j * pw P (nmc P (kc j)) 8) (gL P AN) % P = AN 8 := by
  rw [han, ← hK, sm_congr (fun j x y => show cf j * pw P (kn j) 8 = xs j * pw P (nmc P (kc j)) 8 by rw [hcf j x y, hkn j x y])]
theorem bm8 {P : Int} (hP : 2 ≤ P) {an AN : Int → Int} (h : ∀ i : Int, 0 ≤ i → i ≤ 8 → an i = AN i) : bm P an 8 = bm P AN 8 := bm_congr hP (fun j a b => h j a (by omega))
