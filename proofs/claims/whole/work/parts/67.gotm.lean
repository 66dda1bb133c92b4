/-! keys one by one: none twice, none too many; sums over all numbers -/
theorem nm_pw {P : Int} (hP : 2 ≤ P) (a b c : Int) : pw P 2 a * pw P 3 b % P * pw P (5 % P) c % P = nm3 P a b c := by
  rw [pw_mod hP, pw_eq hP, pw_eq hP, pw_eq hP]
  unfold nm3
  refine cg_mul ?_ (cg_m _ _)
  rw [cg_m]
  exact cg_mul (cg_m _ _) (cg_m _ _)
theorem cnt_lt {P : Int} {c : Int → Int} {L i j : Int} (hi : 0 ≤ i) (hij : i < j) (hr : isR P c L (nmc P i)) : cntR P c L i + 1 ≤ cntR P c L j := by
  have e := cntR_s P c L hi
  rw [bI_t hr] at e
  rw [← e]
  exact cntR_le P c L (by omega) (by omega)
theorem dup_no {P : Int} {AN kc xs now kn kx ky kz : Int → Int} {L i K m : Int} (hL : L = gL P AN) (hC : ∀ j : Int, 1 ≤ j → j ≤ L → now j = gC P AN j) (hkc : gKC P AN kc) (hk : keysP P now L i kn kx ky kz) (hi : 0 ≤ i ∧ i < 125) (hK : K = cntR P now L i) (hr : isR P now L (nmc P i)) (hm : 0 ≤ m ∧ m < K) (he : kn m = nmc P i) (g : gOK P AN kc xs) : False := by
  have hr2 := (isR_g hL hC _).mp hr
  have e1 := cnt_lt hi.1 hi.2 hr2
  rw [g.2.1, ← cnt_g hL hC, ← hK] at e1
  have h1 := hkc g.1 g.2.1 m hm.1 (by omega)
  have h2 := hkc g.1 g.2.1 K (by omega) (by omega)
  have eK : cntR P (gC P AN) (gL P AN) i = K := by rw [← cnt_g hL hC]; exact hK.symm
  have e2 : kc K = i := by
    rcases Int.lt_trichotomy (kc K) i with q | q | q
    · have := cnt_lt h2.1.1 q h2.2.1; omega
    · exact q
    · have := cnt_lt hi.1 q hr2; omega
  have e3 : kc m < i := by
    rcases Int.lt_or_le (kc m) i with q | q
    · exact q
    · have := cntR_le P (gC P AN) (gL P AN) hi.1 q; omega
  have e4 := (hk (kc m) h1.1.1 e3 ((isR_g hL hC _).mpr h1.2.1)).1
  rw [cnt_g hL hC, h1.2.2] at e4
  have e5 := (difB_iff (by omega)).mp g.2.2.1 K m hm.1 hm.2 (by omega)
  exact e5 (by show nmc P (kc K) = nmc P (kc m); rw [e2, ← e4, he])
theorem many_no {P : Int} {AN kc xs now : Int → Int} {L i K : Int} (hL : L = gL P AN) (hC : ∀ j : Int, 1 ≤ j → j ≤ L → now j = gC P AN j) (hi : 0 ≤ i ∧ i < 125) (hK : K = cntR P now L i) (hr : isR P now L (nmc P i)) (hm : K = L) (g : gOK P AN kc xs) : False := by
  have e1 := cnt_lt hi.1 hi.2 ((isR_g hL hC _).mp hr)
  rw [g.2.1, ← cnt_g hL hC, ← hK] at e1
  omega
theorem isR_0 {P : Int} (hP : 2 ≤ P) (c : Int → Int) {L : Int} (hL : L = 0) (r : Int) : ¬ isR P c L r := by
  intro q
  unfold isR at q
  rw [hL, rtV_0, Int.emod_eq_of_lt (by omega) (by omega)] at q
  omega
theorem sm_addn (f : Int → Int) {m : Int} (hm : 0 ≤ m) : ∀ n : Nat, sm f (m + n) = sm f m + sm (fun q => f (m + q)) n
  | 0 => by rw [show m + ((0 : Nat) : Int) = m by omega]; show _ = _ + (0 : Int); omega
  | n + 1 => by
    rw [show m + ((n + 1 : Nat) : Int) = (m + n) + 1 by omega, sm_s _ (by omega), sm_addn f hm n, show ((n + 1 : Nat) : Int) = (n : Int) + 1 by omega, sm_s _ (by omega)]
    omega
theorem sm_mul {P : Int} (hP : 0 < P) (f : Int → Int → Int) : ∀ n : Nat, sm (fun q => f (q / P) (q % P)) (n * P) = sm (fun a => sm (fun b => f a b) P) n
  | 0 => by rw [show ((0 : Nat) : Int) * P = 0 from Int.zero_mul P]; rfl
  | n + 1 => by
    obtain ⟨p, hp⟩ := Int.eq_ofNat_of_zero_le (show 0 ≤ P by omega)
    rw [show ((n + 1 : Nat) : Int) * P = (n : Int) * P + P by rw [show ((n + 1 : Nat) : Int) = (n : Int) + 1 by omega, Int.add_mul, Int.one_mul], show ((n + 1 : Nat) : Int) = (n : Int) + 1 by omega, sm_s _ (by omega), ← sm_mul hP f n]
    have e := sm_addn (fun q => f (q / P) (q % P)) (m := n * P) (Int.mul_nonneg (by omega) (by omega)) p
    rw [← hp] at e
    rw [e]
    congr 1
    refine sm_congr (fun q a b => ?_)
    show f (((n : Int) * P + q) / P) (((n : Int) * P + q) % P) = f n q
    rw [Int.add_comm, Int.add_mul_ediv_right _ _ (by omega), Int.add_mul_emod_self_right, Int.ediv_eq_zero_of_lt a b, Int.emod_eq_of_lt a b, Int.zero_add]
theorem z3_one {P : Int} (hP : 0 < P) (f : Int → Int → Int → Int) : sm (fun q => f (q / P / P) (q / P % P) (q % P)) (P * P * P) = z3 P f := by
  obtain ⟨p, hp⟩ := Int.eq_ofNat_of_zero_le (show 0 ≤ P by omega)
  obtain ⟨n, hn⟩ := Int.eq_ofNat_of_zero_le (show 0 ≤ P * P from Int.mul_nonneg (by omega) (by omega))
  have e1 := sm_mul hP (fun a b => f (a / P) (a % P) b) n
  have e2 := sm_mul hP (fun a b => sm (fun z => f a b z) P) p
  rw [← hn] at e1
  rw [← hp] at e2
  exact e1.trans e2
theorem qB {P q : Int} (hP : 5 ≤ P) (h0 : 0 ≤ q) (h : q < P * P * P) : (0 ≤ q / P / P ∧ q / P / P < P) ∧ (0 ≤ q / P % P ∧ q / P % P < P) ∧ (0 ≤ q % P ∧ q % P < P) := by
  refine ⟨⟨Int.ediv_nonneg (Int.ediv_nonneg h0 (by omega)) (by omega), ?_⟩, emB (by omega) _, emB (by omega) _⟩
  exact Int.ediv_lt_of_lt_mul (by omega) (Int.ediv_lt_of_lt_mul (by omega) h)
theorem cubeB {P : Int} (h : 5 ≤ P ∧ P ≤ 23) : 0 ≤ P * P ∧ P * P ≤ 529 ∧ 0 ≤ P * P * P ∧ P * P * P ≤ 12167 := by
  have a := Int.mul_le_mul h.2 h.2 (by omega) (by omega : (0 : Int) ≤ 23)
  have a0 : 0 ≤ P * P := Int.mul_nonneg (by omega) (by omega)
  have b := Int.mul_le_mul (show P * P ≤ 529 by omega) h.2 (by omega) (by omega : (0 : Int) ≤ 529)
  exact ⟨a0, by omega, Int.mul_nonneg a0 (by omega), by omega⟩
