/-! the register, place by place -/
def ivF (P w : Int) : Int := w ^ (P - 2).toNat % P
def tbF (P : Int) (iv : Int → Int) : Prop := ∀ w : Int, 0 < w → w < P → 0 ≤ iv w ∧ iv w < P ∧ iv w = ivF P w
abbrev RS : Type := (Int → Int) × (Int → Int) × Int × Int × Int
def c00 : Int → Int := fun j => if j = 0 then 1 else 0
def bm0 : RS := (c00, c00, 0, 1, 1)
def bmE (P : Int) (row : Int → Int) (n : Int) (s : RS) : Int := sm (fun k => s.1 k * row (n - k)) (s.2.2.1 + 1) % P
def bmC (P E : Int) (s : RS) : Int → Int := fun j => (s.1 j + (P - E * ivF P s.2.2.2.1 % P) * s.2.1 (j - s.2.2.2.2)) % P
def bmS (P : Int) (row : Int → Int) (n : Int) (s : RS) : RS :=
  if bmE P row n s = 0 then (s.1, s.2.1, s.2.2.1, s.2.2.2.1, s.2.2.2.2 + 1)
  else if 2 * s.2.2.1 ≤ n then (bmC P (bmE P row n s) s, s.1, n + 1 - s.2.2.1, bmE P row n s, 1)
  else (bmC P (bmE P row n s) s, s.2.1, s.2.2.1, s.2.2.2.1, s.2.2.2.2 + 1)
def bm (P : Int) (row : Int → Int) : Nat → RS
  | 0 => bm0
  | n + 1 => bmS P row n (bm P row n)
theorem bmS_0 {P n : Int} {row : Int → Int} {s : RS} (h : bmE P row n s = 0) : bmS P row n s = (s.1, s.2.1, s.2.2.1, s.2.2.2.1, s.2.2.2.2 + 1) := if_pos h
theorem bmS_1 {P n : Int} {row : Int → Int} {s : RS} (h : bmE P row n s ≠ 0) (h2 : 2 * s.2.2.1 ≤ n) : bmS P row n s = (bmC P (bmE P row n s) s, s.1, n + 1 - s.2.2.1, bmE P row n s, 1) := by unfold bmS; rw [if_neg h, if_pos h2]
theorem bmS_2 {P n : Int} {row : Int → Int} {s : RS} (h : bmE P row n s ≠ 0) (h2 : ¬ 2 * s.2.2.1 ≤ n) : bmS P row n s = (bmC P (bmE P row n s) s, s.2.1, s.2.2.1, s.2.2.2.1, s.2.2.2.2 + 1) := by unfold bmS; rw [if_neg h, if_neg h2]
/-- what holds of a register behind n places -/
def bmI (P n : Int) (s : RS) : Prop := (0 ≤ s.2.2.1 ∧ s.2.2.1 ≤ n ∧ 1 ≤ s.2.2.2.2 ∧ s.2.2.2.2 + s.2.2.1 ≤ n + 1 ∧ 1 ≤ s.2.2.2.1 ∧ s.2.2.2.1 < P) ∧ (∀ j, 0 ≤ s.1 j ∧ s.1 j < P) ∧ (∀ j, 0 ≤ s.2.1 j ∧ s.2.1 j < P) ∧ (∀ j, j < 0 → s.1 j = 0 ∧ s.2.1 j = 0) ∧ (∀ j, s.2.2.1 < j → s.1 j = 0) ∧ (∀ j, n + 1 - s.2.2.1 - s.2.2.2.2 < j → s.2.1 j = 0)
theorem c00_in {P : Int} (hP : 2 ≤ P) (j : Int) : 0 ≤ c00 j ∧ c00 j < P := by unfold c00; split <;> omega
theorem bmI_0 {P : Int} (hP : 2 ≤ P) : bmI P 0 bm0 := by
  refine ⟨⟨?_, ?_, ?_, ?_, ?_, ?_⟩, c00_in hP, c00_in hP, fun j h => ?_, fun j h => ?_, fun j h => ?_⟩ <;> unfold bm0 at * <;> dsimp only at *
  all_goals first | omega | skip
  · unfold c00; rw [if_neg (by omega)]; exact ⟨rfl, rfl⟩
  · unfold c00; rw [if_neg (by omega)]
  · unfold c00; rw [if_neg (by omega)]
theorem bmE_in {P : Int} (hP : 2 ≤ P) (row : Int → Int) (n : Int) (s : RS) : 0 ≤ bmE P row n s ∧ bmE P row n s < P := emB (by omega) _
theorem bmI_s {P : Int} (hP : 2 ≤ P) (row : Int → Int) {n : Int} {s : RS} (h : bmI P n s) : bmI P (n + 1) (bmS P row n s) := by
  obtain ⟨⟨a1, a2, a3, a4, a5, a6⟩, hc, hf, hz, hcL, hfL⟩ := h
  have hE := bmE_in hP row n s
  have hC : ∀ j, 0 ≤ bmC P (bmE P row n s) s j ∧ bmC P (bmE P row n s) s j < P := fun j => emB (by omega) _
  have hC0 : ∀ j, s.1 j = 0 → s.2.1 (j - s.2.2.2.2) = 0 → bmC P (bmE P row n s) s j = 0 := fun j h1 h2 => by
    unfold bmC; rw [h1, h2, Int.mul_zero]; rfl
  by_cases h0 : bmE P row n s = 0
  · rw [bmS_0 h0]
    exact ⟨⟨a1, by dsimp only; omega, by dsimp only; omega, by dsimp only; omega, a5, a6⟩, hc, hf, hz, hcL, fun j hj => hfL j (by dsimp only at hj; omega)⟩
  · by_cases h2 : 2 * s.2.2.1 ≤ n
    · rw [bmS_1 h0 h2]
      refine ⟨⟨by dsimp only; omega, by dsimp only; omega, by dsimp only; omega, by dsimp only; omega, by dsimp only; omega, by dsimp only; omega⟩, hC, hc, fun j hj => ⟨hC0 j (hz j hj).1 (hz _ (by omega)).2, (hz j hj).1⟩, fun j hj => ?_, fun j hj => hcL j ?_⟩
      · dsimp only at hj
        exact hC0 j (hcL j (by omega)) (hfL _ (by omega))
      · dsimp only at hj; omega
    · rw [bmS_2 h0 h2]
      refine ⟨⟨a1, by dsimp only; omega, by dsimp only; omega, by dsimp only; omega, a5, a6⟩, hC, hf, fun j hj => ⟨hC0 j (hz j hj).1 (hz _ (by omega)).2, (hz j hj).2⟩, fun j hj => ?_, fun j hj => hfL j ?_⟩
      · dsimp only at hj
        exact hC0 j (hcL j hj) (hfL _ (by omega))
      · dsimp only at hj; omega
theorem bmI_n {P : Int} (hP : 2 ≤ P) (row : Int → Int) : ∀ n : Nat, bmI P n (bm P row n)
  | 0 => bmI_0 hP
  | n + 1 => by
    have := bmI_s hP row (bmI_n hP row n)
    rw [show ((n + 1 : Nat) : Int) = (n : Int) + 1 by omega]
    exact this
/-- the rows that hold a register -/
def rgR (n : Int) (s : RS) (now fo : Int → Int) (L fL f m : Int) : Prop := L = s.2.2.1 ∧ f = s.2.2.2.1 ∧ m = s.2.2.2.2 ∧ fL = n + 1 - L - m ∧ ∀ j : Int, 0 ≤ j → j ≤ 16 → now j = s.1 j ∧ fo j = s.2.1 j
theorem add_rel {P n L f m fL fa : Int} {sC sF now fo now2 : Int → Int} (hI : bmI P n (sC, sF, L, f, m)) (hfL : fL = n + 1 - L - m) (hn : n ≤ 15) (hj : ∀ j : Int, 0 ≤ j → j ≤ 16 → now j = sC j ∧ fo j = sF j) (h2 : ∀ j : Int, 0 ≤ j → j ≤ 16 → now2 j = if m ≤ j ∧ j ≤ m + fL then (now j + fa * fo (j - m)) % P else now j) : ∀ j : Int, 0 ≤ j → j ≤ 16 → now2 j = (sC j + fa * sF (j - m)) % P := by
  obtain ⟨⟨a1, a2, a3, a4, a5, a6⟩, hc, hf, hz, hcL, hfL2⟩ := hI
  dsimp only at *
  intro j h0 h1
  rw [h2 j h0 h1]
  by_cases h : m ≤ j ∧ j ≤ m + fL
  · rw [if_pos h, (hj j h0 h1).1, (hj (j - m) (by omega) (by omega)).2]
  · rw [if_neg h, (hj j h0 h1).1]
    have e : sF (j - m) = 0 := by
      rcases Int.lt_or_le j m with q | q
      · exact (hz _ (by omega)).2
      · exact hfL2 _ (by omega)
    rw [e, Int.mul_zero, Int.add_zero]
    exact (Int.emod_eq_of_lt (hc j).1 (hc j).2).symm
