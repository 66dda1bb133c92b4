/-! what both sides speak of is there: codes, coefficients, the row going on -/
theorem cnt_ex {P : Int} (c : Int → Int) (L : Int) : ∀ (n : Nat) (m : Int), 0 ≤ m → m < cntR P c L n → ∃ j : Int, (0 ≤ j ∧ j < n) ∧ isR P c L (nmc P j) ∧ cntR P c L j = m
  | 0, m, h0, h1 => by have : m < (0 : Int) := h1; omega
  | n + 1, m, h0, h1 => by
    rw [show ((n + 1 : Nat) : Int) = (n : Int) + 1 by omega, cntR_s P c L (by omega)] at h1
    rcases Int.lt_or_le m (cntR P c L n) with q | q
    · obtain ⟨j, a, b⟩ := cnt_ex c L n m h0 q
      exact ⟨j, ⟨a.1, by omega⟩, b⟩
    · by_cases r : isR P c L (nmc P n)
      · rw [bI_t r] at h1
        exact ⟨n, ⟨by omega, by omega⟩, r, by omega⟩
      · rw [bI_f r] at h1
        omega
theorem kc_ex (P : Int) (AN : Int → Int) : ∃ kc : Int → Int, gKC P AN kc := by
  by_cases hc : cntR P (gC P AN) (gL P AN) 125 = gL P AN
  · have h : ∀ m : Int, ∃ j : Int, 0 ≤ m → m < gL P AN → (0 ≤ j ∧ j < 125) ∧ isR P (gC P AN) (gL P AN) (nmc P j) ∧ cntR P (gC P AN) (gL P AN) j = m := fun m => by
      by_cases q : 0 ≤ m ∧ m < gL P AN
      · obtain ⟨j, a⟩ := cnt_ex (P := P) (gC P AN) (gL P AN) 125 m q.1 (by show m < cntR P (gC P AN) (gL P AN) 125; omega)
        exact ⟨j, fun _ _ => a⟩
      · exact ⟨0, fun a b => absurd ⟨a, b⟩ q⟩
    exact ⟨fun m => (h m).choose, fun _ _ m a b => (h m).choose_spec a b⟩
  · exact ⟨fun _ => 0, fun _ q => absurd q hc⟩
theorem xs_ex {P : Int} (h : okP P) (AN kc : Int → Int) : ∃ xs : Int → Int, gXS P AN kc xs := by
  by_cases hd : gL P AN ≤ 4 ∧ difB (fun m => nmc P (kc m)) (gL P AN) = true
  · have hg := gL_in (show 2 ≤ P by omega) AN
    obtain ⟨n, hn⟩ := Int.eq_ofNat_of_zero_le hg.1
    have hk := (difB_iff hd.1).mp hd.2
    obtain ⟨x, hx⟩ := van_slv h n (fun m => nmc P (kc m)) AN (fun i j a b c => gs_dif (nmc_in (by omega) _) (nmc_in (by omega) _) (hk i j a b (by omega)))
    refine ⟨fun m => x m % P, fun _ _ _ => ⟨fun m _ _ => emB (by omega) _, fun i a b => ?_⟩⟩
    rw [hn] at b ⊢
    rw [← hx i a b]
    exact sm_cg (fun m _ _ => cg_mul (cg_m _ _) rfl)
  · exact ⟨fun _ => 0, fun a _ c => absurd ⟨a, c⟩ hd⟩
def sqN (L : Int) (w row : Int → Int) : Nat → Int → Int
  | 0, i => row i
  | n + 1, i => if i = L + n then sm (fun k => w (k + 1) * sqN L w row n (i - 1 - k)) L else sqN L w row n i
theorem sq_up (L : Int) (w row : Int → Int) {n : Nat} {i : Int} (h : i < L + n) : ∀ d : Nat, sqN L w row (n + d) i = sqN L w row n i
  | 0 => rfl
  | d + 1 => by
    show (if i = L + ((n + d : Nat) : Int) then _ else sqN L w row (n + d) i) = _
    rw [if_neg (by omega), sq_up L w row h d]
def sqV (L : Int) (w row : Int → Int) (i : Int) : Int := sqN L w row (i - L + 1).toNat i
theorem sqV_at (L : Int) (w row : Int → Int) {n : Nat} {i : Int} (h : i < L + n) : sqN L w row n i = sqV L w row i := by
  unfold sqV
  obtain ⟨d, hd⟩ : ∃ d : Nat, n = (i - L + 1).toNat + d := ⟨n - (i - L + 1).toNat, by omega⟩
  rw [hd]
  exact sq_up L w row (by omega) d
theorem ss_ex (P : Int) {L : Int} (w row : Int → Int) : ∃ SS : Int → Int, goesOn P L w SS ∧ ∀ j : Int, 0 ≤ j → j < L → SS j = row j := by
  refine ⟨sqV L w row, fun i hi => ?_, fun j a b => ?_⟩
  · congr 1
    have e : (i - L + 1).toNat = (i - L).toNat + 1 := by omega
    show sqN L w row (i - L + 1).toNat i = _
    rw [e]
    show (if i = L + ((i - L).toNat : Int) then _ else _) = _
    rw [if_pos (by omega)]
    exact sm_congr (fun k a b => by rw [sqV_at L w row (by omega)])
  · unfold sqV
    rw [show (j - L + 1).toNat = 0 by omega]
    rfl
/-- the answer of lie -/
noncomputable def lieV (P : Int) (row : Int → Int) (cnt h : Int) : Int := if 0 ≤ h ∧ h ≤ 7 then (if bmL P row cnt ≤ h then 999000 else Classical.epsilon (lieP P row cnt h)) else -1
theorem lieV_of {P : Int} {row : Int → Int} {cnt h rr : Int} (a : (¬ (0 ≤ h ∧ h ≤ 7) ∧ rr = -1) ∨ ((0 ≤ h ∧ h ≤ 7) ∧ bmL P row cnt ≤ h ∧ rr = 999000) ∨ ((0 ≤ h ∧ h ≤ 7) ∧ ¬ bmL P row cnt ≤ h ∧ lieP P row cnt h rr)) : rr = lieV P row cnt h := by
  unfold lieV
  rcases a with ⟨q, e⟩ | ⟨q, r, e⟩ | ⟨q, r, e⟩
  · rw [if_neg q]; exact e
  · rw [if_pos q, if_pos r]; exact e
  · rw [if_pos q, if_neg r]
    exact lieP_one e (Classical.epsilon_spec ⟨rr, e⟩)
