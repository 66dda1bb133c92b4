/-! a register's length grows; what is the same ahead; a lie -/
def bmL (P : Int) (row : Int → Int) (n : Int) : Int := (bm P row n.toNat).2.2.1
theorem bmS_L {P : Int} (row : Int → Int) {n : Int} {s : RS} (h : 0 ≤ s.2.2.1) : s.2.2.1 ≤ (bmS P row n s).2.2.1 := by
  by_cases h0 : bmE P row n s = 0
  · rw [bmS_0 h0]; exact Int.le_refl _
  · by_cases h2 : 2 * s.2.2.1 ≤ n
    · rw [bmS_1 h0 h2]; dsimp only; omega
    · rw [bmS_2 h0 h2]; exact Int.le_refl _
theorem bm_mono {P : Int} (hP : 2 ≤ P) (row : Int → Int) (a : Nat) : ∀ d : Nat, (bm P row a).2.2.1 ≤ (bm P row (a + d)).2.2.1
  | 0 => Int.le_refl _
  | d + 1 => Int.le_trans (bm_mono hP row a d) (bmS_L row (bmI_n hP row (a + d)).1.1)
theorem bmL_mono {P : Int} (hP : 2 ≤ P) (row : Int → Int) {a b : Int} (h : 0 ≤ a) (hab : a ≤ b) : bmL P row a ≤ bmL P row b := by
  have := bm_mono hP row a.toNat (b.toNat - a.toNat)
  rw [show a.toNat + (b.toNat - a.toNat) = b.toNat by omega] at this
  exact this
theorem bmL_in {P : Int} (hP : 2 ≤ P) (row : Int → Int) {n : Int} (h : 0 ≤ n) : 0 ≤ bmL P row n ∧ bmL P row n ≤ n := by
  have := (bmI_n hP row n.toNat).1
  rw [Int.toNat_of_nonneg h] at this
  exact ⟨this.1, this.2.1⟩
theorem bm_congr {P : Int} (hP : 2 ≤ P) {row row2 : Int → Int} : ∀ {n : Nat}, (∀ j : Int, 0 ≤ j → j < n → row j = row2 j) → bm P row n = bm P row2 n
  | 0, _ => rfl
  | n + 1, h => by
    show bmS P row n (bm P row n) = bmS P row2 n (bm P row2 n)
    rw [bm_congr hP (n := n) (fun j a b => h j a (by omega))]
    have hb := (bmI_n hP row2 n).1
    have e : bmE P row n (bm P row2 n) = bmE P row2 n (bm P row2 n) := by
      unfold bmE
      congr 1
      refine sm_congr (fun k a b => ?_)
      show _ * row (n - k) = _ * row2 (n - k)
      rw [h (n - k) (by omega) (by omega)]
    unfold bmS
    rw [e]
theorem bmL_congr {P : Int} (hP : 2 ≤ P) {row row2 : Int → Int} {n : Int} (h : ∀ j : Int, 0 ≤ j → j < n → row j = row2 j) : bmL P row n = bmL P row2 n := by
  unfold bmL
  rw [bm_congr hP (n := n.toNat) (fun j a b => h j a (by omega))]
theorem rgL {P i : Int} {row now fo : Int → Int} {L fL f m : Int} (hP : 2 ≤ P) (hi : 0 ≤ i) (h : rgR i (bm P row i.toNat) now fo L fL f m) : 0 ≤ L ∧ L ≤ i ∧ L = bmL P row i := by
  have := bmL_in hP row hi
  have e : L = bmL P row i := h.1
  omega
theorem rg_in {P i : Int} {row now fo : Int → Int} {L fL f m : Int} (hP : 2 ≤ P) (h : rgR i (bm P row i.toNat) now fo L fL f m) : ∀ j : Int, 0 ≤ j → j ≤ 16 → 0 ≤ now j ∧ now j < P := fun j a b => by
  rw [(h.2.2.2.2 j a b).1]
  exact (bmI_n hP row i.toNat).2.1 j
theorem bmI_z {P : Int} (hP : 2 ≤ P) (row : Int → Int) {i : Int} (hi : 0 ≤ i) : bmI P i (bm P row i.toNat) := by
  have := bmI_n hP row i.toNat
  rw [Int.toNat_of_nonneg hi] at this
  exact this
theorem rg_next {P i : Int} {row now fo : Int → Int} {L fL f m : Int} (hi : 0 ≤ i) (h : rgR (i + 1) (bmS P row i (bm P row i.toNat)) now fo L fL f m) : rgR (i + 1) (bm P row (i + 1).toNat) now fo L fL f m := by
  rw [show (i + 1).toNat = i.toNat + 1 by omega]
  show rgR _ (bmS P row (i.toNat : Int) (bm P row i.toNat)) _ _ _ _ _ _
  rw [Int.toNat_of_nonneg hi]
  exact h
def lieP (P : Int) (row : Int → Int) (cnt h r : Int) : Prop := (∃ p v : Int, 0 ≤ p ∧ p < cnt ∧ 0 ≤ v ∧ v < P ∧ r = p * 1000 + v ∧ bmL P (uI row p v) cnt ≤ h ∧ (∀ v2 : Int, 0 ≤ v2 → v2 < v → ¬ bmL P (uI row p v2) cnt ≤ h) ∧ ∀ p2 v2 : Int, 0 ≤ p2 → p2 < p → 0 ≤ v2 → v2 < P → ¬ bmL P (uI row p2 v2) cnt ≤ h) ∨ (r = -9 ∧ ∀ p2 v2 : Int, 0 ≤ p2 → p2 < cnt → 0 ≤ v2 → v2 < P → ¬ bmL P (uI row p2 v2) cnt ≤ h)
theorem lieP_one {P : Int} {row : Int → Int} {cnt h r r2 : Int} (a : lieP P row cnt h r) (b : lieP P row cnt h r2) : r = r2 := by
  rcases a with ⟨p, v, a1, a2, a3, a4, a5, a6, a7, a8⟩ | ⟨a1, a2⟩
  · rcases b with ⟨q, w, b1, b2, b3, b4, b5, b6, b7, b8⟩ | ⟨b1, b2⟩
    · have e : p = q := by
        rcases Int.lt_trichotomy p q with z | z | z
        · exact absurd a6 (b8 p v a1 z a3 a4)
        · exact z
        · exact absurd b6 (a8 q w b1 z b3 b4)
      subst e
      have e2 : v = w := by
        rcases Int.lt_trichotomy v w with z | z | z
        · exact absurd a6 (b7 v a3 z)
        · exact z
        · exact absurd b6 (a7 w b3 z)
      omega
    · exact absurd a6 (b2 p v a1 a2 a3 a4)
  · rcases b with ⟨q, w, b1, b2, b3, b4, b5, b6, b7, b8⟩ | ⟨b1, b2⟩
    · exact absurd b6 (a2 q w b1 b2 b3 b4)
    · omega
/-- the least number at a place, or none -/
def numP (P : Int) (row : Int → Int) (p cnt h r : Int) : Prop := (0 ≤ r ∧ r < P ∧ bmL P (uI row p r) cnt ≤ h ∧ ∀ v2 : Int, 0 ≤ v2 → v2 < r → ¬ bmL P (uI row p v2) cnt ≤ h) ∨ (r = -1 ∧ ∀ v2 : Int, 0 ≤ v2 → v2 < P → ¬ bmL P (uI row p v2) cnt ≤ h)
