/-! the table of inverses; letters, terms, answers -/
def tbl (P : Int) (iv : Int → Int) : Prop := ∀ w : Int, 0 < w → w < P → 0 ≤ iv w ∧ iv w < P ∧ w * iv w % P = 1
theorem inv_step {P i x : Int} (h : (P % i) * x % P = 1) : i * ((P - P / i) * x % P) % P = 1 := by
  have e := Int.mul_ediv_add_emod P i
  rw [Int.mul_emod, Int.emod_emod, ← Int.mul_emod]
  have e2 : i * ((P - P / i) * x) = (P % i) * x + P * (i * x - x) := by
    generalize P / i = q at e ⊢
    generalize P % i = r at e ⊢
    subst e
    grind
  rw [e2, Int.add_mul_emod_self_left, h]
def ltr (P sh sc k v e : Int) : Int := if k = 2 then sc * pw P ((v + sh) % P) e % P else if k = 1 then pw P ((v + sh) % P) e else pw P v e
theorem ltr_2 {P sh sc k v e : Int} (h : k = 2) : ltr P sh sc k v e = sc * pw P ((v + sh) % P) e % P := if_pos h
theorem ltr_1 {P sh sc k v e : Int} (h : k = 1) : ltr P sh sc k v e = pw P ((v + sh) % P) e := by unfold ltr; rw [if_neg (by omega), if_pos h]
theorem ltr_0 {P sh sc k v e : Int} (h : k ≠ 2) (h1 : k ≠ 1) : ltr P sh sc k v e = pw P v e := by unfold ltr; rw [if_neg h, if_neg h1]
theorem ltr_in {P : Int} (hP : 2 ≤ P) (sh sc k v e : Int) : 0 ≤ ltr P sh sc k v e ∧ ltr P sh sc k v e < P := by
  unfold ltr
  split
  · exact emB (by omega) _
  · split
    · exact pw_in hP _ _
    · exact pw_in hP _ _
def cC (pt : Int → Int) (j : Int) : Int → Int := fun t => pt (t * 4 + j)
def of2 (P sh sc k : Int) (co ex ey : Int → Int) (x y t : Int) : Int := co t * ltr P sh sc k x (ex t) % P * ltr P sh sc k y (ey t) % P
def tmg (P sh sc k : Int) (co ex ey ez : Int → Int) (x y z t : Int) : Int := of2 P sh sc k co ex ey x y t * ltr P sh sc k z (ez t)
def ans (P sh sc k n : Int) (co ex ey ez : Int → Int) (x y z : Int) : Int := sm (tmg P sh sc k co ex ey ez x y z) n % P
theorem of2_in {P : Int} (hP : 2 ≤ P) (sh sc k : Int) (co ex ey : Int → Int) (x y t : Int) : 0 ≤ of2 P sh sc k co ex ey x y t ∧ of2 P sh sc k co ex ey x y t < P := emB (by omega) _
theorem ans_in {P : Int} (hP : 2 ≤ P) (sh sc k n : Int) (co ex ey ez : Int → Int) (x y z : Int) : 0 ≤ ans P sh sc k n co ex ey ez x y z ∧ ans P sh sc k n co ex ey ez x y z < P := emB (by omega) _
/-- a box's terms are in their bounds -/
def bxOK (P n : Int) (pt : Int → Int) : Prop := ∀ t : Int, 0 ≤ t → t < n → (0 ≤ pt (t * 4 + 0) ∧ pt (t * 4 + 0) < P) ∧ (0 ≤ pt (t * 4 + 1) ∧ pt (t * 4 + 1) ≤ 4) ∧ (0 ≤ pt (t * 4 + 2) ∧ pt (t * 4 + 2) ≤ 4) ∧ (0 ≤ pt (t * 4 + 3) ∧ pt (t * 4 + 3) ≤ 4)
def pt4 (pt : Int → Int) (n co a b c : Int) : Int → Int := uI (uI (uI (uI pt (n * 4 + 0) co) (n * 4 + 1) a) (n * 4 + 2) b) (n * 4 + 3) c
theorem bxOK_add {P n : Int} {pt : Int → Int} {co a b c : Int} (h : bxOK P n pt) (h1 : 0 ≤ co ∧ co < P) (h2 : 0 ≤ a ∧ a ≤ 4) (h3 : 0 ≤ b ∧ b ≤ 4) (h4 : 0 ≤ c ∧ c ≤ 4) : bxOK P (n + 1) (pt4 pt n co a b c) := by
  intro t ht0 ht
  unfold pt4 uI
  by_cases e : t = n
  · subst e
    refine ⟨?_, ?_, ?_, ?_⟩
    · rw [if_neg (by omega), if_neg (by omega), if_neg (by omega), if_pos rfl]; exact h1
    · rw [if_neg (by omega), if_neg (by omega), if_pos rfl]; exact h2
    · rw [if_neg (by omega), if_pos rfl]; exact h3
    · rw [if_pos rfl]; exact h4
  · have := h t ht0 (by omega)
    refine ⟨?_, ?_, ?_, ?_⟩ <;> (rw [if_neg (by omega), if_neg (by omega), if_neg (by omega), if_neg (by omega)])
    · exact this.1
    · exact this.2.1
    · exact this.2.2.1
    · exact this.2.2.2
