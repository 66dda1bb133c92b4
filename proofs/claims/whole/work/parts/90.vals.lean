/-! the reference's answers are the component's -/
theorem term_m {P v cf x y z : Int} {k1 n1 k2 n2 : Int} {pt1 pt2 kd tm co ex ey ez : Int → Int} (h : mRel k1 n1 k2 n2 pt1 pt2 kd tm co ex ey ez) : (if ((v = 0 ∨ v = 1) ∧ (1 ≤ cf ∧ cf < P) ∧ (0 ≤ x ∧ x ≤ 4) ∧ (0 ≤ y ∧ y ≤ 4) ∧ (0 ≤ z ∧ z ≤ 4)) then (if tm v < 4 then tm v else -3) else -1) = (if ((v = 0 ∨ v = 1) ∧ (1 ≤ cf ∧ cf < P) ∧ (0 ≤ x ∧ x ≤ 4) ∧ (0 ≤ y ∧ y ≤ 4) ∧ (0 ≤ z ∧ z ≤ 4)) then (if v = 0 then (if n1 < 4 then n1 else -3) else (if n2 < 4 then n2 else -3)) else -1) := by
  by_cases q : ((v = 0 ∨ v = 1) ∧ (1 ≤ cf ∧ cf < P) ∧ (0 ≤ x ∧ x ≤ 4) ∧ (0 ≤ y ∧ y ≤ 4) ∧ (0 ≤ z ∧ z ≤ 4))
  · rw [if_pos q, if_pos q]
    rcases q.1 with e | e
    · rw [e, h.1.2.2.1, if_pos rfl]
    · rw [e, h.1.2.2.2, if_neg (show ¬ (1 : Int) = 0 by decide)]
  · rw [if_neg q, if_neg q]
theorem empty_m {v : Int} {k1 n1 k2 n2 : Int} {pt1 pt2 kd tm co ex ey ez : Int → Int} (h : mRel k1 n1 k2 n2 pt1 pt2 kd tm co ex ey ez) : (if v = 0 ∨ v = 1 then tm v else -1) = (if v = 0 then n1 else if v = 1 then n2 else -1) := by
  by_cases e : v = 0
  · rw [if_pos (Or.inl e), if_pos e, e]
    exact h.1.2.2.1
  · rw [if_neg (c := v = 0) e]
    by_cases e1 : v = 1
    · rw [if_pos (Or.inr e1), if_pos e1, e1]
      exact h.1.2.2.2
    · rw [if_neg (fun q => q.elim e e1), if_neg e1]
theorem ask_m {P sh sc v x y z : Int} {k1 n1 k2 n2 : Int} {pt1 pt2 kd tm co ex ey ez : Int → Int} (h : mRel k1 n1 k2 n2 pt1 pt2 kd tm co ex ey ez) : (if ((v = 0 ∨ v = 1) ∧ (0 ≤ x ∧ x < P) ∧ (0 ≤ y ∧ y < P) ∧ (0 ≤ z ∧ z < P)) then ans P sh sc (kd v) (tm v) (mB co v) (mB ex v) (mB ey v) (mB ez v) x y z else -1) = (if ((v = 0 ∨ v = 1) ∧ (0 ≤ x ∧ x < P) ∧ (0 ≤ y ∧ y < P) ∧ (0 ≤ z ∧ z < P)) then (if v = 0 then ans P sh sc k1 n1 (cC pt1 0) (cC pt1 1) (cC pt1 2) (cC pt1 3) x y z else ans P sh sc k2 n2 (cC pt2 0) (cC pt2 1) (cC pt2 2) (cC pt2 3) x y z) else -1) := by
  by_cases q : ((v = 0 ∨ v = 1) ∧ (0 ≤ x ∧ x < P) ∧ (0 ≤ y ∧ y < P) ∧ (0 ≤ z ∧ z < P))
  · rw [if_pos q, if_pos q]
    rcases q.1 with e | e
    · rw [e, an_0 h, if_pos rfl]
    · rw [e, an_1 h, if_neg (show ¬ (1 : Int) = 0 by decide)]
  · rw [if_neg q, if_neg q]
theorem zeros_m {P sh sc v : Int} {k1 n1 k2 n2 : Int} {pt1 pt2 kd tm co ex ey ez : Int → Int} (h : mRel k1 n1 k2 n2 pt1 pt2 kd tm co ex ey ez) : (if v = 0 ∨ v = 1 then (if P ≤ 23 then z3 P (fun x y z => bI (ans P sh sc (kd v) (tm v) (mB co v) (mB ex v) (mB ey v) (mB ez v) x y z = 0)) else -2) else -1) = (if v = 0 ∨ v = 1 then (if P ≤ 23 then (if v = 0 then z3 P (fun x y z => bI (ans P sh sc k1 n1 (cC pt1 0) (cC pt1 1) (cC pt1 2) (cC pt1 3) x y z = 0)) else z3 P (fun x y z => bI (ans P sh sc k2 n2 (cC pt2 0) (cC pt2 1) (cC pt2 2) (cC pt2 3) x y z = 0))) else -2) else -1) := by
  have f0 : (fun x y z => bI (ans P sh sc (kd 0) (tm 0) (mB co 0) (mB ex 0) (mB ey 0) (mB ez 0) x y z = 0)) = (fun x y z => bI (ans P sh sc k1 n1 (cC pt1 0) (cC pt1 1) (cC pt1 2) (cC pt1 3) x y z = 0)) := by
    funext x y z
    rw [an_0 h]
  have f1 : (fun x y z => bI (ans P sh sc (kd 1) (tm 1) (mB co 1) (mB ex 1) (mB ey 1) (mB ez 1) x y z = 0)) = (fun x y z => bI (ans P sh sc k2 n2 (cC pt2 0) (cC pt2 1) (cC pt2 2) (cC pt2 3) x y z = 0)) := by
    funext x y z
    rw [an_1 h]
  by_cases q : v = 0 ∨ v = 1
  · rw [if_pos q, if_pos q]
    rcases q with e | e
    · subst e
      rw [f0, if_pos (show (0 : Int) = 0 from rfl)]
    · subst e
      rw [f1, if_neg (show ¬ (1 : Int) = 0 by decide)]
  · rw [if_neg q, if_neg q]
theorem meet_m {P sh sc : Int} {k1 n1 k2 n2 : Int} {pt1 pt2 kd tm co ex ey ez : Int → Int} (h : mRel k1 n1 k2 n2 pt1 pt2 kd tm co ex ey ez) : (if P ≤ 23 then z3 P (fun x y z => bI (ans P sh sc (kd 0) (tm 0) (mB co 0) (mB ex 0) (mB ey 0) (mB ez 0) x y z = ans P sh sc (kd 1) (tm 1) (mB co 1) (mB ex 1) (mB ey 1) (mB ez 1) x y z)) else -2) = (if P ≤ 23 then z3 P (fun x y z => bI (ans P sh sc k1 n1 (cC pt1 0) (cC pt1 1) (cC pt1 2) (cC pt1 3) x y z = ans P sh sc k2 n2 (cC pt2 0) (cC pt2 1) (cC pt2 2) (cC pt2 3) x y z)) else -2) := by
  have f0 : (fun x y z => bI (ans P sh sc (kd 0) (tm 0) (mB co 0) (mB ex 0) (mB ey 0) (mB ez 0) x y z = ans P sh sc (kd 1) (tm 1) (mB co 1) (mB ex 1) (mB ey 1) (mB ez 1) x y z)) = (fun x y z => bI (ans P sh sc k1 n1 (cC pt1 0) (cC pt1 1) (cC pt1 2) (cC pt1 3) x y z = ans P sh sc k2 n2 (cC pt2 0) (cC pt2 1) (cC pt2 2) (cC pt2 3) x y z)) := by
    funext x y z
    rw [an_0 h, an_1 h]
  rw [f0]
