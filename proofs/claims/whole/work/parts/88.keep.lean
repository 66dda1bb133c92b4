/-! what calls keep; the reference's words are the component's -/
theorem st_field {v : Int} {P sh sc k1 n1 k2 n2 cnt : Int} {pt1 pt2 row : Int → Int} (h : stOK P sh sc k1 n1 k2 n2 cnt pt1 pt2 row) : stOK (if okP v then v else P) sh sc k1 (if okP v then 0 else n1) k2 (if okP v then 0 else n2) (if okP v then 0 else cnt) pt1 pt2 row := by
  by_cases q : okP v
  · simp only [if_pos q]
    exact ⟨q, h.2.1, h.2.2.1, h.2.2.2.1, by omega, by omega, fun t a b => by omega, fun t a b => by omega, by omega, fun j a b => by omega⟩
  · simp only [if_neg q]
    exact h
theorem st_set {w v : Int} {P sh sc k1 n1 k2 n2 cnt : Int} {pt1 pt2 row : Int → Int} (h : stOK P sh sc k1 n1 k2 n2 cnt pt1 pt2 row) : stOK P (if w = 0 ∧ 0 ≤ v ∧ v ≤ 996 then v else sh) (if w = 1 ∧ 1 ≤ v ∧ v ≤ 996 then v else sc) (if w = 2 ∧ 0 ≤ v ∧ v ≤ 2 then v else k1) n1 (if w = 3 ∧ 0 ≤ v ∧ v ≤ 2 then v else k2) n2 cnt pt1 pt2 row := by
  obtain ⟨hok, ⟨a1, a2, a3, a4⟩, ⟨b1, b2⟩, ⟨c1, c2⟩, hr⟩ := h
  refine ⟨hok, ⟨?_, ?_, ?_, ?_⟩, ⟨?_, ?_⟩, ⟨?_, ?_⟩, hr⟩ <;> split <;> omega
theorem st_term {v co x y z : Int} {P sh sc k1 n1 k2 n2 cnt : Int} {pt1 pt2 row : Int → Int} (h : stOK P sh sc k1 n1 k2 n2 cnt pt1 pt2 row) : stOK P sh sc k1 (if (((v = 0 ∨ v = 1) ∧ (1 ≤ co ∧ co < P) ∧ (0 ≤ x ∧ x ≤ 4) ∧ (0 ≤ y ∧ y ≤ 4) ∧ (0 ≤ z ∧ z ≤ 4)) ∧ v = 0 ∧ n1 < 4) then n1 + 1 else n1) k2 (if (((v = 0 ∨ v = 1) ∧ (1 ≤ co ∧ co < P) ∧ (0 ≤ x ∧ x ≤ 4) ∧ (0 ≤ y ∧ y ≤ 4) ∧ (0 ≤ z ∧ z ≤ 4)) ∧ v ≠ 0 ∧ n2 < 4) then n2 + 1 else n2) cnt (if (((v = 0 ∨ v = 1) ∧ (1 ≤ co ∧ co < P) ∧ (0 ≤ x ∧ x ≤ 4) ∧ (0 ≤ y ∧ y ≤ 4) ∧ (0 ≤ z ∧ z ≤ 4)) ∧ v = 0 ∧ n1 < 4) then pt4 pt1 n1 co x y z else pt1) (if (((v = 0 ∨ v = 1) ∧ (1 ≤ co ∧ co < P) ∧ (0 ≤ x ∧ x ≤ 4) ∧ (0 ≤ y ∧ y ≤ 4) ∧ (0 ≤ z ∧ z ≤ 4)) ∧ v ≠ 0 ∧ n2 < 4) then pt4 pt2 n2 co x y z else pt2) row := by
  obtain ⟨hok, hs, hk1, hk2, hn1, hn2, hb1, hb2, hr⟩ := h
  by_cases q : (((v = 0 ∨ v = 1) ∧ (1 ≤ co ∧ co < P) ∧ (0 ≤ x ∧ x ≤ 4) ∧ (0 ≤ y ∧ y ≤ 4) ∧ (0 ≤ z ∧ z ≤ 4)) ∧ v = 0 ∧ n1 < 4)
  · have r : ¬ (((v = 0 ∨ v = 1) ∧ (1 ≤ co ∧ co < P) ∧ (0 ≤ x ∧ x ≤ 4) ∧ (0 ≤ y ∧ y ≤ 4) ∧ (0 ≤ z ∧ z ≤ 4)) ∧ v ≠ 0 ∧ n2 < 4) := fun r => r.2.1 q.2.1
    simp only [if_pos q, if_neg r]
    exact ⟨hok, hs, hk1, hk2, by omega, hn2, bxOK_add hb1 ⟨by omega, by omega⟩ q.1.2.2.1 q.1.2.2.2.1 q.1.2.2.2.2, hb2, hr⟩
  · by_cases r : (((v = 0 ∨ v = 1) ∧ (1 ≤ co ∧ co < P) ∧ (0 ≤ x ∧ x ≤ 4) ∧ (0 ≤ y ∧ y ≤ 4) ∧ (0 ≤ z ∧ z ≤ 4)) ∧ v ≠ 0 ∧ n2 < 4)
    · simp only [if_neg q, if_pos r]
      exact ⟨hok, hs, hk1, hk2, hn1, by omega, hb1, bxOK_add hb2 ⟨by omega, by omega⟩ r.1.2.2.1 r.1.2.2.2.1 r.1.2.2.2.2, hr⟩
    · simp only [if_neg q, if_neg r]
      exact ⟨hok, hs, hk1, hk2, hn1, hn2, hb1, hb2, hr⟩
theorem st_empty {v : Int} {P sh sc k1 n1 k2 n2 cnt : Int} {pt1 pt2 row : Int → Int} (h : stOK P sh sc k1 n1 k2 n2 cnt pt1 pt2 row) : stOK P sh sc k1 (if v = 0 then 0 else n1) k2 (if v = 1 then 0 else n2) cnt pt1 pt2 row := by
  obtain ⟨hok, hs, hk1, hk2, hn1, hn2, hb1, hb2, hr⟩ := h
  refine ⟨hok, hs, hk1, hk2, ?_, ?_, ?_, ?_, hr⟩
  · split <;> omega
  · split <;> omega
  · split
    · exact fun t a b => by omega
    · exact hb1
  · split
    · exact fun t a b => by omega
    · exact hb2
theorem st_say {v : Int} {P sh sc k1 n1 k2 n2 cnt : Int} {pt1 pt2 row : Int → Int} (h : stOK P sh sc k1 n1 k2 n2 cnt pt1 pt2 row) : stOK P sh sc k1 n1 k2 n2 (if (0 ≤ v ∧ v < P) ∧ cnt < 16 then cnt + 1 else cnt) pt1 pt2 (if (0 ≤ v ∧ v < P) ∧ cnt < 16 then uI row cnt v else row) := by
  obtain ⟨hok, hs, hk1, hk2, hn1, hn2, hb1, hb2, hc, hr⟩ := h
  refine ⟨hok, hs, hk1, hk2, hn1, hn2, hb1, hb2, ?_, ?_⟩
  · split <;> omega
  · by_cases q : (0 ≤ v ∧ v < P) ∧ cnt < 16
    · simp only [if_pos q]
      intro j a b
      unfold uI
      split
      · exact q.1
      · exact hr j a (by omega)
    · simp only [if_neg q]
      exact hr
theorem st_change {w v : Int} {P sh sc k1 n1 k2 n2 cnt : Int} {pt1 pt2 row : Int → Int} (h : stOK P sh sc k1 n1 k2 n2 cnt pt1 pt2 row) : stOK P sh sc k1 n1 k2 n2 cnt pt1 pt2 (if (0 ≤ w ∧ w < cnt) ∧ (0 ≤ v ∧ v < P) then uI row w v else row) := by
  obtain ⟨hok, hs, hk1, hk2, hn1, hn2, hb1, hb2, hc, hr⟩ := h
  refine ⟨hok, hs, hk1, hk2, hn1, hn2, hb1, hb2, hc, ?_⟩
  split
  · rename_i q
    intro j a b
    unfold uI
    split
    · exact q.2
    · exact hr j a b
  · exact hr
theorem st_clear {P sh sc k1 n1 k2 n2 cnt : Int} {pt1 pt2 row : Int → Int} (h : stOK P sh sc k1 n1 k2 n2 cnt pt1 pt2 row) : stOK P sh sc k1 n1 k2 n2 0 pt1 pt2 row := by
  obtain ⟨hok, hs, hk1, hk2, hn1, hn2, hb1, hb2, hc, hr⟩ := h
  exact ⟨hok, hs, hk1, hk2, hn1, hn2, hb1, hb2, by omega, fun j a b => by omega⟩
theorem mr_field {v : Int} {tm2 : Int → Int} {k1 n1 k2 n2 : Int} {pt1 pt2 kd tm co ex ey ez : Int → Int} (h : mRel k1 n1 k2 n2 pt1 pt2 kd tm co ex ey ez) (h1 : okP v → tm2 = uI (uI tm 0 0) 1 0) (h2 : ¬ okP v → tm2 = tm) : mRel k1 (if okP v then 0 else n1) k2 (if okP v then 0 else n2) pt1 pt2 kd tm2 co ex ey ez := by
  by_cases q : okP v
  · simp only [if_pos q]
    rw [h1 q]
    exact ⟨⟨h.1.1, h.1.2.1, rfl, rfl⟩, fun t a b => by omega, fun t a b => by omega⟩
  · simp only [if_neg q]
    rw [h2 q]
    exact h
theorem mr_set {w v : Int} {kd2 : Int → Int} {k1 n1 k2 n2 : Int} {pt1 pt2 kd tm co ex ey ez : Int → Int} (h : mRel k1 n1 k2 n2 pt1 pt2 kd tm co ex ey ez) (h1 : kd2 = (if (w = 2 ∨ w = 3) ∧ 0 ≤ v ∧ v ≤ 2 then uI kd (w - 2) v else kd)) : mRel (if w = 2 ∧ 0 ≤ v ∧ v ≤ 2 then v else k1) n1 (if w = 3 ∧ 0 ≤ v ∧ v ≤ 2 then v else k2) n2 pt1 pt2 kd2 tm co ex ey ez := by
  obtain ⟨⟨e1, e2, e3, e4⟩, hr⟩ := h
  subst h1
  refine ⟨⟨?_, ?_, e3, e4⟩, hr⟩
  · by_cases q : w = 2 ∧ 0 ≤ v ∧ v ≤ 2
    · rw [if_pos q, if_pos ⟨Or.inl q.1, q.2⟩]
      unfold uI
      rw [if_pos (by omega)]
    · rw [if_neg q]
      split
      · unfold uI
        rw [if_neg (by omega)]
        exact e1
      · exact e1
  · by_cases q : w = 3 ∧ 0 ≤ v ∧ v ≤ 2
    · rw [if_pos q, if_pos ⟨Or.inr q.1, q.2⟩]
      unfold uI
      rw [if_pos (by omega)]
    · rw [if_neg q]
      split
      · unfold uI
        rw [if_neg (by omega)]
        exact e2
      · exact e2
theorem mr_empty {v : Int} {tm2 : Int → Int} {k1 n1 k2 n2 : Int} {pt1 pt2 kd tm co ex ey ez : Int → Int} (h : mRel k1 n1 k2 n2 pt1 pt2 kd tm co ex ey ez) (h1 : tm2 = (if v = 0 ∨ v = 1 then uI tm v 0 else tm)) : mRel k1 (if v = 0 then 0 else n1) k2 (if v = 1 then 0 else n2) pt1 pt2 kd tm2 co ex ey ez := by
  obtain ⟨⟨e1, e2, e3, e4⟩, hr1, hr2⟩ := h
  subst h1
  refine ⟨⟨e1, e2, ?_, ?_⟩, ?_, ?_⟩
  · split
    · unfold uI
      split
      · rw [if_pos (by omega)]
      · rw [if_neg (by omega)]; exact e3
    · rw [if_neg (by omega)]; exact e3
  · split
    · unfold uI
      split
      · rw [if_pos (by omega)]
      · rw [if_neg (by omega)]; exact e4
    · rw [if_neg (by omega)]; exact e4
  · split
    · exact fun t a b => by omega
    · exact hr1
  · split
    · exact fun t a b => by omega
    · exact hr2
theorem pt4_at {pt : Int → Int} {n co x y z : Int} (t : Int) : (t = n → cC (pt4 pt n co x y z) 0 t = co ∧ cC (pt4 pt n co x y z) 1 t = x ∧ cC (pt4 pt n co x y z) 2 t = y ∧ cC (pt4 pt n co x y z) 3 t = z) ∧ (t ≠ n → cC (pt4 pt n co x y z) 0 t = cC pt 0 t ∧ cC (pt4 pt n co x y z) 1 t = cC pt 1 t ∧ cC (pt4 pt n co x y z) 2 t = cC pt 2 t ∧ cC (pt4 pt n co x y z) 3 t = cC pt 3 t) := by
  unfold cC pt4 uI
  constructor
  · intro e
    subst e
    refine ⟨?_, ?_, ?_, ?_⟩
    · rw [if_neg (by omega), if_neg (by omega), if_neg (by omega), if_pos rfl]
    · rw [if_neg (by omega), if_neg (by omega), if_pos rfl]
    · rw [if_neg (by omega), if_pos rfl]
    · rw [if_pos rfl]
  · intro e
    refine ⟨?_, ?_, ?_, ?_⟩ <;> rw [if_neg (by omega), if_neg (by omega), if_neg (by omega), if_neg (by omega)]
theorem mB_uI (f : Int → Int) (b n v b' t : Int) : mB (uI f (4 * b + n) v) b' t = if 4 * b' + t = 4 * b + n then v else mB f b' t := rfl
theorem mr_term {P v cf x y z : Int} {tm2 co2 ex2 ey2 ez2 : Int → Int} {k1 n1 k2 n2 : Int} {pt1 pt2 kd tm co ex ey ez : Int → Int} (hn1 : 0 ≤ n1 ∧ n1 ≤ 4) (hn2 : 0 ≤ n2 ∧ n2 ≤ 4) (h : mRel k1 n1 k2 n2 pt1 pt2 kd tm co ex ey ez) (hw : (((v = 0 ∨ v = 1) ∧ (1 ≤ cf ∧ cf < P) ∧ (0 ≤ x ∧ x ≤ 4) ∧ (0 ≤ y ∧ y ≤ 4) ∧ (0 ≤ z ∧ z ≤ 4)) ∧ tm v < 4 → tm2 = uI tm v (tm v + 1) ∧ co2 = uI co (4 * v + tm v) cf ∧ ex2 = uI ex (4 * v + tm v) x ∧ ey2 = uI ey (4 * v + tm v) y ∧ ez2 = uI ez (4 * v + tm v) z) ∧ (¬ (((v = 0 ∨ v = 1) ∧ (1 ≤ cf ∧ cf < P) ∧ (0 ≤ x ∧ x ≤ 4) ∧ (0 ≤ y ∧ y ≤ 4) ∧ (0 ≤ z ∧ z ≤ 4)) ∧ tm v < 4) → tm2 = tm ∧ co2 = co ∧ ex2 = ex ∧ ey2 = ey ∧ ez2 = ez)) : mRel k1 (if (((v = 0 ∨ v = 1) ∧ (1 ≤ cf ∧ cf < P) ∧ (0 ≤ x ∧ x ≤ 4) ∧ (0 ≤ y ∧ y ≤ 4) ∧ (0 ≤ z ∧ z ≤ 4)) ∧ v = 0 ∧ n1 < 4) then n1 + 1 else n1) k2 (if (((v = 0 ∨ v = 1) ∧ (1 ≤ cf ∧ cf < P) ∧ (0 ≤ x ∧ x ≤ 4) ∧ (0 ≤ y ∧ y ≤ 4) ∧ (0 ≤ z ∧ z ≤ 4)) ∧ v ≠ 0 ∧ n2 < 4) then n2 + 1 else n2) (if (((v = 0 ∨ v = 1) ∧ (1 ≤ cf ∧ cf < P) ∧ (0 ≤ x ∧ x ≤ 4) ∧ (0 ≤ y ∧ y ≤ 4) ∧ (0 ≤ z ∧ z ≤ 4)) ∧ v = 0 ∧ n1 < 4) then pt4 pt1 n1 cf x y z else pt1) (if (((v = 0 ∨ v = 1) ∧ (1 ≤ cf ∧ cf < P) ∧ (0 ≤ x ∧ x ≤ 4) ∧ (0 ≤ y ∧ y ≤ 4) ∧ (0 ≤ z ∧ z ≤ 4)) ∧ v ≠ 0 ∧ n2 < 4) then pt4 pt2 n2 cf x y z else pt2) kd tm2 co2 ex2 ey2 ez2 := by
  by_cases q : ((v = 0 ∨ v = 1) ∧ (1 ≤ cf ∧ cf < P) ∧ (0 ≤ x ∧ x ≤ 4) ∧ (0 ≤ y ∧ y ≤ 4) ∧ (0 ≤ z ∧ z ≤ 4)) ∧ tm v < 4
  · obtain ⟨rfl, rfl, rfl, rfl, rfl⟩ := hw.1 q
    obtain ⟨⟨e1, e2, e3, e4⟩, hr1, hr2⟩ := h
    obtain ⟨qo, qt⟩ := q
    rcases qo.1 with ev | ev
    · have et : tm v = tm 0 := by rw [ev]
      have r1 : (((v = 0 ∨ v = 1) ∧ (1 ≤ cf ∧ cf < P) ∧ (0 ≤ x ∧ x ≤ 4) ∧ (0 ≤ y ∧ y ≤ 4) ∧ (0 ≤ z ∧ z ≤ 4)) ∧ v = 0 ∧ n1 < 4) := ⟨qo, ev, by omega⟩
      have r2 : ¬ (((v = 0 ∨ v = 1) ∧ (1 ≤ cf ∧ cf < P) ∧ (0 ≤ x ∧ x ≤ 4) ∧ (0 ≤ y ∧ y ≤ 4) ∧ (0 ≤ z ∧ z ≤ 4)) ∧ v ≠ 0 ∧ n2 < 4) := fun r => r.2.1 ev
      simp only [if_pos r1, if_neg r2]
      refine ⟨⟨e1, e2, ?_, ?_⟩, ?_, ?_⟩
      · unfold uI; rw [if_pos (by omega)]; omega
      · unfold uI; rw [if_neg (by omega)]; exact e4
      · intro t a b
        rw [mB_uI, mB_uI, mB_uI, mB_uI]
        by_cases d : t = n1
        · obtain ⟨p1, p2, p3, p4⟩ := (pt4_at (pt := pt1) (n := n1) (co := cf) (x := x) (y := y) (z := z) t).1 d
          rw [if_pos (by omega), if_pos (by omega), if_pos (by omega), if_pos (by omega), p1, p2, p3, p4]
          exact ⟨rfl, rfl, rfl, rfl⟩
        · obtain ⟨p1, p2, p3, p4⟩ := (pt4_at (pt := pt1) (n := n1) (co := cf) (x := x) (y := y) (z := z) t).2 d
          rw [if_neg (by omega), if_neg (by omega), if_neg (by omega), if_neg (by omega), p1, p2, p3, p4]
          exact hr1 t a (by omega)
      · intro t a b
        rw [mB_uI, mB_uI, mB_uI, mB_uI, if_neg (by omega), if_neg (by omega), if_neg (by omega), if_neg (by omega)]
        exact hr2 t a b
    · have et : tm v = tm 1 := by rw [ev]
      have r1 : ¬ (((v = 0 ∨ v = 1) ∧ (1 ≤ cf ∧ cf < P) ∧ (0 ≤ x ∧ x ≤ 4) ∧ (0 ≤ y ∧ y ≤ 4) ∧ (0 ≤ z ∧ z ≤ 4)) ∧ v = 0 ∧ n1 < 4) := fun r => by omega
      have r2 : (((v = 0 ∨ v = 1) ∧ (1 ≤ cf ∧ cf < P) ∧ (0 ≤ x ∧ x ≤ 4) ∧ (0 ≤ y ∧ y ≤ 4) ∧ (0 ≤ z ∧ z ≤ 4)) ∧ v ≠ 0 ∧ n2 < 4) := ⟨qo, by omega, by omega⟩
      simp only [if_neg r1, if_pos r2]
      refine ⟨⟨e1, e2, ?_, ?_⟩, ?_, ?_⟩
      · unfold uI; rw [if_neg (by omega)]; exact e3
      · unfold uI; rw [if_pos (by omega)]; omega
      · intro t a b
        rw [mB_uI, mB_uI, mB_uI, mB_uI, if_neg (by omega), if_neg (by omega), if_neg (by omega), if_neg (by omega)]
        exact hr1 t a b
      · intro t a b
        rw [mB_uI, mB_uI, mB_uI, mB_uI]
        by_cases d : t = n2
        · obtain ⟨p1, p2, p3, p4⟩ := (pt4_at (pt := pt2) (n := n2) (co := cf) (x := x) (y := y) (z := z) t).1 d
          rw [if_pos (by omega), if_pos (by omega), if_pos (by omega), if_pos (by omega), p1, p2, p3, p4]
          exact ⟨rfl, rfl, rfl, rfl⟩
        · obtain ⟨p1, p2, p3, p4⟩ := (pt4_at (pt := pt2) (n := n2) (co := cf) (x := x) (y := y) (z := z) t).2 d
          rw [if_neg (by omega), if_neg (by omega), if_neg (by omega), if_neg (by omega), p1, p2, p3, p4]
          exact hr2 t a (by omega)
  · obtain ⟨rfl, rfl, rfl, rfl, rfl⟩ := hw.2 q
    obtain ⟨⟨e1, e2, e3, e4⟩, hr⟩ := h
    have r1 : ¬ ((((v = 0 ∨ v = 1) ∧ (1 ≤ cf ∧ cf < P) ∧ (0 ≤ x ∧ x ≤ 4) ∧ (0 ≤ y ∧ y ≤ 4) ∧ (0 ≤ z ∧ z ≤ 4)) ∧ v = 0 ∧ n1 < 4)) := fun r => q ⟨r.1, by rw [r.2.1]; omega⟩
    have r2 : ¬ ((((v = 0 ∨ v = 1) ∧ (1 ≤ cf ∧ cf < P) ∧ (0 ≤ x ∧ x ≤ 4) ∧ (0 ≤ y ∧ y ≤ 4) ∧ (0 ≤ z ∧ z ≤ 4)) ∧ v ≠ 0 ∧ n2 < 4)) := fun r => q ⟨r.1, by rw [show v = 1 by omega]; omega⟩
    simp only [if_neg r1, if_neg r2]
    exact ⟨⟨e1, e2, e3, e4⟩, hr⟩
theorem an_0 {P sh sc : Int} {k1 n1 k2 n2 : Int} {pt1 pt2 kd tm co ex ey ez : Int → Int} (h : mRel k1 n1 k2 n2 pt1 pt2 kd tm co ex ey ez) (x y z : Int) : ans P sh sc (kd 0) (tm 0) (mB co 0) (mB ex 0) (mB ey 0) (mB ez 0) x y z = ans P sh sc k1 n1 (cC pt1 0) (cC pt1 1) (cC pt1 2) (cC pt1 3) x y z := by
  obtain ⟨⟨e1, e2, e3, e4⟩, hr1, hr2⟩ := h
  rw [e1, e3]
  exact ans_congr hr1 x y z
theorem an_1 {P sh sc : Int} {k1 n1 k2 n2 : Int} {pt1 pt2 kd tm co ex ey ez : Int → Int} (h : mRel k1 n1 k2 n2 pt1 pt2 kd tm co ex ey ez) (x y z : Int) : ans P sh sc (kd 1) (tm 1) (mB co 1) (mB ex 1) (mB ey 1) (mB ez 1) x y z = ans P sh sc k2 n2 (cC pt2 0) (cC pt2 1) (cC pt2 2) (cC pt2 3) x y z := by
  obtain ⟨⟨e1, e2, e3, e4⟩, hr1, hr2⟩ := h
  rw [e2, e4]
  exact ans_congr hr2 x y z
theorem gn_0 {P sh sc : Int} {k1 n1 k2 n2 : Int} {pt1 pt2 kd tm co ex ey ez : Int → Int} (h : mRel k1 n1 k2 n2 pt1 pt2 kd tm co ex ey ez) : (gAN P sh sc (kd 0) (tm 0) (mB co 0) (mB ex 0) (mB ey 0) (mB ez 0)) = (gAN P sh sc k1 n1 (cC pt1 0) (cC pt1 1) (cC pt1 2) (cC pt1 3)) := funext (fun _ => an_0 h _ _ _)
theorem gn_1 {P sh sc : Int} {k1 n1 k2 n2 : Int} {pt1 pt2 kd tm co ex ey ez : Int → Int} (h : mRel k1 n1 k2 n2 pt1 pt2 kd tm co ex ey ez) : (gAN P sh sc (kd 1) (tm 1) (mB co 1) (mB ex 1) (mB ey 1) (mB ez 1)) = (gAN P sh sc k2 n2 (cC pt2 0) (cC pt2 1) (cC pt2 2) (cC pt2 3)) := funext (fun _ => an_1 h _ _ _)
theorem mb_0 {P : Int} {k1 n1 k2 n2 : Int} {pt1 pt2 kd tm co ex ey ez : Int → Int} (h : mRel k1 n1 k2 n2 pt1 pt2 kd tm co ex ey ez) (hb : bxOK P n1 pt1) : mbOK P (tm 0) (mB co 0) (mB ex 0) (mB ey 0) (mB ez 0) := by
  obtain ⟨⟨e1, e2, e3, e4⟩, hr1, hr2⟩ := h
  rw [e3]
  intro t a b
  obtain ⟨p1, p2, p3, p4⟩ := hr1 t a b
  rw [p1, p2, p3, p4]
  exact hb t a b
theorem mb_1 {P : Int} {k1 n1 k2 n2 : Int} {pt1 pt2 kd tm co ex ey ez : Int → Int} (h : mRel k1 n1 k2 n2 pt1 pt2 kd tm co ex ey ez) (hb : bxOK P n2 pt2) : mbOK P (tm 1) (mB co 1) (mB ex 1) (mB ey 1) (mB ez 1) := by
  obtain ⟨⟨e1, e2, e3, e4⟩, hr1, hr2⟩ := h
  rw [e4]
  intro t a b
  obtain ⟨p1, p2, p3, p4⟩ := hr2 t a b
  rw [p1, p2, p3, p4]
  exact hb t a b
theorem mb_v {P v : Int} {k1 n1 k2 n2 : Int} {pt1 pt2 kd tm co ex ey ez : Int → Int} (h : mRel k1 n1 k2 n2 pt1 pt2 kd tm co ex ey ez) (hk1 : 0 ≤ k1 ∧ k1 ≤ 2) (hk2 : 0 ≤ k2 ∧ k2 ≤ 2) (hn1 : 0 ≤ n1 ∧ n1 ≤ 4) (hn2 : 0 ≤ n2 ∧ n2 ≤ 4) (hb1 : bxOK P n1 pt1) (hb2 : bxOK P n2 pt2) (hv : v = 0 ∨ v = 1) : (0 ≤ kd v ∧ kd v ≤ 2) ∧ (0 ≤ tm v ∧ tm v ≤ 4) ∧ mbOK P (tm v) (mB co v) (mB ex v) (mB ey v) (mB ez v) := by
  have e := h.1
  rcases hv with rfl | rfl
  · exact ⟨by omega, by omega, mb_0 h hb1⟩
  · exact ⟨by omega, by omega, mb_1 h hb2⟩
/-- what got and right answer -/
noncomputable def gotW (P sh sc k1 n1 k2 n2 : Int) (pt1 pt2 : Int → Int) (v w i : Int) : Int := if v = 0 ∧ (0 ≤ w ∧ w ≤ 4) then gotV P (gAN P sh sc k1 n1 (cC pt1 0) (cC pt1 1) (cC pt1 2) (cC pt1 3)) (kcF P (gAN P sh sc k1 n1 (cC pt1 0) (cC pt1 1) (cC pt1 2) (cC pt1 3))) (xsF P (gAN P sh sc k1 n1 (cC pt1 0) (cC pt1 1) (cC pt1 2) (cC pt1 3))) w i else if v = 1 ∧ (0 ≤ w ∧ w ≤ 4) then gotV P (gAN P sh sc k2 n2 (cC pt2 0) (cC pt2 1) (cC pt2 2) (cC pt2 3)) (kcF P (gAN P sh sc k2 n2 (cC pt2 0) (cC pt2 1) (cC pt2 2) (cC pt2 3))) (xsF P (gAN P sh sc k2 n2 (cC pt2 0) (cC pt2 1) (cC pt2 2) (cC pt2 3))) w i else -1
noncomputable def rightW (P sh sc k1 n1 k2 n2 : Int) (pt1 pt2 : Int → Int) (v x y z : Int) : Int := if v = 0 ∧ ((0 ≤ x ∧ x < P) ∧ (0 ≤ y ∧ y < P) ∧ (0 ≤ z ∧ z < P)) then rightV P sh sc (gAN P sh sc k1 n1 (cC pt1 0) (cC pt1 1) (cC pt1 2) (cC pt1 3)) (kcF P (gAN P sh sc k1 n1 (cC pt1 0) (cC pt1 1) (cC pt1 2) (cC pt1 3))) (xsF P (gAN P sh sc k1 n1 (cC pt1 0) (cC pt1 1) (cC pt1 2) (cC pt1 3))) x y z (ans P sh sc k1 n1 (cC pt1 0) (cC pt1 1) (cC pt1 2) (cC pt1 3) x y z) else if v = 1 ∧ ((0 ≤ x ∧ x < P) ∧ (0 ≤ y ∧ y < P) ∧ (0 ≤ z ∧ z < P)) then rightV P sh sc (gAN P sh sc k2 n2 (cC pt2 0) (cC pt2 1) (cC pt2 2) (cC pt2 3)) (kcF P (gAN P sh sc k2 n2 (cC pt2 0) (cC pt2 1) (cC pt2 2) (cC pt2 3))) (xsF P (gAN P sh sc k2 n2 (cC pt2 0) (cC pt2 1) (cC pt2 2) (cC pt2 3))) x y z (ans P sh sc k2 n2 (cC pt2 0) (cC pt2 1) (cC pt2 2) (cC pt2 3) x y z) else -1
theorem got_m {P sh sc v w i : Int} {k1 n1 k2 n2 : Int} {pt1 pt2 kd tm co ex ey ez : Int → Int} (h : mRel k1 n1 k2 n2 pt1 pt2 kd tm co ex ey ez) : (if ((v = 0 ∨ v = 1) ∧ 0 ≤ w ∧ w ≤ 4) then gotV P (gAN P sh sc (kd v) (tm v) (mB co v) (mB ex v) (mB ey v) (mB ez v)) (kcF P (gAN P sh sc (kd v) (tm v) (mB co v) (mB ex v) (mB ey v) (mB ez v))) (xsF P (gAN P sh sc (kd v) (tm v) (mB co v) (mB ex v) (mB ey v) (mB ez v))) w i else -1) = gotW P sh sc k1 n1 k2 n2 pt1 pt2 v w i := by
  unfold gotW
  by_cases r : 0 ≤ w ∧ w ≤ 4
  · by_cases h0 : v = 0
    · subst h0
      rw [gn_0 h, if_pos ⟨Or.inl rfl, r⟩, if_pos ⟨rfl, r⟩]
    · rw [if_neg (c := v = 0 ∧ _) (fun q => h0 q.1)]
      by_cases h1 : v = 1
      · subst h1
        rw [gn_1 h, if_pos ⟨Or.inr rfl, r⟩, if_pos ⟨rfl, r⟩]
      · rw [if_neg (fun q => q.1.elim h0 h1), if_neg (fun q => h1 q.1)]
  · rw [if_neg (fun q => r q.2), if_neg (fun q => r q.2), if_neg (fun q => r q.2)]
theorem right_m {P sh sc v x y z : Int} {k1 n1 k2 n2 : Int} {pt1 pt2 kd tm co ex ey ez : Int → Int} (h : mRel k1 n1 k2 n2 pt1 pt2 kd tm co ex ey ez) : (if ((v = 0 ∨ v = 1) ∧ (0 ≤ x ∧ x < P) ∧ (0 ≤ y ∧ y < P) ∧ (0 ≤ z ∧ z < P)) then rightV P sh sc (gAN P sh sc (kd v) (tm v) (mB co v) (mB ex v) (mB ey v) (mB ez v)) (kcF P (gAN P sh sc (kd v) (tm v) (mB co v) (mB ex v) (mB ey v) (mB ez v))) (xsF P (gAN P sh sc (kd v) (tm v) (mB co v) (mB ex v) (mB ey v) (mB ez v))) x y z (ans P sh sc (kd v) (tm v) (mB co v) (mB ex v) (mB ey v) (mB ez v) x y z) else -1) = rightW P sh sc k1 n1 k2 n2 pt1 pt2 v x y z := by
  unfold rightW
  by_cases r : (0 ≤ x ∧ x < P) ∧ (0 ≤ y ∧ y < P) ∧ (0 ≤ z ∧ z < P)
  · by_cases h0 : v = 0
    · subst h0
      rw [gn_0 h, an_0 h, if_pos ⟨Or.inl rfl, r⟩, if_pos ⟨rfl, r⟩]
    · rw [if_neg (c := v = 0 ∧ _) (fun q => h0 q.1)]
      by_cases h1 : v = 1
      · subst h1
        rw [gn_1 h, an_1 h, if_pos ⟨Or.inr rfl, r⟩, if_pos ⟨rfl, r⟩]
      · rw [if_neg (fun q => q.1.elim h0 h1), if_neg (fun q => h1 q.1)]
  · rw [if_neg (fun q => r q.2), if_neg (fun q => r q.2), if_neg (fun q => r q.2)]
