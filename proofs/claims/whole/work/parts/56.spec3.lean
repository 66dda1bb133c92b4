/-! what the later calls answer -/
def gotV (P : Int) (AN kc xs : Int → Int) (w i : Int) : Int := if gOK P AN kc xs then (if w = 0 then gL P AN else if 0 ≤ i ∧ i < gL P AN then (if w = 1 then xs i else if w = 2 then kc i / 25 else if w = 3 then kc i / 5 % 5 else kc i % 5) else -1) else -2
def fans (P sh sc : Int) (AN kc xs : Int → Int) (x y z : Int) : Int := ans P sh sc 0 (gL P AN) xs (fun j => kc j / 25) (fun j => kc j / 5 % 5) (fun j => kc j % 5) x y z
def rightV (P sh sc : Int) (AN kc xs : Int → Int) (x y z a : Int) : Int := if gOK P AN kc xs then bI (fans P sh sc AN kc xs x y z = a) else -2
theorem ans_congr {P sh sc k n : Int} {co ex ey ez co2 ex2 ey2 ez2 : Int → Int} (h : ∀ t : Int, 0 ≤ t → t < n → co t = co2 t ∧ ex t = ex2 t ∧ ey t = ey2 t ∧ ez t = ez2 t) (x y z : Int) : ans P sh sc k n co ex ey ez x y z = ans P sh sc k n co2 ex2 ey2 ez2 x y z := by
  unfold ans
  congr 1
  refine sm_congr (fun t a b => ?_)
  obtain ⟨e1, e2, e3, e4⟩ := h t a b
  unfold tmg of2
  rw [e1, e2, e3, e4]
theorem gAN_congr {P sh sc k n : Int} {co ex ey ez co2 ex2 ey2 ez2 : Int → Int} (h : ∀ t : Int, 0 ≤ t → t < n → co t = co2 t ∧ ex t = ex2 t ∧ ey t = ey2 t ∧ ez t = ez2 t) : gAN P sh sc k n co ex ey ez = gAN P sh sc k n co2 ex2 ey2 ez2 := by
  funext i
  exact ans_congr h _ _ _
theorem gPT_box {P : Int} {AN kc xs pt : Int → Int} (hL0 : 0 ≤ gL P AN) (g : gOK P AN kc xs) (hkc : gKC P AN kc) (hxs : gXS P AN kc xs) (h : gPT (gL P AN) kc xs pt) : bxOK P (gL P AN) pt := by
  intro t h0 h1
  have q := h t h0 h1
  have hk := (hkc g.1 g.2.1 t h0 h1).1
  have hx := (hxs g.1 g.2.1 g.2.2.1).1 t h0 h1
  rw [q.1, q.2.1, q.2.2.1, q.2.2.2]
  omega
theorem fans_eq {P sh sc k : Int} {AN kc xs pt : Int → Int} (hk : k = 0) (h : gPT (gL P AN) kc xs pt) (x y z : Int) : ans P sh sc k (gL P AN) (cC pt 0) (cC pt 1) (cC pt 2) (cC pt 3) x y z = fans P sh sc AN kc xs x y z := by
  subst hk
  exact ans_congr (fun t a b => h t a b) x y z
theorem gL_in {P : Int} (hP : 2 ≤ P) (AN : Int → Int) : 0 ≤ gL P AN ∧ gL P AN ≤ 8 := by
  have := (bmI_n hP AN 8).1
  exact ⟨this.1, this.2.1⟩
theorem smN_bi (f : Int → Int) (h : ∀ i : Int, 0 ≤ f i ∧ f i ≤ 1) : ∀ n : Nat, 0 ≤ smN f n ∧ smN f n ≤ n
  | 0 => by show (0 : Int) ≤ 0 ∧ (0 : Int) ≤ ((0 : Nat) : Int); omega
  | n + 1 => by
    have a := smN_bi f h n
    have b := h n
    show 0 ≤ smN f n + f n ∧ smN f n + f n ≤ ((n + 1 : Nat) : Int)
    omega
def z3 (P : Int) (f : Int → Int → Int → Int) : Int := sm (fun x => sm (fun y => sm (fun z => f x y z) P) P) P
theorem gone_congr {P L : Int} {w w2 S : Int → Int} (h : ∀ j : Int, 1 ≤ j → j ≤ L → w j = w2 j) (hg : goesOn P L w S) : goesOn P L w2 S := by
  intro i hi
  rw [hg i hi]
  congr 1
  exact sm_congr (fun k a b => by rw [h (k + 1) (by omega) (by omega)])
