/-! lines changed about, lines taken away -/
theorem sw_step {k at_ x5 m c : Int} {l5 l3 : Int → Int} (hk : 0 ≤ k) (hk4 : k < 4) (hat : k ≤ at_ ∧ at_ < 4) (x : 0 ≤ m) (y : m < 4) (z : 0 ≤ c) (u : c < 5) (h5 : ∀ m c : Int, 0 ≤ m → m < 4 → 0 ≤ c → c < 5 → l5 (5 * m + c) = if c < x5 then l3 (5 * sgm k at_ m + c) else l3 (5 * m + c)) (hx : 0 ≤ x5 ∧ x5 < 5) :
    uI (uI l5 (5 * k + x5) (l5 (5 * at_ + x5))) (5 * at_ + x5) (l5 (5 * k + x5)) (5 * m + c) = if c < x5 + 1 then l3 (5 * sgm k at_ m + c) else l3 (5 * m + c) := by
  by_cases e : c = x5
  · rw [if_pos (by omega), e]
    have e1 := h5 k x5 hk hk4 hx.1 hx.2
    have e2 := h5 at_ x5 (by omega) hat.2 hx.1 hx.2
    rw [if_neg (by omega)] at e1 e2
    rw [e1, e2]
    unfold sgm
    by_cases q : m = k
    · rw [if_pos q, q]
      by_cases r : k = at_
      · rw [r, uI_s]
      · rw [uI_n (by omega), uI_s]
    · rw [if_neg q]
      by_cases r : m = at_
      · rw [if_pos r, r, uI_s]
      · rw [if_neg r, uI_n (by omega), uI_n (by omega), h5 m x5 x y hx.1 hx.2, if_neg (by omega)]
  · rw [uI_n (by omega), uI_n (by omega), h5 m c x y z u]
    by_cases q : c < x5
    · rw [if_pos q, if_pos (by omega)]
    · rw [if_neg q, if_neg (by omega)]
theorem el_step {P k i9 m c tm_ xa_ : Int} {l7 l9 la : Int → Int} (hk : 0 ≤ k) (hk4 : k < 4) (hi : 0 ≤ i9) (hi4 : i9 < 4) (hx : xa_ = 5) (hrk : ∀ c : Int, 0 ≤ c → c < 5 → 0 ≤ l7 (5 * k + c) ∧ l7 (5 * k + c) < P) (htm : tm_ = if i9 = k then 0 else l9 (5 * i9 + k)) (x : 0 ≤ m) (y : m < 4) (z : 0 ≤ c) (u : c < 5)
    (h9 : ∀ m c : Int, 0 ≤ m → m < 4 → 0 ≤ c → c < 5 → l9 (5 * m + c) = if m < i9 ∧ m ≠ k then (l7 (5 * m + c) + (P - l7 (5 * m + k)) * l7 (5 * k + c)) % P else l7 (5 * m + c))
    (ha : la (5 * m + c) = if m = i9 ∧ c < xa_ then (l9 (5 * m + c) + (P - tm_) * l9 (5 * k + c)) % P else l9 (5 * m + c)) :
    la (5 * m + c) = if m < i9 + 1 ∧ m ≠ k then (l7 (5 * m + c) + (P - l7 (5 * m + k)) * l7 (5 * k + c)) % P else l7 (5 * m + c) := by
  have ek : l9 (5 * k + c) = l7 (5 * k + c) := by rw [h9 k c hk hk4 z u, if_neg (fun g => g.2 rfl)]
  rw [ha]
  by_cases q : m = i9
  · rw [if_pos ⟨q, by omega⟩, ek]
    have em := h9 m c x y z u
    rw [if_neg (by omega)] at em
    by_cases r : m = k
    · rw [if_neg (fun g => g.2 r), htm, if_pos (by omega), em, r]
      have b := hrk c z u
      rw [show l7 (5 * k + c) + (P - 0) * l7 (5 * k + c) = l7 (5 * k + c) + P * l7 (5 * k + c) by grind, Int.add_mul_emod_self_left, Int.emod_eq_of_lt b.1 b.2]
    · have em2 := h9 i9 k hi hi4 hk (by omega)
      rw [if_neg (by omega)] at em2
      rw [if_pos ⟨by omega, r⟩, htm, if_neg (by omega), em, em2, q]
  · rw [if_neg (fun g => q g.1), h9 m c x y z u]
    by_cases r : m < i9 ∧ m ≠ k
    · rw [if_pos r, if_pos (by omega)]
    · rw [if_neg r, if_neg (by omega)]
