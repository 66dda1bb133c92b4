/-! the law's words: what holds at its loop's head, a number of the script -/
def lwR (D : va_G) (cI : ClassId) (A : Nat → Prop) (H0 : Heap) (sb mo : Nat) (H : Heap) (locs : List Loc) : Prop := ∃ (P sh sc k1 n1 k2 n2 cnt ak : Int) (tr : Int64) (pt1 pt2 row : Int → Int) (wc wm : va_W), stOK P sh sc k1 n1 k2 n2 cnt pt1 pt2 row ∧ isC cI sb P sh sc k1 n1 k2 n2 cnt ak tr pt1 pt2 row wc ∧ isM cI mo P sh sc k1 n1 k2 n2 cnt ak tr pt1 pt2 row wm ∧ va_P D vwCl (wc ++ wm) H ∧ va_D A (wc ++ wm) ∧ va_S A H0 H locs
def ysF (xs : Nat → Int32) (z : Int) : Int := (xs z.toNat).toInt
theorem ysF_in (xs : Nat → Int32) (z : Int) : -2147483648 ≤ ysF xs z ∧ ysF xs z < 2147483648 := ⟨by have := (xs z.toNat).le_toInt; unfold ysF; omega, by have := (xs z.toNat).toInt_lt; unfold ysF; omega⟩
theorem ysF_at (xs : Nat → Int32) {z : Int} (h : 0 ≤ z ∧ z < 2147483648) : xs (iI z).toNatClampNeg = iI (ysF xs z) := by
  rw [iI_clamp h]
  exact (Int32.ofInt_toInt _).symm
theorem lg_self (x : Int64) : lg_cmp x x = 0 := by
  unfold lg_cmp
  rw [if_neg (by rw [gt_iff_lt, Int64.lt_iff_toInt_lt]; omega), if_pos rfl]
section XZ
variable {p : Program} {l : Launch} {e : Env} {s : State} {m : MethodId} {args : Array Value} {below : List Frame} {meth : Method} {c : Code} {H : Heap} {locs : List Loc} {Q : State → Prop}
variable {ls : Array Slot} {D : va_G} {cI : ClassId} {sb mo : Nat} {A : Nat → Prop} {H0 : Heap} {b L : Nat} {xs : Nat → Int32} {i : Int}
theorem x_arg {cells slots pc : Nat} {R : Room} {rest : List Value} {k : Int} (S : CallFix p m c cL_law 4 s args wsL_law RL) (hX : va_X b L xs s H0) (hbl : b < H0.size) (hbA : ¬ A b) (hS : va_S A H0 H locs) (hl : lv_has ls 4 [(3, .int (iI i)), (2, .ref mo), (1, .ref sb), (0, .ref b)]) (hL : L ≤ 3072) (d0 : decode cL_law pc = .ok (.aload_n 0, 1)) (d1 : decode cL_law (pc + 1) = .ok (.iload_n 3, 1)) (d2 : decode cL_law (pc + 2) = .ok (.iconst k, 1)) (d3 : decode cL_law (pc + 3) = .ok (.iadd, 1)) (d4 : decode cL_law (pc + 4) = .ok (.iaload, 1)) (hi : 0 ≤ i + k ∧ i + k < L) (kk : W p l e R s m args below meth c H locs cells slots Q (F0 m (pc + 5) ls (.int (iI (ysF xs (i + k))) :: rest))) : W p l e R s m args below meth c H locs cells slots Q (F0 m pc ls rest) := by
  refine x_aln S d0 rfl hl 3 rfl ?_
  refine x_iln S d1 rfl hl 0 rfl ?_
  refine x_ic S d2 ?_
  refine x_iadd S d3 ?_
  refine va_sld S.1 S.2.1 hX hbl hbA hS (iI_in (by omega)) d4 ?_
  rw [ysF_at xs (by omega)]
  exact kk
end XZ
