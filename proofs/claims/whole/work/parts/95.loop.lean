/-! the law's loop -/
theorem law_loop {p : Program} {l : Launch} {e : Env} {s : State} {m : MethodId} {below : List Frame} {meth : Method} {c : Code} {D : va_G} {cI : ClassId} {sb mo b L : Nat} {xs : Nat → Int32} (jS : CallFix p m c cL_law 4 s #[Value.ref b] wsL_law RL) (hr : meth.sig.returnType = ret) (hlocks : meth.locks = false) (hK : xK D cI s) (hX : va_X b L xs s s.heap) (hbl : b < s.heap.size) (hL : L ≤ 3072) : ∀ (n : Nat) (i : Int) (H : Heap) (locs : List Loc) (ls : Array Slot), ((L : Int) - i).toNat = n → (0 ≤ i ∧ i ≤ L) → lwR D cI (fun q => s.heap.size ≤ q) s.heap sb mo H locs → lv_has ls 4 [(3, .int (iI i)), (2, .ref mo), (1, .ref sb), (0, .ref b)] → W p l e room_1 s m #[Value.ref b] below meth c H locs 66 2220 (lw_Z below #[Value.ref b] s) (F0 m 18 ls []) := by
  have hA : ∀ q : Nat, s.heap.size ≤ q → (fun q : Nat => s.heap.size ≤ q) q := fun _ h => h
  have hbA : ¬ (fun q : Nat => s.heap.size ≤ q) b := Nat.not_le.mpr hbl
  intro n
  induction n using Nat.strongRecOn with
  | ind n ih =>
    intro i H locs ls hn hi hR hl
    have hS : va_S (fun q : Nat => s.heap.size ≤ q) s.heap H locs := by
      obtain ⟨P, sh, sc, k1, n1, k2, n2, cnt, ak, tr, pt1, pt2, row, wc, wm, hst, hC, hM, hP, hD, hS⟩ := hR
      exact hS
    refine x_iln jS dL_law_18 rfl hl 0 rfl ?_
    refine x_aln jS dL_law_19 rfl hl 3 rfl ?_
    refine va_slen jS.1 jS.2.1 hX hbl hbA hS dL_law_20 ?_
    rw [iI_nat L]
    refine x_bi jS dL_law_21 rfl ?_
    refine x_isub jS dL_law_23 ?_
    refine x_cmpgt jS 671 dL_law_24 (by decide) (by omega) (fun hx => ?_) (fun hx => ?_)
    · refine va_forget hS.2.2 ?_
      refine lv_iconst (v := 1) jS.1 jS.2.1 dL_law_671 (by decide) ?_
      exact lw_ret jS.1 jS.2.1 hr hlocks dL_law_672
    · have kk : ∀ (H1 : Heap) (L1 : List Loc), lwR D cI (fun q => s.heap.size ≤ q) s.heap sb mo H1 L1 → W p l e room_1 s m #[Value.ref b] below meth c H1 L1 66 2220 (lw_Z below #[Value.ref b] s) (F0 m 665 ls []) := by
        intro H1 L1 hR1
        refine x_iinc (lv' := [(3, .int (iI (i + 6))), (2, .ref mo), (1, .ref sb), (0, .ref b)]) jS dL_law_665 hl 0 rfl rfl rfl (fun ls hl => ?_)
        refine x_goto jS 18 dL_law_668 (by decide) ?_
        exact ih _ (by omega) (i + 6) H1 L1 ls rfl (by omega) hR1 hl
      have hi6 : 0 ≤ i ∧ i + 6 ≤ L := by omega
      refine x_aln jS dL_law_27 rfl hl 3 rfl ?_
      refine x_iln jS dL_law_28 rfl hl 0 rfl ?_
      refine va_sld jS.1 jS.2.1 hX hbl hbA hS (iI_in (by omega)) dL_law_29 ?_
      refine x_bi jS dL_law_30 rfl ?_
      refine lv_iand jS.1 jS.2.1 dL_law_32 ?_
      obtain ⟨z, hz, hz1, hz2⟩ := iI_ex (xs (iI i).toNatClampNeg &&& iI 31)
      rw [hz]
      by_cases h0 : z < 0 ∨ 17 < z
      · exact x_swO jS 665 dL_law_33 ⟨hz1, hz2⟩ h0 (by decide) (kk H locs hR)
      by_cases c0 : z = 0
      · exact x_swI (k := 0) jS 120 dL_law_33 c0 (by decide) (by decide) rfl (by decide) (lc_field jS hl hK hX hbl hbA hA hL hi6 hR kk)
      by_cases c1 : z = 1
      · exact x_swI (k := 1) jS 143 dL_law_33 c1 (by decide) (by decide) rfl (by decide) (lc_set jS hl hK hX hbl hbA hA hL hi6 hR kk)
      by_cases c2 : z = 2
      · exact x_swI (k := 2) jS 176 dL_law_33 c2 (by decide) (by decide) rfl (by decide) (lc_form jS hl hK hX hbl hbA hA hL hi6 hR kk)
      by_cases c3 : z = 3
      · exact x_swI (k := 3) jS 219 dL_law_33 c3 (by decide) (by decide) rfl (by decide) (lc_term jS hl hK hX hbl hbA hA hL hi6 hR kk)
      by_cases c4 : z = 4
      · exact x_swI (k := 4) jS 282 dL_law_33 c4 (by decide) (by decide) rfl (by decide) (lc_empty jS hl hK hX hbl hbA hA hL hi6 hR kk)
      by_cases c5 : z = 5
      · exact x_swI (k := 5) jS 305 dL_law_33 c5 (by decide) (by decide) rfl (by decide) (lc_ask jS hl hK hX hbl hbA hA hL hi6 hR kk)
      by_cases c6 : z = 6
      · exact x_swI (k := 6) jS 358 dL_law_33 c6 (by decide) (by decide) rfl (by decide) (lc_say jS hl hK hX hbl hbA hA hL hi6 hR kk)
      by_cases c7 : z = 7
      · exact x_swI (k := 7) jS 381 dL_law_33 c7 (by decide) (by decide) rfl (by decide) (lc_change jS hl hK hX hbl hbA hA hL hi6 hR kk)
      by_cases c8 : z = 8
      · exact x_swI (k := 8) jS 414 dL_law_33 c8 (by decide) (by decide) rfl (by decide) (lc_clear jS hl hK hX hbl hbA hA hL hi6 hR kk)
      by_cases c9 : z = 9
      · exact x_swI (k := 9) jS 427 dL_law_33 c9 (by decide) (by decide) rfl (by decide) (lc_register jS hl hK hX hbl hbA hA hL hi6 hR kk)
      by_cases c10 : z = 10
      · exact x_swI (k := 10) jS 450 dL_law_33 c10 (by decide) (by decide) rfl (by decide) (lc_far jS hl hK hX hbl hbA hA hL hi6 hR kk)
      by_cases c11 : z = 11
      · exact x_swI (k := 11) jS 473 dL_law_33 c11 (by decide) (by decide) rfl (by decide) (lc_lie jS hl hK hX hbl hbA hA hL hi6 hR kk)
      by_cases c12 : z = 12
      · exact x_swI (k := 12) jS 496 dL_law_33 c12 (by decide) (by decide) rfl (by decide) (lc_got jS hl hK hX hbl hbA hA hL hi6 hR kk)
      by_cases c13 : z = 13
      · exact x_swI (k := 13) jS 539 dL_law_33 c13 (by decide) (by decide) rfl (by decide) (lc_right jS hl hK hX hbl hbA hA hL hi6 hR kk)
      by_cases c14 : z = 14
      · exact x_swI (k := 14) jS 592 dL_law_33 c14 (by decide) (by decide) rfl (by decide) (lc_zeros jS hl hK hX hbl hbA hA hL hi6 hR kk)
      by_cases c15 : z = 15
      · exact x_swI (k := 15) jS 615 dL_law_33 c15 (by decide) (by decide) rfl (by decide) (lc_meet jS hl hK hX hbl hbA hA hL hi6 hR kk)
      by_cases c16 : z = 16
      · exact x_swI (k := 16) jS 628 dL_law_33 c16 (by decide) (by decide) rfl (by decide) (lc_count jS hl hK hX hbl hbA hA hL hi6 hR kk)
      have c17 : z = 17 := by omega
      exact x_swI (k := 17) jS 651 dL_law_33 c17 (by decide) (by decide) rfl (by decide) (lc_trace jS hl hK hX hbl hbA hA hL hi6 hR kk)
