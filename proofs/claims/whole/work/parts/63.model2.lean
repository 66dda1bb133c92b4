/-! the reference: rows -/
theorem h_X8_grow_X8 : ∀ w ∈ u_ws RX8 TX8 29, w ∈ wsX8_grow := fun w h => List.mem_cons_of_mem _ (List.mem_append_right _ h)
theorem m_X8_grow_3 : Cond.fieldLink RX8 120 "SealedBoxModel" "length" "I" ∈ wsX8_grow := List.mem_of_getElem? (i := 3) rfl
theorem kf_X8_over : kfV yX8_over RX8 1 := by decide +kernel
theorem m_X8_grow_5 : Cond.fieldLink RX8 7 "SealedBoxModel" "p" "I" ∈ wsX8_grow := List.mem_of_getElem? (i := 5) rfl
theorem m_X8_grow_2 : Cond.fieldLink RX8 47 "SealedBoxModel" "former" "[I" ∈ wsX8_grow := List.mem_of_getElem? (i := 2) rfl
theorem m_X8_grow_6 : Cond.fieldLink RX8 50 "SealedBoxModel" "kept" "[I" ∈ wsX8_grow := List.mem_of_getElem? (i := 6) rfl
theorem m_X8_grow_1 : Cond.fieldLink RX8 44 "SealedBoxModel" "c" "[I" ∈ wsX8_grow := List.mem_of_getElem? (i := 1) rfl
theorem m_X8_grow_4 : Cond.fieldLink RX8 41 "SealedBoxModel" "look" "[I" ∈ wsX8_grow := List.mem_of_getElem? (i := 4) rfl
abbrev rm_X8_grow : Room := { frames := 1, cells := 0, slots := 0, locals := 24 }
set_option maxHeartbeats 4000000 in
set_option maxRecDepth 100000 in
theorem c_X8_grow (jl : Launch) (D : va_G) (cI : ClassId) (mo xk xt xc xx xy xz xr xl xC xF xK xn xb xw xa yx yy yz yn yc yl : Nat) (P sh sc cnt ak L K : Int) (tr : Int64) (cr fr kp lk : Int → Int) (mn mt : Int) (sz : Nat) (hok : okP P) (hmn : 0 ≤ mn ∧ mn ≤ 16) (hmt : 0 ≤ mt ∧ mt ≤ 1000) (hlk : ∀ j : Int, 0 ≤ j → j < mn → 0 ≤ lk j ∧ lk j < P) : Met jl yX8_grow wsX8_grow rm_X8_grow (xPw [.ref mo, .int (iI mn), .int (iI mt)] D cI [(mo, .inr (8, [.int (iI P), .int (iI sh), .int (iI sc), .ref xk, .ref xt, .ref xc, .ref xx, .ref xy, .ref xz, .int (iI cnt), .ref xr, .int (iI ak), .long tr, .ref xl, .int (iI L), .ref xC, .ref xF, .ref xK, .ref xn, .ref xb, .ref xw, .ref xa, .int (iI K), .ref yx, .ref yy, .ref yz, .ref yn, .ref yc, .ref yl])), (xC, .inl (cI, 40, .inl (aI cr))), (xF, .inl (cI, 40, .inl (aI fr))), (xK, .inl (cI, 40, .inl (aI kp))), (xl, .inl (cI, 16, .inl (aI lk)))] sz) (va_Qv (fun (u : Int × Int × (Int → Int) × (Int → Int) × (Int → Int)) => (0 ≤ u.1 ∧ u.1 ≤ mn) ∧ u.2.1 = bmL P lk u.1 ∧ (∀ j : Int, 0 ≤ j → j < 40 → u.2.2.1 j = (bm P lk (Int.toNat u.1)).1 j) ∧ (u.1 = mn ∨ mt < u.2.1)) (xB D (fun (u : Int × Int × (Int → Int) × (Int → Int) × (Int → Int)) => [(mo, .inr (8, [.int (iI P), .int (iI sh), .int (iI sc), .ref xk, .ref xt, .ref xc, .ref xx, .ref xy, .ref xz, .int (iI cnt), .ref xr, .int (iI ak), .long tr, .ref xl, .int (iI u.2.1), .ref xC, .ref xF, .ref xK, .ref xn, .ref xb, .ref xw, .ref xa, .int (iI K), .ref yx, .ref yy, .ref yz, .ref yn, .ref yc, .ref yl])), (xC, .inl (cI, 40, .inl (aI u.2.2.1))), (xF, .inl (cI, 40, .inl (aI u.2.2.2.1))), (xK, .inl (cI, 40, .inl (aI u.2.2.2.2))), (xl, .inl (cI, 16, .inl (aI lk)))]) (va_A [(mo, .inr (8, [.int (iI P), .int (iI sh), .int (iI sc), .ref xk, .ref xt, .ref xc, .ref xx, .ref xy, .ref xz, .int (iI cnt), .ref xr, .int (iI ak), .long tr, .ref xl, .int (iI L), .ref xC, .ref xF, .ref xK, .ref xn, .ref xb, .ref xw, .ref xa, .int (iI K), .ref yx, .ref yy, .ref yz, .ref yn, .ref yc, .ref yl])), (xC, .inl (cI, 40, .inl (aI cr))), (xF, .inl (cI, 40, .inl (aI fr))), (xK, .inl (cI, 40, .inl (aI kp))), (xl, .inl (cI, 16, .inl (aI lk)))] sz)) (va_A [(mo, .inr (8, [.int (iI P), .int (iI sh), .int (iI sc), .ref xk, .ref xt, .ref xc, .ref xx, .ref xy, .ref xz, .int (iI cnt), .ref xr, .int (iI ak), .long tr, .ref xl, .int (iI L), .ref xC, .ref xF, .ref xK, .ref xn, .ref xb, .ref xw, .ref xa, .int (iI K), .ref yx, .ref yy, .ref yz, .ref yn, .ref yc, .ref yl])), (xC, .inl (cI, 40, .inl (aI cr))), (xF, .inl (cI, 40, .inl (aI fr))), (xK, .inl (cI, 40, .inl (aI kp))), (xl, .inl (cI, 16, .inl (aI lk)))] sz)) 0 0 (va_A [(mo, .inr (8, [.int (iI P), .int (iI sh), .int (iI sc), .ref xk, .ref xt, .ref xc, .ref xx, .ref xy, .ref xz, .int (iI cnt), .ref xr, .int (iI ak), .long tr, .ref xl, .int (iI L), .ref xC, .ref xF, .ref xK, .ref xn, .ref xb, .ref xw, .ref xa, .int (iI K), .ref yx, .ref yy, .ref yz, .ref yn, .ref yc, .ref yl])), (xC, .inl (cI, 40, .inl (aI cr))), (xF, .inl (cI, 40, .inl (aI fr))), (xK, .inl (cI, 40, .inl (aI kp))), (xl, .inl (cI, 16, .inl (aI lk)))] sz) := by
  refine x_metW (own := RX8) (cc := cX8_grow) (maxL := 9) (ret := none) (Qc := fun jA => va_Qv (fun (u : Int × Int × (Int → Int) × (Int → Int) × (Int → Int)) => (0 ≤ u.1 ∧ u.1 ≤ mn) ∧ u.2.1 = bmL P lk u.1 ∧ (∀ j : Int, 0 ≤ j → j < 40 → u.2.2.1 j = (bm P lk (Int.toNat u.1)).1 j) ∧ (u.1 = mn ∨ mt < u.2.1)) (xB D (fun (u : Int × Int × (Int → Int) × (Int → Int) × (Int → Int)) => [(mo, .inr (8, [.int (iI P), .int (iI sh), .int (iI sc), .ref xk, .ref xt, .ref xc, .ref xx, .ref xy, .ref xz, .int (iI cnt), .ref xr, .int (iI ak), .long tr, .ref xl, .int (iI u.2.1), .ref xC, .ref xF, .ref xK, .ref xn, .ref xb, .ref xw, .ref xa, .int (iI K), .ref yx, .ref yy, .ref yz, .ref yn, .ref yc, .ref yl])), (xC, .inl (cI, 40, .inl (aI u.2.2.1))), (xF, .inl (cI, 40, .inl (aI u.2.2.2.1))), (xK, .inl (cI, 40, .inl (aI u.2.2.2.2))), (xl, .inl (cI, 16, .inl (aI lk)))]) jA) jA) (by decide) rfl rfl rfl ?_
  intro jp je js jm ja jb jt jc jA jQ jS jr jk jn jq hK hP hD hA hS ls hl
  have hl : lv_has ls 9 [(0, .ref mo), (1, .int (iI mn)), (2, .int (iI mt))] := hl
  have hok5 := hok.1
  have hok9 := hok.2.1
  have hP2 : 2 ≤ P := by omega
  refine x_ic jS dX8_grow_0 ?_
  refine x_isn (lv' := [(3, .int (iI 0)), (0, .ref mo), (1, .int (iI mn)), (2, .int (iI mt))]) jS dX8_grow_1 rfl hl rfl rfl (fun ls hl => ?_)
  have loop_2 : ∀ (mm : Nat) (i : Int) (cr1 : Int → Int) (fr1 : Int → Int) (jH : Heap) (jL : List Loc), (40 - i).toNat = mm → (0 ≤ i ∧ i ≤ 40) → (∀ j : Int, 0 ≤ j → j < i → cr1 j = c00 j ∧ fr1 j = c00 j) → va_P D vwCl [(mo, .inr (8, [.int (iI P), .int (iI sh), .int (iI sc), .ref xk, .ref xt, .ref xc, .ref xx, .ref xy, .ref xz, .int (iI cnt), .ref xr, .int (iI ak), .long tr, .ref xl, .int (iI L), .ref xC, .ref xF, .ref xK, .ref xn, .ref xb, .ref xw, .ref xa, .int (iI K), .ref yx, .ref yy, .ref yz, .ref yn, .ref yc, .ref yl])), (xC, .inl (cI, 40, .inl (aI cr1))), (xF, .inl (cI, 40, .inl (aI fr1))), (xK, .inl (cI, 40, .inl (aI kp))), (xl, .inl (cI, 16, .inl (aI lk)))] jH → va_D jA [(mo, .inr (8, [.int (iI P), .int (iI sh), .int (iI sc), .ref xk, .ref xt, .ref xc, .ref xx, .ref xy, .ref xz, .int (iI cnt), .ref xr, .int (iI ak), .long tr, .ref xl, .int (iI L), .ref xC, .ref xF, .ref xK, .ref xn, .ref xb, .ref xw, .ref xa, .int (iI K), .ref yx, .ref yy, .ref yz, .ref yn, .ref yc, .ref yl])), (xC, .inl (cI, 40, .inl (aI cr1))), (xF, .inl (cI, 40, .inl (aI fr1))), (xK, .inl (cI, 40, .inl (aI kp))), (xl, .inl (cI, 16, .inl (aI lk)))] → va_S jA js.heap jH jL → ∀ ls : Array Slot, lv_has ls 9 [(3, .int (iI i)), (0, .ref mo), (1, .int (iI mn)), (2, .int (iI mt))] → W jp jl je rm_X8_grow js jm ja jb jt jc jH jL 0 0 jQ (F0 jm 2 ls []) := by
    intro mm
    induction mm using Nat.strongRecOn with
    | ind mm ih2 =>
      intro i cr1 fr1 jH jL hmm2 hi h1 hP hD hS ls hl
      refine x_iln jS dX8_grow_2 rfl hl 0 rfl ?_
      refine x_bi jS dX8_grow_3 (by decide) ?_
      refine x_cmpge jS 41 dX8_grow_5 (by decide) (by omega) (fun hc5 => ?_) (fun hc5 => ?_)
      · skip
        refine x_aln jS dX8_grow_41 rfl hl 1 rfl ?_
        refine x_ic jS dX8_grow_42 ?_
        refine x_put (ty0 := tyX8) (ws' := [(mo, .inr (8, [.int (iI P), .int (iI sh), .int (iI sc), .ref xk, .ref xt, .ref xc, .ref xx, .ref xy, .ref xz, .int (iI cnt), .ref xr, .int (iI ak), .long tr, .ref xl, .int (iI 0), .ref xC, .ref xF, .ref xK, .ref xn, .ref xb, .ref xw, .ref xa, .int (iI K), .ref yx, .ref yy, .ref yz, .ref yn, .ref yc, .ref yl])), (xC, .inl (cI, 40, .inl (aI cr1))), (xF, .inl (cI, 40, .inl (aI fr1))), (xK, .inl (cI, 40, .inl (aI kp))), (xl, .inl (cI, 16, .inl (aI lk)))]) jS hK hP hD hS h_X8_grow_X8 tyX8_ok nmX8 0 rfl rfl 14 rfl m_X8_grow_3 rfl rfl rfl rfl dX8_grow_43 rfl (fun jH jL hP hD hS => ?_)
        refine x_ic jS dX8_grow_46 ?_
        refine x_isn (lv' := [(3, .int (iI 1)), (0, .ref mo), (1, .int (iI mn)), (2, .int (iI mt))]) jS dX8_grow_47 rfl hl rfl rfl (fun ls hl => ?_)
        refine x_ic jS dX8_grow_48 ?_
        refine x_is (lv' := [(4, .int (iI 1)), (3, .int (iI 1)), (0, .ref mo), (1, .int (iI mn)), (2, .int (iI mt))]) jS dX8_grow_49 hl rfl rfl (fun ls hl => ?_)
        refine x_ic jS dX8_grow_51 ?_
        refine x_is (lv' := [(5, .int (iI 0)), (4, .int (iI 1)), (3, .int (iI 1)), (0, .ref mo), (1, .int (iI mn)), (2, .int (iI mt))]) jS dX8_grow_52 hl rfl rfl (fun ls hl => ?_)
        have loop_54 : ∀ (mm : Nat) (f : Int) (m : Int) (n : Int) (L1 : Int) (cr3 : Int → Int) (fr3 : Int → Int) (kp3 : Int → Int) (jH : Heap) (jL : List Loc), (mn - n).toNat = mm → (0 ≤ n ∧ n ≤ mn) → (mgR (bm P lk n.toNat) cr3 fr3 L1 f m) → va_P D vwCl [(mo, .inr (8, [.int (iI P), .int (iI sh), .int (iI sc), .ref xk, .ref xt, .ref xc, .ref xx, .ref xy, .ref xz, .int (iI cnt), .ref xr, .int (iI ak), .long tr, .ref xl, .int (iI L1), .ref xC, .ref xF, .ref xK, .ref xn, .ref xb, .ref xw, .ref xa, .int (iI K), .ref yx, .ref yy, .ref yz, .ref yn, .ref yc, .ref yl])), (xC, .inl (cI, 40, .inl (aI cr3))), (xF, .inl (cI, 40, .inl (aI fr3))), (xK, .inl (cI, 40, .inl (aI kp3))), (xl, .inl (cI, 16, .inl (aI lk)))] jH → va_D jA [(mo, .inr (8, [.int (iI P), .int (iI sh), .int (iI sc), .ref xk, .ref xt, .ref xc, .ref xx, .ref xy, .ref xz, .int (iI cnt), .ref xr, .int (iI ak), .long tr, .ref xl, .int (iI L1), .ref xC, .ref xF, .ref xK, .ref xn, .ref xb, .ref xw, .ref xa, .int (iI K), .ref yx, .ref yy, .ref yz, .ref yn, .ref yc, .ref yl])), (xC, .inl (cI, 40, .inl (aI cr3))), (xF, .inl (cI, 40, .inl (aI fr3))), (xK, .inl (cI, 40, .inl (aI kp3))), (xl, .inl (cI, 16, .inl (aI lk)))] → va_S jA js.heap jH jL → ∀ ls : Array Slot, lv_has ls 9 [(5, .int (iI n)), (4, .int (iI m)), (3, .int (iI f)), (0, .ref mo), (1, .int (iI mn)), (2, .int (iI mt))] → W jp jl je rm_X8_grow js jm ja jb jt jc jH jL 0 0 jQ (F0 jm 54 ls []) := by
          intro mm
          induction mm using Nat.strongRecOn with
          | ind mm ih54 =>
            intro f m n L1 cr3 fr3 kp3 jH jL hmm54 hn hR hP hD hS ls hl
            have hI := bmI_z hP2 lk hn.1
            have hI0 := hI.1
            rw [← hR.1, ← hR.2.1, ← hR.2.2.1] at hI0
            have hcb : ∀ j : Int, 0 ≤ j → j < 40 → 0 ≤ cr3 j ∧ cr3 j < P := fun j x y => by rw [(hR.2.2.2 j x y).1]; exact hI.2.1 j
            have hfb : ∀ j : Int, 0 ≤ j → j < 40 → 0 ≤ fr3 j ∧ fr3 j < P := fun j x y => by rw [(hR.2.2.2 j x y).2]; exact hI.2.2.1 j
            refine x_il jS dX8_grow_54 hl 0 rfl ?_
            refine x_iln jS dX8_grow_56 rfl hl 4 rfl ?_
            refine x_cmpge jS 305 dX8_grow_57 (by decide) (by omega) (fun hc57 => ?_) (fun hc57 => ?_)
            · skip
              exact x_vretW jS jr jk jq dX8_grow_305 ⟨n, L1, cr3, fr3, kp3⟩ hP hD hS (show (0 ≤ n ∧ n ≤ mn) ∧ L1 = bmL P lk n ∧ (∀ j : Int, 0 ≤ j → j < 40 → cr3 j = (bm P lk (Int.toNat n)).1 j) ∧ (n = mn ∨ mt < L1) from ⟨hn, by rw [hR.1]; rfl, fun j x y => (hR.2.2.2 j x y).1, Or.inl (by omega)⟩)
            · skip
              refine x_aln jS dX8_grow_60 rfl hl 3 rfl ?_
              refine x_get jS hK hP h_X8_grow_X8 0 rfl rfl 14 rfl m_X8_grow_3 rfl dX8_grow_61 ?_
              refine x_iln jS dX8_grow_64 rfl hl 5 rfl ?_
              refine x_cmpgt jS 305 dX8_grow_65 (by decide) (by omega) (fun hc65 => ?_) (fun hc65 => ?_)
              · skip
                exact x_vretW jS jr jk jq dX8_grow_305 ⟨n, L1, cr3, fr3, kp3⟩ hP hD hS (show (0 ≤ n ∧ n ≤ mn) ∧ L1 = bmL P lk n ∧ (∀ j : Int, 0 ≤ j → j < 40 → cr3 j = (bm P lk (Int.toNat n)).1 j) ∧ (n = mn ∨ mt < L1) from ⟨hn, by rw [hR.1]; rfl, fun j x y => (hR.2.2.2 j x y).1, Or.inr hc65⟩)
              · skip
                refine x_ic jS dX8_grow_68 ?_
                refine x_is (lv' := [(6, .int (iI 0)), (5, .int (iI n)), (4, .int (iI m)), (3, .int (iI f)), (0, .ref mo), (1, .int (iI mn)), (2, .int (iI mt))]) jS dX8_grow_69 hl rfl rfl (fun ls hl => ?_)
                refine x_ic jS dX8_grow_71 ?_
                refine x_is (lv' := [(7, .int (iI 0)), (6, .int (iI 0)), (5, .int (iI n)), (4, .int (iI m)), (3, .int (iI f)), (0, .ref mo), (1, .int (iI mn)), (2, .int (iI mt))]) jS dX8_grow_72 hl rfl rfl (fun ls hl => ?_)
                have loop_74 : ∀ (mm : Nat) (er : Int) (k : Int) (jH : Heap) (jL : List Loc), (L1 + 1 - k).toNat = mm → (0 ≤ k ∧ k ≤ L1 + 1) → (er = sm (fun k => cr3 k * lk (n - k)) k % P) → (0 ≤ er ∧ er < P) → va_P D vwCl [(mo, .inr (8, [.int (iI P), .int (iI sh), .int (iI sc), .ref xk, .ref xt, .ref xc, .ref xx, .ref xy, .ref xz, .int (iI cnt), .ref xr, .int (iI ak), .long tr, .ref xl, .int (iI L1), .ref xC, .ref xF, .ref xK, .ref xn, .ref xb, .ref xw, .ref xa, .int (iI K), .ref yx, .ref yy, .ref yz, .ref yn, .ref yc, .ref yl])), (xC, .inl (cI, 40, .inl (aI cr3))), (xF, .inl (cI, 40, .inl (aI fr3))), (xK, .inl (cI, 40, .inl (aI kp3))), (xl, .inl (cI, 16, .inl (aI lk)))] jH → va_D jA [(mo, .inr (8, [.int (iI P), .int (iI sh), .int (iI sc), .ref xk, .ref xt, .ref xc, .ref xx, .ref xy, .ref xz, .int (iI cnt), .ref xr, .int (iI ak), .long tr, .ref xl, .int (iI L1), .ref xC, .ref xF, .ref xK, .ref xn, .ref xb, .ref xw, .ref xa, .int (iI K), .ref yx, .ref yy, .ref yz, .ref yn, .ref yc, .ref yl])), (xC, .inl (cI, 40, .inl (aI cr3))), (xF, .inl (cI, 40, .inl (aI fr3))), (xK, .inl (cI, 40, .inl (aI kp3))), (xl, .inl (cI, 16, .inl (aI lk)))] → va_S jA js.heap jH jL → ∀ ls : Array Slot, lv_has ls 9 [(7, .int (iI k)), (6, .int (iI er)), (5, .int (iI n)), (4, .int (iI m)), (3, .int (iI f)), (0, .ref mo), (1, .int (iI mn)), (2, .int (iI mt))] → W jp jl je rm_X8_grow js jm ja jb jt jc jH jL 0 0 jQ (F0 jm 74 ls []) := by
                  intro mm
                  induction mm using Nat.strongRecOn with
                  | ind mm ih74 =>
                    intro er k jH jL hmm74 hk her herb hP hD hS ls hl
                    refine x_il jS dX8_grow_74 hl 0 rfl ?_
                    refine x_aln jS dX8_grow_76 rfl hl 5 rfl ?_
                    refine x_get jS hK hP h_X8_grow_X8 0 rfl rfl 14 rfl m_X8_grow_3 rfl dX8_grow_77 ?_
                    refine x_cmpgt jS 117 dX8_grow_80 (by decide) (by omega) (fun hc80 => ?_) (fun hc80 => ?_)
                    · skip
                      have hE : er = bmE P lk n (bm P lk n.toNat) := by
                        rw [her, show k = L1 + 1 by omega]; unfold bmE; rw [← hR.1]; congr 1; exact sm_congr (fun j x y => by show cr3 j * _ = _ * _; rw [(hR.2.2.2 j x (by omega)).1])
                      refine x_il jS dX8_grow_117 hl 1 rfl ?_
                      refine x_ifne jS 128 dX8_grow_119 (by decide) (by omega) (fun hc119 => ?_) (fun hc119 => ?_)
                      · skip
                        have hivb := ivF_in (show 0 < P by omega) f
                        refine x_il jS dX8_grow_128 hl 1 rfl ?_
                        refine x_aln jS dX8_grow_130 rfl hl 5 rfl ?_
                        refine x_iln jS dX8_grow_131 rfl hl 4 rfl ?_
                        refine x_rI (x_rmV (As := [.int (iI f)]) (rest := [.int (iI er)]) jS hl.1 hK (c_X8_over jl D cI mo xk xt xc xx xy xz xr xl xC xF xK xn xb xw xa yx yy yz yn yc yl P sh sc cnt ak L1 K tr f (by first | assumption | omega) (by first | assumption | omega)) (hP.sub [0] rfl) 0 rfl rfl gX8_grow_X8_over rfl rfl rfl kf_X8_over rfl rfl rfl rfl rfl dX8_grow_132 rfl rfl) ?_
                        refine x_imulB jS dX8_grow_135 (by omega) (fun hp135 => ?_)
                        refine x_aln jS dX8_grow_136 rfl hl 5 rfl ?_
                        refine x_get jS hK hP h_X8_grow_X8 0 rfl rfl 0 rfl m_X8_grow_5 rfl dX8_grow_137 ?_
                        refine x_irem jS dX8_grow_140 (by omega) (fun hm140 => ?_)
                        refine x_topi (fun by_ h_by_ => ?_)
                        have hby : by_ = er * ivF P f % P := h_by_
                        refine x_is (lv' := [(7, .int (iI by_)), (6, .int (iI er)), (5, .int (iI n)), (4, .int (iI m)), (3, .int (iI f)), (0, .ref mo), (1, .int (iI mn)), (2, .int (iI mt))]) jS dX8_grow_141 hl rfl rfl (fun ls hl => ?_)
                        refine x_ic jS dX8_grow_143 ?_
                        refine x_is (lv' := [(8, .int (iI 0)), (7, .int (iI by_)), (6, .int (iI er)), (5, .int (iI n)), (4, .int (iI m)), (3, .int (iI f)), (0, .ref mo), (1, .int (iI mn)), (2, .int (iI mt))]) jS dX8_grow_144 hl rfl rfl (fun ls hl => ?_)
                        have loop_146 : ∀ (mm : Nat) (i5 : Int) (kp5 : Int → Int) (jH : Heap) (jL : List Loc), (40 - i5).toNat = mm → (0 ≤ i5 ∧ i5 ≤ 40) → (∀ j : Int, 0 ≤ j → j < i5 → kp5 j = cr3 j) → va_P D vwCl [(mo, .inr (8, [.int (iI P), .int (iI sh), .int (iI sc), .ref xk, .ref xt, .ref xc, .ref xx, .ref xy, .ref xz, .int (iI cnt), .ref xr, .int (iI ak), .long tr, .ref xl, .int (iI L1), .ref xC, .ref xF, .ref xK, .ref xn, .ref xb, .ref xw, .ref xa, .int (iI K), .ref yx, .ref yy, .ref yz, .ref yn, .ref yc, .ref yl])), (xC, .inl (cI, 40, .inl (aI cr3))), (xF, .inl (cI, 40, .inl (aI fr3))), (xK, .inl (cI, 40, .inl (aI kp5))), (xl, .inl (cI, 16, .inl (aI lk)))] jH → va_D jA [(mo, .inr (8, [.int (iI P), .int (iI sh), .int (iI sc), .ref xk, .ref xt, .ref xc, .ref xx, .ref xy, .ref xz, .int (iI cnt), .ref xr, .int (iI ak), .long tr, .ref xl, .int (iI L1), .ref xC, .ref xF, .ref xK, .ref xn, .ref xb, .ref xw, .ref xa, .int (iI K), .ref yx, .ref yy, .ref yz, .ref yn, .ref yc, .ref yl])), (xC, .inl (cI, 40, .inl (aI cr3))), (xF, .inl (cI, 40, .inl (aI fr3))), (xK, .inl (cI, 40, .inl (aI kp5))), (xl, .inl (cI, 16, .inl (aI lk)))] → va_S jA js.heap jH jL → ∀ ls : Array Slot, lv_has ls 9 [(8, .int (iI i5)), (7, .int (iI by_)), (6, .int (iI er)), (5, .int (iI n)), (4, .int (iI m)), (3, .int (iI f)), (0, .ref mo), (1, .int (iI mn)), (2, .int (iI mt))] → W jp jl je rm_X8_grow js jm ja jb jt jc jH jL 0 0 jQ (F0 jm 146 ls []) := by
                          intro mm
                          induction mm using Nat.strongRecOn with
                          | ind mm ih146 =>
                            intro i5 kp5 jH jL hmm146 hi5 h5 hP hD hS ls hl
                            refine x_il jS dX8_grow_146 hl 0 rfl ?_
                            refine x_bi jS dX8_grow_148 (by decide) ?_
                            refine x_cmpge jS 173 dX8_grow_150 (by decide) (by omega) (fun hc150 => ?_) (fun hc150 => ?_)
                            · skip
                              refine x_ic jS dX8_grow_173 ?_
                              refine x_is (lv' := [(8, .int (iI 0)), (7, .int (iI by_)), (6, .int (iI er)), (5, .int (iI n)), (4, .int (iI m)), (3, .int (iI f)), (0, .ref mo), (1, .int (iI mn)), (2, .int (iI mt))]) jS dX8_grow_174 hl rfl rfl (fun ls hl => ?_)
                              have loop_176 : ∀ (mm : Nat) (i7 : Int) (cr7 : Int → Int) (jH : Heap) (jL : List Loc), (40 - i7).toNat = mm → (0 ≤ i7 ∧ i7 ≤ 40) → (∀ j : Int, cr7 j = if m ≤ j ∧ j < m + i7 then (cr3 j + (P - by_) * fr3 (j - m)) % P else cr3 j) → va_P D vwCl [(mo, .inr (8, [.int (iI P), .int (iI sh), .int (iI sc), .ref xk, .ref xt, .ref xc, .ref xx, .ref xy, .ref xz, .int (iI cnt), .ref xr, .int (iI ak), .long tr, .ref xl, .int (iI L1), .ref xC, .ref xF, .ref xK, .ref xn, .ref xb, .ref xw, .ref xa, .int (iI K), .ref yx, .ref yy, .ref yz, .ref yn, .ref yc, .ref yl])), (xC, .inl (cI, 40, .inl (aI cr7))), (xF, .inl (cI, 40, .inl (aI fr3))), (xK, .inl (cI, 40, .inl (aI kp5))), (xl, .inl (cI, 16, .inl (aI lk)))] jH → va_D jA [(mo, .inr (8, [.int (iI P), .int (iI sh), .int (iI sc), .ref xk, .ref xt, .ref xc, .ref xx, .ref xy, .ref xz, .int (iI cnt), .ref xr, .int (iI ak), .long tr, .ref xl, .int (iI L1), .ref xC, .ref xF, .ref xK, .ref xn, .ref xb, .ref xw, .ref xa, .int (iI K), .ref yx, .ref yy, .ref yz, .ref yn, .ref yc, .ref yl])), (xC, .inl (cI, 40, .inl (aI cr7))), (xF, .inl (cI, 40, .inl (aI fr3))), (xK, .inl (cI, 40, .inl (aI kp5))), (xl, .inl (cI, 16, .inl (aI lk)))] → va_S jA js.heap jH jL → ∀ ls : Array Slot, lv_has ls 9 [(8, .int (iI i7)), (7, .int (iI by_)), (6, .int (iI er)), (5, .int (iI n)), (4, .int (iI m)), (3, .int (iI f)), (0, .ref mo), (1, .int (iI mn)), (2, .int (iI mt))] → W jp jl je rm_X8_grow js jm ja jb jt jc jH jL 0 0 jQ (F0 jm 176 ls []) := by
                                intro mm
                                induction mm using Nat.strongRecOn with
                                | ind mm ih176 =>
                                  intro i7 cr7 jH jL hmm176 hi7 h7 hP hD hS ls hl
                                  refine x_il jS dX8_grow_176 hl 0 rfl ?_
                                  refine x_il jS dX8_grow_178 hl 4 rfl ?_
                                  refine x_iadd jS dX8_grow_180 ?_
                                  refine x_bi jS dX8_grow_181 (by decide) ?_
                                  refine x_cmpge jS 233 dX8_grow_183 (by decide) (by omega) (fun hc183 => ?_) (fun hc183 => ?_)
                                  · skip
                                    have hcr7 := mg_add (by_ := by_) hI hR (cr2 := cr7) (fun j x y => by rw [h7 j]; by_cases q : m ≤ j; rw [if_pos (by omega), if_pos q]; rw [if_neg (by omega), if_neg q])
                                    have hE0 : bmE P lk n (bm P lk n.toNat) ≠ 0 := by rw [← hE]; exact hc119
                                    refine x_ic jS dX8_grow_233 ?_
                                    refine x_aln jS dX8_grow_234 rfl hl 6 rfl ?_
                                    refine x_get jS hK hP h_X8_grow_X8 0 rfl rfl 14 rfl m_X8_grow_3 rfl dX8_grow_235 ?_
                                    refine x_imul jS dX8_grow_238 ?_
                                    refine x_il jS dX8_grow_239 hl 3 rfl ?_
                                    refine x_cmpgt jS 296 dX8_grow_241 (by decide) (by omega) (fun hc241 => ?_) (fun hc241 => ?_)
                                    · skip
                                      have hnx : mgR (bmS P lk n (bm P lk n.toNat)) cr7 fr3 L1 f (m + 1) := by
                                        rw [bmS_2 hE0 (by rw [← hR.1]; omega)]; exact ⟨hR.1, hR.2.1, by rw [← hR.2.2.1], fun j x y => ⟨by rw [hcr7 j x y, hby, hE, hR.2.1]; rfl, (hR.2.2.2 j x y).2⟩⟩
                                      refine x_iinc (lv' := [(4, .int (iI (m + 1))), (8, .int (iI i7)), (7, .int (iI by_)), (6, .int (iI er)), (5, .int (iI n)), (3, .int (iI f)), (0, .ref mo), (1, .int (iI mn)), (2, .int (iI mt))]) jS dX8_grow_296 hl 4 rfl rfl rfl (fun ls hl => ?_)
                                      refine x_iinc (lv' := [(5, .int (iI (n + 1))), (4, .int (iI (m + 1))), (8, .int (iI i7)), (7, .int (iI by_)), (6, .int (iI er)), (3, .int (iI f)), (0, .ref mo), (1, .int (iI mn)), (2, .int (iI mt))]) jS dX8_grow_299 hl 4 rfl rfl rfl (fun ls hl => ?_)
                                      refine x_goto jS 54 dX8_grow_302 (by decide) ?_
                                      exact ih54 _ (by omega) f (m + 1) (n + 1) L1 cr7 fr3 kp5 _ _ rfl (by omega) (mg_next hn.1 hnx) hP hD hS ls (lv_sub hl [0, 1, 5, 6, 7, 8] rfl)
                                    · skip
                                      refine x_ic jS dX8_grow_244 ?_
                                      refine x_is (lv' := [(8, .int (iI 0)), (7, .int (iI by_)), (6, .int (iI er)), (5, .int (iI n)), (4, .int (iI m)), (3, .int (iI f)), (0, .ref mo), (1, .int (iI mn)), (2, .int (iI mt))]) jS dX8_grow_245 hl rfl rfl (fun ls hl => ?_)
                                      have loop_247 : ∀ (mm : Nat) (i9 : Int) (fr9 : Int → Int) (jH : Heap) (jL : List Loc), (40 - i9).toNat = mm → (0 ≤ i9 ∧ i9 ≤ 40) → (∀ j : Int, 0 ≤ j → j < i9 → fr9 j = kp5 j) → va_P D vwCl [(mo, .inr (8, [.int (iI P), .int (iI sh), .int (iI sc), .ref xk, .ref xt, .ref xc, .ref xx, .ref xy, .ref xz, .int (iI cnt), .ref xr, .int (iI ak), .long tr, .ref xl, .int (iI L1), .ref xC, .ref xF, .ref xK, .ref xn, .ref xb, .ref xw, .ref xa, .int (iI K), .ref yx, .ref yy, .ref yz, .ref yn, .ref yc, .ref yl])), (xC, .inl (cI, 40, .inl (aI cr7))), (xF, .inl (cI, 40, .inl (aI fr9))), (xK, .inl (cI, 40, .inl (aI kp5))), (xl, .inl (cI, 16, .inl (aI lk)))] jH → va_D jA [(mo, .inr (8, [.int (iI P), .int (iI sh), .int (iI sc), .ref xk, .ref xt, .ref xc, .ref xx, .ref xy, .ref xz, .int (iI cnt), .ref xr, .int (iI ak), .long tr, .ref xl, .int (iI L1), .ref xC, .ref xF, .ref xK, .ref xn, .ref xb, .ref xw, .ref xa, .int (iI K), .ref yx, .ref yy, .ref yz, .ref yn, .ref yc, .ref yl])), (xC, .inl (cI, 40, .inl (aI cr7))), (xF, .inl (cI, 40, .inl (aI fr9))), (xK, .inl (cI, 40, .inl (aI kp5))), (xl, .inl (cI, 16, .inl (aI lk)))] → va_S jA js.heap jH jL → ∀ ls : Array Slot, lv_has ls 9 [(8, .int (iI i9)), (7, .int (iI by_)), (6, .int (iI er)), (5, .int (iI n)), (4, .int (iI m)), (3, .int (iI f)), (0, .ref mo), (1, .int (iI mn)), (2, .int (iI mt))] → W jp jl je rm_X8_grow js jm ja jb jt jc jH jL 0 0 jQ (F0 jm 247 ls []) := by
                                        intro mm
                                        induction mm using Nat.strongRecOn with
                                        | ind mm ih247 =>
                                          intro i9 fr9 jH jL hmm247 hi9 h9 hP hD hS ls hl
                                          refine x_il jS dX8_grow_247 hl 0 rfl ?_
                                          refine x_bi jS dX8_grow_249 (by decide) ?_
                                          refine x_cmpge jS 274 dX8_grow_251 (by decide) (by omega) (fun hc251 => ?_) (fun hc251 => ?_)
                                          · skip
                                            have hnx : mgR (bmS P lk n (bm P lk n.toNat)) cr7 fr9 (n + 1 - L1) er 1 := by
                                              rw [bmS_1 hE0 (by rw [← hR.1]; omega)]; exact ⟨by rw [hR.1], hE, rfl, fun j x y => ⟨by rw [hcr7 j x y, hby, hE, hR.2.1]; rfl, by rw [h9 j x (by omega), h5 j x (by omega)]; exact (hR.2.2.2 j x y).1⟩⟩
                                            refine x_il jS dX8_grow_274 hl 2 rfl ?_
                                            refine x_isn (lv' := [(3, .int (iI er)), (8, .int (iI i9)), (7, .int (iI by_)), (6, .int (iI er)), (5, .int (iI n)), (4, .int (iI m)), (0, .ref mo), (1, .int (iI mn)), (2, .int (iI mt))]) jS dX8_grow_276 rfl hl rfl rfl (fun ls hl => ?_)
                                            refine x_ic jS dX8_grow_277 ?_
                                            refine x_is (lv' := [(4, .int (iI 1)), (3, .int (iI er)), (8, .int (iI i9)), (7, .int (iI by_)), (6, .int (iI er)), (5, .int (iI n)), (0, .ref mo), (1, .int (iI mn)), (2, .int (iI mt))]) jS dX8_grow_278 hl rfl rfl (fun ls hl => ?_)
                                            refine x_aln jS dX8_grow_280 rfl hl 6 rfl ?_
                                            refine x_il jS dX8_grow_281 hl 5 rfl ?_
                                            refine x_ic jS dX8_grow_283 ?_
                                            refine x_iadd jS dX8_grow_284 ?_
                                            refine x_aln jS dX8_grow_285 rfl hl 6 rfl ?_
                                            refine x_get jS hK hP h_X8_grow_X8 0 rfl rfl 14 rfl m_X8_grow_3 rfl dX8_grow_286 ?_
                                            refine x_isub jS dX8_grow_289 ?_
                                            refine x_put (ty0 := tyX8) (ws' := [(mo, .inr (8, [.int (iI P), .int (iI sh), .int (iI sc), .ref xk, .ref xt, .ref xc, .ref xx, .ref xy, .ref xz, .int (iI cnt), .ref xr, .int (iI ak), .long tr, .ref xl, .int (iI ((n + 1) - L1)), .ref xC, .ref xF, .ref xK, .ref xn, .ref xb, .ref xw, .ref xa, .int (iI K), .ref yx, .ref yy, .ref yz, .ref yn, .ref yc, .ref yl])), (xC, .inl (cI, 40, .inl (aI cr7))), (xF, .inl (cI, 40, .inl (aI fr9))), (xK, .inl (cI, 40, .inl (aI kp5))), (xl, .inl (cI, 16, .inl (aI lk)))]) jS hK hP hD hS h_X8_grow_X8 tyX8_ok nmX8 0 rfl rfl 14 rfl m_X8_grow_3 rfl rfl rfl rfl dX8_grow_290 rfl (fun jH jL hP hD hS => ?_)
                                            refine x_goto jS 299 dX8_grow_293 (by decide) ?_
                                            refine x_iinc (lv' := [(5, .int (iI (n + 1))), (4, .int (iI 1)), (3, .int (iI er)), (8, .int (iI i9)), (7, .int (iI by_)), (6, .int (iI er)), (0, .ref mo), (1, .int (iI mn)), (2, .int (iI mt))]) jS dX8_grow_299 hl 5 rfl rfl rfl (fun ls hl => ?_)
                                            refine x_goto jS 54 dX8_grow_302 (by decide) ?_
                                            exact ih54 _ (by omega) er 1 (n + 1) ((n + 1) - L1) cr7 fr9 kp5 _ _ rfl (by omega) (mg_next hn.1 hnx) hP hD hS ls (lv_sub hl [0, 1, 2, 6, 7, 8] rfl)
                                          · skip
                                            refine x_aln jS dX8_grow_254 rfl hl 6 rfl ?_
                                            refine x_get jS hK hP h_X8_grow_X8 0 rfl rfl 16 rfl m_X8_grow_2 rfl dX8_grow_255 ?_
                                            refine x_il jS dX8_grow_258 hl 0 rfl ?_
                                            refine x_aln jS dX8_grow_260 rfl hl 6 rfl ?_
                                            refine x_get jS hK hP h_X8_grow_X8 0 rfl rfl 17 rfl m_X8_grow_6 rfl dX8_grow_261 ?_
                                            refine x_il jS dX8_grow_264 hl 0 rfl ?_
                                            refine x_iald jS hK hP 3 rfl (by omega) dX8_grow_266 ?_
                                            refine x_iast (ws' := [(mo, .inr (8, [.int (iI P), .int (iI sh), .int (iI sc), .ref xk, .ref xt, .ref xc, .ref xx, .ref xy, .ref xz, .int (iI cnt), .ref xr, .int (iI ak), .long tr, .ref xl, .int (iI L1), .ref xC, .ref xF, .ref xK, .ref xn, .ref xb, .ref xw, .ref xa, .int (iI K), .ref yx, .ref yy, .ref yz, .ref yn, .ref yc, .ref yl])), (xC, .inl (cI, 40, .inl (aI cr7))), (xF, .inl (cI, 40, .inl (aI (uI fr9 i9 (kp5 i9))))), (xK, .inl (cI, 40, .inl (aI kp5))), (xl, .inl (cI, 16, .inl (aI lk)))]) jS hK hP hD hS 2 rfl (by omega) dX8_grow_267 rfl (fun jH jL hP hD hS => ?_)
                                            refine x_iinc (lv' := [(8, .int (iI (i9 + 1))), (7, .int (iI by_)), (6, .int (iI er)), (5, .int (iI n)), (4, .int (iI m)), (3, .int (iI f)), (0, .ref mo), (1, .int (iI mn)), (2, .int (iI mt))]) jS dX8_grow_268 hl 0 rfl rfl rfl (fun ls hl => ?_)
                                            refine x_goto jS 247 dX8_grow_271 (by decide) ?_
                                            exact ih247 _ (by omega) (i9 + 1) (uI fr9 i9 (kp5 i9)) _ _ rfl (by omega) (fun j x y => by rcases Int.lt_or_le j i9 with q | q; rw [uI_n (by omega)]; exact h9 j x q; rw [show j = i9 by omega, uI_s]) hP hD hS ls (lv_sub hl [0, 1, 2, 3, 4, 5, 6, 7, 8] rfl)
                                      exact loop_247 _ 0 fr3 _ _ rfl (by omega) (fun j x y => by omega) hP hD hS ls (lv_sub hl [0, 1, 2, 3, 4, 5, 6, 7, 8] rfl)
                                  · skip
                                    refine x_aln jS dX8_grow_186 rfl hl 6 rfl ?_
                                    refine x_get jS hK hP h_X8_grow_X8 0 rfl rfl 15 rfl m_X8_grow_1 rfl dX8_grow_187 ?_
                                    refine x_il jS dX8_grow_190 hl 0 rfl ?_
                                    refine x_il jS dX8_grow_192 hl 4 rfl ?_
                                    refine x_iadd jS dX8_grow_194 ?_
                                    refine x_aln jS dX8_grow_195 rfl hl 6 rfl ?_
                                    refine x_get jS hK hP h_X8_grow_X8 0 rfl rfl 15 rfl m_X8_grow_1 rfl dX8_grow_196 ?_
                                    refine x_il jS dX8_grow_199 hl 0 rfl ?_
                                    refine x_il jS dX8_grow_201 hl 4 rfl ?_
                                    refine x_iadd jS dX8_grow_203 ?_
                                    refine x_iald jS hK hP 1 rfl (by omega) dX8_grow_204 ?_
                                    have hb204 : 0 ≤ cr7 (i7 + m) ∧ cr7 (i7 + m) < P := by rw [h7 (i7 + m), if_neg (by omega)]; exact hcb _ (by omega) (by omega)
                                    refine x_aln jS dX8_grow_205 rfl hl 6 rfl ?_
                                    refine x_get jS hK hP h_X8_grow_X8 0 rfl rfl 0 rfl m_X8_grow_5 rfl dX8_grow_206 ?_
                                    refine x_il jS dX8_grow_209 hl 1 rfl ?_
                                    refine x_isub jS dX8_grow_211 ?_
                                    refine x_aln jS dX8_grow_212 rfl hl 6 rfl ?_
                                    refine x_get jS hK hP h_X8_grow_X8 0 rfl rfl 16 rfl m_X8_grow_2 rfl dX8_grow_213 ?_
                                    refine x_il jS dX8_grow_216 hl 0 rfl ?_
                                    refine x_iald jS hK hP 2 rfl (by omega) dX8_grow_218 ?_
                                    have hb218 := hfb i7 (by omega) (by omega)
                                    refine x_imulB jS dX8_grow_219 (by omega) (fun hp219 => ?_)
                                    refine x_iadd jS dX8_grow_220 ?_
                                    refine x_aln jS dX8_grow_221 rfl hl 6 rfl ?_
                                    refine x_get jS hK hP h_X8_grow_X8 0 rfl rfl 0 rfl m_X8_grow_5 rfl dX8_grow_222 ?_
                                    refine x_irem jS dX8_grow_225 (by omega) (fun hm225 => ?_)
                                    refine x_iast (ws' := [(mo, .inr (8, [.int (iI P), .int (iI sh), .int (iI sc), .ref xk, .ref xt, .ref xc, .ref xx, .ref xy, .ref xz, .int (iI cnt), .ref xr, .int (iI ak), .long tr, .ref xl, .int (iI L1), .ref xC, .ref xF, .ref xK, .ref xn, .ref xb, .ref xw, .ref xa, .int (iI K), .ref yx, .ref yy, .ref yz, .ref yn, .ref yc, .ref yl])), (xC, .inl (cI, 40, .inl (aI (uI cr7 (i7 + m) (((cr7 (i7 + m)) + ((P - by_) * (fr3 i7))) % P))))), (xF, .inl (cI, 40, .inl (aI fr3))), (xK, .inl (cI, 40, .inl (aI kp5))), (xl, .inl (cI, 16, .inl (aI lk)))]) jS hK hP hD hS 1 rfl (by omega) dX8_grow_226 rfl (fun jH jL hP hD hS => ?_)
                                    refine x_iinc (lv' := [(8, .int (iI (i7 + 1))), (7, .int (iI by_)), (6, .int (iI er)), (5, .int (iI n)), (4, .int (iI m)), (3, .int (iI f)), (0, .ref mo), (1, .int (iI mn)), (2, .int (iI mt))]) jS dX8_grow_227 hl 0 rfl rfl rfl (fun ls hl => ?_)
                                    refine x_goto jS 176 dX8_grow_230 (by decide) ?_
                                    exact ih176 _ (by omega) (i7 + 1) (uI cr7 (i7 + m) (((cr7 (i7 + m)) + ((P - by_) * (fr3 i7))) % P)) _ _ rfl (by omega) (fun j => by by_cases q : j = i7 + m; rw [q, uI_s, if_pos (by omega), h7 (i7 + m), if_neg (by omega), show i7 + m - m = i7 by omega]; rw [uI_n q, h7 j]; by_cases q2 : m ≤ j ∧ j < m + i7; rw [if_pos q2, if_pos (by omega)]; rw [if_neg q2, if_neg (by omega)]) hP hD hS ls (lv_sub hl [0, 1, 2, 3, 4, 5, 6, 7, 8] rfl)
                              exact loop_176 _ 0 cr3 _ _ rfl (by omega) (fun j => by rw [if_neg (by omega)]) hP hD hS ls (lv_sub hl [0, 1, 2, 3, 4, 5, 6, 7, 8] rfl)
                            · skip
                              refine x_aln jS dX8_grow_153 rfl hl 6 rfl ?_
                              refine x_get jS hK hP h_X8_grow_X8 0 rfl rfl 17 rfl m_X8_grow_6 rfl dX8_grow_154 ?_
                              refine x_il jS dX8_grow_157 hl 0 rfl ?_
                              refine x_aln jS dX8_grow_159 rfl hl 6 rfl ?_
                              refine x_get jS hK hP h_X8_grow_X8 0 rfl rfl 15 rfl m_X8_grow_1 rfl dX8_grow_160 ?_
                              refine x_il jS dX8_grow_163 hl 0 rfl ?_
                              refine x_iald jS hK hP 1 rfl (by omega) dX8_grow_165 ?_
                              refine x_iast (ws' := [(mo, .inr (8, [.int (iI P), .int (iI sh), .int (iI sc), .ref xk, .ref xt, .ref xc, .ref xx, .ref xy, .ref xz, .int (iI cnt), .ref xr, .int (iI ak), .long tr, .ref xl, .int (iI L1), .ref xC, .ref xF, .ref xK, .ref xn, .ref xb, .ref xw, .ref xa, .int (iI K), .ref yx, .ref yy, .ref yz, .ref yn, .ref yc, .ref yl])), (xC, .inl (cI, 40, .inl (aI cr3))), (xF, .inl (cI, 40, .inl (aI fr3))), (xK, .inl (cI, 40, .inl (aI (uI kp5 i5 (cr3 i5))))), (xl, .inl (cI, 16, .inl (aI lk)))]) jS hK hP hD hS 3 rfl (by omega) dX8_grow_166 rfl (fun jH jL hP hD hS => ?_)
                              refine x_iinc (lv' := [(8, .int (iI (i5 + 1))), (7, .int (iI by_)), (6, .int (iI er)), (5, .int (iI n)), (4, .int (iI m)), (3, .int (iI f)), (0, .ref mo), (1, .int (iI mn)), (2, .int (iI mt))]) jS dX8_grow_167 hl 0 rfl rfl rfl (fun ls hl => ?_)
                              refine x_goto jS 146 dX8_grow_170 (by decide) ?_
                              exact ih146 _ (by omega) (i5 + 1) (uI kp5 i5 (cr3 i5)) _ _ rfl (by omega) (fun j x y => by rcases Int.lt_or_le j i5 with q | q; rw [uI_n (by omega)]; exact h5 j x q; rw [show j = i5 by omega, uI_s]) hP hD hS ls (lv_sub hl [0, 1, 2, 3, 4, 5, 6, 7, 8] rfl)
                        exact loop_146 _ 0 kp3 _ _ rfl (by omega) (fun j x y => by omega) hP hD hS ls (lv_sub hl [0, 1, 2, 3, 4, 5, 6, 7, 8] rfl)
                      · skip
                        have hnx : mgR (bmS P lk n (bm P lk n.toNat)) cr3 fr3 L1 f (m + 1) := by
                          rw [bmS_0 (hE.symm.trans hc119)]; exact ⟨hR.1, hR.2.1, by rw [← hR.2.2.1], hR.2.2.2⟩
                        refine x_iinc (lv' := [(4, .int (iI (m + 1))), (7, .int (iI k)), (6, .int (iI er)), (5, .int (iI n)), (3, .int (iI f)), (0, .ref mo), (1, .int (iI mn)), (2, .int (iI mt))]) jS dX8_grow_122 hl 3 rfl rfl rfl (fun ls hl => ?_)
                        refine x_goto jS 299 dX8_grow_125 (by decide) ?_
                        refine x_iinc (lv' := [(5, .int (iI (n + 1))), (4, .int (iI (m + 1))), (7, .int (iI k)), (6, .int (iI er)), (3, .int (iI f)), (0, .ref mo), (1, .int (iI mn)), (2, .int (iI mt))]) jS dX8_grow_299 hl 3 rfl rfl rfl (fun ls hl => ?_)
                        refine x_goto jS 54 dX8_grow_302 (by decide) ?_
                        exact ih54 _ (by omega) f (m + 1) (n + 1) L1 cr3 fr3 kp3 _ _ rfl (by omega) (mg_next hn.1 hnx) hP hD hS ls (lv_sub hl [0, 1, 4, 5, 6, 7] rfl)
                    · skip
                      refine x_il jS dX8_grow_83 hl 1 rfl ?_
                      refine x_aln jS dX8_grow_85 rfl hl 5 rfl ?_
                      refine x_get jS hK hP h_X8_grow_X8 0 rfl rfl 15 rfl m_X8_grow_1 rfl dX8_grow_86 ?_
                      refine x_il jS dX8_grow_89 hl 0 rfl ?_
                      refine x_iald jS hK hP 1 rfl (by omega) dX8_grow_91 ?_
                      have hb91 := hcb k (by omega) (by omega)
                      refine x_aln jS dX8_grow_92 rfl hl 5 rfl ?_
                      refine x_get jS hK hP h_X8_grow_X8 0 rfl rfl 13 rfl m_X8_grow_4 rfl dX8_grow_93 ?_
                      refine x_il jS dX8_grow_96 hl 2 rfl ?_
                      refine x_il jS dX8_grow_98 hl 0 rfl ?_
                      refine x_isub jS dX8_grow_100 ?_
                      refine x_iald jS hK hP 4 rfl (by omega) dX8_grow_101 ?_
                      have hb101 := hlk (n - k) (by omega) (by omega)
                      refine x_imulB jS dX8_grow_102 (by omega) (fun hp102 => ?_)
                      refine x_iadd jS dX8_grow_103 ?_
                      refine x_aln jS dX8_grow_104 rfl hl 5 rfl ?_
                      refine x_get jS hK hP h_X8_grow_X8 0 rfl rfl 0 rfl m_X8_grow_5 rfl dX8_grow_105 ?_
                      refine x_irem jS dX8_grow_108 (by omega) (fun hm108 => ?_)
                      refine x_is (lv' := [(6, .int (iI ((er + ((cr3 k) * (lk (n - k)))) % P))), (7, .int (iI k)), (5, .int (iI n)), (4, .int (iI m)), (3, .int (iI f)), (0, .ref mo), (1, .int (iI mn)), (2, .int (iI mt))]) jS dX8_grow_109 hl rfl rfl (fun ls hl => ?_)
                      refine x_iinc (lv' := [(7, .int (iI (k + 1))), (6, .int (iI ((er + ((cr3 k) * (lk (n - k)))) % P))), (5, .int (iI n)), (4, .int (iI m)), (3, .int (iI f)), (0, .ref mo), (1, .int (iI mn)), (2, .int (iI mt))]) jS dX8_grow_111 hl 1 rfl rfl rfl (fun ls hl => ?_)
                      refine x_goto jS 74 dX8_grow_114 (by decide) ?_
                      exact ih74 _ (by omega) ((er + ((cr3 k) * (lk (n - k)))) % P) (k + 1) _ _ rfl (by omega) (by rw [her, sm_s _ hk.1]; exact cg_add (cg_m _ _) rfl) (by omega) hP hD hS ls (lv_sub hl [0, 1, 2, 3, 4, 5, 6, 7] rfl)
                exact loop_74 _ 0 0 _ _ rfl (by omega) (by rw [sm_0]; rfl) (by omega) hP hD hS ls (lv_sub hl [0, 1, 2, 3, 4, 5, 6, 7] rfl)
        exact loop_54 _ 1 1 0 0 cr1 fr1 kp _ _ rfl (by omega) (⟨rfl, rfl, rfl, fun j x y => h1 j x (by omega)⟩) hP hD hS ls (lv_sub hl [0, 1, 2, 3, 4, 5] rfl)
      · skip
        refine x_aln jS dX8_grow_8 rfl hl 1 rfl ?_
        refine x_get jS hK hP h_X8_grow_X8 0 rfl rfl 15 rfl m_X8_grow_1 rfl dX8_grow_9 ?_
        refine x_iln jS dX8_grow_12 rfl hl 0 rfl ?_
        refine x_iln jS dX8_grow_13 rfl hl 0 rfl ?_
        refine x_ifne jS 21 dX8_grow_14 (by decide) (by omega) (fun hc14 => ?_) (fun hc14 => ?_)
        · skip
          refine x_ic jS dX8_grow_21 ?_
          refine x_iast (ws' := [(mo, .inr (8, [.int (iI P), .int (iI sh), .int (iI sc), .ref xk, .ref xt, .ref xc, .ref xx, .ref xy, .ref xz, .int (iI cnt), .ref xr, .int (iI ak), .long tr, .ref xl, .int (iI L), .ref xC, .ref xF, .ref xK, .ref xn, .ref xb, .ref xw, .ref xa, .int (iI K), .ref yx, .ref yy, .ref yz, .ref yn, .ref yc, .ref yl])), (xC, .inl (cI, 40, .inl (aI (uI cr1 i 0)))), (xF, .inl (cI, 40, .inl (aI fr1))), (xK, .inl (cI, 40, .inl (aI kp))), (xl, .inl (cI, 16, .inl (aI lk)))]) jS hK hP hD hS 1 rfl (by omega) dX8_grow_22 rfl (fun jH jL hP hD hS => ?_)
          refine x_aln jS dX8_grow_23 rfl hl 1 rfl ?_
          refine x_get jS hK hP h_X8_grow_X8 0 rfl rfl 16 rfl m_X8_grow_2 rfl dX8_grow_24 ?_
          refine x_iln jS dX8_grow_27 rfl hl 0 rfl ?_
          refine x_aln jS dX8_grow_28 rfl hl 1 rfl ?_
          refine x_get jS hK hP h_X8_grow_X8 0 rfl rfl 15 rfl m_X8_grow_1 rfl dX8_grow_29 ?_
          refine x_iln jS dX8_grow_32 rfl hl 0 rfl ?_
          refine x_iald jS hK hP 1 rfl (by omega) dX8_grow_33 ?_
          refine x_iast (ws' := [(mo, .inr (8, [.int (iI P), .int (iI sh), .int (iI sc), .ref xk, .ref xt, .ref xc, .ref xx, .ref xy, .ref xz, .int (iI cnt), .ref xr, .int (iI ak), .long tr, .ref xl, .int (iI L), .ref xC, .ref xF, .ref xK, .ref xn, .ref xb, .ref xw, .ref xa, .int (iI K), .ref yx, .ref yy, .ref yz, .ref yn, .ref yc, .ref yl])), (xC, .inl (cI, 40, .inl (aI (uI cr1 i 0)))), (xF, .inl (cI, 40, .inl (aI (uI fr1 i ((uI cr1 i 0) i))))), (xK, .inl (cI, 40, .inl (aI kp))), (xl, .inl (cI, 16, .inl (aI lk)))]) jS hK hP hD hS 2 rfl (by omega) dX8_grow_34 rfl (fun jH jL hP hD hS => ?_)
          refine x_iinc (lv' := [(3, .int (iI (i + 1))), (0, .ref mo), (1, .int (iI mn)), (2, .int (iI mt))]) jS dX8_grow_35 hl 0 rfl rfl rfl (fun ls hl => ?_)
          refine x_goto jS 2 dX8_grow_38 (by decide) ?_
          exact ih2 _ (by omega) (i + 1) (uI cr1 i 0) (uI fr1 i ((uI cr1 i 0) i)) _ _ rfl (by omega) (fun j x y => by rcases Int.lt_or_le j i with q | q; rw [uI_n (by omega), uI_n (by omega)]; exact h1 j x q; rw [show j = i by omega, uI_s, uI_s]; unfold c00; first | (rw [if_pos hc14]; exact ⟨rfl, rfl⟩) | (rw [if_neg hc14]; exact ⟨rfl, rfl⟩)) hP hD hS ls (lv_sub hl [0, 1, 2, 3] rfl)
        · skip
          refine x_ic jS dX8_grow_17 ?_
          refine x_goto jS 22 dX8_grow_18 (by decide) ?_
          refine x_iast (ws' := [(mo, .inr (8, [.int (iI P), .int (iI sh), .int (iI sc), .ref xk, .ref xt, .ref xc, .ref xx, .ref xy, .ref xz, .int (iI cnt), .ref xr, .int (iI ak), .long tr, .ref xl, .int (iI L), .ref xC, .ref xF, .ref xK, .ref xn, .ref xb, .ref xw, .ref xa, .int (iI K), .ref yx, .ref yy, .ref yz, .ref yn, .ref yc, .ref yl])), (xC, .inl (cI, 40, .inl (aI (uI cr1 i 1)))), (xF, .inl (cI, 40, .inl (aI fr1))), (xK, .inl (cI, 40, .inl (aI kp))), (xl, .inl (cI, 16, .inl (aI lk)))]) jS hK hP hD hS 1 rfl (by omega) dX8_grow_22 rfl (fun jH jL hP hD hS => ?_)
          refine x_aln jS dX8_grow_23 rfl hl 1 rfl ?_
          refine x_get jS hK hP h_X8_grow_X8 0 rfl rfl 16 rfl m_X8_grow_2 rfl dX8_grow_24 ?_
          refine x_iln jS dX8_grow_27 rfl hl 0 rfl ?_
          refine x_aln jS dX8_grow_28 rfl hl 1 rfl ?_
          refine x_get jS hK hP h_X8_grow_X8 0 rfl rfl 15 rfl m_X8_grow_1 rfl dX8_grow_29 ?_
          refine x_iln jS dX8_grow_32 rfl hl 0 rfl ?_
          refine x_iald jS hK hP 1 rfl (by omega) dX8_grow_33 ?_
          refine x_iast (ws' := [(mo, .inr (8, [.int (iI P), .int (iI sh), .int (iI sc), .ref xk, .ref xt, .ref xc, .ref xx, .ref xy, .ref xz, .int (iI cnt), .ref xr, .int (iI ak), .long tr, .ref xl, .int (iI L), .ref xC, .ref xF, .ref xK, .ref xn, .ref xb, .ref xw, .ref xa, .int (iI K), .ref yx, .ref yy, .ref yz, .ref yn, .ref yc, .ref yl])), (xC, .inl (cI, 40, .inl (aI (uI cr1 i 1)))), (xF, .inl (cI, 40, .inl (aI (uI fr1 i ((uI cr1 i 1) i))))), (xK, .inl (cI, 40, .inl (aI kp))), (xl, .inl (cI, 16, .inl (aI lk)))]) jS hK hP hD hS 2 rfl (by omega) dX8_grow_34 rfl (fun jH jL hP hD hS => ?_)
          refine x_iinc (lv' := [(3, .int (iI (i + 1))), (0, .ref mo), (1, .int (iI mn)), (2, .int (iI mt))]) jS dX8_grow_35 hl 0 rfl rfl rfl (fun ls hl => ?_)
          refine x_goto jS 2 dX8_grow_38 (by decide) ?_
          exact ih2 _ (by omega) (i + 1) (uI cr1 i 1) (uI fr1 i ((uI cr1 i 1) i)) _ _ rfl (by omega) (fun j x y => by rcases Int.lt_or_le j i with q | q; rw [uI_n (by omega), uI_n (by omega)]; exact h1 j x q; rw [show j = i by omega, uI_s, uI_s]; unfold c00; first | (rw [if_pos hc14]; exact ⟨rfl, rfl⟩) | (rw [if_neg hc14]; exact ⟨rfl, rfl⟩)) hP hD hS ls (lv_sub hl [0, 1, 2, 3] rfl)
  exact loop_2 _ 0 cr fr _ _ rfl (by omega) (fun j x y => by omega) hP hD hS ls (lv_sub hl [0, 1, 2, 3] rfl)
theorem kf_X8_take : kfV yX8_take RX8 0 := by decide +kernel
theorem h_X8_register_X8 : ∀ w ∈ u_ws RX8 TX8 29, w ∈ wsX8_register := fun w h => List.mem_cons_of_mem _ (List.mem_append_right _ h)
theorem m_X8_register_1 : Cond.fieldLink RX8 83 "SealedBoxModel" "said" "I" ∈ wsX8_register := List.mem_of_getElem? (i := 1) rfl
theorem kf_X8_grow : kfV yX8_grow RX8 2 := by decide +kernel
theorem m_X8_register_2 : Cond.fieldLink RX8 120 "SealedBoxModel" "length" "I" ∈ wsX8_register := List.mem_of_getElem? (i := 2) rfl
theorem kf_X8_g : kfV yX8_g RX8 1 := by decide +kernel
abbrev rm_X8_register : Room := { frames := 2, cells := 0, slots := 0, locals := 52 }
set_option maxHeartbeats 4000000 in
set_option maxRecDepth 100000 in
theorem c_X8_register (jl : Launch) (D : va_G) (cI : ClassId) (mo xk xt xc xx xy xz xr xl xC xF xK xn xb xw xa yx yy yz yn yc yl : Nat) (P sh sc cnt ak L K : Int) (tr : Int64) (cr fr kp lk : Int → Int) (row : Int → Int) (i : Int) (sz : Nat) (hok : okP P) (hcnt : 0 ≤ cnt ∧ cnt ≤ 16) (hrow : ∀ j : Int, 0 ≤ j → j < cnt → 0 ≤ row j ∧ row j < P) (g_i : -2147483648 ≤ i ∧ i < 2147483648) : Met jl yX8_register wsX8_register rm_X8_register (xPw [.ref mo, .int (iI i)] D cI [(mo, .inr (8, [.int (iI P), .int (iI sh), .int (iI sc), .ref xk, .ref xt, .ref xc, .ref xx, .ref xy, .ref xz, .int (iI cnt), .ref xr, .int (iI ak), .long tr, .ref xl, .int (iI L), .ref xC, .ref xF, .ref xK, .ref xn, .ref xb, .ref xw, .ref xa, .int (iI K), .ref yx, .ref yy, .ref yz, .ref yn, .ref yc, .ref yl])), (xC, .inl (cI, 40, .inl (aI cr))), (xF, .inl (cI, 40, .inl (aI fr))), (xK, .inl (cI, 40, .inl (aI kp))), (xl, .inl (cI, 16, .inl (aI lk))), (xr, .inl (cI, 16, .inl (aI row)))] sz) (va_Qi (fun (r : Int32) (u : Int × (Int → Int) × (Int → Int) × (Int → Int) × (Int → Int)) => r = (iI (if i = 0 then bmL P row cnt else if 1 ≤ i ∧ i ≤ bmL P row cnt then gw P (bm P row (Int.toNat cnt)).1 i else -1)) ∧ (True)) (xB D (fun (u : Int × (Int → Int) × (Int → Int) × (Int → Int) × (Int → Int)) => [(mo, .inr (8, [.int (iI P), .int (iI sh), .int (iI sc), .ref xk, .ref xt, .ref xc, .ref xx, .ref xy, .ref xz, .int (iI cnt), .ref xr, .int (iI ak), .long tr, .ref xl, .int (iI u.1), .ref xC, .ref xF, .ref xK, .ref xn, .ref xb, .ref xw, .ref xa, .int (iI K), .ref yx, .ref yy, .ref yz, .ref yn, .ref yc, .ref yl])), (xC, .inl (cI, 40, .inl (aI u.2.1))), (xF, .inl (cI, 40, .inl (aI u.2.2.1))), (xK, .inl (cI, 40, .inl (aI u.2.2.2.1))), (xl, .inl (cI, 16, .inl (aI u.2.2.2.2))), (xr, .inl (cI, 16, .inl (aI row)))]) (va_A [(mo, .inr (8, [.int (iI P), .int (iI sh), .int (iI sc), .ref xk, .ref xt, .ref xc, .ref xx, .ref xy, .ref xz, .int (iI cnt), .ref xr, .int (iI ak), .long tr, .ref xl, .int (iI L), .ref xC, .ref xF, .ref xK, .ref xn, .ref xb, .ref xw, .ref xa, .int (iI K), .ref yx, .ref yy, .ref yz, .ref yn, .ref yc, .ref yl])), (xC, .inl (cI, 40, .inl (aI cr))), (xF, .inl (cI, 40, .inl (aI fr))), (xK, .inl (cI, 40, .inl (aI kp))), (xl, .inl (cI, 16, .inl (aI lk))), (xr, .inl (cI, 16, .inl (aI row)))] sz)) (va_A [(mo, .inr (8, [.int (iI P), .int (iI sh), .int (iI sc), .ref xk, .ref xt, .ref xc, .ref xx, .ref xy, .ref xz, .int (iI cnt), .ref xr, .int (iI ak), .long tr, .ref xl, .int (iI L), .ref xC, .ref xF, .ref xK, .ref xn, .ref xb, .ref xw, .ref xa, .int (iI K), .ref yx, .ref yy, .ref yz, .ref yn, .ref yc, .ref yl])), (xC, .inl (cI, 40, .inl (aI cr))), (xF, .inl (cI, 40, .inl (aI fr))), (xK, .inl (cI, 40, .inl (aI kp))), (xl, .inl (cI, 16, .inl (aI lk))), (xr, .inl (cI, 16, .inl (aI row)))] sz)) 0 0 (va_A [(mo, .inr (8, [.int (iI P), .int (iI sh), .int (iI sc), .ref xk, .ref xt, .ref xc, .ref xx, .ref xy, .ref xz, .int (iI cnt), .ref xr, .int (iI ak), .long tr, .ref xl, .int (iI L), .ref xC, .ref xF, .ref xK, .ref xn, .ref xb, .ref xw, .ref xa, .int (iI K), .ref yx, .ref yy, .ref yz, .ref yn, .ref yc, .ref yl])), (xC, .inl (cI, 40, .inl (aI cr))), (xF, .inl (cI, 40, .inl (aI fr))), (xK, .inl (cI, 40, .inl (aI kp))), (xl, .inl (cI, 16, .inl (aI lk))), (xr, .inl (cI, 16, .inl (aI row)))] sz) := by
  refine x_metW (own := RX8) (cc := cX8_register) (maxL := 2) (ret := (some .int)) (Qc := fun jA => va_Qi (fun (r : Int32) (u : Int × (Int → Int) × (Int → Int) × (Int → Int) × (Int → Int)) => r = (iI (if i = 0 then bmL P row cnt else if 1 ≤ i ∧ i ≤ bmL P row cnt then gw P (bm P row (Int.toNat cnt)).1 i else -1)) ∧ (True)) (xB D (fun (u : Int × (Int → Int) × (Int → Int) × (Int → Int) × (Int → Int)) => [(mo, .inr (8, [.int (iI P), .int (iI sh), .int (iI sc), .ref xk, .ref xt, .ref xc, .ref xx, .ref xy, .ref xz, .int (iI cnt), .ref xr, .int (iI ak), .long tr, .ref xl, .int (iI u.1), .ref xC, .ref xF, .ref xK, .ref xn, .ref xb, .ref xw, .ref xa, .int (iI K), .ref yx, .ref yy, .ref yz, .ref yn, .ref yc, .ref yl])), (xC, .inl (cI, 40, .inl (aI u.2.1))), (xF, .inl (cI, 40, .inl (aI u.2.2.1))), (xK, .inl (cI, 40, .inl (aI u.2.2.2.1))), (xl, .inl (cI, 16, .inl (aI u.2.2.2.2))), (xr, .inl (cI, 16, .inl (aI row)))]) jA) jA) (by decide) rfl rfl rfl ?_
  intro jp je js jm ja jb jt jc jA jQ jS jr jk jn jq hK hP hD hA hS ls hl
  have hl : lv_has ls 2 [(0, .ref mo), (1, .int (iI i))] := hl
  have hok5 := hok.1
  have hok9 := hok.2.1
  have hP2 : 2 ≤ P := by omega
  refine x_aln jS dX8_register_0 rfl hl 0 rfl ?_
  refine x_aV (wc := [(mo, .inr (8, [.int (iI P), .int (iI sh), .int (iI sc), .ref xk, .ref xt, .ref xc, .ref xx, .ref xy, .ref xz, .int (iI cnt), .ref xr, .int (iI ak), .long tr, .ref xl, .int (iI L), .ref xC, .ref xF, .ref xK, .ref xn, .ref xb, .ref xw, .ref xa, .int (iI K), .ref yx, .ref yy, .ref yz, .ref yn, .ref yc, .ref yl])), (xl, .inl (cI, 16, .inl (aI lk))), (xr, .inl (cI, 16, .inl (aI row)))]) (wr := [(xC, .inl (cI, 40, .inl (aI cr))), (xF, .inl (cI, 40, .inl (aI fr))), (xK, .inl (cI, 40, .inl (aI kp)))]) hP hD hS hA [0, 4, 5] [1, 2, 3] rfl rfl (by decide) (by decide) (cs := 0) (ss := 0) rfl rfl (x_rnV (As := []) (rest := []) jS hl.1 hK (c_X8_take jl D cI mo xk xt xc xx xy xz xr xl xC xF xK xn xb xw xa yx yy yz yn yc yl P sh sc cnt ak L K tr lk row _ (by first | assumption | omega)) hP hD [0, 4, 5] rfl rfl (by decide) 0 rfl rfl gX8_register_X8_take rfl rfl rfl kf_X8_take rfl rfl rfl rfl rfl dX8_register_1 rfl rfl) (fun u jH jL hw hP hD hS => ?_)
  obtain ⟨lkt, rfl⟩ : ∃ z, z = u := ⟨_, rfl⟩
  have hwt : ∀ j : Int, 0 ≤ j → j < cnt → lkt j = row j := hw
  clear hw
  have hP : va_P D vwCl [(xC, .inl (cI, 40, .inl (aI cr))), (xF, .inl (cI, 40, .inl (aI fr))), (xK, .inl (cI, 40, .inl (aI kp))), (mo, .inr (8, [.int (iI P), .int (iI sh), .int (iI sc), .ref xk, .ref xt, .ref xc, .ref xx, .ref xy, .ref xz, .int (iI cnt), .ref xr, .int (iI ak), .long tr, .ref xl, .int (iI L), .ref xC, .ref xF, .ref xK, .ref xn, .ref xb, .ref xw, .ref xa, .int (iI K), .ref yx, .ref yy, .ref yz, .ref yn, .ref yc, .ref yl])), (xl, .inl (cI, 16, .inl (aI lkt))), (xr, .inl (cI, 16, .inl (aI row)))] jH := hP
  have hD : va_D jA [(xC, .inl (cI, 40, .inl (aI cr))), (xF, .inl (cI, 40, .inl (aI fr))), (xK, .inl (cI, 40, .inl (aI kp))), (mo, .inr (8, [.int (iI P), .int (iI sh), .int (iI sc), .ref xk, .ref xt, .ref xc, .ref xx, .ref xy, .ref xz, .int (iI cnt), .ref xr, .int (iI ak), .long tr, .ref xl, .int (iI L), .ref xC, .ref xF, .ref xK, .ref xn, .ref xb, .ref xw, .ref xa, .int (iI K), .ref yx, .ref yy, .ref yz, .ref yn, .ref yc, .ref yl])), (xl, .inl (cI, 16, .inl (aI lkt))), (xr, .inl (cI, 16, .inl (aI row)))] := hD
  refine x_aln jS dX8_register_4 rfl hl 0 rfl ?_
  refine x_aln jS dX8_register_5 rfl hl 0 rfl ?_
  refine x_get jS hK hP h_X8_register_X8 3 rfl rfl 9 rfl m_X8_register_1 rfl dX8_register_6 ?_
  refine x_bi jS dX8_register_9 (by decide) ?_
  refine x_aV (wc := [(mo, .inr (8, [.int (iI P), .int (iI sh), .int (iI sc), .ref xk, .ref xt, .ref xc, .ref xx, .ref xy, .ref xz, .int (iI cnt), .ref xr, .int (iI ak), .long tr, .ref xl, .int (iI L), .ref xC, .ref xF, .ref xK, .ref xn, .ref xb, .ref xw, .ref xa, .int (iI K), .ref yx, .ref yy, .ref yz, .ref yn, .ref yc, .ref yl])), (xC, .inl (cI, 40, .inl (aI cr))), (xF, .inl (cI, 40, .inl (aI fr))), (xK, .inl (cI, 40, .inl (aI kp))), (xl, .inl (cI, 16, .inl (aI lkt)))]) (wr := [(xr, .inl (cI, 16, .inl (aI row)))]) hP hD hS hA [3, 0, 1, 2, 4] [5] rfl rfl (by decide) (by decide) (cs := 0) (ss := 0) rfl rfl (x_rnV (As := [.int (iI cnt), .int (iI 16)]) (rest := []) jS hl.1 hK (c_X8_grow jl D cI mo xk xt xc xx xy xz xr xl xC xF xK xn xb xw xa yx yy yz yn yc yl P sh sc cnt ak L K tr cr fr kp lkt cnt 16 _ (by first | assumption | omega) (by first | assumption | omega) (by first | assumption | omega) (fun j x y => by rw [hwt j x y]; exact hrow j x y)) hP hD [3, 0, 1, 2, 4] rfl rfl (by decide) 0 rfl rfl gX8_register_X8_grow rfl rfl rfl kf_X8_grow rfl rfl rfl rfl rfl dX8_register_11 rfl rfl) (fun u jH jL hw hP hD hS => ?_)
  obtain ⟨nn, Lr, crr, fr2_1, kp2_2⟩ := u
  have hwg : (0 ≤ nn ∧ nn ≤ cnt) ∧ Lr = bmL P lkt nn ∧ (∀ j : Int, 0 ≤ j → j < 40 → crr j = (bm P lkt (Int.toNat nn)).1 j) ∧ (nn = cnt ∨ 16 < Lr) := hw
  clear hw
  have hP : va_P D vwCl [(xr, .inl (cI, 16, .inl (aI row))), (mo, .inr (8, [.int (iI P), .int (iI sh), .int (iI sc), .ref xk, .ref xt, .ref xc, .ref xx, .ref xy, .ref xz, .int (iI cnt), .ref xr, .int (iI ak), .long tr, .ref xl, .int (iI Lr), .ref xC, .ref xF, .ref xK, .ref xn, .ref xb, .ref xw, .ref xa, .int (iI K), .ref yx, .ref yy, .ref yz, .ref yn, .ref yc, .ref yl])), (xC, .inl (cI, 40, .inl (aI crr))), (xF, .inl (cI, 40, .inl (aI fr2_1))), (xK, .inl (cI, 40, .inl (aI kp2_2))), (xl, .inl (cI, 16, .inl (aI lkt)))] jH := hP
  have hD : va_D jA [(xr, .inl (cI, 16, .inl (aI row))), (mo, .inr (8, [.int (iI P), .int (iI sh), .int (iI sc), .ref xk, .ref xt, .ref xc, .ref xx, .ref xy, .ref xz, .int (iI cnt), .ref xr, .int (iI ak), .long tr, .ref xl, .int (iI Lr), .ref xC, .ref xF, .ref xK, .ref xn, .ref xb, .ref xw, .ref xa, .int (iI K), .ref yx, .ref yy, .ref yz, .ref yn, .ref yc, .ref yl])), (xC, .inl (cI, 40, .inl (aI crr))), (xF, .inl (cI, 40, .inl (aI fr2_1))), (xK, .inl (cI, 40, .inl (aI kp2_2))), (xl, .inl (cI, 16, .inl (aI lkt)))] := hD
  have hLin := bmL_in hP2 lkt hwg.1.1
  have hnn : nn = cnt := by rcases hwg.2.2.2 with q | q; exact q; omega
  have hbmt : bm P lkt (Int.toNat cnt) = bm P row (Int.toNat cnt) := bm_congr hP2 (fun j x y => hwt j x (by omega))
  rw [hnn] at hwg hLin
  have hLr : Lr = bmL P row cnt := by rw [hwg.2.1]; unfold bmL; rw [hbmt]
  have hcrr : ∀ j : Int, 0 ≤ j → j < 40 → crr j = (bm P row (Int.toNat cnt)).1 j := fun j x y => by rw [hwg.2.2.1 j x y, hbmt]
  have hcrb : ∀ j : Int, 0 ≤ j → j < 40 → 0 ≤ crr j ∧ crr j < P := fun j x y => by rw [hcrr j x y]; exact (bmI_n hP2 row _).2.1 j
  refine x_iln jS dX8_register_14 rfl hl 1 rfl ?_
  refine x_ifne jS 25 dX8_register_15 (by decide) (by omega) (fun hc15 => ?_) (fun hc15 => ?_)
  · skip
    refine x_iln jS dX8_register_25 rfl hl 1 rfl ?_
    refine x_ic jS dX8_register_26 ?_
    refine x_aln jS dX8_register_27 rfl hl 0 rfl ?_
    refine x_get jS hK hP h_X8_register_X8 1 rfl rfl 14 rfl m_X8_register_2 rfl dX8_register_28 ?_
    refine x_rI (x_rmS (As := [.int (iI i), .int (iI 1), .int (iI Lr)]) (rest := []) jS hl.1 hK (c_X8_in jl D cI i 1 Lr (by first | assumption | omega) (by first | assumption | omega) (by first | assumption | omega)) (hP.sub [] rfl) gX8_register_X8_in rfl rfl rfl kf_X8_in rfl rfl rfl rfl rfl dX8_register_31 rfl rfl) ?_
    refine x_ifeqB jS 45 dX8_register_34 (by decide) (fun hc34 => ?_) (fun hc34 => ?_)
    · skip
      refine x_ic jS dX8_register_45 ?_
      exact x_iretW jS jr jk jq dX8_register_46 ⟨Lr, crr, fr2_1, kp2_2, lkt⟩ (hP.sub [1, 2, 3, 4, 5, 0] rfl) (hD.sub [1, 2, 3, 4, 5, 0] (by decide) rfl) hS (show (iI (-1)) = (iI (if i = 0 then bmL P row cnt else if 1 ≤ i ∧ i ≤ bmL P row cnt then gw P (bm P row (Int.toNat cnt)).1 i else -1)) ∧ True from ⟨by rw [if_neg hc15, if_neg (by omega)], trivial⟩)
    · skip
      refine x_aln jS dX8_register_37 rfl hl 0 rfl ?_
      refine x_iln jS dX8_register_38 rfl hl 1 rfl ?_
      have hcri := hcrb i (by omega) (by omega)
      refine x_rI (x_rmV (As := [.int (iI i)]) (rest := []) jS hl.1 hK (c_X8_g jl D cI mo xk xt xc xx xy xz xr xl xC xF xK xn xb xw xa yx yy yz yn yc yl P sh sc cnt ak Lr K tr i crr (by first | assumption | omega) (by first | assumption | omega) (by first | assumption | omega)) (hP.sub [1, 2] rfl) 0 rfl rfl gX8_register_X8_g rfl rfl rfl kf_X8_g rfl rfl rfl rfl rfl dX8_register_39 rfl rfl) ?_
      refine x_goto jS 46 dX8_register_42 (by decide) ?_
      exact x_iretW jS jr jk jq dX8_register_46 ⟨Lr, crr, fr2_1, kp2_2, lkt⟩ (hP.sub [1, 2, 3, 4, 5, 0] rfl) (hD.sub [1, 2, 3, 4, 5, 0] (by decide) rfl) hS (show (iI (gw P crr i)) = (iI (if i = 0 then bmL P row cnt else if 1 ≤ i ∧ i ≤ bmL P row cnt then gw P (bm P row (Int.toNat cnt)).1 i else -1)) ∧ True from ⟨by rw [if_neg hc15, if_pos (by omega)]; exact congrArg iI (gw_congr (hcrr i (by omega) (by omega))), trivial⟩)
  · skip
    refine x_aln jS dX8_register_18 rfl hl 0 rfl ?_
    refine x_get jS hK hP h_X8_register_X8 1 rfl rfl 14 rfl m_X8_register_2 rfl dX8_register_19 ?_
    refine x_goto jS 46 dX8_register_22 (by decide) ?_
    exact x_iretW jS jr jk jq dX8_register_46 ⟨Lr, crr, fr2_1, kp2_2, lkt⟩ (hP.sub [1, 2, 3, 4, 5, 0] rfl) (hD.sub [1, 2, 3, 4, 5, 0] (by decide) rfl) hS (show (iI Lr) = (iI (if i = 0 then bmL P row cnt else if 1 ≤ i ∧ i ≤ bmL P row cnt then gw P (bm P row (Int.toNat cnt)).1 i else -1)) ∧ True from ⟨by rw [if_pos hc15, hLr], trivial⟩)
theorem h_X8_product_X8 : ∀ w ∈ u_ws RX8 TX8 29, w ∈ wsX8_product := fun w h => List.mem_cons_of_mem _ (List.mem_append_right _ h)
theorem m_X8_product_2 : Cond.fieldLink RX8 120 "SealedBoxModel" "length" "I" ∈ wsX8_product := List.mem_of_getElem? (i := 2) rfl
theorem m_X8_product_3 : Cond.fieldLink RX8 56 "SealedBoxModel" "base" "[I" ∈ wsX8_product := List.mem_of_getElem? (i := 3) rfl
theorem m_X8_product_1 : Cond.fieldLink RX8 59 "SealedBoxModel" "wide" "[I" ∈ wsX8_product := List.mem_of_getElem? (i := 1) rfl
theorem m_X8_product_5 : Cond.fieldLink RX8 7 "SealedBoxModel" "p" "I" ∈ wsX8_product := List.mem_of_getElem? (i := 5) rfl
abbrev rm_X8_product1 : Room := { frames := 1, cells := 0, slots := 0, locals := 21 }
set_option maxHeartbeats 4000000 in
set_option maxRecDepth 100000 in
theorem c_X8_product1 (jl : Launch) (D : va_G) (cI : ClassId) (mo xk xt xc xx xy xz xr xl xC xF xK xn xb xw xa yx yy yz yn yc yl : Nat) (P sh sc cnt ak L K : Int) (tr : Int64) (cr nw bs wd SS : Int → Int) (sz : Nat) (hP5 : 5 ≤ P ∧ P ≤ 997) (hL : 1 ≤ L ∧ L ≤ 16) (hcr : ∀ j : Int, 0 ≤ j → j < 40 → 0 ≤ cr j ∧ cr j < P) (ha : ∀ j : Int, 0 ≤ j → j < L → 0 ≤ bs j ∧ bs j < P) (hbs : ∀ j : Int, 0 ≤ j → j < L → 0 ≤ bs j ∧ bs j < P) (hgo : goesOn P L (gw P cr) SS) : Met jl yX8_product wsX8_product rm_X8_product1 (xPw [.ref mo, .int (iI 1)] D cI [(mo, .inr (8, [.int (iI P), .int (iI sh), .int (iI sc), .ref xk, .ref xt, .ref xc, .ref xx, .ref xy, .ref xz, .int (iI cnt), .ref xr, .int (iI ak), .long tr, .ref xl, .int (iI L), .ref xC, .ref xF, .ref xK, .ref xn, .ref xb, .ref xw, .ref xa, .int (iI K), .ref yx, .ref yy, .ref yz, .ref yn, .ref yc, .ref yl])), (xC, .inl (cI, 40, .inl (aI cr))), (xn, .inl (cI, 16, .inl (aI nw))), (xb, .inl (cI, 16, .inl (aI bs))), (xw, .inl (cI, 40, .inl (aI wd)))] sz) (va_Qv (fun (u : (Int → Int) × (Int → Int)) => (∀ t : Int, 0 ≤ t → sm (fun i => u.1 i * SS (t + i)) L % P = sm (fun i => sm (fun j => bs i * bs j * SS (t + (i + j))) L) L % P) ∧ (∀ j : Int, 0 ≤ j → j < L → 0 ≤ u.1 j ∧ u.1 j < P)) (xB D (fun (u : (Int → Int) × (Int → Int)) => [(mo, .inr (8, [.int (iI P), .int (iI sh), .int (iI sc), .ref xk, .ref xt, .ref xc, .ref xx, .ref xy, .ref xz, .int (iI cnt), .ref xr, .int (iI ak), .long tr, .ref xl, .int (iI L), .ref xC, .ref xF, .ref xK, .ref xn, .ref xb, .ref xw, .ref xa, .int (iI K), .ref yx, .ref yy, .ref yz, .ref yn, .ref yc, .ref yl])), (xC, .inl (cI, 40, .inl (aI cr))), (xn, .inl (cI, 16, .inl (aI nw))), (xb, .inl (cI, 16, .inl (aI u.1))), (xw, .inl (cI, 40, .inl (aI u.2)))]) (va_A [(mo, .inr (8, [.int (iI P), .int (iI sh), .int (iI sc), .ref xk, .ref xt, .ref xc, .ref xx, .ref xy, .ref xz, .int (iI cnt), .ref xr, .int (iI ak), .long tr, .ref xl, .int (iI L), .ref xC, .ref xF, .ref xK, .ref xn, .ref xb, .ref xw, .ref xa, .int (iI K), .ref yx, .ref yy, .ref yz, .ref yn, .ref yc, .ref yl])), (xC, .inl (cI, 40, .inl (aI cr))), (xn, .inl (cI, 16, .inl (aI nw))), (xb, .inl (cI, 16, .inl (aI bs))), (xw, .inl (cI, 40, .inl (aI wd)))] sz)) (va_A [(mo, .inr (8, [.int (iI P), .int (iI sh), .int (iI sc), .ref xk, .ref xt, .ref xc, .ref xx, .ref xy, .ref xz, .int (iI cnt), .ref xr, .int (iI ak), .long tr, .ref xl, .int (iI L), .ref xC, .ref xF, .ref xK, .ref xn, .ref xb, .ref xw, .ref xa, .int (iI K), .ref yx, .ref yy, .ref yz, .ref yn, .ref yc, .ref yl])), (xC, .inl (cI, 40, .inl (aI cr))), (xn, .inl (cI, 16, .inl (aI nw))), (xb, .inl (cI, 16, .inl (aI bs))), (xw, .inl (cI, 40, .inl (aI wd)))] sz)) 0 0 (va_A [(mo, .inr (8, [.int (iI P), .int (iI sh), .int (iI sc), .ref xk, .ref xt, .ref xc, .ref xx, .ref xy, .ref xz, .int (iI cnt), .ref xr, .int (iI ak), .long tr, .ref xl, .int (iI L), .ref xC, .ref xF, .ref xK, .ref xn, .ref xb, .ref xw, .ref xa, .int (iI K), .ref yx, .ref yy, .ref yz, .ref yn, .ref yc, .ref yl])), (xC, .inl (cI, 40, .inl (aI cr))), (xn, .inl (cI, 16, .inl (aI nw))), (xb, .inl (cI, 16, .inl (aI bs))), (xw, .inl (cI, 40, .inl (aI wd)))] sz) := by
  refine x_metW (own := RX8) (cc := cX8_product) (maxL := 4) (ret := none) (Qc := fun jA => va_Qv (fun (u : (Int → Int) × (Int → Int)) => (∀ t : Int, 0 ≤ t → sm (fun i => u.1 i * SS (t + i)) L % P = sm (fun i => sm (fun j => bs i * bs j * SS (t + (i + j))) L) L % P) ∧ (∀ j : Int, 0 ≤ j → j < L → 0 ≤ u.1 j ∧ u.1 j < P)) (xB D (fun (u : (Int → Int) × (Int → Int)) => [(mo, .inr (8, [.int (iI P), .int (iI sh), .int (iI sc), .ref xk, .ref xt, .ref xc, .ref xx, .ref xy, .ref xz, .int (iI cnt), .ref xr, .int (iI ak), .long tr, .ref xl, .int (iI L), .ref xC, .ref xF, .ref xK, .ref xn, .ref xb, .ref xw, .ref xa, .int (iI K), .ref yx, .ref yy, .ref yz, .ref yn, .ref yc, .ref yl])), (xC, .inl (cI, 40, .inl (aI cr))), (xn, .inl (cI, 16, .inl (aI nw))), (xb, .inl (cI, 16, .inl (aI u.1))), (xw, .inl (cI, 40, .inl (aI u.2)))]) jA) jA) (by decide) rfl rfl rfl ?_
  intro jp je js jm ja jb jt jc jA jQ jS jr jk jn jq hK hP hD hA hS ls hl
  have hl : lv_has ls 4 [(0, .ref mo), (1, .int (iI 1))] := hl
  refine x_ic jS dX8_product_0 ?_
  refine x_isn (lv' := [(2, .int (iI 0)), (0, .ref mo), (1, .int (iI 1))]) jS dX8_product_1 rfl hl rfl rfl (fun ls hl => ?_)
  have loop_2 : ∀ (mm : Nat) (i : Int) (w1 : Int → Int) (jH : Heap) (jL : List Loc), (40 - i).toNat = mm → (0 ≤ i ∧ i ≤ 40) → (∀ j : Int, 0 ≤ j → j < i → w1 j = 0) → va_P D vwCl [(mo, .inr (8, [.int (iI P), .int (iI sh), .int (iI sc), .ref xk, .ref xt, .ref xc, .ref xx, .ref xy, .ref xz, .int (iI cnt), .ref xr, .int (iI ak), .long tr, .ref xl, .int (iI L), .ref xC, .ref xF, .ref xK, .ref xn, .ref xb, .ref xw, .ref xa, .int (iI K), .ref yx, .ref yy, .ref yz, .ref yn, .ref yc, .ref yl])), (xC, .inl (cI, 40, .inl (aI cr))), (xn, .inl (cI, 16, .inl (aI nw))), (xb, .inl (cI, 16, .inl (aI bs))), (xw, .inl (cI, 40, .inl (aI w1)))] jH → va_D jA [(mo, .inr (8, [.int (iI P), .int (iI sh), .int (iI sc), .ref xk, .ref xt, .ref xc, .ref xx, .ref xy, .ref xz, .int (iI cnt), .ref xr, .int (iI ak), .long tr, .ref xl, .int (iI L), .ref xC, .ref xF, .ref xK, .ref xn, .ref xb, .ref xw, .ref xa, .int (iI K), .ref yx, .ref yy, .ref yz, .ref yn, .ref yc, .ref yl])), (xC, .inl (cI, 40, .inl (aI cr))), (xn, .inl (cI, 16, .inl (aI nw))), (xb, .inl (cI, 16, .inl (aI bs))), (xw, .inl (cI, 40, .inl (aI w1)))] → va_S jA js.heap jH jL → ∀ ls : Array Slot, lv_has ls 4 [(2, .int (iI i)), (0, .ref mo), (1, .int (iI 1))] → W jp jl je rm_X8_product1 js jm ja jb jt jc jH jL 0 0 jQ (F0 jm 2 ls []) := by
    intro mm
    induction mm using Nat.strongRecOn with
    | ind mm ih2 =>
      intro i w1 jH jL hmm2 hi h1 hP hD hS ls hl
      refine x_iln jS dX8_product_2 rfl hl 0 rfl ?_
      refine x_bi jS dX8_product_3 (by decide) ?_
      refine x_cmpge jS 21 dX8_product_5 (by decide) (by omega) (fun hc5 => ?_) (fun hc5 => ?_)
      · skip
        refine x_ic jS dX8_product_21 ?_
        refine x_isn (lv' := [(2, .int (iI 0)), (0, .ref mo), (1, .int (iI 1))]) jS dX8_product_22 rfl hl rfl rfl (fun ls hl => ?_)
        have loop_23 : ∀ (mm : Nat) (i2 : Int) (w3 : Int → Int) (jH : Heap) (jL : List Loc), (L - i2).toNat = mm → (0 ≤ i2 ∧ i2 ≤ L) → (∀ T : Int → Int, sm (fun q => w3 q * T q) 40 % P = sm (fun i => sm (fun j => bs i * bs j * T (i + j)) L)  i2 % P) → (∀ q : Int, 0 ≤ q → q < 40 → 0 ≤ w3 q ∧ w3 q < P) → (∀ q : Int, 2 * L - 1 ≤ q → q < 40 → w3 q = 0) → va_P D vwCl [(mo, .inr (8, [.int (iI P), .int (iI sh), .int (iI sc), .ref xk, .ref xt, .ref xc, .ref xx, .ref xy, .ref xz, .int (iI cnt), .ref xr, .int (iI ak), .long tr, .ref xl, .int (iI L), .ref xC, .ref xF, .ref xK, .ref xn, .ref xb, .ref xw, .ref xa, .int (iI K), .ref yx, .ref yy, .ref yz, .ref yn, .ref yc, .ref yl])), (xC, .inl (cI, 40, .inl (aI cr))), (xn, .inl (cI, 16, .inl (aI nw))), (xb, .inl (cI, 16, .inl (aI bs))), (xw, .inl (cI, 40, .inl (aI w3)))] jH → va_D jA [(mo, .inr (8, [.int (iI P), .int (iI sh), .int (iI sc), .ref xk, .ref xt, .ref xc, .ref xx, .ref xy, .ref xz, .int (iI cnt), .ref xr, .int (iI ak), .long tr, .ref xl, .int (iI L), .ref xC, .ref xF, .ref xK, .ref xn, .ref xb, .ref xw, .ref xa, .int (iI K), .ref yx, .ref yy, .ref yz, .ref yn, .ref yc, .ref yl])), (xC, .inl (cI, 40, .inl (aI cr))), (xn, .inl (cI, 16, .inl (aI nw))), (xb, .inl (cI, 16, .inl (aI bs))), (xw, .inl (cI, 40, .inl (aI w3)))] → va_S jA js.heap jH jL → ∀ ls : Array Slot, lv_has ls 4 [(2, .int (iI i2)), (0, .ref mo), (1, .int (iI 1))] → W jp jl je rm_X8_product1 js jm ja jb jt jc jH jL 0 0 jQ (F0 jm 23 ls []) := by
          intro mm
          induction mm using Nat.strongRecOn with
          | ind mm ih23 =>
            intro i2 w3 jH jL hmm23 hi2 h3 h3b h3z hP hD hS ls hl
            refine x_iln jS dX8_product_23 rfl hl 0 rfl ?_
            refine x_aln jS dX8_product_24 rfl hl 1 rfl ?_
            refine x_get jS hK hP h_X8_product_X8 0 rfl rfl 14 rfl m_X8_product_2 rfl dX8_product_25 ?_
            refine x_cmpge jS 101 dX8_product_28 (by decide) (by omega) (fun hc28 => ?_) (fun hc28 => ?_)
            · skip
              refine x_ic jS dX8_product_101 ?_
              refine x_aln jS dX8_product_102 rfl hl 1 rfl ?_
              refine x_get jS hK hP h_X8_product_X8 0 rfl rfl 14 rfl m_X8_product_2 rfl dX8_product_103 ?_
              refine x_imul jS dX8_product_106 ?_
              refine x_ic jS dX8_product_107 ?_
              refine x_isub jS dX8_product_108 ?_
              refine x_isn (lv' := [(2, .int (iI ((2 * L) - 2))), (0, .ref mo), (1, .int (iI 1))]) jS dX8_product_109 rfl hl rfl rfl (fun ls hl => ?_)
              have loop_110 : ∀ (mm : Nat) (k : Int) (w7 : Int → Int) (jH : Heap) (jL : List Loc), (k + 1).toNat = mm → (L - 1 ≤ k ∧ k ≤ 2 * L - 2) → (∀ t : Int, 0 ≤ t → sm (fun q => w7 q * SS (t + q)) (k + 1) % P = sm (fun i => sm (fun j => bs i * bs j * SS (t + (i + j))) L) L % P) → (∀ q : Int, 0 ≤ q → q < 40 → 0 ≤ w7 q ∧ w7 q < P) → va_P D vwCl [(mo, .inr (8, [.int (iI P), .int (iI sh), .int (iI sc), .ref xk, .ref xt, .ref xc, .ref xx, .ref xy, .ref xz, .int (iI cnt), .ref xr, .int (iI ak), .long tr, .ref xl, .int (iI L), .ref xC, .ref xF, .ref xK, .ref xn, .ref xb, .ref xw, .ref xa, .int (iI K), .ref yx, .ref yy, .ref yz, .ref yn, .ref yc, .ref yl])), (xC, .inl (cI, 40, .inl (aI cr))), (xn, .inl (cI, 16, .inl (aI nw))), (xb, .inl (cI, 16, .inl (aI bs))), (xw, .inl (cI, 40, .inl (aI w7)))] jH → va_D jA [(mo, .inr (8, [.int (iI P), .int (iI sh), .int (iI sc), .ref xk, .ref xt, .ref xc, .ref xx, .ref xy, .ref xz, .int (iI cnt), .ref xr, .int (iI ak), .long tr, .ref xl, .int (iI L), .ref xC, .ref xF, .ref xK, .ref xn, .ref xb, .ref xw, .ref xa, .int (iI K), .ref yx, .ref yy, .ref yz, .ref yn, .ref yc, .ref yl])), (xC, .inl (cI, 40, .inl (aI cr))), (xn, .inl (cI, 16, .inl (aI nw))), (xb, .inl (cI, 16, .inl (aI bs))), (xw, .inl (cI, 40, .inl (aI w7)))] → va_S jA js.heap jH jL → ∀ ls : Array Slot, lv_has ls 4 [(2, .int (iI k)), (0, .ref mo), (1, .int (iI 1))] → W jp jl je rm_X8_product1 js jm ja jb jt jc jH jL 0 0 jQ (F0 jm 110 ls []) := by
                intro mm
                induction mm using Nat.strongRecOn with
                | ind mm ih110 =>
                  intro k w7 jH jL hmm110 hk h7 h7b hP hD hS ls hl
                  refine x_iln jS dX8_product_110 rfl hl 0 rfl ?_
                  refine x_aln jS dX8_product_111 rfl hl 1 rfl ?_
                  refine x_get jS hK hP h_X8_product_X8 0 rfl rfl 14 rfl m_X8_product_2 rfl dX8_product_112 ?_
                  refine x_cmplt jS 181 dX8_product_115 (by decide) (by omega) (fun hc115 => ?_) (fun hc115 => ?_)
                  · skip
                    refine x_ic jS dX8_product_181 ?_
                    refine x_isn (lv' := [(2, .int (iI 0)), (0, .ref mo), (1, .int (iI 1))]) jS dX8_product_182 rfl hl rfl rfl (fun ls hl => ?_)
                    have loop_183 : ∀ (mm : Nat) (i8 : Int) (x8 : Int → Int) (jH : Heap) (jL : List Loc), (L - i8).toNat = mm → (0 ≤ i8 ∧ i8 ≤ L) → (∀ j : Int, 0 ≤ j → j < i8 → x8 j = w7 j) → va_P D vwCl [(mo, .inr (8, [.int (iI P), .int (iI sh), .int (iI sc), .ref xk, .ref xt, .ref xc, .ref xx, .ref xy, .ref xz, .int (iI cnt), .ref xr, .int (iI ak), .long tr, .ref xl, .int (iI L), .ref xC, .ref xF, .ref xK, .ref xn, .ref xb, .ref xw, .ref xa, .int (iI K), .ref yx, .ref yy, .ref yz, .ref yn, .ref yc, .ref yl])), (xC, .inl (cI, 40, .inl (aI cr))), (xn, .inl (cI, 16, .inl (aI nw))), (xb, .inl (cI, 16, .inl (aI x8))), (xw, .inl (cI, 40, .inl (aI w7)))] jH → va_D jA [(mo, .inr (8, [.int (iI P), .int (iI sh), .int (iI sc), .ref xk, .ref xt, .ref xc, .ref xx, .ref xy, .ref xz, .int (iI cnt), .ref xr, .int (iI ak), .long tr, .ref xl, .int (iI L), .ref xC, .ref xF, .ref xK, .ref xn, .ref xb, .ref xw, .ref xa, .int (iI K), .ref yx, .ref yy, .ref yz, .ref yn, .ref yc, .ref yl])), (xC, .inl (cI, 40, .inl (aI cr))), (xn, .inl (cI, 16, .inl (aI nw))), (xb, .inl (cI, 16, .inl (aI x8))), (xw, .inl (cI, 40, .inl (aI w7)))] → va_S jA js.heap jH jL → ∀ ls : Array Slot, lv_has ls 4 [(2, .int (iI i8)), (0, .ref mo), (1, .int (iI 1))] → W jp jl je rm_X8_product1 js jm ja jb jt jc jH jL 0 0 jQ (F0 jm 183 ls []) := by
                      intro mm
                      induction mm using Nat.strongRecOn with
                      | ind mm ih183 =>
                        intro i8 x8 jH jL hmm183 hi8 h8 hP hD hS ls hl
                        refine x_iln jS dX8_product_183 rfl hl 0 rfl ?_
                        refine x_aln jS dX8_product_184 rfl hl 1 rfl ?_
                        refine x_get jS hK hP h_X8_product_X8 0 rfl rfl 14 rfl m_X8_product_2 rfl dX8_product_185 ?_
                        refine x_cmpge jS 228 dX8_product_188 (by decide) (by omega) (fun hc188 => ?_) (fun hc188 => ?_)
                        · skip
                          exact x_vretW jS jr jk jq dX8_product_228 ⟨x8, w7⟩ hP hD hS (show (∀ t : Int, 0 ≤ t → sm (fun i => x8 i * SS (t + i)) L % P = sm (fun i => sm (fun j => bs i * bs j * SS (t + (i + j))) L) L % P) ∧ (∀ j : Int, 0 ≤ j → j < L → 0 ≤ x8 j ∧ x8 j < P) from ⟨fun t x => by rw [← h7 t x, show k + 1 = L by omega]; congr 1; exact sm_congr (fun q y z => by rw [h8 q y (by omega)]), fun j x y => by rw [h8 j x (by omega)]; exact h7b j x (by omega)⟩)
                        · skip
                          refine x_iln jS dX8_product_191 rfl hl 2 rfl ?_
                          refine x_ifeq jS 210 dX8_product_192 (by decide) (by omega) (fun hc192 => ?_) (fun hc192 => ?_)
                          · exfalso; omega
                          refine x_aln jS dX8_product_195 rfl hl 1 rfl ?_
                          refine x_get jS hK hP h_X8_product_X8 0 rfl rfl 19 rfl m_X8_product_3 rfl dX8_product_196 ?_
                          refine x_iln jS dX8_product_199 rfl hl 0 rfl ?_
                          refine x_aln jS dX8_product_200 rfl hl 1 rfl ?_
                          refine x_get jS hK hP h_X8_product_X8 0 rfl rfl 20 rfl m_X8_product_1 rfl dX8_product_201 ?_
                          refine x_iln jS dX8_product_204 rfl hl 0 rfl ?_
                          refine x_iald jS hK hP 4 rfl (by omega) dX8_product_205 ?_
                          refine x_iast (ws' := [(mo, .inr (8, [.int (iI P), .int (iI sh), .int (iI sc), .ref xk, .ref xt, .ref xc, .ref xx, .ref xy, .ref xz, .int (iI cnt), .ref xr, .int (iI ak), .long tr, .ref xl, .int (iI L), .ref xC, .ref xF, .ref xK, .ref xn, .ref xb, .ref xw, .ref xa, .int (iI K), .ref yx, .ref yy, .ref yz, .ref yn, .ref yc, .ref yl])), (xC, .inl (cI, 40, .inl (aI cr))), (xn, .inl (cI, 16, .inl (aI nw))), (xb, .inl (cI, 16, .inl (aI (uI x8 i8 (w7 i8))))), (xw, .inl (cI, 40, .inl (aI w7)))]) jS hK hP hD hS 3 rfl (by omega) dX8_product_206 rfl (fun jH jL hP hD hS => ?_)
                          refine x_goto jS 222 dX8_product_207 (by decide) ?_
                          refine x_iinc (lv' := [(2, .int (iI (i8 + 1))), (0, .ref mo), (1, .int (iI 1))]) jS dX8_product_222 hl 0 rfl rfl rfl (fun ls hl => ?_)
                          refine x_goto jS 183 dX8_product_225 (by decide) ?_
                          exact ih183 _ (by omega) (i8 + 1) (uI x8 i8 (w7 i8)) _ _ rfl (by omega) (fun j x y => by rcases Int.lt_or_le j i8 with q | q; rw [uI_n (by omega)]; exact h8 j x q; rw [show j = i8 by omega, uI_s]) hP hD hS ls (lv_sub hl [0, 1, 2] rfl)
                    exact loop_183 _ 0 bs _ _ rfl (by omega) (fun j x y => by omega) hP hD hS ls (lv_sub hl [0, 1, 2] rfl)
                  · skip
                    refine x_ic jS dX8_product_118 ?_
                    refine x_isn (lv' := [(3, .int (iI 1)), (2, .int (iI k)), (0, .ref mo), (1, .int (iI 1))]) jS dX8_product_119 rfl hl rfl rfl (fun ls hl => ?_)
                    have loop_120 : ∀ (mm : Nat) (u : Int) (w9 : Int → Int) (jH : Heap) (jL : List Loc), (L + 1 - u).toNat = mm → (1 ≤ u ∧ u ≤ L + 1) → (∀ T : Int → Int, sm (fun q => w9 q * T q) k % P = (sm (fun q => w7 q * T q) k + w7 k * sm (fun v => gw P cr (v + 1) * T (k - 1 - v)) (u - 1)) % P) → (∀ q : Int, 0 ≤ q → q < 40 → 0 ≤ w9 q ∧ w9 q < P) → (w9 k = w7 k) → va_P D vwCl [(mo, .inr (8, [.int (iI P), .int (iI sh), .int (iI sc), .ref xk, .ref xt, .ref xc, .ref xx, .ref xy, .ref xz, .int (iI cnt), .ref xr, .int (iI ak), .long tr, .ref xl, .int (iI L), .ref xC, .ref xF, .ref xK, .ref xn, .ref xb, .ref xw, .ref xa, .int (iI K), .ref yx, .ref yy, .ref yz, .ref yn, .ref yc, .ref yl])), (xC, .inl (cI, 40, .inl (aI cr))), (xn, .inl (cI, 16, .inl (aI nw))), (xb, .inl (cI, 16, .inl (aI bs))), (xw, .inl (cI, 40, .inl (aI w9)))] jH → va_D jA [(mo, .inr (8, [.int (iI P), .int (iI sh), .int (iI sc), .ref xk, .ref xt, .ref xc, .ref xx, .ref xy, .ref xz, .int (iI cnt), .ref xr, .int (iI ak), .long tr, .ref xl, .int (iI L), .ref xC, .ref xF, .ref xK, .ref xn, .ref xb, .ref xw, .ref xa, .int (iI K), .ref yx, .ref yy, .ref yz, .ref yn, .ref yc, .ref yl])), (xC, .inl (cI, 40, .inl (aI cr))), (xn, .inl (cI, 16, .inl (aI nw))), (xb, .inl (cI, 16, .inl (aI bs))), (xw, .inl (cI, 40, .inl (aI w9)))] → va_S jA js.heap jH jL → ∀ ls : Array Slot, lv_has ls 4 [(3, .int (iI u)), (2, .int (iI k)), (0, .ref mo), (1, .int (iI 1))] → W jp jl je rm_X8_product1 js jm ja jb jt jc jH jL 0 0 jQ (F0 jm 120 ls []) := by
                      intro mm
                      induction mm using Nat.strongRecOn with
                      | ind mm ih120 =>
                        intro u w9 jH jL hmm120 hu h9 h9b h9k hP hD hS ls hl
                        refine x_iln jS dX8_product_120 rfl hl 0 rfl ?_
                        refine x_aln jS dX8_product_121 rfl hl 2 rfl ?_
                        refine x_get jS hK hP h_X8_product_X8 0 rfl rfl 14 rfl m_X8_product_2 rfl dX8_product_122 ?_
                        refine x_cmpgt jS 168 dX8_product_125 (by decide) (by omega) (fun hc125 => ?_) (fun hc125 => ?_)
                        · skip
                          refine x_aln jS dX8_product_168 rfl hl 2 rfl ?_
                          refine x_get jS hK hP h_X8_product_X8 0 rfl rfl 20 rfl m_X8_product_1 rfl dX8_product_169 ?_
                          refine x_iln jS dX8_product_172 rfl hl 1 rfl ?_
                          refine x_ic jS dX8_product_173 ?_
                          refine x_iast (ws' := [(mo, .inr (8, [.int (iI P), .int (iI sh), .int (iI sc), .ref xk, .ref xt, .ref xc, .ref xx, .ref xy, .ref xz, .int (iI cnt), .ref xr, .int (iI ak), .long tr, .ref xl, .int (iI L), .ref xC, .ref xF, .ref xK, .ref xn, .ref xb, .ref xw, .ref xa, .int (iI K), .ref yx, .ref yy, .ref yz, .ref yn, .ref yc, .ref yl])), (xC, .inl (cI, 40, .inl (aI cr))), (xn, .inl (cI, 16, .inl (aI nw))), (xb, .inl (cI, 16, .inl (aI bs))), (xw, .inl (cI, 40, .inl (aI (uI w9 k 0))))]) jS hK hP hD hS 4 rfl (by omega) dX8_product_174 rfl (fun jH jL hP hD hS => ?_)
                          refine x_iinc (lv' := [(2, .int (iI (k + (-1)))), (3, .int (iI u)), (0, .ref mo), (1, .int (iI 1))]) jS dX8_product_175 hl 1 rfl rfl rfl (fun ls hl => ?_)
                          refine x_goto jS 110 dX8_product_178 (by decide) ?_
                          exact ih110 _ (by omega) (k + (-1)) (uI w9 k 0) _ _ rfl (by omega) (fun t x => by rw [show k + -1 + 1 = k by omega, ← h7 t x, sm_s _ (show 0 ≤ k by omega), ← far_step2 hgo (show L ≤ t + k by omega) (by omega)]; have e := h9 (fun q => SS (t + q)); rw [show u - 1 = L by omega] at e; rw [← e]; congr 1; exact sm_congr (fun q y z => by rw [uI_n (by omega)])) (fun q x y => by by_cases e : q = k; rw [e, uI_s]; omega; rw [uI_n e]; exact h9b q x y) hP hD hS ls (lv_sub hl [0, 2, 3] rfl)
                        · skip
                          refine x_aln jS dX8_product_128 rfl hl 2 rfl ?_
                          refine x_get jS hK hP h_X8_product_X8 0 rfl rfl 20 rfl m_X8_product_1 rfl dX8_product_129 ?_
                          refine x_iln jS dX8_product_132 rfl hl 1 rfl ?_
                          refine x_iln jS dX8_product_133 rfl hl 0 rfl ?_
                          refine x_isub jS dX8_product_134 ?_
                          refine x_aln jS dX8_product_135 rfl hl 2 rfl ?_
                          refine x_get jS hK hP h_X8_product_X8 0 rfl rfl 20 rfl m_X8_product_1 rfl dX8_product_136 ?_
                          refine x_iln jS dX8_product_139 rfl hl 1 rfl ?_
                          refine x_iln jS dX8_product_140 rfl hl 0 rfl ?_
                          refine x_isub jS dX8_product_141 ?_
                          refine x_iald jS hK hP 4 rfl (by omega) dX8_product_142 ?_
                          have hb142 := h9b (k - u) (by omega) (by omega)
                          refine x_aln jS dX8_product_143 rfl hl 2 rfl ?_
                          refine x_get jS hK hP h_X8_product_X8 0 rfl rfl 20 rfl m_X8_product_1 rfl dX8_product_144 ?_
                          refine x_iln jS dX8_product_147 rfl hl 1 rfl ?_
                          refine x_iald jS hK hP 4 rfl (by omega) dX8_product_148 ?_
                          have hb148 := h9b k (by omega) (by omega)
                          refine x_aln jS dX8_product_149 rfl hl 2 rfl ?_
                          refine x_iln jS dX8_product_150 rfl hl 0 rfl ?_
                          have hcu := hcr u (by omega) (by omega)
                          have hgu := gw_in (show 0 < P by omega) cr u
                          refine x_rI (x_rmV (As := [.int (iI u)]) (rest := [.int (iI (w9 k)), .int (iI (w9 (k - u))), .int (iI (k - u)), .ref xw]) jS hl.1 hK (c_X8_g jl D cI mo xk xt xc xx xy xz xr xl xC xF xK xn xb xw xa yx yy yz yn yc yl P sh sc cnt ak L K tr u cr (by first | assumption | omega) (by first | assumption | omega) (by first | assumption | omega)) (hP.sub [0, 1] rfl) 0 rfl rfl gX8_product_X8_g rfl rfl rfl kf_X8_g rfl rfl rfl rfl rfl dX8_product_151 rfl rfl) ?_
                          refine x_imulB jS dX8_product_154 (by omega) (fun hp154 => ?_)
                          refine x_iadd jS dX8_product_155 ?_
                          refine x_aln jS dX8_product_156 rfl hl 2 rfl ?_
                          refine x_get jS hK hP h_X8_product_X8 0 rfl rfl 0 rfl m_X8_product_5 rfl dX8_product_157 ?_
                          refine x_irem jS dX8_product_160 (by omega) (fun hm160 => ?_)
                          refine x_iast (ws' := [(mo, .inr (8, [.int (iI P), .int (iI sh), .int (iI sc), .ref xk, .ref xt, .ref xc, .ref xx, .ref xy, .ref xz, .int (iI cnt), .ref xr, .int (iI ak), .long tr, .ref xl, .int (iI L), .ref xC, .ref xF, .ref xK, .ref xn, .ref xb, .ref xw, .ref xa, .int (iI K), .ref yx, .ref yy, .ref yz, .ref yn, .ref yc, .ref yl])), (xC, .inl (cI, 40, .inl (aI cr))), (xn, .inl (cI, 16, .inl (aI nw))), (xb, .inl (cI, 16, .inl (aI bs))), (xw, .inl (cI, 40, .inl (aI (uI w9 (k - u) (((w9 (k - u)) + ((w9 k) * (gw P cr u))) % P)))))]) jS hK hP hD hS 4 rfl (by omega) dX8_product_161 rfl (fun jH jL hP hD hS => ?_)
                          refine x_iinc (lv' := [(3, .int (iI (u + 1))), (2, .int (iI k)), (0, .ref mo), (1, .int (iI 1))]) jS dX8_product_162 hl 0 rfl rfl rfl (fun ls hl => ?_)
                          refine x_goto jS 120 dX8_product_165 (by decide) ?_
                          exact ih120 _ (by omega) (u + 1) (uI w9 (k - u) (((w9 (k - u)) + ((w9 k) * (gw P cr u))) % P)) _ _ rfl (by omega) (fun T => by rw [sm_uI _ _ (by omega), show u + 1 - 1 = (u - 1) + 1 by omega, sm_s _ (show 0 ≤ u - 1 by omega), Int.mul_add, ← Int.add_assoc]; refine cg_add (h9 T) ?_; rw [show u - 1 + 1 = u by omega, show k - 1 - (u - 1) = k - u by omega, ← Int.mul_assoc]; refine cg_mul ?_ rfl; rw [Int.sub_emod, cg_m, ← Int.sub_emod, h9k]; congr 1; omega) (fun q x y => by by_cases e : q = k - u; rw [e, uI_s]; exact emB (by omega) _; rw [uI_n e]; exact h9b q x y) (by rw [uI_n (by omega)]; exact h9k) hP hD hS ls (lv_sub hl [0, 1, 2, 3] rfl)
                    exact loop_120 _ 1 w7 _ _ rfl (by omega) (fun T => by rw [show (1 : Int) - 1 = 0 by omega, sm_0, Int.mul_zero, Int.add_zero]) (h7b) (rfl) hP hD hS ls (lv_sub hl [0, 1, 2, 3] rfl)
              exact loop_110 _ ((2 * L) - 2) w3 _ _ rfl (by omega) (fun t x => by have e := h3 (fun q => SS (t + q)); rw [show i2 = L by omega] at e; rw [← e]; congr 1; rw [show 2 * L - 2 + 1 = 2 * L - 1 by omega]; exact (sm_cut (by omega) (by omega) (fun q y z => by rw [h3z q y z, Int.zero_mul])).symm) (h3b) hP hD hS ls (lv_sub hl [0, 1, 2] rfl)
            · skip
              refine x_ic jS dX8_product_31 ?_
              refine x_isn (lv' := [(3, .int (iI 0)), (2, .int (iI i2)), (0, .ref mo), (1, .int (iI 1))]) jS dX8_product_32 rfl hl rfl rfl (fun ls hl => ?_)
              have loop_33 : ∀ (mm : Nat) (j : Int) (w5 : Int → Int) (jH : Heap) (jL : List Loc), (L - j).toNat = mm → (0 ≤ j ∧ j ≤ L) → (∀ T : Int → Int, sm (fun q => w5 q * T q) 40 % P = (sm (fun i => sm (fun j => bs i * bs j * T (i + j)) L)  i2 + sm (fun j => bs i2 * bs j * T (i2 + j)) j) % P) → (∀ q : Int, 0 ≤ q → q < 40 → 0 ≤ w5 q ∧ w5 q < P) → (∀ q : Int, 2 * L - 1 ≤ q → q < 40 → w5 q = 0) → va_P D vwCl [(mo, .inr (8, [.int (iI P), .int (iI sh), .int (iI sc), .ref xk, .ref xt, .ref xc, .ref xx, .ref xy, .ref xz, .int (iI cnt), .ref xr, .int (iI ak), .long tr, .ref xl, .int (iI L), .ref xC, .ref xF, .ref xK, .ref xn, .ref xb, .ref xw, .ref xa, .int (iI K), .ref yx, .ref yy, .ref yz, .ref yn, .ref yc, .ref yl])), (xC, .inl (cI, 40, .inl (aI cr))), (xn, .inl (cI, 16, .inl (aI nw))), (xb, .inl (cI, 16, .inl (aI bs))), (xw, .inl (cI, 40, .inl (aI w5)))] jH → va_D jA [(mo, .inr (8, [.int (iI P), .int (iI sh), .int (iI sc), .ref xk, .ref xt, .ref xc, .ref xx, .ref xy, .ref xz, .int (iI cnt), .ref xr, .int (iI ak), .long tr, .ref xl, .int (iI L), .ref xC, .ref xF, .ref xK, .ref xn, .ref xb, .ref xw, .ref xa, .int (iI K), .ref yx, .ref yy, .ref yz, .ref yn, .ref yc, .ref yl])), (xC, .inl (cI, 40, .inl (aI cr))), (xn, .inl (cI, 16, .inl (aI nw))), (xb, .inl (cI, 16, .inl (aI bs))), (xw, .inl (cI, 40, .inl (aI w5)))] → va_S jA js.heap jH jL → ∀ ls : Array Slot, lv_has ls 4 [(3, .int (iI j)), (2, .int (iI i2)), (0, .ref mo), (1, .int (iI 1))] → W jp jl je rm_X8_product1 js jm ja jb jt jc jH jL 0 0 jQ (F0 jm 33 ls []) := by
                intro mm
                induction mm using Nat.strongRecOn with
                | ind mm ih33 =>
                  intro j w5 jH jL hmm33 hj h5 h5b h5z hP hD hS ls hl
                  refine x_iln jS dX8_product_33 rfl hl 0 rfl ?_
                  refine x_aln jS dX8_product_34 rfl hl 2 rfl ?_
                  refine x_get jS hK hP h_X8_product_X8 0 rfl rfl 14 rfl m_X8_product_2 rfl dX8_product_35 ?_
                  refine x_cmpge jS 95 dX8_product_38 (by decide) (by omega) (fun hc38 => ?_) (fun hc38 => ?_)
                  · skip
                    refine x_iinc (lv' := [(2, .int (iI (i2 + 1))), (3, .int (iI j)), (0, .ref mo), (1, .int (iI 1))]) jS dX8_product_95 hl 1 rfl rfl rfl (fun ls hl => ?_)
                    refine x_goto jS 23 dX8_product_98 (by decide) ?_
                    exact ih23 _ (by omega) (i2 + 1) w5 _ _ rfl (by omega) (fun T => by rw [h5 T, sm_s _ hi2.1, show j = L by omega]) (h5b) (h5z) hP hD hS ls (lv_sub hl [0, 2, 3] rfl)
                  · skip
                    refine x_aln jS dX8_product_41 rfl hl 2 rfl ?_
                    refine x_get jS hK hP h_X8_product_X8 0 rfl rfl 20 rfl m_X8_product_1 rfl dX8_product_42 ?_
                    refine x_iln jS dX8_product_45 rfl hl 1 rfl ?_
                    refine x_iln jS dX8_product_46 rfl hl 0 rfl ?_
                    refine x_iadd jS dX8_product_47 ?_
                    refine x_aln jS dX8_product_48 rfl hl 2 rfl ?_
                    refine x_get jS hK hP h_X8_product_X8 0 rfl rfl 20 rfl m_X8_product_1 rfl dX8_product_49 ?_
                    refine x_iln jS dX8_product_52 rfl hl 1 rfl ?_
                    refine x_iln jS dX8_product_53 rfl hl 0 rfl ?_
                    refine x_iadd jS dX8_product_54 ?_
                    refine x_iald jS hK hP 4 rfl (by omega) dX8_product_55 ?_
                    have hb55 := h5b (i2 + j) (by omega) (by omega)
                    refine x_iln jS dX8_product_56 rfl hl 3 rfl ?_
                    refine x_ifeq jS 69 dX8_product_57 (by decide) (by omega) (fun hc57 => ?_) (fun hc57 => ?_)
                    · exfalso; omega
                    refine x_aln jS dX8_product_60 rfl hl 2 rfl ?_
                    refine x_get jS hK hP h_X8_product_X8 0 rfl rfl 19 rfl m_X8_product_3 rfl dX8_product_61 ?_
                    refine x_iln jS dX8_product_64 rfl hl 1 rfl ?_
                    refine x_iald jS hK hP 3 rfl (by omega) dX8_product_65 ?_
                    have hb65 := ha i2 (by omega) (by omega)
                    refine x_goto jS 75 dX8_product_66 (by decide) ?_
                    refine x_aln jS dX8_product_75 rfl hl 2 rfl ?_
                    refine x_get jS hK hP h_X8_product_X8 0 rfl rfl 19 rfl m_X8_product_3 rfl dX8_product_76 ?_
                    refine x_iln jS dX8_product_79 rfl hl 0 rfl ?_
                    refine x_iald jS hK hP 3 rfl (by omega) dX8_product_80 ?_
                    have hb80 := hbs j (by omega) (by omega)
                    refine x_imulB jS dX8_product_81 (by omega) (fun hp81 => ?_)
                    refine x_iadd jS dX8_product_82 ?_
                    refine x_aln jS dX8_product_83 rfl hl 2 rfl ?_
                    refine x_get jS hK hP h_X8_product_X8 0 rfl rfl 0 rfl m_X8_product_5 rfl dX8_product_84 ?_
                    refine x_irem jS dX8_product_87 (by omega) (fun hm87 => ?_)
                    refine x_iast (ws' := [(mo, .inr (8, [.int (iI P), .int (iI sh), .int (iI sc), .ref xk, .ref xt, .ref xc, .ref xx, .ref xy, .ref xz, .int (iI cnt), .ref xr, .int (iI ak), .long tr, .ref xl, .int (iI L), .ref xC, .ref xF, .ref xK, .ref xn, .ref xb, .ref xw, .ref xa, .int (iI K), .ref yx, .ref yy, .ref yz, .ref yn, .ref yc, .ref yl])), (xC, .inl (cI, 40, .inl (aI cr))), (xn, .inl (cI, 16, .inl (aI nw))), (xb, .inl (cI, 16, .inl (aI bs))), (xw, .inl (cI, 40, .inl (aI (uI w5 (i2 + j) (((w5 (i2 + j)) + ((bs i2) * (bs j))) % P)))))]) jS hK hP hD hS 4 rfl (by omega) dX8_product_88 rfl (fun jH jL hP hD hS => ?_)
                    refine x_iinc (lv' := [(3, .int (iI (j + 1))), (2, .int (iI i2)), (0, .ref mo), (1, .int (iI 1))]) jS dX8_product_89 hl 0 rfl rfl rfl (fun ls hl => ?_)
                    refine x_goto jS 33 dX8_product_92 (by decide) ?_
                    exact ih33 _ (by omega) (j + 1) (uI w5 (i2 + j) (((w5 (i2 + j)) + ((bs i2) * (bs j))) % P)) _ _ rfl (by omega) (fun T => by rw [sm_uI _ _ (by omega), sm_s _ hj.1, ← Int.add_assoc]; refine cg_add (h5 T) (cg_mul ?_ rfl); rw [Int.sub_emod, cg_m, ← Int.sub_emod]; congr 1; omega) (fun q x y => by by_cases e : q = i2 + j; rw [e, uI_s]; exact emB (by omega) _; rw [uI_n e]; exact h5b q x y) (fun q x y => by rw [uI_n (by omega)]; exact h5z q x y) hP hD hS ls (lv_sub hl [0, 1, 2, 3] rfl)
              exact loop_33 _ 0 w3 _ _ rfl (by omega) (fun T => by rw [sm_0, Int.add_zero]; exact h3 T) (h3b) (h3z) hP hD hS ls (lv_sub hl [0, 1, 2, 3] rfl)
        exact loop_23 _ 0 w1 _ _ rfl (by omega) (fun T => by rw [sm_0]; congr 1; exact sm_zero (fun q x y => by rw [h1 q x (by omega), Int.zero_mul])) (fun q x y => by rw [h1 q x (by omega)]; omega) (fun q x y => h1 q (by omega) (by omega)) hP hD hS ls (lv_sub hl [0, 1, 2] rfl)
      · skip
        refine x_aln jS dX8_product_8 rfl hl 1 rfl ?_
        refine x_get jS hK hP h_X8_product_X8 0 rfl rfl 20 rfl m_X8_product_1 rfl dX8_product_9 ?_
        refine x_iln jS dX8_product_12 rfl hl 0 rfl ?_
        refine x_ic jS dX8_product_13 ?_
        refine x_iast (ws' := [(mo, .inr (8, [.int (iI P), .int (iI sh), .int (iI sc), .ref xk, .ref xt, .ref xc, .ref xx, .ref xy, .ref xz, .int (iI cnt), .ref xr, .int (iI ak), .long tr, .ref xl, .int (iI L), .ref xC, .ref xF, .ref xK, .ref xn, .ref xb, .ref xw, .ref xa, .int (iI K), .ref yx, .ref yy, .ref yz, .ref yn, .ref yc, .ref yl])), (xC, .inl (cI, 40, .inl (aI cr))), (xn, .inl (cI, 16, .inl (aI nw))), (xb, .inl (cI, 16, .inl (aI bs))), (xw, .inl (cI, 40, .inl (aI (uI w1 i 0))))]) jS hK hP hD hS 4 rfl (by omega) dX8_product_14 rfl (fun jH jL hP hD hS => ?_)
        refine x_iinc (lv' := [(2, .int (iI (i + 1))), (0, .ref mo), (1, .int (iI 1))]) jS dX8_product_15 hl 0 rfl rfl rfl (fun ls hl => ?_)
        refine x_goto jS 2 dX8_product_18 (by decide) ?_
        exact ih2 _ (by omega) (i + 1) (uI w1 i 0) _ _ rfl (by omega) (fun j x y => by rcases Int.lt_or_le j i with q | q; rw [uI_n (by omega)]; exact h1 j x q; rw [show j = i by omega, uI_s]) hP hD hS ls (lv_sub hl [0, 1, 2] rfl)
  exact loop_2 _ 0 wd _ _ rfl (by omega) (fun j x y => by omega) hP hD hS ls (lv_sub hl [0, 1, 2] rfl)
theorem m_X8_product_4 : Cond.fieldLink RX8 53 "SealedBoxModel" "now" "[I" ∈ wsX8_product := List.mem_of_getElem? (i := 4) rfl
abbrev rm_X8_product0 : Room := { frames := 1, cells := 0, slots := 0, locals := 21 }
set_option maxHeartbeats 4000000 in
set_option maxRecDepth 100000 in
theorem c_X8_product0 (jl : Launch) (D : va_G) (cI : ClassId) (mo xk xt xc xx xy xz xr xl xC xF xK xn xb xw xa yx yy yz yn yc yl : Nat) (P sh sc cnt ak L K : Int) (tr : Int64) (cr nw bs wd SS : Int → Int) (sz : Nat) (hP5 : 5 ≤ P ∧ P ≤ 997) (hL : 1 ≤ L ∧ L ≤ 16) (hcr : ∀ j : Int, 0 ≤ j → j < 40 → 0 ≤ cr j ∧ cr j < P) (ha : ∀ j : Int, 0 ≤ j → j < L → 0 ≤ nw j ∧ nw j < P) (hbs : ∀ j : Int, 0 ≤ j → j < L → 0 ≤ bs j ∧ bs j < P) (hgo : goesOn P L (gw P cr) SS) : Met jl yX8_product wsX8_product rm_X8_product0 (xPw [.ref mo, .int (iI 0)] D cI [(mo, .inr (8, [.int (iI P), .int (iI sh), .int (iI sc), .ref xk, .ref xt, .ref xc, .ref xx, .ref xy, .ref xz, .int (iI cnt), .ref xr, .int (iI ak), .long tr, .ref xl, .int (iI L), .ref xC, .ref xF, .ref xK, .ref xn, .ref xb, .ref xw, .ref xa, .int (iI K), .ref yx, .ref yy, .ref yz, .ref yn, .ref yc, .ref yl])), (xC, .inl (cI, 40, .inl (aI cr))), (xn, .inl (cI, 16, .inl (aI nw))), (xb, .inl (cI, 16, .inl (aI bs))), (xw, .inl (cI, 40, .inl (aI wd)))] sz) (va_Qv (fun (u : (Int → Int) × (Int → Int)) => (∀ t : Int, 0 ≤ t → sm (fun i => u.1 i * SS (t + i)) L % P = sm (fun i => sm (fun j => nw i * bs j * SS (t + (i + j))) L) L % P) ∧ (∀ j : Int, 0 ≤ j → j < L → 0 ≤ u.1 j ∧ u.1 j < P)) (xB D (fun (u : (Int → Int) × (Int → Int)) => [(mo, .inr (8, [.int (iI P), .int (iI sh), .int (iI sc), .ref xk, .ref xt, .ref xc, .ref xx, .ref xy, .ref xz, .int (iI cnt), .ref xr, .int (iI ak), .long tr, .ref xl, .int (iI L), .ref xC, .ref xF, .ref xK, .ref xn, .ref xb, .ref xw, .ref xa, .int (iI K), .ref yx, .ref yy, .ref yz, .ref yn, .ref yc, .ref yl])), (xC, .inl (cI, 40, .inl (aI cr))), (xn, .inl (cI, 16, .inl (aI u.1))), (xb, .inl (cI, 16, .inl (aI bs))), (xw, .inl (cI, 40, .inl (aI u.2)))]) (va_A [(mo, .inr (8, [.int (iI P), .int (iI sh), .int (iI sc), .ref xk, .ref xt, .ref xc, .ref xx, .ref xy, .ref xz, .int (iI cnt), .ref xr, .int (iI ak), .long tr, .ref xl, .int (iI L), .ref xC, .ref xF, .ref xK, .ref xn, .ref xb, .ref xw, .ref xa, .int (iI K), .ref yx, .ref yy, .ref yz, .ref yn, .ref yc, .ref yl])), (xC, .inl (cI, 40, .inl (aI cr))), (xn, .inl (cI, 16, .inl (aI nw))), (xb, .inl (cI, 16, .inl (aI bs))), (xw, .inl (cI, 40, .inl (aI wd)))] sz)) (va_A [(mo, .inr (8, [.int (iI P), .int (iI sh), .int (iI sc), .ref xk, .ref xt, .ref xc, .ref xx, .ref xy, .ref xz, .int (iI cnt), .ref xr, .int (iI ak), .long tr, .ref xl, .int (iI L), .ref xC, .ref xF, .ref xK, .ref xn, .ref xb, .ref xw, .ref xa, .int (iI K), .ref yx, .ref yy, .ref yz, .ref yn, .ref yc, .ref yl])), (xC, .inl (cI, 40, .inl (aI cr))), (xn, .inl (cI, 16, .inl (aI nw))), (xb, .inl (cI, 16, .inl (aI bs))), (xw, .inl (cI, 40, .inl (aI wd)))] sz)) 0 0 (va_A [(mo, .inr (8, [.int (iI P), .int (iI sh), .int (iI sc), .ref xk, .ref xt, .ref xc, .ref xx, .ref xy, .ref xz, .int (iI cnt), .ref xr, .int (iI ak), .long tr, .ref xl, .int (iI L), .ref xC, .ref xF, .ref xK, .ref xn, .ref xb, .ref xw, .ref xa, .int (iI K), .ref yx, .ref yy, .ref yz, .ref yn, .ref yc, .ref yl])), (xC, .inl (cI, 40, .inl (aI cr))), (xn, .inl (cI, 16, .inl (aI nw))), (xb, .inl (cI, 16, .inl (aI bs))), (xw, .inl (cI, 40, .inl (aI wd)))] sz) := by
  refine x_metW (own := RX8) (cc := cX8_product) (maxL := 4) (ret := none) (Qc := fun jA => va_Qv (fun (u : (Int → Int) × (Int → Int)) => (∀ t : Int, 0 ≤ t → sm (fun i => u.1 i * SS (t + i)) L % P = sm (fun i => sm (fun j => nw i * bs j * SS (t + (i + j))) L) L % P) ∧ (∀ j : Int, 0 ≤ j → j < L → 0 ≤ u.1 j ∧ u.1 j < P)) (xB D (fun (u : (Int → Int) × (Int → Int)) => [(mo, .inr (8, [.int (iI P), .int (iI sh), .int (iI sc), .ref xk, .ref xt, .ref xc, .ref xx, .ref xy, .ref xz, .int (iI cnt), .ref xr, .int (iI ak), .long tr, .ref xl, .int (iI L), .ref xC, .ref xF, .ref xK, .ref xn, .ref xb, .ref xw, .ref xa, .int (iI K), .ref yx, .ref yy, .ref yz, .ref yn, .ref yc, .ref yl])), (xC, .inl (cI, 40, .inl (aI cr))), (xn, .inl (cI, 16, .inl (aI u.1))), (xb, .inl (cI, 16, .inl (aI bs))), (xw, .inl (cI, 40, .inl (aI u.2)))]) jA) jA) (by decide) rfl rfl rfl ?_
  intro jp je js jm ja jb jt jc jA jQ jS jr jk jn jq hK hP hD hA hS ls hl
  have hl : lv_has ls 4 [(0, .ref mo), (1, .int (iI 0))] := hl
  refine x_ic jS dX8_product_0 ?_
  refine x_isn (lv' := [(2, .int (iI 0)), (0, .ref mo), (1, .int (iI 0))]) jS dX8_product_1 rfl hl rfl rfl (fun ls hl => ?_)
  have loop_2 : ∀ (mm : Nat) (i : Int) (w1 : Int → Int) (jH : Heap) (jL : List Loc), (40 - i).toNat = mm → (0 ≤ i ∧ i ≤ 40) → (∀ j : Int, 0 ≤ j → j < i → w1 j = 0) → va_P D vwCl [(mo, .inr (8, [.int (iI P), .int (iI sh), .int (iI sc), .ref xk, .ref xt, .ref xc, .ref xx, .ref xy, .ref xz, .int (iI cnt), .ref xr, .int (iI ak), .long tr, .ref xl, .int (iI L), .ref xC, .ref xF, .ref xK, .ref xn, .ref xb, .ref xw, .ref xa, .int (iI K), .ref yx, .ref yy, .ref yz, .ref yn, .ref yc, .ref yl])), (xC, .inl (cI, 40, .inl (aI cr))), (xn, .inl (cI, 16, .inl (aI nw))), (xb, .inl (cI, 16, .inl (aI bs))), (xw, .inl (cI, 40, .inl (aI w1)))] jH → va_D jA [(mo, .inr (8, [.int (iI P), .int (iI sh), .int (iI sc), .ref xk, .ref xt, .ref xc, .ref xx, .ref xy, .ref xz, .int (iI cnt), .ref xr, .int (iI ak), .long tr, .ref xl, .int (iI L), .ref xC, .ref xF, .ref xK, .ref xn, .ref xb, .ref xw, .ref xa, .int (iI K), .ref yx, .ref yy, .ref yz, .ref yn, .ref yc, .ref yl])), (xC, .inl (cI, 40, .inl (aI cr))), (xn, .inl (cI, 16, .inl (aI nw))), (xb, .inl (cI, 16, .inl (aI bs))), (xw, .inl (cI, 40, .inl (aI w1)))] → va_S jA js.heap jH jL → ∀ ls : Array Slot, lv_has ls 4 [(2, .int (iI i)), (0, .ref mo), (1, .int (iI 0))] → W jp jl je rm_X8_product0 js jm ja jb jt jc jH jL 0 0 jQ (F0 jm 2 ls []) := by
    intro mm
    induction mm using Nat.strongRecOn with
    | ind mm ih2 =>
      intro i w1 jH jL hmm2 hi h1 hP hD hS ls hl
      refine x_iln jS dX8_product_2 rfl hl 0 rfl ?_
      refine x_bi jS dX8_product_3 (by decide) ?_
      refine x_cmpge jS 21 dX8_product_5 (by decide) (by omega) (fun hc5 => ?_) (fun hc5 => ?_)
      · skip
        refine x_ic jS dX8_product_21 ?_
        refine x_isn (lv' := [(2, .int (iI 0)), (0, .ref mo), (1, .int (iI 0))]) jS dX8_product_22 rfl hl rfl rfl (fun ls hl => ?_)
        have loop_23 : ∀ (mm : Nat) (i2 : Int) (w3 : Int → Int) (jH : Heap) (jL : List Loc), (L - i2).toNat = mm → (0 ≤ i2 ∧ i2 ≤ L) → (∀ T : Int → Int, sm (fun q => w3 q * T q) 40 % P = sm (fun i => sm (fun j => nw i * bs j * T (i + j)) L)  i2 % P) → (∀ q : Int, 0 ≤ q → q < 40 → 0 ≤ w3 q ∧ w3 q < P) → (∀ q : Int, 2 * L - 1 ≤ q → q < 40 → w3 q = 0) → va_P D vwCl [(mo, .inr (8, [.int (iI P), .int (iI sh), .int (iI sc), .ref xk, .ref xt, .ref xc, .ref xx, .ref xy, .ref xz, .int (iI cnt), .ref xr, .int (iI ak), .long tr, .ref xl, .int (iI L), .ref xC, .ref xF, .ref xK, .ref xn, .ref xb, .ref xw, .ref xa, .int (iI K), .ref yx, .ref yy, .ref yz, .ref yn, .ref yc, .ref yl])), (xC, .inl (cI, 40, .inl (aI cr))), (xn, .inl (cI, 16, .inl (aI nw))), (xb, .inl (cI, 16, .inl (aI bs))), (xw, .inl (cI, 40, .inl (aI w3)))] jH → va_D jA [(mo, .inr (8, [.int (iI P), .int (iI sh), .int (iI sc), .ref xk, .ref xt, .ref xc, .ref xx, .ref xy, .ref xz, .int (iI cnt), .ref xr, .int (iI ak), .long tr, .ref xl, .int (iI L), .ref xC, .ref xF, .ref xK, .ref xn, .ref xb, .ref xw, .ref xa, .int (iI K), .ref yx, .ref yy, .ref yz, .ref yn, .ref yc, .ref yl])), (xC, .inl (cI, 40, .inl (aI cr))), (xn, .inl (cI, 16, .inl (aI nw))), (xb, .inl (cI, 16, .inl (aI bs))), (xw, .inl (cI, 40, .inl (aI w3)))] → va_S jA js.heap jH jL → ∀ ls : Array Slot, lv_has ls 4 [(2, .int (iI i2)), (0, .ref mo), (1, .int (iI 0))] → W jp jl je rm_X8_product0 js jm ja jb jt jc jH jL 0 0 jQ (F0 jm 23 ls []) := by
          intro mm
          induction mm using Nat.strongRecOn with
          | ind mm ih23 =>
            intro i2 w3 jH jL hmm23 hi2 h3 h3b h3z hP hD hS ls hl
            refine x_iln jS dX8_product_23 rfl hl 0 rfl ?_
            refine x_aln jS dX8_product_24 rfl hl 1 rfl ?_
            refine x_get jS hK hP h_X8_product_X8 0 rfl rfl 14 rfl m_X8_product_2 rfl dX8_product_25 ?_
            refine x_cmpge jS 101 dX8_product_28 (by decide) (by omega) (fun hc28 => ?_) (fun hc28 => ?_)
            · skip
              refine x_ic jS dX8_product_101 ?_
              refine x_aln jS dX8_product_102 rfl hl 1 rfl ?_
              refine x_get jS hK hP h_X8_product_X8 0 rfl rfl 14 rfl m_X8_product_2 rfl dX8_product_103 ?_
              refine x_imul jS dX8_product_106 ?_
              refine x_ic jS dX8_product_107 ?_
              refine x_isub jS dX8_product_108 ?_
              refine x_isn (lv' := [(2, .int (iI ((2 * L) - 2))), (0, .ref mo), (1, .int (iI 0))]) jS dX8_product_109 rfl hl rfl rfl (fun ls hl => ?_)
              have loop_110 : ∀ (mm : Nat) (k : Int) (w7 : Int → Int) (jH : Heap) (jL : List Loc), (k + 1).toNat = mm → (L - 1 ≤ k ∧ k ≤ 2 * L - 2) → (∀ t : Int, 0 ≤ t → sm (fun q => w7 q * SS (t + q)) (k + 1) % P = sm (fun i => sm (fun j => nw i * bs j * SS (t + (i + j))) L) L % P) → (∀ q : Int, 0 ≤ q → q < 40 → 0 ≤ w7 q ∧ w7 q < P) → va_P D vwCl [(mo, .inr (8, [.int (iI P), .int (iI sh), .int (iI sc), .ref xk, .ref xt, .ref xc, .ref xx, .ref xy, .ref xz, .int (iI cnt), .ref xr, .int (iI ak), .long tr, .ref xl, .int (iI L), .ref xC, .ref xF, .ref xK, .ref xn, .ref xb, .ref xw, .ref xa, .int (iI K), .ref yx, .ref yy, .ref yz, .ref yn, .ref yc, .ref yl])), (xC, .inl (cI, 40, .inl (aI cr))), (xn, .inl (cI, 16, .inl (aI nw))), (xb, .inl (cI, 16, .inl (aI bs))), (xw, .inl (cI, 40, .inl (aI w7)))] jH → va_D jA [(mo, .inr (8, [.int (iI P), .int (iI sh), .int (iI sc), .ref xk, .ref xt, .ref xc, .ref xx, .ref xy, .ref xz, .int (iI cnt), .ref xr, .int (iI ak), .long tr, .ref xl, .int (iI L), .ref xC, .ref xF, .ref xK, .ref xn, .ref xb, .ref xw, .ref xa, .int (iI K), .ref yx, .ref yy, .ref yz, .ref yn, .ref yc, .ref yl])), (xC, .inl (cI, 40, .inl (aI cr))), (xn, .inl (cI, 16, .inl (aI nw))), (xb, .inl (cI, 16, .inl (aI bs))), (xw, .inl (cI, 40, .inl (aI w7)))] → va_S jA js.heap jH jL → ∀ ls : Array Slot, lv_has ls 4 [(2, .int (iI k)), (0, .ref mo), (1, .int (iI 0))] → W jp jl je rm_X8_product0 js jm ja jb jt jc jH jL 0 0 jQ (F0 jm 110 ls []) := by
                intro mm
                induction mm using Nat.strongRecOn with
                | ind mm ih110 =>
                  intro k w7 jH jL hmm110 hk h7 h7b hP hD hS ls hl
                  refine x_iln jS dX8_product_110 rfl hl 0 rfl ?_
                  refine x_aln jS dX8_product_111 rfl hl 1 rfl ?_
                  refine x_get jS hK hP h_X8_product_X8 0 rfl rfl 14 rfl m_X8_product_2 rfl dX8_product_112 ?_
                  refine x_cmplt jS 181 dX8_product_115 (by decide) (by omega) (fun hc115 => ?_) (fun hc115 => ?_)
                  · skip
                    refine x_ic jS dX8_product_181 ?_
                    refine x_isn (lv' := [(2, .int (iI 0)), (0, .ref mo), (1, .int (iI 0))]) jS dX8_product_182 rfl hl rfl rfl (fun ls hl => ?_)
                    have loop_183 : ∀ (mm : Nat) (i8 : Int) (x8 : Int → Int) (jH : Heap) (jL : List Loc), (L - i8).toNat = mm → (0 ≤ i8 ∧ i8 ≤ L) → (∀ j : Int, 0 ≤ j → j < i8 → x8 j = w7 j) → va_P D vwCl [(mo, .inr (8, [.int (iI P), .int (iI sh), .int (iI sc), .ref xk, .ref xt, .ref xc, .ref xx, .ref xy, .ref xz, .int (iI cnt), .ref xr, .int (iI ak), .long tr, .ref xl, .int (iI L), .ref xC, .ref xF, .ref xK, .ref xn, .ref xb, .ref xw, .ref xa, .int (iI K), .ref yx, .ref yy, .ref yz, .ref yn, .ref yc, .ref yl])), (xC, .inl (cI, 40, .inl (aI cr))), (xn, .inl (cI, 16, .inl (aI x8))), (xb, .inl (cI, 16, .inl (aI bs))), (xw, .inl (cI, 40, .inl (aI w7)))] jH → va_D jA [(mo, .inr (8, [.int (iI P), .int (iI sh), .int (iI sc), .ref xk, .ref xt, .ref xc, .ref xx, .ref xy, .ref xz, .int (iI cnt), .ref xr, .int (iI ak), .long tr, .ref xl, .int (iI L), .ref xC, .ref xF, .ref xK, .ref xn, .ref xb, .ref xw, .ref xa, .int (iI K), .ref yx, .ref yy, .ref yz, .ref yn, .ref yc, .ref yl])), (xC, .inl (cI, 40, .inl (aI cr))), (xn, .inl (cI, 16, .inl (aI x8))), (xb, .inl (cI, 16, .inl (aI bs))), (xw, .inl (cI, 40, .inl (aI w7)))] → va_S jA js.heap jH jL → ∀ ls : Array Slot, lv_has ls 4 [(2, .int (iI i8)), (0, .ref mo), (1, .int (iI 0))] → W jp jl je rm_X8_product0 js jm ja jb jt jc jH jL 0 0 jQ (F0 jm 183 ls []) := by
                      intro mm
                      induction mm using Nat.strongRecOn with
                      | ind mm ih183 =>
                        intro i8 x8 jH jL hmm183 hi8 h8 hP hD hS ls hl
                        refine x_iln jS dX8_product_183 rfl hl 0 rfl ?_
                        refine x_aln jS dX8_product_184 rfl hl 1 rfl ?_
                        refine x_get jS hK hP h_X8_product_X8 0 rfl rfl 14 rfl m_X8_product_2 rfl dX8_product_185 ?_
                        refine x_cmpge jS 228 dX8_product_188 (by decide) (by omega) (fun hc188 => ?_) (fun hc188 => ?_)
                        · skip
                          exact x_vretW jS jr jk jq dX8_product_228 ⟨x8, w7⟩ hP hD hS (show (∀ t : Int, 0 ≤ t → sm (fun i => x8 i * SS (t + i)) L % P = sm (fun i => sm (fun j => nw i * bs j * SS (t + (i + j))) L) L % P) ∧ (∀ j : Int, 0 ≤ j → j < L → 0 ≤ x8 j ∧ x8 j < P) from ⟨fun t x => by rw [← h7 t x, show k + 1 = L by omega]; congr 1; exact sm_congr (fun q y z => by rw [h8 q y (by omega)]), fun j x y => by rw [h8 j x (by omega)]; exact h7b j x (by omega)⟩)
                        · skip
                          refine x_iln jS dX8_product_191 rfl hl 2 rfl ?_
                          refine x_ifeq jS 210 dX8_product_192 (by decide) (by omega) (fun hc192 => ?_) (fun hc192 => ?_)
                          rotate_left
                          · exfalso; omega
                          refine x_aln jS dX8_product_210 rfl hl 1 rfl ?_
                          refine x_get jS hK hP h_X8_product_X8 0 rfl rfl 18 rfl m_X8_product_4 rfl dX8_product_211 ?_
                          refine x_iln jS dX8_product_214 rfl hl 0 rfl ?_
                          refine x_aln jS dX8_product_215 rfl hl 1 rfl ?_
                          refine x_get jS hK hP h_X8_product_X8 0 rfl rfl 20 rfl m_X8_product_1 rfl dX8_product_216 ?_
                          refine x_iln jS dX8_product_219 rfl hl 0 rfl ?_
                          refine x_iald jS hK hP 4 rfl (by omega) dX8_product_220 ?_
                          refine x_iast (ws' := [(mo, .inr (8, [.int (iI P), .int (iI sh), .int (iI sc), .ref xk, .ref xt, .ref xc, .ref xx, .ref xy, .ref xz, .int (iI cnt), .ref xr, .int (iI ak), .long tr, .ref xl, .int (iI L), .ref xC, .ref xF, .ref xK, .ref xn, .ref xb, .ref xw, .ref xa, .int (iI K), .ref yx, .ref yy, .ref yz, .ref yn, .ref yc, .ref yl])), (xC, .inl (cI, 40, .inl (aI cr))), (xn, .inl (cI, 16, .inl (aI (uI x8 i8 (w7 i8))))), (xb, .inl (cI, 16, .inl (aI bs))), (xw, .inl (cI, 40, .inl (aI w7)))]) jS hK hP hD hS 2 rfl (by omega) dX8_product_221 rfl (fun jH jL hP hD hS => ?_)
                          refine x_iinc (lv' := [(2, .int (iI (i8 + 1))), (0, .ref mo), (1, .int (iI 0))]) jS dX8_product_222 hl 0 rfl rfl rfl (fun ls hl => ?_)
                          refine x_goto jS 183 dX8_product_225 (by decide) ?_
                          exact ih183 _ (by omega) (i8 + 1) (uI x8 i8 (w7 i8)) _ _ rfl (by omega) (fun j x y => by rcases Int.lt_or_le j i8 with q | q; rw [uI_n (by omega)]; exact h8 j x q; rw [show j = i8 by omega, uI_s]) hP hD hS ls (lv_sub hl [0, 1, 2] rfl)
                    exact loop_183 _ 0 nw _ _ rfl (by omega) (fun j x y => by omega) hP hD hS ls (lv_sub hl [0, 1, 2] rfl)
                  · skip
                    refine x_ic jS dX8_product_118 ?_
                    refine x_isn (lv' := [(3, .int (iI 1)), (2, .int (iI k)), (0, .ref mo), (1, .int (iI 0))]) jS dX8_product_119 rfl hl rfl rfl (fun ls hl => ?_)
                    have loop_120 : ∀ (mm : Nat) (u : Int) (w9 : Int → Int) (jH : Heap) (jL : List Loc), (L + 1 - u).toNat = mm → (1 ≤ u ∧ u ≤ L + 1) → (∀ T : Int → Int, sm (fun q => w9 q * T q) k % P = (sm (fun q => w7 q * T q) k + w7 k * sm (fun v => gw P cr (v + 1) * T (k - 1 - v)) (u - 1)) % P) → (∀ q : Int, 0 ≤ q → q < 40 → 0 ≤ w9 q ∧ w9 q < P) → (w9 k = w7 k) → va_P D vwCl [(mo, .inr (8, [.int (iI P), .int (iI sh), .int (iI sc), .ref xk, .ref xt, .ref xc, .ref xx, .ref xy, .ref xz, .int (iI cnt), .ref xr, .int (iI ak), .long tr, .ref xl, .int (iI L), .ref xC, .ref xF, .ref xK, .ref xn, .ref xb, .ref xw, .ref xa, .int (iI K), .ref yx, .ref yy, .ref yz, .ref yn, .ref yc, .ref yl])), (xC, .inl (cI, 40, .inl (aI cr))), (xn, .inl (cI, 16, .inl (aI nw))), (xb, .inl (cI, 16, .inl (aI bs))), (xw, .inl (cI, 40, .inl (aI w9)))] jH → va_D jA [(mo, .inr (8, [.int (iI P), .int (iI sh), .int (iI sc), .ref xk, .ref xt, .ref xc, .ref xx, .ref xy, .ref xz, .int (iI cnt), .ref xr, .int (iI ak), .long tr, .ref xl, .int (iI L), .ref xC, .ref xF, .ref xK, .ref xn, .ref xb, .ref xw, .ref xa, .int (iI K), .ref yx, .ref yy, .ref yz, .ref yn, .ref yc, .ref yl])), (xC, .inl (cI, 40, .inl (aI cr))), (xn, .inl (cI, 16, .inl (aI nw))), (xb, .inl (cI, 16, .inl (aI bs))), (xw, .inl (cI, 40, .inl (aI w9)))] → va_S jA js.heap jH jL → ∀ ls : Array Slot, lv_has ls 4 [(3, .int (iI u)), (2, .int (iI k)), (0, .ref mo), (1, .int (iI 0))] → W jp jl je rm_X8_product0 js jm ja jb jt jc jH jL 0 0 jQ (F0 jm 120 ls []) := by
                      intro mm
                      induction mm using Nat.strongRecOn with
                      | ind mm ih120 =>
                        intro u w9 jH jL hmm120 hu h9 h9b h9k hP hD hS ls hl
                        refine x_iln jS dX8_product_120 rfl hl 0 rfl ?_
                        refine x_aln jS dX8_product_121 rfl hl 2 rfl ?_
                        refine x_get jS hK hP h_X8_product_X8 0 rfl rfl 14 rfl m_X8_product_2 rfl dX8_product_122 ?_
                        refine x_cmpgt jS 168 dX8_product_125 (by decide) (by omega) (fun hc125 => ?_) (fun hc125 => ?_)
                        · skip
                          refine x_aln jS dX8_product_168 rfl hl 2 rfl ?_
                          refine x_get jS hK hP h_X8_product_X8 0 rfl rfl 20 rfl m_X8_product_1 rfl dX8_product_169 ?_
                          refine x_iln jS dX8_product_172 rfl hl 1 rfl ?_
                          refine x_ic jS dX8_product_173 ?_
                          refine x_iast (ws' := [(mo, .inr (8, [.int (iI P), .int (iI sh), .int (iI sc), .ref xk, .ref xt, .ref xc, .ref xx, .ref xy, .ref xz, .int (iI cnt), .ref xr, .int (iI ak), .long tr, .ref xl, .int (iI L), .ref xC, .ref xF, .ref xK, .ref xn, .ref xb, .ref xw, .ref xa, .int (iI K), .ref yx, .ref yy, .ref yz, .ref yn, .ref yc, .ref yl])), (xC, .inl (cI, 40, .inl (aI cr))), (xn, .inl (cI, 16, .inl (aI nw))), (xb, .inl (cI, 16, .inl (aI bs))), (xw, .inl (cI, 40, .inl (aI (uI w9 k 0))))]) jS hK hP hD hS 4 rfl (by omega) dX8_product_174 rfl (fun jH jL hP hD hS => ?_)
                          refine x_iinc (lv' := [(2, .int (iI (k + (-1)))), (3, .int (iI u)), (0, .ref mo), (1, .int (iI 0))]) jS dX8_product_175 hl 1 rfl rfl rfl (fun ls hl => ?_)
                          refine x_goto jS 110 dX8_product_178 (by decide) ?_
                          exact ih110 _ (by omega) (k + (-1)) (uI w9 k 0) _ _ rfl (by omega) (fun t x => by rw [show k + -1 + 1 = k by omega, ← h7 t x, sm_s _ (show 0 ≤ k by omega), ← far_step2 hgo (show L ≤ t + k by omega) (by omega)]; have e := h9 (fun q => SS (t + q)); rw [show u - 1 = L by omega] at e; rw [← e]; congr 1; exact sm_congr (fun q y z => by rw [uI_n (by omega)])) (fun q x y => by by_cases e : q = k; rw [e, uI_s]; omega; rw [uI_n e]; exact h9b q x y) hP hD hS ls (lv_sub hl [0, 2, 3] rfl)
                        · skip
                          refine x_aln jS dX8_product_128 rfl hl 2 rfl ?_
                          refine x_get jS hK hP h_X8_product_X8 0 rfl rfl 20 rfl m_X8_product_1 rfl dX8_product_129 ?_
                          refine x_iln jS dX8_product_132 rfl hl 1 rfl ?_
                          refine x_iln jS dX8_product_133 rfl hl 0 rfl ?_
                          refine x_isub jS dX8_product_134 ?_
                          refine x_aln jS dX8_product_135 rfl hl 2 rfl ?_
                          refine x_get jS hK hP h_X8_product_X8 0 rfl rfl 20 rfl m_X8_product_1 rfl dX8_product_136 ?_
                          refine x_iln jS dX8_product_139 rfl hl 1 rfl ?_
                          refine x_iln jS dX8_product_140 rfl hl 0 rfl ?_
                          refine x_isub jS dX8_product_141 ?_
                          refine x_iald jS hK hP 4 rfl (by omega) dX8_product_142 ?_
                          have hb142 := h9b (k - u) (by omega) (by omega)
                          refine x_aln jS dX8_product_143 rfl hl 2 rfl ?_
                          refine x_get jS hK hP h_X8_product_X8 0 rfl rfl 20 rfl m_X8_product_1 rfl dX8_product_144 ?_
                          refine x_iln jS dX8_product_147 rfl hl 1 rfl ?_
                          refine x_iald jS hK hP 4 rfl (by omega) dX8_product_148 ?_
                          have hb148 := h9b k (by omega) (by omega)
                          refine x_aln jS dX8_product_149 rfl hl 2 rfl ?_
                          refine x_iln jS dX8_product_150 rfl hl 0 rfl ?_
                          have hcu := hcr u (by omega) (by omega)
                          have hgu := gw_in (show 0 < P by omega) cr u
                          refine x_rI (x_rmV (As := [.int (iI u)]) (rest := [.int (iI (w9 k)), .int (iI (w9 (k - u))), .int (iI (k - u)), .ref xw]) jS hl.1 hK (c_X8_g jl D cI mo xk xt xc xx xy xz xr xl xC xF xK xn xb xw xa yx yy yz yn yc yl P sh sc cnt ak L K tr u cr (by first | assumption | omega) (by first | assumption | omega) (by first | assumption | omega)) (hP.sub [0, 1] rfl) 0 rfl rfl gX8_product_X8_g rfl rfl rfl kf_X8_g rfl rfl rfl rfl rfl dX8_product_151 rfl rfl) ?_
                          refine x_imulB jS dX8_product_154 (by omega) (fun hp154 => ?_)
                          refine x_iadd jS dX8_product_155 ?_
                          refine x_aln jS dX8_product_156 rfl hl 2 rfl ?_
                          refine x_get jS hK hP h_X8_product_X8 0 rfl rfl 0 rfl m_X8_product_5 rfl dX8_product_157 ?_
                          refine x_irem jS dX8_product_160 (by omega) (fun hm160 => ?_)
                          refine x_iast (ws' := [(mo, .inr (8, [.int (iI P), .int (iI sh), .int (iI sc), .ref xk, .ref xt, .ref xc, .ref xx, .ref xy, .ref xz, .int (iI cnt), .ref xr, .int (iI ak), .long tr, .ref xl, .int (iI L), .ref xC, .ref xF, .ref xK, .ref xn, .ref xb, .ref xw, .ref xa, .int (iI K), .ref yx, .ref yy, .ref yz, .ref yn, .ref yc, .ref yl])), (xC, .inl (cI, 40, .inl (aI cr))), (xn, .inl (cI, 16, .inl (aI nw))), (xb, .inl (cI, 16, .inl (aI bs))), (xw, .inl (cI, 40, .inl (aI (uI w9 (k - u) (((w9 (k - u)) + ((w9 k) * (gw P cr u))) % P)))))]) jS hK hP hD hS 4 rfl (by omega) dX8_product_161 rfl (fun jH jL hP hD hS => ?_)
                          refine x_iinc (lv' := [(3, .int (iI (u + 1))), (2, .int (iI k)), (0, .ref mo), (1, .int (iI 0))]) jS dX8_product_162 hl 0 rfl rfl rfl (fun ls hl => ?_)
                          refine x_goto jS 120 dX8_product_165 (by decide) ?_
                          exact ih120 _ (by omega) (u + 1) (uI w9 (k - u) (((w9 (k - u)) + ((w9 k) * (gw P cr u))) % P)) _ _ rfl (by omega) (fun T => by rw [sm_uI _ _ (by omega), show u + 1 - 1 = (u - 1) + 1 by omega, sm_s _ (show 0 ≤ u - 1 by omega), Int.mul_add, ← Int.add_assoc]; refine cg_add (h9 T) ?_; rw [show u - 1 + 1 = u by omega, show k - 1 - (u - 1) = k - u by omega, ← Int.mul_assoc]; refine cg_mul ?_ rfl; rw [Int.sub_emod, cg_m, ← Int.sub_emod, h9k]; congr 1; omega) (fun q x y => by by_cases e : q = k - u; rw [e, uI_s]; exact emB (by omega) _; rw [uI_n e]; exact h9b q x y) (by rw [uI_n (by omega)]; exact h9k) hP hD hS ls (lv_sub hl [0, 1, 2, 3] rfl)
                    exact loop_120 _ 1 w7 _ _ rfl (by omega) (fun T => by rw [show (1 : Int) - 1 = 0 by omega, sm_0, Int.mul_zero, Int.add_zero]) (h7b) (rfl) hP hD hS ls (lv_sub hl [0, 1, 2, 3] rfl)
              exact loop_110 _ ((2 * L) - 2) w3 _ _ rfl (by omega) (fun t x => by have e := h3 (fun q => SS (t + q)); rw [show i2 = L by omega] at e; rw [← e]; congr 1; rw [show 2 * L - 2 + 1 = 2 * L - 1 by omega]; exact (sm_cut (by omega) (by omega) (fun q y z => by rw [h3z q y z, Int.zero_mul])).symm) (h3b) hP hD hS ls (lv_sub hl [0, 1, 2] rfl)
            · skip
              refine x_ic jS dX8_product_31 ?_
              refine x_isn (lv' := [(3, .int (iI 0)), (2, .int (iI i2)), (0, .ref mo), (1, .int (iI 0))]) jS dX8_product_32 rfl hl rfl rfl (fun ls hl => ?_)
              have loop_33 : ∀ (mm : Nat) (j : Int) (w5 : Int → Int) (jH : Heap) (jL : List Loc), (L - j).toNat = mm → (0 ≤ j ∧ j ≤ L) → (∀ T : Int → Int, sm (fun q => w5 q * T q) 40 % P = (sm (fun i => sm (fun j => nw i * bs j * T (i + j)) L)  i2 + sm (fun j => nw i2 * bs j * T (i2 + j)) j) % P) → (∀ q : Int, 0 ≤ q → q < 40 → 0 ≤ w5 q ∧ w5 q < P) → (∀ q : Int, 2 * L - 1 ≤ q → q < 40 → w5 q = 0) → va_P D vwCl [(mo, .inr (8, [.int (iI P), .int (iI sh), .int (iI sc), .ref xk, .ref xt, .ref xc, .ref xx, .ref xy, .ref xz, .int (iI cnt), .ref xr, .int (iI ak), .long tr, .ref xl, .int (iI L), .ref xC, .ref xF, .ref xK, .ref xn, .ref xb, .ref xw, .ref xa, .int (iI K), .ref yx, .ref yy, .ref yz, .ref yn, .ref yc, .ref yl])), (xC, .inl (cI, 40, .inl (aI cr))), (xn, .inl (cI, 16, .inl (aI nw))), (xb, .inl (cI, 16, .inl (aI bs))), (xw, .inl (cI, 40, .inl (aI w5)))] jH → va_D jA [(mo, .inr (8, [.int (iI P), .int (iI sh), .int (iI sc), .ref xk, .ref xt, .ref xc, .ref xx, .ref xy, .ref xz, .int (iI cnt), .ref xr, .int (iI ak), .long tr, .ref xl, .int (iI L), .ref xC, .ref xF, .ref xK, .ref xn, .ref xb, .ref xw, .ref xa, .int (iI K), .ref yx, .ref yy, .ref yz, .ref yn, .ref yc, .ref yl])), (xC, .inl (cI, 40, .inl (aI cr))), (xn, .inl (cI, 16, .inl (aI nw))), (xb, .inl (cI, 16, .inl (aI bs))), (xw, .inl (cI, 40, .inl (aI w5)))] → va_S jA js.heap jH jL → ∀ ls : Array Slot, lv_has ls 4 [(3, .int (iI j)), (2, .int (iI i2)), (0, .ref mo), (1, .int (iI 0))] → W jp jl je rm_X8_product0 js jm ja jb jt jc jH jL 0 0 jQ (F0 jm 33 ls []) := by
                intro mm
                induction mm using Nat.strongRecOn with
                | ind mm ih33 =>
                  intro j w5 jH jL hmm33 hj h5 h5b h5z hP hD hS ls hl
                  refine x_iln jS dX8_product_33 rfl hl 0 rfl ?_
                  refine x_aln jS dX8_product_34 rfl hl 2 rfl ?_
                  refine x_get jS hK hP h_X8_product_X8 0 rfl rfl 14 rfl m_X8_product_2 rfl dX8_product_35 ?_
                  refine x_cmpge jS 95 dX8_product_38 (by decide) (by omega) (fun hc38 => ?_) (fun hc38 => ?_)
                  · skip
                    refine x_iinc (lv' := [(2, .int (iI (i2 + 1))), (3, .int (iI j)), (0, .ref mo), (1, .int (iI 0))]) jS dX8_product_95 hl 1 rfl rfl rfl (fun ls hl => ?_)
                    refine x_goto jS 23 dX8_product_98 (by decide) ?_
                    exact ih23 _ (by omega) (i2 + 1) w5 _ _ rfl (by omega) (fun T => by rw [h5 T, sm_s _ hi2.1, show j = L by omega]) (h5b) (h5z) hP hD hS ls (lv_sub hl [0, 2, 3] rfl)
                  · skip
                    refine x_aln jS dX8_product_41 rfl hl 2 rfl ?_
                    refine x_get jS hK hP h_X8_product_X8 0 rfl rfl 20 rfl m_X8_product_1 rfl dX8_product_42 ?_
                    refine x_iln jS dX8_product_45 rfl hl 1 rfl ?_
                    refine x_iln jS dX8_product_46 rfl hl 0 rfl ?_
                    refine x_iadd jS dX8_product_47 ?_
                    refine x_aln jS dX8_product_48 rfl hl 2 rfl ?_
                    refine x_get jS hK hP h_X8_product_X8 0 rfl rfl 20 rfl m_X8_product_1 rfl dX8_product_49 ?_
                    refine x_iln jS dX8_product_52 rfl hl 1 rfl ?_
                    refine x_iln jS dX8_product_53 rfl hl 0 rfl ?_
                    refine x_iadd jS dX8_product_54 ?_
                    refine x_iald jS hK hP 4 rfl (by omega) dX8_product_55 ?_
                    have hb55 := h5b (i2 + j) (by omega) (by omega)
                    refine x_iln jS dX8_product_56 rfl hl 3 rfl ?_
                    refine x_ifeq jS 69 dX8_product_57 (by decide) (by omega) (fun hc57 => ?_) (fun hc57 => ?_)
                    rotate_left
                    · exfalso; omega
                    refine x_aln jS dX8_product_69 rfl hl 2 rfl ?_
                    refine x_get jS hK hP h_X8_product_X8 0 rfl rfl 18 rfl m_X8_product_4 rfl dX8_product_70 ?_
                    refine x_iln jS dX8_product_73 rfl hl 1 rfl ?_
                    refine x_iald jS hK hP 2 rfl (by omega) dX8_product_74 ?_
                    have hb74 := ha i2 (by omega) (by omega)
                    refine x_aln jS dX8_product_75 rfl hl 2 rfl ?_
                    refine x_get jS hK hP h_X8_product_X8 0 rfl rfl 19 rfl m_X8_product_3 rfl dX8_product_76 ?_
                    refine x_iln jS dX8_product_79 rfl hl 0 rfl ?_
                    refine x_iald jS hK hP 3 rfl (by omega) dX8_product_80 ?_
                    have hb80 := hbs j (by omega) (by omega)
                    refine x_imulB jS dX8_product_81 (by omega) (fun hp81 => ?_)
                    refine x_iadd jS dX8_product_82 ?_
                    refine x_aln jS dX8_product_83 rfl hl 2 rfl ?_
                    refine x_get jS hK hP h_X8_product_X8 0 rfl rfl 0 rfl m_X8_product_5 rfl dX8_product_84 ?_
                    refine x_irem jS dX8_product_87 (by omega) (fun hm87 => ?_)
                    refine x_iast (ws' := [(mo, .inr (8, [.int (iI P), .int (iI sh), .int (iI sc), .ref xk, .ref xt, .ref xc, .ref xx, .ref xy, .ref xz, .int (iI cnt), .ref xr, .int (iI ak), .long tr, .ref xl, .int (iI L), .ref xC, .ref xF, .ref xK, .ref xn, .ref xb, .ref xw, .ref xa, .int (iI K), .ref yx, .ref yy, .ref yz, .ref yn, .ref yc, .ref yl])), (xC, .inl (cI, 40, .inl (aI cr))), (xn, .inl (cI, 16, .inl (aI nw))), (xb, .inl (cI, 16, .inl (aI bs))), (xw, .inl (cI, 40, .inl (aI (uI w5 (i2 + j) (((w5 (i2 + j)) + ((nw i2) * (bs j))) % P)))))]) jS hK hP hD hS 4 rfl (by omega) dX8_product_88 rfl (fun jH jL hP hD hS => ?_)
                    refine x_iinc (lv' := [(3, .int (iI (j + 1))), (2, .int (iI i2)), (0, .ref mo), (1, .int (iI 0))]) jS dX8_product_89 hl 0 rfl rfl rfl (fun ls hl => ?_)
                    refine x_goto jS 33 dX8_product_92 (by decide) ?_
                    exact ih33 _ (by omega) (j + 1) (uI w5 (i2 + j) (((w5 (i2 + j)) + ((nw i2) * (bs j))) % P)) _ _ rfl (by omega) (fun T => by rw [sm_uI _ _ (by omega), sm_s _ hj.1, ← Int.add_assoc]; refine cg_add (h5 T) (cg_mul ?_ rfl); rw [Int.sub_emod, cg_m, ← Int.sub_emod]; congr 1; omega) (fun q x y => by by_cases e : q = i2 + j; rw [e, uI_s]; exact emB (by omega) _; rw [uI_n e]; exact h5b q x y) (fun q x y => by rw [uI_n (by omega)]; exact h5z q x y) hP hD hS ls (lv_sub hl [0, 1, 2, 3] rfl)
              exact loop_33 _ 0 w3 _ _ rfl (by omega) (fun T => by rw [sm_0, Int.add_zero]; exact h3 T) (h3b) (h3z) hP hD hS ls (lv_sub hl [0, 1, 2, 3] rfl)
        exact loop_23 _ 0 w1 _ _ rfl (by omega) (fun T => by rw [sm_0]; congr 1; exact sm_zero (fun q x y => by rw [h1 q x (by omega), Int.zero_mul])) (fun q x y => by rw [h1 q x (by omega)]; omega) (fun q x y => h1 q (by omega) (by omega)) hP hD hS ls (lv_sub hl [0, 1, 2] rfl)
      · skip
        refine x_aln jS dX8_product_8 rfl hl 1 rfl ?_
        refine x_get jS hK hP h_X8_product_X8 0 rfl rfl 20 rfl m_X8_product_1 rfl dX8_product_9 ?_
        refine x_iln jS dX8_product_12 rfl hl 0 rfl ?_
        refine x_ic jS dX8_product_13 ?_
        refine x_iast (ws' := [(mo, .inr (8, [.int (iI P), .int (iI sh), .int (iI sc), .ref xk, .ref xt, .ref xc, .ref xx, .ref xy, .ref xz, .int (iI cnt), .ref xr, .int (iI ak), .long tr, .ref xl, .int (iI L), .ref xC, .ref xF, .ref xK, .ref xn, .ref xb, .ref xw, .ref xa, .int (iI K), .ref yx, .ref yy, .ref yz, .ref yn, .ref yc, .ref yl])), (xC, .inl (cI, 40, .inl (aI cr))), (xn, .inl (cI, 16, .inl (aI nw))), (xb, .inl (cI, 16, .inl (aI bs))), (xw, .inl (cI, 40, .inl (aI (uI w1 i 0))))]) jS hK hP hD hS 4 rfl (by omega) dX8_product_14 rfl (fun jH jL hP hD hS => ?_)
        refine x_iinc (lv' := [(2, .int (iI (i + 1))), (0, .ref mo), (1, .int (iI 0))]) jS dX8_product_15 hl 0 rfl rfl rfl (fun ls hl => ?_)
        refine x_goto jS 2 dX8_product_18 (by decide) ?_
        exact ih2 _ (by omega) (i + 1) (uI w1 i 0) _ _ rfl (by omega) (fun j x y => by rcases Int.lt_or_le j i with q | q; rw [uI_n (by omega)]; exact h1 j x q; rw [show j = i by omega, uI_s]) hP hD hS ls (lv_sub hl [0, 1, 2] rfl)
  exact loop_2 _ 0 wd _ _ rfl (by omega) (fun j x y => by omega) hP hD hS ls (lv_sub hl [0, 1, 2] rfl)
theorem m_X8_far_1 : Cond.constant RX8 137 (iI 1000000000) ∈ wsX8_far := List.mem_of_getElem? (i := 1) rfl
theorem h_X8_far_X8 : ∀ w ∈ u_ws RX8 TX8 29, w ∈ wsX8_far := fun w h => List.mem_cons_of_mem _ (List.mem_append_right _ h)
theorem m_X8_far_2 : Cond.fieldLink RX8 83 "SealedBoxModel" "said" "I" ∈ wsX8_far := List.mem_of_getElem? (i := 2) rfl
theorem m_X8_far_4 : Cond.fieldLink RX8 120 "SealedBoxModel" "length" "I" ∈ wsX8_far := List.mem_of_getElem? (i := 4) rfl
theorem m_X8_far_5 : Cond.fieldLink RX8 53 "SealedBoxModel" "now" "[I" ∈ wsX8_far := List.mem_of_getElem? (i := 5) rfl
theorem m_X8_far_3 : Cond.fieldLink RX8 38 "SealedBoxModel" "row" "[I" ∈ wsX8_far := List.mem_of_getElem? (i := 3) rfl
theorem m_X8_far_7 : Cond.fieldLink RX8 7 "SealedBoxModel" "p" "I" ∈ wsX8_far := List.mem_of_getElem? (i := 7) rfl
theorem kf_X8_product : kfV yX8_product RX8 1 := by decide +kernel
theorem m_X8_far_6 : Cond.fieldLink RX8 56 "SealedBoxModel" "base" "[I" ∈ wsX8_far := List.mem_of_getElem? (i := 6) rfl
abbrev rm_X8_far : Room := { frames := 2, cells := 0, slots := 0, locals := 52 }
set_option maxHeartbeats 4000000 in
set_option maxRecDepth 100000 in
theorem c_X8_far (jl : Launch) (D : va_G) (cI : ClassId) (mo xk xt xc xx xy xz xr xl xC xF xK xn xb xw xa yx yy yz yn yc yl : Nat) (P sh sc cnt ak L K : Int) (tr : Int64) (cr fr kp lk : Int → Int) (row nw bs wd SS : Int → Int) (n : Int) (sz : Nat) (hok : okP P) (hcnt : 0 ≤ cnt ∧ cnt ≤ 16) (hrow : ∀ j : Int, 0 ≤ j → j < cnt → 0 ≤ row j ∧ row j < P) (g_n : -2147483648 ≤ n ∧ n < 2147483648) (hgo : goesOn P (bmL P row cnt) (gw P (bm P row (Int.toNat cnt)).1) SS) (hSS : ∀ j : Int, 0 ≤ j → j < bmL P row cnt → SS j = row j) : Met jl yX8_far wsX8_far rm_X8_far (xPw [.ref mo, .int (iI n)] D cI [(mo, .inr (8, [.int (iI P), .int (iI sh), .int (iI sc), .ref xk, .ref xt, .ref xc, .ref xx, .ref xy, .ref xz, .int (iI cnt), .ref xr, .int (iI ak), .long tr, .ref xl, .int (iI L), .ref xC, .ref xF, .ref xK, .ref xn, .ref xb, .ref xw, .ref xa, .int (iI K), .ref yx, .ref yy, .ref yz, .ref yn, .ref yc, .ref yl])), (xC, .inl (cI, 40, .inl (aI cr))), (xF, .inl (cI, 40, .inl (aI fr))), (xK, .inl (cI, 40, .inl (aI kp))), (xl, .inl (cI, 16, .inl (aI lk))), (xr, .inl (cI, 16, .inl (aI row))), (xn, .inl (cI, 16, .inl (aI nw))), (xb, .inl (cI, 16, .inl (aI bs))), (xw, .inl (cI, 40, .inl (aI wd)))] sz) (va_Qi (fun (r : Int32) (u : Int × (Int → Int) × (Int → Int) × (Int → Int) × (Int → Int) × (Int → Int) × (Int → Int) × (Int → Int)) => r = (iI (if 0 ≤ n ∧ n ≤ 1000000000 then (if n < cnt then row n else if bmL P row cnt = 0 then 0 else SS n % P) else -1)) ∧ (True)) (xB D (fun (u : Int × (Int → Int) × (Int → Int) × (Int → Int) × (Int → Int) × (Int → Int) × (Int → Int) × (Int → Int)) => [(mo, .inr (8, [.int (iI P), .int (iI sh), .int (iI sc), .ref xk, .ref xt, .ref xc, .ref xx, .ref xy, .ref xz, .int (iI cnt), .ref xr, .int (iI ak), .long tr, .ref xl, .int (iI u.1), .ref xC, .ref xF, .ref xK, .ref xn, .ref xb, .ref xw, .ref xa, .int (iI K), .ref yx, .ref yy, .ref yz, .ref yn, .ref yc, .ref yl])), (xC, .inl (cI, 40, .inl (aI u.2.1))), (xF, .inl (cI, 40, .inl (aI u.2.2.1))), (xK, .inl (cI, 40, .inl (aI u.2.2.2.1))), (xl, .inl (cI, 16, .inl (aI u.2.2.2.2.1))), (xr, .inl (cI, 16, .inl (aI row))), (xn, .inl (cI, 16, .inl (aI u.2.2.2.2.2.1))), (xb, .inl (cI, 16, .inl (aI u.2.2.2.2.2.2.1))), (xw, .inl (cI, 40, .inl (aI u.2.2.2.2.2.2.2)))]) (va_A [(mo, .inr (8, [.int (iI P), .int (iI sh), .int (iI sc), .ref xk, .ref xt, .ref xc, .ref xx, .ref xy, .ref xz, .int (iI cnt), .ref xr, .int (iI ak), .long tr, .ref xl, .int (iI L), .ref xC, .ref xF, .ref xK, .ref xn, .ref xb, .ref xw, .ref xa, .int (iI K), .ref yx, .ref yy, .ref yz, .ref yn, .ref yc, .ref yl])), (xC, .inl (cI, 40, .inl (aI cr))), (xF, .inl (cI, 40, .inl (aI fr))), (xK, .inl (cI, 40, .inl (aI kp))), (xl, .inl (cI, 16, .inl (aI lk))), (xr, .inl (cI, 16, .inl (aI row))), (xn, .inl (cI, 16, .inl (aI nw))), (xb, .inl (cI, 16, .inl (aI bs))), (xw, .inl (cI, 40, .inl (aI wd)))] sz)) (va_A [(mo, .inr (8, [.int (iI P), .int (iI sh), .int (iI sc), .ref xk, .ref xt, .ref xc, .ref xx, .ref xy, .ref xz, .int (iI cnt), .ref xr, .int (iI ak), .long tr, .ref xl, .int (iI L), .ref xC, .ref xF, .ref xK, .ref xn, .ref xb, .ref xw, .ref xa, .int (iI K), .ref yx, .ref yy, .ref yz, .ref yn, .ref yc, .ref yl])), (xC, .inl (cI, 40, .inl (aI cr))), (xF, .inl (cI, 40, .inl (aI fr))), (xK, .inl (cI, 40, .inl (aI kp))), (xl, .inl (cI, 16, .inl (aI lk))), (xr, .inl (cI, 16, .inl (aI row))), (xn, .inl (cI, 16, .inl (aI nw))), (xb, .inl (cI, 16, .inl (aI bs))), (xw, .inl (cI, 40, .inl (aI wd)))] sz)) 0 0 (va_A [(mo, .inr (8, [.int (iI P), .int (iI sh), .int (iI sc), .ref xk, .ref xt, .ref xc, .ref xx, .ref xy, .ref xz, .int (iI cnt), .ref xr, .int (iI ak), .long tr, .ref xl, .int (iI L), .ref xC, .ref xF, .ref xK, .ref xn, .ref xb, .ref xw, .ref xa, .int (iI K), .ref yx, .ref yy, .ref yz, .ref yn, .ref yc, .ref yl])), (xC, .inl (cI, 40, .inl (aI cr))), (xF, .inl (cI, 40, .inl (aI fr))), (xK, .inl (cI, 40, .inl (aI kp))), (xl, .inl (cI, 16, .inl (aI lk))), (xr, .inl (cI, 16, .inl (aI row))), (xn, .inl (cI, 16, .inl (aI nw))), (xb, .inl (cI, 16, .inl (aI bs))), (xw, .inl (cI, 40, .inl (aI wd)))] sz) := by
  refine x_metW (own := RX8) (cc := cX8_far) (maxL := 4) (ret := (some .int)) (Qc := fun jA => va_Qi (fun (r : Int32) (u : Int × (Int → Int) × (Int → Int) × (Int → Int) × (Int → Int) × (Int → Int) × (Int → Int) × (Int → Int)) => r = (iI (if 0 ≤ n ∧ n ≤ 1000000000 then (if n < cnt then row n else if bmL P row cnt = 0 then 0 else SS n % P) else -1)) ∧ (True)) (xB D (fun (u : Int × (Int → Int) × (Int → Int) × (Int → Int) × (Int → Int) × (Int → Int) × (Int → Int) × (Int → Int)) => [(mo, .inr (8, [.int (iI P), .int (iI sh), .int (iI sc), .ref xk, .ref xt, .ref xc, .ref xx, .ref xy, .ref xz, .int (iI cnt), .ref xr, .int (iI ak), .long tr, .ref xl, .int (iI u.1), .ref xC, .ref xF, .ref xK, .ref xn, .ref xb, .ref xw, .ref xa, .int (iI K), .ref yx, .ref yy, .ref yz, .ref yn, .ref yc, .ref yl])), (xC, .inl (cI, 40, .inl (aI u.2.1))), (xF, .inl (cI, 40, .inl (aI u.2.2.1))), (xK, .inl (cI, 40, .inl (aI u.2.2.2.1))), (xl, .inl (cI, 16, .inl (aI u.2.2.2.2.1))), (xr, .inl (cI, 16, .inl (aI row))), (xn, .inl (cI, 16, .inl (aI u.2.2.2.2.2.1))), (xb, .inl (cI, 16, .inl (aI u.2.2.2.2.2.2.1))), (xw, .inl (cI, 40, .inl (aI u.2.2.2.2.2.2.2)))]) jA) jA) (by decide) rfl rfl rfl ?_
  intro jp je js jm ja jb jt jc jA jQ jS jr jk jn jq hK hP hD hA hS ls hl
  have hl : lv_has ls 4 [(0, .ref mo), (1, .int (iI n))] := hl
  have hok5 := hok.1
  have hok9 := hok.2.1
  have hP2 : 2 ≤ P := by omega
  refine x_iln jS dX8_far_0 rfl hl 1 rfl ?_
  refine x_ic jS dX8_far_1 ?_
  refine x_ldc (n := 1000000000) jS m_X8_far_1 dX8_far_2 ?_
  refine x_rI (x_rmS (As := [.int (iI n), .int (iI 0), .int (iI 1000000000)]) (rest := []) jS hl.1 hK (c_X8_in jl D cI n 0 1000000000 (by first | assumption | omega) (by first | assumption | omega) (by first | assumption | omega)) (hP.sub [] rfl) gX8_far_X8_in rfl rfl rfl kf_X8_in rfl rfl rfl rfl rfl dX8_far_4 rfl rfl) ?_
  refine x_ifneB jS 12 dX8_far_7 (by decide) (fun hc7 => ?_) (fun hc7 => ?_)
  · skip
    refine x_iln jS dX8_far_12 rfl hl 1 rfl ?_
    refine x_aln jS dX8_far_13 rfl hl 0 rfl ?_
    refine x_get jS hK hP h_X8_far_X8 0 rfl rfl 9 rfl m_X8_far_2 rfl dX8_far_14 ?_
    refine x_cmpge jS 27 dX8_far_17 (by decide) (by omega) (fun hc17 => ?_) (fun hc17 => ?_)
    · skip
      refine x_aln jS dX8_far_27 rfl hl 0 rfl ?_
      refine x_aV (wc := [(mo, .inr (8, [.int (iI P), .int (iI sh), .int (iI sc), .ref xk, .ref xt, .ref xc, .ref xx, .ref xy, .ref xz, .int (iI cnt), .ref xr, .int (iI ak), .long tr, .ref xl, .int (iI L), .ref xC, .ref xF, .ref xK, .ref xn, .ref xb, .ref xw, .ref xa, .int (iI K), .ref yx, .ref yy, .ref yz, .ref yn, .ref yc, .ref yl])), (xl, .inl (cI, 16, .inl (aI lk))), (xr, .inl (cI, 16, .inl (aI row)))]) (wr := [(xC, .inl (cI, 40, .inl (aI cr))), (xF, .inl (cI, 40, .inl (aI fr))), (xK, .inl (cI, 40, .inl (aI kp))), (xn, .inl (cI, 16, .inl (aI nw))), (xb, .inl (cI, 16, .inl (aI bs))), (xw, .inl (cI, 40, .inl (aI wd)))]) hP hD hS hA [0, 4, 5] [1, 2, 3, 6, 7, 8] rfl rfl (by decide) (by decide) (cs := 0) (ss := 0) rfl rfl (x_rnV (As := []) (rest := []) jS hl.1 hK (c_X8_take jl D cI mo xk xt xc xx xy xz xr xl xC xF xK xn xb xw xa yx yy yz yn yc yl P sh sc cnt ak L K tr lk row _ (by first | assumption | omega)) hP hD [0, 4, 5] rfl rfl (by decide) 0 rfl rfl gX8_far_X8_take rfl rfl rfl kf_X8_take rfl rfl rfl rfl rfl dX8_far_28 rfl rfl) (fun u jH jL hw hP hD hS => ?_)
      obtain ⟨lkt, rfl⟩ : ∃ z, z = u := ⟨_, rfl⟩
      have hwt : ∀ j : Int, 0 ≤ j → j < cnt → lkt j = row j := hw
      clear hw
      have hP : va_P D vwCl [(xC, .inl (cI, 40, .inl (aI cr))), (xF, .inl (cI, 40, .inl (aI fr))), (xK, .inl (cI, 40, .inl (aI kp))), (xn, .inl (cI, 16, .inl (aI nw))), (xb, .inl (cI, 16, .inl (aI bs))), (xw, .inl (cI, 40, .inl (aI wd))), (mo, .inr (8, [.int (iI P), .int (iI sh), .int (iI sc), .ref xk, .ref xt, .ref xc, .ref xx, .ref xy, .ref xz, .int (iI cnt), .ref xr, .int (iI ak), .long tr, .ref xl, .int (iI L), .ref xC, .ref xF, .ref xK, .ref xn, .ref xb, .ref xw, .ref xa, .int (iI K), .ref yx, .ref yy, .ref yz, .ref yn, .ref yc, .ref yl])), (xl, .inl (cI, 16, .inl (aI lkt))), (xr, .inl (cI, 16, .inl (aI row)))] jH := hP
      have hD : va_D jA [(xC, .inl (cI, 40, .inl (aI cr))), (xF, .inl (cI, 40, .inl (aI fr))), (xK, .inl (cI, 40, .inl (aI kp))), (xn, .inl (cI, 16, .inl (aI nw))), (xb, .inl (cI, 16, .inl (aI bs))), (xw, .inl (cI, 40, .inl (aI wd))), (mo, .inr (8, [.int (iI P), .int (iI sh), .int (iI sc), .ref xk, .ref xt, .ref xc, .ref xx, .ref xy, .ref xz, .int (iI cnt), .ref xr, .int (iI ak), .long tr, .ref xl, .int (iI L), .ref xC, .ref xF, .ref xK, .ref xn, .ref xb, .ref xw, .ref xa, .int (iI K), .ref yx, .ref yy, .ref yz, .ref yn, .ref yc, .ref yl])), (xl, .inl (cI, 16, .inl (aI lkt))), (xr, .inl (cI, 16, .inl (aI row)))] := hD
      refine x_aln jS dX8_far_31 rfl hl 0 rfl ?_
      refine x_aln jS dX8_far_32 rfl hl 0 rfl ?_
      refine x_get jS hK hP h_X8_far_X8 6 rfl rfl 9 rfl m_X8_far_2 rfl dX8_far_33 ?_
      refine x_bi jS dX8_far_36 (by decide) ?_
      refine x_aV (wc := [(mo, .inr (8, [.int (iI P), .int (iI sh), .int (iI sc), .ref xk, .ref xt, .ref xc, .ref xx, .ref xy, .ref xz, .int (iI cnt), .ref xr, .int (iI ak), .long tr, .ref xl, .int (iI L), .ref xC, .ref xF, .ref xK, .ref xn, .ref xb, .ref xw, .ref xa, .int (iI K), .ref yx, .ref yy, .ref yz, .ref yn, .ref yc, .ref yl])), (xC, .inl (cI, 40, .inl (aI cr))), (xF, .inl (cI, 40, .inl (aI fr))), (xK, .inl (cI, 40, .inl (aI kp))), (xl, .inl (cI, 16, .inl (aI lkt)))]) (wr := [(xn, .inl (cI, 16, .inl (aI nw))), (xb, .inl (cI, 16, .inl (aI bs))), (xw, .inl (cI, 40, .inl (aI wd))), (xr, .inl (cI, 16, .inl (aI row)))]) hP hD hS hA [6, 0, 1, 2, 7] [3, 4, 5, 8] rfl rfl (by decide) (by decide) (cs := 0) (ss := 0) rfl rfl (x_rnV (As := [.int (iI cnt), .int (iI 16)]) (rest := []) jS hl.1 hK (c_X8_grow jl D cI mo xk xt xc xx xy xz xr xl xC xF xK xn xb xw xa yx yy yz yn yc yl P sh sc cnt ak L K tr cr fr kp lkt cnt 16 _ (by first | assumption | omega) (by first | assumption | omega) (by first | assumption | omega) (fun j x y => by rw [hwt j x y]; exact hrow j x y)) hP hD [6, 0, 1, 2, 7] rfl rfl (by decide) 0 rfl rfl gX8_far_X8_grow rfl rfl rfl kf_X8_grow rfl rfl rfl rfl rfl dX8_far_38 rfl rfl) (fun u jH jL hw hP hD hS => ?_)
      obtain ⟨nn, Lr, crr, fr2_1, kp2_2⟩ := u
      have hwg : (0 ≤ nn ∧ nn ≤ cnt) ∧ Lr = bmL P lkt nn ∧ (∀ j : Int, 0 ≤ j → j < 40 → crr j = (bm P lkt (Int.toNat nn)).1 j) ∧ (nn = cnt ∨ 16 < Lr) := hw
      clear hw
      have hP : va_P D vwCl [(xn, .inl (cI, 16, .inl (aI nw))), (xb, .inl (cI, 16, .inl (aI bs))), (xw, .inl (cI, 40, .inl (aI wd))), (xr, .inl (cI, 16, .inl (aI row))), (mo, .inr (8, [.int (iI P), .int (iI sh), .int (iI sc), .ref xk, .ref xt, .ref xc, .ref xx, .ref xy, .ref xz, .int (iI cnt), .ref xr, .int (iI ak), .long tr, .ref xl, .int (iI Lr), .ref xC, .ref xF, .ref xK, .ref xn, .ref xb, .ref xw, .ref xa, .int (iI K), .ref yx, .ref yy, .ref yz, .ref yn, .ref yc, .ref yl])), (xC, .inl (cI, 40, .inl (aI crr))), (xF, .inl (cI, 40, .inl (aI fr2_1))), (xK, .inl (cI, 40, .inl (aI kp2_2))), (xl, .inl (cI, 16, .inl (aI lkt)))] jH := hP
      have hD : va_D jA [(xn, .inl (cI, 16, .inl (aI nw))), (xb, .inl (cI, 16, .inl (aI bs))), (xw, .inl (cI, 40, .inl (aI wd))), (xr, .inl (cI, 16, .inl (aI row))), (mo, .inr (8, [.int (iI P), .int (iI sh), .int (iI sc), .ref xk, .ref xt, .ref xc, .ref xx, .ref xy, .ref xz, .int (iI cnt), .ref xr, .int (iI ak), .long tr, .ref xl, .int (iI Lr), .ref xC, .ref xF, .ref xK, .ref xn, .ref xb, .ref xw, .ref xa, .int (iI K), .ref yx, .ref yy, .ref yz, .ref yn, .ref yc, .ref yl])), (xC, .inl (cI, 40, .inl (aI crr))), (xF, .inl (cI, 40, .inl (aI fr2_1))), (xK, .inl (cI, 40, .inl (aI kp2_2))), (xl, .inl (cI, 16, .inl (aI lkt)))] := hD
      have hLin := bmL_in hP2 lkt hwg.1.1
      have hnn : nn = cnt := by rcases hwg.2.2.2 with q | q; exact q; omega
      have hbmt : bm P lkt (Int.toNat cnt) = bm P row (Int.toNat cnt) := bm_congr hP2 (fun j x y => hwt j x (by omega))
      rw [hnn] at hwg hLin
      have hLr : Lr = bmL P row cnt := by rw [hwg.2.1]; unfold bmL; rw [hbmt]
      have hcrr : ∀ j : Int, 0 ≤ j → j < 40 → crr j = (bm P row (Int.toNat cnt)).1 j := fun j x y => by rw [hwg.2.2.1 j x y, hbmt]
      have hcrb : ∀ j : Int, 0 ≤ j → j < 40 → 0 ≤ crr j ∧ crr j < P := fun j x y => by rw [hcrr j x y]; exact (bmI_n hP2 row _).2.1 j
      refine x_aln jS dX8_far_41 rfl hl 0 rfl ?_
      refine x_get jS hK hP h_X8_far_X8 4 rfl rfl 14 rfl m_X8_far_4 rfl dX8_far_42 ?_
      refine x_ifne jS 50 dX8_far_45 (by decide) (by omega) (fun hc45 => ?_) (fun hc45 => ?_)
      · skip
        have hL1 : 1 ≤ Lr ∧ Lr ≤ 16 := by omega
        have hgo2 : goesOn P Lr (gw P crr) SS := by rw [hLr]; exact gone_congr (fun j x y => (gw_congr (hcrr j (by omega) (by omega))).symm) hgo
        refine x_ic jS dX8_far_50 ?_
        refine x_isn (lv' := [(2, .int (iI 0)), (0, .ref mo), (1, .int (iI n))]) jS dX8_far_51 rfl hl rfl rfl (fun ls hl => ?_)
        have loop_52 : ∀ (mm : Nat) (i : Int) (nw1 : Int → Int) (bs1 : Int → Int) (jH : Heap) (jL : List Loc), (Lr - i).toNat = mm → (0 ≤ i ∧ i ≤ Lr) → (∀ j : Int, 0 ≤ j → j < i → nw1 j = (if j = 0 then 1 else 0) ∧ bs1 j = (if j = 1 then 1 else 0)) → va_P D vwCl [(xn, .inl (cI, 16, .inl (aI nw1))), (xb, .inl (cI, 16, .inl (aI bs1))), (xw, .inl (cI, 40, .inl (aI wd))), (xr, .inl (cI, 16, .inl (aI row))), (mo, .inr (8, [.int (iI P), .int (iI sh), .int (iI sc), .ref xk, .ref xt, .ref xc, .ref xx, .ref xy, .ref xz, .int (iI cnt), .ref xr, .int (iI ak), .long tr, .ref xl, .int (iI Lr), .ref xC, .ref xF, .ref xK, .ref xn, .ref xb, .ref xw, .ref xa, .int (iI K), .ref yx, .ref yy, .ref yz, .ref yn, .ref yc, .ref yl])), (xC, .inl (cI, 40, .inl (aI crr))), (xF, .inl (cI, 40, .inl (aI fr2_1))), (xK, .inl (cI, 40, .inl (aI kp2_2))), (xl, .inl (cI, 16, .inl (aI lkt)))] jH → va_D jA [(xn, .inl (cI, 16, .inl (aI nw1))), (xb, .inl (cI, 16, .inl (aI bs1))), (xw, .inl (cI, 40, .inl (aI wd))), (xr, .inl (cI, 16, .inl (aI row))), (mo, .inr (8, [.int (iI P), .int (iI sh), .int (iI sc), .ref xk, .ref xt, .ref xc, .ref xx, .ref xy, .ref xz, .int (iI cnt), .ref xr, .int (iI ak), .long tr, .ref xl, .int (iI Lr), .ref xC, .ref xF, .ref xK, .ref xn, .ref xb, .ref xw, .ref xa, .int (iI K), .ref yx, .ref yy, .ref yz, .ref yn, .ref yc, .ref yl])), (xC, .inl (cI, 40, .inl (aI crr))), (xF, .inl (cI, 40, .inl (aI fr2_1))), (xK, .inl (cI, 40, .inl (aI kp2_2))), (xl, .inl (cI, 16, .inl (aI lkt)))] → va_S jA js.heap jH jL → ∀ ls : Array Slot, lv_has ls 4 [(2, .int (iI i)), (0, .ref mo), (1, .int (iI n))] → W jp jl je rm_X8_far js jm ja jb jt jc jH jL 0 0 jQ (F0 jm 52 ls []) := by
          intro mm
          induction mm using Nat.strongRecOn with
          | ind mm ih52 =>
            intro i nw1 bs1 jH jL hmm52 hi h1 hP hD hS ls hl
            refine x_iln jS dX8_far_52 rfl hl 0 rfl ?_
            refine x_aln jS dX8_far_53 rfl hl 1 rfl ?_
            refine x_get jS hK hP h_X8_far_X8 4 rfl rfl 14 rfl m_X8_far_4 rfl dX8_far_54 ?_
            refine x_cmpge jS 97 dX8_far_57 (by decide) (by omega) (fun hc57 => ?_) (fun hc57 => ?_)
            · skip
              refine x_aln jS dX8_far_97 rfl hl 1 rfl ?_
              refine x_get jS hK hP h_X8_far_X8 4 rfl rfl 14 rfl m_X8_far_4 rfl dX8_far_98 ?_
              refine x_ic jS dX8_far_101 ?_
              refine x_cmpne jS 116 dX8_far_102 (by decide) (by omega) (fun hc102 => ?_) (fun hc102 => ?_)
              · skip
                have hb5m : Rep P Lr SS bs1 1 := rep_e1 (by omega) (fun j x y => (h1 j x (by omega)).2)
                have hb5b : ∀ j : Int, 0 ≤ j → j < Lr → 0 ≤ bs1 j ∧ bs1 j < P := fun j x y => by rw [(h1 j x (by omega)).2]; split <;> omega
                refine x_iln jS dX8_far_116 rfl hl 2 rfl ?_
                refine x_isn (lv' := [(2, .int (iI n)), (0, .ref mo), (1, .int (iI n))]) jS dX8_far_117 rfl hl rfl rfl (fun ls hl => ?_)
                have loop_118 : ∀ (mm : Nat) (rest : Int) (ga : Int) (gb : Int) (nw5 : Int → Int) (bs5 : Int → Int) (wd5 : Int → Int) (jH : Heap) (jL : List Loc), (rest).toNat = mm → (0 ≤ rest ∧ rest ≤ 1000000000) → (0 ≤ ga ∧ 0 ≤ gb) → (ga + gb * rest = n) → (Rep P Lr SS nw5 ga) → (Rep P Lr SS bs5 gb) → (∀ j : Int, 0 ≤ j → j < Lr → 0 ≤ nw5 j ∧ nw5 j < P) → (∀ j : Int, 0 ≤ j → j < Lr → 0 ≤ bs5 j ∧ bs5 j < P) → va_P D vwCl [(xn, .inl (cI, 16, .inl (aI nw5))), (xb, .inl (cI, 16, .inl (aI bs5))), (xw, .inl (cI, 40, .inl (aI wd5))), (xr, .inl (cI, 16, .inl (aI row))), (mo, .inr (8, [.int (iI P), .int (iI sh), .int (iI sc), .ref xk, .ref xt, .ref xc, .ref xx, .ref xy, .ref xz, .int (iI cnt), .ref xr, .int (iI ak), .long tr, .ref xl, .int (iI Lr), .ref xC, .ref xF, .ref xK, .ref xn, .ref xb, .ref xw, .ref xa, .int (iI K), .ref yx, .ref yy, .ref yz, .ref yn, .ref yc, .ref yl])), (xC, .inl (cI, 40, .inl (aI crr))), (xF, .inl (cI, 40, .inl (aI fr2_1))), (xK, .inl (cI, 40, .inl (aI kp2_2))), (xl, .inl (cI, 16, .inl (aI lkt)))] jH → va_D jA [(xn, .inl (cI, 16, .inl (aI nw5))), (xb, .inl (cI, 16, .inl (aI bs5))), (xw, .inl (cI, 40, .inl (aI wd5))), (xr, .inl (cI, 16, .inl (aI row))), (mo, .inr (8, [.int (iI P), .int (iI sh), .int (iI sc), .ref xk, .ref xt, .ref xc, .ref xx, .ref xy, .ref xz, .int (iI cnt), .ref xr, .int (iI ak), .long tr, .ref xl, .int (iI Lr), .ref xC, .ref xF, .ref xK, .ref xn, .ref xb, .ref xw, .ref xa, .int (iI K), .ref yx, .ref yy, .ref yz, .ref yn, .ref yc, .ref yl])), (xC, .inl (cI, 40, .inl (aI crr))), (xF, .inl (cI, 40, .inl (aI fr2_1))), (xK, .inl (cI, 40, .inl (aI kp2_2))), (xl, .inl (cI, 16, .inl (aI lkt)))] → va_S jA js.heap jH jL → ∀ ls : Array Slot, lv_has ls 4 [(2, .int (iI rest)), (0, .ref mo), (1, .int (iI n))] → W jp jl je rm_X8_far js jm ja jb jt jc jH jL 0 0 jQ (F0 jm 118 ls []) := by
                  intro mm
                  induction mm using Nat.strongRecOn with
                  | ind mm ih118 =>
                    intro rest ga gb nw5 bs5 wd5 jH jL hmm118 hre hga hgn h5n h5m h5a h5b hP hD hS ls hl
                    refine x_iln jS dX8_far_118 rfl hl 0 rfl ?_
                    refine x_ifle jS 146 dX8_far_119 (by decide) (by omega) (fun hc119 => ?_) (fun hc119 => ?_)
                    · skip
                      refine x_ic jS dX8_far_146 ?_
                      refine x_isn (lv' := [(2, .int (iI 0)), (0, .ref mo), (1, .int (iI n))]) jS dX8_far_147 rfl hl rfl rfl (fun ls hl => ?_)
                      refine x_ic jS dX8_far_148 ?_
                      refine x_isn (lv' := [(3, .int (iI 0)), (2, .int (iI 0)), (0, .ref mo), (1, .int (iI n))]) jS dX8_far_149 rfl hl rfl rfl (fun ls hl => ?_)
                      have loop_150 : ∀ (mm : Nat) (r : Int) (i9 : Int) (jH : Heap) (jL : List Loc), (Lr - i9).toNat = mm → (0 ≤ i9 ∧ i9 ≤ Lr) → (r = sm (fun k => nw5 k * row k) i9 % P) → (0 ≤ r ∧ r < P) → va_P D vwCl [(xn, .inl (cI, 16, .inl (aI nw5))), (xb, .inl (cI, 16, .inl (aI bs5))), (xw, .inl (cI, 40, .inl (aI wd5))), (xr, .inl (cI, 16, .inl (aI row))), (mo, .inr (8, [.int (iI P), .int (iI sh), .int (iI sc), .ref xk, .ref xt, .ref xc, .ref xx, .ref xy, .ref xz, .int (iI cnt), .ref xr, .int (iI ak), .long tr, .ref xl, .int (iI Lr), .ref xC, .ref xF, .ref xK, .ref xn, .ref xb, .ref xw, .ref xa, .int (iI K), .ref yx, .ref yy, .ref yz, .ref yn, .ref yc, .ref yl])), (xC, .inl (cI, 40, .inl (aI crr))), (xF, .inl (cI, 40, .inl (aI fr2_1))), (xK, .inl (cI, 40, .inl (aI kp2_2))), (xl, .inl (cI, 16, .inl (aI lkt)))] jH → va_D jA [(xn, .inl (cI, 16, .inl (aI nw5))), (xb, .inl (cI, 16, .inl (aI bs5))), (xw, .inl (cI, 40, .inl (aI wd5))), (xr, .inl (cI, 16, .inl (aI row))), (mo, .inr (8, [.int (iI P), .int (iI sh), .int (iI sc), .ref xk, .ref xt, .ref xc, .ref xx, .ref xy, .ref xz, .int (iI cnt), .ref xr, .int (iI ak), .long tr, .ref xl, .int (iI Lr), .ref xC, .ref xF, .ref xK, .ref xn, .ref xb, .ref xw, .ref xa, .int (iI K), .ref yx, .ref yy, .ref yz, .ref yn, .ref yc, .ref yl])), (xC, .inl (cI, 40, .inl (aI crr))), (xF, .inl (cI, 40, .inl (aI fr2_1))), (xK, .inl (cI, 40, .inl (aI kp2_2))), (xl, .inl (cI, 16, .inl (aI lkt)))] → va_S jA js.heap jH jL → ∀ ls : Array Slot, lv_has ls 4 [(3, .int (iI i9)), (2, .int (iI r)), (0, .ref mo), (1, .int (iI n))] → W jp jl je rm_X8_far js jm ja jb jt jc jH jL 0 0 jQ (F0 jm 150 ls []) := by
                        intro mm
                        induction mm using Nat.strongRecOn with
                        | ind mm ih150 =>
                          intro r i9 jH jL hmm150 hi9 hr hrb hP hD hS ls hl
                          refine x_iln jS dX8_far_150 rfl hl 0 rfl ?_
                          refine x_aln jS dX8_far_151 rfl hl 2 rfl ?_
                          refine x_get jS hK hP h_X8_far_X8 4 rfl rfl 14 rfl m_X8_far_4 rfl dX8_far_152 ?_
                          refine x_cmpge jS 185 dX8_far_155 (by decide) (by omega) (fun hc155 => ?_) (fun hc155 => ?_)
                          · skip
                            refine x_iln jS dX8_far_185 rfl hl 1 rfl ?_
                            exact x_iretW jS jr jk jq dX8_far_186 ⟨Lr, crr, fr2_1, kp2_2, lkt, nw5, bs5, wd5⟩ (hP.sub [4, 5, 6, 7, 8, 3, 0, 1, 2] rfl) (hD.sub [4, 5, 6, 7, 8, 3, 0, 1, 2] (by decide) rfl) hS (show (iI r) = (iI (if 0 ≤ n ∧ n ≤ 1000000000 then (if n < cnt then row n else if bmL P row cnt = 0 then 0 else SS n % P) else -1)) ∧ True from ⟨by rw [if_pos hc7, if_neg (by omega), if_neg (by omega), hr, show i9 = Lr by omega]; congr 1; have e := h5n 0 (by omega); rw [show rest = 0 by omega, Int.mul_zero, Int.add_zero] at hgn; rw [hgn, show (0 : Int) + n = n by omega] at e; rw [← e]; congr 1; exact sm_congr (fun k x y => by rw [show (0 : Int) + k = k by omega, hSS k x (by omega)]), trivial⟩)
                          · skip
                            refine x_iln jS dX8_far_158 rfl hl 1 rfl ?_
                            refine x_aln jS dX8_far_159 rfl hl 2 rfl ?_
                            refine x_get jS hK hP h_X8_far_X8 4 rfl rfl 18 rfl m_X8_far_5 rfl dX8_far_160 ?_
                            refine x_iln jS dX8_far_163 rfl hl 0 rfl ?_
                            refine x_iald jS hK hP 0 rfl (by omega) dX8_far_164 ?_
                            have hb164 := h5a i9 (by omega) (by omega)
                            refine x_aln jS dX8_far_165 rfl hl 2 rfl ?_
                            refine x_get jS hK hP h_X8_far_X8 4 rfl rfl 10 rfl m_X8_far_3 rfl dX8_far_166 ?_
                            refine x_iln jS dX8_far_169 rfl hl 0 rfl ?_
                            refine x_iald jS hK hP 3 rfl (by omega) dX8_far_170 ?_
                            have hb170 := hrow i9 (by omega) (by omega)
                            refine x_imulB jS dX8_far_171 (by omega) (fun hp171 => ?_)
                            refine x_iadd jS dX8_far_172 ?_
                            refine x_aln jS dX8_far_173 rfl hl 2 rfl ?_
                            refine x_get jS hK hP h_X8_far_X8 4 rfl rfl 0 rfl m_X8_far_7 rfl dX8_far_174 ?_
                            refine x_irem jS dX8_far_177 (by omega) (fun hm177 => ?_)
                            refine x_isn (lv' := [(2, .int (iI ((r + ((nw5 i9) * (row i9))) % P))), (3, .int (iI i9)), (0, .ref mo), (1, .int (iI n))]) jS dX8_far_178 rfl hl rfl rfl (fun ls hl => ?_)
                            refine x_iinc (lv' := [(3, .int (iI (i9 + 1))), (2, .int (iI ((r + ((nw5 i9) * (row i9))) % P))), (0, .ref mo), (1, .int (iI n))]) jS dX8_far_179 hl 1 rfl rfl rfl (fun ls hl => ?_)
                            refine x_goto jS 150 dX8_far_182 (by decide) ?_
                            exact ih150 _ (by omega) ((r + ((nw5 i9) * (row i9))) % P) (i9 + 1) _ _ rfl (by omega) (by rw [hr, sm_s _ hi9.1]; exact cg_add (cg_m _ _) rfl) (by omega) hP hD hS ls (lv_sub hl [0, 1, 2, 3] rfl)
                      exact loop_150 _ 0 0 _ _ rfl (by omega) (by rw [sm_0]; rfl) (by omega) hP hD hS ls (lv_sub hl [0, 1, 2, 3] rfl)
                    · skip
                      refine x_iln jS dX8_far_122 rfl hl 0 rfl ?_
                      refine x_ic jS dX8_far_123 ?_
                      refine x_iand1 jS dX8_far_124 (by omega) ?_
                      refine x_ic jS dX8_far_125 ?_
                      refine x_cmpne jS 134 dX8_far_126 (by decide) (by omega) (fun hc126 => ?_) (fun hc126 => ?_)
                      · skip
                        obtain ⟨gx, hgx⟩ : ∃ z : Int, z = ga := ⟨_, rfl⟩
                        have hgr : Rep P Lr SS nw5 gx := by rw [hgx]; exact h5n
                        have hgb2 := h5a
                        have hgy : ga + (gb + gb) * (rest / 2) = ga + gb * rest := by
                          have e : rest = 2 * (rest / 2) := by omega
                          rw [Int.add_mul]
                          have e3 : gb * rest = gb * (rest / 2) + gb * (rest / 2) := by
                            conv => lhs; rw [e]
                            grind
                          rw [e3]
                        refine x_aln jS dX8_far_134 rfl hl 1 rfl ?_
                        refine x_ic jS dX8_far_135 ?_
                        refine x_aV (wc := [(mo, .inr (8, [.int (iI P), .int (iI sh), .int (iI sc), .ref xk, .ref xt, .ref xc, .ref xx, .ref xy, .ref xz, .int (iI cnt), .ref xr, .int (iI ak), .long tr, .ref xl, .int (iI Lr), .ref xC, .ref xF, .ref xK, .ref xn, .ref xb, .ref xw, .ref xa, .int (iI K), .ref yx, .ref yy, .ref yz, .ref yn, .ref yc, .ref yl])), (xC, .inl (cI, 40, .inl (aI crr))), (xn, .inl (cI, 16, .inl (aI nw5))), (xb, .inl (cI, 16, .inl (aI bs5))), (xw, .inl (cI, 40, .inl (aI wd5)))]) (wr := [(xr, .inl (cI, 16, .inl (aI row))), (xF, .inl (cI, 40, .inl (aI fr2_1))), (xK, .inl (cI, 40, .inl (aI kp2_2))), (xl, .inl (cI, 16, .inl (aI lkt)))]) hP hD hS hA [4, 5, 0, 1, 2] [3, 6, 7, 8] rfl rfl (by decide) (by decide) (cs := 0) (ss := 0) rfl rfl (x_rnV (As := [.int (iI 1)]) (rest := []) jS hl.1 hK (c_X8_product1 jl D cI mo xk xt xc xx xy xz xr xl xC xF xK xn xb xw xa yx yy yz yn yc yl P sh sc cnt ak Lr K tr crr nw5 bs5 wd5 SS _ (by first | assumption | omega) (by first | assumption | omega) (by first | assumption | omega) (h5b) (h5b) (by first | assumption | omega)) hP hD [4, 5, 0, 1, 2] rfl rfl (by decide) 0 rfl rfl gX8_far_X8_product rfl rfl rfl kf_X8_product rfl rfl rfl rfl rfl dX8_far_136 rfl rfl) (fun u jH jL hw hP hD hS => ?_)
                        obtain ⟨bs7, wd2_3⟩ := u
                        have hw136 : (∀ t : Int, 0 ≤ t → sm (fun i => bs7 i * SS (t + i)) Lr % P = sm (fun i => sm (fun j => bs5 i * bs5 j * SS (t + (i + j))) Lr) Lr % P) ∧ (∀ j : Int, 0 ≤ j → j < Lr → 0 ≤ bs7 j ∧ bs7 j < P) := hw
                        clear hw
                        have hP : va_P D vwCl [(xr, .inl (cI, 16, .inl (aI row))), (xF, .inl (cI, 40, .inl (aI fr2_1))), (xK, .inl (cI, 40, .inl (aI kp2_2))), (xl, .inl (cI, 16, .inl (aI lkt))), (mo, .inr (8, [.int (iI P), .int (iI sh), .int (iI sc), .ref xk, .ref xt, .ref xc, .ref xx, .ref xy, .ref xz, .int (iI cnt), .ref xr, .int (iI ak), .long tr, .ref xl, .int (iI Lr), .ref xC, .ref xF, .ref xK, .ref xn, .ref xb, .ref xw, .ref xa, .int (iI K), .ref yx, .ref yy, .ref yz, .ref yn, .ref yc, .ref yl])), (xC, .inl (cI, 40, .inl (aI crr))), (xn, .inl (cI, 16, .inl (aI nw5))), (xb, .inl (cI, 16, .inl (aI bs7))), (xw, .inl (cI, 40, .inl (aI wd2_3)))] jH := hP
                        have hD : va_D jA [(xr, .inl (cI, 16, .inl (aI row))), (xF, .inl (cI, 40, .inl (aI fr2_1))), (xK, .inl (cI, 40, .inl (aI kp2_2))), (xl, .inl (cI, 16, .inl (aI lkt))), (mo, .inr (8, [.int (iI P), .int (iI sh), .int (iI sc), .ref xk, .ref xt, .ref xc, .ref xx, .ref xy, .ref xz, .int (iI cnt), .ref xr, .int (iI ak), .long tr, .ref xl, .int (iI Lr), .ref xC, .ref xF, .ref xK, .ref xn, .ref xb, .ref xw, .ref xa, .int (iI K), .ref yx, .ref yy, .ref yz, .ref yn, .ref yc, .ref yl])), (xC, .inl (cI, 40, .inl (aI crr))), (xn, .inl (cI, 16, .inl (aI nw5))), (xb, .inl (cI, 16, .inl (aI bs7))), (xw, .inl (cI, 40, .inl (aI wd2_3)))] := hD
                        refine x_iln jS dX8_far_139 rfl hl 0 rfl ?_
                        refine x_ic jS dX8_far_140 ?_
                        refine x_ishr jS dX8_far_141 (by omega) ?_
                        refine x_isn (lv' := [(2, .int (iI (rest / 2 ^ (Int.toNat 1)))), (0, .ref mo), (1, .int (iI n))]) jS dX8_far_142 rfl hl rfl rfl (fun ls hl => ?_)
                        refine x_goto jS 118 dX8_far_143 (by decide) ?_
                        have e21 : (2 : Int) ^ (Int.toNat 1) = 2 := rfl
                        exact ih118 _ (by rw [e21]; omega) (rest / 2 ^ (Int.toNat 1)) gx (gb + gb) nw5 bs7 wd2_3 _ _ rfl (by rw [e21]; omega) (by omega) (by rw [e21, ← hgn, hgx]; exact hgy) (hgr) (rep_of h5m h5m hga.2 hw136.1) (hgb2) (hw136.2) (hP.sub [6, 7, 8, 0, 4, 5, 1, 2, 3] rfl) (hD.sub [6, 7, 8, 0, 4, 5, 1, 2, 3] (by decide) rfl) hS ls (lv_sub hl [0, 1, 2] rfl)
                      · skip
                        obtain ⟨gx, hgx⟩ : ∃ z : Int, z = ga + gb := ⟨_, rfl⟩
                        have hgy : ga + gb + (gb + gb) * (rest / 2) = ga + gb * rest := by
                          have e : rest = 2 * (rest / 2) + 1 := by omega
                          have e3 : gb * rest = gb * (rest / 2) + gb * (rest / 2) + gb := by
                            conv => lhs; rw [e]
                            grind
                          rw [e3, Int.add_mul]; omega
                        refine x_aln jS dX8_far_129 rfl hl 1 rfl ?_
                        refine x_ic jS dX8_far_130 ?_
                        refine x_aV (wc := [(mo, .inr (8, [.int (iI P), .int (iI sh), .int (iI sc), .ref xk, .ref xt, .ref xc, .ref xx, .ref xy, .ref xz, .int (iI cnt), .ref xr, .int (iI ak), .long tr, .ref xl, .int (iI Lr), .ref xC, .ref xF, .ref xK, .ref xn, .ref xb, .ref xw, .ref xa, .int (iI K), .ref yx, .ref yy, .ref yz, .ref yn, .ref yc, .ref yl])), (xC, .inl (cI, 40, .inl (aI crr))), (xn, .inl (cI, 16, .inl (aI nw5))), (xb, .inl (cI, 16, .inl (aI bs5))), (xw, .inl (cI, 40, .inl (aI wd5)))]) (wr := [(xr, .inl (cI, 16, .inl (aI row))), (xF, .inl (cI, 40, .inl (aI fr2_1))), (xK, .inl (cI, 40, .inl (aI kp2_2))), (xl, .inl (cI, 16, .inl (aI lkt)))]) hP hD hS hA [4, 5, 0, 1, 2] [3, 6, 7, 8] rfl rfl (by decide) (by decide) (cs := 0) (ss := 0) rfl rfl (x_rnV (As := [.int (iI 0)]) (rest := []) jS hl.1 hK (c_X8_product0 jl D cI mo xk xt xc xx xy xz xr xl xC xF xK xn xb xw xa yx yy yz yn yc yl P sh sc cnt ak Lr K tr crr nw5 bs5 wd5 SS _ (by first | assumption | omega) (by first | assumption | omega) (by first | assumption | omega) (h5a) (h5b) (by first | assumption | omega)) hP hD [4, 5, 0, 1, 2] rfl rfl (by decide) 0 rfl rfl gX8_far_X8_product rfl rfl rfl kf_X8_product rfl rfl rfl rfl rfl dX8_far_131 rfl rfl) (fun u jH jL hw hP hD hS => ?_)
                        obtain ⟨nw7, wd2_4⟩ := u
                        have hw131 : (∀ t : Int, 0 ≤ t → sm (fun i => nw7 i * SS (t + i)) Lr % P = sm (fun i => sm (fun j => nw5 i * bs5 j * SS (t + (i + j))) Lr) Lr % P) ∧ (∀ j : Int, 0 ≤ j → j < Lr → 0 ≤ nw7 j ∧ nw7 j < P) := hw
                        clear hw
                        have hP : va_P D vwCl [(xr, .inl (cI, 16, .inl (aI row))), (xF, .inl (cI, 40, .inl (aI fr2_1))), (xK, .inl (cI, 40, .inl (aI kp2_2))), (xl, .inl (cI, 16, .inl (aI lkt))), (mo, .inr (8, [.int (iI P), .int (iI sh), .int (iI sc), .ref xk, .ref xt, .ref xc, .ref xx, .ref xy, .ref xz, .int (iI cnt), .ref xr, .int (iI ak), .long tr, .ref xl, .int (iI Lr), .ref xC, .ref xF, .ref xK, .ref xn, .ref xb, .ref xw, .ref xa, .int (iI K), .ref yx, .ref yy, .ref yz, .ref yn, .ref yc, .ref yl])), (xC, .inl (cI, 40, .inl (aI crr))), (xn, .inl (cI, 16, .inl (aI nw7))), (xb, .inl (cI, 16, .inl (aI bs5))), (xw, .inl (cI, 40, .inl (aI wd2_4)))] jH := hP
                        have hD : va_D jA [(xr, .inl (cI, 16, .inl (aI row))), (xF, .inl (cI, 40, .inl (aI fr2_1))), (xK, .inl (cI, 40, .inl (aI kp2_2))), (xl, .inl (cI, 16, .inl (aI lkt))), (mo, .inr (8, [.int (iI P), .int (iI sh), .int (iI sc), .ref xk, .ref xt, .ref xc, .ref xx, .ref xy, .ref xz, .int (iI cnt), .ref xr, .int (iI ak), .long tr, .ref xl, .int (iI Lr), .ref xC, .ref xF, .ref xK, .ref xn, .ref xb, .ref xw, .ref xa, .int (iI K), .ref yx, .ref yy, .ref yz, .ref yn, .ref yc, .ref yl])), (xC, .inl (cI, 40, .inl (aI crr))), (xn, .inl (cI, 16, .inl (aI nw7))), (xb, .inl (cI, 16, .inl (aI bs5))), (xw, .inl (cI, 40, .inl (aI wd2_4)))] := hD
                        have hgr : Rep P Lr SS nw7 gx := by rw [hgx]; exact rep_of h5n h5m hga.2 hw131.1
                        have hgb2 := hw131.2
                        refine x_aln jS dX8_far_134 rfl hl 1 rfl ?_
                        refine x_ic jS dX8_far_135 ?_
                        refine x_aV (wc := [(mo, .inr (8, [.int (iI P), .int (iI sh), .int (iI sc), .ref xk, .ref xt, .ref xc, .ref xx, .ref xy, .ref xz, .int (iI cnt), .ref xr, .int (iI ak), .long tr, .ref xl, .int (iI Lr), .ref xC, .ref xF, .ref xK, .ref xn, .ref xb, .ref xw, .ref xa, .int (iI K), .ref yx, .ref yy, .ref yz, .ref yn, .ref yc, .ref yl])), (xC, .inl (cI, 40, .inl (aI crr))), (xn, .inl (cI, 16, .inl (aI nw7))), (xb, .inl (cI, 16, .inl (aI bs5))), (xw, .inl (cI, 40, .inl (aI wd2_4)))]) (wr := [(xr, .inl (cI, 16, .inl (aI row))), (xF, .inl (cI, 40, .inl (aI fr2_1))), (xK, .inl (cI, 40, .inl (aI kp2_2))), (xl, .inl (cI, 16, .inl (aI lkt)))]) hP hD hS hA [4, 5, 6, 7, 8] [0, 1, 2, 3] rfl rfl (by decide) (by decide) (cs := 0) (ss := 0) rfl rfl (x_rnV (As := [.int (iI 1)]) (rest := []) jS hl.1 hK (c_X8_product1 jl D cI mo xk xt xc xx xy xz xr xl xC xF xK xn xb xw xa yx yy yz yn yc yl P sh sc cnt ak Lr K tr crr nw7 bs5 wd2_4 SS _ (by first | assumption | omega) (by first | assumption | omega) (by first | assumption | omega) (h5b) (h5b) (by first | assumption | omega)) hP hD [4, 5, 6, 7, 8] rfl rfl (by decide) 0 rfl rfl gX8_far_X8_product rfl rfl rfl kf_X8_product rfl rfl rfl rfl rfl dX8_far_136 rfl rfl) (fun u jH jL hw hP hD hS => ?_)
                        obtain ⟨bs7, wd2_5⟩ := u
                        have hw136 : (∀ t : Int, 0 ≤ t → sm (fun i => bs7 i * SS (t + i)) Lr % P = sm (fun i => sm (fun j => bs5 i * bs5 j * SS (t + (i + j))) Lr) Lr % P) ∧ (∀ j : Int, 0 ≤ j → j < Lr → 0 ≤ bs7 j ∧ bs7 j < P) := hw
                        clear hw
                        have hP : va_P D vwCl [(xr, .inl (cI, 16, .inl (aI row))), (xF, .inl (cI, 40, .inl (aI fr2_1))), (xK, .inl (cI, 40, .inl (aI kp2_2))), (xl, .inl (cI, 16, .inl (aI lkt))), (mo, .inr (8, [.int (iI P), .int (iI sh), .int (iI sc), .ref xk, .ref xt, .ref xc, .ref xx, .ref xy, .ref xz, .int (iI cnt), .ref xr, .int (iI ak), .long tr, .ref xl, .int (iI Lr), .ref xC, .ref xF, .ref xK, .ref xn, .ref xb, .ref xw, .ref xa, .int (iI K), .ref yx, .ref yy, .ref yz, .ref yn, .ref yc, .ref yl])), (xC, .inl (cI, 40, .inl (aI crr))), (xn, .inl (cI, 16, .inl (aI nw7))), (xb, .inl (cI, 16, .inl (aI bs7))), (xw, .inl (cI, 40, .inl (aI wd2_5)))] jH := hP
                        have hD : va_D jA [(xr, .inl (cI, 16, .inl (aI row))), (xF, .inl (cI, 40, .inl (aI fr2_1))), (xK, .inl (cI, 40, .inl (aI kp2_2))), (xl, .inl (cI, 16, .inl (aI lkt))), (mo, .inr (8, [.int (iI P), .int (iI sh), .int (iI sc), .ref xk, .ref xt, .ref xc, .ref xx, .ref xy, .ref xz, .int (iI cnt), .ref xr, .int (iI ak), .long tr, .ref xl, .int (iI Lr), .ref xC, .ref xF, .ref xK, .ref xn, .ref xb, .ref xw, .ref xa, .int (iI K), .ref yx, .ref yy, .ref yz, .ref yn, .ref yc, .ref yl])), (xC, .inl (cI, 40, .inl (aI crr))), (xn, .inl (cI, 16, .inl (aI nw7))), (xb, .inl (cI, 16, .inl (aI bs7))), (xw, .inl (cI, 40, .inl (aI wd2_5)))] := hD
                        refine x_iln jS dX8_far_139 rfl hl 0 rfl ?_
                        refine x_ic jS dX8_far_140 ?_
                        refine x_ishr jS dX8_far_141 (by omega) ?_
                        refine x_isn (lv' := [(2, .int (iI (rest / 2 ^ (Int.toNat 1)))), (0, .ref mo), (1, .int (iI n))]) jS dX8_far_142 rfl hl rfl rfl (fun ls hl => ?_)
                        refine x_goto jS 118 dX8_far_143 (by decide) ?_
                        have e21 : (2 : Int) ^ (Int.toNat 1) = 2 := rfl
                        exact ih118 _ (by rw [e21]; omega) (rest / 2 ^ (Int.toNat 1)) gx (gb + gb) nw7 bs7 wd2_5 _ _ rfl (by rw [e21]; omega) (by omega) (by rw [e21, ← hgn, hgx]; exact hgy) (hgr) (rep_of h5m h5m hga.2 hw136.1) (hgb2) (hw136.2) (hP.sub [6, 7, 8, 0, 4, 5, 1, 2, 3] rfl) (hD.sub [6, 7, 8, 0, 4, 5, 1, 2, 3] (by decide) rfl) hS ls (lv_sub hl [0, 1, 2] rfl)
                exact loop_118 _ n 0 1 nw1 bs1 wd _ _ rfl (by omega) (by omega) (by rw [Int.one_mul, Int.zero_add]) (rep_e0 hL1.1 (fun j x y => (h1 j x (by omega)).1)) (hb5m) (fun j x y => by rw [(h1 j x (by omega)).1]; split <;> omega) (hb5b) hP hD hS ls (lv_sub hl [0, 1, 2] rfl)
              · skip
                refine x_aln jS dX8_far_105 rfl hl 1 rfl ?_
                refine x_get jS hK hP h_X8_far_X8 4 rfl rfl 19 rfl m_X8_far_6 rfl dX8_far_106 ?_
                refine x_ic jS dX8_far_109 ?_
                refine x_aln jS dX8_far_110 rfl hl 1 rfl ?_
                refine x_ic jS dX8_far_111 ?_
                have hcr1 := hcrb 1 (by omega) (by omega)
                refine x_rI (x_rmV (As := [.int (iI 1)]) (rest := [.int (iI 0), .ref xb]) jS hl.1 hK (c_X8_g jl D cI mo xk xt xc xx xy xz xr xl xC xF xK xn xb xw xa yx yy yz yn yc yl P sh sc cnt ak Lr K tr 1 crr (by first | assumption | omega) (by first | assumption | omega) (by first | assumption | omega)) (hP.sub [4, 5] rfl) 0 rfl rfl gX8_far_X8_g rfl rfl rfl kf_X8_g rfl rfl rfl rfl rfl dX8_far_112 rfl rfl) ?_
                refine x_iast (ws' := [(xn, .inl (cI, 16, .inl (aI nw1))), (xb, .inl (cI, 16, .inl (aI (uI bs1 0 (gw P crr 1))))), (xw, .inl (cI, 40, .inl (aI wd))), (xr, .inl (cI, 16, .inl (aI row))), (mo, .inr (8, [.int (iI P), .int (iI sh), .int (iI sc), .ref xk, .ref xt, .ref xc, .ref xx, .ref xy, .ref xz, .int (iI cnt), .ref xr, .int (iI ak), .long tr, .ref xl, .int (iI Lr), .ref xC, .ref xF, .ref xK, .ref xn, .ref xb, .ref xw, .ref xa, .int (iI K), .ref yx, .ref yy, .ref yz, .ref yn, .ref yc, .ref yl])), (xC, .inl (cI, 40, .inl (aI crr))), (xF, .inl (cI, 40, .inl (aI fr2_1))), (xK, .inl (cI, 40, .inl (aI kp2_2))), (xl, .inl (cI, 16, .inl (aI lkt)))]) jS hK hP hD hS 1 rfl (by omega) dX8_far_115 rfl (fun jH jL hP hD hS => ?_)
                have hg1 := gw_in (show 0 < P by omega) crr 1
                have hb5m : Rep P Lr SS (uI bs1 0 (gw P crr 1)) 1 := rep_g1 hc102 hgo2 uI_s
                have hb5b : ∀ j : Int, 0 ≤ j → j < Lr → 0 ≤ uI bs1 0 (gw P crr 1) j ∧ uI bs1 0 (gw P crr 1) j < P := fun j x y => by rw [show j = 0 by omega, uI_s]; exact hg1
                refine x_iln jS dX8_far_116 rfl hl 2 rfl ?_
                refine x_isn (lv' := [(2, .int (iI n)), (0, .ref mo), (1, .int (iI n))]) jS dX8_far_117 rfl hl rfl rfl (fun ls hl => ?_)
                have loop_118 : ∀ (mm : Nat) (rest : Int) (ga : Int) (gb : Int) (nw5 : Int → Int) (bs5 : Int → Int) (wd5 : Int → Int) (jH : Heap) (jL : List Loc), (rest).toNat = mm → (0 ≤ rest ∧ rest ≤ 1000000000) → (0 ≤ ga ∧ 0 ≤ gb) → (ga + gb * rest = n) → (Rep P Lr SS nw5 ga) → (Rep P Lr SS bs5 gb) → (∀ j : Int, 0 ≤ j → j < Lr → 0 ≤ nw5 j ∧ nw5 j < P) → (∀ j : Int, 0 ≤ j → j < Lr → 0 ≤ bs5 j ∧ bs5 j < P) → va_P D vwCl [(xn, .inl (cI, 16, .inl (aI nw5))), (xb, .inl (cI, 16, .inl (aI bs5))), (xw, .inl (cI, 40, .inl (aI wd5))), (xr, .inl (cI, 16, .inl (aI row))), (mo, .inr (8, [.int (iI P), .int (iI sh), .int (iI sc), .ref xk, .ref xt, .ref xc, .ref xx, .ref xy, .ref xz, .int (iI cnt), .ref xr, .int (iI ak), .long tr, .ref xl, .int (iI Lr), .ref xC, .ref xF, .ref xK, .ref xn, .ref xb, .ref xw, .ref xa, .int (iI K), .ref yx, .ref yy, .ref yz, .ref yn, .ref yc, .ref yl])), (xC, .inl (cI, 40, .inl (aI crr))), (xF, .inl (cI, 40, .inl (aI fr2_1))), (xK, .inl (cI, 40, .inl (aI kp2_2))), (xl, .inl (cI, 16, .inl (aI lkt)))] jH → va_D jA [(xn, .inl (cI, 16, .inl (aI nw5))), (xb, .inl (cI, 16, .inl (aI bs5))), (xw, .inl (cI, 40, .inl (aI wd5))), (xr, .inl (cI, 16, .inl (aI row))), (mo, .inr (8, [.int (iI P), .int (iI sh), .int (iI sc), .ref xk, .ref xt, .ref xc, .ref xx, .ref xy, .ref xz, .int (iI cnt), .ref xr, .int (iI ak), .long tr, .ref xl, .int (iI Lr), .ref xC, .ref xF, .ref xK, .ref xn, .ref xb, .ref xw, .ref xa, .int (iI K), .ref yx, .ref yy, .ref yz, .ref yn, .ref yc, .ref yl])), (xC, .inl (cI, 40, .inl (aI crr))), (xF, .inl (cI, 40, .inl (aI fr2_1))), (xK, .inl (cI, 40, .inl (aI kp2_2))), (xl, .inl (cI, 16, .inl (aI lkt)))] → va_S jA js.heap jH jL → ∀ ls : Array Slot, lv_has ls 4 [(2, .int (iI rest)), (0, .ref mo), (1, .int (iI n))] → W jp jl je rm_X8_far js jm ja jb jt jc jH jL 0 0 jQ (F0 jm 118 ls []) := by
                  intro mm
                  induction mm using Nat.strongRecOn with
                  | ind mm ih118 =>
                    intro rest ga gb nw5 bs5 wd5 jH jL hmm118 hre hga hgn h5n h5m h5a h5b hP hD hS ls hl
                    refine x_iln jS dX8_far_118 rfl hl 0 rfl ?_
                    refine x_ifle jS 146 dX8_far_119 (by decide) (by omega) (fun hc119 => ?_) (fun hc119 => ?_)
                    · skip
                      refine x_ic jS dX8_far_146 ?_
                      refine x_isn (lv' := [(2, .int (iI 0)), (0, .ref mo), (1, .int (iI n))]) jS dX8_far_147 rfl hl rfl rfl (fun ls hl => ?_)
                      refine x_ic jS dX8_far_148 ?_
                      refine x_isn (lv' := [(3, .int (iI 0)), (2, .int (iI 0)), (0, .ref mo), (1, .int (iI n))]) jS dX8_far_149 rfl hl rfl rfl (fun ls hl => ?_)
                      have loop_150 : ∀ (mm : Nat) (r : Int) (i9 : Int) (jH : Heap) (jL : List Loc), (Lr - i9).toNat = mm → (0 ≤ i9 ∧ i9 ≤ Lr) → (r = sm (fun k => nw5 k * row k) i9 % P) → (0 ≤ r ∧ r < P) → va_P D vwCl [(xn, .inl (cI, 16, .inl (aI nw5))), (xb, .inl (cI, 16, .inl (aI bs5))), (xw, .inl (cI, 40, .inl (aI wd5))), (xr, .inl (cI, 16, .inl (aI row))), (mo, .inr (8, [.int (iI P), .int (iI sh), .int (iI sc), .ref xk, .ref xt, .ref xc, .ref xx, .ref xy, .ref xz, .int (iI cnt), .ref xr, .int (iI ak), .long tr, .ref xl, .int (iI Lr), .ref xC, .ref xF, .ref xK, .ref xn, .ref xb, .ref xw, .ref xa, .int (iI K), .ref yx, .ref yy, .ref yz, .ref yn, .ref yc, .ref yl])), (xC, .inl (cI, 40, .inl (aI crr))), (xF, .inl (cI, 40, .inl (aI fr2_1))), (xK, .inl (cI, 40, .inl (aI kp2_2))), (xl, .inl (cI, 16, .inl (aI lkt)))] jH → va_D jA [(xn, .inl (cI, 16, .inl (aI nw5))), (xb, .inl (cI, 16, .inl (aI bs5))), (xw, .inl (cI, 40, .inl (aI wd5))), (xr, .inl (cI, 16, .inl (aI row))), (mo, .inr (8, [.int (iI P), .int (iI sh), .int (iI sc), .ref xk, .ref xt, .ref xc, .ref xx, .ref xy, .ref xz, .int (iI cnt), .ref xr, .int (iI ak), .long tr, .ref xl, .int (iI Lr), .ref xC, .ref xF, .ref xK, .ref xn, .ref xb, .ref xw, .ref xa, .int (iI K), .ref yx, .ref yy, .ref yz, .ref yn, .ref yc, .ref yl])), (xC, .inl (cI, 40, .inl (aI crr))), (xF, .inl (cI, 40, .inl (aI fr2_1))), (xK, .inl (cI, 40, .inl (aI kp2_2))), (xl, .inl (cI, 16, .inl (aI lkt)))] → va_S jA js.heap jH jL → ∀ ls : Array Slot, lv_has ls 4 [(3, .int (iI i9)), (2, .int (iI r)), (0, .ref mo), (1, .int (iI n))] → W jp jl je rm_X8_far js jm ja jb jt jc jH jL 0 0 jQ (F0 jm 150 ls []) := by
                        intro mm
                        induction mm using Nat.strongRecOn with
                        | ind mm ih150 =>
                          intro r i9 jH jL hmm150 hi9 hr hrb hP hD hS ls hl
                          refine x_iln jS dX8_far_150 rfl hl 0 rfl ?_
                          refine x_aln jS dX8_far_151 rfl hl 2 rfl ?_
                          refine x_get jS hK hP h_X8_far_X8 4 rfl rfl 14 rfl m_X8_far_4 rfl dX8_far_152 ?_
                          refine x_cmpge jS 185 dX8_far_155 (by decide) (by omega) (fun hc155 => ?_) (fun hc155 => ?_)
                          · skip
                            refine x_iln jS dX8_far_185 rfl hl 1 rfl ?_
                            exact x_iretW jS jr jk jq dX8_far_186 ⟨Lr, crr, fr2_1, kp2_2, lkt, nw5, bs5, wd5⟩ (hP.sub [4, 5, 6, 7, 8, 3, 0, 1, 2] rfl) (hD.sub [4, 5, 6, 7, 8, 3, 0, 1, 2] (by decide) rfl) hS (show (iI r) = (iI (if 0 ≤ n ∧ n ≤ 1000000000 then (if n < cnt then row n else if bmL P row cnt = 0 then 0 else SS n % P) else -1)) ∧ True from ⟨by rw [if_pos hc7, if_neg (by omega), if_neg (by omega), hr, show i9 = Lr by omega]; congr 1; have e := h5n 0 (by omega); rw [show rest = 0 by omega, Int.mul_zero, Int.add_zero] at hgn; rw [hgn, show (0 : Int) + n = n by omega] at e; rw [← e]; congr 1; exact sm_congr (fun k x y => by rw [show (0 : Int) + k = k by omega, hSS k x (by omega)]), trivial⟩)
                          · skip
                            refine x_iln jS dX8_far_158 rfl hl 1 rfl ?_
                            refine x_aln jS dX8_far_159 rfl hl 2 rfl ?_
                            refine x_get jS hK hP h_X8_far_X8 4 rfl rfl 18 rfl m_X8_far_5 rfl dX8_far_160 ?_
                            refine x_iln jS dX8_far_163 rfl hl 0 rfl ?_
                            refine x_iald jS hK hP 0 rfl (by omega) dX8_far_164 ?_
                            have hb164 := h5a i9 (by omega) (by omega)
                            refine x_aln jS dX8_far_165 rfl hl 2 rfl ?_
                            refine x_get jS hK hP h_X8_far_X8 4 rfl rfl 10 rfl m_X8_far_3 rfl dX8_far_166 ?_
                            refine x_iln jS dX8_far_169 rfl hl 0 rfl ?_
                            refine x_iald jS hK hP 3 rfl (by omega) dX8_far_170 ?_
                            have hb170 := hrow i9 (by omega) (by omega)
                            refine x_imulB jS dX8_far_171 (by omega) (fun hp171 => ?_)
                            refine x_iadd jS dX8_far_172 ?_
                            refine x_aln jS dX8_far_173 rfl hl 2 rfl ?_
                            refine x_get jS hK hP h_X8_far_X8 4 rfl rfl 0 rfl m_X8_far_7 rfl dX8_far_174 ?_
                            refine x_irem jS dX8_far_177 (by omega) (fun hm177 => ?_)
                            refine x_isn (lv' := [(2, .int (iI ((r + ((nw5 i9) * (row i9))) % P))), (3, .int (iI i9)), (0, .ref mo), (1, .int (iI n))]) jS dX8_far_178 rfl hl rfl rfl (fun ls hl => ?_)
                            refine x_iinc (lv' := [(3, .int (iI (i9 + 1))), (2, .int (iI ((r + ((nw5 i9) * (row i9))) % P))), (0, .ref mo), (1, .int (iI n))]) jS dX8_far_179 hl 1 rfl rfl rfl (fun ls hl => ?_)
                            refine x_goto jS 150 dX8_far_182 (by decide) ?_
                            exact ih150 _ (by omega) ((r + ((nw5 i9) * (row i9))) % P) (i9 + 1) _ _ rfl (by omega) (by rw [hr, sm_s _ hi9.1]; exact cg_add (cg_m _ _) rfl) (by omega) hP hD hS ls (lv_sub hl [0, 1, 2, 3] rfl)
                      exact loop_150 _ 0 0 _ _ rfl (by omega) (by rw [sm_0]; rfl) (by omega) hP hD hS ls (lv_sub hl [0, 1, 2, 3] rfl)
                    · skip
                      refine x_iln jS dX8_far_122 rfl hl 0 rfl ?_
                      refine x_ic jS dX8_far_123 ?_
                      refine x_iand1 jS dX8_far_124 (by omega) ?_
                      refine x_ic jS dX8_far_125 ?_
                      refine x_cmpne jS 134 dX8_far_126 (by decide) (by omega) (fun hc126 => ?_) (fun hc126 => ?_)
                      · skip
                        obtain ⟨gx, hgx⟩ : ∃ z : Int, z = ga := ⟨_, rfl⟩
                        have hgr : Rep P Lr SS nw5 gx := by rw [hgx]; exact h5n
                        have hgb2 := h5a
                        have hgy : ga + (gb + gb) * (rest / 2) = ga + gb * rest := by
                          have e : rest = 2 * (rest / 2) := by omega
                          rw [Int.add_mul]
                          have e3 : gb * rest = gb * (rest / 2) + gb * (rest / 2) := by
                            conv => lhs; rw [e]
                            grind
                          rw [e3]
                        refine x_aln jS dX8_far_134 rfl hl 1 rfl ?_
                        refine x_ic jS dX8_far_135 ?_
                        refine x_aV (wc := [(mo, .inr (8, [.int (iI P), .int (iI sh), .int (iI sc), .ref xk, .ref xt, .ref xc, .ref xx, .ref xy, .ref xz, .int (iI cnt), .ref xr, .int (iI ak), .long tr, .ref xl, .int (iI Lr), .ref xC, .ref xF, .ref xK, .ref xn, .ref xb, .ref xw, .ref xa, .int (iI K), .ref yx, .ref yy, .ref yz, .ref yn, .ref yc, .ref yl])), (xC, .inl (cI, 40, .inl (aI crr))), (xn, .inl (cI, 16, .inl (aI nw5))), (xb, .inl (cI, 16, .inl (aI bs5))), (xw, .inl (cI, 40, .inl (aI wd5)))]) (wr := [(xr, .inl (cI, 16, .inl (aI row))), (xF, .inl (cI, 40, .inl (aI fr2_1))), (xK, .inl (cI, 40, .inl (aI kp2_2))), (xl, .inl (cI, 16, .inl (aI lkt)))]) hP hD hS hA [4, 5, 0, 1, 2] [3, 6, 7, 8] rfl rfl (by decide) (by decide) (cs := 0) (ss := 0) rfl rfl (x_rnV (As := [.int (iI 1)]) (rest := []) jS hl.1 hK (c_X8_product1 jl D cI mo xk xt xc xx xy xz xr xl xC xF xK xn xb xw xa yx yy yz yn yc yl P sh sc cnt ak Lr K tr crr nw5 bs5 wd5 SS _ (by first | assumption | omega) (by first | assumption | omega) (by first | assumption | omega) (h5b) (h5b) (by first | assumption | omega)) hP hD [4, 5, 0, 1, 2] rfl rfl (by decide) 0 rfl rfl gX8_far_X8_product rfl rfl rfl kf_X8_product rfl rfl rfl rfl rfl dX8_far_136 rfl rfl) (fun u jH jL hw hP hD hS => ?_)
                        obtain ⟨bs7, wd2_6⟩ := u
                        have hw136 : (∀ t : Int, 0 ≤ t → sm (fun i => bs7 i * SS (t + i)) Lr % P = sm (fun i => sm (fun j => bs5 i * bs5 j * SS (t + (i + j))) Lr) Lr % P) ∧ (∀ j : Int, 0 ≤ j → j < Lr → 0 ≤ bs7 j ∧ bs7 j < P) := hw
                        clear hw
                        have hP : va_P D vwCl [(xr, .inl (cI, 16, .inl (aI row))), (xF, .inl (cI, 40, .inl (aI fr2_1))), (xK, .inl (cI, 40, .inl (aI kp2_2))), (xl, .inl (cI, 16, .inl (aI lkt))), (mo, .inr (8, [.int (iI P), .int (iI sh), .int (iI sc), .ref xk, .ref xt, .ref xc, .ref xx, .ref xy, .ref xz, .int (iI cnt), .ref xr, .int (iI ak), .long tr, .ref xl, .int (iI Lr), .ref xC, .ref xF, .ref xK, .ref xn, .ref xb, .ref xw, .ref xa, .int (iI K), .ref yx, .ref yy, .ref yz, .ref yn, .ref yc, .ref yl])), (xC, .inl (cI, 40, .inl (aI crr))), (xn, .inl (cI, 16, .inl (aI nw5))), (xb, .inl (cI, 16, .inl (aI bs7))), (xw, .inl (cI, 40, .inl (aI wd2_6)))] jH := hP
                        have hD : va_D jA [(xr, .inl (cI, 16, .inl (aI row))), (xF, .inl (cI, 40, .inl (aI fr2_1))), (xK, .inl (cI, 40, .inl (aI kp2_2))), (xl, .inl (cI, 16, .inl (aI lkt))), (mo, .inr (8, [.int (iI P), .int (iI sh), .int (iI sc), .ref xk, .ref xt, .ref xc, .ref xx, .ref xy, .ref xz, .int (iI cnt), .ref xr, .int (iI ak), .long tr, .ref xl, .int (iI Lr), .ref xC, .ref xF, .ref xK, .ref xn, .ref xb, .ref xw, .ref xa, .int (iI K), .ref yx, .ref yy, .ref yz, .ref yn, .ref yc, .ref yl])), (xC, .inl (cI, 40, .inl (aI crr))), (xn, .inl (cI, 16, .inl (aI nw5))), (xb, .inl (cI, 16, .inl (aI bs7))), (xw, .inl (cI, 40, .inl (aI wd2_6)))] := hD
                        refine x_iln jS dX8_far_139 rfl hl 0 rfl ?_
                        refine x_ic jS dX8_far_140 ?_
                        refine x_ishr jS dX8_far_141 (by omega) ?_
                        refine x_isn (lv' := [(2, .int (iI (rest / 2 ^ (Int.toNat 1)))), (0, .ref mo), (1, .int (iI n))]) jS dX8_far_142 rfl hl rfl rfl (fun ls hl => ?_)
                        refine x_goto jS 118 dX8_far_143 (by decide) ?_
                        have e21 : (2 : Int) ^ (Int.toNat 1) = 2 := rfl
                        exact ih118 _ (by rw [e21]; omega) (rest / 2 ^ (Int.toNat 1)) gx (gb + gb) nw5 bs7 wd2_6 _ _ rfl (by rw [e21]; omega) (by omega) (by rw [e21, ← hgn, hgx]; exact hgy) (hgr) (rep_of h5m h5m hga.2 hw136.1) (hgb2) (hw136.2) (hP.sub [6, 7, 8, 0, 4, 5, 1, 2, 3] rfl) (hD.sub [6, 7, 8, 0, 4, 5, 1, 2, 3] (by decide) rfl) hS ls (lv_sub hl [0, 1, 2] rfl)
                      · skip
                        obtain ⟨gx, hgx⟩ : ∃ z : Int, z = ga + gb := ⟨_, rfl⟩
                        have hgy : ga + gb + (gb + gb) * (rest / 2) = ga + gb * rest := by
                          have e : rest = 2 * (rest / 2) + 1 := by omega
                          have e3 : gb * rest = gb * (rest / 2) + gb * (rest / 2) + gb := by
                            conv => lhs; rw [e]
                            grind
                          rw [e3, Int.add_mul]; omega
                        refine x_aln jS dX8_far_129 rfl hl 1 rfl ?_
                        refine x_ic jS dX8_far_130 ?_
                        refine x_aV (wc := [(mo, .inr (8, [.int (iI P), .int (iI sh), .int (iI sc), .ref xk, .ref xt, .ref xc, .ref xx, .ref xy, .ref xz, .int (iI cnt), .ref xr, .int (iI ak), .long tr, .ref xl, .int (iI Lr), .ref xC, .ref xF, .ref xK, .ref xn, .ref xb, .ref xw, .ref xa, .int (iI K), .ref yx, .ref yy, .ref yz, .ref yn, .ref yc, .ref yl])), (xC, .inl (cI, 40, .inl (aI crr))), (xn, .inl (cI, 16, .inl (aI nw5))), (xb, .inl (cI, 16, .inl (aI bs5))), (xw, .inl (cI, 40, .inl (aI wd5)))]) (wr := [(xr, .inl (cI, 16, .inl (aI row))), (xF, .inl (cI, 40, .inl (aI fr2_1))), (xK, .inl (cI, 40, .inl (aI kp2_2))), (xl, .inl (cI, 16, .inl (aI lkt)))]) hP hD hS hA [4, 5, 0, 1, 2] [3, 6, 7, 8] rfl rfl (by decide) (by decide) (cs := 0) (ss := 0) rfl rfl (x_rnV (As := [.int (iI 0)]) (rest := []) jS hl.1 hK (c_X8_product0 jl D cI mo xk xt xc xx xy xz xr xl xC xF xK xn xb xw xa yx yy yz yn yc yl P sh sc cnt ak Lr K tr crr nw5 bs5 wd5 SS _ (by first | assumption | omega) (by first | assumption | omega) (by first | assumption | omega) (h5a) (h5b) (by first | assumption | omega)) hP hD [4, 5, 0, 1, 2] rfl rfl (by decide) 0 rfl rfl gX8_far_X8_product rfl rfl rfl kf_X8_product rfl rfl rfl rfl rfl dX8_far_131 rfl rfl) (fun u jH jL hw hP hD hS => ?_)
                        obtain ⟨nw7, wd2_7⟩ := u
                        have hw131 : (∀ t : Int, 0 ≤ t → sm (fun i => nw7 i * SS (t + i)) Lr % P = sm (fun i => sm (fun j => nw5 i * bs5 j * SS (t + (i + j))) Lr) Lr % P) ∧ (∀ j : Int, 0 ≤ j → j < Lr → 0 ≤ nw7 j ∧ nw7 j < P) := hw
                        clear hw
                        have hP : va_P D vwCl [(xr, .inl (cI, 16, .inl (aI row))), (xF, .inl (cI, 40, .inl (aI fr2_1))), (xK, .inl (cI, 40, .inl (aI kp2_2))), (xl, .inl (cI, 16, .inl (aI lkt))), (mo, .inr (8, [.int (iI P), .int (iI sh), .int (iI sc), .ref xk, .ref xt, .ref xc, .ref xx, .ref xy, .ref xz, .int (iI cnt), .ref xr, .int (iI ak), .long tr, .ref xl, .int (iI Lr), .ref xC, .ref xF, .ref xK, .ref xn, .ref xb, .ref xw, .ref xa, .int (iI K), .ref yx, .ref yy, .ref yz, .ref yn, .ref yc, .ref yl])), (xC, .inl (cI, 40, .inl (aI crr))), (xn, .inl (cI, 16, .inl (aI nw7))), (xb, .inl (cI, 16, .inl (aI bs5))), (xw, .inl (cI, 40, .inl (aI wd2_7)))] jH := hP
                        have hD : va_D jA [(xr, .inl (cI, 16, .inl (aI row))), (xF, .inl (cI, 40, .inl (aI fr2_1))), (xK, .inl (cI, 40, .inl (aI kp2_2))), (xl, .inl (cI, 16, .inl (aI lkt))), (mo, .inr (8, [.int (iI P), .int (iI sh), .int (iI sc), .ref xk, .ref xt, .ref xc, .ref xx, .ref xy, .ref xz, .int (iI cnt), .ref xr, .int (iI ak), .long tr, .ref xl, .int (iI Lr), .ref xC, .ref xF, .ref xK, .ref xn, .ref xb, .ref xw, .ref xa, .int (iI K), .ref yx, .ref yy, .ref yz, .ref yn, .ref yc, .ref yl])), (xC, .inl (cI, 40, .inl (aI crr))), (xn, .inl (cI, 16, .inl (aI nw7))), (xb, .inl (cI, 16, .inl (aI bs5))), (xw, .inl (cI, 40, .inl (aI wd2_7)))] := hD
                        have hgr : Rep P Lr SS nw7 gx := by rw [hgx]; exact rep_of h5n h5m hga.2 hw131.1
                        have hgb2 := hw131.2
                        refine x_aln jS dX8_far_134 rfl hl 1 rfl ?_
                        refine x_ic jS dX8_far_135 ?_
                        refine x_aV (wc := [(mo, .inr (8, [.int (iI P), .int (iI sh), .int (iI sc), .ref xk, .ref xt, .ref xc, .ref xx, .ref xy, .ref xz, .int (iI cnt), .ref xr, .int (iI ak), .long tr, .ref xl, .int (iI Lr), .ref xC, .ref xF, .ref xK, .ref xn, .ref xb, .ref xw, .ref xa, .int (iI K), .ref yx, .ref yy, .ref yz, .ref yn, .ref yc, .ref yl])), (xC, .inl (cI, 40, .inl (aI crr))), (xn, .inl (cI, 16, .inl (aI nw7))), (xb, .inl (cI, 16, .inl (aI bs5))), (xw, .inl (cI, 40, .inl (aI wd2_7)))]) (wr := [(xr, .inl (cI, 16, .inl (aI row))), (xF, .inl (cI, 40, .inl (aI fr2_1))), (xK, .inl (cI, 40, .inl (aI kp2_2))), (xl, .inl (cI, 16, .inl (aI lkt)))]) hP hD hS hA [4, 5, 6, 7, 8] [0, 1, 2, 3] rfl rfl (by decide) (by decide) (cs := 0) (ss := 0) rfl rfl (x_rnV (As := [.int (iI 1)]) (rest := []) jS hl.1 hK (c_X8_product1 jl D cI mo xk xt xc xx xy xz xr xl xC xF xK xn xb xw xa yx yy yz yn yc yl P sh sc cnt ak Lr K tr crr nw7 bs5 wd2_7 SS _ (by first | assumption | omega) (by first | assumption | omega) (by first | assumption | omega) (h5b) (h5b) (by first | assumption | omega)) hP hD [4, 5, 6, 7, 8] rfl rfl (by decide) 0 rfl rfl gX8_far_X8_product rfl rfl rfl kf_X8_product rfl rfl rfl rfl rfl dX8_far_136 rfl rfl) (fun u jH jL hw hP hD hS => ?_)
                        obtain ⟨bs7, wd2_8⟩ := u
                        have hw136 : (∀ t : Int, 0 ≤ t → sm (fun i => bs7 i * SS (t + i)) Lr % P = sm (fun i => sm (fun j => bs5 i * bs5 j * SS (t + (i + j))) Lr) Lr % P) ∧ (∀ j : Int, 0 ≤ j → j < Lr → 0 ≤ bs7 j ∧ bs7 j < P) := hw
                        clear hw
                        have hP : va_P D vwCl [(xr, .inl (cI, 16, .inl (aI row))), (xF, .inl (cI, 40, .inl (aI fr2_1))), (xK, .inl (cI, 40, .inl (aI kp2_2))), (xl, .inl (cI, 16, .inl (aI lkt))), (mo, .inr (8, [.int (iI P), .int (iI sh), .int (iI sc), .ref xk, .ref xt, .ref xc, .ref xx, .ref xy, .ref xz, .int (iI cnt), .ref xr, .int (iI ak), .long tr, .ref xl, .int (iI Lr), .ref xC, .ref xF, .ref xK, .ref xn, .ref xb, .ref xw, .ref xa, .int (iI K), .ref yx, .ref yy, .ref yz, .ref yn, .ref yc, .ref yl])), (xC, .inl (cI, 40, .inl (aI crr))), (xn, .inl (cI, 16, .inl (aI nw7))), (xb, .inl (cI, 16, .inl (aI bs7))), (xw, .inl (cI, 40, .inl (aI wd2_8)))] jH := hP
                        have hD : va_D jA [(xr, .inl (cI, 16, .inl (aI row))), (xF, .inl (cI, 40, .inl (aI fr2_1))), (xK, .inl (cI, 40, .inl (aI kp2_2))), (xl, .inl (cI, 16, .inl (aI lkt))), (mo, .inr (8, [.int (iI P), .int (iI sh), .int (iI sc), .ref xk, .ref xt, .ref xc, .ref xx, .ref xy, .ref xz, .int (iI cnt), .ref xr, .int (iI ak), .long tr, .ref xl, .int (iI Lr), .ref xC, .ref xF, .ref xK, .ref xn, .ref xb, .ref xw, .ref xa, .int (iI K), .ref yx, .ref yy, .ref yz, .ref yn, .ref yc, .ref yl])), (xC, .inl (cI, 40, .inl (aI crr))), (xn, .inl (cI, 16, .inl (aI nw7))), (xb, .inl (cI, 16, .inl (aI bs7))), (xw, .inl (cI, 40, .inl (aI wd2_8)))] := hD
                        refine x_iln jS dX8_far_139 rfl hl 0 rfl ?_
                        refine x_ic jS dX8_far_140 ?_
                        refine x_ishr jS dX8_far_141 (by omega) ?_
                        refine x_isn (lv' := [(2, .int (iI (rest / 2 ^ (Int.toNat 1)))), (0, .ref mo), (1, .int (iI n))]) jS dX8_far_142 rfl hl rfl rfl (fun ls hl => ?_)
                        refine x_goto jS 118 dX8_far_143 (by decide) ?_
                        have e21 : (2 : Int) ^ (Int.toNat 1) = 2 := rfl
                        exact ih118 _ (by rw [e21]; omega) (rest / 2 ^ (Int.toNat 1)) gx (gb + gb) nw7 bs7 wd2_8 _ _ rfl (by rw [e21]; omega) (by omega) (by rw [e21, ← hgn, hgx]; exact hgy) (hgr) (rep_of h5m h5m hga.2 hw136.1) (hgb2) (hw136.2) (hP.sub [6, 7, 8, 0, 4, 5, 1, 2, 3] rfl) (hD.sub [6, 7, 8, 0, 4, 5, 1, 2, 3] (by decide) rfl) hS ls (lv_sub hl [0, 1, 2] rfl)
                exact loop_118 _ n 0 1 nw1 (uI bs1 0 (gw P crr 1)) wd _ _ rfl (by omega) (by omega) (by rw [Int.one_mul, Int.zero_add]) (rep_e0 hL1.1 (fun j x y => (h1 j x (by omega)).1)) (hb5m) (fun j x y => by rw [(h1 j x (by omega)).1]; split <;> omega) (hb5b) hP hD hS ls (lv_sub hl [0, 1, 2] rfl)
            · skip
              refine x_aln jS dX8_far_60 rfl hl 1 rfl ?_
              refine x_get jS hK hP h_X8_far_X8 4 rfl rfl 18 rfl m_X8_far_5 rfl dX8_far_61 ?_
              refine x_iln jS dX8_far_64 rfl hl 0 rfl ?_
              refine x_iln jS dX8_far_65 rfl hl 0 rfl ?_
              refine x_ifne jS 73 dX8_far_66 (by decide) (by omega) (fun hc66 => ?_) (fun hc66 => ?_)
              · skip
                refine x_ic jS dX8_far_73 ?_
                refine x_iast (ws' := [(xn, .inl (cI, 16, .inl (aI (uI nw1 i 0)))), (xb, .inl (cI, 16, .inl (aI bs1))), (xw, .inl (cI, 40, .inl (aI wd))), (xr, .inl (cI, 16, .inl (aI row))), (mo, .inr (8, [.int (iI P), .int (iI sh), .int (iI sc), .ref xk, .ref xt, .ref xc, .ref xx, .ref xy, .ref xz, .int (iI cnt), .ref xr, .int (iI ak), .long tr, .ref xl, .int (iI Lr), .ref xC, .ref xF, .ref xK, .ref xn, .ref xb, .ref xw, .ref xa, .int (iI K), .ref yx, .ref yy, .ref yz, .ref yn, .ref yc, .ref yl])), (xC, .inl (cI, 40, .inl (aI crr))), (xF, .inl (cI, 40, .inl (aI fr2_1))), (xK, .inl (cI, 40, .inl (aI kp2_2))), (xl, .inl (cI, 16, .inl (aI lkt)))]) jS hK hP hD hS 0 rfl (by omega) dX8_far_74 rfl (fun jH jL hP hD hS => ?_)
                refine x_aln jS dX8_far_75 rfl hl 1 rfl ?_
                refine x_get jS hK hP h_X8_far_X8 4 rfl rfl 19 rfl m_X8_far_6 rfl dX8_far_76 ?_
                refine x_iln jS dX8_far_79 rfl hl 0 rfl ?_
                refine x_iln jS dX8_far_80 rfl hl 0 rfl ?_
                refine x_ic jS dX8_far_81 ?_
                refine x_cmpne jS 89 dX8_far_82 (by decide) (by omega) (fun hc82 => ?_) (fun hc82 => ?_)
                · skip
                  refine x_ic jS dX8_far_89 ?_
                  refine x_iast (ws' := [(xn, .inl (cI, 16, .inl (aI (uI nw1 i 0)))), (xb, .inl (cI, 16, .inl (aI (uI bs1 i 0)))), (xw, .inl (cI, 40, .inl (aI wd))), (xr, .inl (cI, 16, .inl (aI row))), (mo, .inr (8, [.int (iI P), .int (iI sh), .int (iI sc), .ref xk, .ref xt, .ref xc, .ref xx, .ref xy, .ref xz, .int (iI cnt), .ref xr, .int (iI ak), .long tr, .ref xl, .int (iI Lr), .ref xC, .ref xF, .ref xK, .ref xn, .ref xb, .ref xw, .ref xa, .int (iI K), .ref yx, .ref yy, .ref yz, .ref yn, .ref yc, .ref yl])), (xC, .inl (cI, 40, .inl (aI crr))), (xF, .inl (cI, 40, .inl (aI fr2_1))), (xK, .inl (cI, 40, .inl (aI kp2_2))), (xl, .inl (cI, 16, .inl (aI lkt)))]) jS hK hP hD hS 1 rfl (by omega) dX8_far_90 rfl (fun jH jL hP hD hS => ?_)
                  refine x_iinc (lv' := [(2, .int (iI (i + 1))), (0, .ref mo), (1, .int (iI n))]) jS dX8_far_91 hl 0 rfl rfl rfl (fun ls hl => ?_)
                  refine x_goto jS 52 dX8_far_94 (by decide) ?_
                  exact ih52 _ (by omega) (i + 1) (uI nw1 i 0) (uI bs1 i 0) _ _ rfl (by omega) (fun j x y => by rcases Int.lt_or_le j i with q | q; rw [uI_n (by omega), uI_n (by omega)]; exact h1 j x q; rw [show j = i by omega, uI_s, uI_s]; first | (rw [if_pos hc66]; first | (rw [if_pos hc82]; exact ⟨rfl, rfl⟩) | (rw [if_neg hc82]; exact ⟨rfl, rfl⟩)) | (rw [if_neg hc66]; first | (rw [if_pos hc82]; exact ⟨rfl, rfl⟩) | (rw [if_neg hc82]; exact ⟨rfl, rfl⟩))) hP hD hS ls (lv_sub hl [0, 1, 2] rfl)
                · skip
                  refine x_ic jS dX8_far_85 ?_
                  refine x_goto jS 90 dX8_far_86 (by decide) ?_
                  refine x_iast (ws' := [(xn, .inl (cI, 16, .inl (aI (uI nw1 i 0)))), (xb, .inl (cI, 16, .inl (aI (uI bs1 i 1)))), (xw, .inl (cI, 40, .inl (aI wd))), (xr, .inl (cI, 16, .inl (aI row))), (mo, .inr (8, [.int (iI P), .int (iI sh), .int (iI sc), .ref xk, .ref xt, .ref xc, .ref xx, .ref xy, .ref xz, .int (iI cnt), .ref xr, .int (iI ak), .long tr, .ref xl, .int (iI Lr), .ref xC, .ref xF, .ref xK, .ref xn, .ref xb, .ref xw, .ref xa, .int (iI K), .ref yx, .ref yy, .ref yz, .ref yn, .ref yc, .ref yl])), (xC, .inl (cI, 40, .inl (aI crr))), (xF, .inl (cI, 40, .inl (aI fr2_1))), (xK, .inl (cI, 40, .inl (aI kp2_2))), (xl, .inl (cI, 16, .inl (aI lkt)))]) jS hK hP hD hS 1 rfl (by omega) dX8_far_90 rfl (fun jH jL hP hD hS => ?_)
                  refine x_iinc (lv' := [(2, .int (iI (i + 1))), (0, .ref mo), (1, .int (iI n))]) jS dX8_far_91 hl 0 rfl rfl rfl (fun ls hl => ?_)
                  refine x_goto jS 52 dX8_far_94 (by decide) ?_
                  exact ih52 _ (by omega) (i + 1) (uI nw1 i 0) (uI bs1 i 1) _ _ rfl (by omega) (fun j x y => by rcases Int.lt_or_le j i with q | q; rw [uI_n (by omega), uI_n (by omega)]; exact h1 j x q; rw [show j = i by omega, uI_s, uI_s]; first | (rw [if_pos hc66]; first | (rw [if_pos hc82]; exact ⟨rfl, rfl⟩) | (rw [if_neg hc82]; exact ⟨rfl, rfl⟩)) | (rw [if_neg hc66]; first | (rw [if_pos hc82]; exact ⟨rfl, rfl⟩) | (rw [if_neg hc82]; exact ⟨rfl, rfl⟩))) hP hD hS ls (lv_sub hl [0, 1, 2] rfl)
              · skip
                refine x_ic jS dX8_far_69 ?_
                refine x_goto jS 74 dX8_far_70 (by decide) ?_
                refine x_iast (ws' := [(xn, .inl (cI, 16, .inl (aI (uI nw1 i 1)))), (xb, .inl (cI, 16, .inl (aI bs1))), (xw, .inl (cI, 40, .inl (aI wd))), (xr, .inl (cI, 16, .inl (aI row))), (mo, .inr (8, [.int (iI P), .int (iI sh), .int (iI sc), .ref xk, .ref xt, .ref xc, .ref xx, .ref xy, .ref xz, .int (iI cnt), .ref xr, .int (iI ak), .long tr, .ref xl, .int (iI Lr), .ref xC, .ref xF, .ref xK, .ref xn, .ref xb, .ref xw, .ref xa, .int (iI K), .ref yx, .ref yy, .ref yz, .ref yn, .ref yc, .ref yl])), (xC, .inl (cI, 40, .inl (aI crr))), (xF, .inl (cI, 40, .inl (aI fr2_1))), (xK, .inl (cI, 40, .inl (aI kp2_2))), (xl, .inl (cI, 16, .inl (aI lkt)))]) jS hK hP hD hS 0 rfl (by omega) dX8_far_74 rfl (fun jH jL hP hD hS => ?_)
                refine x_aln jS dX8_far_75 rfl hl 1 rfl ?_
                refine x_get jS hK hP h_X8_far_X8 4 rfl rfl 19 rfl m_X8_far_6 rfl dX8_far_76 ?_
                refine x_iln jS dX8_far_79 rfl hl 0 rfl ?_
                refine x_iln jS dX8_far_80 rfl hl 0 rfl ?_
                refine x_ic jS dX8_far_81 ?_
                refine x_cmpne jS 89 dX8_far_82 (by decide) (by omega) (fun hc82 => ?_) (fun hc82 => ?_)
                · skip
                  refine x_ic jS dX8_far_89 ?_
                  refine x_iast (ws' := [(xn, .inl (cI, 16, .inl (aI (uI nw1 i 1)))), (xb, .inl (cI, 16, .inl (aI (uI bs1 i 0)))), (xw, .inl (cI, 40, .inl (aI wd))), (xr, .inl (cI, 16, .inl (aI row))), (mo, .inr (8, [.int (iI P), .int (iI sh), .int (iI sc), .ref xk, .ref xt, .ref xc, .ref xx, .ref xy, .ref xz, .int (iI cnt), .ref xr, .int (iI ak), .long tr, .ref xl, .int (iI Lr), .ref xC, .ref xF, .ref xK, .ref xn, .ref xb, .ref xw, .ref xa, .int (iI K), .ref yx, .ref yy, .ref yz, .ref yn, .ref yc, .ref yl])), (xC, .inl (cI, 40, .inl (aI crr))), (xF, .inl (cI, 40, .inl (aI fr2_1))), (xK, .inl (cI, 40, .inl (aI kp2_2))), (xl, .inl (cI, 16, .inl (aI lkt)))]) jS hK hP hD hS 1 rfl (by omega) dX8_far_90 rfl (fun jH jL hP hD hS => ?_)
                  refine x_iinc (lv' := [(2, .int (iI (i + 1))), (0, .ref mo), (1, .int (iI n))]) jS dX8_far_91 hl 0 rfl rfl rfl (fun ls hl => ?_)
                  refine x_goto jS 52 dX8_far_94 (by decide) ?_
                  exact ih52 _ (by omega) (i + 1) (uI nw1 i 1) (uI bs1 i 0) _ _ rfl (by omega) (fun j x y => by rcases Int.lt_or_le j i with q | q; rw [uI_n (by omega), uI_n (by omega)]; exact h1 j x q; rw [show j = i by omega, uI_s, uI_s]; first | (rw [if_pos hc66]; first | (rw [if_pos hc82]; exact ⟨rfl, rfl⟩) | (rw [if_neg hc82]; exact ⟨rfl, rfl⟩)) | (rw [if_neg hc66]; first | (rw [if_pos hc82]; exact ⟨rfl, rfl⟩) | (rw [if_neg hc82]; exact ⟨rfl, rfl⟩))) hP hD hS ls (lv_sub hl [0, 1, 2] rfl)
                · skip
                  refine x_ic jS dX8_far_85 ?_
                  refine x_goto jS 90 dX8_far_86 (by decide) ?_
                  refine x_iast (ws' := [(xn, .inl (cI, 16, .inl (aI (uI nw1 i 1)))), (xb, .inl (cI, 16, .inl (aI (uI bs1 i 1)))), (xw, .inl (cI, 40, .inl (aI wd))), (xr, .inl (cI, 16, .inl (aI row))), (mo, .inr (8, [.int (iI P), .int (iI sh), .int (iI sc), .ref xk, .ref xt, .ref xc, .ref xx, .ref xy, .ref xz, .int (iI cnt), .ref xr, .int (iI ak), .long tr, .ref xl, .int (iI Lr), .ref xC, .ref xF, .ref xK, .ref xn, .ref xb, .ref xw, .ref xa, .int (iI K), .ref yx, .ref yy, .ref yz, .ref yn, .ref yc, .ref yl])), (xC, .inl (cI, 40, .inl (aI crr))), (xF, .inl (cI, 40, .inl (aI fr2_1))), (xK, .inl (cI, 40, .inl (aI kp2_2))), (xl, .inl (cI, 16, .inl (aI lkt)))]) jS hK hP hD hS 1 rfl (by omega) dX8_far_90 rfl (fun jH jL hP hD hS => ?_)
                  refine x_iinc (lv' := [(2, .int (iI (i + 1))), (0, .ref mo), (1, .int (iI n))]) jS dX8_far_91 hl 0 rfl rfl rfl (fun ls hl => ?_)
                  refine x_goto jS 52 dX8_far_94 (by decide) ?_
                  exact ih52 _ (by omega) (i + 1) (uI nw1 i 1) (uI bs1 i 1) _ _ rfl (by omega) (fun j x y => by rcases Int.lt_or_le j i with q | q; rw [uI_n (by omega), uI_n (by omega)]; exact h1 j x q; rw [show j = i by omega, uI_s, uI_s]; first | (rw [if_pos hc66]; first | (rw [if_pos hc82]; exact ⟨rfl, rfl⟩) | (rw [if_neg hc82]; exact ⟨rfl, rfl⟩)) | (rw [if_neg hc66]; first | (rw [if_pos hc82]; exact ⟨rfl, rfl⟩) | (rw [if_neg hc82]; exact ⟨rfl, rfl⟩))) hP hD hS ls (lv_sub hl [0, 1, 2] rfl)
        exact loop_52 _ 0 nw bs _ _ rfl (by omega) (fun j x y => by omega) hP hD hS ls (lv_sub hl [0, 1, 2] rfl)
      · skip
        refine x_ic jS dX8_far_48 ?_
        exact x_iretW jS jr jk jq dX8_far_49 ⟨Lr, crr, fr2_1, kp2_2, lkt, nw, bs, wd⟩ (hP.sub [4, 5, 6, 7, 8, 3, 0, 1, 2] rfl) (hD.sub [4, 5, 6, 7, 8, 3, 0, 1, 2] (by decide) rfl) hS (show (iI 0) = (iI (if 0 ≤ n ∧ n ≤ 1000000000 then (if n < cnt then row n else if bmL P row cnt = 0 then 0 else SS n % P) else -1)) ∧ True from ⟨by rw [if_pos hc7, if_neg (by omega), if_pos (by omega)], trivial⟩)
    · skip
      refine x_aln jS dX8_far_20 rfl hl 0 rfl ?_
      refine x_get jS hK hP h_X8_far_X8 0 rfl rfl 10 rfl m_X8_far_3 rfl dX8_far_21 ?_
      refine x_iln jS dX8_far_24 rfl hl 1 rfl ?_
      refine x_iald jS hK hP 5 rfl (by omega) dX8_far_25 ?_
      exact x_iretW jS jr jk jq dX8_far_26 ⟨L, cr, fr, kp, lk, nw, bs, wd⟩ hP hD hS (show (iI (row n)) = (iI (if 0 ≤ n ∧ n ≤ 1000000000 then (if n < cnt then row n else if bmL P row cnt = 0 then 0 else SS n % P) else -1)) ∧ True from ⟨by rw [if_pos hc7, if_pos hc17], trivial⟩)
  · skip
    refine x_ic jS dX8_far_10 ?_
    exact x_iretW jS jr jk jq dX8_far_11 ⟨L, cr, fr, kp, lk, nw, bs, wd⟩ hP hD hS (show (iI (-1)) = (iI (if 0 ≤ n ∧ n ≤ 1000000000 then (if n < cnt then row n else if bmL P row cnt = 0 then 0 else SS n % P) else -1)) ∧ True from ⟨by rw [if_neg hc7], trivial⟩)
theorem h_X8_lie_X8 : ∀ w ∈ u_ws RX8 TX8 29, w ∈ wsX8_lie := fun w h => List.mem_cons_of_mem _ (List.mem_append_right _ h)
theorem m_X8_lie_1 : Cond.fieldLink RX8 83 "SealedBoxModel" "said" "I" ∈ wsX8_lie := List.mem_of_getElem? (i := 1) rfl
theorem m_X8_lie_2 : Cond.fieldLink RX8 120 "SealedBoxModel" "length" "I" ∈ wsX8_lie := List.mem_of_getElem? (i := 2) rfl
theorem m_X8_lie_4 : Cond.fieldLink RX8 7 "SealedBoxModel" "p" "I" ∈ wsX8_lie := List.mem_of_getElem? (i := 4) rfl
theorem m_X8_lie_5 : Cond.fieldLink RX8 41 "SealedBoxModel" "look" "[I" ∈ wsX8_lie := List.mem_of_getElem? (i := 5) rfl
theorem m_X8_lie_6 : Cond.fieldLink RX8 38 "SealedBoxModel" "row" "[I" ∈ wsX8_lie := List.mem_of_getElem? (i := 6) rfl
theorem m_X8_lie_3 : Cond.constant RX8 142 (iI 999000) ∈ wsX8_lie := List.mem_of_getElem? (i := 3) rfl
abbrev rm_X8_lie : Room := { frames := 2, cells := 0, slots := 0, locals := 52 }
set_option maxHeartbeats 4000000 in
set_option maxRecDepth 100000 in
theorem c_X8_lie (jl : Launch) (D : va_G) (cI : ClassId) (mo xk xt xc xx xy xz xr xl xC xF xK xn xb xw xa yx yy yz yn yc yl : Nat) (P sh sc cnt ak L K : Int) (tr : Int64) (cr fr kp lk : Int → Int) (row : Int → Int) (h : Int) (sz : Nat) (hok : okP P) (hcnt : 0 ≤ cnt ∧ cnt ≤ 16) (hrow : ∀ j : Int, 0 ≤ j → j < cnt → 0 ≤ row j ∧ row j < P) (g_h : -2147483648 ≤ h ∧ h < 2147483648) : Met jl yX8_lie wsX8_lie rm_X8_lie (xPw [.ref mo, .int (iI h)] D cI [(mo, .inr (8, [.int (iI P), .int (iI sh), .int (iI sc), .ref xk, .ref xt, .ref xc, .ref xx, .ref xy, .ref xz, .int (iI cnt), .ref xr, .int (iI ak), .long tr, .ref xl, .int (iI L), .ref xC, .ref xF, .ref xK, .ref xn, .ref xb, .ref xw, .ref xa, .int (iI K), .ref yx, .ref yy, .ref yz, .ref yn, .ref yc, .ref yl])), (xC, .inl (cI, 40, .inl (aI cr))), (xF, .inl (cI, 40, .inl (aI fr))), (xK, .inl (cI, 40, .inl (aI kp))), (xl, .inl (cI, 16, .inl (aI lk))), (xr, .inl (cI, 16, .inl (aI row)))] sz) (va_Qi (fun (r : Int32) (u : Int × Int × (Int → Int) × (Int → Int) × (Int → Int) × (Int → Int)) => r = (iI u.1) ∧ ((¬ (0 ≤ h ∧ h ≤ 7) ∧ u.1 = -1) ∨ ((0 ≤ h ∧ h ≤ 7) ∧ bmL P row cnt ≤ h ∧ u.1 = 999000) ∨ ((0 ≤ h ∧ h ≤ 7) ∧ ¬ bmL P row cnt ≤ h ∧ lieP P row cnt h u.1))) (xB D (fun (u : Int × Int × (Int → Int) × (Int → Int) × (Int → Int) × (Int → Int)) => [(mo, .inr (8, [.int (iI P), .int (iI sh), .int (iI sc), .ref xk, .ref xt, .ref xc, .ref xx, .ref xy, .ref xz, .int (iI cnt), .ref xr, .int (iI ak), .long tr, .ref xl, .int (iI u.2.1), .ref xC, .ref xF, .ref xK, .ref xn, .ref xb, .ref xw, .ref xa, .int (iI K), .ref yx, .ref yy, .ref yz, .ref yn, .ref yc, .ref yl])), (xC, .inl (cI, 40, .inl (aI u.2.2.1))), (xF, .inl (cI, 40, .inl (aI u.2.2.2.1))), (xK, .inl (cI, 40, .inl (aI u.2.2.2.2.1))), (xl, .inl (cI, 16, .inl (aI u.2.2.2.2.2))), (xr, .inl (cI, 16, .inl (aI row)))]) (va_A [(mo, .inr (8, [.int (iI P), .int (iI sh), .int (iI sc), .ref xk, .ref xt, .ref xc, .ref xx, .ref xy, .ref xz, .int (iI cnt), .ref xr, .int (iI ak), .long tr, .ref xl, .int (iI L), .ref xC, .ref xF, .ref xK, .ref xn, .ref xb, .ref xw, .ref xa, .int (iI K), .ref yx, .ref yy, .ref yz, .ref yn, .ref yc, .ref yl])), (xC, .inl (cI, 40, .inl (aI cr))), (xF, .inl (cI, 40, .inl (aI fr))), (xK, .inl (cI, 40, .inl (aI kp))), (xl, .inl (cI, 16, .inl (aI lk))), (xr, .inl (cI, 16, .inl (aI row)))] sz)) (va_A [(mo, .inr (8, [.int (iI P), .int (iI sh), .int (iI sc), .ref xk, .ref xt, .ref xc, .ref xx, .ref xy, .ref xz, .int (iI cnt), .ref xr, .int (iI ak), .long tr, .ref xl, .int (iI L), .ref xC, .ref xF, .ref xK, .ref xn, .ref xb, .ref xw, .ref xa, .int (iI K), .ref yx, .ref yy, .ref yz, .ref yn, .ref yc, .ref yl])), (xC, .inl (cI, 40, .inl (aI cr))), (xF, .inl (cI, 40, .inl (aI fr))), (xK, .inl (cI, 40, .inl (aI kp))), (xl, .inl (cI, 16, .inl (aI lk))), (xr, .inl (cI, 16, .inl (aI row)))] sz)) 0 0 (va_A [(mo, .inr (8, [.int (iI P), .int (iI sh), .int (iI sc), .ref xk, .ref xt, .ref xc, .ref xx, .ref xy, .ref xz, .int (iI cnt), .ref xr, .int (iI ak), .long tr, .ref xl, .int (iI L), .ref xC, .ref xF, .ref xK, .ref xn, .ref xb, .ref xw, .ref xa, .int (iI K), .ref yx, .ref yy, .ref yz, .ref yn, .ref yc, .ref yl])), (xC, .inl (cI, 40, .inl (aI cr))), (xF, .inl (cI, 40, .inl (aI fr))), (xK, .inl (cI, 40, .inl (aI kp))), (xl, .inl (cI, 16, .inl (aI lk))), (xr, .inl (cI, 16, .inl (aI row)))] sz) := by
  refine x_metW (own := RX8) (cc := cX8_lie) (maxL := 4) (ret := (some .int)) (Qc := fun jA => va_Qi (fun (r : Int32) (u : Int × Int × (Int → Int) × (Int → Int) × (Int → Int) × (Int → Int)) => r = (iI u.1) ∧ ((¬ (0 ≤ h ∧ h ≤ 7) ∧ u.1 = -1) ∨ ((0 ≤ h ∧ h ≤ 7) ∧ bmL P row cnt ≤ h ∧ u.1 = 999000) ∨ ((0 ≤ h ∧ h ≤ 7) ∧ ¬ bmL P row cnt ≤ h ∧ lieP P row cnt h u.1))) (xB D (fun (u : Int × Int × (Int → Int) × (Int → Int) × (Int → Int) × (Int → Int)) => [(mo, .inr (8, [.int (iI P), .int (iI sh), .int (iI sc), .ref xk, .ref xt, .ref xc, .ref xx, .ref xy, .ref xz, .int (iI cnt), .ref xr, .int (iI ak), .long tr, .ref xl, .int (iI u.2.1), .ref xC, .ref xF, .ref xK, .ref xn, .ref xb, .ref xw, .ref xa, .int (iI K), .ref yx, .ref yy, .ref yz, .ref yn, .ref yc, .ref yl])), (xC, .inl (cI, 40, .inl (aI u.2.2.1))), (xF, .inl (cI, 40, .inl (aI u.2.2.2.1))), (xK, .inl (cI, 40, .inl (aI u.2.2.2.2.1))), (xl, .inl (cI, 16, .inl (aI u.2.2.2.2.2))), (xr, .inl (cI, 16, .inl (aI row)))]) jA) jA) (by decide) rfl rfl rfl ?_
  intro jp je js jm ja jb jt jc jA jQ jS jr jk jn jq hK hP hD hA hS ls hl
  have hl : lv_has ls 4 [(0, .ref mo), (1, .int (iI h))] := hl
  have hok5 := hok.1
  have hok9 := hok.2.1
  have hP2 : 2 ≤ P := by omega
  refine x_iln jS dX8_lie_0 rfl hl 1 rfl ?_
  refine x_ic jS dX8_lie_1 ?_
  refine x_bi jS dX8_lie_2 (by decide) ?_
  refine x_rI (x_rmS (As := [.int (iI h), .int (iI 0), .int (iI 7)]) (rest := []) jS hl.1 hK (c_X8_in jl D cI h 0 7 (by first | assumption | omega) (by first | assumption | omega) (by first | assumption | omega)) (hP.sub [] rfl) gX8_lie_X8_in rfl rfl rfl kf_X8_in rfl rfl rfl rfl rfl dX8_lie_4 rfl rfl) ?_
  refine x_ifneB jS 12 dX8_lie_7 (by decide) (fun hc7 => ?_) (fun hc7 => ?_)
  · skip
    refine x_aln jS dX8_lie_12 rfl hl 0 rfl ?_
    refine x_aV (wc := [(mo, .inr (8, [.int (iI P), .int (iI sh), .int (iI sc), .ref xk, .ref xt, .ref xc, .ref xx, .ref xy, .ref xz, .int (iI cnt), .ref xr, .int (iI ak), .long tr, .ref xl, .int (iI L), .ref xC, .ref xF, .ref xK, .ref xn, .ref xb, .ref xw, .ref xa, .int (iI K), .ref yx, .ref yy, .ref yz, .ref yn, .ref yc, .ref yl])), (xl, .inl (cI, 16, .inl (aI lk))), (xr, .inl (cI, 16, .inl (aI row)))]) (wr := [(xC, .inl (cI, 40, .inl (aI cr))), (xF, .inl (cI, 40, .inl (aI fr))), (xK, .inl (cI, 40, .inl (aI kp)))]) hP hD hS hA [0, 4, 5] [1, 2, 3] rfl rfl (by decide) (by decide) (cs := 0) (ss := 0) rfl rfl (x_rnV (As := []) (rest := []) jS hl.1 hK (c_X8_take jl D cI mo xk xt xc xx xy xz xr xl xC xF xK xn xb xw xa yx yy yz yn yc yl P sh sc cnt ak L K tr lk row _ (by first | assumption | omega)) hP hD [0, 4, 5] rfl rfl (by decide) 0 rfl rfl gX8_lie_X8_take rfl rfl rfl kf_X8_take rfl rfl rfl rfl rfl dX8_lie_13 rfl rfl) (fun u jH jL hw hP hD hS => ?_)
    obtain ⟨lkt, rfl⟩ : ∃ z, z = u := ⟨_, rfl⟩
    have hwt : ∀ j : Int, 0 ≤ j → j < cnt → lkt j = row j := hw
    clear hw
    have hP : va_P D vwCl [(xC, .inl (cI, 40, .inl (aI cr))), (xF, .inl (cI, 40, .inl (aI fr))), (xK, .inl (cI, 40, .inl (aI kp))), (mo, .inr (8, [.int (iI P), .int (iI sh), .int (iI sc), .ref xk, .ref xt, .ref xc, .ref xx, .ref xy, .ref xz, .int (iI cnt), .ref xr, .int (iI ak), .long tr, .ref xl, .int (iI L), .ref xC, .ref xF, .ref xK, .ref xn, .ref xb, .ref xw, .ref xa, .int (iI K), .ref yx, .ref yy, .ref yz, .ref yn, .ref yc, .ref yl])), (xl, .inl (cI, 16, .inl (aI lkt))), (xr, .inl (cI, 16, .inl (aI row)))] jH := hP
    have hD : va_D jA [(xC, .inl (cI, 40, .inl (aI cr))), (xF, .inl (cI, 40, .inl (aI fr))), (xK, .inl (cI, 40, .inl (aI kp))), (mo, .inr (8, [.int (iI P), .int (iI sh), .int (iI sc), .ref xk, .ref xt, .ref xc, .ref xx, .ref xy, .ref xz, .int (iI cnt), .ref xr, .int (iI ak), .long tr, .ref xl, .int (iI L), .ref xC, .ref xF, .ref xK, .ref xn, .ref xb, .ref xw, .ref xa, .int (iI K), .ref yx, .ref yy, .ref yz, .ref yn, .ref yc, .ref yl])), (xl, .inl (cI, 16, .inl (aI lkt))), (xr, .inl (cI, 16, .inl (aI row)))] := hD
    refine x_aln jS dX8_lie_16 rfl hl 0 rfl ?_
    refine x_aln jS dX8_lie_17 rfl hl 0 rfl ?_
    refine x_get jS hK hP h_X8_lie_X8 3 rfl rfl 9 rfl m_X8_lie_1 rfl dX8_lie_18 ?_
    refine x_iln jS dX8_lie_21 rfl hl 1 rfl ?_
    refine x_aV (wc := [(mo, .inr (8, [.int (iI P), .int (iI sh), .int (iI sc), .ref xk, .ref xt, .ref xc, .ref xx, .ref xy, .ref xz, .int (iI cnt), .ref xr, .int (iI ak), .long tr, .ref xl, .int (iI L), .ref xC, .ref xF, .ref xK, .ref xn, .ref xb, .ref xw, .ref xa, .int (iI K), .ref yx, .ref yy, .ref yz, .ref yn, .ref yc, .ref yl])), (xC, .inl (cI, 40, .inl (aI cr))), (xF, .inl (cI, 40, .inl (aI fr))), (xK, .inl (cI, 40, .inl (aI kp))), (xl, .inl (cI, 16, .inl (aI lkt)))]) (wr := [(xr, .inl (cI, 16, .inl (aI row)))]) hP hD hS hA [3, 0, 1, 2, 4] [5] rfl rfl (by decide) (by decide) (cs := 0) (ss := 0) rfl rfl (x_rnV (As := [.int (iI cnt), .int (iI h)]) (rest := []) jS hl.1 hK (c_X8_grow jl D cI mo xk xt xc xx xy xz xr xl xC xF xK xn xb xw xa yx yy yz yn yc yl P sh sc cnt ak L K tr cr fr kp lkt cnt h _ (by first | assumption | omega) (by first | assumption | omega) (by first | assumption | omega) (fun j x y => by rw [hwt j x y]; exact hrow j x y)) hP hD [3, 0, 1, 2, 4] rfl rfl (by decide) 0 rfl rfl gX8_lie_X8_grow rfl rfl rfl kf_X8_grow rfl rfl rfl rfl rfl dX8_lie_22 rfl rfl) (fun u jH jL hw hP hD hS => ?_)
    obtain ⟨nn, Lr, cr2_1, fr2_2, kp2_3⟩ := u
    have hwg : (0 ≤ nn ∧ nn ≤ cnt) ∧ Lr = bmL P lkt nn ∧ (∀ j : Int, 0 ≤ j → j < 40 → cr2_1 j = (bm P lkt (Int.toNat nn)).1 j) ∧ (nn = cnt ∨ h < Lr) := hw
    clear hw
    have hP : va_P D vwCl [(xr, .inl (cI, 16, .inl (aI row))), (mo, .inr (8, [.int (iI P), .int (iI sh), .int (iI sc), .ref xk, .ref xt, .ref xc, .ref xx, .ref xy, .ref xz, .int (iI cnt), .ref xr, .int (iI ak), .long tr, .ref xl, .int (iI Lr), .ref xC, .ref xF, .ref xK, .ref xn, .ref xb, .ref xw, .ref xa, .int (iI K), .ref yx, .ref yy, .ref yz, .ref yn, .ref yc, .ref yl])), (xC, .inl (cI, 40, .inl (aI cr2_1))), (xF, .inl (cI, 40, .inl (aI fr2_2))), (xK, .inl (cI, 40, .inl (aI kp2_3))), (xl, .inl (cI, 16, .inl (aI lkt)))] jH := hP
    have hD : va_D jA [(xr, .inl (cI, 16, .inl (aI row))), (mo, .inr (8, [.int (iI P), .int (iI sh), .int (iI sc), .ref xk, .ref xt, .ref xc, .ref xx, .ref xy, .ref xz, .int (iI cnt), .ref xr, .int (iI ak), .long tr, .ref xl, .int (iI Lr), .ref xC, .ref xF, .ref xK, .ref xn, .ref xb, .ref xw, .ref xa, .int (iI K), .ref yx, .ref yy, .ref yz, .ref yn, .ref yc, .ref yl])), (xC, .inl (cI, 40, .inl (aI cr2_1))), (xF, .inl (cI, 40, .inl (aI fr2_2))), (xK, .inl (cI, 40, .inl (aI kp2_3))), (xl, .inl (cI, 16, .inl (aI lkt)))] := hD
    have hLi := bmL_in hP2 lkt hwg.1.1
    have hge := grow_le hP2 (h := h) hwg.1 hwg.2.1 hwg.2.2.2
    rw [bmL_congr hP2 (row2 := row) (fun j x y => hwt j x y)] at hge
    refine x_aln jS dX8_lie_25 rfl hl 0 rfl ?_
    refine x_get jS hK hP h_X8_lie_X8 1 rfl rfl 14 rfl m_X8_lie_2 rfl dX8_lie_26 ?_
    refine x_iln jS dX8_lie_29 rfl hl 1 rfl ?_
    refine x_cmpgt jS 36 dX8_lie_30 (by decide) (by omega) (fun hc30 => ?_) (fun hc30 => ?_)
    · skip
      refine x_ic jS dX8_lie_36 ?_
      refine x_isn (lv' := [(2, .int (iI 0)), (0, .ref mo), (1, .int (iI h))]) jS dX8_lie_37 rfl hl rfl rfl (fun ls hl => ?_)
      have loop_38 : ∀ (mm : Nat) (pl : Int) (L1 : Int) (cr3 : Int → Int) (fr3 : Int → Int) (kp3 : Int → Int) (lk3 : Int → Int) (jH : Heap) (jL : List Loc), (cnt - pl).toNat = mm → (0 ≤ pl ∧ pl ≤ cnt) → (∀ j : Int, 0 ≤ j → j < cnt → lk3 j = row j) → (∀ p2 v2 : Int, 0 ≤ p2 → p2 < pl → 0 ≤ v2 → v2 < P → ¬ bmL P (uI row p2 v2) cnt ≤ h) → va_P D vwCl [(xr, .inl (cI, 16, .inl (aI row))), (mo, .inr (8, [.int (iI P), .int (iI sh), .int (iI sc), .ref xk, .ref xt, .ref xc, .ref xx, .ref xy, .ref xz, .int (iI cnt), .ref xr, .int (iI ak), .long tr, .ref xl, .int (iI L1), .ref xC, .ref xF, .ref xK, .ref xn, .ref xb, .ref xw, .ref xa, .int (iI K), .ref yx, .ref yy, .ref yz, .ref yn, .ref yc, .ref yl])), (xC, .inl (cI, 40, .inl (aI cr3))), (xF, .inl (cI, 40, .inl (aI fr3))), (xK, .inl (cI, 40, .inl (aI kp3))), (xl, .inl (cI, 16, .inl (aI lk3)))] jH → va_D jA [(xr, .inl (cI, 16, .inl (aI row))), (mo, .inr (8, [.int (iI P), .int (iI sh), .int (iI sc), .ref xk, .ref xt, .ref xc, .ref xx, .ref xy, .ref xz, .int (iI cnt), .ref xr, .int (iI ak), .long tr, .ref xl, .int (iI L1), .ref xC, .ref xF, .ref xK, .ref xn, .ref xb, .ref xw, .ref xa, .int (iI K), .ref yx, .ref yy, .ref yz, .ref yn, .ref yc, .ref yl])), (xC, .inl (cI, 40, .inl (aI cr3))), (xF, .inl (cI, 40, .inl (aI fr3))), (xK, .inl (cI, 40, .inl (aI kp3))), (xl, .inl (cI, 16, .inl (aI lk3)))] → va_S jA js.heap jH jL → ∀ ls : Array Slot, lv_has ls 4 [(2, .int (iI pl)), (0, .ref mo), (1, .int (iI h))] → W jp jl je rm_X8_lie js jm ja jb jt jc jH jL 0 0 jQ (F0 jm 38 ls []) := by
        intro mm
        induction mm using Nat.strongRecOn with
        | ind mm ih38 =>
          intro pl L1 cr3 fr3 kp3 lk3 jH jL hmm38 hpl h3 hno hP hD hS ls hl
          refine x_iln jS dX8_lie_38 rfl hl 0 rfl ?_
          refine x_aln jS dX8_lie_39 rfl hl 1 rfl ?_
          refine x_get jS hK hP h_X8_lie_X8 1 rfl rfl 9 rfl m_X8_lie_1 rfl dX8_lie_40 ?_
          refine x_cmpge jS 112 dX8_lie_43 (by decide) (by omega) (fun hc43 => ?_) (fun hc43 => ?_)
          · skip
            refine x_bi jS dX8_lie_112 (by decide) ?_
            exact x_iretW jS jr jk jq dX8_lie_114 ⟨(-9), L1, cr3, fr3, kp3, lk3⟩ (hP.sub [1, 2, 3, 4, 5, 0] rfl) (hD.sub [1, 2, 3, 4, 5, 0] (by decide) rfl) hS (show (iI (-9)) = (iI (-9)) ∧ ((¬ (0 ≤ h ∧ h ≤ 7) ∧ (-9) = -1) ∨ ((0 ≤ h ∧ h ≤ 7) ∧ bmL P row cnt ≤ h ∧ (-9) = 999000) ∨ ((0 ≤ h ∧ h ≤ 7) ∧ ¬ bmL P row cnt ≤ h ∧ lieP P row cnt h (-9))) from ⟨rfl, Or.inr (Or.inr ⟨hc7, fun q => by have := hge.mpr q; omega, Or.inr ⟨rfl, fun p2 v2 x y z u => hno p2 v2 x (by omega) z u⟩⟩)⟩)
          · skip
            refine x_ic jS dX8_lie_46 ?_
            refine x_isn (lv' := [(3, .int (iI 0)), (2, .int (iI pl)), (0, .ref mo), (1, .int (iI h))]) jS dX8_lie_47 rfl hl rfl rfl (fun ls hl => ?_)
            have loop_48 : ∀ (mm : Nat) (v : Int) (L5 : Int) (cr5 : Int → Int) (fr5 : Int → Int) (kp5 : Int → Int) (lk5 : Int → Int) (jH : Heap) (jL : List Loc), (P - v).toNat = mm → (0 ≤ v ∧ v ≤ P) → (∀ j : Int, 0 ≤ j → j < cnt → j ≠ pl → lk5 j = row j) → (∀ v2 : Int, 0 ≤ v2 → v2 < v → ¬ bmL P (uI row pl v2) cnt ≤ h) → va_P D vwCl [(xr, .inl (cI, 16, .inl (aI row))), (mo, .inr (8, [.int (iI P), .int (iI sh), .int (iI sc), .ref xk, .ref xt, .ref xc, .ref xx, .ref xy, .ref xz, .int (iI cnt), .ref xr, .int (iI ak), .long tr, .ref xl, .int (iI L5), .ref xC, .ref xF, .ref xK, .ref xn, .ref xb, .ref xw, .ref xa, .int (iI K), .ref yx, .ref yy, .ref yz, .ref yn, .ref yc, .ref yl])), (xC, .inl (cI, 40, .inl (aI cr5))), (xF, .inl (cI, 40, .inl (aI fr5))), (xK, .inl (cI, 40, .inl (aI kp5))), (xl, .inl (cI, 16, .inl (aI lk5)))] jH → va_D jA [(xr, .inl (cI, 16, .inl (aI row))), (mo, .inr (8, [.int (iI P), .int (iI sh), .int (iI sc), .ref xk, .ref xt, .ref xc, .ref xx, .ref xy, .ref xz, .int (iI cnt), .ref xr, .int (iI ak), .long tr, .ref xl, .int (iI L5), .ref xC, .ref xF, .ref xK, .ref xn, .ref xb, .ref xw, .ref xa, .int (iI K), .ref yx, .ref yy, .ref yz, .ref yn, .ref yc, .ref yl])), (xC, .inl (cI, 40, .inl (aI cr5))), (xF, .inl (cI, 40, .inl (aI fr5))), (xK, .inl (cI, 40, .inl (aI kp5))), (xl, .inl (cI, 16, .inl (aI lk5)))] → va_S jA js.heap jH jL → ∀ ls : Array Slot, lv_has ls 4 [(3, .int (iI v)), (2, .int (iI pl)), (0, .ref mo), (1, .int (iI h))] → W jp jl je rm_X8_lie js jm ja jb jt jc jH jL 0 0 jQ (F0 jm 48 ls []) := by
              intro mm
              induction mm using Nat.strongRecOn with
              | ind mm ih48 =>
                intro v L5 cr5 fr5 kp5 lk5 jH jL hmm48 hv h5 hnv hP hD hS ls hl
                refine x_iln jS dX8_lie_48 rfl hl 0 rfl ?_
                refine x_aln jS dX8_lie_49 rfl hl 2 rfl ?_
                refine x_get jS hK hP h_X8_lie_X8 1 rfl rfl 0 rfl m_X8_lie_4 rfl dX8_lie_50 ?_
                refine x_cmpge jS 94 dX8_lie_53 (by decide) (by omega) (fun hc53 => ?_) (fun hc53 => ?_)
                · skip
                  refine x_aln jS dX8_lie_94 rfl hl 2 rfl ?_
                  refine x_get jS hK hP h_X8_lie_X8 1 rfl rfl 13 rfl m_X8_lie_5 rfl dX8_lie_95 ?_
                  refine x_iln jS dX8_lie_98 rfl hl 1 rfl ?_
                  refine x_aln jS dX8_lie_99 rfl hl 2 rfl ?_
                  refine x_get jS hK hP h_X8_lie_X8 1 rfl rfl 10 rfl m_X8_lie_6 rfl dX8_lie_100 ?_
                  refine x_iln jS dX8_lie_103 rfl hl 1 rfl ?_
                  refine x_iald jS hK hP 0 rfl (by omega) dX8_lie_104 ?_
                  refine x_iast (ws' := [(xr, .inl (cI, 16, .inl (aI row))), (mo, .inr (8, [.int (iI P), .int (iI sh), .int (iI sc), .ref xk, .ref xt, .ref xc, .ref xx, .ref xy, .ref xz, .int (iI cnt), .ref xr, .int (iI ak), .long tr, .ref xl, .int (iI L5), .ref xC, .ref xF, .ref xK, .ref xn, .ref xb, .ref xw, .ref xa, .int (iI K), .ref yx, .ref yy, .ref yz, .ref yn, .ref yc, .ref yl])), (xC, .inl (cI, 40, .inl (aI cr5))), (xF, .inl (cI, 40, .inl (aI fr5))), (xK, .inl (cI, 40, .inl (aI kp5))), (xl, .inl (cI, 16, .inl (aI (uI lk5 pl (row pl)))))]) jS hK hP hD hS 5 rfl (by omega) dX8_lie_105 rfl (fun jH jL hP hD hS => ?_)
                  refine x_iinc (lv' := [(2, .int (iI (pl + 1))), (3, .int (iI v)), (0, .ref mo), (1, .int (iI h))]) jS dX8_lie_106 hl 1 rfl rfl rfl (fun ls hl => ?_)
                  refine x_goto jS 38 dX8_lie_109 (by decide) ?_
                  exact ih38 _ (by omega) (pl + 1) L5 cr5 fr5 kp5 (uI lk5 pl (row pl)) _ _ rfl (by omega) (fun j x y => by by_cases q : j = pl; rw [q, uI_s]; rw [uI_n q]; exact h5 j x y q) (fun p2 v2 x y z u => by rcases Int.lt_or_le p2 pl with q | q; exact hno p2 v2 x q z u; rw [show p2 = pl by omega]; exact hnv v2 z (by omega)) hP hD hS ls (lv_sub hl [0, 2, 3] rfl)
                · skip
                  refine x_aln jS dX8_lie_56 rfl hl 2 rfl ?_
                  refine x_get jS hK hP h_X8_lie_X8 1 rfl rfl 13 rfl m_X8_lie_5 rfl dX8_lie_57 ?_
                  refine x_iln jS dX8_lie_60 rfl hl 1 rfl ?_
                  refine x_iln jS dX8_lie_61 rfl hl 0 rfl ?_
                  refine x_iast (ws' := [(xr, .inl (cI, 16, .inl (aI row))), (mo, .inr (8, [.int (iI P), .int (iI sh), .int (iI sc), .ref xk, .ref xt, .ref xc, .ref xx, .ref xy, .ref xz, .int (iI cnt), .ref xr, .int (iI ak), .long tr, .ref xl, .int (iI L5), .ref xC, .ref xF, .ref xK, .ref xn, .ref xb, .ref xw, .ref xa, .int (iI K), .ref yx, .ref yy, .ref yz, .ref yn, .ref yc, .ref yl])), (xC, .inl (cI, 40, .inl (aI cr5))), (xF, .inl (cI, 40, .inl (aI fr5))), (xK, .inl (cI, 40, .inl (aI kp5))), (xl, .inl (cI, 16, .inl (aI (uI lk5 pl v))))]) jS hK hP hD hS 5 rfl (by omega) dX8_lie_62 rfl (fun jH jL hP hD hS => ?_)
                  refine x_aln jS dX8_lie_63 rfl hl 2 rfl ?_
                  refine x_aln jS dX8_lie_64 rfl hl 2 rfl ?_
                  refine x_get jS hK hP h_X8_lie_X8 1 rfl rfl 9 rfl m_X8_lie_1 rfl dX8_lie_65 ?_
                  refine x_iln jS dX8_lie_68 rfl hl 3 rfl ?_
                  have hu : ∀ j : Int, 0 ≤ j → j < cnt → uI lk5 pl v j = uI row pl v j := fun j x y => by by_cases q : j = pl; rw [q, uI_s, uI_s]; rw [uI_n q, uI_n q]; exact h5 j x y q
                  refine x_aV (wc := [(mo, .inr (8, [.int (iI P), .int (iI sh), .int (iI sc), .ref xk, .ref xt, .ref xc, .ref xx, .ref xy, .ref xz, .int (iI cnt), .ref xr, .int (iI ak), .long tr, .ref xl, .int (iI L5), .ref xC, .ref xF, .ref xK, .ref xn, .ref xb, .ref xw, .ref xa, .int (iI K), .ref yx, .ref yy, .ref yz, .ref yn, .ref yc, .ref yl])), (xC, .inl (cI, 40, .inl (aI cr5))), (xF, .inl (cI, 40, .inl (aI fr5))), (xK, .inl (cI, 40, .inl (aI kp5))), (xl, .inl (cI, 16, .inl (aI (uI lk5 pl v))))]) (wr := [(xr, .inl (cI, 16, .inl (aI row)))]) hP hD hS hA [1, 2, 3, 4, 5] [0] rfl rfl (by decide) (by decide) (cs := 0) (ss := 0) rfl rfl (x_rnV (As := [.int (iI cnt), .int (iI h)]) (rest := []) jS hl.1 hK (c_X8_grow jl D cI mo xk xt xc xx xy xz xr xl xC xF xK xn xb xw xa yx yy yz yn yc yl P sh sc cnt ak L5 K tr cr5 fr5 kp5 (uI lk5 pl v) cnt h _ (by first | assumption | omega) (by first | assumption | omega) (by first | assumption | omega) (fun j x y => by rw [hu j x y]; by_cases q : j = pl; rw [q, uI_s]; omega; rw [uI_n q]; exact hrow j x y)) hP hD [1, 2, 3, 4, 5] rfl rfl (by decide) 0 rfl rfl gX8_lie_X8_grow rfl rfl rfl kf_X8_grow rfl rfl rfl rfl rfl dX8_lie_69 rfl rfl) (fun u jH jL hw hP hD hS => ?_)
                  obtain ⟨n3, Ls, cr7, fr7, kp7⟩ := u
                  have hws : (0 ≤ n3 ∧ n3 ≤ cnt) ∧ Ls = bmL P (uI lk5 pl v) n3 ∧ (∀ j : Int, 0 ≤ j → j < 40 → cr7 j = (bm P (uI lk5 pl v) (Int.toNat n3)).1 j) ∧ (n3 = cnt ∨ h < Ls) := hw
                  clear hw
                  have hP : va_P D vwCl [(xr, .inl (cI, 16, .inl (aI row))), (mo, .inr (8, [.int (iI P), .int (iI sh), .int (iI sc), .ref xk, .ref xt, .ref xc, .ref xx, .ref xy, .ref xz, .int (iI cnt), .ref xr, .int (iI ak), .long tr, .ref xl, .int (iI Ls), .ref xC, .ref xF, .ref xK, .ref xn, .ref xb, .ref xw, .ref xa, .int (iI K), .ref yx, .ref yy, .ref yz, .ref yn, .ref yc, .ref yl])), (xC, .inl (cI, 40, .inl (aI cr7))), (xF, .inl (cI, 40, .inl (aI fr7))), (xK, .inl (cI, 40, .inl (aI kp7))), (xl, .inl (cI, 16, .inl (aI (uI lk5 pl v))))] jH := hP
                  have hD : va_D jA [(xr, .inl (cI, 16, .inl (aI row))), (mo, .inr (8, [.int (iI P), .int (iI sh), .int (iI sc), .ref xk, .ref xt, .ref xc, .ref xx, .ref xy, .ref xz, .int (iI cnt), .ref xr, .int (iI ak), .long tr, .ref xl, .int (iI Ls), .ref xC, .ref xF, .ref xK, .ref xn, .ref xb, .ref xw, .ref xa, .int (iI K), .ref yx, .ref yy, .ref yz, .ref yn, .ref yc, .ref yl])), (xC, .inl (cI, 40, .inl (aI cr7))), (xF, .inl (cI, 40, .inl (aI fr7))), (xK, .inl (cI, 40, .inl (aI kp7))), (xl, .inl (cI, 16, .inl (aI (uI lk5 pl v))))] := hD
                  have hLs := bmL_in hP2 (uI lk5 pl v) hws.1.1
                  have hgs := grow_le hP2 (h := h) hws.1 hws.2.1 hws.2.2.2
                  rw [bmL_congr hP2 (row2 := uI row pl v) hu] at hgs
                  refine x_aln jS dX8_lie_72 rfl hl 2 rfl ?_
                  refine x_get jS hK hP h_X8_lie_X8 1 rfl rfl 14 rfl m_X8_lie_2 rfl dX8_lie_73 ?_
                  refine x_iln jS dX8_lie_76 rfl hl 3 rfl ?_
                  refine x_cmpgt jS 88 dX8_lie_77 (by decide) (by omega) (fun hc77 => ?_) (fun hc77 => ?_)
                  · skip
                    refine x_iinc (lv' := [(3, .int (iI (v + 1))), (2, .int (iI pl)), (0, .ref mo), (1, .int (iI h))]) jS dX8_lie_88 hl 0 rfl rfl rfl (fun ls hl => ?_)
                    refine x_goto jS 48 dX8_lie_91 (by decide) ?_
                    exact ih48 _ (by omega) (v + 1) Ls cr7 fr7 kp7 (uI lk5 pl v) _ _ rfl (by omega) (fun j x y z => by rw [uI_n z]; exact h5 j x y z) (fun v2 x y => by rcases Int.lt_or_le v2 v with q | q; exact hnv v2 x q; rw [show v2 = v by omega, ← hgs]; omega) hP hD hS ls (lv_sub hl [0, 1, 2, 3] rfl)
                  · skip
                    refine x_si jS dX8_lie_80 (by decide) ?_
                    refine x_iln jS dX8_lie_83 rfl hl 1 rfl ?_
                    refine x_imul jS dX8_lie_84 ?_
                    refine x_iln jS dX8_lie_85 rfl hl 0 rfl ?_
                    refine x_iadd jS dX8_lie_86 ?_
                    exact x_iretW jS jr jk jq dX8_lie_87 ⟨1000 * pl + v, Ls, cr7, fr7, kp7, (uI lk5 pl v)⟩ (hP.sub [1, 2, 3, 4, 5, 0] rfl) (hD.sub [1, 2, 3, 4, 5, 0] (by decide) rfl) hS (show (iI ((1000 * pl) + v)) = (iI (1000 * pl + v)) ∧ ((¬ (0 ≤ h ∧ h ≤ 7) ∧ (1000 * pl + v) = -1) ∨ ((0 ≤ h ∧ h ≤ 7) ∧ bmL P row cnt ≤ h ∧ (1000 * pl + v) = 999000) ∨ ((0 ≤ h ∧ h ≤ 7) ∧ ¬ bmL P row cnt ≤ h ∧ lieP P row cnt h (1000 * pl + v))) from ⟨rfl, Or.inr (Or.inr ⟨hc7, fun q => by have := hge.mpr q; omega, Or.inl ⟨pl, v, hpl.1, by omega, hv.1, hc53, by omega, hgs.mp hc77, hnv, hno⟩⟩)⟩)
            exact loop_48 _ 0 L1 cr3 fr3 kp3 lk3 _ _ rfl (by omega) (fun j x y z => h3 j x y) (fun v2 x y => by omega) hP hD hS ls (lv_sub hl [0, 1, 2, 3] rfl)
      exact loop_38 _ 0 Lr cr2_1 fr2_2 kp2_3 lkt _ _ rfl (by omega) (hwt) (fun p2 v2 x y => by omega) hP hD hS ls (lv_sub hl [0, 1, 2] rfl)
    · skip
      refine x_ldc (n := 999000) jS m_X8_lie_3 dX8_lie_33 ?_
      exact x_iretW jS jr jk jq dX8_lie_35 ⟨999000, Lr, cr2_1, fr2_2, kp2_3, lkt⟩ (hP.sub [1, 2, 3, 4, 5, 0] rfl) (hD.sub [1, 2, 3, 4, 5, 0] (by decide) rfl) hS (show (iI 999000) = (iI 999000) ∧ ((¬ (0 ≤ h ∧ h ≤ 7) ∧ 999000 = -1) ∨ ((0 ≤ h ∧ h ≤ 7) ∧ bmL P row cnt ≤ h ∧ 999000 = 999000) ∨ ((0 ≤ h ∧ h ≤ 7) ∧ ¬ bmL P row cnt ≤ h ∧ lieP P row cnt h 999000)) from ⟨rfl, Or.inr (Or.inl ⟨hc7, hge.mp hc30, rfl⟩)⟩)
  · skip
    refine x_ic jS dX8_lie_10 ?_
    exact x_iretW jS jr jk jq dX8_lie_11 ⟨(-1), L, cr, fr, kp, lk⟩ hP hD hS (show (iI (-1)) = (iI (-1)) ∧ ((¬ (0 ≤ h ∧ h ≤ 7) ∧ (-1) = -1) ∨ ((0 ≤ h ∧ h ≤ 7) ∧ bmL P row cnt ≤ h ∧ (-1) = 999000) ∨ ((0 ≤ h ∧ h ≤ 7) ∧ ¬ bmL P row cnt ≤ h ∧ lieP P row cnt h (-1))) from ⟨rfl, Or.inl ⟨hc7, rfl⟩⟩)
theorem h_X8_isRoot_X8 : ∀ w ∈ u_ws RX8 TX8 29, w ∈ wsX8_isRoot := fun w h => List.mem_cons_of_mem _ (List.mem_append_right _ h)
theorem m_X8_isRoot_1 : Cond.fieldLink RX8 120 "SealedBoxModel" "length" "I" ∈ wsX8_isRoot := List.mem_of_getElem? (i := 1) rfl
theorem m_X8_isRoot_2 : Cond.fieldLink RX8 7 "SealedBoxModel" "p" "I" ∈ wsX8_isRoot := List.mem_of_getElem? (i := 2) rfl
abbrev rm_X8_isRoot : Room := { frames := 1, cells := 0, slots := 0, locals := 24 }
set_option maxHeartbeats 4000000 in
set_option maxRecDepth 100000 in
theorem c_X8_isRoot (jl : Launch) (D : va_G) (cI : ClassId) (mo xk xt xc xx xy xz xr xl xC xF xK xn xb xw xa yx yy yz yn yc yl : Nat) (P sh sc cnt ak L K : Int) (tr : Int64) (nu : Int) (cr : Int → Int)  (hP5 : 5 ≤ P ∧ P ≤ 997) (hL : 0 ≤ L ∧ L ≤ 16) (hcr : ∀ j : Int, 0 ≤ j → j < 40 → 0 ≤ cr j ∧ cr j < P) (hr : 0 ≤ nu ∧ nu < P) : Met jl yX8_isRoot wsX8_isRoot rm_X8_isRoot (xPr [.ref mo, .int (iI nu)] D cI [(mo, .inr (8, [.int (iI P), .int (iI sh), .int (iI sc), .ref xk, .ref xt, .ref xc, .ref xx, .ref xy, .ref xz, .int (iI cnt), .ref xr, .int (iI ak), .long tr, .ref xl, .int (iI L), .ref xC, .ref xF, .ref xK, .ref xn, .ref xb, .ref xw, .ref xa, .int (iI K), .ref yx, .ref yy, .ref yz, .ref yn, .ref yc, .ref yl])), (xC, .inl (cI, 40, .inl (aI cr)))]) (vp_Si (fun r => r = (iI (bI (isR P cr L nu))))) 0 0 (fun _ => False) := by
  refine x_metR (own := RX8) (cc := cX8_isRoot) (maxL := 4) (ret := (some .boolean)) (by decide) rfl rfl rfl ?_
  intro jp je js jm ja jb jt jc jQ jS jr jk jq hK hP ls hl
  have hl : lv_has ls 4 [(0, .ref mo), (1, .int (iI nu))] := hl
  refine x_ic jS dX8_isRoot_0 ?_
  refine x_isn (lv' := [(2, .int (iI 0)), (0, .ref mo), (1, .int (iI nu))]) jS dX8_isRoot_1 rfl hl rfl rfl (fun ls hl => ?_)
  refine x_ic jS dX8_isRoot_2 ?_
  refine x_isn (lv' := [(3, .int (iI 1)), (2, .int (iI 0)), (0, .ref mo), (1, .int (iI nu))]) jS dX8_isRoot_3 rfl hl rfl rfl (fun ls hl => ?_)
  have loop_4 : ∀ (mm : Nat) (s : Int) (k : Int), (L + 1 - k).toNat = mm → (1 ≤ k ∧ k ≤ L + 1) → (s = sm (fun u => gw P cr (u + 1) * pw P nu (L - 1 - u)) (k - 1) % P) → (0 ≤ s ∧ s < P) → ∀ ls : Array Slot, lv_has ls 4 [(3, .int (iI k)), (2, .int (iI s)), (0, .ref mo), (1, .int (iI nu))] → W jp jl je rm_X8_isRoot js jm ja jb jt jc js.heap [] 0 0 jQ (F0 jm 4 ls []) := by
    intro mm
    induction mm using Nat.strongRecOn with
    | ind mm ih4 =>
      intro s k hmm4 hk hs hsb ls hl
      refine x_iln jS dX8_isRoot_4 rfl hl 0 rfl ?_
      refine x_aln jS dX8_isRoot_5 rfl hl 2 rfl ?_
      refine x_get jS hK hP h_X8_isRoot_X8 0 rfl rfl 14 rfl m_X8_isRoot_1 rfl dX8_isRoot_6 ?_
      refine x_cmpgt jS 43 dX8_isRoot_9 (by decide) (by omega) (fun hc9 => ?_) (fun hc9 => ?_)
      · skip
        refine x_iln jS dX8_isRoot_43 rfl hl 1 rfl ?_
        refine x_aln jS dX8_isRoot_44 rfl hl 2 rfl ?_
        refine x_iln jS dX8_isRoot_45 rfl hl 3 rfl ?_
        refine x_aln jS dX8_isRoot_46 rfl hl 2 rfl ?_
        refine x_get jS hK hP h_X8_isRoot_X8 0 rfl rfl 14 rfl m_X8_isRoot_1 rfl dX8_isRoot_47 ?_
        refine x_rI (x_rmV (As := [.int (iI nu), .int (iI L)]) (rest := [.int (iI s)]) jS hl.1 hK (c_X8_raised jl D cI mo xk xt xc xx xy xz xr xl xC xF xK xn xb xw xa yx yy yz yn yc yl P sh sc cnt ak L K tr nu L (by first | assumption | omega) (by first | assumption | omega) (by first | assumption | omega)) (hP.sub [0] rfl) 0 rfl rfl gX8_isRoot_X8_raised rfl rfl rfl kf_X8_raised rfl rfl rfl rfl rfl dX8_isRoot_50 rfl rfl) ?_
        have hpL := pw_in (show 2 ≤ P by omega) nu L
        refine x_cmpne jS 60 dX8_isRoot_53 (by decide) (by omega) (fun hc53 => ?_) (fun hc53 => ?_)
        · skip
          refine x_ic jS dX8_isRoot_60 ?_
          exact x_zretR jS jr jk jq dX8_isRoot_61 rfl (congrArg iI (bI_f (fun g => hc53 (by rw [hs, show k - 1 = L by omega]; exact (rt_sum (P := P) (by omega) cr hL.1 nu).mp g))).symm)
        · skip
          refine x_ic jS dX8_isRoot_56 ?_
          refine x_goto jS 61 dX8_isRoot_57 (by decide) ?_
          exact x_zretR jS jr jk jq dX8_isRoot_61 rfl (congrArg iI (bI_t ((rt_sum (P := P) (by omega) cr hL.1 nu).mpr (by rw [← hc53, hs, show k - 1 = L by omega]))).symm)
      · skip
        refine x_iln jS dX8_isRoot_12 rfl hl 1 rfl ?_
        refine x_aln jS dX8_isRoot_13 rfl hl 2 rfl ?_
        refine x_iln jS dX8_isRoot_14 rfl hl 0 rfl ?_
        have hck := hcr k (by omega) (by omega)
        refine x_rI (x_rmV (As := [.int (iI k)]) (rest := [.int (iI s)]) jS hl.1 hK (c_X8_g jl D cI mo xk xt xc xx xy xz xr xl xC xF xK xn xb xw xa yx yy yz yn yc yl P sh sc cnt ak L K tr k cr (by first | assumption | omega) (by first | assumption | omega) (by first | assumption | omega)) (hP.sub [0, 1] rfl) 0 rfl rfl gX8_isRoot_X8_g rfl rfl rfl kf_X8_g rfl rfl rfl rfl rfl dX8_isRoot_15 rfl rfl) ?_
        have hgk := gw_in (show 0 < P by omega) cr k
        refine x_aln jS dX8_isRoot_18 rfl hl 2 rfl ?_
        refine x_iln jS dX8_isRoot_19 rfl hl 3 rfl ?_
        refine x_aln jS dX8_isRoot_20 rfl hl 2 rfl ?_
        refine x_get jS hK hP h_X8_isRoot_X8 0 rfl rfl 14 rfl m_X8_isRoot_1 rfl dX8_isRoot_21 ?_
        refine x_iln jS dX8_isRoot_24 rfl hl 0 rfl ?_
        refine x_isub jS dX8_isRoot_25 ?_
        refine x_rI (x_rmV (As := [.int (iI nu), .int (iI (L - k))]) (rest := [.int (iI (gw P cr k)), .int (iI s)]) jS hl.1 hK (c_X8_raised jl D cI mo xk xt xc xx xy xz xr xl xC xF xK xn xb xw xa yx yy yz yn yc yl P sh sc cnt ak L K tr nu (L - k) (by first | assumption | omega) (by first | assumption | omega) (by first | assumption | omega)) (hP.sub [0] rfl) 0 rfl rfl gX8_isRoot_X8_raised rfl rfl rfl kf_X8_raised rfl rfl rfl rfl rfl dX8_isRoot_26 rfl rfl) ?_
        have hpk := pw_in (show 2 ≤ P by omega) nu (L - k)
        refine x_imulB jS dX8_isRoot_29 (by omega) (fun hp29 => ?_)
        refine x_iadd jS dX8_isRoot_30 ?_
        refine x_aln jS dX8_isRoot_31 rfl hl 2 rfl ?_
        refine x_get jS hK hP h_X8_isRoot_X8 0 rfl rfl 0 rfl m_X8_isRoot_2 rfl dX8_isRoot_32 ?_
        refine x_irem jS dX8_isRoot_35 (by omega) (fun hm35 => ?_)
        refine x_isn (lv' := [(2, .int (iI ((s + ((gw P cr k) * (pw P nu (L - k)))) % P))), (3, .int (iI k)), (0, .ref mo), (1, .int (iI nu))]) jS dX8_isRoot_36 rfl hl rfl rfl (fun ls hl => ?_)
        refine x_iinc (lv' := [(3, .int (iI (k + 1))), (2, .int (iI ((s + ((gw P cr k) * (pw P nu (L - k)))) % P))), (0, .ref mo), (1, .int (iI nu))]) jS dX8_isRoot_37 hl 1 rfl rfl rfl (fun ls hl => ?_)
        refine x_goto jS 4 dX8_isRoot_40 (by decide) ?_
        exact ih4 _ (by omega) ((s + ((gw P cr k) * (pw P nu (L - k)))) % P) (k + 1) rfl (by omega) (by rw [hs, show k + 1 - 1 = (k - 1) + 1 by omega, sm_s _ (show 0 ≤ k - 1 by omega), show k - 1 + 1 = k by omega, show L - 1 - (k - 1) = L - k by omega]; exact cg_add (cg_m _ _) rfl) (by omega) ls (lv_sub hl [0, 1, 2, 3] rfl)
  exact loop_4 _ 0 1 rfl (by omega) (by rw [show (1 : Int) - 1 = 0 by omega, sm_0]; rfl) (by omega) ls (lv_sub hl [0, 1, 2, 3] rfl)
theorem h_X8_told_X8 : ∀ w ∈ u_ws RX8 TX8 29, w ∈ wsX8_told := fun w h => List.mem_cons_of_mem _ (List.mem_append_right _ h)
theorem m_X8_told_1 : Cond.fieldLink RX8 143 "SealedBoxModel" "keys" "I" ∈ wsX8_told := List.mem_of_getElem? (i := 1) rfl
theorem m_X8_told_2 : Cond.fieldLink RX8 77 "SealedBoxModel" "keyCoefficient" "[I" ∈ wsX8_told := List.mem_of_getElem? (i := 2) rfl
theorem m_X8_told_3 : Cond.fieldLink RX8 74 "SealedBoxModel" "keyNumber" "[I" ∈ wsX8_told := List.mem_of_getElem? (i := 3) rfl
theorem m_X8_told_4 : Cond.fieldLink RX8 7 "SealedBoxModel" "p" "I" ∈ wsX8_told := List.mem_of_getElem? (i := 4) rfl
abbrev rm_X8_told : Room := { frames := 1, cells := 0, slots := 0, locals := 24 }
set_option maxHeartbeats 4000000 in
set_option maxRecDepth 100000 in
theorem c_X8_told (jl : Launch) (D : va_G) (cI : ClassId) (mo xk xt xc xx xy xz xr xl xC xF xK xn xb xw xa yx yy yz yn yc yl : Nat) (P sh sc cnt ak L K : Int) (tr : Int64) (i : Int) (kn kf : Int → Int)  (hP5 : 5 ≤ P ∧ P ≤ 997) (hKb : 0 ≤ K ∧ K ≤ 4) (hi8 : 0 ≤ i ∧ i ≤ 8) (hkn : ∀ j : Int, 0 ≤ j → j < K → 0 ≤ kn j ∧ kn j < P) (hkf : ∀ j : Int, 0 ≤ j → j < K → 0 ≤ kf j ∧ kf j < P) : Met jl yX8_told wsX8_told rm_X8_told (xPr [.ref mo, .int (iI i)] D cI [(mo, .inr (8, [.int (iI P), .int (iI sh), .int (iI sc), .ref xk, .ref xt, .ref xc, .ref xx, .ref xy, .ref xz, .int (iI cnt), .ref xr, .int (iI ak), .long tr, .ref xl, .int (iI L), .ref xC, .ref xF, .ref xK, .ref xn, .ref xb, .ref xw, .ref xa, .int (iI K), .ref yx, .ref yy, .ref yz, .ref yn, .ref yc, .ref yl])), (yn, .inl (cI, 5, .inl (aI kn))), (yc, .inl (cI, 5, .inl (aI kf)))]) (vp_Si (fun r => r = (iI (sm (fun j => kf j * pw P (kn j) i) K % P)))) 0 0 (fun _ => False) := by
  refine x_metR (own := RX8) (cc := cX8_told) (maxL := 4) (ret := (some .int)) (by decide) rfl rfl rfl ?_
  intro jp je js jm ja jb jt jc jQ jS jr jk jq hK hP ls hl
  have hl : lv_has ls 4 [(0, .ref mo), (1, .int (iI i))] := hl
  refine x_ic jS dX8_told_0 ?_
  refine x_isn (lv' := [(2, .int (iI 0)), (0, .ref mo), (1, .int (iI i))]) jS dX8_told_1 rfl hl rfl rfl (fun ls hl => ?_)
  refine x_ic jS dX8_told_2 ?_
  refine x_isn (lv' := [(3, .int (iI 0)), (2, .int (iI 0)), (0, .ref mo), (1, .int (iI i))]) jS dX8_told_3 rfl hl rfl rfl (fun ls hl => ?_)
  have loop_4 : ∀ (mm : Nat) (s : Int) (k : Int), (K - k).toNat = mm → (0 ≤ k ∧ k ≤ K) → (s = sm (fun j => kf j * pw P (kn j) i) k % P) → (0 ≤ s ∧ s < P) → ∀ ls : Array Slot, lv_has ls 4 [(3, .int (iI k)), (2, .int (iI s)), (0, .ref mo), (1, .int (iI i))] → W jp jl je rm_X8_told js jm ja jb jt jc js.heap [] 0 0 jQ (F0 jm 4 ls []) := by
    intro mm
    induction mm using Nat.strongRecOn with
    | ind mm ih4 =>
      intro s k hmm4 hk hs hsb ls hl
      refine x_iln jS dX8_told_4 rfl hl 0 rfl ?_
      refine x_aln jS dX8_told_5 rfl hl 2 rfl ?_
      refine x_get jS hK hP h_X8_told_X8 0 rfl rfl 22 rfl m_X8_told_1 rfl dX8_told_6 ?_
      refine x_cmpge jS 44 dX8_told_9 (by decide) (by omega) (fun hc9 => ?_) (fun hc9 => ?_)
      · skip
        refine x_iln jS dX8_told_44 rfl hl 1 rfl ?_
        exact x_iretR jS jr jk jq dX8_told_45 (by rw [hs, show k = K by omega])
      · skip
        refine x_iln jS dX8_told_12 rfl hl 1 rfl ?_
        refine x_aln jS dX8_told_13 rfl hl 2 rfl ?_
        refine x_get jS hK hP h_X8_told_X8 0 rfl rfl 27 rfl m_X8_told_2 rfl dX8_told_14 ?_
        refine x_iln jS dX8_told_17 rfl hl 0 rfl ?_
        refine x_iald jS hK hP 2 rfl (by omega) dX8_told_18 ?_
        have hb18 := hkf k (by omega) (by omega)
        refine x_aln jS dX8_told_19 rfl hl 2 rfl ?_
        refine x_aln jS dX8_told_20 rfl hl 2 rfl ?_
        refine x_get jS hK hP h_X8_told_X8 0 rfl rfl 26 rfl m_X8_told_3 rfl dX8_told_21 ?_
        refine x_iln jS dX8_told_24 rfl hl 0 rfl ?_
        refine x_iald jS hK hP 1 rfl (by omega) dX8_told_25 ?_
        have hb25 := hkn k (by omega) (by omega)
        refine x_iln jS dX8_told_26 rfl hl 3 rfl ?_
        refine x_rI (x_rmV (As := [.int (iI (kn k)), .int (iI i)]) (rest := [.int (iI (kf k)), .int (iI s)]) jS hl.1 hK (c_X8_raised jl D cI mo xk xt xc xx xy xz xr xl xC xF xK xn xb xw xa yx yy yz yn yc yl P sh sc cnt ak L K tr (kn k) i (by first | assumption | omega) (by first | assumption | omega) (by first | assumption | omega)) (hP.sub [0] rfl) 0 rfl rfl gX8_told_X8_raised rfl rfl rfl kf_X8_raised rfl rfl rfl rfl rfl dX8_told_27 rfl rfl) ?_
        have hpk := pw_in (show 2 ≤ P by omega) (kn k) i
        refine x_imulB jS dX8_told_30 (by omega) (fun hp30 => ?_)
        refine x_iadd jS dX8_told_31 ?_
        refine x_aln jS dX8_told_32 rfl hl 2 rfl ?_
        refine x_get jS hK hP h_X8_told_X8 0 rfl rfl 0 rfl m_X8_told_4 rfl dX8_told_33 ?_
        refine x_irem jS dX8_told_36 (by omega) (fun hm36 => ?_)
        refine x_isn (lv' := [(2, .int (iI ((s + ((kf k) * (pw P (kn k) i))) % P))), (3, .int (iI k)), (0, .ref mo), (1, .int (iI i))]) jS dX8_told_37 rfl hl rfl rfl (fun ls hl => ?_)
        refine x_iinc (lv' := [(3, .int (iI (k + 1))), (2, .int (iI ((s + ((kf k) * (pw P (kn k) i))) % P))), (0, .ref mo), (1, .int (iI i))]) jS dX8_told_38 hl 1 rfl rfl rfl (fun ls hl => ?_)
        refine x_goto jS 4 dX8_told_41 (by decide) ?_
        exact ih4 _ (by omega) ((s + ((kf k) * (pw P (kn k) i))) % P) (k + 1) rfl (by omega) (by rw [hs, sm_s _ hk.1]; exact cg_add (cg_m _ _) rfl) (by omega) ls (lv_sub hl [0, 1, 2, 3] rfl)
  exact loop_4 _ 0 0 rfl (by omega) (by rw [sm_0]; rfl) (by omega) ls (lv_sub hl [0, 1, 2, 3] rfl)
