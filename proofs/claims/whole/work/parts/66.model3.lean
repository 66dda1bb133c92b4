/-! the reference: got back -/
theorem h_X8_solve_X8 : ∀ w ∈ u_ws RX8 TX8 29, w ∈ wsX8_solve := fun w h => List.mem_cons_of_mem _ (List.mem_append_right _ h)
theorem m_X8_solve_1 : Cond.fieldLink RX8 143 "SealedBoxModel" "keys" "I" ∈ wsX8_solve := List.mem_of_getElem? (i := 1) rfl
theorem m_X8_solve_6 : Cond.fieldLink RX8 77 "SealedBoxModel" "keyCoefficient" "[I" ∈ wsX8_solve := List.mem_of_getElem? (i := 6) rfl
theorem m_X8_solve_2 : Cond.fieldLink RX8 80 "SealedBoxModel" "line" "[I" ∈ wsX8_solve := List.mem_of_getElem? (i := 2) rfl
theorem m_X8_solve_5 : Cond.fieldLink RX8 7 "SealedBoxModel" "p" "I" ∈ wsX8_solve := List.mem_of_getElem? (i := 5) rfl
theorem m_X8_solve_4 : Cond.fieldLink RX8 62 "SealedBoxModel" "answers" "[I" ∈ wsX8_solve := List.mem_of_getElem? (i := 4) rfl
theorem m_X8_solve_3 : Cond.fieldLink RX8 74 "SealedBoxModel" "keyNumber" "[I" ∈ wsX8_solve := List.mem_of_getElem? (i := 3) rfl
abbrev rm_X8_solve : Room := { frames := 1, cells := 0, slots := 0, locals := 24 }
set_option maxHeartbeats 4000000 in
set_option maxRecDepth 100000 in
theorem c_X8_solve (jl : Launch) (D : va_G) (cI : ClassId) (mo xk xt xc xx xy xz xr xl xC xF xK xn xb xw xa yx yy yz yn yc yl : Nat) (P sh sc cnt ak L K : Int) (tr : Int64) (kn kf an li xs : Int → Int) (sz : Nat) (hok : okP P) (hKb : 0 ≤ K ∧ K ≤ 4) (hkn : ∀ j : Int, 0 ≤ j → j < K → 0 ≤ kn j ∧ kn j < P) (hkd : ∀ i j : Int, 0 ≤ j → j < i → i < K → kn i ≠ kn j) (han : ∀ j : Int, 0 ≤ j → j < K → 0 ≤ an j ∧ an j < P) (hsl : slv P K kn an xs) (hli : ∀ q : Int, 0 ≤ q → q < 20 → 0 ≤ li q ∧ li q ≤ 1000) : Met jl yX8_solve wsX8_solve rm_X8_solve (xPw [.ref mo] D cI [(mo, .inr (8, [.int (iI P), .int (iI sh), .int (iI sc), .ref xk, .ref xt, .ref xc, .ref xx, .ref xy, .ref xz, .int (iI cnt), .ref xr, .int (iI ak), .long tr, .ref xl, .int (iI L), .ref xC, .ref xF, .ref xK, .ref xn, .ref xb, .ref xw, .ref xa, .int (iI K), .ref yx, .ref yy, .ref yz, .ref yn, .ref yc, .ref yl])), (yn, .inl (cI, 5, .inl (aI kn))), (yc, .inl (cI, 5, .inl (aI kf))), (xa, .inl (cI, 9, .inl (aI an))), (yl, .inl (cI, 20, .inl (aI li)))] sz) (va_Qv (fun (u : (Int → Int) × (Int → Int)) => (∀ j : Int, 0 ≤ j → j < K → u.1 j = xs j) ∧ (∀ q : Int, 0 ≤ q → q < 20 → 0 ≤ u.2 q ∧ u.2 q ≤ 1000)) (xB D (fun (u : (Int → Int) × (Int → Int)) => [(mo, .inr (8, [.int (iI P), .int (iI sh), .int (iI sc), .ref xk, .ref xt, .ref xc, .ref xx, .ref xy, .ref xz, .int (iI cnt), .ref xr, .int (iI ak), .long tr, .ref xl, .int (iI L), .ref xC, .ref xF, .ref xK, .ref xn, .ref xb, .ref xw, .ref xa, .int (iI K), .ref yx, .ref yy, .ref yz, .ref yn, .ref yc, .ref yl])), (yn, .inl (cI, 5, .inl (aI kn))), (yc, .inl (cI, 5, .inl (aI u.1))), (xa, .inl (cI, 9, .inl (aI an))), (yl, .inl (cI, 20, .inl (aI u.2)))]) (va_A [(mo, .inr (8, [.int (iI P), .int (iI sh), .int (iI sc), .ref xk, .ref xt, .ref xc, .ref xx, .ref xy, .ref xz, .int (iI cnt), .ref xr, .int (iI ak), .long tr, .ref xl, .int (iI L), .ref xC, .ref xF, .ref xK, .ref xn, .ref xb, .ref xw, .ref xa, .int (iI K), .ref yx, .ref yy, .ref yz, .ref yn, .ref yc, .ref yl])), (yn, .inl (cI, 5, .inl (aI kn))), (yc, .inl (cI, 5, .inl (aI kf))), (xa, .inl (cI, 9, .inl (aI an))), (yl, .inl (cI, 20, .inl (aI li)))] sz)) (va_A [(mo, .inr (8, [.int (iI P), .int (iI sh), .int (iI sc), .ref xk, .ref xt, .ref xc, .ref xx, .ref xy, .ref xz, .int (iI cnt), .ref xr, .int (iI ak), .long tr, .ref xl, .int (iI L), .ref xC, .ref xF, .ref xK, .ref xn, .ref xb, .ref xw, .ref xa, .int (iI K), .ref yx, .ref yy, .ref yz, .ref yn, .ref yc, .ref yl])), (yn, .inl (cI, 5, .inl (aI kn))), (yc, .inl (cI, 5, .inl (aI kf))), (xa, .inl (cI, 9, .inl (aI an))), (yl, .inl (cI, 20, .inl (aI li)))] sz)) 0 0 (va_A [(mo, .inr (8, [.int (iI P), .int (iI sh), .int (iI sc), .ref xk, .ref xt, .ref xc, .ref xx, .ref xy, .ref xz, .int (iI cnt), .ref xr, .int (iI ak), .long tr, .ref xl, .int (iI L), .ref xC, .ref xF, .ref xK, .ref xn, .ref xb, .ref xw, .ref xa, .int (iI K), .ref yx, .ref yy, .ref yz, .ref yn, .ref yc, .ref yl])), (yn, .inl (cI, 5, .inl (aI kn))), (yc, .inl (cI, 5, .inl (aI kf))), (xa, .inl (cI, 9, .inl (aI an))), (yl, .inl (cI, 20, .inl (aI li)))] sz) := by
  refine x_metW (own := RX8) (cc := cX8_solve) (maxL := 7) (ret := none) (Qc := fun jA => va_Qv (fun (u : (Int → Int) × (Int → Int)) => (∀ j : Int, 0 ≤ j → j < K → u.1 j = xs j) ∧ (∀ q : Int, 0 ≤ q → q < 20 → 0 ≤ u.2 q ∧ u.2 q ≤ 1000)) (xB D (fun (u : (Int → Int) × (Int → Int)) => [(mo, .inr (8, [.int (iI P), .int (iI sh), .int (iI sc), .ref xk, .ref xt, .ref xc, .ref xx, .ref xy, .ref xz, .int (iI cnt), .ref xr, .int (iI ak), .long tr, .ref xl, .int (iI L), .ref xC, .ref xF, .ref xK, .ref xn, .ref xb, .ref xw, .ref xa, .int (iI K), .ref yx, .ref yy, .ref yz, .ref yn, .ref yc, .ref yl])), (yn, .inl (cI, 5, .inl (aI kn))), (yc, .inl (cI, 5, .inl (aI u.1))), (xa, .inl (cI, 9, .inl (aI an))), (yl, .inl (cI, 20, .inl (aI u.2)))]) jA) jA) (by decide) rfl rfl rfl ?_
  intro jp je js jm ja jb jt jc jA jQ jS jr jk jn jq hK hP hD hA hS ls hl
  have hl : lv_has ls 7 [(0, .ref mo)] := hl
  have hok5 := hok.1
  have hok9 := hok.2.1
  have hP2 : 2 ≤ P := by omega
  have hd : ∀ i j : Int, 0 ≤ j → j < i → i < K → (kn i - kn j) % P ≠ 0 := fun i j a b c => gs_dif (hkn i (by omega) c) (hkn j a (by omega)) (hkd i j a b c)
  refine x_ic jS dX8_solve_0 ?_
  refine x_isn (lv' := [(1, .int (iI 0)), (0, .ref mo)]) jS dX8_solve_1 rfl hl rfl rfl (fun ls hl => ?_)
  have loop_2 : ∀ (mm : Nat) (i : Int) (l1_ : Int → Int) (jH : Heap) (jL : List Loc), (K - i).toNat = mm → (0 ≤ i ∧ i ≤ K) → (∀ q : Int, 0 ≤ q → q < 20 → 0 ≤ l1_ q ∧ l1_ q ≤ 1000) → (∀ m c : Int, 0 ≤ m → m < i → 0 ≤ c → c < K → l1_ (5 * m + c) = pw P (kn c) m) → (∀ m : Int, 0 ≤ m → m < i → l1_ (5 * m + 4) = an m) → va_P D vwCl [(mo, .inr (8, [.int (iI P), .int (iI sh), .int (iI sc), .ref xk, .ref xt, .ref xc, .ref xx, .ref xy, .ref xz, .int (iI cnt), .ref xr, .int (iI ak), .long tr, .ref xl, .int (iI L), .ref xC, .ref xF, .ref xK, .ref xn, .ref xb, .ref xw, .ref xa, .int (iI K), .ref yx, .ref yy, .ref yz, .ref yn, .ref yc, .ref yl])), (yn, .inl (cI, 5, .inl (aI kn))), (yc, .inl (cI, 5, .inl (aI kf))), (xa, .inl (cI, 9, .inl (aI an))), (yl, .inl (cI, 20, .inl (aI l1_)))] jH → va_D jA [(mo, .inr (8, [.int (iI P), .int (iI sh), .int (iI sc), .ref xk, .ref xt, .ref xc, .ref xx, .ref xy, .ref xz, .int (iI cnt), .ref xr, .int (iI ak), .long tr, .ref xl, .int (iI L), .ref xC, .ref xF, .ref xK, .ref xn, .ref xb, .ref xw, .ref xa, .int (iI K), .ref yx, .ref yy, .ref yz, .ref yn, .ref yc, .ref yl])), (yn, .inl (cI, 5, .inl (aI kn))), (yc, .inl (cI, 5, .inl (aI kf))), (xa, .inl (cI, 9, .inl (aI an))), (yl, .inl (cI, 20, .inl (aI l1_)))] → va_S jA js.heap jH jL → ∀ ls : Array Slot, lv_has ls 7 [(1, .int (iI i)), (0, .ref mo)] → W jp jl je rm_X8_solve js jm ja jb jt jc jH jL 0 0 jQ (F0 jm 2 ls []) := by
    intro mm
    induction mm using Nat.strongRecOn with
    | ind mm ih2 =>
      intro i l1_ jH jL hmm2 hi h1b h1 h14 hP hD hS ls hl
      refine x_iln jS dX8_solve_2 rfl hl 0 rfl ?_
      refine x_aln jS dX8_solve_3 rfl hl 1 rfl ?_
      refine x_get jS hK hP h_X8_solve_X8 0 rfl rfl 22 rfl m_X8_solve_1 rfl dX8_solve_4 ?_
      refine x_cmpge jS 69 dX8_solve_7 (by decide) (by omega) (fun hc7 => ?_) (fun hc7 => ?_)
      · skip
        refine x_ic jS dX8_solve_69 ?_
        refine x_isn (lv' := [(1, .int (iI 0)), (0, .ref mo)]) jS dX8_solve_70 rfl hl rfl rfl (fun ls hl => ?_)
        have loop_71 : ∀ (mm : Nat) (k : Int) (l3 : Int → Int) (jH : Heap) (jL : List Loc), (K - k).toNat = mm → (0 ≤ k ∧ k ≤ K) → (∀ q : Int, 0 ≤ q → q < 20 → 0 ≤ l3 q ∧ l3 q ≤ 1000) → (∀ i c : Int, 0 ≤ i → i < K → 0 ≤ c → c < K ∨ c = 4 → 0 ≤ l3 (5 * i + c) ∧ l3 (5 * i + c) < P) → (gsI K k (fun i j => l3 (5 * i + j)) ∧ gsS P K (fun i j => l3 (5 * i + j)) xs ∧ gsN P K (fun i j => l3 (5 * i + j)) kn) → va_P D vwCl [(mo, .inr (8, [.int (iI P), .int (iI sh), .int (iI sc), .ref xk, .ref xt, .ref xc, .ref xx, .ref xy, .ref xz, .int (iI cnt), .ref xr, .int (iI ak), .long tr, .ref xl, .int (iI L), .ref xC, .ref xF, .ref xK, .ref xn, .ref xb, .ref xw, .ref xa, .int (iI K), .ref yx, .ref yy, .ref yz, .ref yn, .ref yc, .ref yl])), (yn, .inl (cI, 5, .inl (aI kn))), (yc, .inl (cI, 5, .inl (aI kf))), (xa, .inl (cI, 9, .inl (aI an))), (yl, .inl (cI, 20, .inl (aI l3)))] jH → va_D jA [(mo, .inr (8, [.int (iI P), .int (iI sh), .int (iI sc), .ref xk, .ref xt, .ref xc, .ref xx, .ref xy, .ref xz, .int (iI cnt), .ref xr, .int (iI ak), .long tr, .ref xl, .int (iI L), .ref xC, .ref xF, .ref xK, .ref xn, .ref xb, .ref xw, .ref xa, .int (iI K), .ref yx, .ref yy, .ref yz, .ref yn, .ref yc, .ref yl])), (yn, .inl (cI, 5, .inl (aI kn))), (yc, .inl (cI, 5, .inl (aI kf))), (xa, .inl (cI, 9, .inl (aI an))), (yl, .inl (cI, 20, .inl (aI l3)))] → va_S jA js.heap jH jL → ∀ ls : Array Slot, lv_has ls 7 [(1, .int (iI k)), (0, .ref mo)] → W jp jl je rm_X8_solve js jm ja jb jt jc jH jL 0 0 jQ (F0 jm 71 ls []) := by
          intro mm
          induction mm using Nat.strongRecOn with
          | ind mm ih71 =>
            intro k l3 jH jL hmm71 hk h3b h3r h3 hP hD hS ls hl
            refine x_iln jS dX8_solve_71 rfl hl 0 rfl ?_
            refine x_aln jS dX8_solve_72 rfl hl 1 rfl ?_
            refine x_get jS hK hP h_X8_solve_X8 0 rfl rfl 22 rfl m_X8_solve_1 rfl dX8_solve_73 ?_
            refine x_cmpge jS 327 dX8_solve_76 (by decide) (by omega) (fun hc76 => ?_) (fun hc76 => ?_)
            · skip
              refine x_ic jS dX8_solve_327 ?_
              refine x_isn (lv' := [(1, .int (iI 0)), (0, .ref mo)]) jS dX8_solve_328 rfl hl rfl rfl (fun ls hl => ?_)
              have loop_329 : ∀ (mm : Nat) (j : Int) (kfa : Int → Int) (jH : Heap) (jL : List Loc), (K - j).toNat = mm → (0 ≤ j ∧ j ≤ K) → (∀ m : Int, 0 ≤ m → m < j → kfa m = xs m) → va_P D vwCl [(mo, .inr (8, [.int (iI P), .int (iI sh), .int (iI sc), .ref xk, .ref xt, .ref xc, .ref xx, .ref xy, .ref xz, .int (iI cnt), .ref xr, .int (iI ak), .long tr, .ref xl, .int (iI L), .ref xC, .ref xF, .ref xK, .ref xn, .ref xb, .ref xw, .ref xa, .int (iI K), .ref yx, .ref yy, .ref yz, .ref yn, .ref yc, .ref yl])), (yn, .inl (cI, 5, .inl (aI kn))), (yc, .inl (cI, 5, .inl (aI kfa))), (xa, .inl (cI, 9, .inl (aI an))), (yl, .inl (cI, 20, .inl (aI l3)))] jH → va_D jA [(mo, .inr (8, [.int (iI P), .int (iI sh), .int (iI sc), .ref xk, .ref xt, .ref xc, .ref xx, .ref xy, .ref xz, .int (iI cnt), .ref xr, .int (iI ak), .long tr, .ref xl, .int (iI L), .ref xC, .ref xF, .ref xK, .ref xn, .ref xb, .ref xw, .ref xa, .int (iI K), .ref yx, .ref yy, .ref yz, .ref yn, .ref yc, .ref yl])), (yn, .inl (cI, 5, .inl (aI kn))), (yc, .inl (cI, 5, .inl (aI kfa))), (xa, .inl (cI, 9, .inl (aI an))), (yl, .inl (cI, 20, .inl (aI l3)))] → va_S jA js.heap jH jL → ∀ ls : Array Slot, lv_has ls 7 [(1, .int (iI j)), (0, .ref mo)] → W jp jl je rm_X8_solve js jm ja jb jt jc jH jL 0 0 jQ (F0 jm 329 ls []) := by
                intro mm
                induction mm using Nat.strongRecOn with
                | ind mm ih329 =>
                  intro j kfa jH jL hmm329 hj hf hP hD hS ls hl
                  refine x_iln jS dX8_solve_329 rfl hl 0 rfl ?_
                  refine x_aln jS dX8_solve_330 rfl hl 1 rfl ?_
                  refine x_get jS hK hP h_X8_solve_X8 0 rfl rfl 22 rfl m_X8_solve_1 rfl dX8_solve_331 ?_
                  refine x_cmpge jS 359 dX8_solve_334 (by decide) (by omega) (fun hc334 => ?_) (fun hc334 => ?_)
                  · skip
                    exact x_vretW jS jr jk jq dX8_solve_359 ⟨kfa, l3⟩ hP hD hS (show (∀ j : Int, 0 ≤ j → j < K → kfa j = xs j) ∧ (∀ q : Int, 0 ≤ q → q < 20 → 0 ≤ l3 q ∧ l3 q ≤ 1000) from ⟨fun j_ x y => hf j_ x (by omega), h3b⟩)
                  · skip
                    refine x_aln jS dX8_solve_337 rfl hl 1 rfl ?_
                    refine x_get jS hK hP h_X8_solve_X8 0 rfl rfl 27 rfl m_X8_solve_6 rfl dX8_solve_338 ?_
                    refine x_iln jS dX8_solve_341 rfl hl 0 rfl ?_
                    refine x_aln jS dX8_solve_342 rfl hl 1 rfl ?_
                    refine x_get jS hK hP h_X8_solve_X8 0 rfl rfl 28 rfl m_X8_solve_2 rfl dX8_solve_343 ?_
                    refine x_ic jS dX8_solve_346 ?_
                    refine x_iln jS dX8_solve_347 rfl hl 0 rfl ?_
                    refine x_imul jS dX8_solve_348 ?_
                    refine x_ic jS dX8_solve_349 ?_
                    refine x_iadd jS dX8_solve_350 ?_
                    refine x_iald jS hK hP 4 rfl (by omega) dX8_solve_351 ?_
                    refine x_iast (ws' := [(mo, .inr (8, [.int (iI P), .int (iI sh), .int (iI sc), .ref xk, .ref xt, .ref xc, .ref xx, .ref xy, .ref xz, .int (iI cnt), .ref xr, .int (iI ak), .long tr, .ref xl, .int (iI L), .ref xC, .ref xF, .ref xK, .ref xn, .ref xb, .ref xw, .ref xa, .int (iI K), .ref yx, .ref yy, .ref yz, .ref yn, .ref yc, .ref yl])), (yn, .inl (cI, 5, .inl (aI kn))), (yc, .inl (cI, 5, .inl (aI (uI kfa j (l3 ((5 * j) + 4)))))), (xa, .inl (cI, 9, .inl (aI an))), (yl, .inl (cI, 20, .inl (aI l3)))]) jS hK hP hD hS 2 rfl (by omega) dX8_solve_352 rfl (fun jH jL hP hD hS => ?_)
                    refine x_iinc (lv' := [(1, .int (iI (j + 1))), (0, .ref mo)]) jS dX8_solve_353 hl 0 rfl rfl rfl (fun ls hl => ?_)
                    refine x_goto jS 329 dX8_solve_356 (by decide) ?_
                    exact ih329 _ (by omega) (j + 1) (uI kfa j (l3 ((5 * j) + 4))) _ _ rfl (by omega) (fun m x y => by rcases Int.lt_or_le m j with q | q; rw [uI_n (by omega)]; exact hf m x q; rw [show m = j by omega, uI_s]; exact gs_end (M := (fun i j => l3 (5 * i + j))) hsl.1 (by rw [show k = K by omega] at h3; exact h3.1) h3.2.1 hj.1 (by omega) (h3r j 4 hj.1 (by omega) (by omega) (Or.inr rfl))) hP hD hS ls (lv_sub hl [0, 1] rfl)
              exact loop_329 _ 0 kf _ _ rfl (by omega) (fun m x y => by omega) hP hD hS ls (lv_sub hl [0, 1] rfl)
            · skip
              refine x_iln jS dX8_solve_79 rfl hl 0 rfl ?_
              refine x_isn (lv' := [(2, .int (iI k)), (1, .int (iI k)), (0, .ref mo)]) jS dX8_solve_80 rfl hl rfl rfl (fun ls hl => ?_)
              have loop_81 : ∀ (mm : Nat) (at_ : Int) (jH : Heap) (jL : List Loc), (K - at_).toNat = mm → (k ≤ at_ ∧ at_ < K) → (∀ m : Int, k ≤ m → m < at_ → l3 (5 * m + k) = 0) → va_P D vwCl [(mo, .inr (8, [.int (iI P), .int (iI sh), .int (iI sc), .ref xk, .ref xt, .ref xc, .ref xx, .ref xy, .ref xz, .int (iI cnt), .ref xr, .int (iI ak), .long tr, .ref xl, .int (iI L), .ref xC, .ref xF, .ref xK, .ref xn, .ref xb, .ref xw, .ref xa, .int (iI K), .ref yx, .ref yy, .ref yz, .ref yn, .ref yc, .ref yl])), (yn, .inl (cI, 5, .inl (aI kn))), (yc, .inl (cI, 5, .inl (aI kf))), (xa, .inl (cI, 9, .inl (aI an))), (yl, .inl (cI, 20, .inl (aI l3)))] jH → va_D jA [(mo, .inr (8, [.int (iI P), .int (iI sh), .int (iI sc), .ref xk, .ref xt, .ref xc, .ref xx, .ref xy, .ref xz, .int (iI cnt), .ref xr, .int (iI ak), .long tr, .ref xl, .int (iI L), .ref xC, .ref xF, .ref xK, .ref xn, .ref xb, .ref xw, .ref xa, .int (iI K), .ref yx, .ref yy, .ref yz, .ref yn, .ref yc, .ref yl])), (yn, .inl (cI, 5, .inl (aI kn))), (yc, .inl (cI, 5, .inl (aI kf))), (xa, .inl (cI, 9, .inl (aI an))), (yl, .inl (cI, 20, .inl (aI l3)))] → va_S jA js.heap jH jL → ∀ ls : Array Slot, lv_has ls 7 [(2, .int (iI at_)), (1, .int (iI k)), (0, .ref mo)] → W jp jl je rm_X8_solve js jm ja jb jt jc jH jL 0 0 jQ (F0 jm 81 ls []) := by
                intro mm
                induction mm using Nat.strongRecOn with
                | ind mm ih81 =>
                  intro at_ jH jL hmm81 hat hz hP hD hS ls hl
                  refine x_aln jS dX8_solve_81 rfl hl 2 rfl ?_
                  refine x_get jS hK hP h_X8_solve_X8 0 rfl rfl 28 rfl m_X8_solve_2 rfl dX8_solve_82 ?_
                  refine x_ic jS dX8_solve_85 ?_
                  refine x_iln jS dX8_solve_86 rfl hl 0 rfl ?_
                  refine x_imul jS dX8_solve_87 ?_
                  refine x_iln jS dX8_solve_88 rfl hl 1 rfl ?_
                  refine x_iadd jS dX8_solve_89 ?_
                  refine x_iald jS hK hP 4 rfl (by omega) dX8_solve_90 ?_
                  have hb90 := h3b (5 * at_ + k) (by omega) (by omega)
                  refine x_ifne jS 100 dX8_solve_91 (by decide) (by omega) (fun hc91 => ?_) (fun hc91 => ?_)
                  · skip
                    refine x_ic jS dX8_solve_100 ?_
                    refine x_isn (lv' := [(3, .int (iI 0)), (2, .int (iI at_)), (1, .int (iI k)), (0, .ref mo)]) jS dX8_solve_101 rfl hl rfl rfl (fun ls hl => ?_)
                    have loop_102 : ∀ (mm : Nat) (x5 : Int) (l5 : Int → Int) (jH : Heap) (jL : List Loc), (5 - x5).toNat = mm → (0 ≤ x5 ∧ x5 ≤ 5) → (∀ q : Int, 0 ≤ q → q < 20 → 0 ≤ l5 q ∧ l5 q ≤ 1000) → (∀ m c : Int, 0 ≤ m → m < 4 → 0 ≤ c → c < 5 → l5 (5 * m + c) = if c < x5 then l3 (5 * sgm k at_ m + c) else l3 (5 * m + c)) → va_P D vwCl [(mo, .inr (8, [.int (iI P), .int (iI sh), .int (iI sc), .ref xk, .ref xt, .ref xc, .ref xx, .ref xy, .ref xz, .int (iI cnt), .ref xr, .int (iI ak), .long tr, .ref xl, .int (iI L), .ref xC, .ref xF, .ref xK, .ref xn, .ref xb, .ref xw, .ref xa, .int (iI K), .ref yx, .ref yy, .ref yz, .ref yn, .ref yc, .ref yl])), (yn, .inl (cI, 5, .inl (aI kn))), (yc, .inl (cI, 5, .inl (aI kf))), (xa, .inl (cI, 9, .inl (aI an))), (yl, .inl (cI, 20, .inl (aI l5)))] jH → va_D jA [(mo, .inr (8, [.int (iI P), .int (iI sh), .int (iI sc), .ref xk, .ref xt, .ref xc, .ref xx, .ref xy, .ref xz, .int (iI cnt), .ref xr, .int (iI ak), .long tr, .ref xl, .int (iI L), .ref xC, .ref xF, .ref xK, .ref xn, .ref xb, .ref xw, .ref xa, .int (iI K), .ref yx, .ref yy, .ref yz, .ref yn, .ref yc, .ref yl])), (yn, .inl (cI, 5, .inl (aI kn))), (yc, .inl (cI, 5, .inl (aI kf))), (xa, .inl (cI, 9, .inl (aI an))), (yl, .inl (cI, 20, .inl (aI l5)))] → va_S jA js.heap jH jL → ∀ ls : Array Slot, lv_has ls 7 [(3, .int (iI x5)), (2, .int (iI at_)), (1, .int (iI k)), (0, .ref mo)] → W jp jl je rm_X8_solve js jm ja jb jt jc jH jL 0 0 jQ (F0 jm 102 ls []) := by
                      intro mm
                      induction mm using Nat.strongRecOn with
                      | ind mm ih102 =>
                        intro x5 l5 jH jL hmm102 hx5 h5b h5 hP hD hS ls hl
                        refine x_iln jS dX8_solve_102 rfl hl 0 rfl ?_
                        refine x_ic jS dX8_solve_103 ?_
                        refine x_cmpge jS 157 dX8_solve_104 (by decide) (by omega) (fun hc104 => ?_) (fun hc104 => ?_)
                        · skip
                          refine x_aln jS dX8_solve_157 rfl hl 3 rfl ?_
                          refine x_aln jS dX8_solve_158 rfl hl 3 rfl ?_
                          refine x_get jS hK hP h_X8_solve_X8 0 rfl rfl 28 rfl m_X8_solve_2 rfl dX8_solve_159 ?_
                          refine x_ic jS dX8_solve_162 ?_
                          refine x_iln jS dX8_solve_163 rfl hl 2 rfl ?_
                          refine x_imul jS dX8_solve_164 ?_
                          refine x_iln jS dX8_solve_165 rfl hl 2 rfl ?_
                          refine x_iadd jS dX8_solve_166 ?_
                          refine x_iald jS hK hP 4 rfl (by omega) dX8_solve_167 ?_
                          have hl5 : ∀ m c : Int, 0 ≤ m → m < 4 → 0 ≤ c → c < 5 → l5 (5 * m + c) = l3 (5 * sgm k at_ m + c) := fun m c x y z u => by
                            rw [h5 m c x y z u, if_pos (by omega)]
                          have hkk : l5 (5 * k + k) = l3 (5 * at_ + k) := by
                            rw [hl5 k k hk.1 (by omega) hk.1 (by omega)]; unfold sgm; rw [if_pos rfl]
                          have hpv : 0 < l3 (5 * at_ + k) ∧ l3 (5 * at_ + k) < P := by
                            have := h3r at_ k (by omega) hat.2 hk.1 (Or.inl (by omega)); omega
                          have hpv5 : 0 < l5 (5 * k + k) ∧ l5 (5 * k + k) < P := by rw [hkk]; exact hpv
                          refine x_rI (x_rmV (As := [.int (iI (l5 ((5 * k) + k)))]) (rest := []) jS hl.1 hK (c_X8_over jl D cI mo xk xt xc xx xy xz xr xl xC xF xK xn xb xw xa yx yy yz yn yc yl P sh sc cnt ak L K tr (l5 ((5 * k) + k)) (by first | assumption | omega) (by first | assumption | omega)) (hP.sub [0] rfl) 0 rfl rfl gX8_solve_X8_over rfl rfl rfl kf_X8_over rfl rfl rfl rfl rfl dX8_solve_168 rfl rfl) ?_
                          refine x_topi (fun by_ h_by_ => ?_)
                          have hby : by_ = ivF P (l3 (5 * at_ + k)) := by rw [h_by_, hkk]
                          have hivb := ivF_in (show 0 < P by omega) (l3 (5 * at_ + k))
                          rw [← hby] at hivb
                          refine x_isn (lv' := [(3, .int (iI by_)), (2, .int (iI at_)), (1, .int (iI k)), (0, .ref mo)]) jS dX8_solve_171 rfl hl rfl rfl (fun ls hl => ?_)
                          refine x_ic jS dX8_solve_172 ?_
                          refine x_is (lv' := [(4, .int (iI 0)), (3, .int (iI by_)), (2, .int (iI at_)), (1, .int (iI k)), (0, .ref mo)]) jS dX8_solve_173 hl rfl rfl (fun ls hl => ?_)
                          have loop_175 : ∀ (mm : Nat) (x7 : Int) (l7 : Int → Int) (jH : Heap) (jL : List Loc), (5 - x7).toNat = mm → (0 ≤ x7 ∧ x7 ≤ 5) → (∀ q : Int, 0 ≤ q → q < 20 → 0 ≤ l7 q ∧ l7 q ≤ 1000) → (∀ m c : Int, 0 ≤ m → m < 4 → 0 ≤ c → c < 5 → l7 (5 * m + c) = if m = k ∧ c < x7 then l5 (5 * m + c) * by_ % P else l5 (5 * m + c)) → va_P D vwCl [(mo, .inr (8, [.int (iI P), .int (iI sh), .int (iI sc), .ref xk, .ref xt, .ref xc, .ref xx, .ref xy, .ref xz, .int (iI cnt), .ref xr, .int (iI ak), .long tr, .ref xl, .int (iI L), .ref xC, .ref xF, .ref xK, .ref xn, .ref xb, .ref xw, .ref xa, .int (iI K), .ref yx, .ref yy, .ref yz, .ref yn, .ref yc, .ref yl])), (yn, .inl (cI, 5, .inl (aI kn))), (yc, .inl (cI, 5, .inl (aI kf))), (xa, .inl (cI, 9, .inl (aI an))), (yl, .inl (cI, 20, .inl (aI l7)))] jH → va_D jA [(mo, .inr (8, [.int (iI P), .int (iI sh), .int (iI sc), .ref xk, .ref xt, .ref xc, .ref xx, .ref xy, .ref xz, .int (iI cnt), .ref xr, .int (iI ak), .long tr, .ref xl, .int (iI L), .ref xC, .ref xF, .ref xK, .ref xn, .ref xb, .ref xw, .ref xa, .int (iI K), .ref yx, .ref yy, .ref yz, .ref yn, .ref yc, .ref yl])), (yn, .inl (cI, 5, .inl (aI kn))), (yc, .inl (cI, 5, .inl (aI kf))), (xa, .inl (cI, 9, .inl (aI an))), (yl, .inl (cI, 20, .inl (aI l7)))] → va_S jA js.heap jH jL → ∀ ls : Array Slot, lv_has ls 7 [(4, .int (iI x7)), (3, .int (iI by_)), (2, .int (iI at_)), (1, .int (iI k)), (0, .ref mo)] → W jp jl je rm_X8_solve js jm ja jb jt jc jH jL 0 0 jQ (F0 jm 175 ls []) := by
                            intro mm
                            induction mm using Nat.strongRecOn with
                            | ind mm ih175 =>
                              intro x7 l7 jH jL hmm175 hx7 h7b h7 hP hD hS ls hl
                              refine x_il jS dX8_solve_175 hl 0 rfl ?_
                              refine x_ic jS dX8_solve_177 ?_
                              refine x_cmpge jS 216 dX8_solve_178 (by decide) (by omega) (fun hc178 => ?_) (fun hc178 => ?_)
                              · skip
                                have hl7 : ∀ m c : Int, 0 ≤ m → m < 4 → 0 ≤ c → c < 5 → l7 (5 * m + c) = if m = k then l5 (5 * m + c) * by_ % P else l5 (5 * m + c) := fun m c x y z u => by
                                  rw [h7 m c x y z u]; by_cases q : m = k; rw [if_pos q, if_pos ⟨q, by omega⟩]; rw [if_neg q, if_neg (fun g => q g.1)]
                                have hrk : ∀ c : Int, 0 ≤ c → c < 5 → 0 ≤ l7 (5 * k + c) ∧ l7 (5 * k + c) < P := fun c x y => by
                                  rw [hl7 k c hk.1 (by omega) x y, if_pos rfl]; exact emB (by omega) _
                                refine x_ic jS dX8_solve_216 ?_
                                refine x_is (lv' := [(4, .int (iI 0)), (3, .int (iI by_)), (2, .int (iI at_)), (1, .int (iI k)), (0, .ref mo)]) jS dX8_solve_217 hl rfl rfl (fun ls hl => ?_)
                                have loop_219 : ∀ (mm : Nat) (i9 : Int) (l9 : Int → Int) (jH : Heap) (jL : List Loc), (K - i9).toNat = mm → (0 ≤ i9 ∧ i9 ≤ K) → (∀ q : Int, 0 ≤ q → q < 20 → 0 ≤ l9 q ∧ l9 q ≤ 1000) → (∀ m c : Int, 0 ≤ m → m < 4 → 0 ≤ c → c < 5 → l9 (5 * m + c) = if m < i9 ∧ m ≠ k then (l7 (5 * m + c) + (P - l7 (5 * m + k)) * l7 (5 * k + c)) % P else l7 (5 * m + c)) → va_P D vwCl [(mo, .inr (8, [.int (iI P), .int (iI sh), .int (iI sc), .ref xk, .ref xt, .ref xc, .ref xx, .ref xy, .ref xz, .int (iI cnt), .ref xr, .int (iI ak), .long tr, .ref xl, .int (iI L), .ref xC, .ref xF, .ref xK, .ref xn, .ref xb, .ref xw, .ref xa, .int (iI K), .ref yx, .ref yy, .ref yz, .ref yn, .ref yc, .ref yl])), (yn, .inl (cI, 5, .inl (aI kn))), (yc, .inl (cI, 5, .inl (aI kf))), (xa, .inl (cI, 9, .inl (aI an))), (yl, .inl (cI, 20, .inl (aI l9)))] jH → va_D jA [(mo, .inr (8, [.int (iI P), .int (iI sh), .int (iI sc), .ref xk, .ref xt, .ref xc, .ref xx, .ref xy, .ref xz, .int (iI cnt), .ref xr, .int (iI ak), .long tr, .ref xl, .int (iI L), .ref xC, .ref xF, .ref xK, .ref xn, .ref xb, .ref xw, .ref xa, .int (iI K), .ref yx, .ref yy, .ref yz, .ref yn, .ref yc, .ref yl])), (yn, .inl (cI, 5, .inl (aI kn))), (yc, .inl (cI, 5, .inl (aI kf))), (xa, .inl (cI, 9, .inl (aI an))), (yl, .inl (cI, 20, .inl (aI l9)))] → va_S jA js.heap jH jL → ∀ ls : Array Slot, lv_has ls 7 [(4, .int (iI i9)), (3, .int (iI by_)), (2, .int (iI at_)), (1, .int (iI k)), (0, .ref mo)] → W jp jl je rm_X8_solve js jm ja jb jt jc jH jL 0 0 jQ (F0 jm 219 ls []) := by
                                  intro mm
                                  induction mm using Nat.strongRecOn with
                                  | ind mm ih219 =>
                                    intro i9 l9 jH jL hmm219 hi9 h9b h9 hP hD hS ls hl
                                    refine x_il jS dX8_solve_219 hl 0 rfl ?_
                                    refine x_aln jS dX8_solve_221 rfl hl 4 rfl ?_
                                    refine x_get jS hK hP h_X8_solve_X8 0 rfl rfl 22 rfl m_X8_solve_1 rfl dX8_solve_222 ?_
                                    refine x_cmpge jS 321 dX8_solve_225 (by decide) (by omega) (fun hc225 => ?_) (fun hc225 => ?_)
                                    · skip
                                      have hfin : ∀ m c : Int, 0 ≤ m → m < K → 0 ≤ c → c < 5 → l9 (5 * m + c) = if m = k then l3 (5 * at_ + c) * by_ % P else (l3 (5 * sgm k at_ m + c) + (P - l3 (5 * sgm k at_ m + k)) * (l3 (5 * at_ + c) * by_ % P)) % P := fun m c x y z u => by
                                        have ek : l7 (5 * k + c) = l3 (5 * at_ + c) * by_ % P := by rw [hl7 k c hk.1 (by omega) z u, if_pos rfl, hl5 k c hk.1 (by omega) z u]; unfold sgm; rw [if_pos rfl]
                                        rw [h9 m c x (by omega) z u]
                                        by_cases q : m = k
                                        · rw [if_neg (fun g => g.2 q), if_pos q, q]; exact ek
                                        · rw [if_pos ⟨by omega, q⟩, if_neg q, ek, hl7 m c x (by omega) z u, if_neg q, hl7 m k x (by omega) hk.1 (by omega), if_neg q, hl5 m c x (by omega) z u, hl5 m k x (by omega) hk.1 (by omega)]
                                      refine x_iinc (lv' := [(1, .int (iI (k + 1))), (4, .int (iI i9)), (3, .int (iI by_)), (2, .int (iI at_)), (0, .ref mo)]) jS dX8_solve_321 hl 3 rfl rfl rfl (fun ls hl => ?_)
                                      refine x_goto jS 71 dX8_solve_324 (by decide) ?_
                                      exact ih71 _ (by omega) (k + 1) l9 _ _ rfl (by omega) (h9b) (fun m c x y z u => by rw [hfin m c x y z (by omega)]; split <;> exact emB (by omega) _) (gauss_step (M := (fun i j => l3 (5 * i + j))) (M2 := fun i j => l9 (5 * i + j)) (at_ := at_) (by_ := by_) hok ⟨hk.1, by omega, hKb.2⟩ hat hpv hby hfin h3.1 h3.2.1 h3.2.2) hP hD hS ls (lv_sub hl [0, 4] rfl)
                                    · skip
                                      refine x_il jS dX8_solve_228 hl 0 rfl ?_
                                      refine x_iln jS dX8_solve_230 rfl hl 3 rfl ?_
                                      refine x_cmpne jS 238 dX8_solve_231 (by decide) (by omega) (fun hc231 => ?_) (fun hc231 => ?_)
                                      · skip
                                        refine x_aln jS dX8_solve_238 rfl hl 4 rfl ?_
                                        refine x_get jS hK hP h_X8_solve_X8 0 rfl rfl 28 rfl m_X8_solve_2 rfl dX8_solve_239 ?_
                                        refine x_ic jS dX8_solve_242 ?_
                                        refine x_il jS dX8_solve_243 hl 0 rfl ?_
                                        refine x_imul jS dX8_solve_245 ?_
                                        refine x_iln jS dX8_solve_246 rfl hl 3 rfl ?_
                                        refine x_iadd jS dX8_solve_247 ?_
                                        refine x_iald jS hK hP 4 rfl (by omega) dX8_solve_248 ?_
                                        refine x_topi (fun tm_ h_tm_ => ?_)
                                        have htm : tm_ = if i9 = k then 0 else l9 (5 * i9 + k) := by rw [if_neg hc231]; exact h_tm_
                                        have htb : 0 ≤ tm_ ∧ tm_ < P := by
                                          rw [h_tm_, h9 i9 k hi9.1 (by omega) hk.1 (by omega), if_neg (by omega), hl7 i9 k hi9.1 (by omega) hk.1 (by omega), if_neg hc231, hl5 i9 k hi9.1 (by omega) hk.1 (by omega)]; exact h3r _ k (by unfold sgm; rw [if_neg hc231]; split <;> omega) (by unfold sgm; rw [if_neg hc231]; split <;> omega) hk.1 (Or.inl (by omega))
                                        refine x_is (lv' := [(5, .int (iI tm_)), (4, .int (iI i9)), (3, .int (iI by_)), (2, .int (iI at_)), (1, .int (iI k)), (0, .ref mo)]) jS dX8_solve_249 hl rfl rfl (fun ls hl => ?_)
                                        refine x_ic jS dX8_solve_251 ?_
                                        refine x_is (lv' := [(6, .int (iI 0)), (5, .int (iI tm_)), (4, .int (iI i9)), (3, .int (iI by_)), (2, .int (iI at_)), (1, .int (iI k)), (0, .ref mo)]) jS dX8_solve_252 hl rfl rfl (fun ls hl => ?_)
                                        have loop_254 : ∀ (mm : Nat) (xa_ : Int) (la : Int → Int) (jH : Heap) (jL : List Loc), (5 - xa_).toNat = mm → (0 ≤ xa_ ∧ xa_ ≤ 5) → (∀ q : Int, 0 ≤ q → q < 20 → 0 ≤ la q ∧ la q ≤ 1000) → (∀ m c : Int, 0 ≤ m → m < 4 → 0 ≤ c → c < 5 → la (5 * m + c) = if m = i9 ∧ c < xa_ then (l9 (5 * m + c) + (P - tm_) * l9 (5 * k + c)) % P else l9 (5 * m + c)) → va_P D vwCl [(mo, .inr (8, [.int (iI P), .int (iI sh), .int (iI sc), .ref xk, .ref xt, .ref xc, .ref xx, .ref xy, .ref xz, .int (iI cnt), .ref xr, .int (iI ak), .long tr, .ref xl, .int (iI L), .ref xC, .ref xF, .ref xK, .ref xn, .ref xb, .ref xw, .ref xa, .int (iI K), .ref yx, .ref yy, .ref yz, .ref yn, .ref yc, .ref yl])), (yn, .inl (cI, 5, .inl (aI kn))), (yc, .inl (cI, 5, .inl (aI kf))), (xa, .inl (cI, 9, .inl (aI an))), (yl, .inl (cI, 20, .inl (aI la)))] jH → va_D jA [(mo, .inr (8, [.int (iI P), .int (iI sh), .int (iI sc), .ref xk, .ref xt, .ref xc, .ref xx, .ref xy, .ref xz, .int (iI cnt), .ref xr, .int (iI ak), .long tr, .ref xl, .int (iI L), .ref xC, .ref xF, .ref xK, .ref xn, .ref xb, .ref xw, .ref xa, .int (iI K), .ref yx, .ref yy, .ref yz, .ref yn, .ref yc, .ref yl])), (yn, .inl (cI, 5, .inl (aI kn))), (yc, .inl (cI, 5, .inl (aI kf))), (xa, .inl (cI, 9, .inl (aI an))), (yl, .inl (cI, 20, .inl (aI la)))] → va_S jA js.heap jH jL → ∀ ls : Array Slot, lv_has ls 7 [(6, .int (iI xa_)), (5, .int (iI tm_)), (4, .int (iI i9)), (3, .int (iI by_)), (2, .int (iI at_)), (1, .int (iI k)), (0, .ref mo)] → W jp jl je rm_X8_solve js jm ja jb jt jc jH jL 0 0 jQ (F0 jm 254 ls []) := by
                                          intro mm
                                          induction mm using Nat.strongRecOn with
                                          | ind mm ih254 =>
                                            intro xa_ la jH jL hmm254 hxa hab ha_ hP hD hS ls hl
                                            refine x_il jS dX8_solve_254 hl 0 rfl ?_
                                            refine x_ic jS dX8_solve_256 ?_
                                            refine x_cmpge jS 315 dX8_solve_257 (by decide) (by omega) (fun hc257 => ?_) (fun hc257 => ?_)
                                            · skip
                                              refine x_iinc (lv' := [(4, .int (iI (i9 + 1))), (6, .int (iI xa_)), (5, .int (iI tm_)), (3, .int (iI by_)), (2, .int (iI at_)), (1, .int (iI k)), (0, .ref mo)]) jS dX8_solve_315 hl 2 rfl rfl rfl (fun ls hl => ?_)
                                              refine x_goto jS 219 dX8_solve_318 (by decide) ?_
                                              exact ih219 _ (by omega) (i9 + 1) la _ _ rfl (by omega) (hab) (fun m c x y z u => el_step hk.1 (by omega) hi9.1 (by omega) (by omega) hrk htm x y z u h9 (ha_ m c x y z u)) hP hD hS ls (lv_sub hl [0, 3, 4, 5, 6] rfl)
                                            · skip
                                              refine x_aln jS dX8_solve_260 rfl hl 6 rfl ?_
                                              refine x_get jS hK hP h_X8_solve_X8 0 rfl rfl 28 rfl m_X8_solve_2 rfl dX8_solve_261 ?_
                                              refine x_ic jS dX8_solve_264 ?_
                                              refine x_il jS dX8_solve_265 hl 2 rfl ?_
                                              refine x_imul jS dX8_solve_267 ?_
                                              refine x_il jS dX8_solve_268 hl 0 rfl ?_
                                              refine x_iadd jS dX8_solve_270 ?_
                                              refine x_aln jS dX8_solve_271 rfl hl 6 rfl ?_
                                              refine x_get jS hK hP h_X8_solve_X8 0 rfl rfl 28 rfl m_X8_solve_2 rfl dX8_solve_272 ?_
                                              refine x_ic jS dX8_solve_275 ?_
                                              refine x_il jS dX8_solve_276 hl 2 rfl ?_
                                              refine x_imul jS dX8_solve_278 ?_
                                              refine x_il jS dX8_solve_279 hl 0 rfl ?_
                                              refine x_iadd jS dX8_solve_281 ?_
                                              refine x_iald jS hK hP 4 rfl (by omega) dX8_solve_282 ?_
                                              have hb282 := hab (5 * i9 + xa_) (by omega) (by omega)
                                              refine x_aln jS dX8_solve_283 rfl hl 6 rfl ?_
                                              refine x_get jS hK hP h_X8_solve_X8 0 rfl rfl 0 rfl m_X8_solve_5 rfl dX8_solve_284 ?_
                                              refine x_il jS dX8_solve_287 hl 1 rfl ?_
                                              refine x_isub jS dX8_solve_289 ?_
                                              refine x_aln jS dX8_solve_290 rfl hl 6 rfl ?_
                                              refine x_get jS hK hP h_X8_solve_X8 0 rfl rfl 28 rfl m_X8_solve_2 rfl dX8_solve_291 ?_
                                              refine x_ic jS dX8_solve_294 ?_
                                              refine x_iln jS dX8_solve_295 rfl hl 5 rfl ?_
                                              refine x_imul jS dX8_solve_296 ?_
                                              refine x_il jS dX8_solve_297 hl 0 rfl ?_
                                              refine x_iadd jS dX8_solve_299 ?_
                                              refine x_iald jS hK hP 4 rfl (by omega) dX8_solve_300 ?_
                                              have hb300 := hab (5 * k + xa_) (by omega) (by omega)
                                              refine x_imulB jS dX8_solve_301 (by omega) (fun hp301 => ?_)
                                              refine x_iadd jS dX8_solve_302 ?_
                                              refine x_aln jS dX8_solve_303 rfl hl 6 rfl ?_
                                              refine x_get jS hK hP h_X8_solve_X8 0 rfl rfl 0 rfl m_X8_solve_5 rfl dX8_solve_304 ?_
                                              refine x_irem jS dX8_solve_307 (by omega) (fun hm307 => ?_)
                                              refine x_iast (ws' := [(mo, .inr (8, [.int (iI P), .int (iI sh), .int (iI sc), .ref xk, .ref xt, .ref xc, .ref xx, .ref xy, .ref xz, .int (iI cnt), .ref xr, .int (iI ak), .long tr, .ref xl, .int (iI L), .ref xC, .ref xF, .ref xK, .ref xn, .ref xb, .ref xw, .ref xa, .int (iI K), .ref yx, .ref yy, .ref yz, .ref yn, .ref yc, .ref yl])), (yn, .inl (cI, 5, .inl (aI kn))), (yc, .inl (cI, 5, .inl (aI kf))), (xa, .inl (cI, 9, .inl (aI an))), (yl, .inl (cI, 20, .inl (aI (uI la ((5 * i9) + xa_) (((la ((5 * i9) + xa_)) + ((P - tm_) * (la ((5 * k) + xa_)))) % P)))))]) jS hK hP hD hS 4 rfl (by omega) dX8_solve_308 rfl (fun jH jL hP hD hS => ?_)
                                              refine x_iinc (lv' := [(6, .int (iI (xa_ + 1))), (5, .int (iI tm_)), (4, .int (iI i9)), (3, .int (iI by_)), (2, .int (iI at_)), (1, .int (iI k)), (0, .ref mo)]) jS dX8_solve_309 hl 0 rfl rfl rfl (fun ls hl => ?_)
                                              refine x_goto jS 254 dX8_solve_312 (by decide) ?_
                                              exact ih254 _ (by omega) (xa_ + 1) (uI la ((5 * i9) + xa_) (((la ((5 * i9) + xa_)) + ((P - tm_) * (la ((5 * k) + xa_)))) % P)) _ _ rfl (by omega) (fun q x y => by by_cases e9 : q = 5 * i9 + xa_; rw [e9, uI_s]; have := emB (show 0 < P by omega) (la (5 * i9 + xa_) + (P - tm_) * la (5 * k + xa_)); omega; rw [uI_n e9]; exact hab q x y) (fun m c x y z u => by by_cases q : m = i9 ∧ c = xa_; rw [q.1, q.2, uI_s, if_pos (by omega), ha_ i9 xa_ (by omega) (by omega) (by omega) (by omega), if_neg (by omega), ha_ k xa_ (by omega) (by omega) (by omega) (by omega), if_neg (by omega)]; rw [uI_n (by omega), ha_ m c x y z u]; by_cases q2 : m = i9 ∧ c < xa_; rw [if_pos q2, if_pos (by omega)]; rw [if_neg q2, if_neg (by omega)]) hP hD hS ls (lv_sub hl [0, 1, 2, 3, 4, 5, 6] rfl)
                                        exact loop_254 _ 0 l9 _ _ rfl (by omega) (h9b) (fun m c x y z u => by rw [if_neg (by omega)]) hP hD hS ls (lv_sub hl [0, 1, 2, 3, 4, 5, 6] rfl)
                                      · skip
                                        refine x_ic jS dX8_solve_234 ?_
                                        refine x_goto jS 249 dX8_solve_235 (by decide) ?_
                                        refine x_topi (fun tm_ h_tm_ => ?_)
                                        have htm : tm_ = if i9 = k then 0 else l9 (5 * i9 + k) := by rw [if_pos hc231]; exact h_tm_
                                        have htb : 0 ≤ tm_ ∧ tm_ < P := by rw [h_tm_]; omega
                                        refine x_is (lv' := [(5, .int (iI tm_)), (4, .int (iI i9)), (3, .int (iI by_)), (2, .int (iI at_)), (1, .int (iI k)), (0, .ref mo)]) jS dX8_solve_249 hl rfl rfl (fun ls hl => ?_)
                                        refine x_ic jS dX8_solve_251 ?_
                                        refine x_is (lv' := [(6, .int (iI 0)), (5, .int (iI tm_)), (4, .int (iI i9)), (3, .int (iI by_)), (2, .int (iI at_)), (1, .int (iI k)), (0, .ref mo)]) jS dX8_solve_252 hl rfl rfl (fun ls hl => ?_)
                                        have loop_254 : ∀ (mm : Nat) (xa_ : Int) (la : Int → Int) (jH : Heap) (jL : List Loc), (5 - xa_).toNat = mm → (0 ≤ xa_ ∧ xa_ ≤ 5) → (∀ q : Int, 0 ≤ q → q < 20 → 0 ≤ la q ∧ la q ≤ 1000) → (∀ m c : Int, 0 ≤ m → m < 4 → 0 ≤ c → c < 5 → la (5 * m + c) = if m = i9 ∧ c < xa_ then (l9 (5 * m + c) + (P - tm_) * l9 (5 * k + c)) % P else l9 (5 * m + c)) → va_P D vwCl [(mo, .inr (8, [.int (iI P), .int (iI sh), .int (iI sc), .ref xk, .ref xt, .ref xc, .ref xx, .ref xy, .ref xz, .int (iI cnt), .ref xr, .int (iI ak), .long tr, .ref xl, .int (iI L), .ref xC, .ref xF, .ref xK, .ref xn, .ref xb, .ref xw, .ref xa, .int (iI K), .ref yx, .ref yy, .ref yz, .ref yn, .ref yc, .ref yl])), (yn, .inl (cI, 5, .inl (aI kn))), (yc, .inl (cI, 5, .inl (aI kf))), (xa, .inl (cI, 9, .inl (aI an))), (yl, .inl (cI, 20, .inl (aI la)))] jH → va_D jA [(mo, .inr (8, [.int (iI P), .int (iI sh), .int (iI sc), .ref xk, .ref xt, .ref xc, .ref xx, .ref xy, .ref xz, .int (iI cnt), .ref xr, .int (iI ak), .long tr, .ref xl, .int (iI L), .ref xC, .ref xF, .ref xK, .ref xn, .ref xb, .ref xw, .ref xa, .int (iI K), .ref yx, .ref yy, .ref yz, .ref yn, .ref yc, .ref yl])), (yn, .inl (cI, 5, .inl (aI kn))), (yc, .inl (cI, 5, .inl (aI kf))), (xa, .inl (cI, 9, .inl (aI an))), (yl, .inl (cI, 20, .inl (aI la)))] → va_S jA js.heap jH jL → ∀ ls : Array Slot, lv_has ls 7 [(6, .int (iI xa_)), (5, .int (iI tm_)), (4, .int (iI i9)), (3, .int (iI by_)), (2, .int (iI at_)), (1, .int (iI k)), (0, .ref mo)] → W jp jl je rm_X8_solve js jm ja jb jt jc jH jL 0 0 jQ (F0 jm 254 ls []) := by
                                          intro mm
                                          induction mm using Nat.strongRecOn with
                                          | ind mm ih254 =>
                                            intro xa_ la jH jL hmm254 hxa hab ha_ hP hD hS ls hl
                                            refine x_il jS dX8_solve_254 hl 0 rfl ?_
                                            refine x_ic jS dX8_solve_256 ?_
                                            refine x_cmpge jS 315 dX8_solve_257 (by decide) (by omega) (fun hc257 => ?_) (fun hc257 => ?_)
                                            · skip
                                              refine x_iinc (lv' := [(4, .int (iI (i9 + 1))), (6, .int (iI xa_)), (5, .int (iI tm_)), (3, .int (iI by_)), (2, .int (iI at_)), (1, .int (iI k)), (0, .ref mo)]) jS dX8_solve_315 hl 2 rfl rfl rfl (fun ls hl => ?_)
                                              refine x_goto jS 219 dX8_solve_318 (by decide) ?_
                                              exact ih219 _ (by omega) (i9 + 1) la _ _ rfl (by omega) (hab) (fun m c x y z u => el_step hk.1 (by omega) hi9.1 (by omega) (by omega) hrk htm x y z u h9 (ha_ m c x y z u)) hP hD hS ls (lv_sub hl [0, 3, 4, 5, 6] rfl)
                                            · skip
                                              refine x_aln jS dX8_solve_260 rfl hl 6 rfl ?_
                                              refine x_get jS hK hP h_X8_solve_X8 0 rfl rfl 28 rfl m_X8_solve_2 rfl dX8_solve_261 ?_
                                              refine x_ic jS dX8_solve_264 ?_
                                              refine x_il jS dX8_solve_265 hl 2 rfl ?_
                                              refine x_imul jS dX8_solve_267 ?_
                                              refine x_il jS dX8_solve_268 hl 0 rfl ?_
                                              refine x_iadd jS dX8_solve_270 ?_
                                              refine x_aln jS dX8_solve_271 rfl hl 6 rfl ?_
                                              refine x_get jS hK hP h_X8_solve_X8 0 rfl rfl 28 rfl m_X8_solve_2 rfl dX8_solve_272 ?_
                                              refine x_ic jS dX8_solve_275 ?_
                                              refine x_il jS dX8_solve_276 hl 2 rfl ?_
                                              refine x_imul jS dX8_solve_278 ?_
                                              refine x_il jS dX8_solve_279 hl 0 rfl ?_
                                              refine x_iadd jS dX8_solve_281 ?_
                                              refine x_iald jS hK hP 4 rfl (by omega) dX8_solve_282 ?_
                                              have hb282 := hab (5 * i9 + xa_) (by omega) (by omega)
                                              refine x_aln jS dX8_solve_283 rfl hl 6 rfl ?_
                                              refine x_get jS hK hP h_X8_solve_X8 0 rfl rfl 0 rfl m_X8_solve_5 rfl dX8_solve_284 ?_
                                              refine x_il jS dX8_solve_287 hl 1 rfl ?_
                                              refine x_isub jS dX8_solve_289 ?_
                                              refine x_aln jS dX8_solve_290 rfl hl 6 rfl ?_
                                              refine x_get jS hK hP h_X8_solve_X8 0 rfl rfl 28 rfl m_X8_solve_2 rfl dX8_solve_291 ?_
                                              refine x_ic jS dX8_solve_294 ?_
                                              refine x_iln jS dX8_solve_295 rfl hl 5 rfl ?_
                                              refine x_imul jS dX8_solve_296 ?_
                                              refine x_il jS dX8_solve_297 hl 0 rfl ?_
                                              refine x_iadd jS dX8_solve_299 ?_
                                              refine x_iald jS hK hP 4 rfl (by omega) dX8_solve_300 ?_
                                              have hb300 := hab (5 * k + xa_) (by omega) (by omega)
                                              refine x_imulB jS dX8_solve_301 (by omega) (fun hp301 => ?_)
                                              refine x_iadd jS dX8_solve_302 ?_
                                              refine x_aln jS dX8_solve_303 rfl hl 6 rfl ?_
                                              refine x_get jS hK hP h_X8_solve_X8 0 rfl rfl 0 rfl m_X8_solve_5 rfl dX8_solve_304 ?_
                                              refine x_irem jS dX8_solve_307 (by omega) (fun hm307 => ?_)
                                              refine x_iast (ws' := [(mo, .inr (8, [.int (iI P), .int (iI sh), .int (iI sc), .ref xk, .ref xt, .ref xc, .ref xx, .ref xy, .ref xz, .int (iI cnt), .ref xr, .int (iI ak), .long tr, .ref xl, .int (iI L), .ref xC, .ref xF, .ref xK, .ref xn, .ref xb, .ref xw, .ref xa, .int (iI K), .ref yx, .ref yy, .ref yz, .ref yn, .ref yc, .ref yl])), (yn, .inl (cI, 5, .inl (aI kn))), (yc, .inl (cI, 5, .inl (aI kf))), (xa, .inl (cI, 9, .inl (aI an))), (yl, .inl (cI, 20, .inl (aI (uI la ((5 * i9) + xa_) (((la ((5 * i9) + xa_)) + ((P - tm_) * (la ((5 * k) + xa_)))) % P)))))]) jS hK hP hD hS 4 rfl (by omega) dX8_solve_308 rfl (fun jH jL hP hD hS => ?_)
                                              refine x_iinc (lv' := [(6, .int (iI (xa_ + 1))), (5, .int (iI tm_)), (4, .int (iI i9)), (3, .int (iI by_)), (2, .int (iI at_)), (1, .int (iI k)), (0, .ref mo)]) jS dX8_solve_309 hl 0 rfl rfl rfl (fun ls hl => ?_)
                                              refine x_goto jS 254 dX8_solve_312 (by decide) ?_
                                              exact ih254 _ (by omega) (xa_ + 1) (uI la ((5 * i9) + xa_) (((la ((5 * i9) + xa_)) + ((P - tm_) * (la ((5 * k) + xa_)))) % P)) _ _ rfl (by omega) (fun q x y => by by_cases e9 : q = 5 * i9 + xa_; rw [e9, uI_s]; have := emB (show 0 < P by omega) (la (5 * i9 + xa_) + (P - tm_) * la (5 * k + xa_)); omega; rw [uI_n e9]; exact hab q x y) (fun m c x y z u => by by_cases q : m = i9 ∧ c = xa_; rw [q.1, q.2, uI_s, if_pos (by omega), ha_ i9 xa_ (by omega) (by omega) (by omega) (by omega), if_neg (by omega), ha_ k xa_ (by omega) (by omega) (by omega) (by omega), if_neg (by omega)]; rw [uI_n (by omega), ha_ m c x y z u]; by_cases q2 : m = i9 ∧ c < xa_; rw [if_pos q2, if_pos (by omega)]; rw [if_neg q2, if_neg (by omega)]) hP hD hS ls (lv_sub hl [0, 1, 2, 3, 4, 5, 6] rfl)
                                        exact loop_254 _ 0 l9 _ _ rfl (by omega) (h9b) (fun m c x y z u => by rw [if_neg (by omega)]) hP hD hS ls (lv_sub hl [0, 1, 2, 3, 4, 5, 6] rfl)
                                exact loop_219 _ 0 l7 _ _ rfl (by omega) (h7b) (fun m c x y z u => by rw [if_neg (by omega)]) hP hD hS ls (lv_sub hl [0, 1, 2, 3, 4] rfl)
                              · skip
                                refine x_aln jS dX8_solve_181 rfl hl 4 rfl ?_
                                refine x_get jS hK hP h_X8_solve_X8 0 rfl rfl 28 rfl m_X8_solve_2 rfl dX8_solve_182 ?_
                                refine x_ic jS dX8_solve_185 ?_
                                refine x_iln jS dX8_solve_186 rfl hl 3 rfl ?_
                                refine x_imul jS dX8_solve_187 ?_
                                refine x_il jS dX8_solve_188 hl 0 rfl ?_
                                refine x_iadd jS dX8_solve_190 ?_
                                refine x_aln jS dX8_solve_191 rfl hl 4 rfl ?_
                                refine x_get jS hK hP h_X8_solve_X8 0 rfl rfl 28 rfl m_X8_solve_2 rfl dX8_solve_192 ?_
                                refine x_ic jS dX8_solve_195 ?_
                                refine x_iln jS dX8_solve_196 rfl hl 3 rfl ?_
                                refine x_imul jS dX8_solve_197 ?_
                                refine x_il jS dX8_solve_198 hl 0 rfl ?_
                                refine x_iadd jS dX8_solve_200 ?_
                                refine x_iald jS hK hP 4 rfl (by omega) dX8_solve_201 ?_
                                have hb201 := h7b (5 * k + x7) (by omega) (by omega)
                                refine x_iln jS dX8_solve_202 rfl hl 1 rfl ?_
                                refine x_imulB jS dX8_solve_203 (by omega) (fun hp203 => ?_)
                                refine x_aln jS dX8_solve_204 rfl hl 4 rfl ?_
                                refine x_get jS hK hP h_X8_solve_X8 0 rfl rfl 0 rfl m_X8_solve_5 rfl dX8_solve_205 ?_
                                refine x_irem jS dX8_solve_208 (by omega) (fun hm208 => ?_)
                                refine x_iast (ws' := [(mo, .inr (8, [.int (iI P), .int (iI sh), .int (iI sc), .ref xk, .ref xt, .ref xc, .ref xx, .ref xy, .ref xz, .int (iI cnt), .ref xr, .int (iI ak), .long tr, .ref xl, .int (iI L), .ref xC, .ref xF, .ref xK, .ref xn, .ref xb, .ref xw, .ref xa, .int (iI K), .ref yx, .ref yy, .ref yz, .ref yn, .ref yc, .ref yl])), (yn, .inl (cI, 5, .inl (aI kn))), (yc, .inl (cI, 5, .inl (aI kf))), (xa, .inl (cI, 9, .inl (aI an))), (yl, .inl (cI, 20, .inl (aI (uI l7 ((5 * k) + x7) (((l7 ((5 * k) + x7)) * by_) % P)))))]) jS hK hP hD hS 4 rfl (by omega) dX8_solve_209 rfl (fun jH jL hP hD hS => ?_)
                                refine x_iinc (lv' := [(4, .int (iI (x7 + 1))), (3, .int (iI by_)), (2, .int (iI at_)), (1, .int (iI k)), (0, .ref mo)]) jS dX8_solve_210 hl 0 rfl rfl rfl (fun ls hl => ?_)
                                refine x_goto jS 175 dX8_solve_213 (by decide) ?_
                                exact ih175 _ (by omega) (x7 + 1) (uI l7 ((5 * k) + x7) (((l7 ((5 * k) + x7)) * by_) % P)) _ _ rfl (by omega) (fun q x y => by by_cases e9 : q = 5 * k + x7; rw [e9, uI_s]; have := emB (show 0 < P by omega) (l7 (5 * k + x7) * by_); omega; rw [uI_n e9]; exact h7b q x y) (fun m c x y z u => by by_cases q : m = k ∧ c = x7; rw [q.1, q.2, uI_s, if_pos (by omega), h7 k x7 (by omega) (by omega) (by omega) (by omega), if_neg (by omega)]; rw [uI_n (by omega), h7 m c x y z u]; by_cases q2 : m = k ∧ c < x7; rw [if_pos q2, if_pos (by omega)]; rw [if_neg q2, if_neg (by omega)]) hP hD hS ls (lv_sub hl [0, 1, 2, 3, 4] rfl)
                          exact loop_175 _ 0 l5 _ _ rfl (by omega) (h5b) (fun m c x y z u => by rw [if_neg (by omega)]) hP hD hS ls (lv_sub hl [0, 1, 2, 3, 4] rfl)
                        · skip
                          refine x_aln jS dX8_solve_107 rfl hl 3 rfl ?_
                          refine x_get jS hK hP h_X8_solve_X8 0 rfl rfl 28 rfl m_X8_solve_2 rfl dX8_solve_108 ?_
                          refine x_ic jS dX8_solve_111 ?_
                          refine x_iln jS dX8_solve_112 rfl hl 2 rfl ?_
                          refine x_imul jS dX8_solve_113 ?_
                          refine x_iln jS dX8_solve_114 rfl hl 0 rfl ?_
                          refine x_iadd jS dX8_solve_115 ?_
                          refine x_iald jS hK hP 4 rfl (by omega) dX8_solve_116 ?_
                          refine x_is (lv' := [(4, .int (iI (l5 ((5 * k) + x5)))), (3, .int (iI x5)), (2, .int (iI at_)), (1, .int (iI k)), (0, .ref mo)]) jS dX8_solve_117 hl rfl rfl (fun ls hl => ?_)
                          refine x_aln jS dX8_solve_119 rfl hl 4 rfl ?_
                          refine x_get jS hK hP h_X8_solve_X8 0 rfl rfl 28 rfl m_X8_solve_2 rfl dX8_solve_120 ?_
                          refine x_ic jS dX8_solve_123 ?_
                          refine x_iln jS dX8_solve_124 rfl hl 3 rfl ?_
                          refine x_imul jS dX8_solve_125 ?_
                          refine x_iln jS dX8_solve_126 rfl hl 1 rfl ?_
                          refine x_iadd jS dX8_solve_127 ?_
                          refine x_aln jS dX8_solve_128 rfl hl 4 rfl ?_
                          refine x_get jS hK hP h_X8_solve_X8 0 rfl rfl 28 rfl m_X8_solve_2 rfl dX8_solve_129 ?_
                          refine x_ic jS dX8_solve_132 ?_
                          refine x_iln jS dX8_solve_133 rfl hl 2 rfl ?_
                          refine x_imul jS dX8_solve_134 ?_
                          refine x_iln jS dX8_solve_135 rfl hl 1 rfl ?_
                          refine x_iadd jS dX8_solve_136 ?_
                          refine x_iald jS hK hP 4 rfl (by omega) dX8_solve_137 ?_
                          refine x_iast (ws' := [(mo, .inr (8, [.int (iI P), .int (iI sh), .int (iI sc), .ref xk, .ref xt, .ref xc, .ref xx, .ref xy, .ref xz, .int (iI cnt), .ref xr, .int (iI ak), .long tr, .ref xl, .int (iI L), .ref xC, .ref xF, .ref xK, .ref xn, .ref xb, .ref xw, .ref xa, .int (iI K), .ref yx, .ref yy, .ref yz, .ref yn, .ref yc, .ref yl])), (yn, .inl (cI, 5, .inl (aI kn))), (yc, .inl (cI, 5, .inl (aI kf))), (xa, .inl (cI, 9, .inl (aI an))), (yl, .inl (cI, 20, .inl (aI (uI l5 ((5 * k) + x5) (l5 ((5 * at_) + x5))))))]) jS hK hP hD hS 4 rfl (by omega) dX8_solve_138 rfl (fun jH jL hP hD hS => ?_)
                          refine x_aln jS dX8_solve_139 rfl hl 4 rfl ?_
                          refine x_get jS hK hP h_X8_solve_X8 0 rfl rfl 28 rfl m_X8_solve_2 rfl dX8_solve_140 ?_
                          refine x_ic jS dX8_solve_143 ?_
                          refine x_iln jS dX8_solve_144 rfl hl 2 rfl ?_
                          refine x_imul jS dX8_solve_145 ?_
                          refine x_iln jS dX8_solve_146 rfl hl 1 rfl ?_
                          refine x_iadd jS dX8_solve_147 ?_
                          refine x_il jS dX8_solve_148 hl 0 rfl ?_
                          refine x_iast (ws' := [(mo, .inr (8, [.int (iI P), .int (iI sh), .int (iI sc), .ref xk, .ref xt, .ref xc, .ref xx, .ref xy, .ref xz, .int (iI cnt), .ref xr, .int (iI ak), .long tr, .ref xl, .int (iI L), .ref xC, .ref xF, .ref xK, .ref xn, .ref xb, .ref xw, .ref xa, .int (iI K), .ref yx, .ref yy, .ref yz, .ref yn, .ref yc, .ref yl])), (yn, .inl (cI, 5, .inl (aI kn))), (yc, .inl (cI, 5, .inl (aI kf))), (xa, .inl (cI, 9, .inl (aI an))), (yl, .inl (cI, 20, .inl (aI (uI (uI l5 ((5 * k) + x5) (l5 ((5 * at_) + x5))) ((5 * at_) + x5) (l5 ((5 * k) + x5))))))]) jS hK hP hD hS 4 rfl (by omega) dX8_solve_150 rfl (fun jH jL hP hD hS => ?_)
                          refine x_iinc (lv' := [(3, .int (iI (x5 + 1))), (4, .int (iI (l5 ((5 * k) + x5)))), (2, .int (iI at_)), (1, .int (iI k)), (0, .ref mo)]) jS dX8_solve_151 hl 1 rfl rfl rfl (fun ls hl => ?_)
                          refine x_goto jS 102 dX8_solve_154 (by decide) ?_
                          exact ih102 _ (by omega) (x5 + 1) (uI (uI l5 ((5 * k) + x5) (l5 ((5 * at_) + x5))) ((5 * at_) + x5) (l5 ((5 * k) + x5))) _ _ rfl (by omega) (fun q x y => by by_cases e9 : q = 5 * at_ + x5; rw [e9, uI_s]; exact h5b _ (by omega) (by omega); rw [uI_n e9]; by_cases e8 : q = 5 * k + x5; rw [e8, uI_s]; exact h5b _ (by omega) (by omega); rw [uI_n e8]; exact h5b q x y) (fun m c x y z u => sw_step hk.1 (by omega) (by omega) x y z u h5 (by omega)) hP hD hS ls (lv_sub hl [0, 2, 3, 4] rfl)
                    exact loop_102 _ 0 l3 _ _ rfl (by omega) (h3b) (fun m c x y z u => by rw [if_neg (by omega)]) hP hD hS ls (lv_sub hl [0, 1, 2, 3] rfl)
                  · skip
                    refine x_iinc (lv' := [(2, .int (iI (at_ + 1))), (1, .int (iI k)), (0, .ref mo)]) jS dX8_solve_94 hl 0 rfl rfl rfl (fun ls hl => ?_)
                    refine x_goto jS 81 dX8_solve_97 (by decide) ?_
                    have hz2 : ∀ m : Int, k ≤ m → m < at_ + 1 → l3 (5 * m + k) = 0 := fun m x y => by
                      rcases Int.lt_or_le m at_ with q | q
                      · exact hz m x q
                      · rw [show m = at_ by omega]; exact hc91
                    have hat2 : at_ + 1 < K := by
                      rcases Int.lt_or_le (at_ + 1) K with q | q
                      · exact q
                      · exact (gs_piv (M := (fun i j => l3 (5 * i + j))) hok ⟨hk.1, by omega⟩ hd h3.1 h3.2.2 (fun m x y => hz2 m x (by omega))).elim
                    exact ih81 _ (by omega) (at_ + 1) _ _ rfl (by omega) (hz2) hP hD hS ls (lv_sub hl [0, 1, 2] rfl)
              exact loop_81 _ k _ _ rfl (by omega) (fun m x y => by omega) hP hD hS ls (lv_sub hl [0, 1, 2] rfl)
        exact loop_71 _ 0 l1_ _ _ rfl (by omega) (h1b) (fun m c x y z u => by rcases u with u | u; rw [h1 m c x (by omega) z u]; exact pw_in hP2 _ _; rw [u, h14 m x (by omega)]; exact han m x y) (gs_0 hP2 hsl (fun m c x y z u => h1 m c x (by omega) z u) (fun m x y => h14 m x (by omega))) hP hD hS ls (lv_sub hl [0, 1] rfl)
      · skip
        refine x_ic jS dX8_solve_10 ?_
        refine x_isn (lv' := [(2, .int (iI 0)), (1, .int (iI i)), (0, .ref mo)]) jS dX8_solve_11 rfl hl rfl rfl (fun ls hl => ?_)
        have loop_12 : ∀ (mm : Nat) (j : Int) (l2_ : Int → Int) (jH : Heap) (jL : List Loc), (K - j).toNat = mm → (0 ≤ j ∧ j ≤ K) → (∀ q : Int, 0 ≤ q → q < 20 → 0 ≤ l2_ q ∧ l2_ q ≤ 1000) → (∀ c : Int, 0 ≤ c → c < j → l2_ (5 * i + c) = pw P (kn c) i) → (∀ m c : Int, 0 ≤ m → m < i → 0 ≤ c → c < K → l2_ (5 * m + c) = pw P (kn c) m) → (∀ m : Int, 0 ≤ m → m < i → l2_ (5 * m + 4) = an m) → va_P D vwCl [(mo, .inr (8, [.int (iI P), .int (iI sh), .int (iI sc), .ref xk, .ref xt, .ref xc, .ref xx, .ref xy, .ref xz, .int (iI cnt), .ref xr, .int (iI ak), .long tr, .ref xl, .int (iI L), .ref xC, .ref xF, .ref xK, .ref xn, .ref xb, .ref xw, .ref xa, .int (iI K), .ref yx, .ref yy, .ref yz, .ref yn, .ref yc, .ref yl])), (yn, .inl (cI, 5, .inl (aI kn))), (yc, .inl (cI, 5, .inl (aI kf))), (xa, .inl (cI, 9, .inl (aI an))), (yl, .inl (cI, 20, .inl (aI l2_)))] jH → va_D jA [(mo, .inr (8, [.int (iI P), .int (iI sh), .int (iI sc), .ref xk, .ref xt, .ref xc, .ref xx, .ref xy, .ref xz, .int (iI cnt), .ref xr, .int (iI ak), .long tr, .ref xl, .int (iI L), .ref xC, .ref xF, .ref xK, .ref xn, .ref xb, .ref xw, .ref xa, .int (iI K), .ref yx, .ref yy, .ref yz, .ref yn, .ref yc, .ref yl])), (yn, .inl (cI, 5, .inl (aI kn))), (yc, .inl (cI, 5, .inl (aI kf))), (xa, .inl (cI, 9, .inl (aI an))), (yl, .inl (cI, 20, .inl (aI l2_)))] → va_S jA js.heap jH jL → ∀ ls : Array Slot, lv_has ls 7 [(2, .int (iI j)), (1, .int (iI i)), (0, .ref mo)] → W jp jl je rm_X8_solve js jm ja jb jt jc jH jL 0 0 jQ (F0 jm 12 ls []) := by
          intro mm
          induction mm using Nat.strongRecOn with
          | ind mm ih12 =>
            intro j l2_ jH jL hmm12 hj h2b h2 h2o h24 hP hD hS ls hl
            refine x_iln jS dX8_solve_12 rfl hl 0 rfl ?_
            refine x_aln jS dX8_solve_13 rfl hl 2 rfl ?_
            refine x_get jS hK hP h_X8_solve_X8 0 rfl rfl 22 rfl m_X8_solve_1 rfl dX8_solve_14 ?_
            refine x_cmpge jS 47 dX8_solve_17 (by decide) (by omega) (fun hc17 => ?_) (fun hc17 => ?_)
            · skip
              refine x_aln jS dX8_solve_47 rfl hl 2 rfl ?_
              refine x_get jS hK hP h_X8_solve_X8 0 rfl rfl 28 rfl m_X8_solve_2 rfl dX8_solve_48 ?_
              refine x_ic jS dX8_solve_51 ?_
              refine x_iln jS dX8_solve_52 rfl hl 1 rfl ?_
              refine x_imul jS dX8_solve_53 ?_
              refine x_ic jS dX8_solve_54 ?_
              refine x_iadd jS dX8_solve_55 ?_
              refine x_aln jS dX8_solve_56 rfl hl 2 rfl ?_
              refine x_get jS hK hP h_X8_solve_X8 0 rfl rfl 21 rfl m_X8_solve_4 rfl dX8_solve_57 ?_
              refine x_iln jS dX8_solve_60 rfl hl 1 rfl ?_
              refine x_iald jS hK hP 3 rfl (by omega) dX8_solve_61 ?_
              have hb61 := han i hi.1 (by omega)
              refine x_iast (ws' := [(mo, .inr (8, [.int (iI P), .int (iI sh), .int (iI sc), .ref xk, .ref xt, .ref xc, .ref xx, .ref xy, .ref xz, .int (iI cnt), .ref xr, .int (iI ak), .long tr, .ref xl, .int (iI L), .ref xC, .ref xF, .ref xK, .ref xn, .ref xb, .ref xw, .ref xa, .int (iI K), .ref yx, .ref yy, .ref yz, .ref yn, .ref yc, .ref yl])), (yn, .inl (cI, 5, .inl (aI kn))), (yc, .inl (cI, 5, .inl (aI kf))), (xa, .inl (cI, 9, .inl (aI an))), (yl, .inl (cI, 20, .inl (aI (uI l2_ ((5 * i) + 4) (an i)))))]) jS hK hP hD hS 4 rfl (by omega) dX8_solve_62 rfl (fun jH jL hP hD hS => ?_)
              refine x_iinc (lv' := [(1, .int (iI (i + 1))), (2, .int (iI j)), (0, .ref mo)]) jS dX8_solve_63 hl 1 rfl rfl rfl (fun ls hl => ?_)
              refine x_goto jS 2 dX8_solve_66 (by decide) ?_
              exact ih2 _ (by omega) (i + 1) (uI l2_ ((5 * i) + 4) (an i)) _ _ rfl (by omega) (fun q x y => by by_cases e9 : q = 5 * i + 4; rw [e9, uI_s]; have := han i hi.1 (by omega); omega; rw [uI_n e9]; exact h2b q x y) (fun m c x y z u => by rw [uI_n (by omega)]; rcases Int.lt_or_le m i with q | q; exact h2o m c x q z u; rw [show m = i by omega]; exact h2 c z (by omega)) (fun m x y => by rcases Int.lt_or_le m i with q | q; rw [uI_n (by omega)]; exact h24 m x q; rw [show m = i by omega, uI_s]) hP hD hS ls (lv_sub hl [0, 2] rfl)
            · skip
              refine x_aln jS dX8_solve_20 rfl hl 2 rfl ?_
              refine x_get jS hK hP h_X8_solve_X8 0 rfl rfl 28 rfl m_X8_solve_2 rfl dX8_solve_21 ?_
              refine x_ic jS dX8_solve_24 ?_
              refine x_iln jS dX8_solve_25 rfl hl 1 rfl ?_
              refine x_imul jS dX8_solve_26 ?_
              refine x_iln jS dX8_solve_27 rfl hl 0 rfl ?_
              refine x_iadd jS dX8_solve_28 ?_
              refine x_aln jS dX8_solve_29 rfl hl 2 rfl ?_
              refine x_aln jS dX8_solve_30 rfl hl 2 rfl ?_
              refine x_get jS hK hP h_X8_solve_X8 0 rfl rfl 26 rfl m_X8_solve_3 rfl dX8_solve_31 ?_
              refine x_iln jS dX8_solve_34 rfl hl 0 rfl ?_
              refine x_iald jS hK hP 1 rfl (by omega) dX8_solve_35 ?_
              have hb35 := hkn j hj.1 (by omega)
              refine x_iln jS dX8_solve_36 rfl hl 1 rfl ?_
              refine x_rI (x_rmV (As := [.int (iI (kn j)), .int (iI i)]) (rest := [.int (iI ((5 * i) + j)), .ref yl]) jS hl.1 hK (c_X8_raised jl D cI mo xk xt xc xx xy xz xr xl xC xF xK xn xb xw xa yx yy yz yn yc yl P sh sc cnt ak L K tr (kn j) i (by first | assumption | omega) (by first | assumption | omega) (by first | assumption | omega)) (hP.sub [0] rfl) 0 rfl rfl gX8_solve_X8_raised rfl rfl rfl kf_X8_raised rfl rfl rfl rfl rfl dX8_solve_37 rfl rfl) ?_
              refine x_iast (ws' := [(mo, .inr (8, [.int (iI P), .int (iI sh), .int (iI sc), .ref xk, .ref xt, .ref xc, .ref xx, .ref xy, .ref xz, .int (iI cnt), .ref xr, .int (iI ak), .long tr, .ref xl, .int (iI L), .ref xC, .ref xF, .ref xK, .ref xn, .ref xb, .ref xw, .ref xa, .int (iI K), .ref yx, .ref yy, .ref yz, .ref yn, .ref yc, .ref yl])), (yn, .inl (cI, 5, .inl (aI kn))), (yc, .inl (cI, 5, .inl (aI kf))), (xa, .inl (cI, 9, .inl (aI an))), (yl, .inl (cI, 20, .inl (aI (uI l2_ ((5 * i) + j) (pw P (kn j) i)))))]) jS hK hP hD hS 4 rfl (by omega) dX8_solve_40 rfl (fun jH jL hP hD hS => ?_)
              refine x_iinc (lv' := [(2, .int (iI (j + 1))), (1, .int (iI i)), (0, .ref mo)]) jS dX8_solve_41 hl 0 rfl rfl rfl (fun ls hl => ?_)
              refine x_goto jS 12 dX8_solve_44 (by decide) ?_
              exact ih12 _ (by omega) (j + 1) (uI l2_ ((5 * i) + j) (pw P (kn j) i)) _ _ rfl (by omega) (fun q x y => by by_cases e9 : q = 5 * i + j; rw [e9, uI_s]; have := pw_in hP2 (kn j) i; omega; rw [uI_n e9]; exact h2b q x y) (fun c x y => by rcases Int.lt_or_le c j with q | q; rw [uI_n (by omega)]; exact h2 c x q; rw [show c = j by omega, uI_s]) (fun m c x y z u => by rw [uI_n (by omega)]; exact h2o m c x y z u) (fun m x y => by rw [uI_n (by omega)]; exact h24 m x y) hP hD hS ls (lv_sub hl [0, 1, 2] rfl)
        exact loop_12 _ 0 l1_ _ _ rfl (by omega) (h1b) (fun c x y => by omega) (h1) (h14) hP hD hS ls (lv_sub hl [0, 1, 2] rfl)
  exact loop_2 _ 0 li _ _ rfl (by omega) (hli) (fun m c x y => by omega) (fun m x y => by omega) hP hD hS ls (lv_sub hl [0, 1] rfl)
