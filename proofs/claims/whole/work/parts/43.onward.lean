/-! Onward -/
theorem h_X3_takeWeights_X6 : ∀ w ∈ u_ws RX6 TX6 8, w ∈ wsX3_takeWeights := fun w h => List.mem_cons_of_mem _ (List.mem_append_left _ (List.mem_append_left _ (List.mem_append_right _ h)))
theorem h_X3_takeWeights_X3 : ∀ w ∈ u_ws RX3 TX3 5, w ∈ wsX3_takeWeights := fun w h => List.mem_cons_of_mem _ (List.mem_append_left _ (List.mem_append_right _ h))
theorem m_X3_takeWeights_1 : Cond.fieldLink RX3 21 "SealedBox$Onward" "length" "I" ∈ wsX3_takeWeights := List.mem_of_getElem? (i := 1) rfl
theorem m_X3_takeWeights_2 : Cond.fieldLink RX3 9 "SealedBox$Onward" "weights" "[I" ∈ wsX3_takeWeights := List.mem_of_getElem? (i := 2) rfl
theorem kf_X6_weight : kfV yX6_weight RX6 1 := by decide +kernel
abbrev rm_X3_takeWeights : Room := { frames := 2, cells := 0, slots := 0, locals := 43 }
set_option maxHeartbeats 4000000 in
set_option maxRecDepth 100000 in
theorem c_X3_takeWeights (jl : Launch) (D : va_G) (cI : ClassId) (o3 qw qt qd h6 qn qo qs h4 q4 : Nat) (P L0 L fL f m : Int) (w now : Int → Int) (sz : Nat) (hP5 : 5 ≤ P ∧ P ≤ 997) (hL : 1 ≤ L ∧ L ≤ 16) (hnow : ∀ j : Int, 0 ≤ j → j ≤ 16 → 0 ≤ now j ∧ now j < P) : Met jl yX3_takeWeights wsX3_takeWeights rm_X3_takeWeights (xPw [.ref o3, .ref h6] D cI [(o3, .inr (3, [.ref h4, .ref qw, .ref qt, .ref qd, .int (iI L0)])), (qw, .inl (cI, 17, .inl (aI w))), (h6, .inr (6, [.ref h4, .ref qn, .ref qo, .ref qs, .int (iI L), .int (iI fL), .int (iI f), .int (iI m)])), (qn, .inl (cI, 17, .inl (aI now))), (h4, .inr (4, [.ref q4, .int (iI P)]))] sz) (va_Qv (fun (u : (Int → Int)) => ∀ j : Int, 1 ≤ j → j ≤ L → u j = (0 + P - now j) % P) (xB D (fun (u : (Int → Int)) => [(o3, .inr (3, [.ref h4, .ref qw, .ref qt, .ref qd, .int (iI L)])), (qw, .inl (cI, 17, .inl (aI u))), (h6, .inr (6, [.ref h4, .ref qn, .ref qo, .ref qs, .int (iI L), .int (iI fL), .int (iI f), .int (iI m)])), (qn, .inl (cI, 17, .inl (aI now))), (h4, .inr (4, [.ref q4, .int (iI P)]))]) (va_A [(o3, .inr (3, [.ref h4, .ref qw, .ref qt, .ref qd, .int (iI L0)])), (qw, .inl (cI, 17, .inl (aI w))), (h6, .inr (6, [.ref h4, .ref qn, .ref qo, .ref qs, .int (iI L), .int (iI fL), .int (iI f), .int (iI m)])), (qn, .inl (cI, 17, .inl (aI now))), (h4, .inr (4, [.ref q4, .int (iI P)]))] sz)) (va_A [(o3, .inr (3, [.ref h4, .ref qw, .ref qt, .ref qd, .int (iI L0)])), (qw, .inl (cI, 17, .inl (aI w))), (h6, .inr (6, [.ref h4, .ref qn, .ref qo, .ref qs, .int (iI L), .int (iI fL), .int (iI f), .int (iI m)])), (qn, .inl (cI, 17, .inl (aI now))), (h4, .inr (4, [.ref q4, .int (iI P)]))] sz)) 0 0 (va_A [(o3, .inr (3, [.ref h4, .ref qw, .ref qt, .ref qd, .int (iI L0)])), (qw, .inl (cI, 17, .inl (aI w))), (h6, .inr (6, [.ref h4, .ref qn, .ref qo, .ref qs, .int (iI L), .int (iI fL), .int (iI f), .int (iI m)])), (qn, .inl (cI, 17, .inl (aI now))), (h4, .inr (4, [.ref q4, .int (iI P)]))] sz) := by
  refine x_metW (own := RX3) (cc := cX3_takeWeights) (maxL := 3) (ret := none) (Qc := fun jA => va_Qv (fun (u : (Int → Int)) => ∀ j : Int, 1 ≤ j → j ≤ L → u j = (0 + P - now j) % P) (xB D (fun (u : (Int → Int)) => [(o3, .inr (3, [.ref h4, .ref qw, .ref qt, .ref qd, .int (iI L)])), (qw, .inl (cI, 17, .inl (aI u))), (h6, .inr (6, [.ref h4, .ref qn, .ref qo, .ref qs, .int (iI L), .int (iI fL), .int (iI f), .int (iI m)])), (qn, .inl (cI, 17, .inl (aI now))), (h4, .inr (4, [.ref q4, .int (iI P)]))]) jA) jA) (by decide) rfl rfl rfl ?_
  intro jp je js jm ja jb jt jc jA jQ jS jr jk jn jq hK hP hD hA hS ls hl
  have hl : lv_has ls 3 [(0, .ref o3), (1, .ref h6)] := hl
  refine x_aln jS dX3_takeWeights_0 rfl hl 0 rfl ?_
  refine x_aln jS dX3_takeWeights_1 rfl hl 1 rfl ?_
  refine x_getN jS hK hP h_X3_takeWeights_X6 2 rfl rfl 4 rfl 10 rfl rfl dX3_takeWeights_2 ?_
  refine x_put (ty0 := tyX3) (ws' := [(o3, .inr (3, [.ref h4, .ref qw, .ref qt, .ref qd, .int (iI L)])), (qw, .inl (cI, 17, .inl (aI w))), (h6, .inr (6, [.ref h4, .ref qn, .ref qo, .ref qs, .int (iI L), .int (iI fL), .int (iI f), .int (iI m)])), (qn, .inl (cI, 17, .inl (aI now))), (h4, .inr (4, [.ref q4, .int (iI P)]))]) jS hK hP hD hS h_X3_takeWeights_X3 tyX3_ok nmX3 0 rfl rfl 4 rfl m_X3_takeWeights_1 rfl rfl rfl rfl dX3_takeWeights_5 rfl (fun jH jL hP hD hS => ?_)
  refine x_ic jS dX3_takeWeights_8 ?_
  refine x_isn (lv' := [(2, .int (iI 1)), (0, .ref o3), (1, .ref h6)]) jS dX3_takeWeights_9 rfl hl rfl rfl (fun ls hl => ?_)
  have loop_10 : ∀ (mm : Nat) (i : Int) (w1 : Int → Int) (jH : Heap) (jL : List Loc), (L + 1 - i).toNat = mm → (1 ≤ i ∧ i ≤ L + 1) → (∀ j : Int, 1 ≤ j → j < i → w1 j = (0 + P - now j) % P) → va_P D vwCl [(o3, .inr (3, [.ref h4, .ref qw, .ref qt, .ref qd, .int (iI L)])), (qw, .inl (cI, 17, .inl (aI w1))), (h6, .inr (6, [.ref h4, .ref qn, .ref qo, .ref qs, .int (iI L), .int (iI fL), .int (iI f), .int (iI m)])), (qn, .inl (cI, 17, .inl (aI now))), (h4, .inr (4, [.ref q4, .int (iI P)]))] jH → va_D jA [(o3, .inr (3, [.ref h4, .ref qw, .ref qt, .ref qd, .int (iI L)])), (qw, .inl (cI, 17, .inl (aI w1))), (h6, .inr (6, [.ref h4, .ref qn, .ref qo, .ref qs, .int (iI L), .int (iI fL), .int (iI f), .int (iI m)])), (qn, .inl (cI, 17, .inl (aI now))), (h4, .inr (4, [.ref q4, .int (iI P)]))] → va_S jA js.heap jH jL → ∀ ls : Array Slot, lv_has ls 3 [(2, .int (iI i)), (0, .ref o3), (1, .ref h6)] → W jp jl je rm_X3_takeWeights js jm ja jb jt jc jH jL 0 0 jQ (F0 jm 10 ls []) := by
    intro mm
    induction mm using Nat.strongRecOn with
    | ind mm ih10 =>
      intro i w1 jH jL hmm10 hi h1 hP hD hS ls hl
      refine x_iln jS dX3_takeWeights_10 rfl hl 0 rfl ?_
      refine x_aln jS dX3_takeWeights_11 rfl hl 1 rfl ?_
      refine x_get jS hK hP h_X3_takeWeights_X3 0 rfl rfl 4 rfl m_X3_takeWeights_1 rfl dX3_takeWeights_12 ?_
      refine x_cmpgt jS 35 dX3_takeWeights_15 (by decide) (by omega) (fun hc15 => ?_) (fun hc15 => ?_)
      · skip
        exact x_vretW jS jr jk jq dX3_takeWeights_35 w1 hP hD hS (show ∀ j : Int, 1 ≤ j → j ≤ L → w1 j = (0 + P - now j) % P from fun j a b => h1 j a (by omega))
      · skip
        refine x_aln jS dX3_takeWeights_18 rfl hl 1 rfl ?_
        refine x_get jS hK hP h_X3_takeWeights_X3 0 rfl rfl 1 rfl m_X3_takeWeights_2 rfl dX3_takeWeights_19 ?_
        refine x_iln jS dX3_takeWeights_22 rfl hl 0 rfl ?_
        refine x_aln jS dX3_takeWeights_23 rfl hl 2 rfl ?_
        refine x_iln jS dX3_takeWeights_24 rfl hl 0 rfl ?_
        have hni := hnow i (by omega) (by omega)
        refine x_rI (x_rmV (As := [.int (iI i)]) (rest := [.int (iI i), .ref qw]) jS hl.1 hK (c_X6_weight jl D cI h6 qn qo qs h4 q4 P L fL f m i now (by first | assumption | omega) (by first | assumption | omega) (by first | assumption | omega)) (hP.sub [2, 3, 4] rfl) 0 rfl rfl gX3_takeWeights_X6_weight rfl rfl rfl kf_X6_weight rfl rfl rfl rfl rfl dX3_takeWeights_25 rfl rfl) ?_
        refine x_iast (ws' := [(o3, .inr (3, [.ref h4, .ref qw, .ref qt, .ref qd, .int (iI L)])), (qw, .inl (cI, 17, .inl (aI (uI w1 i ((0 + P - now i) % P))))), (h6, .inr (6, [.ref h4, .ref qn, .ref qo, .ref qs, .int (iI L), .int (iI fL), .int (iI f), .int (iI m)])), (qn, .inl (cI, 17, .inl (aI now))), (h4, .inr (4, [.ref q4, .int (iI P)]))]) jS hK hP hD hS 1 rfl (by omega) dX3_takeWeights_28 rfl (fun jH jL hP hD hS => ?_)
        refine x_iinc (lv' := [(2, .int (iI (i + 1))), (0, .ref o3), (1, .ref h6)]) jS dX3_takeWeights_29 hl 0 rfl rfl rfl (fun ls hl => ?_)
        refine x_goto jS 10 dX3_takeWeights_32 (by decide) ?_
        exact ih10 _ (by omega) (i + 1) (uI w1 i ((0 + P - now i) % P)) _ _ rfl (by omega) (fun j a b => by rcases Int.lt_or_le j i with q | q; rw [uI_n (by omega)]; exact h1 j a q; rw [show j = i by omega, uI_s]) hP hD hS ls (lv_sub hl [0, 1, 2] rfl)
  exact loop_10 _ 1 w _ _ rfl (by omega) (fun j a b => by omega) hP hD hS ls (lv_sub hl [0, 1, 2] rfl)
theorem h_X3_squareInto_X3 : ∀ w ∈ u_ws RX3 TX3 5, w ∈ wsX3_squareInto := fun w h => List.mem_cons_of_mem _ (List.mem_append_right _ h)
theorem m_X3_squareInto_1 : Cond.fieldLink RX3 18 "SealedBox$Onward" "product" "[I" ∈ wsX3_squareInto := List.mem_of_getElem? (i := 1) rfl
theorem m_X3_squareInto_2 : Cond.fieldLink RX3 21 "SealedBox$Onward" "length" "I" ∈ wsX3_squareInto := List.mem_of_getElem? (i := 2) rfl
theorem m_X3_squareInto_3 : Cond.fieldLink RX3 15 "SealedBox$Onward" "rest" "[I" ∈ wsX3_squareInto := List.mem_of_getElem? (i := 3) rfl
abbrev rm_X3_squareInto : Room := { frames := 0, cells := 0, slots := 0, locals := 0 }
set_option maxHeartbeats 4000000 in
set_option maxRecDepth 100000 in
theorem c_X3_squareInto (jl : Launch) (D : va_G) (cI : ClassId) (o3 qw qt qd h4 : Nat) (P L bit : Int) (a pr : Int → Int) (sz : Nat) (hP5 : 5 ≤ P ∧ P ≤ 997) (hL : 1 ≤ L ∧ L ≤ 16) (hbit : 0 ≤ bit ∧ bit ≤ 1) (ha : ∀ j : Int, 0 ≤ j → j < L → 0 ≤ a j ∧ a j < P) : Met jl yX3_squareInto wsX3_squareInto rm_X3_squareInto (xPw [.ref o3, .int (iI bit)] D cI [(o3, .inr (3, [.ref h4, .ref qw, .ref qt, .ref qd, .int (iI L)])), (qt, .inl (cI, 16, .inl (aI a))), (qd, .inl (cI, 32, .inl (aI pr)))] sz) (va_Qv (fun (u : (Int → Int)) => (∀ T : Int → Int, sm (fun q => u q * T q) 32 = sm (fun i => sm (fun j => a i * a j * T (i + j + bit)) L) L) ∧ (∀ q : Int, 0 ≤ q → q < 32 → 0 ≤ u q ∧ u q ≤ 256000000)) (xB D (fun (u : (Int → Int)) => [(o3, .inr (3, [.ref h4, .ref qw, .ref qt, .ref qd, .int (iI L)])), (qt, .inl (cI, 16, .inl (aI a))), (qd, .inl (cI, 32, .inl (aI u)))]) (va_A [(o3, .inr (3, [.ref h4, .ref qw, .ref qt, .ref qd, .int (iI L)])), (qt, .inl (cI, 16, .inl (aI a))), (qd, .inl (cI, 32, .inl (aI pr)))] sz)) (va_A [(o3, .inr (3, [.ref h4, .ref qw, .ref qt, .ref qd, .int (iI L)])), (qt, .inl (cI, 16, .inl (aI a))), (qd, .inl (cI, 32, .inl (aI pr)))] sz)) 0 0 (va_A [(o3, .inr (3, [.ref h4, .ref qw, .ref qt, .ref qd, .int (iI L)])), (qt, .inl (cI, 16, .inl (aI a))), (qd, .inl (cI, 32, .inl (aI pr)))] sz) := by
  refine x_metW (own := RX3) (cc := cX3_squareInto) (maxL := 4) (ret := none) (Qc := fun jA => va_Qv (fun (u : (Int → Int)) => (∀ T : Int → Int, sm (fun q => u q * T q) 32 = sm (fun i => sm (fun j => a i * a j * T (i + j + bit)) L) L) ∧ (∀ q : Int, 0 ≤ q → q < 32 → 0 ≤ u q ∧ u q ≤ 256000000)) (xB D (fun (u : (Int → Int)) => [(o3, .inr (3, [.ref h4, .ref qw, .ref qt, .ref qd, .int (iI L)])), (qt, .inl (cI, 16, .inl (aI a))), (qd, .inl (cI, 32, .inl (aI u)))]) jA) jA) (by decide) rfl rfl rfl ?_
  intro jp je js jm ja jb jt jc jA jQ jS jr jk jn jq hK hP hD hA hS ls hl
  have hl : lv_has ls 4 [(0, .ref o3), (1, .int (iI bit))] := hl
  refine x_ic jS dX3_squareInto_0 ?_
  refine x_isn (lv' := [(2, .int (iI 0)), (0, .ref o3), (1, .int (iI bit))]) jS dX3_squareInto_1 rfl hl rfl rfl (fun ls hl => ?_)
  have loop_2 : ∀ (mm : Nat) (i : Int) (pr1 : Int → Int) (jH : Heap) (jL : List Loc), (32 - i).toNat = mm → (0 ≤ i ∧ i ≤ 32) → (∀ j : Int, 0 ≤ j → j < i → pr1 j = 0) → va_P D vwCl [(o3, .inr (3, [.ref h4, .ref qw, .ref qt, .ref qd, .int (iI L)])), (qt, .inl (cI, 16, .inl (aI a))), (qd, .inl (cI, 32, .inl (aI pr1)))] jH → va_D jA [(o3, .inr (3, [.ref h4, .ref qw, .ref qt, .ref qd, .int (iI L)])), (qt, .inl (cI, 16, .inl (aI a))), (qd, .inl (cI, 32, .inl (aI pr1)))] → va_S jA js.heap jH jL → ∀ ls : Array Slot, lv_has ls 4 [(2, .int (iI i)), (0, .ref o3), (1, .int (iI bit))] → W jp jl je rm_X3_squareInto js jm ja jb jt jc jH jL 0 0 jQ (F0 jm 2 ls []) := by
    intro mm
    induction mm using Nat.strongRecOn with
    | ind mm ih2 =>
      intro i pr1 jH jL hmm2 hi h1 hP hD hS ls hl
      refine x_iln jS dX3_squareInto_2 rfl hl 0 rfl ?_
      refine x_aln jS dX3_squareInto_3 rfl hl 1 rfl ?_
      refine x_get jS hK hP h_X3_squareInto_X3 0 rfl rfl 3 rfl m_X3_squareInto_1 rfl dX3_squareInto_4 ?_
      refine x_alen jS hK hP 2 rfl dX3_squareInto_7 ?_
      refine x_cmpge jS 24 dX3_squareInto_8 (by decide) (by omega) (fun hc8 => ?_) (fun hc8 => ?_)
      · skip
        refine x_ic jS dX3_squareInto_24 ?_
        refine x_isn (lv' := [(2, .int (iI 0)), (0, .ref o3), (1, .int (iI bit))]) jS dX3_squareInto_25 rfl hl rfl rfl (fun ls hl => ?_)
        have loop_26 : ∀ (mm : Nat) (i2 : Int) (pr3 : Int → Int) (jH : Heap) (jL : List Loc), (L - i2).toNat = mm → (0 ≤ i2 ∧ i2 ≤ L) → (∀ T : Int → Int, sm (fun q => pr3 q * T q) 32 = sm (fun i => sm (fun j => a i * a j * T (i + j + bit)) L) i2) → (∀ q : Int, 0 ≤ q → q < 32 → 0 ≤ pr3 q ∧ pr3 q ≤ i2 * 16000000) → va_P D vwCl [(o3, .inr (3, [.ref h4, .ref qw, .ref qt, .ref qd, .int (iI L)])), (qt, .inl (cI, 16, .inl (aI a))), (qd, .inl (cI, 32, .inl (aI pr3)))] jH → va_D jA [(o3, .inr (3, [.ref h4, .ref qw, .ref qt, .ref qd, .int (iI L)])), (qt, .inl (cI, 16, .inl (aI a))), (qd, .inl (cI, 32, .inl (aI pr3)))] → va_S jA js.heap jH jL → ∀ ls : Array Slot, lv_has ls 4 [(2, .int (iI i2)), (0, .ref o3), (1, .int (iI bit))] → W jp jl je rm_X3_squareInto js jm ja jb jt jc jH jL 0 0 jQ (F0 jm 26 ls []) := by
          intro mm
          induction mm using Nat.strongRecOn with
          | ind mm ih26 =>
            intro i2 pr3 jH jL hmm26 hi2 h3s h3b hP hD hS ls hl
            refine x_iln jS dX3_squareInto_26 rfl hl 0 rfl ?_
            refine x_aln jS dX3_squareInto_27 rfl hl 1 rfl ?_
            refine x_get jS hK hP h_X3_squareInto_X3 0 rfl rfl 4 rfl m_X3_squareInto_2 rfl dX3_squareInto_28 ?_
            refine x_cmpge jS 82 dX3_squareInto_31 (by decide) (by omega) (fun hc31 => ?_) (fun hc31 => ?_)
            · skip
              exact x_vretW jS jr jk jq dX3_squareInto_82 pr3 hP hD hS (show (∀ T : Int → Int, sm (fun q => pr3 q * T q) 32 = sm (fun i => sm (fun j => a i * a j * T (i + j + bit)) L) L) ∧ (∀ q : Int, 0 ≤ q → q < 32 → 0 ≤ pr3 q ∧ pr3 q ≤ 256000000) from ⟨fun T => by rw [h3s T, show i2 = L by omega], fun q x y => by have := h3b q x y; omega⟩)
            · skip
              refine x_ic jS dX3_squareInto_34 ?_
              refine x_isn (lv' := [(3, .int (iI 0)), (2, .int (iI i2)), (0, .ref o3), (1, .int (iI bit))]) jS dX3_squareInto_35 rfl hl rfl rfl (fun ls hl => ?_)
              have loop_36 : ∀ (mm : Nat) (j : Int) (pr5 : Int → Int) (jH : Heap) (jL : List Loc), (L - j).toNat = mm → (0 ≤ j ∧ j ≤ L) → (∀ T : Int → Int, sm (fun q => pr5 q * T q) 32 = sm (fun i => sm (fun j => a i * a j * T (i + j + bit)) L) i2 + sm (fun j => a i2 * a j * T (i2 + j + bit)) j) → (∀ q : Int, 0 ≤ q → q < 32 → 0 ≤ pr5 q ∧ pr5 q ≤ i2 * 16000000 + j * 1000000) → va_P D vwCl [(o3, .inr (3, [.ref h4, .ref qw, .ref qt, .ref qd, .int (iI L)])), (qt, .inl (cI, 16, .inl (aI a))), (qd, .inl (cI, 32, .inl (aI pr5)))] jH → va_D jA [(o3, .inr (3, [.ref h4, .ref qw, .ref qt, .ref qd, .int (iI L)])), (qt, .inl (cI, 16, .inl (aI a))), (qd, .inl (cI, 32, .inl (aI pr5)))] → va_S jA js.heap jH jL → ∀ ls : Array Slot, lv_has ls 4 [(3, .int (iI j)), (2, .int (iI i2)), (0, .ref o3), (1, .int (iI bit))] → W jp jl je rm_X3_squareInto js jm ja jb jt jc jH jL 0 0 jQ (F0 jm 36 ls []) := by
                intro mm
                induction mm using Nat.strongRecOn with
                | ind mm ih36 =>
                  intro j pr5 jH jL hmm36 hj h5s h5b hP hD hS ls hl
                  refine x_iln jS dX3_squareInto_36 rfl hl 0 rfl ?_
                  refine x_aln jS dX3_squareInto_37 rfl hl 2 rfl ?_
                  refine x_get jS hK hP h_X3_squareInto_X3 0 rfl rfl 4 rfl m_X3_squareInto_2 rfl dX3_squareInto_38 ?_
                  refine x_cmpge jS 76 dX3_squareInto_41 (by decide) (by omega) (fun hc41 => ?_) (fun hc41 => ?_)
                  · skip
                    refine x_iinc (lv' := [(2, .int (iI (i2 + 1))), (3, .int (iI j)), (0, .ref o3), (1, .int (iI bit))]) jS dX3_squareInto_76 hl 1 rfl rfl rfl (fun ls hl => ?_)
                    refine x_goto jS 26 dX3_squareInto_79 (by decide) ?_
                    exact ih26 _ (by omega) (i2 + 1) pr5 _ _ rfl (by omega) (fun T => by rw [h5s T, sm_s _ hi2.1, show j = L by omega]) (fun q x y => by have := h5b q x y; omega) hP hD hS ls (lv_sub hl [0, 2, 3] rfl)
                  · skip
                    refine x_aln jS dX3_squareInto_44 rfl hl 2 rfl ?_
                    refine x_get jS hK hP h_X3_squareInto_X3 0 rfl rfl 3 rfl m_X3_squareInto_1 rfl dX3_squareInto_45 ?_
                    refine x_iln jS dX3_squareInto_48 rfl hl 1 rfl ?_
                    refine x_iln jS dX3_squareInto_49 rfl hl 0 rfl ?_
                    refine x_iadd jS dX3_squareInto_50 ?_
                    refine x_iln jS dX3_squareInto_51 rfl hl 3 rfl ?_
                    refine x_iadd jS dX3_squareInto_52 ?_
                    refine x_dup2 jS dX3_squareInto_53 rfl rfl ?_
                    refine x_iald jS hK hP 2 rfl (by omega) dX3_squareInto_54 ?_
                    have hb54 := h5b (i2 + j + bit) (by omega) (by omega)
                    refine x_aln jS dX3_squareInto_55 rfl hl 2 rfl ?_
                    refine x_get jS hK hP h_X3_squareInto_X3 0 rfl rfl 2 rfl m_X3_squareInto_3 rfl dX3_squareInto_56 ?_
                    refine x_iln jS dX3_squareInto_59 rfl hl 1 rfl ?_
                    refine x_iald jS hK hP 1 rfl (by omega) dX3_squareInto_60 ?_
                    have hb60 := ha i2 (by omega) (by omega)
                    refine x_aln jS dX3_squareInto_61 rfl hl 2 rfl ?_
                    refine x_get jS hK hP h_X3_squareInto_X3 0 rfl rfl 2 rfl m_X3_squareInto_3 rfl dX3_squareInto_62 ?_
                    refine x_iln jS dX3_squareInto_65 rfl hl 0 rfl ?_
                    refine x_iald jS hK hP 1 rfl (by omega) dX3_squareInto_66 ?_
                    have hb66 := ha j (by omega) (by omega)
                    refine x_imulB jS dX3_squareInto_67 (by omega) (fun hp67 => ?_)
                    refine x_iadd jS dX3_squareInto_68 ?_
                    refine x_iast (ws' := [(o3, .inr (3, [.ref h4, .ref qw, .ref qt, .ref qd, .int (iI L)])), (qt, .inl (cI, 16, .inl (aI a))), (qd, .inl (cI, 32, .inl (aI (uI pr5 ((i2 + j) + bit) ((pr5 ((i2 + j) + bit)) + ((a i2) * (a j)))))))]) jS hK hP hD hS 2 rfl (by omega) dX3_squareInto_69 rfl (fun jH jL hP hD hS => ?_)
                    refine x_iinc (lv' := [(3, .int (iI (j + 1))), (2, .int (iI i2)), (0, .ref o3), (1, .int (iI bit))]) jS dX3_squareInto_70 hl 0 rfl rfl rfl (fun ls hl => ?_)
                    refine x_goto jS 36 dX3_squareInto_73 (by decide) ?_
                    exact ih36 _ (by omega) (j + 1) (uI pr5 ((i2 + j) + bit) ((pr5 ((i2 + j) + bit)) + ((a i2) * (a j)))) _ _ rfl (by omega) (fun T => by rw [sm_uI _ _ (by omega), h5s T, sm_s _ hj.1]; have e : (pr5 (i2 + j + bit) + a i2 * a j - pr5 (i2 + j + bit)) = a i2 * a j := (by omega); rw [e]; omega) (fun q x y => by have b1 := h5b q x y; by_cases e : q = i2 + j + bit; rw [e, uI_s]; rw [e] at b1; omega; rw [uI_n e]; omega) hP hD hS ls (lv_sub hl [0, 1, 2, 3] rfl)
              exact loop_36 _ 0 pr3 _ _ rfl (by omega) (fun T => by rw [sm_0, Int.add_zero]; exact h3s T) (fun q x y => by have := h3b q x y; omega) hP hD hS ls (lv_sub hl [0, 1, 2, 3] rfl)
        exact loop_26 _ 0 pr1 _ _ rfl (by omega) (fun T => by rw [sm_0]; exact sm_zero (fun q x y => by rw [h1 q x (by omega), Int.zero_mul])) (fun q x y => by rw [h1 q x (by omega)]; omega) hP hD hS ls (lv_sub hl [0, 1, 2] rfl)
      · skip
        refine x_aln jS dX3_squareInto_11 rfl hl 1 rfl ?_
        refine x_get jS hK hP h_X3_squareInto_X3 0 rfl rfl 3 rfl m_X3_squareInto_1 rfl dX3_squareInto_12 ?_
        refine x_iln jS dX3_squareInto_15 rfl hl 0 rfl ?_
        refine x_ic jS dX3_squareInto_16 ?_
        refine x_iast (ws' := [(o3, .inr (3, [.ref h4, .ref qw, .ref qt, .ref qd, .int (iI L)])), (qt, .inl (cI, 16, .inl (aI a))), (qd, .inl (cI, 32, .inl (aI (uI pr1 i 0))))]) jS hK hP hD hS 2 rfl (by omega) dX3_squareInto_17 rfl (fun jH jL hP hD hS => ?_)
        refine x_iinc (lv' := [(2, .int (iI (i + 1))), (0, .ref o3), (1, .int (iI bit))]) jS dX3_squareInto_18 hl 0 rfl rfl rfl (fun ls hl => ?_)
        refine x_goto jS 2 dX3_squareInto_21 (by decide) ?_
        exact ih2 _ (by omega) (i + 1) (uI pr1 i 0) _ _ rfl (by omega) (fun j x y => by rcases Int.lt_or_le j i with q | q; rw [uI_n (by omega)]; exact h1 j x q; rw [show j = i by omega, uI_s]) hP hD hS ls (lv_sub hl [0, 1, 2] rfl)
  exact loop_2 _ 0 pr _ _ rfl (by omega) (fun j x y => by omega) hP hD hS ls (lv_sub hl [0, 1, 2] rfl)
theorem h_X3_reduce_X3 : ∀ w ∈ u_ws RX3 TX3 5, w ∈ wsX3_reduce := fun w h => List.mem_cons_of_mem _ (List.mem_append_left _ (List.mem_append_right _ h))
theorem m_X3_reduce_1 : Cond.fieldLink RX3 18 "SealedBox$Onward" "product" "[I" ∈ wsX3_reduce := List.mem_of_getElem? (i := 1) rfl
theorem m_X3_reduce_2 : Cond.fieldLink RX3 21 "SealedBox$Onward" "length" "I" ∈ wsX3_reduce := List.mem_of_getElem? (i := 2) rfl
theorem m_X3_reduce_5 : Cond.fieldLink RX3 15 "SealedBox$Onward" "rest" "[I" ∈ wsX3_reduce := List.mem_of_getElem? (i := 5) rfl
theorem m_X3_reduce_3 : Cond.fieldLink RX3 25 "SealedBox$Onward" "numbers" "LSealedBox$PrimeField;" ∈ wsX3_reduce := List.mem_of_getElem? (i := 3) rfl
theorem h_X3_reduce_X4 : ∀ w ∈ u_ws RX4 TX4 2, w ∈ wsX3_reduce := fun w h => List.mem_cons_of_mem _ (List.mem_append_right _ h)
theorem m_X3_reduce_4 : Cond.fieldLink RX3 9 "SealedBox$Onward" "weights" "[I" ∈ wsX3_reduce := List.mem_of_getElem? (i := 4) rfl
abbrev rm_X3_reduce : Room := { frames := 0, cells := 0, slots := 0, locals := 0 }
set_option maxHeartbeats 4000000 in
set_option maxRecDepth 100000 in
theorem c_X3_reduce (jl : Launch) (D : va_G) (cI : ClassId) (o3 qw qt qd h4 q4 : Nat) (P L : Int) (w a pr SS : Int → Int) (sz : Nat) (hP5 : 5 ≤ P ∧ P ≤ 997) (hL : 1 ≤ L ∧ L ≤ 16) (hw : ∀ j : Int, 1 ≤ j → j ≤ L → 0 ≤ w j ∧ w j < P) (hgo : goesOn P L w SS) (hpr : ∀ q : Int, 0 ≤ q → q < 32 → 0 ≤ pr q ∧ pr q ≤ 256000000) : Met jl yX3_reduce wsX3_reduce rm_X3_reduce (xPw [.ref o3] D cI [(o3, .inr (3, [.ref h4, .ref qw, .ref qt, .ref qd, .int (iI L)])), (qw, .inl (cI, 17, .inl (aI w))), (qt, .inl (cI, 16, .inl (aI a))), (qd, .inl (cI, 32, .inl (aI pr))), (h4, .inr (4, [.ref q4, .int (iI P)]))] sz) (va_Qv (fun (u : (Int → Int) × (Int → Int)) => (∀ t : Int, 0 ≤ t → sm (fun i => u.1 i * SS (t + i)) L % P = sm (fun q => pr q * SS (t + q)) 32 % P) ∧ (∀ j : Int, 0 ≤ j → j < L → 0 ≤ u.1 j ∧ u.1 j < P)) (xB D (fun (u : (Int → Int) × (Int → Int)) => [(o3, .inr (3, [.ref h4, .ref qw, .ref qt, .ref qd, .int (iI L)])), (qw, .inl (cI, 17, .inl (aI w))), (qt, .inl (cI, 16, .inl (aI u.1))), (qd, .inl (cI, 32, .inl (aI u.2))), (h4, .inr (4, [.ref q4, .int (iI P)]))]) (va_A [(o3, .inr (3, [.ref h4, .ref qw, .ref qt, .ref qd, .int (iI L)])), (qw, .inl (cI, 17, .inl (aI w))), (qt, .inl (cI, 16, .inl (aI a))), (qd, .inl (cI, 32, .inl (aI pr))), (h4, .inr (4, [.ref q4, .int (iI P)]))] sz)) (va_A [(o3, .inr (3, [.ref h4, .ref qw, .ref qt, .ref qd, .int (iI L)])), (qw, .inl (cI, 17, .inl (aI w))), (qt, .inl (cI, 16, .inl (aI a))), (qd, .inl (cI, 32, .inl (aI pr))), (h4, .inr (4, [.ref q4, .int (iI P)]))] sz)) 0 0 (va_A [(o3, .inr (3, [.ref h4, .ref qw, .ref qt, .ref qd, .int (iI L)])), (qw, .inl (cI, 17, .inl (aI w))), (qt, .inl (cI, 16, .inl (aI a))), (qd, .inl (cI, 32, .inl (aI pr))), (h4, .inr (4, [.ref q4, .int (iI P)]))] sz) := by
  refine x_metW (own := RX3) (cc := cX3_reduce) (maxL := 4) (ret := none) (Qc := fun jA => va_Qv (fun (u : (Int → Int) × (Int → Int)) => (∀ t : Int, 0 ≤ t → sm (fun i => u.1 i * SS (t + i)) L % P = sm (fun q => pr q * SS (t + q)) 32 % P) ∧ (∀ j : Int, 0 ≤ j → j < L → 0 ≤ u.1 j ∧ u.1 j < P)) (xB D (fun (u : (Int → Int) × (Int → Int)) => [(o3, .inr (3, [.ref h4, .ref qw, .ref qt, .ref qd, .int (iI L)])), (qw, .inl (cI, 17, .inl (aI w))), (qt, .inl (cI, 16, .inl (aI u.1))), (qd, .inl (cI, 32, .inl (aI u.2))), (h4, .inr (4, [.ref q4, .int (iI P)]))]) jA) jA) (by decide) rfl rfl rfl ?_
  intro jp je js jm ja jb jt jc jA jQ jS jr jk jn jq hK hP hD hA hS ls hl
  have hl : lv_has ls 4 [(0, .ref o3)] := hl
  refine x_aln jS dX3_reduce_0 rfl hl 0 rfl ?_
  refine x_get jS hK hP h_X3_reduce_X3 0 rfl rfl 3 rfl m_X3_reduce_1 rfl dX3_reduce_1 ?_
  refine x_alen jS hK hP 3 rfl dX3_reduce_4 ?_
  refine x_ic jS dX3_reduce_5 ?_
  refine x_isub jS dX3_reduce_6 ?_
  refine x_isn (lv' := [(1, .int (iI (((32 : Nat) : Int) - 1))), (0, .ref o3)]) jS dX3_reduce_7 rfl hl rfl rfl (fun ls hl => ?_)
  have loop_8 : ∀ (mm : Nat) (i : Int) (pr1 : Int → Int) (jH : Heap) (jL : List Loc), (i + 1).toNat = mm → (L - 1 ≤ i ∧ i ≤ 31) → (∀ t : Int, 0 ≤ t → sm (fun q => pr1 q * SS (t + q)) (i + 1) % P = sm (fun q => pr q * SS (t + q)) 32 % P) → (∀ q : Int, 0 ≤ q → q < 32 → 0 ≤ pr1 q ∧ pr1 q ≤ 256000000) → va_P D vwCl [(o3, .inr (3, [.ref h4, .ref qw, .ref qt, .ref qd, .int (iI L)])), (qw, .inl (cI, 17, .inl (aI w))), (qt, .inl (cI, 16, .inl (aI a))), (qd, .inl (cI, 32, .inl (aI pr1))), (h4, .inr (4, [.ref q4, .int (iI P)]))] jH → va_D jA [(o3, .inr (3, [.ref h4, .ref qw, .ref qt, .ref qd, .int (iI L)])), (qw, .inl (cI, 17, .inl (aI w))), (qt, .inl (cI, 16, .inl (aI a))), (qd, .inl (cI, 32, .inl (aI pr1))), (h4, .inr (4, [.ref q4, .int (iI P)]))] → va_S jA js.heap jH jL → ∀ ls : Array Slot, lv_has ls 4 [(1, .int (iI i)), (0, .ref o3)] → W jp jl je rm_X3_reduce js jm ja jb jt jc jH jL 0 0 jQ (F0 jm 8 ls []) := by
    intro mm
    induction mm using Nat.strongRecOn with
    | ind mm ih8 =>
      intro i pr1 jH jL hmm8 hi h1 h1b hP hD hS ls hl
      refine x_iln jS dX3_reduce_8 rfl hl 0 rfl ?_
      refine x_aln jS dX3_reduce_9 rfl hl 1 rfl ?_
      refine x_get jS hK hP h_X3_reduce_X3 0 rfl rfl 4 rfl m_X3_reduce_2 rfl dX3_reduce_10 ?_
      refine x_cmplt jS 90 dX3_reduce_13 (by decide) (by omega) (fun hc13 => ?_) (fun hc13 => ?_)
      · skip
        refine x_ic jS dX3_reduce_90 ?_
        refine x_isn (lv' := [(1, .int (iI 0)), (0, .ref o3)]) jS dX3_reduce_91 rfl hl rfl rfl (fun ls hl => ?_)
        have loop_92 : ∀ (mm : Nat) (i9 : Int) (a9 : Int → Int) (jH : Heap) (jL : List Loc), (L - i9).toNat = mm → (0 ≤ i9 ∧ i9 ≤ L) → (∀ j : Int, 0 ≤ j → j < i9 → a9 j = pr1 j % P) → va_P D vwCl [(o3, .inr (3, [.ref h4, .ref qw, .ref qt, .ref qd, .int (iI L)])), (qw, .inl (cI, 17, .inl (aI w))), (qt, .inl (cI, 16, .inl (aI a9))), (qd, .inl (cI, 32, .inl (aI pr1))), (h4, .inr (4, [.ref q4, .int (iI P)]))] jH → va_D jA [(o3, .inr (3, [.ref h4, .ref qw, .ref qt, .ref qd, .int (iI L)])), (qw, .inl (cI, 17, .inl (aI w))), (qt, .inl (cI, 16, .inl (aI a9))), (qd, .inl (cI, 32, .inl (aI pr1))), (h4, .inr (4, [.ref q4, .int (iI P)]))] → va_S jA js.heap jH jL → ∀ ls : Array Slot, lv_has ls 4 [(1, .int (iI i9)), (0, .ref o3)] → W jp jl je rm_X3_reduce js jm ja jb jt jc jH jL 0 0 jQ (F0 jm 92 ls []) := by
          intro mm
          induction mm using Nat.strongRecOn with
          | ind mm ih92 =>
            intro i9 a9 jH jL hmm92 hi9 h9 hP hD hS ls hl
            refine x_iln jS dX3_reduce_92 rfl hl 0 rfl ?_
            refine x_aln jS dX3_reduce_93 rfl hl 1 rfl ?_
            refine x_get jS hK hP h_X3_reduce_X3 0 rfl rfl 4 rfl m_X3_reduce_2 rfl dX3_reduce_94 ?_
            refine x_cmpge jS 126 dX3_reduce_97 (by decide) (by omega) (fun hc97 => ?_) (fun hc97 => ?_)
            · skip
              exact x_vretW jS jr jk jq dX3_reduce_126 ⟨a9, pr1⟩ hP hD hS (show (∀ t : Int, 0 ≤ t → sm (fun i => a9 i * SS (t + i)) L % P = sm (fun q => pr q * SS (t + q)) 32 % P) ∧ (∀ j : Int, 0 ≤ j → j < L → 0 ≤ a9 j ∧ a9 j < P) from ⟨fun t x => by rw [← h1 t x, show i + 1 = L by omega]; exact sm_cg (fun j y z => cg_mul (by rw [h9 j y (by omega), cg_m]) rfl), fun j x y => by rw [h9 j x (by omega)]; exact emB (by omega) _⟩)
            · skip
              refine x_aln jS dX3_reduce_100 rfl hl 1 rfl ?_
              refine x_get jS hK hP h_X3_reduce_X3 0 rfl rfl 2 rfl m_X3_reduce_5 rfl dX3_reduce_101 ?_
              refine x_iln jS dX3_reduce_104 rfl hl 0 rfl ?_
              refine x_aln jS dX3_reduce_105 rfl hl 1 rfl ?_
              refine x_get jS hK hP h_X3_reduce_X3 0 rfl rfl 3 rfl m_X3_reduce_1 rfl dX3_reduce_106 ?_
              refine x_iln jS dX3_reduce_109 rfl hl 0 rfl ?_
              refine x_iald jS hK hP 3 rfl (by omega) dX3_reduce_110 ?_
              have hb110 := h1b i9 (by omega) (by omega)
              refine x_aln jS dX3_reduce_111 rfl hl 1 rfl ?_
              refine x_get jS hK hP h_X3_reduce_X3 0 rfl rfl 0 rfl m_X3_reduce_3 rfl dX3_reduce_112 ?_
              refine x_getN jS hK hP h_X3_reduce_X4 4 rfl rfl 1 rfl 1 rfl rfl dX3_reduce_115 ?_
              refine x_irem jS dX3_reduce_118 (by omega) (fun hm118 => ?_)
              refine x_iast (ws' := [(o3, .inr (3, [.ref h4, .ref qw, .ref qt, .ref qd, .int (iI L)])), (qw, .inl (cI, 17, .inl (aI w))), (qt, .inl (cI, 16, .inl (aI (uI a9 i9 ((pr1 i9) % P))))), (qd, .inl (cI, 32, .inl (aI pr1))), (h4, .inr (4, [.ref q4, .int (iI P)]))]) jS hK hP hD hS 2 rfl (by omega) dX3_reduce_119 rfl (fun jH jL hP hD hS => ?_)
              refine x_iinc (lv' := [(1, .int (iI (i9 + 1))), (0, .ref o3)]) jS dX3_reduce_120 hl 0 rfl rfl rfl (fun ls hl => ?_)
              refine x_goto jS 92 dX3_reduce_123 (by decide) ?_
              exact ih92 _ (by omega) (i9 + 1) (uI a9 i9 ((pr1 i9) % P)) _ _ rfl (by omega) (fun j x y => by rcases Int.lt_or_le j i9 with q | q; rw [uI_n (by omega)]; exact h9 j x q; rw [show j = i9 by omega, uI_s]) hP hD hS ls (lv_sub hl [0, 1] rfl)
        exact loop_92 _ 0 a _ _ rfl (by omega) (fun j x y => by omega) hP hD hS ls (lv_sub hl [0, 1] rfl)
      · skip
        refine x_aln jS dX3_reduce_16 rfl hl 1 rfl ?_
        refine x_get jS hK hP h_X3_reduce_X3 0 rfl rfl 3 rfl m_X3_reduce_1 rfl dX3_reduce_17 ?_
        refine x_iln jS dX3_reduce_20 rfl hl 0 rfl ?_
        refine x_iald jS hK hP 3 rfl (by omega) dX3_reduce_21 ?_
        have hb21 := h1b i (by omega) (by omega)
        refine x_aln jS dX3_reduce_22 rfl hl 1 rfl ?_
        refine x_get jS hK hP h_X3_reduce_X3 0 rfl rfl 0 rfl m_X3_reduce_3 rfl dX3_reduce_23 ?_
        refine x_getN jS hK hP h_X3_reduce_X4 4 rfl rfl 1 rfl 1 rfl rfl dX3_reduce_26 ?_
        refine x_irem jS dX3_reduce_29 (by omega) (fun hm29 => ?_)
        have hm29e : pr1 i % P % P = pr1 i % P := cg_m _ _
        refine x_isn (lv' := [(2, .int (iI ((pr1 i) % P))), (1, .int (iI i)), (0, .ref o3)]) jS dX3_reduce_30 rfl hl rfl rfl (fun ls hl => ?_)
        refine x_ic jS dX3_reduce_31 ?_
        refine x_isn (lv' := [(3, .int (iI 1)), (2, .int (iI ((pr1 i) % P))), (1, .int (iI i)), (0, .ref o3)]) jS dX3_reduce_32 rfl hl rfl rfl (fun ls hl => ?_)
        have loop_33 : ∀ (mm : Nat) (k : Int) (pr3 : Int → Int) (jH : Heap) (jL : List Loc), (L + 1 - k).toNat = mm → (1 ≤ k ∧ k ≤ L + 1) → (∀ T : Int → Int, sm (fun q => pr3 q * T q) i % P = (sm (fun q => pr1 q * T q) i + pr1 i % P * sm (fun u => w (u + 1) * T (i - 1 - u)) (k - 1)) % P) → (∀ q : Int, 0 ≤ q → q < 32 → 0 ≤ pr3 q ∧ pr3 q ≤ 256000000) → va_P D vwCl [(o3, .inr (3, [.ref h4, .ref qw, .ref qt, .ref qd, .int (iI L)])), (qw, .inl (cI, 17, .inl (aI w))), (qt, .inl (cI, 16, .inl (aI a))), (qd, .inl (cI, 32, .inl (aI pr3))), (h4, .inr (4, [.ref q4, .int (iI P)]))] jH → va_D jA [(o3, .inr (3, [.ref h4, .ref qw, .ref qt, .ref qd, .int (iI L)])), (qw, .inl (cI, 17, .inl (aI w))), (qt, .inl (cI, 16, .inl (aI a))), (qd, .inl (cI, 32, .inl (aI pr3))), (h4, .inr (4, [.ref q4, .int (iI P)]))] → va_S jA js.heap jH jL → ∀ ls : Array Slot, lv_has ls 4 [(3, .int (iI k)), (2, .int (iI ((pr1 i) % P))), (1, .int (iI i)), (0, .ref o3)] → W jp jl je rm_X3_reduce js jm ja jb jt jc jH jL 0 0 jQ (F0 jm 33 ls []) := by
          intro mm
          induction mm using Nat.strongRecOn with
          | ind mm ih33 =>
            intro k pr3 jH jL hmm33 hk h3 h3b hP hD hS ls hl
            refine x_iln jS dX3_reduce_33 rfl hl 0 rfl ?_
            refine x_aln jS dX3_reduce_34 rfl hl 3 rfl ?_
            refine x_get jS hK hP h_X3_reduce_X3 0 rfl rfl 4 rfl m_X3_reduce_2 rfl dX3_reduce_35 ?_
            refine x_cmpgt jS 84 dX3_reduce_38 (by decide) (by omega) (fun hc38 => ?_) (fun hc38 => ?_)
            · skip
              have hstop : k = L + 1 ∨ pr1 i % P = 0 := Or.inl (by omega)
              refine x_iinc (lv' := [(1, .int (iI (i + (-1)))), (3, .int (iI k)), (2, .int (iI ((pr1 i) % P))), (0, .ref o3)]) jS dX3_reduce_84 hl 2 rfl rfl rfl (fun ls hl => ?_)
              refine x_goto jS 8 dX3_reduce_87 (by decide) ?_
              exact ih8 _ (by omega) (i + (-1)) pr3 _ _ rfl (by omega) (fun t x => by rw [show i + -1 + 1 = i by omega, h3 (fun q => SS (t + q)), ← h1 t x, sm_s _ (show 0 ≤ i by omega)]; exact far_step hgo (by omega) (by omega) hm29e (by omega) hstop) (fun q x y => h3b q x y) hP hD hS ls (lv_sub hl [0, 3] rfl)
            · skip
              refine x_iln jS dX3_reduce_41 rfl hl 1 rfl ?_
              refine x_ifeq jS 84 dX3_reduce_42 (by decide) (by omega) (fun hc42 => ?_) (fun hc42 => ?_)
              · skip
                have hstop : k = L + 1 ∨ pr1 i % P = 0 := Or.inr hc42
                refine x_iinc (lv' := [(1, .int (iI (i + (-1)))), (3, .int (iI k)), (2, .int (iI ((pr1 i) % P))), (0, .ref o3)]) jS dX3_reduce_84 hl 2 rfl rfl rfl (fun ls hl => ?_)
                refine x_goto jS 8 dX3_reduce_87 (by decide) ?_
                exact ih8 _ (by omega) (i + (-1)) pr3 _ _ rfl (by omega) (fun t x => by rw [show i + -1 + 1 = i by omega, h3 (fun q => SS (t + q)), ← h1 t x, sm_s _ (show 0 ≤ i by omega)]; exact far_step hgo (by omega) (by omega) hm29e (by omega) hstop) (fun q x y => h3b q x y) hP hD hS ls (lv_sub hl [0, 3] rfl)
              · skip
                refine x_aln jS dX3_reduce_45 rfl hl 3 rfl ?_
                refine x_get jS hK hP h_X3_reduce_X3 0 rfl rfl 3 rfl m_X3_reduce_1 rfl dX3_reduce_46 ?_
                refine x_iln jS dX3_reduce_49 rfl hl 2 rfl ?_
                refine x_iln jS dX3_reduce_50 rfl hl 0 rfl ?_
                refine x_isub jS dX3_reduce_51 ?_
                refine x_aln jS dX3_reduce_52 rfl hl 3 rfl ?_
                refine x_get jS hK hP h_X3_reduce_X3 0 rfl rfl 3 rfl m_X3_reduce_1 rfl dX3_reduce_53 ?_
                refine x_iln jS dX3_reduce_56 rfl hl 2 rfl ?_
                refine x_iln jS dX3_reduce_57 rfl hl 0 rfl ?_
                refine x_isub jS dX3_reduce_58 ?_
                refine x_iald jS hK hP 3 rfl (by omega) dX3_reduce_59 ?_
                have hb59 := h3b (i - k) (by omega) (by omega)
                refine x_iln jS dX3_reduce_60 rfl hl 1 rfl ?_
                refine x_aln jS dX3_reduce_61 rfl hl 3 rfl ?_
                refine x_get jS hK hP h_X3_reduce_X3 0 rfl rfl 1 rfl m_X3_reduce_4 rfl dX3_reduce_62 ?_
                refine x_iln jS dX3_reduce_65 rfl hl 0 rfl ?_
                refine x_iald jS hK hP 1 rfl (by omega) dX3_reduce_66 ?_
                have hb66 := hw k (by omega) (by omega)
                refine x_imulB jS dX3_reduce_67 (by omega) (fun hp67 => ?_)
                refine x_iadd jS dX3_reduce_68 ?_
                refine x_aln jS dX3_reduce_69 rfl hl 3 rfl ?_
                refine x_get jS hK hP h_X3_reduce_X3 0 rfl rfl 0 rfl m_X3_reduce_3 rfl dX3_reduce_70 ?_
                refine x_getN jS hK hP h_X3_reduce_X4 4 rfl rfl 1 rfl 1 rfl rfl dX3_reduce_73 ?_
                refine x_irem jS dX3_reduce_76 (by omega) (fun hm76 => ?_)
                refine x_iast (ws' := [(o3, .inr (3, [.ref h4, .ref qw, .ref qt, .ref qd, .int (iI L)])), (qw, .inl (cI, 17, .inl (aI w))), (qt, .inl (cI, 16, .inl (aI a))), (qd, .inl (cI, 32, .inl (aI (uI pr3 (i - k) (((pr3 (i - k)) + (((pr1 i) % P) * (w k))) % P))))), (h4, .inr (4, [.ref q4, .int (iI P)]))]) jS hK hP hD hS 3 rfl (by omega) dX3_reduce_77 rfl (fun jH jL hP hD hS => ?_)
                refine x_iinc (lv' := [(3, .int (iI (k + 1))), (2, .int (iI ((pr1 i) % P))), (1, .int (iI i)), (0, .ref o3)]) jS dX3_reduce_78 hl 0 rfl rfl rfl (fun ls hl => ?_)
                refine x_goto jS 33 dX3_reduce_81 (by decide) ?_
                exact ih33 _ (by omega) (k + 1) (uI pr3 (i - k) (((pr3 (i - k)) + (((pr1 i) % P) * (w k))) % P)) _ _ rfl (by omega) (fun T => by rw [sm_uI _ _ (by omega), show k + 1 - 1 = (k - 1) + 1 by omega, sm_s _ (show 0 ≤ k - 1 by omega), Int.mul_add, ← Int.add_assoc]; refine cg_add (h3 T) ?_; rw [show k - 1 + 1 = k by omega, show i - 1 - (k - 1) = i - k by omega, ← Int.mul_assoc]; refine cg_mul ?_ rfl; rw [Int.sub_emod, cg_m, ← Int.sub_emod]; congr 1; omega) (fun q x y => by by_cases e : q = i - k; rw [e, uI_s]; omega; rw [uI_n e]; exact h3b q x y) hP hD hS ls (lv_sub hl [0, 1, 2, 3] rfl)
        exact loop_33 _ 1 pr1 _ _ rfl (by omega) (fun T => by rw [show (1 : Int) - 1 = 0 by omega, sm_0, Int.mul_zero, Int.add_zero]) (h1b) hP hD hS ls (lv_sub hl [0, 1, 2, 3] rfl)
  exact loop_8 _ (((32 : Nat) : Int) - 1) pr _ _ rfl (by omega) (fun t x => rfl) (hpr) hP hD hS ls (lv_sub hl [0, 1] rfl)
theorem h_X3_raise_X3 : ∀ w ∈ u_ws RX3 TX3 5, w ∈ wsX3_raise := fun w h => List.mem_cons_of_mem _ (List.mem_append_left _ (List.mem_append_right _ h))
theorem m_X3_raise_1 : Cond.fieldLink RX3 15 "SealedBox$Onward" "rest" "[I" ∈ wsX3_raise := List.mem_of_getElem? (i := 1) rfl
theorem kf_X3_squareInto : kfV yX3_squareInto RX3 1 := by decide +kernel
theorem kf_X3_reduce : kfV yX3_reduce RX3 0 := by decide +kernel
abbrev rm_X3_raise : Room := { frames := 1, cells := 0, slots := 0, locals := 23 }
set_option maxHeartbeats 4000000 in
set_option maxRecDepth 100000 in
theorem c_X3_raise (jl : Launch) (D : va_G) (cI : ClassId) (o3 qw qt qd h4 q4 : Nat) (P L n : Int) (w a pr SS : Int → Int) (sz : Nat) (hP5 : 5 ≤ P ∧ P ≤ 997) (hL : 1 ≤ L ∧ L ≤ 16) (hn : 0 ≤ n ∧ n ≤ 1000000000) (hw : ∀ j : Int, 1 ≤ j → j ≤ L → 0 ≤ w j ∧ w j < P) (hgo : goesOn P L w SS) : Met jl yX3_raise wsX3_raise rm_X3_raise (xPw [.ref o3, .int (iI n)] D cI [(o3, .inr (3, [.ref h4, .ref qw, .ref qt, .ref qd, .int (iI L)])), (qw, .inl (cI, 17, .inl (aI w))), (qt, .inl (cI, 16, .inl (aI a))), (qd, .inl (cI, 32, .inl (aI pr))), (h4, .inr (4, [.ref q4, .int (iI P)]))] sz) (va_Qv (fun (u : (Int → Int) × (Int → Int)) => Rep P L SS u.1 n ∧ (∀ j : Int, 0 ≤ j → j < L → 0 ≤ u.1 j ∧ u.1 j < P)) (xB D (fun (u : (Int → Int) × (Int → Int)) => [(o3, .inr (3, [.ref h4, .ref qw, .ref qt, .ref qd, .int (iI L)])), (qw, .inl (cI, 17, .inl (aI w))), (qt, .inl (cI, 16, .inl (aI u.1))), (qd, .inl (cI, 32, .inl (aI u.2))), (h4, .inr (4, [.ref q4, .int (iI P)]))]) (va_A [(o3, .inr (3, [.ref h4, .ref qw, .ref qt, .ref qd, .int (iI L)])), (qw, .inl (cI, 17, .inl (aI w))), (qt, .inl (cI, 16, .inl (aI a))), (qd, .inl (cI, 32, .inl (aI pr))), (h4, .inr (4, [.ref q4, .int (iI P)]))] sz)) (va_A [(o3, .inr (3, [.ref h4, .ref qw, .ref qt, .ref qd, .int (iI L)])), (qw, .inl (cI, 17, .inl (aI w))), (qt, .inl (cI, 16, .inl (aI a))), (qd, .inl (cI, 32, .inl (aI pr))), (h4, .inr (4, [.ref q4, .int (iI P)]))] sz)) 0 0 (va_A [(o3, .inr (3, [.ref h4, .ref qw, .ref qt, .ref qd, .int (iI L)])), (qw, .inl (cI, 17, .inl (aI w))), (qt, .inl (cI, 16, .inl (aI a))), (qd, .inl (cI, 32, .inl (aI pr))), (h4, .inr (4, [.ref q4, .int (iI P)]))] sz) := by
  refine x_metW (own := RX3) (cc := cX3_raise) (maxL := 3) (ret := none) (Qc := fun jA => va_Qv (fun (u : (Int → Int) × (Int → Int)) => Rep P L SS u.1 n ∧ (∀ j : Int, 0 ≤ j → j < L → 0 ≤ u.1 j ∧ u.1 j < P)) (xB D (fun (u : (Int → Int) × (Int → Int)) => [(o3, .inr (3, [.ref h4, .ref qw, .ref qt, .ref qd, .int (iI L)])), (qw, .inl (cI, 17, .inl (aI w))), (qt, .inl (cI, 16, .inl (aI u.1))), (qd, .inl (cI, 32, .inl (aI u.2))), (h4, .inr (4, [.ref q4, .int (iI P)]))]) jA) jA) (by decide) rfl rfl rfl ?_
  intro jp je js jm ja jb jt jc jA jQ jS jr jk jn jq hK hP hD hA hS ls hl
  have hl : lv_has ls 3 [(0, .ref o3), (1, .int (iI n))] := hl
  refine x_ic jS dX3_raise_0 ?_
  refine x_isn (lv' := [(2, .int (iI 0)), (0, .ref o3), (1, .int (iI n))]) jS dX3_raise_1 rfl hl rfl rfl (fun ls hl => ?_)
  have loop_2 : ∀ (mm : Nat) (i : Int) (a1 : Int → Int) (jH : Heap) (jL : List Loc), (16 - i).toNat = mm → (0 ≤ i ∧ i ≤ 16) → (∀ j : Int, 0 ≤ j → j < i → a1 j = 0) → va_P D vwCl [(o3, .inr (3, [.ref h4, .ref qw, .ref qt, .ref qd, .int (iI L)])), (qw, .inl (cI, 17, .inl (aI w))), (qt, .inl (cI, 16, .inl (aI a1))), (qd, .inl (cI, 32, .inl (aI pr))), (h4, .inr (4, [.ref q4, .int (iI P)]))] jH → va_D jA [(o3, .inr (3, [.ref h4, .ref qw, .ref qt, .ref qd, .int (iI L)])), (qw, .inl (cI, 17, .inl (aI w))), (qt, .inl (cI, 16, .inl (aI a1))), (qd, .inl (cI, 32, .inl (aI pr))), (h4, .inr (4, [.ref q4, .int (iI P)]))] → va_S jA js.heap jH jL → ∀ ls : Array Slot, lv_has ls 3 [(2, .int (iI i)), (0, .ref o3), (1, .int (iI n))] → W jp jl je rm_X3_raise js jm ja jb jt jc jH jL 0 0 jQ (F0 jm 2 ls []) := by
    intro mm
    induction mm using Nat.strongRecOn with
    | ind mm ih2 =>
      intro i a1 jH jL hmm2 hi h1 hP hD hS ls hl
      refine x_iln jS dX3_raise_2 rfl hl 0 rfl ?_
      refine x_aln jS dX3_raise_3 rfl hl 1 rfl ?_
      refine x_get jS hK hP h_X3_raise_X3 0 rfl rfl 2 rfl m_X3_raise_1 rfl dX3_raise_4 ?_
      refine x_alen jS hK hP 2 rfl dX3_raise_7 ?_
      refine x_cmpge jS 24 dX3_raise_8 (by decide) (by omega) (fun hc8 => ?_) (fun hc8 => ?_)
      · skip
        refine x_aln jS dX3_raise_24 rfl hl 1 rfl ?_
        refine x_get jS hK hP h_X3_raise_X3 0 rfl rfl 2 rfl m_X3_raise_1 rfl dX3_raise_25 ?_
        refine x_ic jS dX3_raise_28 ?_
        refine x_ic jS dX3_raise_29 ?_
        refine x_iast (ws' := [(o3, .inr (3, [.ref h4, .ref qw, .ref qt, .ref qd, .int (iI L)])), (qw, .inl (cI, 17, .inl (aI w))), (qt, .inl (cI, 16, .inl (aI (uI a1 0 1)))), (qd, .inl (cI, 32, .inl (aI pr))), (h4, .inr (4, [.ref q4, .int (iI P)]))]) jS hK hP hD hS 2 rfl (by omega) dX3_raise_30 rfl (fun jH jL hP hD hS => ?_)
        refine x_bi jS dX3_raise_31 (by decide) ?_
        refine x_isn (lv' := [(2, .int (iI 29)), (0, .ref o3), (1, .int (iI n))]) jS dX3_raise_33 rfl hl rfl rfl (fun ls hl => ?_)
        have loop_34 : ∀ (mm : Nat) (b : Int) (a3 : Int → Int) (pr3 : Int → Int) (jH : Heap) (jL : List Loc), (b + 1).toNat = mm → (-1 ≤ b ∧ b ≤ 29) → (Rep P L SS a3 (n / 2 ^ (b + 1).toNat)) → (∀ j : Int, 0 ≤ j → j < L → 0 ≤ a3 j ∧ a3 j < P) → va_P D vwCl [(o3, .inr (3, [.ref h4, .ref qw, .ref qt, .ref qd, .int (iI L)])), (qw, .inl (cI, 17, .inl (aI w))), (qt, .inl (cI, 16, .inl (aI a3))), (qd, .inl (cI, 32, .inl (aI pr3))), (h4, .inr (4, [.ref q4, .int (iI P)]))] jH → va_D jA [(o3, .inr (3, [.ref h4, .ref qw, .ref qt, .ref qd, .int (iI L)])), (qw, .inl (cI, 17, .inl (aI w))), (qt, .inl (cI, 16, .inl (aI a3))), (qd, .inl (cI, 32, .inl (aI pr3))), (h4, .inr (4, [.ref q4, .int (iI P)]))] → va_S jA js.heap jH jL → ∀ ls : Array Slot, lv_has ls 3 [(2, .int (iI b)), (0, .ref o3), (1, .int (iI n))] → W jp jl je rm_X3_raise js jm ja jb jt jc jH jL 0 0 jQ (F0 jm 34 ls []) := by
          intro mm
          induction mm using Nat.strongRecOn with
          | ind mm ih34 =>
            intro b a3 pr3 jH jL hmm34 hb h3 h3b hP hD hS ls hl
            refine x_iln jS dX3_raise_34 rfl hl 0 rfl ?_
            refine x_iflt jS 57 dX3_raise_35 (by decide) (by omega) (fun hc35 => ?_) (fun hc35 => ?_)
            · skip
              exact x_vretW jS jr jk jq dX3_raise_57 ⟨a3, pr3⟩ hP hD hS (show Rep P L SS a3 n ∧ (∀ j : Int, 0 ≤ j → j < L → 0 ≤ a3 j ∧ a3 j < P) from by have e : n / 2 ^ (b + 1).toNat = n := (by rw [show b + 1 = 0 by omega]; exact Int.ediv_one n); rw [e] at h3; exact ⟨h3, h3b⟩)
            · skip
              have hsh : 0 ≤ n / 2 ^ b.toNat ∧ n / 2 ^ b.toNat ≤ n := ⟨Int.ediv_nonneg hn.1 (Int.pow_nonneg (by omega)), Int.ediv_le_self _ hn.1⟩
              refine x_aln jS dX3_raise_38 rfl hl 1 rfl ?_
              refine x_iln jS dX3_raise_39 rfl hl 2 rfl ?_
              refine x_iln jS dX3_raise_40 rfl hl 0 rfl ?_
              refine x_ishr jS dX3_raise_41 (by omega) ?_
              refine x_ic jS dX3_raise_42 ?_
              refine x_iand1 jS dX3_raise_43 (by omega) ?_
              refine x_aV (wc := [(o3, .inr (3, [.ref h4, .ref qw, .ref qt, .ref qd, .int (iI L)])), (qt, .inl (cI, 16, .inl (aI a3))), (qd, .inl (cI, 32, .inl (aI pr3)))]) (wr := [(qw, .inl (cI, 17, .inl (aI w))), (h4, .inr (4, [.ref q4, .int (iI P)]))]) hP hD hS hA [0, 2, 3] [1, 4] rfl rfl (by decide) (by decide) (cs := 0) (ss := 0) rfl rfl (x_rnV (As := [.int (iI ((n / 2 ^ (b).toNat) % 2))]) (rest := []) jS hl.1 hK (c_X3_squareInto jl D cI o3 qw qt qd h4 P L ((n / 2 ^ (b).toNat) % 2) a3 pr3 _ (by first | assumption | omega) (by first | assumption | omega) (by first | assumption | omega) (by first | assumption | omega)) hP hD [0, 2, 3] rfl rfl (by decide) 0 rfl rfl gX3_raise_X3_squareInto rfl rfl rfl kf_X3_squareInto rfl rfl rfl rfl rfl dX3_raise_44 rfl rfl) (fun u jH jL hw hP hD hS => ?_)
              obtain ⟨pr2_1, rfl⟩ : ∃ z, z = u := ⟨_, rfl⟩
              have hw44 : (∀ T : Int → Int, sm (fun q => pr2_1 q * T q) 32 = sm (fun i => sm (fun j => a3 i * a3 j * T (i + j + ((n / 2 ^ (b).toNat) % 2))) L) L) ∧ (∀ q : Int, 0 ≤ q → q < 32 → 0 ≤ pr2_1 q ∧ pr2_1 q ≤ 256000000) := hw
              clear hw
              have hP : va_P D vwCl [(qw, .inl (cI, 17, .inl (aI w))), (h4, .inr (4, [.ref q4, .int (iI P)])), (o3, .inr (3, [.ref h4, .ref qw, .ref qt, .ref qd, .int (iI L)])), (qt, .inl (cI, 16, .inl (aI a3))), (qd, .inl (cI, 32, .inl (aI pr2_1)))] jH := hP
              have hD : va_D jA [(qw, .inl (cI, 17, .inl (aI w))), (h4, .inr (4, [.ref q4, .int (iI P)])), (o3, .inr (3, [.ref h4, .ref qw, .ref qt, .ref qd, .int (iI L)])), (qt, .inl (cI, 16, .inl (aI a3))), (qd, .inl (cI, 32, .inl (aI pr2_1)))] := hD
              refine x_aln jS dX3_raise_47 rfl hl 1 rfl ?_
              refine x_aV (wc := [(o3, .inr (3, [.ref h4, .ref qw, .ref qt, .ref qd, .int (iI L)])), (qw, .inl (cI, 17, .inl (aI w))), (qt, .inl (cI, 16, .inl (aI a3))), (qd, .inl (cI, 32, .inl (aI pr2_1))), (h4, .inr (4, [.ref q4, .int (iI P)]))]) (wr := []) hP hD hS hA [2, 0, 3, 4, 1] [] rfl rfl (by decide) (by decide) (cs := 0) (ss := 0) rfl rfl (x_rnV (As := []) (rest := []) jS hl.1 hK (c_X3_reduce jl D cI o3 qw qt qd h4 q4 P L w a3 pr2_1 SS _ (by first | assumption | omega) (by first | assumption | omega) (by first | assumption | omega) (by first | assumption | omega) (hw44.2)) hP hD [2, 0, 3, 4, 1] rfl rfl (by decide) 0 rfl rfl gX3_raise_X3_reduce rfl rfl rfl kf_X3_reduce rfl rfl rfl rfl rfl dX3_raise_48 rfl rfl) (fun u jH jL hw hP hD hS => ?_)
              obtain ⟨a2_2, pr2_3⟩ := u
              have hw48 : (∀ t : Int, 0 ≤ t → sm (fun i => a2_2 i * SS (t + i)) L % P = sm (fun q => pr2_1 q * SS (t + q)) 32 % P) ∧ (∀ j : Int, 0 ≤ j → j < L → 0 ≤ a2_2 j ∧ a2_2 j < P) := hw
              clear hw
              have hP : va_P D vwCl [(o3, .inr (3, [.ref h4, .ref qw, .ref qt, .ref qd, .int (iI L)])), (qw, .inl (cI, 17, .inl (aI w))), (qt, .inl (cI, 16, .inl (aI a2_2))), (qd, .inl (cI, 32, .inl (aI pr2_3))), (h4, .inr (4, [.ref q4, .int (iI P)]))] jH := hP
              have hD : va_D jA [(o3, .inr (3, [.ref h4, .ref qw, .ref qt, .ref qd, .int (iI L)])), (qw, .inl (cI, 17, .inl (aI w))), (qt, .inl (cI, 16, .inl (aI a2_2))), (qd, .inl (cI, 32, .inl (aI pr2_3))), (h4, .inr (4, [.ref q4, .int (iI P)]))] := hD
              refine x_iinc (lv' := [(2, .int (iI (b + (-1)))), (0, .ref o3), (1, .int (iI n))]) jS dX3_raise_51 hl 0 rfl rfl rfl (fun ls hl => ?_)
              refine x_goto jS 34 dX3_raise_54 (by decide) ?_
              exact ih34 _ (by omega) (b + (-1)) a2_2 pr2_3 _ _ rfl (by omega) (fun t x => by rw [hw48.1 t x, hw44.1 (fun q => SS (t + q)), rep_sq h3 (Int.ediv_nonneg hn.1 (Int.pow_nonneg (by omega))) (by omega) x, show b + -1 + 1 = b by omega, ← half_step n b (by omega)]) (hw48.2) hP hD hS ls (lv_sub hl [0, 1, 2] rfl)
        exact loop_34 _ 29 (uI a1 0 1) pr _ _ rfl (by omega) (by have e : n / 2 ^ ((29 : Int) + 1).toNat = 0 := Int.ediv_eq_zero_of_lt hn.1 (by show n < 1073741824; omega); rw [e]; exact rep_1 (fun j x y => h1 j x (by omega)) hL) (fun j x y => by by_cases e : j = 0; rw [e, uI_s]; omega; rw [uI_n e, h1 j x (by omega)]; omega) hP hD hS ls (lv_sub hl [0, 1, 2] rfl)
      · skip
        refine x_aln jS dX3_raise_11 rfl hl 1 rfl ?_
        refine x_get jS hK hP h_X3_raise_X3 0 rfl rfl 2 rfl m_X3_raise_1 rfl dX3_raise_12 ?_
        refine x_iln jS dX3_raise_15 rfl hl 0 rfl ?_
        refine x_ic jS dX3_raise_16 ?_
        refine x_iast (ws' := [(o3, .inr (3, [.ref h4, .ref qw, .ref qt, .ref qd, .int (iI L)])), (qw, .inl (cI, 17, .inl (aI w))), (qt, .inl (cI, 16, .inl (aI (uI a1 i 0)))), (qd, .inl (cI, 32, .inl (aI pr))), (h4, .inr (4, [.ref q4, .int (iI P)]))]) jS hK hP hD hS 2 rfl (by omega) dX3_raise_17 rfl (fun jH jL hP hD hS => ?_)
        refine x_iinc (lv' := [(2, .int (iI (i + 1))), (0, .ref o3), (1, .int (iI n))]) jS dX3_raise_18 hl 0 rfl rfl rfl (fun ls hl => ?_)
        refine x_goto jS 2 dX3_raise_21 (by decide) ?_
        exact ih2 _ (by omega) (i + 1) (uI a1 i 0) _ _ rfl (by omega) (fun j x y => by rcases Int.lt_or_le j i with q | q; rw [uI_n (by omega)]; exact h1 j x q; rw [show j = i by omega, uI_s]) hP hD hS ls (lv_sub hl [0, 1, 2] rfl)
  exact loop_2 _ 0 a _ _ rfl (by omega) (fun j x y => by omega) hP hD hS ls (lv_sub hl [0, 1, 2] rfl)
theorem h_X3_numberAt_X6 : ∀ w ∈ u_ws RX6 TX6 8, w ∈ wsX3_numberAt := fun w h => List.mem_cons_of_mem _ (List.mem_append_left _ (List.mem_append_left _ (List.mem_append_right _ h)))
theorem kf_X3_takeWeights : kfV yX3_takeWeights RX3 1 := by decide +kernel
theorem kf_X3_raise : kfV yX3_raise RX3 1 := by decide +kernel
theorem h_X3_numberAt_X3 : ∀ w ∈ u_ws RX3 TX3 5, w ∈ wsX3_numberAt := fun w h => List.mem_cons_of_mem _ (List.mem_append_left _ (List.mem_append_right _ h))
theorem m_X3_numberAt_1 : Cond.fieldLink RX3 21 "SealedBox$Onward" "length" "I" ∈ wsX3_numberAt := List.mem_of_getElem? (i := 1) rfl
theorem m_X3_numberAt_3 : Cond.fieldLink RX3 25 "SealedBox$Onward" "numbers" "LSealedBox$PrimeField;" ∈ wsX3_numberAt := List.mem_of_getElem? (i := 3) rfl
theorem h_X3_numberAt_X4 : ∀ w ∈ u_ws RX4 TX4 2, w ∈ wsX3_numberAt := fun w h => List.mem_cons_of_mem _ (List.mem_append_right _ h)
theorem m_X3_numberAt_2 : Cond.fieldLink RX3 15 "SealedBox$Onward" "rest" "[I" ∈ wsX3_numberAt := List.mem_of_getElem? (i := 2) rfl
abbrev rm_X3_numberAt : Room := { frames := 3, cells := 0, slots := 0, locals := 65 }
set_option maxHeartbeats 4000000 in
set_option maxRecDepth 100000 in
theorem c_X3_numberAt (jl : Launch) (D : va_G) (cI : ClassId) (o3 qw qt qd h6 qn qo qs qr h4 q4 : Nat) (P L0 L fL f m n : Int) (w a pr now row SS : Int → Int) (sz : Nat) (hP5 : 5 ≤ P ∧ P ≤ 997) (hL : 0 ≤ L ∧ L ≤ 16) (hn : 0 ≤ n ∧ n ≤ 1000000000) (hnow : ∀ j : Int, 0 ≤ j → j ≤ 16 → 0 ≤ now j ∧ now j < P) (hrow : ∀ j : Int, 0 ≤ j → j < L → 0 ≤ row j ∧ row j < P) (hgo : goesOn P L (fun j => (0 + P - now j) % P) SS) (hSS : ∀ j : Int, 0 ≤ j → j < L → SS j = row j) : Met jl yX3_numberAt wsX3_numberAt rm_X3_numberAt (xPw [.ref o3, .int (iI n), .ref h6, .ref qr] D cI [(o3, .inr (3, [.ref h4, .ref qw, .ref qt, .ref qd, .int (iI L0)])), (qw, .inl (cI, 17, .inl (aI w))), (qt, .inl (cI, 16, .inl (aI a))), (qd, .inl (cI, 32, .inl (aI pr))), (h6, .inr (6, [.ref h4, .ref qn, .ref qo, .ref qs, .int (iI L), .int (iI fL), .int (iI f), .int (iI m)])), (qn, .inl (cI, 17, .inl (aI now))), (qr, .inl (cI, 16, .inl (aI row))), (h4, .inr (4, [.ref q4, .int (iI P)]))] sz) (va_Qi (fun (r : Int32) (u : Int × (Int → Int) × (Int → Int) × (Int → Int)) => r = (iI (if L = 0 then 0 else SS n % P)) ∧ (True)) (xB D (fun (u : Int × (Int → Int) × (Int → Int) × (Int → Int)) => [(o3, .inr (3, [.ref h4, .ref qw, .ref qt, .ref qd, .int (iI u.1)])), (qw, .inl (cI, 17, .inl (aI u.2.1))), (qt, .inl (cI, 16, .inl (aI u.2.2.1))), (qd, .inl (cI, 32, .inl (aI u.2.2.2))), (h6, .inr (6, [.ref h4, .ref qn, .ref qo, .ref qs, .int (iI L), .int (iI fL), .int (iI f), .int (iI m)])), (qn, .inl (cI, 17, .inl (aI now))), (qr, .inl (cI, 16, .inl (aI row))), (h4, .inr (4, [.ref q4, .int (iI P)]))]) (va_A [(o3, .inr (3, [.ref h4, .ref qw, .ref qt, .ref qd, .int (iI L0)])), (qw, .inl (cI, 17, .inl (aI w))), (qt, .inl (cI, 16, .inl (aI a))), (qd, .inl (cI, 32, .inl (aI pr))), (h6, .inr (6, [.ref h4, .ref qn, .ref qo, .ref qs, .int (iI L), .int (iI fL), .int (iI f), .int (iI m)])), (qn, .inl (cI, 17, .inl (aI now))), (qr, .inl (cI, 16, .inl (aI row))), (h4, .inr (4, [.ref q4, .int (iI P)]))] sz)) (va_A [(o3, .inr (3, [.ref h4, .ref qw, .ref qt, .ref qd, .int (iI L0)])), (qw, .inl (cI, 17, .inl (aI w))), (qt, .inl (cI, 16, .inl (aI a))), (qd, .inl (cI, 32, .inl (aI pr))), (h6, .inr (6, [.ref h4, .ref qn, .ref qo, .ref qs, .int (iI L), .int (iI fL), .int (iI f), .int (iI m)])), (qn, .inl (cI, 17, .inl (aI now))), (qr, .inl (cI, 16, .inl (aI row))), (h4, .inr (4, [.ref q4, .int (iI P)]))] sz)) 0 0 (va_A [(o3, .inr (3, [.ref h4, .ref qw, .ref qt, .ref qd, .int (iI L0)])), (qw, .inl (cI, 17, .inl (aI w))), (qt, .inl (cI, 16, .inl (aI a))), (qd, .inl (cI, 32, .inl (aI pr))), (h6, .inr (6, [.ref h4, .ref qn, .ref qo, .ref qs, .int (iI L), .int (iI fL), .int (iI f), .int (iI m)])), (qn, .inl (cI, 17, .inl (aI now))), (qr, .inl (cI, 16, .inl (aI row))), (h4, .inr (4, [.ref q4, .int (iI P)]))] sz) := by
  refine x_metW (own := RX3) (cc := cX3_numberAt) (maxL := 6) (ret := (some .int)) (Qc := fun jA => va_Qi (fun (r : Int32) (u : Int × (Int → Int) × (Int → Int) × (Int → Int)) => r = (iI (if L = 0 then 0 else SS n % P)) ∧ (True)) (xB D (fun (u : Int × (Int → Int) × (Int → Int) × (Int → Int)) => [(o3, .inr (3, [.ref h4, .ref qw, .ref qt, .ref qd, .int (iI u.1)])), (qw, .inl (cI, 17, .inl (aI u.2.1))), (qt, .inl (cI, 16, .inl (aI u.2.2.1))), (qd, .inl (cI, 32, .inl (aI u.2.2.2))), (h6, .inr (6, [.ref h4, .ref qn, .ref qo, .ref qs, .int (iI L), .int (iI fL), .int (iI f), .int (iI m)])), (qn, .inl (cI, 17, .inl (aI now))), (qr, .inl (cI, 16, .inl (aI row))), (h4, .inr (4, [.ref q4, .int (iI P)]))]) jA) jA) (by decide) rfl rfl rfl ?_
  intro jp je js jm ja jb jt jc jA jQ jS jr jk jn jq hK hP hD hA hS ls hl
  have hl : lv_has ls 6 [(0, .ref o3), (1, .int (iI n)), (2, .ref h6), (3, .ref qr)] := hl
  refine x_aln jS dX3_numberAt_0 rfl hl 2 rfl ?_
  refine x_getN jS hK hP h_X3_numberAt_X6 4 rfl rfl 4 rfl 10 rfl rfl dX3_numberAt_1 ?_
  refine x_ic jS dX3_numberAt_4 ?_
  refine x_cmplt jS 17 dX3_numberAt_5 (by decide) (by omega) (fun hc5 => ?_) (fun hc5 => ?_)
  · skip
    refine x_ic jS dX3_numberAt_17 ?_
    exact x_iretW jS jr jk jq dX3_numberAt_18 ⟨L0, w, a, pr⟩ hP hD hS (show (iI 0) = (iI (if L = 0 then 0 else SS n % P)) ∧ True from ⟨by rw [if_pos (by omega)], trivial⟩)
  · skip
    refine x_aln jS dX3_numberAt_8 rfl hl 2 rfl ?_
    refine x_getN jS hK hP h_X3_numberAt_X6 4 rfl rfl 4 rfl 10 rfl rfl dX3_numberAt_9 ?_
    refine x_bi jS dX3_numberAt_12 (by decide) ?_
    refine x_cmple jS 19 dX3_numberAt_14 (by decide) (by omega) (fun hc14 => ?_) (fun hc14 => ?_)
    rotate_left
    · exfalso; omega
    refine x_aln jS dX3_numberAt_19 rfl hl 0 rfl ?_
    refine x_aln jS dX3_numberAt_20 rfl hl 2 rfl ?_
    refine x_aV (wc := [(o3, .inr (3, [.ref h4, .ref qw, .ref qt, .ref qd, .int (iI L0)])), (qw, .inl (cI, 17, .inl (aI w))), (h6, .inr (6, [.ref h4, .ref qn, .ref qo, .ref qs, .int (iI L), .int (iI fL), .int (iI f), .int (iI m)])), (qn, .inl (cI, 17, .inl (aI now))), (h4, .inr (4, [.ref q4, .int (iI P)]))]) (wr := [(qt, .inl (cI, 16, .inl (aI a))), (qd, .inl (cI, 32, .inl (aI pr))), (qr, .inl (cI, 16, .inl (aI row)))]) hP hD hS hA [0, 1, 4, 5, 7] [2, 3, 6] rfl rfl (by decide) (by decide) (cs := 0) (ss := 0) rfl rfl (x_rnV (As := [.ref h6]) (rest := []) jS hl.1 hK (c_X3_takeWeights jl D cI o3 qw qt qd h6 qn qo qs h4 q4 P L0 L fL f m w now _ (by first | assumption | omega) (by first | assumption | omega) (by first | assumption | omega)) hP hD [0, 1, 4, 5, 7] rfl rfl (by decide) 0 rfl rfl gX3_numberAt_X3_takeWeights rfl rfl rfl kf_X3_takeWeights rfl rfl rfl rfl rfl dX3_numberAt_21 rfl rfl) (fun u jH jL hw hP hD hS => ?_)
    obtain ⟨w3, rfl⟩ : ∃ z, z = u := ⟨_, rfl⟩
    have hw21 : ∀ j : Int, 1 ≤ j → j ≤ L → w3 j = (0 + P - now j) % P := hw
    clear hw
    have hP : va_P D vwCl [(qt, .inl (cI, 16, .inl (aI a))), (qd, .inl (cI, 32, .inl (aI pr))), (qr, .inl (cI, 16, .inl (aI row))), (o3, .inr (3, [.ref h4, .ref qw, .ref qt, .ref qd, .int (iI L)])), (qw, .inl (cI, 17, .inl (aI w3))), (h6, .inr (6, [.ref h4, .ref qn, .ref qo, .ref qs, .int (iI L), .int (iI fL), .int (iI f), .int (iI m)])), (qn, .inl (cI, 17, .inl (aI now))), (h4, .inr (4, [.ref q4, .int (iI P)]))] jH := hP
    have hD : va_D jA [(qt, .inl (cI, 16, .inl (aI a))), (qd, .inl (cI, 32, .inl (aI pr))), (qr, .inl (cI, 16, .inl (aI row))), (o3, .inr (3, [.ref h4, .ref qw, .ref qt, .ref qd, .int (iI L)])), (qw, .inl (cI, 17, .inl (aI w3))), (h6, .inr (6, [.ref h4, .ref qn, .ref qo, .ref qs, .int (iI L), .int (iI fL), .int (iI f), .int (iI m)])), (qn, .inl (cI, 17, .inl (aI now))), (h4, .inr (4, [.ref q4, .int (iI P)]))] := hD
    refine x_aln jS dX3_numberAt_24 rfl hl 0 rfl ?_
    refine x_iln jS dX3_numberAt_25 rfl hl 1 rfl ?_
    have hwb : ∀ j : Int, 1 ≤ j → j ≤ L → 0 ≤ w3 j ∧ w3 j < P := fun j x y => by rw [hw21 j x y]; exact emB (by omega) _
    have hgo3 : goesOn P L w3 SS := fun i x => by rw [hgo i x]; congr 1; exact sm_congr (fun k y z => by rw [hw21 (k + 1) (by omega) (by omega)])
    refine x_aV (wc := [(o3, .inr (3, [.ref h4, .ref qw, .ref qt, .ref qd, .int (iI L)])), (qw, .inl (cI, 17, .inl (aI w3))), (qt, .inl (cI, 16, .inl (aI a))), (qd, .inl (cI, 32, .inl (aI pr))), (h4, .inr (4, [.ref q4, .int (iI P)]))]) (wr := [(qr, .inl (cI, 16, .inl (aI row))), (h6, .inr (6, [.ref h4, .ref qn, .ref qo, .ref qs, .int (iI L), .int (iI fL), .int (iI f), .int (iI m)])), (qn, .inl (cI, 17, .inl (aI now)))]) hP hD hS hA [3, 4, 0, 1, 7] [2, 5, 6] rfl rfl (by decide) (by decide) (cs := 0) (ss := 0) rfl rfl (x_rnV (As := [.int (iI n)]) (rest := []) jS hl.1 hK (c_X3_raise jl D cI o3 qw qt qd h4 q4 P L n w3 a pr SS _ (by first | assumption | omega) (by first | assumption | omega) (by first | assumption | omega) (by first | assumption | omega) (by first | assumption | omega)) hP hD [3, 4, 0, 1, 7] rfl rfl (by decide) 0 rfl rfl gX3_numberAt_X3_raise rfl rfl rfl kf_X3_raise rfl rfl rfl rfl rfl dX3_numberAt_26 rfl rfl) (fun u jH jL hw hP hD hS => ?_)
    obtain ⟨a3, pr2_1⟩ := u
    have hw26 : Rep P L SS a3 n ∧ (∀ j : Int, 0 ≤ j → j < L → 0 ≤ a3 j ∧ a3 j < P) := hw
    clear hw
    have hP : va_P D vwCl [(qr, .inl (cI, 16, .inl (aI row))), (h6, .inr (6, [.ref h4, .ref qn, .ref qo, .ref qs, .int (iI L), .int (iI fL), .int (iI f), .int (iI m)])), (qn, .inl (cI, 17, .inl (aI now))), (o3, .inr (3, [.ref h4, .ref qw, .ref qt, .ref qd, .int (iI L)])), (qw, .inl (cI, 17, .inl (aI w3))), (qt, .inl (cI, 16, .inl (aI a3))), (qd, .inl (cI, 32, .inl (aI pr2_1))), (h4, .inr (4, [.ref q4, .int (iI P)]))] jH := hP
    have hD : va_D jA [(qr, .inl (cI, 16, .inl (aI row))), (h6, .inr (6, [.ref h4, .ref qn, .ref qo, .ref qs, .int (iI L), .int (iI fL), .int (iI f), .int (iI m)])), (qn, .inl (cI, 17, .inl (aI now))), (o3, .inr (3, [.ref h4, .ref qw, .ref qt, .ref qd, .int (iI L)])), (qw, .inl (cI, 17, .inl (aI w3))), (qt, .inl (cI, 16, .inl (aI a3))), (qd, .inl (cI, 32, .inl (aI pr2_1))), (h4, .inr (4, [.ref q4, .int (iI P)]))] := hD
    refine x_ic jS dX3_numberAt_29 ?_
    refine x_is (lv' := [(4, .int (iI 0)), (0, .ref o3), (1, .int (iI n)), (2, .ref h6), (3, .ref qr)]) jS dX3_numberAt_30 hl rfl rfl (fun ls hl => ?_)
    refine x_ic jS dX3_numberAt_32 ?_
    refine x_is (lv' := [(5, .int (iI 0)), (4, .int (iI 0)), (0, .ref o3), (1, .int (iI n)), (2, .ref h6), (3, .ref qr)]) jS dX3_numberAt_33 hl rfl rfl (fun ls hl => ?_)
    have loop_35 : ∀ (mm : Nat) (r : Int) (i : Int), (L - i).toNat = mm → (0 ≤ i ∧ i ≤ L) → (r = sm (fun k => a3 k * row k) i) → (0 ≤ r ∧ r ≤ i * 1000000) → ∀ ls : Array Slot, lv_has ls 6 [(5, .int (iI i)), (4, .int (iI r)), (0, .ref o3), (1, .int (iI n)), (2, .ref h6), (3, .ref qr)] → W jp jl je rm_X3_numberAt js jm ja jb jt jc jH jL 0 0 jQ (F0 jm 35 ls []) := by
      intro mm
      induction mm using Nat.strongRecOn with
      | ind mm ih35 =>
        intro r i hmm35 hi hr hrb ls hl
        refine x_il jS dX3_numberAt_35 hl 0 rfl ?_
        refine x_aln jS dX3_numberAt_37 rfl hl 2 rfl ?_
        refine x_get jS hK hP h_X3_numberAt_X3 3 rfl rfl 4 rfl m_X3_numberAt_1 rfl dX3_numberAt_38 ?_
        refine x_cmpge jS 74 dX3_numberAt_41 (by decide) (by omega) (fun hc41 => ?_) (fun hc41 => ?_)
        · skip
          refine x_il jS dX3_numberAt_74 hl 1 rfl ?_
          refine x_aln jS dX3_numberAt_76 rfl hl 2 rfl ?_
          refine x_get jS hK hP h_X3_numberAt_X3 3 rfl rfl 0 rfl m_X3_numberAt_3 rfl dX3_numberAt_77 ?_
          refine x_getN jS hK hP h_X3_numberAt_X4 7 rfl rfl 1 rfl 1 rfl rfl dX3_numberAt_80 ?_
          refine x_irem jS dX3_numberAt_83 (by omega) (fun hm83 => ?_)
          exact x_iretW jS jr jk jq dX3_numberAt_84 ⟨L, w3, a3, pr2_1⟩ (hP.sub [3, 4, 5, 6, 1, 2, 0, 7] rfl) (hD.sub [3, 4, 5, 6, 1, 2, 0, 7] (by decide) rfl) hS (show (iI (r % P)) = (iI (if L = 0 then 0 else SS n % P)) ∧ True from ⟨by rw [if_neg (by omega), hr, show i = L by omega]; congr 1; have e := hw26.1 0 (by omega); rw [show (0 : Int) + n = n by omega] at e; rw [← e]; congr 1; exact sm_congr (fun k x y => by rw [show (0 : Int) + k = k by omega, hSS k x y]), trivial⟩)
        · skip
          refine x_il jS dX3_numberAt_44 hl 0 rfl ?_
          refine x_aln jS dX3_numberAt_46 rfl hl 5 rfl ?_
          refine x_alen jS hK hP 0 rfl dX3_numberAt_47 ?_
          refine x_cmpge jS 74 dX3_numberAt_48 (by decide) (by omega) (fun hc48 => ?_) (fun hc48 => ?_)
          · exfalso; omega
          refine x_il jS dX3_numberAt_51 hl 1 rfl ?_
          refine x_aln jS dX3_numberAt_53 rfl hl 2 rfl ?_
          refine x_get jS hK hP h_X3_numberAt_X3 3 rfl rfl 2 rfl m_X3_numberAt_2 rfl dX3_numberAt_54 ?_
          refine x_il jS dX3_numberAt_57 hl 0 rfl ?_
          refine x_iald jS hK hP 5 rfl (by omega) dX3_numberAt_59 ?_
          have hb59 := hw26.2 i (by omega) (by omega)
          refine x_aln jS dX3_numberAt_60 rfl hl 5 rfl ?_
          refine x_il jS dX3_numberAt_61 hl 0 rfl ?_
          refine x_iald jS hK hP 0 rfl (by omega) dX3_numberAt_63 ?_
          have hb63 := hrow i (by omega) (by omega)
          refine x_imulB jS dX3_numberAt_64 (by omega) (fun hp64 => ?_)
          refine x_iadd jS dX3_numberAt_65 ?_
          refine x_is (lv' := [(4, .int (iI (r + ((a3 i) * (row i))))), (5, .int (iI i)), (0, .ref o3), (1, .int (iI n)), (2, .ref h6), (3, .ref qr)]) jS dX3_numberAt_66 hl rfl rfl (fun ls hl => ?_)
          refine x_iinc (lv' := [(5, .int (iI (i + 1))), (4, .int (iI (r + ((a3 i) * (row i))))), (0, .ref o3), (1, .int (iI n)), (2, .ref h6), (3, .ref qr)]) jS dX3_numberAt_68 hl 1 rfl rfl rfl (fun ls hl => ?_)
          refine x_goto jS 35 dX3_numberAt_71 (by decide) ?_
          exact ih35 _ (by omega) (r + ((a3 i) * (row i))) (i + 1) rfl (by omega) (by rw [sm_s _ hi.1, ← hr]) (by omega) ls (lv_sub hl [0, 1, 2, 3, 4, 5] rfl)
    exact loop_35 _ 0 0 rfl (by omega) ((sm_0 _).symm) (by omega) ls (lv_sub hl [0, 1, 2, 3, 4, 5] rfl)
