/-! Box: lines -/
theorem h_X1_readyLines_X1 : ∀ w ∈ u_ws RX1 TX1 7, w ∈ wsX1_readyLines := fun w h => List.mem_cons_of_mem _ (List.mem_append_left _ (List.mem_append_left _ (List.mem_append_right _ h)))
theorem m_X1_readyLines_1 : Cond.fieldLink RX1 28 "SealedBox$Box" "numbers" "LSealedBox$PrimeField;" ∈ wsX1_readyLines := List.mem_of_getElem? (i := 1) rfl
theorem h_X1_readyLines_X4 : ∀ w ∈ u_ws RX4 TX4 2, w ∈ wsX1_readyLines := fun w h => List.mem_cons_of_mem _ (List.mem_append_left _ (List.mem_append_right _ h))
theorem m_X1_readyLines_2 : Cond.fieldLink RX1 15 "SealedBox$Box" "lineForms" "[I" ∈ wsX1_readyLines := List.mem_of_getElem? (i := 2) rfl
theorem m_X1_readyLines_3 : Cond.fieldLink RX1 32 "SealedBox$Box" "bases" "LSealedBox$Bases;" ∈ wsX1_readyLines := List.mem_of_getElem? (i := 3) rfl
theorem m_X1_readyLines_4 : Cond.fieldLink RX1 21 "SealedBox$Box" "kind" "I" ∈ wsX1_readyLines := List.mem_of_getElem? (i := 4) rfl
abbrev rm_X1_readyLines : Room := { frames := 2, cells := 0, slots := 0, locals := 49 }
set_option maxHeartbeats 4000000 in
set_option maxRecDepth 100000 in
theorem c_X1_readyLines (jl : Launch) (D : va_G) (cI : ClassId) (hb qp qf ql h0 h4 q4 : Nat) (P sh sc k n : Int) (lf : Int → Int) (sz : Nat) (hP5 : 5 ≤ P ∧ P ≤ 997) (h23 : P ≤ 23) (hs : 0 ≤ sh ∧ sh ≤ 996 ∧ 1 ≤ sc ∧ sc ≤ 996) (hk : 0 ≤ k ∧ k ≤ 2) : Met jl yX1_readyLines wsX1_readyLines rm_X1_readyLines (xPw [.ref hb] D cI [(hb, .inr (1, [.ref h4, .ref h0, .ref qp, .ref qf, .ref ql, .int (iI k), .int (iI n)])), (qf, .inl (cI, 115, .inl (aI lf))), (h0, .inr (0, [.ref h4, .int (iI sh), .int (iI sc)])), (h4, .inr (4, [.ref q4, .int (iI P)]))] sz) (va_Qv (fun (u : (Int → Int)) => ∀ i z : Int, 0 ≤ i → i ≤ 4 → 0 ≤ z → z < P → u (i * 23 + z) = ltr P sh sc k z i) (xB D (fun (u : (Int → Int)) => [(hb, .inr (1, [.ref h4, .ref h0, .ref qp, .ref qf, .ref ql, .int (iI k), .int (iI n)])), (qf, .inl (cI, 115, .inl (aI u))), (h0, .inr (0, [.ref h4, .int (iI sh), .int (iI sc)])), (h4, .inr (4, [.ref q4, .int (iI P)]))]) (va_A [(hb, .inr (1, [.ref h4, .ref h0, .ref qp, .ref qf, .ref ql, .int (iI k), .int (iI n)])), (qf, .inl (cI, 115, .inl (aI lf))), (h0, .inr (0, [.ref h4, .int (iI sh), .int (iI sc)])), (h4, .inr (4, [.ref q4, .int (iI P)]))] sz)) (va_A [(hb, .inr (1, [.ref h4, .ref h0, .ref qp, .ref qf, .ref ql, .int (iI k), .int (iI n)])), (qf, .inl (cI, 115, .inl (aI lf))), (h0, .inr (0, [.ref h4, .int (iI sh), .int (iI sc)])), (h4, .inr (4, [.ref q4, .int (iI P)]))] sz)) 0 0 (va_A [(hb, .inr (1, [.ref h4, .ref h0, .ref qp, .ref qf, .ref ql, .int (iI k), .int (iI n)])), (qf, .inl (cI, 115, .inl (aI lf))), (h0, .inr (0, [.ref h4, .int (iI sh), .int (iI sc)])), (h4, .inr (4, [.ref q4, .int (iI P)]))] sz) := by
  refine x_metW (own := RX1) (cc := cX1_readyLines) (maxL := 3) (ret := none) (Qc := fun jA => va_Qv (fun (u : (Int → Int)) => ∀ i z : Int, 0 ≤ i → i ≤ 4 → 0 ≤ z → z < P → u (i * 23 + z) = ltr P sh sc k z i) (xB D (fun (u : (Int → Int)) => [(hb, .inr (1, [.ref h4, .ref h0, .ref qp, .ref qf, .ref ql, .int (iI k), .int (iI n)])), (qf, .inl (cI, 115, .inl (aI u))), (h0, .inr (0, [.ref h4, .int (iI sh), .int (iI sc)])), (h4, .inr (4, [.ref q4, .int (iI P)]))]) jA) jA) (by decide) rfl rfl rfl ?_
  intro jp je js jm ja jb jt jc jA jQ jS jr jk jn jq hK hP hD hA hS ls hl
  have hl : lv_has ls 3 [(0, .ref hb)] := hl
  refine x_ic jS dX1_readyLines_0 ?_
  refine x_isn (lv' := [(1, .int (iI 0)), (0, .ref hb)]) jS dX1_readyLines_1 rfl hl rfl rfl (fun ls hl => ?_)
  have loop_2 : ∀ (mm : Nat) (i : Int) (lf1 : Int → Int) (jH : Heap) (jL : List Loc), (5 - i).toNat = mm → (0 ≤ i ∧ i ≤ 5) → (∀ j z : Int, 0 ≤ j → j < i → 0 ≤ z → z < P → lf1 (j * 23 + z) = ltr P sh sc k z j) → va_P D vwCl [(hb, .inr (1, [.ref h4, .ref h0, .ref qp, .ref qf, .ref ql, .int (iI k), .int (iI n)])), (qf, .inl (cI, 115, .inl (aI lf1))), (h0, .inr (0, [.ref h4, .int (iI sh), .int (iI sc)])), (h4, .inr (4, [.ref q4, .int (iI P)]))] jH → va_D jA [(hb, .inr (1, [.ref h4, .ref h0, .ref qp, .ref qf, .ref ql, .int (iI k), .int (iI n)])), (qf, .inl (cI, 115, .inl (aI lf1))), (h0, .inr (0, [.ref h4, .int (iI sh), .int (iI sc)])), (h4, .inr (4, [.ref q4, .int (iI P)]))] → va_S jA js.heap jH jL → ∀ ls : Array Slot, lv_has ls 3 [(1, .int (iI i)), (0, .ref hb)] → W jp jl je rm_X1_readyLines js jm ja jb jt jc jH jL 0 0 jQ (F0 jm 2 ls []) := by
    intro mm
    induction mm using Nat.strongRecOn with
    | ind mm ih2 =>
      intro i lf1 jH jL hmm2 hi hf hP hD hS ls hl
      refine x_iln jS dX1_readyLines_2 rfl hl 0 rfl ?_
      refine x_ic jS dX1_readyLines_3 ?_
      refine x_cmpgt jS 62 dX1_readyLines_4 (by decide) (by omega) (fun hc4 => ?_) (fun hc4 => ?_)
      · skip
        exact x_vretW jS jr jk jq dX1_readyLines_62 lf1 hP hD hS (show ∀ i z : Int, 0 ≤ i → i ≤ 4 → 0 ≤ z → z < P → lf1 (i * 23 + z) = ltr P sh sc k z i from fun j w h1 h2 h3 h4 => hf j w h1 (by omega) h3 h4)
      · skip
        refine x_ic jS dX1_readyLines_7 ?_
        refine x_isn (lv' := [(2, .int (iI 0)), (1, .int (iI i)), (0, .ref hb)]) jS dX1_readyLines_8 rfl hl rfl rfl (fun ls hl => ?_)
        have loop_9 : ∀ (mm : Nat) (z : Int) (lf3 : Int → Int) (jH : Heap) (jL : List Loc), (P - z).toNat = mm → (0 ≤ z ∧ z ≤ P) → (∀ j z : Int, 0 ≤ j → j < i → 0 ≤ z → z < P → lf3 (j * 23 + z) = ltr P sh sc k z j) → (∀ w : Int, 0 ≤ w → w < z → lf3 (i * 23 + w) = ltr P sh sc k w i) → va_P D vwCl [(hb, .inr (1, [.ref h4, .ref h0, .ref qp, .ref qf, .ref ql, .int (iI k), .int (iI n)])), (qf, .inl (cI, 115, .inl (aI lf3))), (h0, .inr (0, [.ref h4, .int (iI sh), .int (iI sc)])), (h4, .inr (4, [.ref q4, .int (iI P)]))] jH → va_D jA [(hb, .inr (1, [.ref h4, .ref h0, .ref qp, .ref qf, .ref ql, .int (iI k), .int (iI n)])), (qf, .inl (cI, 115, .inl (aI lf3))), (h0, .inr (0, [.ref h4, .int (iI sh), .int (iI sc)])), (h4, .inr (4, [.ref q4, .int (iI P)]))] → va_S jA js.heap jH jL → ∀ ls : Array Slot, lv_has ls 3 [(2, .int (iI z)), (1, .int (iI i)), (0, .ref hb)] → W jp jl je rm_X1_readyLines js jm ja jb jt jc jH jL 0 0 jQ (F0 jm 9 ls []) := by
          intro mm
          induction mm using Nat.strongRecOn with
          | ind mm ih9 =>
            intro z lf3 jH jL hmm9 hz hf3 hg3 hP hD hS ls hl
            refine x_iln jS dX1_readyLines_9 rfl hl 0 rfl ?_
            refine x_aln jS dX1_readyLines_10 rfl hl 2 rfl ?_
            refine x_get jS hK hP h_X1_readyLines_X1 0 rfl rfl 0 rfl m_X1_readyLines_1 rfl dX1_readyLines_11 ?_
            refine x_getN jS hK hP h_X1_readyLines_X4 3 rfl rfl 1 rfl 4 rfl rfl dX1_readyLines_14 ?_
            refine x_cmpge jS 56 dX1_readyLines_17 (by decide) (by omega) (fun hc17 => ?_) (fun hc17 => ?_)
            · skip
              refine x_iinc (lv' := [(1, .int (iI (i + 1))), (2, .int (iI z)), (0, .ref hb)]) jS dX1_readyLines_56 hl 1 rfl rfl rfl (fun ls hl => ?_)
              refine x_goto jS 2 dX1_readyLines_59 (by decide) ?_
              exact ih2 _ (by omega) (i + 1) lf3 _ _ rfl (by omega) (fun j w h1 h2 h3 h4 => by rcases Int.lt_or_le j i with q | q; exact hf3 j w h1 q h3 h4; rw [show j = i by omega]; exact hg3 w h3 (by omega)) hP hD hS ls (lv_sub hl [0, 2] rfl)
            · skip
              refine x_iln jS dX1_readyLines_20 rfl hl 0 rfl ?_
              refine x_bi jS dX1_readyLines_21 (by decide) ?_
              refine x_cmpge jS 56 dX1_readyLines_23 (by decide) (by omega) (fun hc23 => ?_) (fun hc23 => ?_)
              · exfalso; omega
              refine x_aln jS dX1_readyLines_26 rfl hl 2 rfl ?_
              refine x_get jS hK hP h_X1_readyLines_X1 0 rfl rfl 3 rfl m_X1_readyLines_2 rfl dX1_readyLines_27 ?_
              refine x_iln jS dX1_readyLines_30 rfl hl 1 rfl ?_
              refine x_bi jS dX1_readyLines_31 (by decide) ?_
              refine x_imul jS dX1_readyLines_33 ?_
              refine x_iln jS dX1_readyLines_34 rfl hl 0 rfl ?_
              refine x_iadd jS dX1_readyLines_35 ?_
              refine x_aln jS dX1_readyLines_36 rfl hl 2 rfl ?_
              refine x_get jS hK hP h_X1_readyLines_X1 0 rfl rfl 1 rfl m_X1_readyLines_3 rfl dX1_readyLines_37 ?_
              refine x_aln jS dX1_readyLines_40 rfl hl 2 rfl ?_
              refine x_get jS hK hP h_X1_readyLines_X1 0 rfl rfl 5 rfl m_X1_readyLines_4 rfl dX1_readyLines_41 ?_
              refine x_iln jS dX1_readyLines_44 rfl hl 0 rfl ?_
              refine x_iln jS dX1_readyLines_45 rfl hl 1 rfl ?_
              refine x_rI (x_rmV (As := [.int (iI k), .int (iI z), .int (iI i)]) (rest := [.int (iI ((i * 23) + z)), .ref qf]) jS hl.1 hK (c_X0_letter jl D cI h0 h4 q4 P sh sc k z i (by first | assumption | omega) (by first | assumption | omega) (by first | assumption | omega) (by first | assumption | omega) (by first | assumption | omega)) (hP.sub [2, 3] rfl) 0 rfl rfl gX1_readyLines_X0_letter rfl rfl rfl kf_X0_letter rfl rfl rfl rfl rfl dX1_readyLines_46 rfl rfl) ?_
              refine x_iast (ws' := [(hb, .inr (1, [.ref h4, .ref h0, .ref qp, .ref qf, .ref ql, .int (iI k), .int (iI n)])), (qf, .inl (cI, 115, .inl (aI (uI lf3 ((i * 23) + z) (ltr P sh sc k z i))))), (h0, .inr (0, [.ref h4, .int (iI sh), .int (iI sc)])), (h4, .inr (4, [.ref q4, .int (iI P)]))]) jS hK hP hD hS 1 rfl (by omega) dX1_readyLines_49 rfl (fun jH jL hP hD hS => ?_)
              refine x_iinc (lv' := [(2, .int (iI (z + 1))), (1, .int (iI i)), (0, .ref hb)]) jS dX1_readyLines_50 hl 0 rfl rfl rfl (fun ls hl => ?_)
              refine x_goto jS 9 dX1_readyLines_53 (by decide) ?_
              exact ih9 _ (by omega) (z + 1) (uI lf3 ((i * 23) + z) (ltr P sh sc k z i)) _ _ rfl (by omega) (fun j w h1 h2 h3 h4 => by rw [uI_n (by omega)]; exact hf3 j w h1 h2 h3 h4) (fun w h1 h2 => by rcases Int.lt_or_le w z with q | q; rw [uI_n (by omega)]; exact hg3 w h1 q; rw [show w = z by omega, uI_s]) hP hD hS ls (lv_sub hl [0, 1, 2] rfl)
        exact loop_9 _ 0 lf1 _ _ rfl (by omega) (hf) (fun w h1 h2 => by omega) hP hD hS ls (lv_sub hl [0, 1, 2] rfl)
  exact loop_2 _ 0 lf _ _ rfl (by omega) (fun j z h1 h2 => by omega) hP hD hS ls (lv_sub hl [0, 1] rfl)
theorem kf_X7_isExponent : kfS yX7_isExponent 1 := by decide +kernel
theorem m_X1_addToLine_5 : Cond.initialized RX7 ∈ wsX1_addToLine := List.mem_of_getElem? (i := 5) rfl
theorem m_X1_addToLine_4 : Cond.static yX7_isExponent ∈ wsX1_addToLine := List.mem_of_getElem? (i := 4) rfl
theorem h_X1_addToLine_X1 : ∀ w ∈ u_ws RX1 TX1 7, w ∈ wsX1_addToLine := fun w h => List.mem_cons_of_mem _ (List.mem_append_left _ (List.mem_append_right _ h))
theorem m_X1_addToLine_1 : Cond.fieldLink RX1 28 "SealedBox$Box" "numbers" "LSealedBox$PrimeField;" ∈ wsX1_addToLine := List.mem_of_getElem? (i := 1) rfl
theorem h_X1_addToLine_X4 : ∀ w ∈ u_ws RX4 TX4 2, w ∈ wsX1_addToLine := fun w h => List.mem_cons_of_mem _ (List.mem_append_right _ h)
theorem m_X1_addToLine_2 : Cond.fieldLink RX1 18 "SealedBox$Box" "line" "[I" ∈ wsX1_addToLine := List.mem_of_getElem? (i := 2) rfl
theorem m_X1_addToLine_3 : Cond.fieldLink RX1 15 "SealedBox$Box" "lineForms" "[I" ∈ wsX1_addToLine := List.mem_of_getElem? (i := 3) rfl
abbrev rm_X1_addToLine : Room := { frames := 1, cells := 0, slots := 0, locals := 20 }
set_option maxHeartbeats 4000000 in
set_option maxRecDepth 100000 in
theorem c_X1_addToLine (jl : Launch) (D : va_G) (cI : ClassId) (hb qp qf ql h0 h4 q4 : Nat) (P k n fa ex : Int) (lf ln : Int → Int) (sz : Nat) (hP5 : 5 ≤ P ∧ P ≤ 997) (h23 : P ≤ 23) (hfa : 0 ≤ fa ∧ fa ≤ 1000) (hex : 0 ≤ ex ∧ ex ≤ 4) (hlf : ∀ z : Int, 0 ≤ z → z < P → 0 ≤ lf (ex * 23 + z) ∧ lf (ex * 23 + z) ≤ 1000) (hln : ∀ z : Int, 0 ≤ z → z < P → 0 ≤ ln z ∧ ln z ≤ 100000000) : Met jl yX1_addToLine wsX1_addToLine rm_X1_addToLine (xPw [.ref hb, .int (iI fa), .int (iI ex)] D cI [(hb, .inr (1, [.ref h4, .ref h0, .ref qp, .ref qf, .ref ql, .int (iI k), .int (iI n)])), (qf, .inl (cI, 115, .inl (aI lf))), (ql, .inl (cI, 23, .inl (aI ln))), (h4, .inr (4, [.ref q4, .int (iI P)]))] sz) (va_Qv (fun (u : (Int → Int)) => (∀ z : Int, 0 ≤ z → z < P → u z = ln z + fa * lf (ex * 23 + z)) ∧ (∀ z : Int, P ≤ z → u z = ln z)) (xB D (fun (u : (Int → Int)) => [(hb, .inr (1, [.ref h4, .ref h0, .ref qp, .ref qf, .ref ql, .int (iI k), .int (iI n)])), (qf, .inl (cI, 115, .inl (aI lf))), (ql, .inl (cI, 23, .inl (aI u))), (h4, .inr (4, [.ref q4, .int (iI P)]))]) (va_A [(hb, .inr (1, [.ref h4, .ref h0, .ref qp, .ref qf, .ref ql, .int (iI k), .int (iI n)])), (qf, .inl (cI, 115, .inl (aI lf))), (ql, .inl (cI, 23, .inl (aI ln))), (h4, .inr (4, [.ref q4, .int (iI P)]))] sz)) (va_A [(hb, .inr (1, [.ref h4, .ref h0, .ref qp, .ref qf, .ref ql, .int (iI k), .int (iI n)])), (qf, .inl (cI, 115, .inl (aI lf))), (ql, .inl (cI, 23, .inl (aI ln))), (h4, .inr (4, [.ref q4, .int (iI P)]))] sz)) 0 0 (va_A [(hb, .inr (1, [.ref h4, .ref h0, .ref qp, .ref qf, .ref ql, .int (iI k), .int (iI n)])), (qf, .inl (cI, 115, .inl (aI lf))), (ql, .inl (cI, 23, .inl (aI ln))), (h4, .inr (4, [.ref q4, .int (iI P)]))] sz) := by
  refine x_metW (own := RX1) (cc := cX1_addToLine) (maxL := 5) (ret := none) (Qc := fun jA => va_Qv (fun (u : (Int → Int)) => (∀ z : Int, 0 ≤ z → z < P → u z = ln z + fa * lf (ex * 23 + z)) ∧ (∀ z : Int, P ≤ z → u z = ln z)) (xB D (fun (u : (Int → Int)) => [(hb, .inr (1, [.ref h4, .ref h0, .ref qp, .ref qf, .ref ql, .int (iI k), .int (iI n)])), (qf, .inl (cI, 115, .inl (aI lf))), (ql, .inl (cI, 23, .inl (aI u))), (h4, .inr (4, [.ref q4, .int (iI P)]))]) jA) jA) (by decide) rfl rfl rfl ?_
  intro jp je js jm ja jb jt jc jA jQ jS jr jk jn jq hK hP hD hA hS ls hl
  have hl : lv_has ls 5 [(0, .ref hb), (1, .int (iI fa)), (2, .int (iI ex))] := hl
  refine x_iln jS dX1_addToLine_0 rfl hl 2 rfl ?_
  refine x_rI (x_rmSN (As := [.int (iI ex)]) (rest := []) jS hl.1 hK (c_X7_isExponent jl D cI ex (by first | assumption | omega)) (hP.sub [] rfl) gX1_addToLine_X7_isExponent_n61 rfl rfl rfl hK.2.2 m_X1_addToLine_5 m_X1_addToLine_4 kf_X7_isExponent rfl rfl rfl rfl rfl dX1_addToLine_1 rfl rfl) ?_
  refine x_ifneB jS 8 dX1_addToLine_4 (by decide) (fun hc4 => ?_) (fun hc4 => ?_)
  rotate_left
  · exfalso; omega
  refine x_iln jS dX1_addToLine_8 rfl hl 2 rfl ?_
  refine x_bi jS dX1_addToLine_9 (by decide) ?_
  refine x_imul jS dX1_addToLine_11 ?_
  refine x_isn (lv' := [(3, .int (iI (ex * 23))), (0, .ref hb), (1, .int (iI fa)), (2, .int (iI ex))]) jS dX1_addToLine_12 rfl hl rfl rfl (fun ls hl => ?_)
  refine x_ic jS dX1_addToLine_13 ?_
  refine x_is (lv' := [(4, .int (iI 0)), (3, .int (iI (ex * 23))), (0, .ref hb), (1, .int (iI fa)), (2, .int (iI ex))]) jS dX1_addToLine_14 hl rfl rfl (fun ls hl => ?_)
  have loop_16 : ∀ (mm : Nat) (z : Int) (ln1 : Int → Int) (jH : Heap) (jL : List Loc), (P - z).toNat = mm → (0 ≤ z ∧ z ≤ P) → (∀ w : Int, 0 ≤ w → w < z → ln1 w = ln w + fa * lf (ex * 23 + w)) → (∀ w : Int, z ≤ w → ln1 w = ln w) → va_P D vwCl [(hb, .inr (1, [.ref h4, .ref h0, .ref qp, .ref qf, .ref ql, .int (iI k), .int (iI n)])), (qf, .inl (cI, 115, .inl (aI lf))), (ql, .inl (cI, 23, .inl (aI ln1))), (h4, .inr (4, [.ref q4, .int (iI P)]))] jH → va_D jA [(hb, .inr (1, [.ref h4, .ref h0, .ref qp, .ref qf, .ref ql, .int (iI k), .int (iI n)])), (qf, .inl (cI, 115, .inl (aI lf))), (ql, .inl (cI, 23, .inl (aI ln1))), (h4, .inr (4, [.ref q4, .int (iI P)]))] → va_S jA js.heap jH jL → ∀ ls : Array Slot, lv_has ls 5 [(4, .int (iI z)), (3, .int (iI (ex * 23))), (0, .ref hb), (1, .int (iI fa)), (2, .int (iI ex))] → W jp jl je rm_X1_addToLine js jm ja jb jt jc jH jL 0 0 jQ (F0 jm 16 ls []) := by
    intro mm
    induction mm using Nat.strongRecOn with
    | ind mm ih16 =>
      intro z ln1 jH jL hmm16 hz h1 h2 hP hD hS ls hl
      refine x_il jS dX1_addToLine_16 hl 0 rfl ?_
      refine x_aln jS dX1_addToLine_18 rfl hl 2 rfl ?_
      refine x_get jS hK hP h_X1_addToLine_X1 0 rfl rfl 0 rfl m_X1_addToLine_1 rfl dX1_addToLine_19 ?_
      refine x_getN jS hK hP h_X1_addToLine_X4 3 rfl rfl 1 rfl 4 rfl rfl dX1_addToLine_22 ?_
      refine x_cmpge jS 65 dX1_addToLine_25 (by decide) (by omega) (fun hc25 => ?_) (fun hc25 => ?_)
      · skip
        exact x_vretW jS jr jk jq dX1_addToLine_65 ln1 hP hD hS (show (∀ z : Int, 0 ≤ z → z < P → ln1 z = ln z + fa * lf (ex * 23 + z)) ∧ (∀ z : Int, P ≤ z → ln1 z = ln z) from ⟨fun w a b => h1 w a (by omega), fun w a => h2 w (by omega)⟩)
      · skip
        refine x_il jS dX1_addToLine_28 hl 0 rfl ?_
        refine x_aln jS dX1_addToLine_30 rfl hl 2 rfl ?_
        refine x_get jS hK hP h_X1_addToLine_X1 0 rfl rfl 4 rfl m_X1_addToLine_2 rfl dX1_addToLine_31 ?_
        refine x_alen jS hK hP 2 rfl dX1_addToLine_34 ?_
        refine x_cmpge jS 65 dX1_addToLine_35 (by decide) (by omega) (fun hc35 => ?_) (fun hc35 => ?_)
        · exfalso; omega
        refine x_aln jS dX1_addToLine_38 rfl hl 2 rfl ?_
        refine x_get jS hK hP h_X1_addToLine_X1 0 rfl rfl 4 rfl m_X1_addToLine_2 rfl dX1_addToLine_39 ?_
        refine x_il jS dX1_addToLine_42 hl 0 rfl ?_
        refine x_dup2 jS dX1_addToLine_44 rfl rfl ?_
        refine x_iald jS hK hP 2 rfl (by omega) dX1_addToLine_45 ?_
        refine x_iln jS dX1_addToLine_46 rfl hl 3 rfl ?_
        refine x_aln jS dX1_addToLine_47 rfl hl 2 rfl ?_
        refine x_get jS hK hP h_X1_addToLine_X1 0 rfl rfl 3 rfl m_X1_addToLine_3 rfl dX1_addToLine_48 ?_
        refine x_iln jS dX1_addToLine_51 rfl hl 1 rfl ?_
        refine x_il jS dX1_addToLine_52 hl 0 rfl ?_
        refine x_iadd jS dX1_addToLine_54 ?_
        refine x_iald jS hK hP 1 rfl (by omega) dX1_addToLine_55 ?_
        have hlz := hlf z hz.1 hc25
        refine x_imulB jS dX1_addToLine_56 (by omega) (fun hp56 => ?_)
        refine x_iadd jS dX1_addToLine_57 ?_
        refine x_iast (ws' := [(hb, .inr (1, [.ref h4, .ref h0, .ref qp, .ref qf, .ref ql, .int (iI k), .int (iI n)])), (qf, .inl (cI, 115, .inl (aI lf))), (ql, .inl (cI, 23, .inl (aI (uI ln1 z ((ln1 z) + (fa * (lf ((ex * 23) + z)))))))), (h4, .inr (4, [.ref q4, .int (iI P)]))]) jS hK hP hD hS 2 rfl (by omega) dX1_addToLine_58 rfl (fun jH jL hP hD hS => ?_)
        refine x_iinc (lv' := [(4, .int (iI (z + 1))), (3, .int (iI (ex * 23))), (0, .ref hb), (1, .int (iI fa)), (2, .int (iI ex))]) jS dX1_addToLine_59 hl 0 rfl rfl rfl (fun ls hl => ?_)
        refine x_goto jS 16 dX1_addToLine_62 (by decide) ?_
        exact ih16 _ (by omega) (z + 1) (uI ln1 z ((ln1 z) + (fa * (lf ((ex * 23) + z))))) _ _ rfl (by omega) (fun w a b => by rcases Int.lt_or_le w z with q | q; rw [uI_n (by omega)]; exact h1 w a q; rw [show w = z by omega, uI_s, h2 z (by omega)]) (fun w a => by rw [uI_n (by omega)]; exact h2 w (by omega)) hP hD hS ls (lv_sub hl [0, 1, 2, 3, 4] rfl)
  exact loop_16 _ 0 ln _ _ rfl (by omega) (fun w a b => by omega) (fun w a => rfl) hP hD hS ls (lv_sub hl [0, 1, 2, 3, 4] rfl)
theorem h_X1_answerLine_X1 : ∀ w ∈ u_ws RX1 TX1 7, w ∈ wsX1_answerLine := fun w h => List.mem_cons_of_mem _ (List.mem_append_left _ (List.mem_append_left _ (List.mem_append_right _ h)))
theorem m_X1_answerLine_1 : Cond.fieldLink RX1 18 "SealedBox$Box" "line" "[I" ∈ wsX1_answerLine := List.mem_of_getElem? (i := 1) rfl
theorem m_X1_answerLine_2 : Cond.fieldLink RX1 25 "SealedBox$Box" "terms" "I" ∈ wsX1_answerLine := List.mem_of_getElem? (i := 2) rfl
theorem m_X1_answerLine_3 : Cond.fieldLink RX1 28 "SealedBox$Box" "numbers" "LSealedBox$PrimeField;" ∈ wsX1_answerLine := List.mem_of_getElem? (i := 3) rfl
theorem h_X1_answerLine_X4 : ∀ w ∈ u_ws RX4 TX4 2, w ∈ wsX1_answerLine := fun w h => List.mem_cons_of_mem _ (List.mem_append_left _ (List.mem_append_right _ h))
theorem kf_X1_addToLine : kfV yX1_addToLine RX1 2 := by decide +kernel
abbrev rm_X1_answerLine : Room := { frames := 3, cells := 0, slots := 0, locals := 73 }
set_option maxHeartbeats 4000000 in
set_option maxRecDepth 100000 in
theorem c_X1_answerLine (jl : Launch) (D : va_G) (cI : ClassId) (hb qp qf ql h0 h4 q4 : Nat) (P sh sc k n x y : Int) (pt lf ln : Int → Int) (sz : Nat) (hP5 : 5 ≤ P ∧ P ≤ 997) (h23 : P ≤ 23) (hs : 0 ≤ sh ∧ sh ≤ 996 ∧ 1 ≤ sc ∧ sc ≤ 996) (hk : 0 ≤ k ∧ k ≤ 2) (hn : 0 ≤ n ∧ n ≤ 4) (hbx : bxOK P n pt) (hx : 0 ≤ x ∧ x ≤ 1000) (hy : 0 ≤ y ∧ y ≤ 1000) (hlf : ∀ i z : Int, 0 ≤ i → i ≤ 4 → 0 ≤ z → z < P → lf (i * 23 + z) = ltr P sh sc k z i) : Met jl yX1_answerLine wsX1_answerLine rm_X1_answerLine (xPw [.ref hb, .int (iI x), .int (iI y)] D cI [(hb, .inr (1, [.ref h4, .ref h0, .ref qp, .ref qf, .ref ql, .int (iI k), .int (iI n)])), (qp, .inl (cI, 16, .inl (aI pt))), (qf, .inl (cI, 115, .inl (aI lf))), (ql, .inl (cI, 23, .inl (aI ln))), (h0, .inr (0, [.ref h4, .int (iI sh), .int (iI sc)])), (h4, .inr (4, [.ref q4, .int (iI P)]))] sz) (va_Qv (fun (u : (Int → Int)) => ∀ z : Int, 0 ≤ z → z < P → u z = ans P sh sc k n (cC pt 0) (cC pt 1) (cC pt 2) (cC pt 3) x y z) (xB D (fun (u : (Int → Int)) => [(hb, .inr (1, [.ref h4, .ref h0, .ref qp, .ref qf, .ref ql, .int (iI k), .int (iI n)])), (qp, .inl (cI, 16, .inl (aI pt))), (qf, .inl (cI, 115, .inl (aI lf))), (ql, .inl (cI, 23, .inl (aI u))), (h0, .inr (0, [.ref h4, .int (iI sh), .int (iI sc)])), (h4, .inr (4, [.ref q4, .int (iI P)]))]) (va_A [(hb, .inr (1, [.ref h4, .ref h0, .ref qp, .ref qf, .ref ql, .int (iI k), .int (iI n)])), (qp, .inl (cI, 16, .inl (aI pt))), (qf, .inl (cI, 115, .inl (aI lf))), (ql, .inl (cI, 23, .inl (aI ln))), (h0, .inr (0, [.ref h4, .int (iI sh), .int (iI sc)])), (h4, .inr (4, [.ref q4, .int (iI P)]))] sz)) (va_A [(hb, .inr (1, [.ref h4, .ref h0, .ref qp, .ref qf, .ref ql, .int (iI k), .int (iI n)])), (qp, .inl (cI, 16, .inl (aI pt))), (qf, .inl (cI, 115, .inl (aI lf))), (ql, .inl (cI, 23, .inl (aI ln))), (h0, .inr (0, [.ref h4, .int (iI sh), .int (iI sc)])), (h4, .inr (4, [.ref q4, .int (iI P)]))] sz)) 0 0 (va_A [(hb, .inr (1, [.ref h4, .ref h0, .ref qp, .ref qf, .ref ql, .int (iI k), .int (iI n)])), (qp, .inl (cI, 16, .inl (aI pt))), (qf, .inl (cI, 115, .inl (aI lf))), (ql, .inl (cI, 23, .inl (aI ln))), (h0, .inr (0, [.ref h4, .int (iI sh), .int (iI sc)])), (h4, .inr (4, [.ref q4, .int (iI P)]))] sz) := by
  refine x_metW (own := RX1) (cc := cX1_answerLine) (maxL := 4) (ret := none) (Qc := fun jA => va_Qv (fun (u : (Int → Int)) => ∀ z : Int, 0 ≤ z → z < P → u z = ans P sh sc k n (cC pt 0) (cC pt 1) (cC pt 2) (cC pt 3) x y z) (xB D (fun (u : (Int → Int)) => [(hb, .inr (1, [.ref h4, .ref h0, .ref qp, .ref qf, .ref ql, .int (iI k), .int (iI n)])), (qp, .inl (cI, 16, .inl (aI pt))), (qf, .inl (cI, 115, .inl (aI lf))), (ql, .inl (cI, 23, .inl (aI u))), (h0, .inr (0, [.ref h4, .int (iI sh), .int (iI sc)])), (h4, .inr (4, [.ref q4, .int (iI P)]))]) jA) jA) (by decide) rfl rfl rfl ?_
  intro jp je js jm ja jb jt jc jA jQ jS jr jk jn jq hK hP hD hA hS ls hl
  have hl : lv_has ls 4 [(0, .ref hb), (1, .int (iI x)), (2, .int (iI y))] := hl
  refine x_ic jS dX1_answerLine_0 ?_
  refine x_isn (lv' := [(3, .int (iI 0)), (0, .ref hb), (1, .int (iI x)), (2, .int (iI y))]) jS dX1_answerLine_1 rfl hl rfl rfl (fun ls hl => ?_)
  have loop_2 : ∀ (mm : Nat) (i : Int) (ln1 : Int → Int) (jH : Heap) (jL : List Loc), (23 - i).toNat = mm → (0 ≤ i ∧ i ≤ 23) → (∀ z : Int, 0 ≤ z → z < i → ln1 z = 0) → va_P D vwCl [(hb, .inr (1, [.ref h4, .ref h0, .ref qp, .ref qf, .ref ql, .int (iI k), .int (iI n)])), (qp, .inl (cI, 16, .inl (aI pt))), (qf, .inl (cI, 115, .inl (aI lf))), (ql, .inl (cI, 23, .inl (aI ln1))), (h0, .inr (0, [.ref h4, .int (iI sh), .int (iI sc)])), (h4, .inr (4, [.ref q4, .int (iI P)]))] jH → va_D jA [(hb, .inr (1, [.ref h4, .ref h0, .ref qp, .ref qf, .ref ql, .int (iI k), .int (iI n)])), (qp, .inl (cI, 16, .inl (aI pt))), (qf, .inl (cI, 115, .inl (aI lf))), (ql, .inl (cI, 23, .inl (aI ln1))), (h0, .inr (0, [.ref h4, .int (iI sh), .int (iI sc)])), (h4, .inr (4, [.ref q4, .int (iI P)]))] → va_S jA js.heap jH jL → ∀ ls : Array Slot, lv_has ls 4 [(3, .int (iI i)), (0, .ref hb), (1, .int (iI x)), (2, .int (iI y))] → W jp jl je rm_X1_answerLine js jm ja jb jt jc jH jL 0 0 jQ (F0 jm 2 ls []) := by
    intro mm
    induction mm using Nat.strongRecOn with
    | ind mm ih2 =>
      intro i ln1 jH jL hmm2 hi g1 hP hD hS ls hl
      refine x_iln jS dX1_answerLine_2 rfl hl 0 rfl ?_
      refine x_aln jS dX1_answerLine_3 rfl hl 1 rfl ?_
      refine x_get jS hK hP h_X1_answerLine_X1 0 rfl rfl 4 rfl m_X1_answerLine_1 rfl dX1_answerLine_4 ?_
      refine x_alen jS hK hP 3 rfl dX1_answerLine_7 ?_
      refine x_cmpge jS 24 dX1_answerLine_8 (by decide) (by omega) (fun hc8 => ?_) (fun hc8 => ?_)
      · skip
        refine x_ic jS dX1_answerLine_24 ?_
        refine x_isn (lv' := [(3, .int (iI 0)), (0, .ref hb), (1, .int (iI x)), (2, .int (iI y))]) jS dX1_answerLine_25 rfl hl rfl rfl (fun ls hl => ?_)
        have loop_26 : ∀ (mm : Nat) (t : Int) (ln3 : Int → Int) (jH : Heap) (jL : List Loc), (n - t).toNat = mm → (0 ≤ t ∧ t ≤ n) → (∀ z : Int, 0 ≤ z → z < P → ln3 z = sm (tmg P sh sc k (cC pt 0) (cC pt 1) (cC pt 2) (cC pt 3) x y z) t) → (∀ z : Int, P ≤ z → z < 23 → ln3 z = 0) → (∀ z : Int, 0 ≤ z → z < P → 0 ≤ ln3 z ∧ ln3 z ≤ t * 1000000) → va_P D vwCl [(hb, .inr (1, [.ref h4, .ref h0, .ref qp, .ref qf, .ref ql, .int (iI k), .int (iI n)])), (qp, .inl (cI, 16, .inl (aI pt))), (qf, .inl (cI, 115, .inl (aI lf))), (ql, .inl (cI, 23, .inl (aI ln3))), (h0, .inr (0, [.ref h4, .int (iI sh), .int (iI sc)])), (h4, .inr (4, [.ref q4, .int (iI P)]))] jH → va_D jA [(hb, .inr (1, [.ref h4, .ref h0, .ref qp, .ref qf, .ref ql, .int (iI k), .int (iI n)])), (qp, .inl (cI, 16, .inl (aI pt))), (qf, .inl (cI, 115, .inl (aI lf))), (ql, .inl (cI, 23, .inl (aI ln3))), (h0, .inr (0, [.ref h4, .int (iI sh), .int (iI sc)])), (h4, .inr (4, [.ref q4, .int (iI P)]))] → va_S jA js.heap jH jL → ∀ ls : Array Slot, lv_has ls 4 [(3, .int (iI t)), (0, .ref hb), (1, .int (iI x)), (2, .int (iI y))] → W jp jl je rm_X1_answerLine js jm ja jb jt jc jH jL 0 0 jQ (F0 jm 26 ls []) := by
          intro mm
          induction mm using Nat.strongRecOn with
          | ind mm ih26 =>
            intro t ln3 jH jL hmm26 ht g3 g4 g5 hP hD hS ls hl
            refine x_iln jS dX1_answerLine_26 rfl hl 0 rfl ?_
            refine x_aln jS dX1_answerLine_27 rfl hl 1 rfl ?_
            refine x_get jS hK hP h_X1_answerLine_X1 0 rfl rfl 6 rfl m_X1_answerLine_2 rfl dX1_answerLine_28 ?_
            refine x_cmpge jS 57 dX1_answerLine_31 (by decide) (by omega) (fun hc31 => ?_) (fun hc31 => ?_)
            · skip
              refine x_ic jS dX1_answerLine_57 ?_
              refine x_isn (lv' := [(3, .int (iI 0)), (0, .ref hb), (1, .int (iI x)), (2, .int (iI y))]) jS dX1_answerLine_58 rfl hl rfl rfl (fun ls hl => ?_)
              have loop_59 : ∀ (mm : Nat) (j : Int) (ln5 : Int → Int) (jH : Heap) (jL : List Loc), (23 - j).toNat = mm → (0 ≤ j ∧ j ≤ 23) → (∀ z : Int, 0 ≤ z → z < j → z < P → ln5 z = ans P sh sc k n (cC pt 0) (cC pt 1) (cC pt 2) (cC pt 3) x y z) → (∀ z : Int, j ≤ z → ln5 z = ln3 z) → va_P D vwCl [(hb, .inr (1, [.ref h4, .ref h0, .ref qp, .ref qf, .ref ql, .int (iI k), .int (iI n)])), (qp, .inl (cI, 16, .inl (aI pt))), (qf, .inl (cI, 115, .inl (aI lf))), (ql, .inl (cI, 23, .inl (aI ln5))), (h0, .inr (0, [.ref h4, .int (iI sh), .int (iI sc)])), (h4, .inr (4, [.ref q4, .int (iI P)]))] jH → va_D jA [(hb, .inr (1, [.ref h4, .ref h0, .ref qp, .ref qf, .ref ql, .int (iI k), .int (iI n)])), (qp, .inl (cI, 16, .inl (aI pt))), (qf, .inl (cI, 115, .inl (aI lf))), (ql, .inl (cI, 23, .inl (aI ln5))), (h0, .inr (0, [.ref h4, .int (iI sh), .int (iI sc)])), (h4, .inr (4, [.ref q4, .int (iI P)]))] → va_S jA js.heap jH jL → ∀ ls : Array Slot, lv_has ls 4 [(3, .int (iI j)), (0, .ref hb), (1, .int (iI x)), (2, .int (iI y))] → W jp jl je rm_X1_answerLine js jm ja jb jt jc jH jL 0 0 jQ (F0 jm 59 ls []) := by
                intro mm
                induction mm using Nat.strongRecOn with
                | ind mm ih59 =>
                  intro j ln5 jH jL hmm59 hj g6 g7 hP hD hS ls hl
                  refine x_iln jS dX1_answerLine_59 rfl hl 0 rfl ?_
                  refine x_aln jS dX1_answerLine_60 rfl hl 1 rfl ?_
                  refine x_get jS hK hP h_X1_answerLine_X1 0 rfl rfl 4 rfl m_X1_answerLine_1 rfl dX1_answerLine_61 ?_
                  refine x_alen jS hK hP 3 rfl dX1_answerLine_64 ?_
                  refine x_cmpge jS 94 dX1_answerLine_65 (by decide) (by omega) (fun hc65 => ?_) (fun hc65 => ?_)
                  · skip
                    exact x_vretW jS jr jk jq dX1_answerLine_94 ln5 hP hD hS (show ∀ z : Int, 0 ≤ z → z < P → ln5 z = ans P sh sc k n (cC pt 0) (cC pt 1) (cC pt 2) (cC pt 3) x y z from fun z a b => g6 z a (by omega) b)
                  · skip
                    refine x_aln jS dX1_answerLine_68 rfl hl 1 rfl ?_
                    refine x_get jS hK hP h_X1_answerLine_X1 0 rfl rfl 4 rfl m_X1_answerLine_1 rfl dX1_answerLine_69 ?_
                    refine x_iln jS dX1_answerLine_72 rfl hl 0 rfl ?_
                    refine x_aln jS dX1_answerLine_73 rfl hl 1 rfl ?_
                    refine x_get jS hK hP h_X1_answerLine_X1 0 rfl rfl 4 rfl m_X1_answerLine_1 rfl dX1_answerLine_74 ?_
                    refine x_iln jS dX1_answerLine_77 rfl hl 0 rfl ?_
                    refine x_iald jS hK hP 3 rfl (by omega) dX1_answerLine_78 ?_
                    have hb78 : 0 ≤ ln5 j ∧ ln5 j ≤ 5000000 := by
                      rw [g7 j (by omega)]
                      rcases Int.lt_or_le j P with q | q
                      · have := g5 j hj.1 q; omega
                      · rw [g4 j q (by omega)]; omega
                    refine x_aln jS dX1_answerLine_79 rfl hl 1 rfl ?_
                    refine x_get jS hK hP h_X1_answerLine_X1 0 rfl rfl 0 rfl m_X1_answerLine_3 rfl dX1_answerLine_80 ?_
                    refine x_getN jS hK hP h_X1_answerLine_X4 5 rfl rfl 1 rfl 4 rfl rfl dX1_answerLine_83 ?_
                    refine x_irem jS dX1_answerLine_86 (by omega) (fun hm86 => ?_)
                    refine x_iast (ws' := [(hb, .inr (1, [.ref h4, .ref h0, .ref qp, .ref qf, .ref ql, .int (iI k), .int (iI n)])), (qp, .inl (cI, 16, .inl (aI pt))), (qf, .inl (cI, 115, .inl (aI lf))), (ql, .inl (cI, 23, .inl (aI (uI ln5 j ((ln5 j) % P))))), (h0, .inr (0, [.ref h4, .int (iI sh), .int (iI sc)])), (h4, .inr (4, [.ref q4, .int (iI P)]))]) jS hK hP hD hS 3 rfl (by omega) dX1_answerLine_87 rfl (fun jH jL hP hD hS => ?_)
                    refine x_iinc (lv' := [(3, .int (iI (j + 1))), (0, .ref hb), (1, .int (iI x)), (2, .int (iI y))]) jS dX1_answerLine_88 hl 0 rfl rfl rfl (fun ls hl => ?_)
                    refine x_goto jS 59 dX1_answerLine_91 (by decide) ?_
                    exact ih59 _ (by omega) (j + 1) (uI ln5 j ((ln5 j) % P)) _ _ rfl (by omega) (fun z a b cc => by rcases Int.lt_or_le z j with q | q; rw [uI_n (by omega)]; exact g6 z a q cc; rw [show z = j by omega, uI_s, g7 j (by omega), g3 j (by omega) (by omega), show t = n by omega]; rfl) (fun z a => by rw [uI_n (by omega)]; exact g7 z (by omega)) hP hD hS ls (lv_sub hl [0, 1, 2, 3] rfl)
              exact loop_59 _ 0 ln3 _ _ rfl (by omega) (fun z a b => by omega) (fun z a => rfl) hP hD hS ls (lv_sub hl [0, 1, 2, 3] rfl)
            · skip
              have hbt := hbx t ht.1 hc31
              have hq2 := of2_in (show 2 ≤ P by omega) sh sc k (cC pt 0) (cC pt 1) (cC pt 2) x y t
              refine x_aln jS dX1_answerLine_34 rfl hl 1 rfl ?_
              refine x_aln jS dX1_answerLine_35 rfl hl 1 rfl ?_
              refine x_iln jS dX1_answerLine_36 rfl hl 0 rfl ?_
              refine x_iln jS dX1_answerLine_37 rfl hl 2 rfl ?_
              refine x_iln jS dX1_answerLine_38 rfl hl 3 rfl ?_
              refine x_rI (x_rmV (As := [.int (iI t), .int (iI x), .int (iI y)]) (rest := [.ref hb]) jS hl.1 hK (c_X1_ofTwoLetters jl D cI hb qp qf ql h0 h4 q4 P sh sc k n pt t x y (by first | assumption | omega) (by first | assumption | omega) (by first | assumption | omega) (by first | assumption | omega) (by first | assumption | omega) (by first | assumption | omega) (by first | assumption | omega) (by first | assumption | omega)) (hP.sub [0, 1, 4, 5] rfl) 0 rfl rfl gX1_answerLine_X1_ofTwoLetters rfl rfl rfl kf_X1_ofTwoLetters rfl rfl rfl rfl rfl dX1_answerLine_39 rfl rfl) ?_
              refine x_aln jS dX1_answerLine_42 rfl hl 1 rfl ?_
              refine x_iln jS dX1_answerLine_43 rfl hl 0 rfl ?_
              refine x_ic jS dX1_answerLine_44 ?_
              refine x_rI (x_rmV (As := [.int (iI t), .int (iI 3)]) (rest := [.int (iI (of2 P sh sc k (cC pt 0) (cC pt 1) (cC pt 2) x y t)), .ref hb]) jS hl.1 hK (c_X1_part jl D cI hb qp qf ql h0 h4 k n t 3 pt (by first | assumption | omega) (by first | assumption | omega)) (hP.sub [0, 1] rfl) 0 rfl rfl gX1_answerLine_X1_part rfl rfl rfl kf_X1_part rfl rfl rfl rfl rfl dX1_answerLine_45 rfl rfl) ?_
              refine x_aV (wc := [(hb, .inr (1, [.ref h4, .ref h0, .ref qp, .ref qf, .ref ql, .int (iI k), .int (iI n)])), (qf, .inl (cI, 115, .inl (aI lf))), (ql, .inl (cI, 23, .inl (aI ln3))), (h4, .inr (4, [.ref q4, .int (iI P)]))]) (wr := [(qp, .inl (cI, 16, .inl (aI pt))), (h0, .inr (0, [.ref h4, .int (iI sh), .int (iI sc)]))]) hP hD hS hA [0, 2, 3, 5] [1, 4] rfl rfl (by decide) (by decide) (cs := 0) (ss := 0) rfl rfl (x_rnV (As := [.int (iI (of2 P sh sc k (cC pt 0) (cC pt 1) (cC pt 2) x y t)), .int (iI (pt (t * 4 + 3)))]) (rest := []) jS hl.1 hK (c_X1_addToLine jl D cI hb qp qf ql h0 h4 q4 P k n (of2 P sh sc k (cC pt 0) (cC pt 1) (cC pt 2) x y t) (pt (t * 4 + 3)) lf ln3 _ (by first | assumption | omega) (by first | assumption | omega) (by first | assumption | omega) (by first | assumption | omega) (fun z a b => by rw [hlf _ z hbt.2.2.2.1 hbt.2.2.2.2 a b]; have := ltr_in (show 2 ≤ P by omega) sh sc k z (pt (t * 4 + 3)); omega) (fun z a b => by have := g5 z a b; omega)) hP hD [0, 2, 3, 5] rfl rfl (by decide) 0 rfl rfl gX1_answerLine_X1_addToLine rfl rfl rfl kf_X1_addToLine rfl rfl rfl rfl rfl dX1_answerLine_48 rfl rfl) (fun u jH jL hw hP hD hS => ?_)
              obtain ⟨ln2_1, rfl⟩ : ∃ z, z = u := ⟨_, rfl⟩
              have hw48 : (∀ z : Int, 0 ≤ z → z < P → ln2_1 z = ln3 z + (of2 P sh sc k (cC pt 0) (cC pt 1) (cC pt 2) x y t) * lf ((pt (t * 4 + 3)) * 23 + z)) ∧ (∀ z : Int, P ≤ z → ln2_1 z = ln3 z) := hw
              clear hw
              have hP : va_P D vwCl [(qp, .inl (cI, 16, .inl (aI pt))), (h0, .inr (0, [.ref h4, .int (iI sh), .int (iI sc)])), (hb, .inr (1, [.ref h4, .ref h0, .ref qp, .ref qf, .ref ql, .int (iI k), .int (iI n)])), (qf, .inl (cI, 115, .inl (aI lf))), (ql, .inl (cI, 23, .inl (aI ln2_1))), (h4, .inr (4, [.ref q4, .int (iI P)]))] jH := hP
              have hD : va_D jA [(qp, .inl (cI, 16, .inl (aI pt))), (h0, .inr (0, [.ref h4, .int (iI sh), .int (iI sc)])), (hb, .inr (1, [.ref h4, .ref h0, .ref qp, .ref qf, .ref ql, .int (iI k), .int (iI n)])), (qf, .inl (cI, 115, .inl (aI lf))), (ql, .inl (cI, 23, .inl (aI ln2_1))), (h4, .inr (4, [.ref q4, .int (iI P)]))] := hD
              refine x_iinc (lv' := [(3, .int (iI (t + 1))), (0, .ref hb), (1, .int (iI x)), (2, .int (iI y))]) jS dX1_answerLine_51 hl 0 rfl rfl rfl (fun ls hl => ?_)
              refine x_goto jS 26 dX1_answerLine_54 (by decide) ?_
              exact ih26 _ (by omega) (t + 1) ln2_1 _ _ rfl (by omega) (fun z a b => by rw [hw48.1 z a b, g3 z a b, sm_s _ ht.1, hlf _ z hbt.2.2.2.1 hbt.2.2.2.2 a b]; rfl) (fun z a b => by rw [hw48.2 z a]; exact g4 z a b) (fun z a b => by have e1 := g5 z a b; have e2 := ltr_in (show 2 ≤ P by omega) sh sc k z (pt (t * 4 + 3)); have e3 := mulB (show 0 ≤ of2 P sh sc k (cC pt 0) (cC pt 1) (cC pt 2) x y t ∧ of2 P sh sc k (cC pt 0) (cC pt 1) (cC pt 2) x y t ≤ 1000 ∧ 0 ≤ ltr P sh sc k z (pt (t * 4 + 3)) ∧ ltr P sh sc k z (pt (t * 4 + 3)) ≤ 1000 by omega); rw [hw48.1 z a b, hlf _ z hbt.2.2.2.1 hbt.2.2.2.2 a b]; omega) (hP.sub [2, 0, 3, 4, 1, 5] rfl) (hD.sub [2, 0, 3, 4, 1, 5] (by decide) rfl) hS ls (lv_sub hl [0, 1, 2, 3] rfl)
        exact loop_26 _ 0 ln1 _ _ rfl (by omega) (fun z a b => g1 z a (by omega)) (fun z a b => g1 z (by omega) (by omega)) (fun z a b => by rw [g1 z a (by omega)]; omega) hP hD hS ls (lv_sub hl [0, 1, 2, 3] rfl)
      · skip
        refine x_aln jS dX1_answerLine_11 rfl hl 1 rfl ?_
        refine x_get jS hK hP h_X1_answerLine_X1 0 rfl rfl 4 rfl m_X1_answerLine_1 rfl dX1_answerLine_12 ?_
        refine x_iln jS dX1_answerLine_15 rfl hl 0 rfl ?_
        refine x_ic jS dX1_answerLine_16 ?_
        refine x_iast (ws' := [(hb, .inr (1, [.ref h4, .ref h0, .ref qp, .ref qf, .ref ql, .int (iI k), .int (iI n)])), (qp, .inl (cI, 16, .inl (aI pt))), (qf, .inl (cI, 115, .inl (aI lf))), (ql, .inl (cI, 23, .inl (aI (uI ln1 i 0)))), (h0, .inr (0, [.ref h4, .int (iI sh), .int (iI sc)])), (h4, .inr (4, [.ref q4, .int (iI P)]))]) jS hK hP hD hS 3 rfl (by omega) dX1_answerLine_17 rfl (fun jH jL hP hD hS => ?_)
        refine x_iinc (lv' := [(3, .int (iI (i + 1))), (0, .ref hb), (1, .int (iI x)), (2, .int (iI y))]) jS dX1_answerLine_18 hl 0 rfl rfl rfl (fun ls hl => ?_)
        refine x_goto jS 2 dX1_answerLine_21 (by decide) ?_
        exact ih2 _ (by omega) (i + 1) (uI ln1 i 0) _ _ rfl (by omega) (fun z a b => by rcases Int.lt_or_le z i with q | q; rw [uI_n (by omega)]; exact g1 z a q; rw [show z = i by omega, uI_s]) hP hD hS ls (lv_sub hl [0, 1, 2, 3] rfl)
  exact loop_2 _ 0 ln _ _ rfl (by omega) (fun z a b => by omega) hP hD hS ls (lv_sub hl [0, 1, 2, 3] rfl)
theorem h_X1_zerosInLine_X1 : ∀ w ∈ u_ws RX1 TX1 7, w ∈ wsX1_zerosInLine := fun w h => List.mem_cons_of_mem _ (List.mem_append_left _ (List.mem_append_right _ h))
theorem m_X1_zerosInLine_1 : Cond.fieldLink RX1 28 "SealedBox$Box" "numbers" "LSealedBox$PrimeField;" ∈ wsX1_zerosInLine := List.mem_of_getElem? (i := 1) rfl
theorem h_X1_zerosInLine_X4 : ∀ w ∈ u_ws RX4 TX4 2, w ∈ wsX1_zerosInLine := fun w h => List.mem_cons_of_mem _ (List.mem_append_right _ h)
theorem m_X1_zerosInLine_2 : Cond.fieldLink RX1 18 "SealedBox$Box" "line" "[I" ∈ wsX1_zerosInLine := List.mem_of_getElem? (i := 2) rfl
abbrev rm_X1_zerosInLine : Room := { frames := 0, cells := 0, slots := 0, locals := 0 }
set_option maxHeartbeats 4000000 in
set_option maxRecDepth 100000 in
theorem c_X1_zerosInLine (jl : Launch) (D : va_G) (cI : ClassId) (hb qp qf ql h0 h4 q4 : Nat) (P k n : Int) (ln : Int → Int)  (hP5 : 5 ≤ P ∧ P ≤ 997) (h23 : P ≤ 23) (hln : ∀ z : Int, 0 ≤ z → z < P → 0 ≤ ln z ∧ ln z < P) : Met jl yX1_zerosInLine wsX1_zerosInLine rm_X1_zerosInLine (xPr [.ref hb] D cI [(hb, .inr (1, [.ref h4, .ref h0, .ref qp, .ref qf, .ref ql, .int (iI k), .int (iI n)])), (ql, .inl (cI, 23, .inl (aI ln))), (h4, .inr (4, [.ref q4, .int (iI P)]))]) (vp_Si (fun r => r = (iI (sm (fun z => bI (ln z = 0)) P)))) 0 0 (fun _ => False) := by
  refine x_metR (own := RX1) (cc := cX1_zerosInLine) (maxL := 3) (ret := (some .int)) (by decide) rfl rfl rfl ?_
  intro jp je js jm ja jb jt jc jQ jS jr jk jq hK hP ls hl
  have hl : lv_has ls 3 [(0, .ref hb)] := hl
  refine x_ic jS dX1_zerosInLine_0 ?_
  refine x_isn (lv' := [(1, .int (iI 0)), (0, .ref hb)]) jS dX1_zerosInLine_1 rfl hl rfl rfl (fun ls hl => ?_)
  refine x_ic jS dX1_zerosInLine_2 ?_
  refine x_isn (lv' := [(2, .int (iI 0)), (1, .int (iI 0)), (0, .ref hb)]) jS dX1_zerosInLine_3 rfl hl rfl rfl (fun ls hl => ?_)
  have loop_4 : ∀ (mm : Nat) (r : Int) (i : Int), (P - i).toNat = mm → (0 ≤ i ∧ i ≤ P) → (r = sm (fun z => bI (ln z = 0)) i) → ∀ ls : Array Slot, lv_has ls 3 [(2, .int (iI i)), (1, .int (iI r)), (0, .ref hb)] → W jp jl je rm_X1_zerosInLine js jm ja jb jt jc js.heap [] 0 0 jQ (F0 jm 4 ls []) := by
    intro mm
    induction mm using Nat.strongRecOn with
    | ind mm ih4 =>
      intro r i hmm4 hi hr ls hl
      refine x_iln jS dX1_zerosInLine_4 rfl hl 0 rfl ?_
      refine x_aln jS dX1_zerosInLine_5 rfl hl 2 rfl ?_
      refine x_get jS hK hP h_X1_zerosInLine_X1 0 rfl rfl 0 rfl m_X1_zerosInLine_1 rfl dX1_zerosInLine_6 ?_
      refine x_getN jS hK hP h_X1_zerosInLine_X4 2 rfl rfl 1 rfl 4 rfl rfl dX1_zerosInLine_9 ?_
      refine x_cmpge jS 47 dX1_zerosInLine_12 (by decide) (by omega) (fun hc12 => ?_) (fun hc12 => ?_)
      · skip
        refine x_iln jS dX1_zerosInLine_47 rfl hl 1 rfl ?_
        exact x_iretR jS jr jk jq dX1_zerosInLine_48 (by rw [hr, show i = P by omega])
      · skip
        refine x_iln jS dX1_zerosInLine_15 rfl hl 0 rfl ?_
        refine x_aln jS dX1_zerosInLine_16 rfl hl 2 rfl ?_
        refine x_get jS hK hP h_X1_zerosInLine_X1 0 rfl rfl 4 rfl m_X1_zerosInLine_2 rfl dX1_zerosInLine_17 ?_
        refine x_alen jS hK hP 1 rfl dX1_zerosInLine_20 ?_
        refine x_cmpge jS 47 dX1_zerosInLine_21 (by decide) (by omega) (fun hc21 => ?_) (fun hc21 => ?_)
        · exfalso; omega
        refine x_iln jS dX1_zerosInLine_24 rfl hl 1 rfl ?_
        refine x_aln jS dX1_zerosInLine_25 rfl hl 2 rfl ?_
        refine x_get jS hK hP h_X1_zerosInLine_X1 0 rfl rfl 4 rfl m_X1_zerosInLine_2 rfl dX1_zerosInLine_26 ?_
        refine x_iln jS dX1_zerosInLine_29 rfl hl 0 rfl ?_
        refine x_iald jS hK hP 1 rfl (by omega) dX1_zerosInLine_30 ?_
        have hb30 := hln i hi.1 hc12
        refine x_ifne jS 38 dX1_zerosInLine_31 (by decide) (by omega) (fun hc31 => ?_) (fun hc31 => ?_)
        · skip
          refine x_ic jS dX1_zerosInLine_38 ?_
          refine x_iadd jS dX1_zerosInLine_39 ?_
          refine x_isn (lv' := [(1, .int (iI (r + 0))), (2, .int (iI i)), (0, .ref hb)]) jS dX1_zerosInLine_40 rfl hl rfl rfl (fun ls hl => ?_)
          refine x_iinc (lv' := [(2, .int (iI (i + 1))), (1, .int (iI (r + 0))), (0, .ref hb)]) jS dX1_zerosInLine_41 hl 1 rfl rfl rfl (fun ls hl => ?_)
          refine x_goto jS 4 dX1_zerosInLine_44 (by decide) ?_
          exact ih4 _ (by omega) (r + 0) (i + 1) rfl (by omega) (by rw [sm_s _ hi.1, ← hr]; simp [bI, hc31]) ls (lv_sub hl [0, 1, 2] rfl)
        · skip
          refine x_ic jS dX1_zerosInLine_34 ?_
          refine x_goto jS 39 dX1_zerosInLine_35 (by decide) ?_
          refine x_iadd jS dX1_zerosInLine_39 ?_
          refine x_isn (lv' := [(1, .int (iI (r + 1))), (2, .int (iI i)), (0, .ref hb)]) jS dX1_zerosInLine_40 rfl hl rfl rfl (fun ls hl => ?_)
          refine x_iinc (lv' := [(2, .int (iI (i + 1))), (1, .int (iI (r + 1))), (0, .ref hb)]) jS dX1_zerosInLine_41 hl 1 rfl rfl rfl (fun ls hl => ?_)
          refine x_goto jS 4 dX1_zerosInLine_44 (by decide) ?_
          exact ih4 _ (by omega) (r + 1) (i + 1) rfl (by omega) (by rw [sm_s _ hi.1, ← hr]; simp [bI, hc31]) ls (lv_sub hl [0, 1, 2] rfl)
  exact loop_4 _ 0 0 rfl (by omega) ((sm_0 _).symm) ls (lv_sub hl [0, 1, 2] rfl)
theorem h_X1_alikeInLine_X1 : ∀ w ∈ u_ws RX1 TX1 7, w ∈ wsX1_alikeInLine := fun w h => List.mem_cons_of_mem _ (List.mem_append_left _ (List.mem_append_right _ h))
theorem m_X1_alikeInLine_1 : Cond.fieldLink RX1 28 "SealedBox$Box" "numbers" "LSealedBox$PrimeField;" ∈ wsX1_alikeInLine := List.mem_of_getElem? (i := 1) rfl
theorem h_X1_alikeInLine_X4 : ∀ w ∈ u_ws RX4 TX4 2, w ∈ wsX1_alikeInLine := fun w h => List.mem_cons_of_mem _ (List.mem_append_right _ h)
theorem m_X1_alikeInLine_2 : Cond.fieldLink RX1 18 "SealedBox$Box" "line" "[I" ∈ wsX1_alikeInLine := List.mem_of_getElem? (i := 2) rfl
abbrev rm_X1_alikeInLine : Room := { frames := 0, cells := 0, slots := 0, locals := 0 }
set_option maxHeartbeats 4000000 in
set_option maxRecDepth 100000 in
theorem c_X1_alikeInLine (jl : Launch) (D : va_G) (cI : ClassId) (hb qp qf ql h0 h4 q4 hd qp2 qf2 ql2 : Nat) (P k n k2 n2 : Int) (ln ln2 : Int → Int)  (hP5 : 5 ≤ P ∧ P ≤ 997) (h23 : P ≤ 23) (hln : ∀ z : Int, 0 ≤ z → z < P → 0 ≤ ln z ∧ ln z < P) (hln2 : ∀ z : Int, 0 ≤ z → z < P → 0 ≤ ln2 z ∧ ln2 z < P) : Met jl yX1_alikeInLine wsX1_alikeInLine rm_X1_alikeInLine (xPr [.ref hb, .ref hd] D cI [(hb, .inr (1, [.ref h4, .ref h0, .ref qp, .ref qf, .ref ql, .int (iI k), .int (iI n)])), (ql, .inl (cI, 23, .inl (aI ln))), (hd, .inr (1, [.ref h4, .ref h0, .ref qp2, .ref qf2, .ref ql2, .int (iI k2), .int (iI n2)])), (ql2, .inl (cI, 23, .inl (aI ln2))), (h4, .inr (4, [.ref q4, .int (iI P)]))]) (vp_Si (fun r => r = (iI (sm (fun z => bI (ln z = ln2 z)) P)))) 0 0 (fun _ => False) := by
  refine x_metR (own := RX1) (cc := cX1_alikeInLine) (maxL := 4) (ret := (some .int)) (by decide) rfl rfl rfl ?_
  intro jp je js jm ja jb jt jc jQ jS jr jk jq hK hP ls hl
  have hl : lv_has ls 4 [(0, .ref hb), (1, .ref hd)] := hl
  refine x_ic jS dX1_alikeInLine_0 ?_
  refine x_isn (lv' := [(2, .int (iI 0)), (0, .ref hb), (1, .ref hd)]) jS dX1_alikeInLine_1 rfl hl rfl rfl (fun ls hl => ?_)
  refine x_ic jS dX1_alikeInLine_2 ?_
  refine x_isn (lv' := [(3, .int (iI 0)), (2, .int (iI 0)), (0, .ref hb), (1, .ref hd)]) jS dX1_alikeInLine_3 rfl hl rfl rfl (fun ls hl => ?_)
  have loop_4 : ∀ (mm : Nat) (r : Int) (i : Int), (P - i).toNat = mm → (0 ≤ i ∧ i ≤ P) → (r = sm (fun z => bI (ln z = ln2 z)) i) → ∀ ls : Array Slot, lv_has ls 4 [(3, .int (iI i)), (2, .int (iI r)), (0, .ref hb), (1, .ref hd)] → W jp jl je rm_X1_alikeInLine js jm ja jb jt jc js.heap [] 0 0 jQ (F0 jm 4 ls []) := by
    intro mm
    induction mm using Nat.strongRecOn with
    | ind mm ih4 =>
      intro r i hmm4 hi hr ls hl
      refine x_iln jS dX1_alikeInLine_4 rfl hl 0 rfl ?_
      refine x_aln jS dX1_alikeInLine_5 rfl hl 2 rfl ?_
      refine x_get jS hK hP h_X1_alikeInLine_X1 0 rfl rfl 0 rfl m_X1_alikeInLine_1 rfl dX1_alikeInLine_6 ?_
      refine x_getN jS hK hP h_X1_alikeInLine_X4 4 rfl rfl 1 rfl 4 rfl rfl dX1_alikeInLine_9 ?_
      refine x_cmpge jS 53 dX1_alikeInLine_12 (by decide) (by omega) (fun hc12 => ?_) (fun hc12 => ?_)
      · skip
        refine x_iln jS dX1_alikeInLine_53 rfl hl 1 rfl ?_
        exact x_iretR jS jr jk jq dX1_alikeInLine_54 (by rw [hr, show i = P by omega])
      · skip
        refine x_iln jS dX1_alikeInLine_15 rfl hl 0 rfl ?_
        refine x_aln jS dX1_alikeInLine_16 rfl hl 2 rfl ?_
        refine x_get jS hK hP h_X1_alikeInLine_X1 0 rfl rfl 4 rfl m_X1_alikeInLine_2 rfl dX1_alikeInLine_17 ?_
        refine x_alen jS hK hP 1 rfl dX1_alikeInLine_20 ?_
        refine x_cmpge jS 53 dX1_alikeInLine_21 (by decide) (by omega) (fun hc21 => ?_) (fun hc21 => ?_)
        · exfalso; omega
        refine x_iln jS dX1_alikeInLine_24 rfl hl 1 rfl ?_
        refine x_aln jS dX1_alikeInLine_25 rfl hl 2 rfl ?_
        refine x_get jS hK hP h_X1_alikeInLine_X1 0 rfl rfl 4 rfl m_X1_alikeInLine_2 rfl dX1_alikeInLine_26 ?_
        refine x_iln jS dX1_alikeInLine_29 rfl hl 0 rfl ?_
        refine x_iald jS hK hP 1 rfl (by omega) dX1_alikeInLine_30 ?_
        have hb30 := hln i hi.1 hc12
        refine x_aln jS dX1_alikeInLine_31 rfl hl 3 rfl ?_
        refine x_get jS hK hP h_X1_alikeInLine_X1 2 rfl rfl 4 rfl m_X1_alikeInLine_2 rfl dX1_alikeInLine_32 ?_
        refine x_iln jS dX1_alikeInLine_35 rfl hl 0 rfl ?_
        refine x_iald jS hK hP 3 rfl (by omega) dX1_alikeInLine_36 ?_
        have hb36 := hln2 i hi.1 hc12
        refine x_cmpne jS 44 dX1_alikeInLine_37 (by decide) (by omega) (fun hc37 => ?_) (fun hc37 => ?_)
        · skip
          refine x_ic jS dX1_alikeInLine_44 ?_
          refine x_iadd jS dX1_alikeInLine_45 ?_
          refine x_isn (lv' := [(2, .int (iI (r + 0))), (3, .int (iI i)), (0, .ref hb), (1, .ref hd)]) jS dX1_alikeInLine_46 rfl hl rfl rfl (fun ls hl => ?_)
          refine x_iinc (lv' := [(3, .int (iI (i + 1))), (2, .int (iI (r + 0))), (0, .ref hb), (1, .ref hd)]) jS dX1_alikeInLine_47 hl 1 rfl rfl rfl (fun ls hl => ?_)
          refine x_goto jS 4 dX1_alikeInLine_50 (by decide) ?_
          exact ih4 _ (by omega) (r + 0) (i + 1) rfl (by omega) (by rw [sm_s _ hi.1, ← hr]; simp [bI, hc37]) ls (lv_sub hl [0, 1, 2, 3] rfl)
        · skip
          refine x_ic jS dX1_alikeInLine_40 ?_
          refine x_goto jS 45 dX1_alikeInLine_41 (by decide) ?_
          refine x_iadd jS dX1_alikeInLine_45 ?_
          refine x_isn (lv' := [(2, .int (iI (r + 1))), (3, .int (iI i)), (0, .ref hb), (1, .ref hd)]) jS dX1_alikeInLine_46 rfl hl rfl rfl (fun ls hl => ?_)
          refine x_iinc (lv' := [(3, .int (iI (i + 1))), (2, .int (iI (r + 1))), (0, .ref hb), (1, .ref hd)]) jS dX1_alikeInLine_47 hl 1 rfl rfl rfl (fun ls hl => ?_)
          refine x_goto jS 4 dX1_alikeInLine_50 (by decide) ?_
          exact ih4 _ (by omega) (r + 1) (i + 1) rfl (by omega) (by rw [sm_s _ hi.1, ← hr]; simp [bI, hc37]) ls (lv_sub hl [0, 1, 2, 3] rfl)
  exact loop_4 _ 0 0 rfl (by omega) ((sm_0 _).symm) ls (lv_sub hl [0, 1, 2, 3] rfl)
