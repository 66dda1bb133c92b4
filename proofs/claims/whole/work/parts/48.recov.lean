/-! Recovery -/
theorem h_X5_askPowers_X5 : ∀ w ∈ u_ws RX5 TX5 8, w ∈ wsX5_askPowers := fun w h => List.mem_cons_of_mem _ (List.mem_append_left _ (List.mem_append_left _ (List.mem_append_left _ (List.mem_append_right _ h))))
theorem m_X5_askPowers_1 : Cond.fieldLink RX5 11 "SealedBox$Recovery" "answers" "[I" ∈ wsX5_askPowers := List.mem_of_getElem? (i := 1) rfl
theorem kf_X1_answer : kfV yX1_answer RX1 3 := by decide +kernel
theorem m_X5_askPowers_2 : Cond.fieldLink RX5 28 "SealedBox$Recovery" "numbers" "LSealedBox$PrimeField;" ∈ wsX5_askPowers := List.mem_of_getElem? (i := 2) rfl
abbrev rm_X5_askPowers : Room := { frames := 4, cells := 0, slots := 0, locals := 98 }
set_option maxHeartbeats 4000000 in
set_option maxRecDepth 100000 in
theorem c_X5_askPowers (jl : Launch) (D : va_G) (cI : ClassId) (o5 h6 hf qa qk qe qx : Nat) (hb qp qf ql h0 h4 q4 : Nat) (K P sh sc k n : Int) (pt an : Int → Int) (sz : Nat) (hP5 : 5 ≤ P ∧ P ≤ 997) (hs : 0 ≤ sh ∧ sh ≤ 996 ∧ 1 ≤ sc ∧ sc ≤ 996) (hk : 0 ≤ k ∧ k ≤ 2) (hn : 0 ≤ n ∧ n ≤ 4) (hbx : bxOK P n pt) : Met jl yX5_askPowers wsX5_askPowers rm_X5_askPowers (xPw [.ref o5, .ref hb] D cI [(o5, .inr (5, [.ref h4, .ref h6, .ref hf, .ref qa, .ref qk, .ref qe, .ref qx, .int (iI K)])), (qa, .inl (cI, 9, .inl (aI an))), (hb, .inr (1, [.ref h4, .ref h0, .ref qp, .ref qf, .ref ql, .int (iI k), .int (iI n)])), (qp, .inl (cI, 16, .inl (aI pt))), (h0, .inr (0, [.ref h4, .int (iI sh), .int (iI sc)])), (h4, .inr (4, [.ref q4, .int (iI P)]))] sz) (va_Qv (fun (u : (Int → Int)) => ∀ i : Int, 0 ≤ i → i ≤ 8 → u i = (gAN P sh sc k n (cC pt 0) (cC pt 1) (cC pt 2) (cC pt 3)) i) (xB D (fun (u : (Int → Int)) => [(o5, .inr (5, [.ref h4, .ref h6, .ref hf, .ref qa, .ref qk, .ref qe, .ref qx, .int (iI K)])), (qa, .inl (cI, 9, .inl (aI u))), (hb, .inr (1, [.ref h4, .ref h0, .ref qp, .ref qf, .ref ql, .int (iI k), .int (iI n)])), (qp, .inl (cI, 16, .inl (aI pt))), (h0, .inr (0, [.ref h4, .int (iI sh), .int (iI sc)])), (h4, .inr (4, [.ref q4, .int (iI P)]))]) (va_A [(o5, .inr (5, [.ref h4, .ref h6, .ref hf, .ref qa, .ref qk, .ref qe, .ref qx, .int (iI K)])), (qa, .inl (cI, 9, .inl (aI an))), (hb, .inr (1, [.ref h4, .ref h0, .ref qp, .ref qf, .ref ql, .int (iI k), .int (iI n)])), (qp, .inl (cI, 16, .inl (aI pt))), (h0, .inr (0, [.ref h4, .int (iI sh), .int (iI sc)])), (h4, .inr (4, [.ref q4, .int (iI P)]))] sz)) (va_A [(o5, .inr (5, [.ref h4, .ref h6, .ref hf, .ref qa, .ref qk, .ref qe, .ref qx, .int (iI K)])), (qa, .inl (cI, 9, .inl (aI an))), (hb, .inr (1, [.ref h4, .ref h0, .ref qp, .ref qf, .ref ql, .int (iI k), .int (iI n)])), (qp, .inl (cI, 16, .inl (aI pt))), (h0, .inr (0, [.ref h4, .int (iI sh), .int (iI sc)])), (h4, .inr (4, [.ref q4, .int (iI P)]))] sz)) 0 0 (va_A [(o5, .inr (5, [.ref h4, .ref h6, .ref hf, .ref qa, .ref qk, .ref qe, .ref qx, .int (iI K)])), (qa, .inl (cI, 9, .inl (aI an))), (hb, .inr (1, [.ref h4, .ref h0, .ref qp, .ref qf, .ref ql, .int (iI k), .int (iI n)])), (qp, .inl (cI, 16, .inl (aI pt))), (h0, .inr (0, [.ref h4, .int (iI sh), .int (iI sc)])), (h4, .inr (4, [.ref q4, .int (iI P)]))] sz) := by
  refine x_metW (own := RX5) (cc := cX5_askPowers) (maxL := 6) (ret := none) (Qc := fun jA => va_Qv (fun (u : (Int → Int)) => ∀ i : Int, 0 ≤ i → i ≤ 8 → u i = (gAN P sh sc k n (cC pt 0) (cC pt 1) (cC pt 2) (cC pt 3)) i) (xB D (fun (u : (Int → Int)) => [(o5, .inr (5, [.ref h4, .ref h6, .ref hf, .ref qa, .ref qk, .ref qe, .ref qx, .int (iI K)])), (qa, .inl (cI, 9, .inl (aI u))), (hb, .inr (1, [.ref h4, .ref h0, .ref qp, .ref qf, .ref ql, .int (iI k), .int (iI n)])), (qp, .inl (cI, 16, .inl (aI pt))), (h0, .inr (0, [.ref h4, .int (iI sh), .int (iI sc)])), (h4, .inr (4, [.ref q4, .int (iI P)]))]) jA) jA) (by decide) rfl rfl rfl ?_
  intro jp je js jm ja jb jt jc jA jQ jS jr jk jn jq hK hP hD hA hS ls hl
  have hl : lv_has ls 6 [(0, .ref o5), (1, .ref hb)] := hl
  refine x_ic jS dX5_askPowers_0 ?_
  refine x_isn (lv' := [(2, .int (iI 1)), (0, .ref o5), (1, .ref hb)]) jS dX5_askPowers_1 rfl hl rfl rfl (fun ls hl => ?_)
  refine x_ic jS dX5_askPowers_2 ?_
  refine x_isn (lv' := [(3, .int (iI 1)), (2, .int (iI 1)), (0, .ref o5), (1, .ref hb)]) jS dX5_askPowers_3 rfl hl rfl rfl (fun ls hl => ?_)
  refine x_ic jS dX5_askPowers_4 ?_
  refine x_is (lv' := [(4, .int (iI 1)), (3, .int (iI 1)), (2, .int (iI 1)), (0, .ref o5), (1, .ref hb)]) jS dX5_askPowers_5 hl rfl rfl (fun ls hl => ?_)
  refine x_ic jS dX5_askPowers_7 ?_
  refine x_is (lv' := [(5, .int (iI 0)), (4, .int (iI 1)), (3, .int (iI 1)), (2, .int (iI 1)), (0, .ref o5), (1, .ref hb)]) jS dX5_askPowers_8 hl rfl rfl (fun ls hl => ?_)
  have loop_10 : ∀ (mm : Nat) (x : Int) (y : Int) (z : Int) (i : Int) (an1 : Int → Int) (jH : Heap) (jL : List Loc), (9 - i).toNat = mm → (0 ≤ i ∧ i ≤ 9) → (x = pw P 2 i) → (y = pw P 3 i) → (z = pw P 5 i) → (∀ j : Int, 0 ≤ j → j < i → an1 j = (gAN P sh sc k n (cC pt 0) (cC pt 1) (cC pt 2) (cC pt 3)) j) → va_P D vwCl [(o5, .inr (5, [.ref h4, .ref h6, .ref hf, .ref qa, .ref qk, .ref qe, .ref qx, .int (iI K)])), (qa, .inl (cI, 9, .inl (aI an1))), (hb, .inr (1, [.ref h4, .ref h0, .ref qp, .ref qf, .ref ql, .int (iI k), .int (iI n)])), (qp, .inl (cI, 16, .inl (aI pt))), (h0, .inr (0, [.ref h4, .int (iI sh), .int (iI sc)])), (h4, .inr (4, [.ref q4, .int (iI P)]))] jH → va_D jA [(o5, .inr (5, [.ref h4, .ref h6, .ref hf, .ref qa, .ref qk, .ref qe, .ref qx, .int (iI K)])), (qa, .inl (cI, 9, .inl (aI an1))), (hb, .inr (1, [.ref h4, .ref h0, .ref qp, .ref qf, .ref ql, .int (iI k), .int (iI n)])), (qp, .inl (cI, 16, .inl (aI pt))), (h0, .inr (0, [.ref h4, .int (iI sh), .int (iI sc)])), (h4, .inr (4, [.ref q4, .int (iI P)]))] → va_S jA js.heap jH jL → ∀ ls : Array Slot, lv_has ls 6 [(5, .int (iI i)), (4, .int (iI z)), (3, .int (iI y)), (2, .int (iI x)), (0, .ref o5), (1, .ref hb)] → W jp jl je rm_X5_askPowers js jm ja jb jt jc jH jL 0 0 jQ (F0 jm 10 ls []) := by
    intro mm
    induction mm using Nat.strongRecOn with
    | ind mm ih10 =>
      intro x y z i an1 jH jL hmm10 hi hx hy hz h1 hP hD hS ls hl
      have hxb := pw_in (show 2 ≤ P by omega) 2 i
      have hyb := pw_in (show 2 ≤ P by omega) 3 i
      have hzb := pw_in (show 2 ≤ P by omega) 5 i
      rw [← hx] at hxb
      rw [← hy] at hyb
      rw [← hz] at hzb
      refine x_il jS dX5_askPowers_10 hl 0 rfl ?_
      refine x_aln jS dX5_askPowers_12 rfl hl 4 rfl ?_
      refine x_get jS hK hP h_X5_askPowers_X5 0 rfl rfl 3 rfl m_X5_askPowers_1 rfl dX5_askPowers_13 ?_
      refine x_alen jS hK hP 1 rfl dX5_askPowers_16 ?_
      refine x_cmpge jS 73 dX5_askPowers_17 (by decide) (by omega) (fun hc17 => ?_) (fun hc17 => ?_)
      · skip
        exact x_vretW jS jr jk jq dX5_askPowers_73 an1 hP hD hS (show ∀ i : Int, 0 ≤ i → i ≤ 8 → an1 i = (gAN P sh sc k n (cC pt 0) (cC pt 1) (cC pt 2) (cC pt 3)) i from fun j a b => h1 j a (by omega))
      · skip
        refine x_aln jS dX5_askPowers_20 rfl hl 4 rfl ?_
        refine x_get jS hK hP h_X5_askPowers_X5 0 rfl rfl 3 rfl m_X5_askPowers_1 rfl dX5_askPowers_21 ?_
        refine x_il jS dX5_askPowers_24 hl 0 rfl ?_
        refine x_aln jS dX5_askPowers_26 rfl hl 5 rfl ?_
        refine x_iln jS dX5_askPowers_27 rfl hl 3 rfl ?_
        refine x_iln jS dX5_askPowers_28 rfl hl 2 rfl ?_
        refine x_il jS dX5_askPowers_29 hl 1 rfl ?_
        refine x_rI (x_rmV (As := [.int (iI x), .int (iI y), .int (iI z)]) (rest := [.int (iI i), .ref qa]) jS hl.1 hK (c_X1_answer jl D cI hb qp qf ql h0 h4 q4 P sh sc k n pt x y z (by first | assumption | omega) (by first | assumption | omega) (by first | assumption | omega) (by first | assumption | omega) (by first | assumption | omega) (by first | assumption | omega) (by first | assumption | omega) (by first | assumption | omega)) (hP.sub [2, 3, 4, 5] rfl) 0 rfl rfl gX5_askPowers_X1_answer rfl rfl rfl kf_X1_answer rfl rfl rfl rfl rfl dX5_askPowers_31 rfl rfl) ?_
        refine x_iast (ws' := [(o5, .inr (5, [.ref h4, .ref h6, .ref hf, .ref qa, .ref qk, .ref qe, .ref qx, .int (iI K)])), (qa, .inl (cI, 9, .inl (aI (uI an1 i (ans P sh sc k n (cC pt 0) (cC pt 1) (cC pt 2) (cC pt 3) x y z))))), (hb, .inr (1, [.ref h4, .ref h0, .ref qp, .ref qf, .ref ql, .int (iI k), .int (iI n)])), (qp, .inl (cI, 16, .inl (aI pt))), (h0, .inr (0, [.ref h4, .int (iI sh), .int (iI sc)])), (h4, .inr (4, [.ref q4, .int (iI P)]))]) jS hK hP hD hS 1 rfl (by omega) dX5_askPowers_34 rfl (fun jH jL hP hD hS => ?_)
        refine x_aln jS dX5_askPowers_35 rfl hl 4 rfl ?_
        refine x_get jS hK hP h_X5_askPowers_X5 0 rfl rfl 0 rfl m_X5_askPowers_2 rfl dX5_askPowers_36 ?_
        refine x_iln jS dX5_askPowers_39 rfl hl 3 rfl ?_
        refine x_ic jS dX5_askPowers_40 ?_
        refine x_rI (x_rmV (As := [.int (iI x), .int (iI 2)]) (rest := []) jS hl.1 hK (c_X4_times jl D cI h4 q4 P x 2 (by first | assumption | omega) (by first | assumption | omega) (by first | assumption | omega)) (hP.sub [5] rfl) 0 rfl rfl gX5_askPowers_X4_times rfl rfl rfl kf_X4_times rfl rfl rfl rfl rfl dX5_askPowers_41 rfl rfl) ?_
        refine x_isn (lv' := [(2, .int (iI (x * 2 % P))), (5, .int (iI i)), (4, .int (iI z)), (3, .int (iI y)), (0, .ref o5), (1, .ref hb)]) jS dX5_askPowers_44 rfl hl rfl rfl (fun ls hl => ?_)
        refine x_aln jS dX5_askPowers_45 rfl hl 4 rfl ?_
        refine x_get jS hK hP h_X5_askPowers_X5 0 rfl rfl 0 rfl m_X5_askPowers_2 rfl dX5_askPowers_46 ?_
        refine x_iln jS dX5_askPowers_49 rfl hl 3 rfl ?_
        refine x_ic jS dX5_askPowers_50 ?_
        refine x_rI (x_rmV (As := [.int (iI y), .int (iI 3)]) (rest := []) jS hl.1 hK (c_X4_times jl D cI h4 q4 P y 3 (by first | assumption | omega) (by first | assumption | omega) (by first | assumption | omega)) (hP.sub [5] rfl) 0 rfl rfl gX5_askPowers_X4_times rfl rfl rfl kf_X4_times rfl rfl rfl rfl rfl dX5_askPowers_51 rfl rfl) ?_
        refine x_isn (lv' := [(3, .int (iI (y * 3 % P))), (2, .int (iI (x * 2 % P))), (5, .int (iI i)), (4, .int (iI z)), (0, .ref o5), (1, .ref hb)]) jS dX5_askPowers_54 rfl hl rfl rfl (fun ls hl => ?_)
        refine x_aln jS dX5_askPowers_55 rfl hl 4 rfl ?_
        refine x_get jS hK hP h_X5_askPowers_X5 0 rfl rfl 0 rfl m_X5_askPowers_2 rfl dX5_askPowers_56 ?_
        refine x_il jS dX5_askPowers_59 hl 3 rfl ?_
        refine x_ic jS dX5_askPowers_61 ?_
        refine x_rI (x_rmV (As := [.int (iI z), .int (iI 5)]) (rest := []) jS hl.1 hK (c_X4_times jl D cI h4 q4 P z 5 (by first | assumption | omega) (by first | assumption | omega) (by first | assumption | omega)) (hP.sub [5] rfl) 0 rfl rfl gX5_askPowers_X4_times rfl rfl rfl kf_X4_times rfl rfl rfl rfl rfl dX5_askPowers_62 rfl rfl) ?_
        refine x_is (lv' := [(4, .int (iI (z * 5 % P))), (3, .int (iI (y * 3 % P))), (2, .int (iI (x * 2 % P))), (5, .int (iI i)), (0, .ref o5), (1, .ref hb)]) jS dX5_askPowers_65 hl rfl rfl (fun ls hl => ?_)
        refine x_iinc (lv' := [(5, .int (iI (i + 1))), (4, .int (iI (z * 5 % P))), (3, .int (iI (y * 3 % P))), (2, .int (iI (x * 2 % P))), (0, .ref o5), (1, .ref hb)]) jS dX5_askPowers_67 hl 3 rfl rfl rfl (fun ls hl => ?_)
        refine x_goto jS 10 dX5_askPowers_70 (by decide) ?_
        exact ih10 _ (by omega) (x * 2 % P) (y * 3 % P) (z * 5 % P) (i + 1) (uI an1 i (ans P sh sc k n (cC pt 0) (cC pt 1) (cC pt 2) (cC pt 3) x y z)) _ _ rfl (by omega) (by rw [pw_s P 2 hi.1, ← hx]) (by rw [pw_s P 3 hi.1, ← hy]) (by rw [pw_s P 5 hi.1, ← hz]) (fun j a b => by rcases Int.lt_or_le j i with q | q; rw [uI_n (by omega)]; exact h1 j a q; rw [show j = i by omega, uI_s, hx, hy, hz]; rfl) hP hD hS ls (lv_sub hl [0, 1, 2, 3, 4, 5] rfl)
  exact loop_10 _ 1 1 1 0 an _ _ rfl (by omega) ((pw_0 _ _).symm) ((pw_0 _ _).symm) ((pw_0 _ _).symm) (fun j a b => by omega) hP hD hS ls (lv_sub hl [0, 1, 2, 3, 4, 5] rfl)
theorem h_X5_isRoot_X5 : ∀ w ∈ u_ws RX5 TX5 8, w ∈ wsX5_isRoot := fun w h => List.mem_cons_of_mem _ (List.mem_append_left _ (List.mem_append_left _ (List.mem_append_right _ h)))
theorem m_X5_isRoot_1 : Cond.fieldLink RX5 37 "SealedBox$Recovery" "register" "LSealedBox$Register;" ∈ wsX5_isRoot := List.mem_of_getElem? (i := 1) rfl
theorem h_X5_isRoot_X6 : ∀ w ∈ u_ws RX6 TX6 8, w ∈ wsX5_isRoot := fun w h => List.mem_cons_of_mem _ (List.mem_append_left _ (List.mem_append_right _ h))
theorem m_X5_isRoot_2 : Cond.fieldLink RX5 28 "SealedBox$Recovery" "numbers" "LSealedBox$PrimeField;" ∈ wsX5_isRoot := List.mem_of_getElem? (i := 2) rfl
abbrev rm_X5_isRoot : Room := { frames := 2, cells := 0, slots := 0, locals := 43 }
set_option maxHeartbeats 4000000 in
set_option maxRecDepth 100000 in
theorem c_X5_isRoot (jl : Launch) (D : va_G) (cI : ClassId) (o5 h6 hf qa qk qe qx : Nat) (qn qo qs h4 q4 : Nat) (K P L fL f m nu : Int) (now : Int → Int)  (hP5 : 5 ≤ P ∧ P ≤ 997) (hL : 0 ≤ L ∧ L ≤ 4) (hnow : ∀ j : Int, 0 ≤ j → j ≤ 16 → 0 ≤ now j ∧ now j < P) (hnu : 0 ≤ nu ∧ nu < P) : Met jl yX5_isRoot wsX5_isRoot rm_X5_isRoot (xPr [.ref o5, .int (iI nu)] D cI [(o5, .inr (5, [.ref h4, .ref h6, .ref hf, .ref qa, .ref qk, .ref qe, .ref qx, .int (iI K)])), (h6, .inr (6, [.ref h4, .ref qn, .ref qo, .ref qs, .int (iI L), .int (iI fL), .int (iI f), .int (iI m)])), (qn, .inl (cI, 17, .inl (aI now))), (h4, .inr (4, [.ref q4, .int (iI P)]))]) (vp_Si (fun r => r = (iI (bI (isR P now L nu))))) 0 0 (fun _ => False) := by
  refine x_metR (own := RX5) (cc := cX5_isRoot) (maxL := 4) (ret := (some .boolean)) (by decide) rfl rfl rfl ?_
  intro jp je js jm ja jb jt jc jQ jS jr jk jq hK hP ls hl
  have hl : lv_has ls 4 [(0, .ref o5), (1, .int (iI nu))] := hl
  refine x_ic jS dX5_isRoot_0 ?_
  refine x_isn (lv' := [(2, .int (iI 1)), (0, .ref o5), (1, .int (iI nu))]) jS dX5_isRoot_1 rfl hl rfl rfl (fun ls hl => ?_)
  refine x_ic jS dX5_isRoot_2 ?_
  refine x_isn (lv' := [(3, .int (iI 1)), (2, .int (iI 1)), (0, .ref o5), (1, .int (iI nu))]) jS dX5_isRoot_3 rfl hl rfl rfl (fun ls hl => ?_)
  have loop_4 : ∀ (mm : Nat) (v : Int) (i : Int), (L + 1 - i).toNat = mm → (1 ≤ i ∧ i ≤ L + 1) → (0 ≤ v ∧ v < P) → (v % P = rtV P now (i - 1) nu % P) → ∀ ls : Array Slot, lv_has ls 4 [(3, .int (iI i)), (2, .int (iI v)), (0, .ref o5), (1, .int (iI nu))] → W jp jl je rm_X5_isRoot js jm ja jb jt jc js.heap [] 0 0 jQ (F0 jm 4 ls []) := by
    intro mm
    induction mm using Nat.strongRecOn with
    | ind mm ih4 =>
      intro v i hmm4 hi hv hv2 ls hl
      refine x_iln jS dX5_isRoot_4 rfl hl 0 rfl ?_
      refine x_aln jS dX5_isRoot_5 rfl hl 2 rfl ?_
      refine x_get jS hK hP h_X5_isRoot_X5 0 rfl rfl 1 rfl m_X5_isRoot_1 rfl dX5_isRoot_6 ?_
      refine x_getN jS hK hP h_X5_isRoot_X6 1 rfl rfl 4 rfl 11 rfl rfl dX5_isRoot_9 ?_
      refine x_cmpgt jS 46 dX5_isRoot_12 (by decide) (by omega) (fun hc12 => ?_) (fun hc12 => ?_)
      · skip
        refine x_iln jS dX5_isRoot_46 rfl hl 1 rfl ?_
        refine x_ifne jS 54 dX5_isRoot_47 (by decide) (by omega) (fun hc47 => ?_) (fun hc47 => ?_)
        · skip
          refine x_ic jS dX5_isRoot_54 ?_
          exact x_zretR jS jr jk jq dX5_isRoot_55 rfl (congrArg iI (bI_f (by intro h0; rw [show i - 1 = L by omega, Int.emod_eq_of_lt hv.1 hv.2] at hv2; omega)).symm)
        · skip
          refine x_ic jS dX5_isRoot_50 ?_
          refine x_goto jS 55 dX5_isRoot_51 (by decide) ?_
          exact x_zretR jS jr jk jq dX5_isRoot_55 rfl (congrArg iI (bI_t (by show rtV _ _ _ _ % P = 0; rw [show L = i - 1 by omega, ← hv2, hc47]; rfl)).symm)
      · skip
        refine x_aln jS dX5_isRoot_15 rfl hl 2 rfl ?_
        refine x_get jS hK hP h_X5_isRoot_X5 0 rfl rfl 0 rfl m_X5_isRoot_2 rfl dX5_isRoot_16 ?_
        refine x_aln jS dX5_isRoot_19 rfl hl 2 rfl ?_
        refine x_get jS hK hP h_X5_isRoot_X5 0 rfl rfl 0 rfl m_X5_isRoot_2 rfl dX5_isRoot_20 ?_
        refine x_iln jS dX5_isRoot_23 rfl hl 1 rfl ?_
        refine x_iln jS dX5_isRoot_24 rfl hl 3 rfl ?_
        refine x_rI (x_rmV (As := [.int (iI v), .int (iI nu)]) (rest := [.ref h4]) jS hl.1 hK (c_X4_times jl D cI h4 q4 P v nu (by first | assumption | omega) (by first | assumption | omega) (by first | assumption | omega)) (hP.sub [3] rfl) 0 rfl rfl gX5_isRoot_X4_times rfl rfl rfl kf_X4_times rfl rfl rfl rfl rfl dX5_isRoot_25 rfl rfl) ?_
        refine x_aln jS dX5_isRoot_28 rfl hl 2 rfl ?_
        refine x_get jS hK hP h_X5_isRoot_X5 0 rfl rfl 1 rfl m_X5_isRoot_1 rfl dX5_isRoot_29 ?_
        refine x_iln jS dX5_isRoot_32 rfl hl 0 rfl ?_
        have hni := hnow i (by omega) (by omega)
        refine x_rI (x_rmV (As := [.int (iI i)]) (rest := [.int (iI (v * nu % P)), .ref h4]) jS hl.1 hK (c_X6_weight jl D cI h6 qn qo qs h4 q4 P L fL f m i now (by first | assumption | omega) (by first | assumption | omega) (by first | assumption | omega)) (hP.sub [1, 2, 3] rfl) 0 rfl rfl gX5_isRoot_X6_weight rfl rfl rfl kf_X6_weight rfl rfl rfl rfl rfl dX5_isRoot_33 rfl rfl) ?_
        have hq1 := emB (show 0 < P by omega) (v * nu)
        have hq2 := emB (show 0 < P by omega) (0 + P - now i)
        refine x_rI (x_rmV (As := [.int (iI (v * nu % P)), .int (iI ((0 + P - now i) % P))]) (rest := []) jS hl.1 hK (c_X4_less jl D cI h4 q4 P (v * nu % P) ((0 + P - now i) % P) (by first | assumption | omega) (by first | assumption | omega) (by first | assumption | omega)) (hP.sub [3] rfl) 0 rfl rfl gX5_isRoot_X4_less rfl rfl rfl kf_X4_less rfl rfl rfl rfl rfl dX5_isRoot_36 rfl rfl) ?_
        refine x_isn (lv' := [(2, .int (iI (((v * nu % P) + P - ((0 + P - now i) % P)) % P))), (3, .int (iI i)), (0, .ref o5), (1, .int (iI nu))]) jS dX5_isRoot_39 rfl hl rfl rfl (fun ls hl => ?_)
        refine x_iinc (lv' := [(3, .int (iI (i + 1))), (2, .int (iI (((v * nu % P) + P - ((0 + P - now i) % P)) % P))), (0, .ref o5), (1, .int (iI nu))]) jS dX5_isRoot_40 hl 1 rfl rfl rfl (fun ls hl => ?_)
        refine x_goto jS 4 dX5_isRoot_43 (by decide) ?_
        exact ih4 _ (by omega) (((v * nu % P) + P - ((0 + P - now i) % P)) % P) (i + 1) rfl (by omega) (emB (by omega) _) (by have e := hor_step now (show 0 ≤ i - 1 by omega) hv2; rw [show i - 1 + 1 = i by omega] at e; rw [show i + 1 - 1 = i by omega]; exact e) ls (lv_sub hl [0, 1, 2, 3] rfl)
  exact loop_4 _ 1 1 rfl (by omega) (by omega) (by rw [show (1 : Int) - 1 = 0 by omega, rtV_0]) ls (lv_sub hl [0, 1, 2, 3] rfl)
theorem h_X5_addKey_X5 : ∀ w ∈ u_ws RX5 TX5 8, w ∈ wsX5_addKey := fun w h => List.mem_cons_of_mem _ (List.mem_append_left _ (List.mem_append_right _ h))
theorem m_X5_addKey_1 : Cond.fieldLink RX5 24 "SealedBox$Recovery" "keys" "I" ∈ wsX5_addKey := List.mem_of_getElem? (i := 1) rfl
theorem m_X5_addKey_2 : Cond.fieldLink RX5 37 "SealedBox$Recovery" "register" "LSealedBox$Register;" ∈ wsX5_addKey := List.mem_of_getElem? (i := 2) rfl
theorem h_X5_addKey_X6 : ∀ w ∈ u_ws RX6 TX6 8, w ∈ wsX5_addKey := fun w h => List.mem_cons_of_mem _ (List.mem_append_right _ h)
theorem m_X5_addKey_3 : Cond.fieldLink RX5 15 "SealedBox$Recovery" "keyNumbers" "[I" ∈ wsX5_addKey := List.mem_of_getElem? (i := 3) rfl
theorem m_X5_addKey_4 : Cond.fieldLink RX5 18 "SealedBox$Recovery" "keyExponents" "[I" ∈ wsX5_addKey := List.mem_of_getElem? (i := 4) rfl
abbrev rm_X5_addKey : Room := { frames := 0, cells := 0, slots := 0, locals := 0 }
set_option maxHeartbeats 4000000 in
set_option maxRecDepth 100000 in
theorem c_X5_addKey (jl : Launch) (D : va_G) (cI : ClassId) (o5 h6 hf qa qk qe qx : Nat) (qn qo qs h4 : Nat) (K L fL f m nu a b d : Int) (kn ke : Int → Int) (sz : Nat) (hKb : 0 ≤ K ∧ K ≤ 4) (hL : 0 ≤ L ∧ L ≤ 4) : Met jl yX5_addKey wsX5_addKey rm_X5_addKey (xPw [.ref o5, .int (iI nu), .int (iI a), .int (iI b), .int (iI d)] D cI [(o5, .inr (5, [.ref h4, .ref h6, .ref hf, .ref qa, .ref qk, .ref qe, .ref qx, .int (iI K)])), (h6, .inr (6, [.ref h4, .ref qn, .ref qo, .ref qs, .int (iI L), .int (iI fL), .int (iI f), .int (iI m)])), (qk, .inl (cI, 4, .inl (aI kn))), (qe, .inl (cI, 12, .inl (aI ke)))] sz) (va_Qi (fun (r : Int32) (u : Int × (Int → Int) × (Int → Int)) => r = (iI (bI (K < L))) ∧ ((K < L → u.1 = K + 1 ∧ u.2.1 = uI kn K nu ∧ u.2.2 = uI (uI (uI ke (K * 3) a) (K * 3 + 1) b) (K * 3 + 2) d) ∧ (¬ K < L → u.1 = K ∧ u.2.1 = kn ∧ u.2.2 = ke))) (xB D (fun (u : Int × (Int → Int) × (Int → Int)) => [(o5, .inr (5, [.ref h4, .ref h6, .ref hf, .ref qa, .ref qk, .ref qe, .ref qx, .int (iI u.1)])), (h6, .inr (6, [.ref h4, .ref qn, .ref qo, .ref qs, .int (iI L), .int (iI fL), .int (iI f), .int (iI m)])), (qk, .inl (cI, 4, .inl (aI u.2.1))), (qe, .inl (cI, 12, .inl (aI u.2.2)))]) (va_A [(o5, .inr (5, [.ref h4, .ref h6, .ref hf, .ref qa, .ref qk, .ref qe, .ref qx, .int (iI K)])), (h6, .inr (6, [.ref h4, .ref qn, .ref qo, .ref qs, .int (iI L), .int (iI fL), .int (iI f), .int (iI m)])), (qk, .inl (cI, 4, .inl (aI kn))), (qe, .inl (cI, 12, .inl (aI ke)))] sz)) (va_A [(o5, .inr (5, [.ref h4, .ref h6, .ref hf, .ref qa, .ref qk, .ref qe, .ref qx, .int (iI K)])), (h6, .inr (6, [.ref h4, .ref qn, .ref qo, .ref qs, .int (iI L), .int (iI fL), .int (iI f), .int (iI m)])), (qk, .inl (cI, 4, .inl (aI kn))), (qe, .inl (cI, 12, .inl (aI ke)))] sz)) 0 0 (va_A [(o5, .inr (5, [.ref h4, .ref h6, .ref hf, .ref qa, .ref qk, .ref qe, .ref qx, .int (iI K)])), (h6, .inr (6, [.ref h4, .ref qn, .ref qo, .ref qs, .int (iI L), .int (iI fL), .int (iI f), .int (iI m)])), (qk, .inl (cI, 4, .inl (aI kn))), (qe, .inl (cI, 12, .inl (aI ke)))] sz) := by
  refine x_metW (own := RX5) (cc := cX5_addKey) (maxL := 5) (ret := (some .boolean)) (Qc := fun jA => va_Qi (fun (r : Int32) (u : Int × (Int → Int) × (Int → Int)) => r = (iI (bI (K < L))) ∧ ((K < L → u.1 = K + 1 ∧ u.2.1 = uI kn K nu ∧ u.2.2 = uI (uI (uI ke (K * 3) a) (K * 3 + 1) b) (K * 3 + 2) d) ∧ (¬ K < L → u.1 = K ∧ u.2.1 = kn ∧ u.2.2 = ke))) (xB D (fun (u : Int × (Int → Int) × (Int → Int)) => [(o5, .inr (5, [.ref h4, .ref h6, .ref hf, .ref qa, .ref qk, .ref qe, .ref qx, .int (iI u.1)])), (h6, .inr (6, [.ref h4, .ref qn, .ref qo, .ref qs, .int (iI L), .int (iI fL), .int (iI f), .int (iI m)])), (qk, .inl (cI, 4, .inl (aI u.2.1))), (qe, .inl (cI, 12, .inl (aI u.2.2)))]) jA) jA) (by decide) rfl rfl rfl ?_
  intro jp je js jm ja jb jt jc jA jQ jS jr jk jn jq hK hP hD hA hS ls hl
  have hl : lv_has ls 5 [(0, .ref o5), (1, .int (iI nu)), (2, .int (iI a)), (3, .int (iI b)), (4, .int (iI d))] := hl
  refine x_aln jS dX5_addKey_0 rfl hl 0 rfl ?_
  refine x_get jS hK hP h_X5_addKey_X5 0 rfl rfl 7 rfl m_X5_addKey_1 rfl dX5_addKey_1 ?_
  refine x_aln jS dX5_addKey_4 rfl hl 0 rfl ?_
  refine x_get jS hK hP h_X5_addKey_X5 0 rfl rfl 1 rfl m_X5_addKey_2 rfl dX5_addKey_5 ?_
  refine x_getN jS hK hP h_X5_addKey_X6 1 rfl rfl 4 rfl 11 rfl rfl dX5_addKey_8 ?_
  refine x_cmpge jS 22 dX5_addKey_11 (by decide) (by omega) (fun hc11 => ?_) (fun hc11 => ?_)
  · skip
    refine x_ic jS dX5_addKey_22 ?_
    exact x_zretW jS jr jk jq dX5_addKey_23 rfl ⟨K, kn, ke⟩ hP hD hS (show (iI 0) = (iI (bI (K < L))) ∧ ((K < L → K = K + 1 ∧ kn = uI kn K nu ∧ ke = uI (uI (uI ke (K * 3) a) (K * 3 + 1) b) (K * 3 + 2) d) ∧ (¬ K < L → K = K ∧ kn = kn ∧ ke = ke)) from ⟨congrArg iI (bI_f (by omega)).symm, fun h => by omega, fun _ => ⟨rfl, rfl, rfl⟩⟩)
  · skip
    refine x_aln jS dX5_addKey_14 rfl hl 0 rfl ?_
    refine x_get jS hK hP h_X5_addKey_X5 0 rfl rfl 7 rfl m_X5_addKey_1 rfl dX5_addKey_15 ?_
    refine x_ic jS dX5_addKey_18 ?_
    refine x_cmplt jS 24 dX5_addKey_19 (by decide) (by omega) (fun hc19 => ?_) (fun hc19 => ?_)
    rotate_left
    · exfalso; omega
    refine x_aln jS dX5_addKey_24 rfl hl 0 rfl ?_
    refine x_get jS hK hP h_X5_addKey_X5 0 rfl rfl 4 rfl m_X5_addKey_3 rfl dX5_addKey_25 ?_
    refine x_aln jS dX5_addKey_28 rfl hl 0 rfl ?_
    refine x_get jS hK hP h_X5_addKey_X5 0 rfl rfl 7 rfl m_X5_addKey_1 rfl dX5_addKey_29 ?_
    refine x_iln jS dX5_addKey_32 rfl hl 1 rfl ?_
    refine x_iast (ws' := [(o5, .inr (5, [.ref h4, .ref h6, .ref hf, .ref qa, .ref qk, .ref qe, .ref qx, .int (iI K)])), (h6, .inr (6, [.ref h4, .ref qn, .ref qo, .ref qs, .int (iI L), .int (iI fL), .int (iI f), .int (iI m)])), (qk, .inl (cI, 4, .inl (aI (uI kn K nu)))), (qe, .inl (cI, 12, .inl (aI ke)))]) jS hK hP hD hS 2 rfl (by omega) dX5_addKey_33 rfl (fun jH jL hP hD hS => ?_)
    refine x_aln jS dX5_addKey_34 rfl hl 0 rfl ?_
    refine x_get jS hK hP h_X5_addKey_X5 0 rfl rfl 5 rfl m_X5_addKey_4 rfl dX5_addKey_35 ?_
    refine x_aln jS dX5_addKey_38 rfl hl 0 rfl ?_
    refine x_get jS hK hP h_X5_addKey_X5 0 rfl rfl 7 rfl m_X5_addKey_1 rfl dX5_addKey_39 ?_
    refine x_ic jS dX5_addKey_42 ?_
    refine x_imul jS dX5_addKey_43 ?_
    refine x_iln jS dX5_addKey_44 rfl hl 2 rfl ?_
    refine x_iast (ws' := [(o5, .inr (5, [.ref h4, .ref h6, .ref hf, .ref qa, .ref qk, .ref qe, .ref qx, .int (iI K)])), (h6, .inr (6, [.ref h4, .ref qn, .ref qo, .ref qs, .int (iI L), .int (iI fL), .int (iI f), .int (iI m)])), (qk, .inl (cI, 4, .inl (aI (uI kn K nu)))), (qe, .inl (cI, 12, .inl (aI (uI ke (K * 3) a))))]) jS hK hP hD hS 3 rfl (by omega) dX5_addKey_45 rfl (fun jH jL hP hD hS => ?_)
    refine x_aln jS dX5_addKey_46 rfl hl 0 rfl ?_
    refine x_get jS hK hP h_X5_addKey_X5 0 rfl rfl 5 rfl m_X5_addKey_4 rfl dX5_addKey_47 ?_
    refine x_aln jS dX5_addKey_50 rfl hl 0 rfl ?_
    refine x_get jS hK hP h_X5_addKey_X5 0 rfl rfl 7 rfl m_X5_addKey_1 rfl dX5_addKey_51 ?_
    refine x_ic jS dX5_addKey_54 ?_
    refine x_imul jS dX5_addKey_55 ?_
    refine x_ic jS dX5_addKey_56 ?_
    refine x_iadd jS dX5_addKey_57 ?_
    refine x_iln jS dX5_addKey_58 rfl hl 3 rfl ?_
    refine x_iast (ws' := [(o5, .inr (5, [.ref h4, .ref h6, .ref hf, .ref qa, .ref qk, .ref qe, .ref qx, .int (iI K)])), (h6, .inr (6, [.ref h4, .ref qn, .ref qo, .ref qs, .int (iI L), .int (iI fL), .int (iI f), .int (iI m)])), (qk, .inl (cI, 4, .inl (aI (uI kn K nu)))), (qe, .inl (cI, 12, .inl (aI (uI (uI ke (K * 3) a) ((K * 3) + 1) b))))]) jS hK hP hD hS 3 rfl (by omega) dX5_addKey_59 rfl (fun jH jL hP hD hS => ?_)
    refine x_aln jS dX5_addKey_60 rfl hl 0 rfl ?_
    refine x_get jS hK hP h_X5_addKey_X5 0 rfl rfl 5 rfl m_X5_addKey_4 rfl dX5_addKey_61 ?_
    refine x_aln jS dX5_addKey_64 rfl hl 0 rfl ?_
    refine x_get jS hK hP h_X5_addKey_X5 0 rfl rfl 7 rfl m_X5_addKey_1 rfl dX5_addKey_65 ?_
    refine x_ic jS dX5_addKey_68 ?_
    refine x_imul jS dX5_addKey_69 ?_
    refine x_ic jS dX5_addKey_70 ?_
    refine x_iadd jS dX5_addKey_71 ?_
    refine x_il jS dX5_addKey_72 hl 4 rfl ?_
    refine x_iast (ws' := [(o5, .inr (5, [.ref h4, .ref h6, .ref hf, .ref qa, .ref qk, .ref qe, .ref qx, .int (iI K)])), (h6, .inr (6, [.ref h4, .ref qn, .ref qo, .ref qs, .int (iI L), .int (iI fL), .int (iI f), .int (iI m)])), (qk, .inl (cI, 4, .inl (aI (uI kn K nu)))), (qe, .inl (cI, 12, .inl (aI (uI (uI (uI ke (K * 3) a) ((K * 3) + 1) b) ((K * 3) + 2) d))))]) jS hK hP hD hS 3 rfl (by omega) dX5_addKey_74 rfl (fun jH jL hP hD hS => ?_)
    refine x_aln jS dX5_addKey_75 rfl hl 0 rfl ?_
    refine x_dup jS dX5_addKey_76 rfl ?_
    refine x_get jS hK hP h_X5_addKey_X5 0 rfl rfl 7 rfl m_X5_addKey_1 rfl dX5_addKey_77 ?_
    refine x_ic jS dX5_addKey_80 ?_
    refine x_iadd jS dX5_addKey_81 ?_
    refine x_put (ty0 := tyX5) (ws' := [(o5, .inr (5, [.ref h4, .ref h6, .ref hf, .ref qa, .ref qk, .ref qe, .ref qx, .int (iI (K + 1))])), (h6, .inr (6, [.ref h4, .ref qn, .ref qo, .ref qs, .int (iI L), .int (iI fL), .int (iI f), .int (iI m)])), (qk, .inl (cI, 4, .inl (aI (uI kn K nu)))), (qe, .inl (cI, 12, .inl (aI (uI (uI (uI ke (K * 3) a) ((K * 3) + 1) b) ((K * 3) + 2) d))))]) jS hK hP hD hS h_X5_addKey_X5 tyX5_ok nmX5 0 rfl rfl 7 rfl m_X5_addKey_1 rfl rfl rfl rfl dX5_addKey_82 rfl (fun jH jL hP hD hS => ?_)
    refine x_ic jS dX5_addKey_85 ?_
    exact x_zretW jS jr jk jq dX5_addKey_86 rfl ⟨(K + 1), (uI kn K nu), (uI (uI (uI ke (K * 3) a) ((K * 3) + 1) b) ((K * 3) + 2) d)⟩ hP hD hS (show (iI 1) = (iI (bI (K < L))) ∧ ((K < L → (K + 1) = K + 1 ∧ (uI kn K nu) = uI kn K nu ∧ (uI (uI (uI ke (K * 3) a) ((K * 3) + 1) b) ((K * 3) + 2) d) = uI (uI (uI ke (K * 3) a) (K * 3 + 1) b) (K * 3 + 2) d) ∧ (¬ K < L → (K + 1) = K ∧ (uI kn K nu) = kn ∧ (uI (uI (uI ke (K * 3) a) ((K * 3) + 1) b) ((K * 3) + 2) d) = ke)) from ⟨congrArg iI (bI_t hc11).symm, fun _ => ⟨rfl, rfl, rfl⟩, fun h => absurd hc11 h⟩)
theorem h_X5_findKeys_X5 : ∀ w ∈ u_ws RX5 TX5 8, w ∈ wsX5_findKeys := fun w h => List.mem_cons_of_mem _ (List.mem_append_left _ (List.mem_append_left _ (List.mem_append_right _ h)))
theorem m_X5_findKeys_1 : Cond.fieldLink RX5 24 "SealedBox$Recovery" "keys" "I" ∈ wsX5_findKeys := List.mem_of_getElem? (i := 1) rfl
theorem m_X5_findKeys_3 : Cond.fieldLink RX5 37 "SealedBox$Recovery" "register" "LSealedBox$Register;" ∈ wsX5_findKeys := List.mem_of_getElem? (i := 3) rfl
theorem h_X5_findKeys_X6 : ∀ w ∈ u_ws RX6 TX6 8, w ∈ wsX5_findKeys := fun w h => List.mem_cons_of_mem _ (List.mem_append_left _ (List.mem_append_right _ h))
theorem m_X5_findKeys_2 : Cond.fieldLink RX5 28 "SealedBox$Recovery" "numbers" "LSealedBox$PrimeField;" ∈ wsX5_findKeys := List.mem_of_getElem? (i := 2) rfl
theorem kf_X5_isRoot : kfV yX5_isRoot RX5 1 := by decide +kernel
theorem kf_X5_addKey : kfV yX5_addKey RX5 4 := by decide +kernel
abbrev rm_X5_findKeys : Room := { frames := 3, cells := 0, slots := 0, locals := 66 }
set_option maxHeartbeats 4000000 in
set_option maxRecDepth 100000 in
theorem c_X5_findKeys (jl : Launch) (D : va_G) (cI : ClassId) (o5 h6 hf qa qk qe qx : Nat) (qn qo qs h4 q4 : Nat) (K P L fL f m : Int) (now kn ke : Int → Int) (sz : Nat) (hP5 : 5 ≤ P ∧ P ≤ 997) (hL : 0 ≤ L ∧ L ≤ 4) (hnow : ∀ j : Int, 0 ≤ j → j ≤ 16 → 0 ≤ now j ∧ now j < P) : Met jl yX5_findKeys wsX5_findKeys rm_X5_findKeys (xPw [.ref o5] D cI [(o5, .inr (5, [.ref h4, .ref h6, .ref hf, .ref qa, .ref qk, .ref qe, .ref qx, .int (iI K)])), (h6, .inr (6, [.ref h4, .ref qn, .ref qo, .ref qs, .int (iI L), .int (iI fL), .int (iI f), .int (iI m)])), (qn, .inl (cI, 17, .inl (aI now))), (qk, .inl (cI, 4, .inl (aI kn))), (qe, .inl (cI, 12, .inl (aI ke))), (h4, .inr (4, [.ref q4, .int (iI P)]))] sz) (va_Qi (fun (r : Int32) (u : Int × (Int → Int) × (Int → Int)) => r = (iI (bI (cntR P now L 125 = L))) ∧ (cntR P now L 125 = L → u.1 = L ∧ keysP P now L 125 u.2.1 (keE u.2.2 0) (keE u.2.2 1) (keE u.2.2 2))) (xB D (fun (u : Int × (Int → Int) × (Int → Int)) => [(o5, .inr (5, [.ref h4, .ref h6, .ref hf, .ref qa, .ref qk, .ref qe, .ref qx, .int (iI u.1)])), (h6, .inr (6, [.ref h4, .ref qn, .ref qo, .ref qs, .int (iI L), .int (iI fL), .int (iI f), .int (iI m)])), (qn, .inl (cI, 17, .inl (aI now))), (qk, .inl (cI, 4, .inl (aI u.2.1))), (qe, .inl (cI, 12, .inl (aI u.2.2))), (h4, .inr (4, [.ref q4, .int (iI P)]))]) (va_A [(o5, .inr (5, [.ref h4, .ref h6, .ref hf, .ref qa, .ref qk, .ref qe, .ref qx, .int (iI K)])), (h6, .inr (6, [.ref h4, .ref qn, .ref qo, .ref qs, .int (iI L), .int (iI fL), .int (iI f), .int (iI m)])), (qn, .inl (cI, 17, .inl (aI now))), (qk, .inl (cI, 4, .inl (aI kn))), (qe, .inl (cI, 12, .inl (aI ke))), (h4, .inr (4, [.ref q4, .int (iI P)]))] sz)) (va_A [(o5, .inr (5, [.ref h4, .ref h6, .ref hf, .ref qa, .ref qk, .ref qe, .ref qx, .int (iI K)])), (h6, .inr (6, [.ref h4, .ref qn, .ref qo, .ref qs, .int (iI L), .int (iI fL), .int (iI f), .int (iI m)])), (qn, .inl (cI, 17, .inl (aI now))), (qk, .inl (cI, 4, .inl (aI kn))), (qe, .inl (cI, 12, .inl (aI ke))), (h4, .inr (4, [.ref q4, .int (iI P)]))] sz)) 0 0 (va_A [(o5, .inr (5, [.ref h4, .ref h6, .ref hf, .ref qa, .ref qk, .ref qe, .ref qx, .int (iI K)])), (h6, .inr (6, [.ref h4, .ref qn, .ref qo, .ref qs, .int (iI L), .int (iI fL), .int (iI f), .int (iI m)])), (qn, .inl (cI, 17, .inl (aI now))), (qk, .inl (cI, 4, .inl (aI kn))), (qe, .inl (cI, 12, .inl (aI ke))), (h4, .inr (4, [.ref q4, .int (iI P)]))] sz) := by
  refine x_metW (own := RX5) (cc := cX5_findKeys) (maxL := 7) (ret := (some .boolean)) (Qc := fun jA => va_Qi (fun (r : Int32) (u : Int × (Int → Int) × (Int → Int)) => r = (iI (bI (cntR P now L 125 = L))) ∧ (cntR P now L 125 = L → u.1 = L ∧ keysP P now L 125 u.2.1 (keE u.2.2 0) (keE u.2.2 1) (keE u.2.2 2))) (xB D (fun (u : Int × (Int → Int) × (Int → Int)) => [(o5, .inr (5, [.ref h4, .ref h6, .ref hf, .ref qa, .ref qk, .ref qe, .ref qx, .int (iI u.1)])), (h6, .inr (6, [.ref h4, .ref qn, .ref qo, .ref qs, .int (iI L), .int (iI fL), .int (iI f), .int (iI m)])), (qn, .inl (cI, 17, .inl (aI now))), (qk, .inl (cI, 4, .inl (aI u.2.1))), (qe, .inl (cI, 12, .inl (aI u.2.2))), (h4, .inr (4, [.ref q4, .int (iI P)]))]) jA) jA) (by decide) rfl rfl rfl ?_
  intro jp je js jm ja jb jt jc jA jQ jS jr jk jn jq hK hP hD hA hS ls hl
  have hl : lv_has ls 7 [(0, .ref o5)] := hl
  refine x_aln jS dX5_findKeys_0 rfl hl 0 rfl ?_
  refine x_ic jS dX5_findKeys_1 ?_
  refine x_put (ty0 := tyX5) (ws' := [(o5, .inr (5, [.ref h4, .ref h6, .ref hf, .ref qa, .ref qk, .ref qe, .ref qx, .int (iI 0)])), (h6, .inr (6, [.ref h4, .ref qn, .ref qo, .ref qs, .int (iI L), .int (iI fL), .int (iI f), .int (iI m)])), (qn, .inl (cI, 17, .inl (aI now))), (qk, .inl (cI, 4, .inl (aI kn))), (qe, .inl (cI, 12, .inl (aI ke))), (h4, .inr (4, [.ref q4, .int (iI P)]))]) jS hK hP hD hS h_X5_findKeys_X5 tyX5_ok nmX5 0 rfl rfl 7 rfl m_X5_findKeys_1 rfl rfl rfl rfl dX5_findKeys_2 rfl (fun jH jL hP hD hS => ?_)
  refine x_ic jS dX5_findKeys_5 ?_
  refine x_isn (lv' := [(1, .int (iI 1)), (0, .ref o5)]) jS dX5_findKeys_6 rfl hl rfl rfl (fun ls hl => ?_)
  refine x_ic jS dX5_findKeys_7 ?_
  refine x_isn (lv' := [(2, .int (iI 0)), (1, .int (iI 1)), (0, .ref o5)]) jS dX5_findKeys_8 rfl hl rfl rfl (fun ls hl => ?_)
  have loop_9 : ∀ (mm : Nat) (oa : Int) (a : Int) (K1 : Int) (kn1 : Int → Int) (ke1 : Int → Int) (jH : Heap) (jL : List Loc), (5 - a).toNat = mm → (0 ≤ a ∧ a ≤ 5) → (oa = nm3 P a 0 0) → (K1 = cntR P now L (a * 25) ∧ K1 ≤ L) → (keysP P now L (a * 25) kn1 (keE ke1 0) (keE ke1 1) (keE ke1 2)) → va_P D vwCl [(o5, .inr (5, [.ref h4, .ref h6, .ref hf, .ref qa, .ref qk, .ref qe, .ref qx, .int (iI K1)])), (h6, .inr (6, [.ref h4, .ref qn, .ref qo, .ref qs, .int (iI L), .int (iI fL), .int (iI f), .int (iI m)])), (qn, .inl (cI, 17, .inl (aI now))), (qk, .inl (cI, 4, .inl (aI kn1))), (qe, .inl (cI, 12, .inl (aI ke1))), (h4, .inr (4, [.ref q4, .int (iI P)]))] jH → va_D jA [(o5, .inr (5, [.ref h4, .ref h6, .ref hf, .ref qa, .ref qk, .ref qe, .ref qx, .int (iI K1)])), (h6, .inr (6, [.ref h4, .ref qn, .ref qo, .ref qs, .int (iI L), .int (iI fL), .int (iI f), .int (iI m)])), (qn, .inl (cI, 17, .inl (aI now))), (qk, .inl (cI, 4, .inl (aI kn1))), (qe, .inl (cI, 12, .inl (aI ke1))), (h4, .inr (4, [.ref q4, .int (iI P)]))] → va_S jA js.heap jH jL → ∀ ls : Array Slot, lv_has ls 7 [(2, .int (iI a)), (1, .int (iI oa)), (0, .ref o5)] → W jp jl je rm_X5_findKeys js jm ja jb jt jc jH jL 0 0 jQ (F0 jm 9 ls []) := by
    intro mm
    induction mm using Nat.strongRecOn with
    | ind mm ih9 =>
      intro oa a K1 kn1 ke1 jH jL hmm9 ha hoa hK1 hk1 hP hD hS ls hl
      have hoab := nm3_in (show 0 < P by omega) a 0 0
      refine x_iln jS dX5_findKeys_9 rfl hl 0 rfl ?_
      refine x_ic jS dX5_findKeys_10 ?_
      refine x_cmpgt jS 112 dX5_findKeys_11 (by decide) (by omega) (fun hc11 => ?_) (fun hc11 => ?_)
      · skip
        have hc0 := cntR_0 P now L (show 0 ≤ a * 25 by omega)
        refine x_aln jS dX5_findKeys_112 rfl hl 2 rfl ?_
        refine x_get jS hK hP h_X5_findKeys_X5 0 rfl rfl 7 rfl m_X5_findKeys_1 rfl dX5_findKeys_113 ?_
        refine x_aln jS dX5_findKeys_116 rfl hl 2 rfl ?_
        refine x_get jS hK hP h_X5_findKeys_X5 0 rfl rfl 1 rfl m_X5_findKeys_3 rfl dX5_findKeys_117 ?_
        refine x_getN jS hK hP h_X5_findKeys_X6 1 rfl rfl 4 rfl 11 rfl rfl dX5_findKeys_120 ?_
        refine x_cmpne jS 130 dX5_findKeys_123 (by decide) (by omega) (fun hc123 => ?_) (fun hc123 => ?_)
        · skip
          refine x_ic jS dX5_findKeys_130 ?_
          exact x_zretW jS jr jk jq dX5_findKeys_131 rfl ⟨K1, kn1, ke1⟩ hP hD hS (show (iI 0) = (iI (bI (cntR P now L 125 = L))) ∧ (cntR P now L 125 = L → K1 = L ∧ keysP P now L 125 kn1 (keE ke1 0) (keE ke1 1) (keE ke1 2)) from ⟨congrArg iI (bI_f (by rw [show (125 : Int) = a * 25 by omega]; omega)).symm, fun h => by rw [show (125 : Int) = a * 25 by omega] at h; omega⟩)
        · skip
          refine x_ic jS dX5_findKeys_126 ?_
          refine x_goto jS 131 dX5_findKeys_127 (by decide) ?_
          exact x_zretW jS jr jk jq dX5_findKeys_131 rfl ⟨K1, kn1, ke1⟩ hP hD hS (show (iI 1) = (iI (bI (cntR P now L 125 = L))) ∧ (cntR P now L 125 = L → K1 = L ∧ keysP P now L 125 kn1 (keE ke1 0) (keE ke1 1) (keE ke1 2)) from ⟨congrArg iI (bI_t (by rw [show (125 : Int) = a * 25 by omega]; omega)).symm, fun h => ⟨hc123, by rw [show (125 : Int) = a * 25 by omega]; exact hk1⟩⟩)
      · skip
        refine x_iln jS dX5_findKeys_14 rfl hl 1 rfl ?_
        refine x_isn (lv' := [(3, .int (iI oa)), (2, .int (iI a)), (1, .int (iI oa)), (0, .ref o5)]) jS dX5_findKeys_15 rfl hl rfl rfl (fun ls hl => ?_)
        refine x_ic jS dX5_findKeys_16 ?_
        refine x_is (lv' := [(4, .int (iI 0)), (3, .int (iI oa)), (2, .int (iI a)), (1, .int (iI oa)), (0, .ref o5)]) jS dX5_findKeys_17 hl rfl rfl (fun ls hl => ?_)
        have loop_19 : ∀ (mm : Nat) (ob : Int) (b : Int) (K3 : Int) (kn3 : Int → Int) (ke3 : Int → Int) (jH : Heap) (jL : List Loc), (5 - b).toNat = mm → (0 ≤ b ∧ b ≤ 5) → (ob = nm3 P a b 0) → (K3 = cntR P now L (a * 25 + b * 5) ∧ K3 ≤ L) → (keysP P now L (a * 25 + b * 5) kn3 (keE ke3 0) (keE ke3 1) (keE ke3 2)) → va_P D vwCl [(o5, .inr (5, [.ref h4, .ref h6, .ref hf, .ref qa, .ref qk, .ref qe, .ref qx, .int (iI K3)])), (h6, .inr (6, [.ref h4, .ref qn, .ref qo, .ref qs, .int (iI L), .int (iI fL), .int (iI f), .int (iI m)])), (qn, .inl (cI, 17, .inl (aI now))), (qk, .inl (cI, 4, .inl (aI kn3))), (qe, .inl (cI, 12, .inl (aI ke3))), (h4, .inr (4, [.ref q4, .int (iI P)]))] jH → va_D jA [(o5, .inr (5, [.ref h4, .ref h6, .ref hf, .ref qa, .ref qk, .ref qe, .ref qx, .int (iI K3)])), (h6, .inr (6, [.ref h4, .ref qn, .ref qo, .ref qs, .int (iI L), .int (iI fL), .int (iI f), .int (iI m)])), (qn, .inl (cI, 17, .inl (aI now))), (qk, .inl (cI, 4, .inl (aI kn3))), (qe, .inl (cI, 12, .inl (aI ke3))), (h4, .inr (4, [.ref q4, .int (iI P)]))] → va_S jA js.heap jH jL → ∀ ls : Array Slot, lv_has ls 7 [(4, .int (iI b)), (3, .int (iI ob)), (2, .int (iI a)), (1, .int (iI oa)), (0, .ref o5)] → W jp jl je rm_X5_findKeys js jm ja jb jt jc jH jL 0 0 jQ (F0 jm 19 ls []) := by
          intro mm
          induction mm using Nat.strongRecOn with
          | ind mm ih19 =>
            intro ob b K3 kn3 ke3 jH jL hmm19 hb hob hK3 hk3 hP hD hS ls hl
            have hobb := nm3_in (show 0 < P by omega) a b 0
            refine x_il jS dX5_findKeys_19 hl 0 rfl ?_
            refine x_ic jS dX5_findKeys_21 ?_
            refine x_cmpgt jS 96 dX5_findKeys_22 (by decide) (by omega) (fun hc22 => ?_) (fun hc22 => ?_)
            · skip
              refine x_aln jS dX5_findKeys_96 rfl hl 4 rfl ?_
              refine x_get jS hK hP h_X5_findKeys_X5 0 rfl rfl 0 rfl m_X5_findKeys_2 rfl dX5_findKeys_97 ?_
              refine x_iln jS dX5_findKeys_100 rfl hl 3 rfl ?_
              refine x_ic jS dX5_findKeys_101 ?_
              refine x_rI (x_rmV (As := [.int (iI oa), .int (iI 2)]) (rest := []) jS hl.1 hK (c_X4_times jl D cI h4 q4 P oa 2 (by first | assumption | omega) (by first | assumption | omega) (by first | assumption | omega)) (hP.sub [5] rfl) 0 rfl rfl gX5_findKeys_X4_times rfl rfl rfl kf_X4_times rfl rfl rfl rfl rfl dX5_findKeys_102 rfl rfl) ?_
              refine x_isn (lv' := [(1, .int (iI (oa * 2 % P))), (4, .int (iI b)), (3, .int (iI ob)), (2, .int (iI a)), (0, .ref o5)]) jS dX5_findKeys_105 rfl hl rfl rfl (fun ls hl => ?_)
              refine x_iinc (lv' := [(2, .int (iI (a + 1))), (1, .int (iI (oa * 2 % P))), (4, .int (iI b)), (3, .int (iI ob)), (0, .ref o5)]) jS dX5_findKeys_106 hl 3 rfl rfl rfl (fun ls hl => ?_)
              refine x_goto jS 9 dX5_findKeys_109 (by decide) ?_
              exact ih9 _ (by omega) (oa * 2 % P) (a + 1) K3 kn3 ke3 _ _ rfl (by omega) (by rw [hoa]; exact nm3_a P ha.1) (by rw [show (a + 1) * 25 = a * 25 + b * 5 by omega]; exact hK3) (by rw [show (a + 1) * 25 = a * 25 + b * 5 by omega]; exact hk3) hP hD hS ls (lv_sub hl [0, 1, 4] rfl)
            · skip
              refine x_iln jS dX5_findKeys_25 rfl hl 1 rfl ?_
              refine x_is (lv' := [(5, .int (iI ob)), (4, .int (iI b)), (3, .int (iI ob)), (2, .int (iI a)), (1, .int (iI oa)), (0, .ref o5)]) jS dX5_findKeys_26 hl rfl rfl (fun ls hl => ?_)
              refine x_ic jS dX5_findKeys_28 ?_
              refine x_is (lv' := [(6, .int (iI 0)), (5, .int (iI ob)), (4, .int (iI b)), (3, .int (iI ob)), (2, .int (iI a)), (1, .int (iI oa)), (0, .ref o5)]) jS dX5_findKeys_29 hl rfl rfl (fun ls hl => ?_)
              have loop_31 : ∀ (mm : Nat) (nu : Int) (d : Int) (K5 : Int) (kn5 : Int → Int) (ke5 : Int → Int) (jH : Heap) (jL : List Loc), (5 - d).toNat = mm → (0 ≤ d ∧ d ≤ 5) → (nu = nm3 P a b d) → (K5 = cntR P now L (a * 25 + b * 5 + d) ∧ K5 ≤ L) → (keysP P now L (a * 25 + b * 5 + d) kn5 (keE ke5 0) (keE ke5 1) (keE ke5 2)) → va_P D vwCl [(o5, .inr (5, [.ref h4, .ref h6, .ref hf, .ref qa, .ref qk, .ref qe, .ref qx, .int (iI K5)])), (h6, .inr (6, [.ref h4, .ref qn, .ref qo, .ref qs, .int (iI L), .int (iI fL), .int (iI f), .int (iI m)])), (qn, .inl (cI, 17, .inl (aI now))), (qk, .inl (cI, 4, .inl (aI kn5))), (qe, .inl (cI, 12, .inl (aI ke5))), (h4, .inr (4, [.ref q4, .int (iI P)]))] jH → va_D jA [(o5, .inr (5, [.ref h4, .ref h6, .ref hf, .ref qa, .ref qk, .ref qe, .ref qx, .int (iI K5)])), (h6, .inr (6, [.ref h4, .ref qn, .ref qo, .ref qs, .int (iI L), .int (iI fL), .int (iI f), .int (iI m)])), (qn, .inl (cI, 17, .inl (aI now))), (qk, .inl (cI, 4, .inl (aI kn5))), (qe, .inl (cI, 12, .inl (aI ke5))), (h4, .inr (4, [.ref q4, .int (iI P)]))] → va_S jA js.heap jH jL → ∀ ls : Array Slot, lv_has ls 7 [(6, .int (iI d)), (5, .int (iI nu)), (4, .int (iI b)), (3, .int (iI ob)), (2, .int (iI a)), (1, .int (iI oa)), (0, .ref o5)] → W jp jl je rm_X5_findKeys js jm ja jb jt jc jH jL 0 0 jQ (F0 jm 31 ls []) := by
                intro mm
                induction mm using Nat.strongRecOn with
                | ind mm ih31 =>
                  intro nu d K5 kn5 ke5 jH jL hmm31 hd hnu hK5 hk5 hP hD hS ls hl
                  have hnub := nm3_in (show 0 < P by omega) a b d
                  refine x_il jS dX5_findKeys_31 hl 0 rfl ?_
                  refine x_ic jS dX5_findKeys_33 ?_
                  refine x_cmpgt jS 80 dX5_findKeys_34 (by decide) (by omega) (fun hc34 => ?_) (fun hc34 => ?_)
                  · skip
                    refine x_aln jS dX5_findKeys_80 rfl hl 6 rfl ?_
                    refine x_get jS hK hP h_X5_findKeys_X5 0 rfl rfl 0 rfl m_X5_findKeys_2 rfl dX5_findKeys_81 ?_
                    refine x_iln jS dX5_findKeys_84 rfl hl 3 rfl ?_
                    refine x_ic jS dX5_findKeys_85 ?_
                    refine x_rI (x_rmV (As := [.int (iI ob), .int (iI 3)]) (rest := []) jS hl.1 hK (c_X4_times jl D cI h4 q4 P ob 3 (by first | assumption | omega) (by first | assumption | omega) (by first | assumption | omega)) (hP.sub [5] rfl) 0 rfl rfl gX5_findKeys_X4_times rfl rfl rfl kf_X4_times rfl rfl rfl rfl rfl dX5_findKeys_86 rfl rfl) ?_
                    refine x_isn (lv' := [(3, .int (iI (ob * 3 % P))), (6, .int (iI d)), (5, .int (iI nu)), (4, .int (iI b)), (2, .int (iI a)), (1, .int (iI oa)), (0, .ref o5)]) jS dX5_findKeys_89 rfl hl rfl rfl (fun ls hl => ?_)
                    refine x_iinc (lv' := [(4, .int (iI (b + 1))), (3, .int (iI (ob * 3 % P))), (6, .int (iI d)), (5, .int (iI nu)), (2, .int (iI a)), (1, .int (iI oa)), (0, .ref o5)]) jS dX5_findKeys_90 hl 3 rfl rfl rfl (fun ls hl => ?_)
                    refine x_goto jS 19 dX5_findKeys_93 (by decide) ?_
                    exact ih19 _ (by omega) (ob * 3 % P) (b + 1) K5 kn5 ke5 _ _ rfl (by omega) (by rw [hob]; exact nm3_b P a hb.1) (by rw [show a * 25 + (b + 1) * 5 = a * 25 + b * 5 + d by omega]; exact hK5) (by rw [show a * 25 + (b + 1) * 5 = a * 25 + b * 5 + d by omega]; exact hk5) hP hD hS ls (lv_sub hl [0, 1, 4, 5, 6] rfl)
                  · skip
                    have hnm := nmc_at P ha.1 (show 0 ≤ b ∧ b ≤ 4 by omega) (show 0 ≤ d ∧ d ≤ 4 by omega)
                    have hcs := cntR_s P now L (show 0 ≤ a * 25 + b * 5 + d by omega)
                    have hc0 := cntR_0 P now L (show 0 ≤ a * 25 + b * 5 + d by omega)
                    rw [hnm, ← hnu] at hcs
                    refine x_aln jS dX5_findKeys_37 rfl hl 6 rfl ?_
                    refine x_il jS dX5_findKeys_38 hl 1 rfl ?_
                    refine x_rI (x_rmV (As := [.int (iI nu)]) (rest := []) jS hl.1 hK (c_X5_isRoot jl D cI o5 h6 hf qa qk qe qx qn qo qs h4 q4 K5 P L fL f m nu now (by first | assumption | omega) (by first | assumption | omega) (by first | assumption | omega) (by rw [hnu]; exact hnub)) (hP.sub [0, 1, 2, 5] rfl) 0 rfl rfl gX5_findKeys_X5_isRoot rfl rfl rfl kf_X5_isRoot rfl rfl rfl rfl rfl dX5_findKeys_40 rfl rfl) ?_
                    refine x_ifeqB jS 62 dX5_findKeys_43 (by decide) (fun hc43 => ?_) (fun hc43 => ?_)
                    · skip
                      rw [bI_f hc43, Int.add_zero] at hcs
                      have hKn : K5 = cntR P now L (a * 25 + b * 5 + (d + 1)) ∧ K5 ≤ L := by rw [show a * 25 + b * 5 + (d + 1) = a * 25 + b * 5 + d + 1 by omega, hcs]; exact hK5
                      have hkn : keysP P now L (a * 25 + b * 5 + (d + 1)) kn5 (keE ke5 0) (keE ke5 1) (keE ke5 2) := by rw [show a * 25 + b * 5 + (d + 1) = a * 25 + b * 5 + d + 1 by omega]; exact keysP_skip hk5 (by rw [hnm, ← hnu]; exact hc43)
                      refine x_aln jS dX5_findKeys_62 rfl hl 6 rfl ?_
                      refine x_get jS hK hP h_X5_findKeys_X5 0 rfl rfl 0 rfl m_X5_findKeys_2 rfl dX5_findKeys_63 ?_
                      refine x_il jS dX5_findKeys_66 hl 1 rfl ?_
                      refine x_ic jS dX5_findKeys_68 ?_
                      refine x_rI (x_rmV (As := [.int (iI nu), .int (iI 5)]) (rest := []) jS hl.1 hK (c_X4_times jl D cI h4 q4 P nu 5 (by first | assumption | omega) (by first | assumption | omega) (by first | assumption | omega)) (hP.sub [5] rfl) 0 rfl rfl gX5_findKeys_X4_times rfl rfl rfl kf_X4_times rfl rfl rfl rfl rfl dX5_findKeys_69 rfl rfl) ?_
                      refine x_is (lv' := [(5, .int (iI (nu * 5 % P))), (6, .int (iI d)), (4, .int (iI b)), (3, .int (iI ob)), (2, .int (iI a)), (1, .int (iI oa)), (0, .ref o5)]) jS dX5_findKeys_72 hl rfl rfl (fun ls hl => ?_)
                      refine x_iinc (lv' := [(6, .int (iI (d + 1))), (5, .int (iI (nu * 5 % P))), (4, .int (iI b)), (3, .int (iI ob)), (2, .int (iI a)), (1, .int (iI oa)), (0, .ref o5)]) jS dX5_findKeys_74 hl 1 rfl rfl rfl (fun ls hl => ?_)
                      refine x_goto jS 31 dX5_findKeys_77 (by decide) ?_
                      have hcs := cntR_s P now L (show 0 ≤ a * 25 + b * 5 + d by omega)
                      exact ih31 _ (by omega) (nu * 5 % P) (d + 1) K5 kn5 ke5 _ _ rfl (by omega) (by rw [hnu]; exact nm3_c P a b hd.1) (hKn) (hkn) hP hD hS ls (lv_sub hl [0, 1, 2, 3, 4, 5, 6] rfl)
                    · skip
                      rw [bI_t hc43] at hcs
                      refine x_aln jS dX5_findKeys_46 rfl hl 6 rfl ?_
                      refine x_il jS dX5_findKeys_47 hl 1 rfl ?_
                      refine x_iln jS dX5_findKeys_49 rfl hl 4 rfl ?_
                      refine x_il jS dX5_findKeys_50 hl 2 rfl ?_
                      refine x_il jS dX5_findKeys_52 hl 0 rfl ?_
                      refine x_aI (wc := [(o5, .inr (5, [.ref h4, .ref h6, .ref hf, .ref qa, .ref qk, .ref qe, .ref qx, .int (iI K5)])), (h6, .inr (6, [.ref h4, .ref qn, .ref qo, .ref qs, .int (iI L), .int (iI fL), .int (iI f), .int (iI m)])), (qk, .inl (cI, 4, .inl (aI kn5))), (qe, .inl (cI, 12, .inl (aI ke5)))]) (wr := [(qn, .inl (cI, 17, .inl (aI now))), (h4, .inr (4, [.ref q4, .int (iI P)]))]) hP hD hS hA [0, 1, 3, 4] [2, 5] rfl rfl (by decide) (by decide) (cs := 0) (ss := 0) rfl rfl (x_rnV (As := [.int (iI nu), .int (iI a), .int (iI b), .int (iI d)]) (rest := []) jS hl.1 hK (c_X5_addKey jl D cI o5 h6 hf qa qk qe qx qn qo qs h4 K5 L fL f m nu a b d kn5 ke5 _ (by first | assumption | omega) (by first | assumption | omega)) hP hD [0, 1, 3, 4] rfl rfl (by decide) 0 rfl rfl gX5_findKeys_X5_addKey rfl rfl rfl kf_X5_addKey rfl rfl rfl rfl rfl dX5_findKeys_54 rfl rfl) (fun jv u jH jL hw hP hD hS => ?_)
                      obtain ⟨K6, kn6, ke6⟩ := u
                      obtain ⟨hv, hw⟩ := hw
                      have hw54 : (K5 < L → K6 = K5 + 1 ∧ kn6 = uI kn5 K5 nu ∧ ke6 = uI (uI (uI ke5 (K5 * 3) a) (K5 * 3 + 1) b) (K5 * 3 + 2) d) ∧ (¬ K5 < L → K6 = K5 ∧ kn6 = kn5 ∧ ke6 = ke5) := hw
                      subst hv
                      have hP : va_P D vwCl [(qn, .inl (cI, 17, .inl (aI now))), (h4, .inr (4, [.ref q4, .int (iI P)])), (o5, .inr (5, [.ref h4, .ref h6, .ref hf, .ref qa, .ref qk, .ref qe, .ref qx, .int (iI K6)])), (h6, .inr (6, [.ref h4, .ref qn, .ref qo, .ref qs, .int (iI L), .int (iI fL), .int (iI f), .int (iI m)])), (qk, .inl (cI, 4, .inl (aI kn6))), (qe, .inl (cI, 12, .inl (aI ke6)))] jH := hP
                      have hD : va_D jA [(qn, .inl (cI, 17, .inl (aI now))), (h4, .inr (4, [.ref q4, .int (iI P)])), (o5, .inr (5, [.ref h4, .ref h6, .ref hf, .ref qa, .ref qk, .ref qe, .ref qx, .int (iI K6)])), (h6, .inr (6, [.ref h4, .ref qn, .ref qo, .ref qs, .int (iI L), .int (iI fL), .int (iI f), .int (iI m)])), (qk, .inl (cI, 4, .inl (aI kn6))), (qe, .inl (cI, 12, .inl (aI ke6)))] := hD
                      refine x_ifneB jS 62 dX5_findKeys_57 (by decide) (fun hc57 => ?_) (fun hc57 => ?_)
                      · skip
                        obtain ⟨e1, e2, e3⟩ := hw54.1 hc57
                        have hKn : K6 = cntR P now L (a * 25 + b * 5 + (d + 1)) ∧ K6 ≤ L := by rw [show a * 25 + b * 5 + (d + 1) = a * 25 + b * 5 + d + 1 by omega, hcs, e1]; omega
                        have hkn : keysP P now L (a * 25 + b * 5 + (d + 1)) kn6 (keE ke6 0) (keE ke6 1) (keE ke6 2) := by
                          rw [show a * 25 + b * 5 + (d + 1) = a * 25 + b * 5 + d + 1 by omega, e2, e3]
                          refine keysP_add (K := K5) hk5 (by omega) hK5.1 (fun j hj => ?_) ?_
                          · unfold keE; rw [uI_n hj, uI_n (by omega), uI_n (by omega), uI_n (by omega), uI_n (by omega), uI_n (by omega), uI_n (by omega), uI_n (by omega), uI_n (by omega), uI_n (by omega)]; exact ⟨rfl, rfl, rfl, rfl⟩
                          · unfold keE; rw [uI_s, uI_n (by omega), uI_n (by omega), show K5 * 3 + 0 = K5 * 3 by omega, uI_s, uI_n (by omega), uI_s, uI_s, hnm, hnu]; exact ⟨rfl, by omega, by omega, by omega⟩
                        refine x_aln jS dX5_findKeys_62 rfl hl 6 rfl ?_
                        refine x_get jS hK hP h_X5_findKeys_X5 2 rfl rfl 0 rfl m_X5_findKeys_2 rfl dX5_findKeys_63 ?_
                        refine x_il jS dX5_findKeys_66 hl 1 rfl ?_
                        refine x_ic jS dX5_findKeys_68 ?_
                        refine x_rI (x_rmV (As := [.int (iI nu), .int (iI 5)]) (rest := []) jS hl.1 hK (c_X4_times jl D cI h4 q4 P nu 5 (by first | assumption | omega) (by first | assumption | omega) (by first | assumption | omega)) (hP.sub [1] rfl) 0 rfl rfl gX5_findKeys_X4_times rfl rfl rfl kf_X4_times rfl rfl rfl rfl rfl dX5_findKeys_69 rfl rfl) ?_
                        refine x_is (lv' := [(5, .int (iI (nu * 5 % P))), (6, .int (iI d)), (4, .int (iI b)), (3, .int (iI ob)), (2, .int (iI a)), (1, .int (iI oa)), (0, .ref o5)]) jS dX5_findKeys_72 hl rfl rfl (fun ls hl => ?_)
                        refine x_iinc (lv' := [(6, .int (iI (d + 1))), (5, .int (iI (nu * 5 % P))), (4, .int (iI b)), (3, .int (iI ob)), (2, .int (iI a)), (1, .int (iI oa)), (0, .ref o5)]) jS dX5_findKeys_74 hl 1 rfl rfl rfl (fun ls hl => ?_)
                        refine x_goto jS 31 dX5_findKeys_77 (by decide) ?_
                        have hcs := cntR_s P now L (show 0 ≤ a * 25 + b * 5 + d by omega)
                        exact ih31 _ (by omega) (nu * 5 % P) (d + 1) K6 kn6 ke6 _ _ rfl (by omega) (by rw [hnu]; exact nm3_c P a b hd.1) (hKn) (hkn) (hP.sub [2, 3, 0, 4, 5, 1] rfl) (hD.sub [2, 3, 0, 4, 5, 1] (by decide) rfl) hS ls (lv_sub hl [0, 1, 2, 3, 4, 5, 6] rfl)
                      · skip
                        refine x_ic jS dX5_findKeys_60 ?_
                        exact x_zretW jS jr jk jq dX5_findKeys_61 rfl ⟨K6, kn6, ke6⟩ (hP.sub [2, 3, 0, 4, 5, 1] rfl) (hD.sub [2, 3, 0, 4, 5, 1] (by decide) rfl) hS (show (iI 0) = (iI (bI (cntR P now L 125 = L))) ∧ (cntR P now L 125 = L → K6 = L ∧ keysP P now L 125 kn6 (keE ke6 0) (keE ke6 1) (keE ke6 2)) from ⟨congrArg iI (bI_f (by have q1 := cntR_le P now L (show 0 ≤ a * 25 + b * 5 + d + 1 by omega) (show a * 25 + b * 5 + d + 1 ≤ 125 by omega); omega)).symm, fun h => by have q1 := cntR_le P now L (show 0 ≤ a * 25 + b * 5 + d + 1 by omega) (show a * 25 + b * 5 + d + 1 ≤ 125 by omega); omega⟩)
              exact loop_31 _ ob 0 K3 kn3 ke3 _ _ rfl (by omega) (hob) (by rw [show a * 25 + b * 5 + 0 = a * 25 + b * 5 by omega]; exact hK3) (by rw [show a * 25 + b * 5 + 0 = a * 25 + b * 5 by omega]; exact hk3) hP hD hS ls (lv_sub hl [0, 1, 2, 3, 4, 5, 6] rfl)
        exact loop_19 _ oa 0 K1 kn1 ke1 _ _ rfl (by omega) (hoa) (by rw [show a * 25 + 0 * 5 = a * 25 by omega]; exact hK1) (by rw [show a * 25 + 0 * 5 = a * 25 by omega]; exact hk1) hP hD hS ls (lv_sub hl [0, 1, 2, 3, 4] rfl)
  exact loop_9 _ 1 0 0 kn ke _ _ rfl (by omega) (by show (1 : Int) = 1 % P; exact (Int.emod_eq_of_lt (by omega) (by omega)).symm) (⟨rfl, by omega⟩) (fun j x y => by omega) hP hD hS ls (lv_sub hl [0, 1, 2] rfl)
theorem h_X5_keysDiffer_X5 : ∀ w ∈ u_ws RX5 TX5 8, w ∈ wsX5_keysDiffer := fun w h => List.mem_cons_of_mem _ (List.mem_append_right _ h)
theorem m_X5_keysDiffer_1 : Cond.fieldLink RX5 24 "SealedBox$Recovery" "keys" "I" ∈ wsX5_keysDiffer := List.mem_of_getElem? (i := 1) rfl
theorem m_X5_keysDiffer_2 : Cond.fieldLink RX5 15 "SealedBox$Recovery" "keyNumbers" "[I" ∈ wsX5_keysDiffer := List.mem_of_getElem? (i := 2) rfl
abbrev rm_X5_keysDiffer : Room := { frames := 0, cells := 0, slots := 0, locals := 0 }
set_option maxHeartbeats 4000000 in
set_option maxRecDepth 100000 in
theorem c_X5_keysDiffer (jl : Launch) (D : va_G) (cI : ClassId) (o5 h6 hf qa qk qe qx : Nat) (h4 : Nat) (K : Int) (kn : Int → Int)  (hKb : 0 ≤ K ∧ K ≤ 4) (hkn : ∀ j : Int, 0 ≤ j → j < K → 0 ≤ kn j ∧ kn j < 1000) : Met jl yX5_keysDiffer wsX5_keysDiffer rm_X5_keysDiffer (xPr [.ref o5] D cI [(o5, .inr (5, [.ref h4, .ref h6, .ref hf, .ref qa, .ref qk, .ref qe, .ref qx, .int (iI K)])), (qk, .inl (cI, 4, .inl (aI kn)))]) (vp_Si (fun r => r = (iI (bI (difB kn K = true))))) 0 0 (fun _ => False) := by
  refine x_metR (own := RX5) (cc := cX5_keysDiffer) (maxL := 3) (ret := (some .boolean)) (by decide) rfl rfl rfl ?_
  intro jp je js jm ja jb jt jc jQ jS jr jk jq hK hP ls hl
  have hl : lv_has ls 3 [(0, .ref o5)] := hl
  refine x_ic jS dX5_keysDiffer_0 ?_
  refine x_isn (lv' := [(1, .int (iI 0)), (0, .ref o5)]) jS dX5_keysDiffer_1 rfl hl rfl rfl (fun ls hl => ?_)
  have loop_2 : ∀ (mm : Nat) (i : Int), (K - i).toNat = mm → (0 ≤ i ∧ i ≤ K) → (∀ a b : Int, 0 ≤ b → b < a → a < i → kn a ≠ kn b) → ∀ ls : Array Slot, lv_has ls 3 [(1, .int (iI i)), (0, .ref o5)] → W jp jl je rm_X5_keysDiffer js jm ja jb jt jc js.heap [] 0 0 jQ (F0 jm 2 ls []) := by
    intro mm
    induction mm using Nat.strongRecOn with
    | ind mm ih2 =>
      intro i hmm2 hi h1 ls hl
      refine x_iln jS dX5_keysDiffer_2 rfl hl 0 rfl ?_
      refine x_aln jS dX5_keysDiffer_3 rfl hl 1 rfl ?_
      refine x_get jS hK hP h_X5_keysDiffer_X5 0 rfl rfl 7 rfl m_X5_keysDiffer_1 rfl dX5_keysDiffer_4 ?_
      refine x_cmpge jS 46 dX5_keysDiffer_7 (by decide) (by omega) (fun hc7 => ?_) (fun hc7 => ?_)
      · skip
        refine x_ic jS dX5_keysDiffer_46 ?_
        exact x_zretR jS jr jk jq dX5_keysDiffer_47 rfl (congrArg iI (bI_t ((difB_iff hKb.2).mpr (fun a b x y z => h1 a b x y (by omega)))).symm)
      · skip
        refine x_ic jS dX5_keysDiffer_10 ?_
        refine x_isn (lv' := [(2, .int (iI 0)), (1, .int (iI i)), (0, .ref o5)]) jS dX5_keysDiffer_11 rfl hl rfl rfl (fun ls hl => ?_)
        have loop_12 : ∀ (mm : Nat) (j : Int), (i - j).toNat = mm → (0 ≤ j ∧ j ≤ i) → (∀ b : Int, 0 ≤ b → b < j → kn i ≠ kn b) → ∀ ls : Array Slot, lv_has ls 3 [(2, .int (iI j)), (1, .int (iI i)), (0, .ref o5)] → W jp jl je rm_X5_keysDiffer js jm ja jb jt jc js.heap [] 0 0 jQ (F0 jm 12 ls []) := by
          intro mm
          induction mm using Nat.strongRecOn with
          | ind mm ih12 =>
            intro j hmm12 hj h2 ls hl
            refine x_iln jS dX5_keysDiffer_12 rfl hl 0 rfl ?_
            refine x_iln jS dX5_keysDiffer_13 rfl hl 1 rfl ?_
            refine x_cmpge jS 40 dX5_keysDiffer_14 (by decide) (by omega) (fun hc14 => ?_) (fun hc14 => ?_)
            · skip
              refine x_iinc (lv' := [(1, .int (iI (i + 1))), (2, .int (iI j)), (0, .ref o5)]) jS dX5_keysDiffer_40 hl 1 rfl rfl rfl (fun ls hl => ?_)
              refine x_goto jS 2 dX5_keysDiffer_43 (by decide) ?_
              exact ih2 _ (by omega) (i + 1) rfl (by omega) (fun a b x y z => by rcases Int.lt_or_le a i with q | q; exact h1 a b x y q; rw [show a = i by omega]; exact h2 b x (by omega)) ls (lv_sub hl [0, 2] rfl)
            · skip
              refine x_aln jS dX5_keysDiffer_17 rfl hl 2 rfl ?_
              refine x_get jS hK hP h_X5_keysDiffer_X5 0 rfl rfl 4 rfl m_X5_keysDiffer_2 rfl dX5_keysDiffer_18 ?_
              refine x_iln jS dX5_keysDiffer_21 rfl hl 1 rfl ?_
              refine x_iald jS hK hP 1 rfl (by omega) dX5_keysDiffer_22 ?_
              have hb22 := hkn i (by omega) (by omega)
              refine x_aln jS dX5_keysDiffer_23 rfl hl 2 rfl ?_
              refine x_get jS hK hP h_X5_keysDiffer_X5 0 rfl rfl 4 rfl m_X5_keysDiffer_2 rfl dX5_keysDiffer_24 ?_
              refine x_iln jS dX5_keysDiffer_27 rfl hl 0 rfl ?_
              refine x_iald jS hK hP 1 rfl (by omega) dX5_keysDiffer_28 ?_
              have hb28 := hkn j (by omega) (by omega)
              refine x_cmpne jS 34 dX5_keysDiffer_29 (by decide) (by omega) (fun hc29 => ?_) (fun hc29 => ?_)
              · skip
                refine x_iinc (lv' := [(2, .int (iI (j + 1))), (1, .int (iI i)), (0, .ref o5)]) jS dX5_keysDiffer_34 hl 0 rfl rfl rfl (fun ls hl => ?_)
                refine x_goto jS 12 dX5_keysDiffer_37 (by decide) ?_
                exact ih12 _ (by omega) (j + 1) rfl (by omega) (fun b x y => by rcases Int.lt_or_le b j with q | q; exact h2 b x q; rw [show b = j by omega]; exact hc29) ls (lv_sub hl [0, 1, 2] rfl)
              · skip
                refine x_ic jS dX5_keysDiffer_32 ?_
                exact x_zretR jS jr jk jq dX5_keysDiffer_33 rfl (congrArg iI (bI_f (fun h => (difB_iff hKb.2).mp h i j hj.1 (by omega) (by omega) hc29)).symm)
        exact loop_12 _ 0 rfl (by omega) (fun b x y => by omega) ls (lv_sub hl [0, 1, 2] rfl)
  exact loop_2 _ 0 rfl (by omega) (fun a b x y z => by omega) ls (lv_sub hl [0, 1] rfl)
theorem h_X5_multiplyBy_X5 : ∀ w ∈ u_ws RX5 TX5 8, w ∈ wsX5_multiplyBy := fun w h => List.mem_cons_of_mem _ (List.mem_append_left _ (List.mem_append_right _ h))
theorem m_X5_multiplyBy_1 : Cond.fieldLink RX5 21 "SealedBox$Recovery" "others" "[I" ∈ wsX5_multiplyBy := List.mem_of_getElem? (i := 1) rfl
theorem m_X5_multiplyBy_2 : Cond.fieldLink RX5 28 "SealedBox$Recovery" "numbers" "LSealedBox$PrimeField;" ∈ wsX5_multiplyBy := List.mem_of_getElem? (i := 2) rfl
abbrev rm_X5_multiplyBy : Room := { frames := 1, cells := 0, slots := 0, locals := 22 }
set_option maxHeartbeats 4000000 in
set_option maxRecDepth 100000 in
theorem c_X5_multiplyBy (jl : Launch) (D : va_G) (cI : ClassId) (o5 h6 hf qa qk qe qx : Nat) (h4 q4 : Nat) (K P w : Int) (o : Int → Int) (sz : Nat) (hP5 : 5 ≤ P ∧ P ≤ 997) (hw : 0 ≤ w ∧ w < P) (ho : ∀ i : Int, 0 ≤ i → i ≤ 4 → 0 ≤ o i ∧ o i < P) : Met jl yX5_multiplyBy wsX5_multiplyBy rm_X5_multiplyBy (xPw [.ref o5, .int (iI w)] D cI [(o5, .inr (5, [.ref h4, .ref h6, .ref hf, .ref qa, .ref qk, .ref qe, .ref qx, .int (iI K)])), (qx, .inl (cI, 5, .inl (aI o))), (h4, .inr (4, [.ref q4, .int (iI P)]))] sz) (va_Qv (fun (u : (Int → Int)) => ∀ i : Int, 0 ≤ i → i ≤ 4 → u i = ((if i = 0 then 0 else o (i - 1)) + P - o i * w % P) % P) (xB D (fun (u : (Int → Int)) => [(o5, .inr (5, [.ref h4, .ref h6, .ref hf, .ref qa, .ref qk, .ref qe, .ref qx, .int (iI K)])), (qx, .inl (cI, 5, .inl (aI u))), (h4, .inr (4, [.ref q4, .int (iI P)]))]) (va_A [(o5, .inr (5, [.ref h4, .ref h6, .ref hf, .ref qa, .ref qk, .ref qe, .ref qx, .int (iI K)])), (qx, .inl (cI, 5, .inl (aI o))), (h4, .inr (4, [.ref q4, .int (iI P)]))] sz)) (va_A [(o5, .inr (5, [.ref h4, .ref h6, .ref hf, .ref qa, .ref qk, .ref qe, .ref qx, .int (iI K)])), (qx, .inl (cI, 5, .inl (aI o))), (h4, .inr (4, [.ref q4, .int (iI P)]))] sz)) 0 0 (va_A [(o5, .inr (5, [.ref h4, .ref h6, .ref hf, .ref qa, .ref qk, .ref qe, .ref qx, .int (iI K)])), (qx, .inl (cI, 5, .inl (aI o))), (h4, .inr (4, [.ref q4, .int (iI P)]))] sz) := by
  refine x_metW (own := RX5) (cc := cX5_multiplyBy) (maxL := 4) (ret := none) (Qc := fun jA => va_Qv (fun (u : (Int → Int)) => ∀ i : Int, 0 ≤ i → i ≤ 4 → u i = ((if i = 0 then 0 else o (i - 1)) + P - o i * w % P) % P) (xB D (fun (u : (Int → Int)) => [(o5, .inr (5, [.ref h4, .ref h6, .ref hf, .ref qa, .ref qk, .ref qe, .ref qx, .int (iI K)])), (qx, .inl (cI, 5, .inl (aI u))), (h4, .inr (4, [.ref q4, .int (iI P)]))]) jA) jA) (by decide) rfl rfl rfl ?_
  intro jp je js jm ja jb jt jc jA jQ jS jr jk jn jq hK hP hD hA hS ls hl
  have hl : lv_has ls 4 [(0, .ref o5), (1, .int (iI w))] := hl
  refine x_aln jS dX5_multiplyBy_0 rfl hl 0 rfl ?_
  refine x_get jS hK hP h_X5_multiplyBy_X5 0 rfl rfl 6 rfl m_X5_multiplyBy_1 rfl dX5_multiplyBy_1 ?_
  refine x_alen jS hK hP 1 rfl dX5_multiplyBy_4 ?_
  refine x_ic jS dX5_multiplyBy_5 ?_
  refine x_isub jS dX5_multiplyBy_6 ?_
  refine x_isn (lv' := [(2, .int (iI (((5 : Nat) : Int) - 1))), (0, .ref o5), (1, .int (iI w))]) jS dX5_multiplyBy_7 rfl hl rfl rfl (fun ls hl => ?_)
  have loop_8 : ∀ (mm : Nat) (i : Int) (o1 : Int → Int) (jH : Heap) (jL : List Loc), (i + 1).toNat = mm → (-1 ≤ i ∧ i ≤ 4) → (∀ j : Int, i < j → j ≤ 4 → o1 j = ((if j = 0 then 0 else o (j - 1)) + P - o j * w % P) % P) → (∀ j : Int, j ≤ i → o1 j = o j) → va_P D vwCl [(o5, .inr (5, [.ref h4, .ref h6, .ref hf, .ref qa, .ref qk, .ref qe, .ref qx, .int (iI K)])), (qx, .inl (cI, 5, .inl (aI o1))), (h4, .inr (4, [.ref q4, .int (iI P)]))] jH → va_D jA [(o5, .inr (5, [.ref h4, .ref h6, .ref hf, .ref qa, .ref qk, .ref qe, .ref qx, .int (iI K)])), (qx, .inl (cI, 5, .inl (aI o1))), (h4, .inr (4, [.ref q4, .int (iI P)]))] → va_S jA js.heap jH jL → ∀ ls : Array Slot, lv_has ls 4 [(2, .int (iI i)), (0, .ref o5), (1, .int (iI w))] → W jp jl je rm_X5_multiplyBy js jm ja jb jt jc jH jL 0 0 jQ (F0 jm 8 ls []) := by
    intro mm
    induction mm using Nat.strongRecOn with
    | ind mm ih8 =>
      intro i o1 jH jL hmm8 hi h1 h2 hP hD hS ls hl
      refine x_iln jS dX5_multiplyBy_8 rfl hl 0 rfl ?_
      refine x_iflt jS 63 dX5_multiplyBy_9 (by decide) (by omega) (fun hc9 => ?_) (fun hc9 => ?_)
      · skip
        exact x_vretW jS jr jk jq dX5_multiplyBy_63 o1 hP hD hS (show ∀ i : Int, 0 ≤ i → i ≤ 4 → o1 i = ((if i = 0 then 0 else o (i - 1)) + P - o i * w % P) % P from fun j x y => h1 j (by omega) y)
      · skip
        refine x_iln jS dX5_multiplyBy_12 rfl hl 0 rfl ?_
        refine x_ifle jS 27 dX5_multiplyBy_13 (by decide) (by omega) (fun hc13 => ?_) (fun hc13 => ?_)
        · skip
          refine x_ic jS dX5_multiplyBy_27 ?_
          refine x_isn (lv' := [(3, .int (iI 0)), (2, .int (iI i)), (0, .ref o5), (1, .int (iI w))]) jS dX5_multiplyBy_28 rfl hl rfl rfl (fun ls hl => ?_)
          refine x_aln jS dX5_multiplyBy_29 rfl hl 2 rfl ?_
          refine x_get jS hK hP h_X5_multiplyBy_X5 0 rfl rfl 6 rfl m_X5_multiplyBy_1 rfl dX5_multiplyBy_30 ?_
          refine x_iln jS dX5_multiplyBy_33 rfl hl 1 rfl ?_
          refine x_aln jS dX5_multiplyBy_34 rfl hl 2 rfl ?_
          refine x_get jS hK hP h_X5_multiplyBy_X5 0 rfl rfl 0 rfl m_X5_multiplyBy_2 rfl dX5_multiplyBy_35 ?_
          refine x_iln jS dX5_multiplyBy_38 rfl hl 0 rfl ?_
          refine x_aln jS dX5_multiplyBy_39 rfl hl 2 rfl ?_
          refine x_get jS hK hP h_X5_multiplyBy_X5 0 rfl rfl 0 rfl m_X5_multiplyBy_2 rfl dX5_multiplyBy_40 ?_
          refine x_aln jS dX5_multiplyBy_43 rfl hl 2 rfl ?_
          refine x_get jS hK hP h_X5_multiplyBy_X5 0 rfl rfl 6 rfl m_X5_multiplyBy_1 rfl dX5_multiplyBy_44 ?_
          refine x_iln jS dX5_multiplyBy_47 rfl hl 1 rfl ?_
          refine x_iald jS hK hP 1 rfl (by omega) dX5_multiplyBy_48 ?_
          have hb48 : 0 ≤ o1 i ∧ o1 i < P := by rw [h2 i (by omega)]; exact ho _ (by omega) (by omega)
          refine x_iln jS dX5_multiplyBy_49 rfl hl 3 rfl ?_
          refine x_rI (x_rmV (As := [.int (iI (o1 i)), .int (iI w)]) (rest := [.int (iI 0), .ref h4, .int (iI i), .ref qx]) jS hl.1 hK (c_X4_times jl D cI h4 q4 P (o1 i) w (by first | assumption | omega) (by first | assumption | omega) (by first | assumption | omega)) (hP.sub [2] rfl) 0 rfl rfl gX5_multiplyBy_X4_times rfl rfl rfl kf_X4_times rfl rfl rfl rfl rfl dX5_multiplyBy_50 rfl rfl) ?_
          have hq1 := emB (show 0 < P by omega) (o1 i * w)
          refine x_rI (x_rmV (As := [.int (iI 0), .int (iI ((o1 i) * w % P))]) (rest := [.int (iI i), .ref qx]) jS hl.1 hK (c_X4_less jl D cI h4 q4 P 0 ((o1 i) * w % P) (by first | assumption | omega) (by first | assumption | omega) (by first | assumption | omega)) (hP.sub [2] rfl) 0 rfl rfl gX5_multiplyBy_X4_less rfl rfl rfl kf_X4_less rfl rfl rfl rfl rfl dX5_multiplyBy_53 rfl rfl) ?_
          refine x_iast (ws' := [(o5, .inr (5, [.ref h4, .ref h6, .ref hf, .ref qa, .ref qk, .ref qe, .ref qx, .int (iI K)])), (qx, .inl (cI, 5, .inl (aI (uI o1 i ((0 + P - ((o1 i) * w % P)) % P))))), (h4, .inr (4, [.ref q4, .int (iI P)]))]) jS hK hP hD hS 1 rfl (by omega) dX5_multiplyBy_56 rfl (fun jH jL hP hD hS => ?_)
          refine x_iinc (lv' := [(2, .int (iI (i + (-1)))), (3, .int (iI 0)), (0, .ref o5), (1, .int (iI w))]) jS dX5_multiplyBy_57 hl 1 rfl rfl rfl (fun ls hl => ?_)
          refine x_goto jS 8 dX5_multiplyBy_60 (by decide) ?_
          exact ih8 _ (by omega) (i + (-1)) (uI o1 i ((0 + P - ((o1 i) * w % P)) % P)) _ _ rfl (by omega) (fun j x y => by rcases Int.lt_or_le i j with q | q; rw [uI_n (by omega)]; exact h1 j q y; rw [show j = i by omega, uI_s, h2 i (by omega)]; first | (rw [if_neg (by omega), h2 (i - 1) (by omega)]) | (rw [if_pos (by omega)])) (fun j x => by rw [uI_n (by omega)]; exact h2 j (by omega)) hP hD hS ls (lv_sub hl [0, 2, 3] rfl)
        · skip
          refine x_aln jS dX5_multiplyBy_16 rfl hl 1 rfl ?_
          refine x_get jS hK hP h_X5_multiplyBy_X5 0 rfl rfl 6 rfl m_X5_multiplyBy_1 rfl dX5_multiplyBy_17 ?_
          refine x_iln jS dX5_multiplyBy_20 rfl hl 0 rfl ?_
          refine x_ic jS dX5_multiplyBy_21 ?_
          refine x_isub jS dX5_multiplyBy_22 ?_
          refine x_iald jS hK hP 1 rfl (by omega) dX5_multiplyBy_23 ?_
          have hb23 : 0 ≤ o1 (i - 1) ∧ o1 (i - 1) < P := by rw [h2 (i - 1) (by omega)]; exact ho _ (by omega) (by omega)
          refine x_goto jS 28 dX5_multiplyBy_24 (by decide) ?_
          refine x_isn (lv' := [(3, .int (iI (o1 (i - 1)))), (2, .int (iI i)), (0, .ref o5), (1, .int (iI w))]) jS dX5_multiplyBy_28 rfl hl rfl rfl (fun ls hl => ?_)
          refine x_aln jS dX5_multiplyBy_29 rfl hl 2 rfl ?_
          refine x_get jS hK hP h_X5_multiplyBy_X5 0 rfl rfl 6 rfl m_X5_multiplyBy_1 rfl dX5_multiplyBy_30 ?_
          refine x_iln jS dX5_multiplyBy_33 rfl hl 1 rfl ?_
          refine x_aln jS dX5_multiplyBy_34 rfl hl 2 rfl ?_
          refine x_get jS hK hP h_X5_multiplyBy_X5 0 rfl rfl 0 rfl m_X5_multiplyBy_2 rfl dX5_multiplyBy_35 ?_
          refine x_iln jS dX5_multiplyBy_38 rfl hl 0 rfl ?_
          refine x_aln jS dX5_multiplyBy_39 rfl hl 2 rfl ?_
          refine x_get jS hK hP h_X5_multiplyBy_X5 0 rfl rfl 0 rfl m_X5_multiplyBy_2 rfl dX5_multiplyBy_40 ?_
          refine x_aln jS dX5_multiplyBy_43 rfl hl 2 rfl ?_
          refine x_get jS hK hP h_X5_multiplyBy_X5 0 rfl rfl 6 rfl m_X5_multiplyBy_1 rfl dX5_multiplyBy_44 ?_
          refine x_iln jS dX5_multiplyBy_47 rfl hl 1 rfl ?_
          refine x_iald jS hK hP 1 rfl (by omega) dX5_multiplyBy_48 ?_
          have hb48 : 0 ≤ o1 i ∧ o1 i < P := by rw [h2 i (by omega)]; exact ho _ (by omega) (by omega)
          refine x_iln jS dX5_multiplyBy_49 rfl hl 3 rfl ?_
          refine x_rI (x_rmV (As := [.int (iI (o1 i)), .int (iI w)]) (rest := [.int (iI (o1 (i - 1))), .ref h4, .int (iI i), .ref qx]) jS hl.1 hK (c_X4_times jl D cI h4 q4 P (o1 i) w (by first | assumption | omega) (by first | assumption | omega) (by first | assumption | omega)) (hP.sub [2] rfl) 0 rfl rfl gX5_multiplyBy_X4_times rfl rfl rfl kf_X4_times rfl rfl rfl rfl rfl dX5_multiplyBy_50 rfl rfl) ?_
          have hq1 := emB (show 0 < P by omega) (o1 i * w)
          refine x_rI (x_rmV (As := [.int (iI (o1 (i - 1))), .int (iI ((o1 i) * w % P))]) (rest := [.int (iI i), .ref qx]) jS hl.1 hK (c_X4_less jl D cI h4 q4 P (o1 (i - 1)) ((o1 i) * w % P) (by first | assumption | omega) (by first | assumption | omega) (by first | assumption | omega)) (hP.sub [2] rfl) 0 rfl rfl gX5_multiplyBy_X4_less rfl rfl rfl kf_X4_less rfl rfl rfl rfl rfl dX5_multiplyBy_53 rfl rfl) ?_
          refine x_iast (ws' := [(o5, .inr (5, [.ref h4, .ref h6, .ref hf, .ref qa, .ref qk, .ref qe, .ref qx, .int (iI K)])), (qx, .inl (cI, 5, .inl (aI (uI o1 i (((o1 (i - 1)) + P - ((o1 i) * w % P)) % P))))), (h4, .inr (4, [.ref q4, .int (iI P)]))]) jS hK hP hD hS 1 rfl (by omega) dX5_multiplyBy_56 rfl (fun jH jL hP hD hS => ?_)
          refine x_iinc (lv' := [(2, .int (iI (i + (-1)))), (3, .int (iI (o1 (i - 1)))), (0, .ref o5), (1, .int (iI w))]) jS dX5_multiplyBy_57 hl 1 rfl rfl rfl (fun ls hl => ?_)
          refine x_goto jS 8 dX5_multiplyBy_60 (by decide) ?_
          exact ih8 _ (by omega) (i + (-1)) (uI o1 i (((o1 (i - 1)) + P - ((o1 i) * w % P)) % P)) _ _ rfl (by omega) (fun j x y => by rcases Int.lt_or_le i j with q | q; rw [uI_n (by omega)]; exact h1 j q y; rw [show j = i by omega, uI_s, h2 i (by omega)]; first | (rw [if_neg (by omega), h2 (i - 1) (by omega)]) | (rw [if_pos (by omega)])) (fun j x => by rw [uI_n (by omega)]; exact h2 j (by omega)) hP hD hS ls (lv_sub hl [0, 2, 3] rfl)
  exact loop_8 _ (((5 : Nat) : Int) - 1) o _ _ rfl (by omega) (fun j x y => by omega) (fun j x => rfl) hP hD hS ls (lv_sub hl [0, 1, 2] rfl)
theorem h_X5_multiplyOthers_X5 : ∀ w ∈ u_ws RX5 TX5 8, w ∈ wsX5_multiplyOthers := fun w h => List.mem_cons_of_mem _ (List.mem_append_left _ (List.mem_append_right _ h))
theorem m_X5_multiplyOthers_1 : Cond.fieldLink RX5 21 "SealedBox$Recovery" "others" "[I" ∈ wsX5_multiplyOthers := List.mem_of_getElem? (i := 1) rfl
theorem m_X5_multiplyOthers_2 : Cond.fieldLink RX5 24 "SealedBox$Recovery" "keys" "I" ∈ wsX5_multiplyOthers := List.mem_of_getElem? (i := 2) rfl
theorem m_X5_multiplyOthers_3 : Cond.fieldLink RX5 15 "SealedBox$Recovery" "keyNumbers" "[I" ∈ wsX5_multiplyOthers := List.mem_of_getElem? (i := 3) rfl
theorem kf_X5_multiplyBy : kfV yX5_multiplyBy RX5 1 := by decide +kernel
abbrev rm_X5_multiplyOthers : Room := { frames := 2, cells := 0, slots := 0, locals := 45 }
set_option maxHeartbeats 4000000 in
set_option maxRecDepth 100000 in
theorem c_X5_multiplyOthers (jl : Launch) (D : va_G) (cI : ClassId) (o5 h6 hf qa qk qe qx : Nat) (h4 q4 : Nat) (K P key : Int) (kn o : Int → Int) (sz : Nat) (hP5 : 5 ≤ P ∧ P ≤ 997) (hKb : 0 ≤ key ∧ key < K ∧ K ≤ 4) (hkn : ∀ j : Int, 0 ≤ j → j < K → 0 ≤ kn j ∧ kn j < P) : Met jl yX5_multiplyOthers wsX5_multiplyOthers rm_X5_multiplyOthers (xPw [.ref o5, .int (iI key)] D cI [(o5, .inr (5, [.ref h4, .ref h6, .ref hf, .ref qa, .ref qk, .ref qe, .ref qx, .int (iI K)])), (qk, .inl (cI, 4, .inl (aI kn))), (qx, .inl (cI, 5, .inl (aI o))), (h4, .inr (4, [.ref q4, .int (iI P)]))] sz) (va_Qv (fun (u : (Int → Int)) => (∀ r : Int, pl5 u 5 r % P = prd kn key r K % P) ∧ (∀ i : Int, 0 ≤ i → i ≤ 4 → 0 ≤ u i ∧ u i < P) ∧ (∀ i : Int, K ≤ i → i ≤ 4 → u i = 0)) (xB D (fun (u : (Int → Int)) => [(o5, .inr (5, [.ref h4, .ref h6, .ref hf, .ref qa, .ref qk, .ref qe, .ref qx, .int (iI K)])), (qk, .inl (cI, 4, .inl (aI kn))), (qx, .inl (cI, 5, .inl (aI u))), (h4, .inr (4, [.ref q4, .int (iI P)]))]) (va_A [(o5, .inr (5, [.ref h4, .ref h6, .ref hf, .ref qa, .ref qk, .ref qe, .ref qx, .int (iI K)])), (qk, .inl (cI, 4, .inl (aI kn))), (qx, .inl (cI, 5, .inl (aI o))), (h4, .inr (4, [.ref q4, .int (iI P)]))] sz)) (va_A [(o5, .inr (5, [.ref h4, .ref h6, .ref hf, .ref qa, .ref qk, .ref qe, .ref qx, .int (iI K)])), (qk, .inl (cI, 4, .inl (aI kn))), (qx, .inl (cI, 5, .inl (aI o))), (h4, .inr (4, [.ref q4, .int (iI P)]))] sz)) 0 0 (va_A [(o5, .inr (5, [.ref h4, .ref h6, .ref hf, .ref qa, .ref qk, .ref qe, .ref qx, .int (iI K)])), (qk, .inl (cI, 4, .inl (aI kn))), (qx, .inl (cI, 5, .inl (aI o))), (h4, .inr (4, [.ref q4, .int (iI P)]))] sz) := by
  refine x_metW (own := RX5) (cc := cX5_multiplyOthers) (maxL := 3) (ret := none) (Qc := fun jA => va_Qv (fun (u : (Int → Int)) => (∀ r : Int, pl5 u 5 r % P = prd kn key r K % P) ∧ (∀ i : Int, 0 ≤ i → i ≤ 4 → 0 ≤ u i ∧ u i < P) ∧ (∀ i : Int, K ≤ i → i ≤ 4 → u i = 0)) (xB D (fun (u : (Int → Int)) => [(o5, .inr (5, [.ref h4, .ref h6, .ref hf, .ref qa, .ref qk, .ref qe, .ref qx, .int (iI K)])), (qk, .inl (cI, 4, .inl (aI kn))), (qx, .inl (cI, 5, .inl (aI u))), (h4, .inr (4, [.ref q4, .int (iI P)]))]) jA) jA) (by decide) rfl rfl rfl ?_
  intro jp je js jm ja jb jt jc jA jQ jS jr jk jn jq hK hP hD hA hS ls hl
  have hl : lv_has ls 3 [(0, .ref o5), (1, .int (iI key))] := hl
  refine x_ic jS dX5_multiplyOthers_0 ?_
  refine x_isn (lv' := [(2, .int (iI 0)), (0, .ref o5), (1, .int (iI key))]) jS dX5_multiplyOthers_1 rfl hl rfl rfl (fun ls hl => ?_)
  have loop_2 : ∀ (mm : Nat) (i : Int) (o1 : Int → Int) (jH : Heap) (jL : List Loc), (5 - i).toNat = mm → (0 ≤ i ∧ i ≤ 5) → (∀ j : Int, 0 ≤ j → j < i → o1 j = 0) → va_P D vwCl [(o5, .inr (5, [.ref h4, .ref h6, .ref hf, .ref qa, .ref qk, .ref qe, .ref qx, .int (iI K)])), (qk, .inl (cI, 4, .inl (aI kn))), (qx, .inl (cI, 5, .inl (aI o1))), (h4, .inr (4, [.ref q4, .int (iI P)]))] jH → va_D jA [(o5, .inr (5, [.ref h4, .ref h6, .ref hf, .ref qa, .ref qk, .ref qe, .ref qx, .int (iI K)])), (qk, .inl (cI, 4, .inl (aI kn))), (qx, .inl (cI, 5, .inl (aI o1))), (h4, .inr (4, [.ref q4, .int (iI P)]))] → va_S jA js.heap jH jL → ∀ ls : Array Slot, lv_has ls 3 [(2, .int (iI i)), (0, .ref o5), (1, .int (iI key))] → W jp jl je rm_X5_multiplyOthers js jm ja jb jt jc jH jL 0 0 jQ (F0 jm 2 ls []) := by
    intro mm
    induction mm using Nat.strongRecOn with
    | ind mm ih2 =>
      intro i o1 jH jL hmm2 hi h1 hP hD hS ls hl
      refine x_iln jS dX5_multiplyOthers_2 rfl hl 0 rfl ?_
      refine x_aln jS dX5_multiplyOthers_3 rfl hl 1 rfl ?_
      refine x_get jS hK hP h_X5_multiplyOthers_X5 0 rfl rfl 6 rfl m_X5_multiplyOthers_1 rfl dX5_multiplyOthers_4 ?_
      refine x_alen jS hK hP 2 rfl dX5_multiplyOthers_7 ?_
      refine x_cmpge jS 24 dX5_multiplyOthers_8 (by decide) (by omega) (fun hc8 => ?_) (fun hc8 => ?_)
      · skip
        refine x_aln jS dX5_multiplyOthers_24 rfl hl 1 rfl ?_
        refine x_get jS hK hP h_X5_multiplyOthers_X5 0 rfl rfl 6 rfl m_X5_multiplyOthers_1 rfl dX5_multiplyOthers_25 ?_
        refine x_ic jS dX5_multiplyOthers_28 ?_
        refine x_ic jS dX5_multiplyOthers_29 ?_
        refine x_iast (ws' := [(o5, .inr (5, [.ref h4, .ref h6, .ref hf, .ref qa, .ref qk, .ref qe, .ref qx, .int (iI K)])), (qk, .inl (cI, 4, .inl (aI kn))), (qx, .inl (cI, 5, .inl (aI (uI o1 0 1)))), (h4, .inr (4, [.ref q4, .int (iI P)]))]) jS hK hP hD hS 2 rfl (by omega) dX5_multiplyOthers_30 rfl (fun jH jL hP hD hS => ?_)
        refine x_ic jS dX5_multiplyOthers_31 ?_
        refine x_isn (lv' := [(2, .int (iI 0)), (0, .ref o5), (1, .int (iI key))]) jS dX5_multiplyOthers_32 rfl hl rfl rfl (fun ls hl => ?_)
        have loop_33 : ∀ (mm : Nat) (j : Int) (o3 : Int → Int) (jH : Heap) (jL : List Loc), (K - j).toNat = mm → (0 ≤ j ∧ j ≤ K) → (∀ r : Int, pl5 o3 5 r % P = prd kn key r j % P) → (∀ i : Int, 0 ≤ i → i ≤ 4 → 0 ≤ o3 i ∧ o3 i < P) → (∀ i : Int, (j - if key < j then 1 else 0) < i → i ≤ 4 → o3 i = 0) → va_P D vwCl [(o5, .inr (5, [.ref h4, .ref h6, .ref hf, .ref qa, .ref qk, .ref qe, .ref qx, .int (iI K)])), (qk, .inl (cI, 4, .inl (aI kn))), (qx, .inl (cI, 5, .inl (aI o3))), (h4, .inr (4, [.ref q4, .int (iI P)]))] jH → va_D jA [(o5, .inr (5, [.ref h4, .ref h6, .ref hf, .ref qa, .ref qk, .ref qe, .ref qx, .int (iI K)])), (qk, .inl (cI, 4, .inl (aI kn))), (qx, .inl (cI, 5, .inl (aI o3))), (h4, .inr (4, [.ref q4, .int (iI P)]))] → va_S jA js.heap jH jL → ∀ ls : Array Slot, lv_has ls 3 [(2, .int (iI j)), (0, .ref o5), (1, .int (iI key))] → W jp jl je rm_X5_multiplyOthers js jm ja jb jt jc jH jL 0 0 jQ (F0 jm 33 ls []) := by
          intro mm
          induction mm using Nat.strongRecOn with
          | ind mm ih33 =>
            intro j o3 jH jL hmm33 hj h3 h4b h5 hP hD hS ls hl
            refine x_iln jS dX5_multiplyOthers_33 rfl hl 0 rfl ?_
            refine x_aln jS dX5_multiplyOthers_34 rfl hl 1 rfl ?_
            refine x_get jS hK hP h_X5_multiplyOthers_X5 0 rfl rfl 7 rfl m_X5_multiplyOthers_2 rfl dX5_multiplyOthers_35 ?_
            refine x_cmpge jS 62 dX5_multiplyOthers_38 (by decide) (by omega) (fun hc38 => ?_) (fun hc38 => ?_)
            · skip
              exact x_vretW jS jr jk jq dX5_multiplyOthers_62 o3 hP hD hS (show (∀ r : Int, pl5 o3 5 r % P = prd kn key r K % P) ∧ (∀ i : Int, 0 ≤ i → i ≤ 4 → 0 ≤ o3 i ∧ o3 i < P) ∧ (∀ i : Int, K ≤ i → i ≤ 4 → o3 i = 0) from ⟨fun r => by rw [h3 r, show j = K by omega], h4b, fun i x y => h5 i (by rw [if_pos (by omega)]; omega) y⟩)
            · skip
              refine x_iln jS dX5_multiplyOthers_41 rfl hl 0 rfl ?_
              refine x_iln jS dX5_multiplyOthers_42 rfl hl 2 rfl ?_
              refine x_cmpeq jS 56 dX5_multiplyOthers_43 (by decide) (by omega) (fun hc43 => ?_) (fun hc43 => ?_)
              · skip
                have hb3 : ∀ r : Int, pl5 o3 5 r % P = prd kn key r (j + 1) % P := fun r => by rw [prd_s kn key r hj.1, if_pos hc43]; exact h3 r
                have hb4 := h4b
                have hb5 : ∀ i : Int, (j + 1 - if key < j + 1 then 1 else 0) < i → i ≤ 4 → o3 i = 0 := fun i x y => h5 i (by rw [if_neg (by omega)]; rw [if_pos (by omega)] at x; omega) y
                refine x_iinc (lv' := [(2, .int (iI (j + 1))), (0, .ref o5), (1, .int (iI key))]) jS dX5_multiplyOthers_56 hl 0 rfl rfl rfl (fun ls hl => ?_)
                refine x_goto jS 33 dX5_multiplyOthers_59 (by decide) ?_
                exact ih33 _ (by omega) (j + 1) o3 _ _ rfl (by omega) (hb3) (hb4) (hb5) hP hD hS ls (lv_sub hl [0, 1, 2] rfl)
              · skip
                refine x_aln jS dX5_multiplyOthers_46 rfl hl 1 rfl ?_
                refine x_aln jS dX5_multiplyOthers_47 rfl hl 1 rfl ?_
                refine x_get jS hK hP h_X5_multiplyOthers_X5 0 rfl rfl 4 rfl m_X5_multiplyOthers_3 rfl dX5_multiplyOthers_48 ?_
                refine x_iln jS dX5_multiplyOthers_51 rfl hl 0 rfl ?_
                refine x_iald jS hK hP 1 rfl (by omega) dX5_multiplyOthers_52 ?_
                have hknj := hkn j hj.1 hc38
                refine x_aV (wc := [(o5, .inr (5, [.ref h4, .ref h6, .ref hf, .ref qa, .ref qk, .ref qe, .ref qx, .int (iI K)])), (qx, .inl (cI, 5, .inl (aI o3))), (h4, .inr (4, [.ref q4, .int (iI P)]))]) (wr := [(qk, .inl (cI, 4, .inl (aI kn)))]) hP hD hS hA [0, 2, 3] [1] rfl rfl (by decide) (by decide) (cs := 0) (ss := 0) rfl rfl (x_rnV (As := [.int (iI (kn j))]) (rest := []) jS hl.1 hK (c_X5_multiplyBy jl D cI o5 h6 hf qa qk qe qx h4 q4 K P (kn j) o3 _ (by first | assumption | omega) (by first | assumption | omega) (by first | assumption | omega)) hP hD [0, 2, 3] rfl rfl (by decide) 0 rfl rfl gX5_multiplyOthers_X5_multiplyBy rfl rfl rfl kf_X5_multiplyBy rfl rfl rfl rfl rfl dX5_multiplyOthers_53 rfl rfl) (fun u jH jL hw hP hD hS => ?_)
                obtain ⟨o4, rfl⟩ : ∃ z, z = u := ⟨_, rfl⟩
                have hw53 : ∀ i : Int, 0 ≤ i → i ≤ 4 → o4 i = ((if i = 0 then 0 else o3 (i - 1)) + P - o3 i * (kn j) % P) % P := hw
                clear hw
                have hP : va_P D vwCl [(qk, .inl (cI, 4, .inl (aI kn))), (o5, .inr (5, [.ref h4, .ref h6, .ref hf, .ref qa, .ref qk, .ref qe, .ref qx, .int (iI K)])), (qx, .inl (cI, 5, .inl (aI o4))), (h4, .inr (4, [.ref q4, .int (iI P)]))] jH := hP
                have hD : va_D jA [(qk, .inl (cI, 4, .inl (aI kn))), (o5, .inr (5, [.ref h4, .ref h6, .ref hf, .ref qa, .ref qk, .ref qe, .ref qx, .int (iI K)])), (qx, .inl (cI, 5, .inl (aI o4))), (h4, .inr (4, [.ref q4, .int (iI P)]))] := hD
                have ho34 : o3 4 = 0 := h5 4 (by split <;> omega) (by omega)
                have hb3 : ∀ r : Int, pl5 o4 5 r % P = prd kn key r (j + 1) % P := fun r => by rw [prd_s kn key r hj.1, if_neg hc43, pl_by ho34 hw53 r]; exact cg_mul rfl (h3 r)
                have hb4 : ∀ i : Int, 0 ≤ i → i ≤ 4 → 0 ≤ o4 i ∧ o4 i < P := fun i x y => by rw [hw53 i x y]; exact emB (by omega) _
                have hb5 : ∀ i : Int, (j + 1 - if key < j + 1 then 1 else 0) < i → i ≤ 4 → o4 i = 0 := fun i x y => by
                  have e1 : o3 i = 0 := h5 i (by split <;> (split at x <;> omega)) y
                  have e2 : o3 (i - 1) = 0 := h5 (i - 1) (by split <;> (split at x <;> omega)) (by omega)
                  have hi0 : 1 ≤ i := by split at x <;> omega
                  rw [hw53 i (by omega) y, if_neg (by omega), e1, e2, Int.zero_mul, Int.zero_emod, show (0 : Int) + P - 0 = P by omega, Int.emod_self]
                refine x_iinc (lv' := [(2, .int (iI (j + 1))), (0, .ref o5), (1, .int (iI key))]) jS dX5_multiplyOthers_56 hl 0 rfl rfl rfl (fun ls hl => ?_)
                refine x_goto jS 33 dX5_multiplyOthers_59 (by decide) ?_
                exact ih33 _ (by omega) (j + 1) o4 _ _ rfl (by omega) (hb3) (hb4) (hb5) (hP.sub [1, 0, 2, 3] rfl) (hD.sub [1, 0, 2, 3] (by decide) rfl) hS ls (lv_sub hl [0, 1, 2] rfl)
        exact loop_33 _ 0 (uI o1 0 1) _ _ rfl (by omega) (fun r => by rw [pl5_1 (fun i x y => h1 i x (by omega))]; rfl) (fun i x y => by by_cases q : i = 0; rw [q, uI_s]; omega; rw [uI_n q, h1 i x (by omega)]; omega) (fun i x y => by split at x <;> (rw [uI_n (by omega), h1 i (by omega) (by omega)])) hP hD hS ls (lv_sub hl [0, 1, 2] rfl)
      · skip
        refine x_aln jS dX5_multiplyOthers_11 rfl hl 1 rfl ?_
        refine x_get jS hK hP h_X5_multiplyOthers_X5 0 rfl rfl 6 rfl m_X5_multiplyOthers_1 rfl dX5_multiplyOthers_12 ?_
        refine x_iln jS dX5_multiplyOthers_15 rfl hl 0 rfl ?_
        refine x_ic jS dX5_multiplyOthers_16 ?_
        refine x_iast (ws' := [(o5, .inr (5, [.ref h4, .ref h6, .ref hf, .ref qa, .ref qk, .ref qe, .ref qx, .int (iI K)])), (qk, .inl (cI, 4, .inl (aI kn))), (qx, .inl (cI, 5, .inl (aI (uI o1 i 0)))), (h4, .inr (4, [.ref q4, .int (iI P)]))]) jS hK hP hD hS 2 rfl (by omega) dX5_multiplyOthers_17 rfl (fun jH jL hP hD hS => ?_)
        refine x_iinc (lv' := [(2, .int (iI (i + 1))), (0, .ref o5), (1, .int (iI key))]) jS dX5_multiplyOthers_18 hl 0 rfl rfl rfl (fun ls hl => ?_)
        refine x_goto jS 2 dX5_multiplyOthers_21 (by decide) ?_
        exact ih2 _ (by omega) (i + 1) (uI o1 i 0) _ _ rfl (by omega) (fun j x y => by rcases Int.lt_or_le j i with q | q; rw [uI_n (by omega)]; exact h1 j x q; rw [show j = i by omega, uI_s]) hP hD hS ls (lv_sub hl [0, 1, 2] rfl)
  exact loop_2 _ 0 o _ _ rfl (by omega) (fun j x y => by omega) hP hD hS ls (lv_sub hl [0, 1, 2] rfl)
theorem kf_X5_multiplyOthers : kfV yX5_multiplyOthers RX5 1 := by decide +kernel
theorem h_X5_coefficient_X5 : ∀ w ∈ u_ws RX5 TX5 8, w ∈ wsX5_coefficient := fun w h => List.mem_cons_of_mem _ (List.mem_append_left _ (List.mem_append_right _ h))
theorem m_X5_coefficient_1 : Cond.fieldLink RX5 24 "SealedBox$Recovery" "keys" "I" ∈ wsX5_coefficient := List.mem_of_getElem? (i := 1) rfl
theorem m_X5_coefficient_4 : Cond.fieldLink RX5 28 "SealedBox$Recovery" "numbers" "LSealedBox$PrimeField;" ∈ wsX5_coefficient := List.mem_of_getElem? (i := 4) rfl
theorem h_X5_coefficient_X4 : ∀ w ∈ u_ws RX4 TX4 2, w ∈ wsX5_coefficient := fun w h => List.mem_cons_of_mem _ (List.mem_append_right _ h)
theorem m_X5_coefficient_2 : Cond.fieldLink RX5 21 "SealedBox$Recovery" "others" "[I" ∈ wsX5_coefficient := List.mem_of_getElem? (i := 2) rfl
theorem m_X5_coefficient_3 : Cond.fieldLink RX5 11 "SealedBox$Recovery" "answers" "[I" ∈ wsX5_coefficient := List.mem_of_getElem? (i := 3) rfl
theorem m_X5_coefficient_5 : Cond.fieldLink RX5 15 "SealedBox$Recovery" "keyNumbers" "[I" ∈ wsX5_coefficient := List.mem_of_getElem? (i := 5) rfl
abbrev rm_X5_coefficient : Room := { frames := 3, cells := 0, slots := 0, locals := 67 }
set_option maxHeartbeats 4000000 in
set_option maxRecDepth 100000 in
theorem c_X5_coefficient (jl : Launch) (D : va_G) (cI : ClassId) (o5 h6 hf qa qk qe qx : Nat) (h4 q4 : Nat) (K P key : Int) (an kn o iv xs : Int → Int) (sz : Nat) (hok : okP P) (htb : tbF P iv) (hKb : 0 ≤ key ∧ key < K ∧ K ≤ 4) (hkn : ∀ j : Int, 0 ≤ j → j < K → 0 ≤ kn j ∧ kn j < P) (hkd : ∀ i j : Int, 0 ≤ j → j < i → i < K → kn i ≠ kn j) (han : ∀ j : Int, 0 ≤ j → j < K → 0 ≤ an j ∧ an j < P) (hsl : slv P K kn an xs) : Met jl yX5_coefficient wsX5_coefficient rm_X5_coefficient (xPw [.ref o5, .int (iI key)] D cI [(o5, .inr (5, [.ref h4, .ref h6, .ref hf, .ref qa, .ref qk, .ref qe, .ref qx, .int (iI K)])), (qa, .inl (cI, 9, .inl (aI an))), (qk, .inl (cI, 4, .inl (aI kn))), (qx, .inl (cI, 5, .inl (aI o))), (h4, .inr (4, [.ref q4, .int (iI P)])), (q4, .inl (cI, 997, .inl (aI iv)))] sz) (va_Qi (fun (r : Int32) (u : (Int → Int)) => r = (iI (xs key)) ∧ (True)) (xB D (fun (u : (Int → Int)) => [(o5, .inr (5, [.ref h4, .ref h6, .ref hf, .ref qa, .ref qk, .ref qe, .ref qx, .int (iI K)])), (qa, .inl (cI, 9, .inl (aI an))), (qk, .inl (cI, 4, .inl (aI kn))), (qx, .inl (cI, 5, .inl (aI u))), (h4, .inr (4, [.ref q4, .int (iI P)])), (q4, .inl (cI, 997, .inl (aI iv)))]) (va_A [(o5, .inr (5, [.ref h4, .ref h6, .ref hf, .ref qa, .ref qk, .ref qe, .ref qx, .int (iI K)])), (qa, .inl (cI, 9, .inl (aI an))), (qk, .inl (cI, 4, .inl (aI kn))), (qx, .inl (cI, 5, .inl (aI o))), (h4, .inr (4, [.ref q4, .int (iI P)])), (q4, .inl (cI, 997, .inl (aI iv)))] sz)) (va_A [(o5, .inr (5, [.ref h4, .ref h6, .ref hf, .ref qa, .ref qk, .ref qe, .ref qx, .int (iI K)])), (qa, .inl (cI, 9, .inl (aI an))), (qk, .inl (cI, 4, .inl (aI kn))), (qx, .inl (cI, 5, .inl (aI o))), (h4, .inr (4, [.ref q4, .int (iI P)])), (q4, .inl (cI, 997, .inl (aI iv)))] sz)) 0 0 (va_A [(o5, .inr (5, [.ref h4, .ref h6, .ref hf, .ref qa, .ref qk, .ref qe, .ref qx, .int (iI K)])), (qa, .inl (cI, 9, .inl (aI an))), (qk, .inl (cI, 4, .inl (aI kn))), (qx, .inl (cI, 5, .inl (aI o))), (h4, .inr (4, [.ref q4, .int (iI P)])), (q4, .inl (cI, 997, .inl (aI iv)))] sz) := by
  refine x_metW (own := RX5) (cc := cX5_coefficient) (maxL := 5) (ret := (some .int)) (Qc := fun jA => va_Qi (fun (r : Int32) (u : (Int → Int)) => r = (iI (xs key)) ∧ (True)) (xB D (fun (u : (Int → Int)) => [(o5, .inr (5, [.ref h4, .ref h6, .ref hf, .ref qa, .ref qk, .ref qe, .ref qx, .int (iI K)])), (qa, .inl (cI, 9, .inl (aI an))), (qk, .inl (cI, 4, .inl (aI kn))), (qx, .inl (cI, 5, .inl (aI u))), (h4, .inr (4, [.ref q4, .int (iI P)])), (q4, .inl (cI, 997, .inl (aI iv)))]) jA) jA) (by decide) rfl rfl rfl ?_
  intro jp je js jm ja jb jt jc jA jQ jS jr jk jn jq hK hP hD hA hS ls hl
  have hl : lv_has ls 5 [(0, .ref o5), (1, .int (iI key))] := hl
  have hok5 := hok.1
  have hok9 := hok.2.1
  have hkk := hkn key hKb.1 hKb.2.1
  refine x_aln jS dX5_coefficient_0 rfl hl 0 rfl ?_
  refine x_iln jS dX5_coefficient_1 rfl hl 1 rfl ?_
  refine x_aV (wc := [(o5, .inr (5, [.ref h4, .ref h6, .ref hf, .ref qa, .ref qk, .ref qe, .ref qx, .int (iI K)])), (qk, .inl (cI, 4, .inl (aI kn))), (qx, .inl (cI, 5, .inl (aI o))), (h4, .inr (4, [.ref q4, .int (iI P)]))]) (wr := [(qa, .inl (cI, 9, .inl (aI an))), (q4, .inl (cI, 997, .inl (aI iv)))]) hP hD hS hA [0, 2, 3, 4] [1, 5] rfl rfl (by decide) (by decide) (cs := 0) (ss := 0) rfl rfl (x_rnV (As := [.int (iI key)]) (rest := []) jS hl.1 hK (c_X5_multiplyOthers jl D cI o5 h6 hf qa qk qe qx h4 q4 K P key kn o _ (by first | assumption | omega) (by first | assumption | omega) (by first | assumption | omega)) hP hD [0, 2, 3, 4] rfl rfl (by decide) 0 rfl rfl gX5_coefficient_X5_multiplyOthers rfl rfl rfl kf_X5_multiplyOthers rfl rfl rfl rfl rfl dX5_coefficient_2 rfl rfl) (fun u jH jL hw hP hD hS => ?_)
  obtain ⟨o3, rfl⟩ : ∃ z, z = u := ⟨_, rfl⟩
  have hw2 : (∀ r : Int, pl5 o3 5 r % P = prd kn key r K % P) ∧ (∀ i : Int, 0 ≤ i → i ≤ 4 → 0 ≤ o3 i ∧ o3 i < P) ∧ (∀ i : Int, K ≤ i → i ≤ 4 → o3 i = 0) := hw
  clear hw
  have hP : va_P D vwCl [(qa, .inl (cI, 9, .inl (aI an))), (q4, .inl (cI, 997, .inl (aI iv))), (o5, .inr (5, [.ref h4, .ref h6, .ref hf, .ref qa, .ref qk, .ref qe, .ref qx, .int (iI K)])), (qk, .inl (cI, 4, .inl (aI kn))), (qx, .inl (cI, 5, .inl (aI o3))), (h4, .inr (4, [.ref q4, .int (iI P)]))] jH := hP
  have hD : va_D jA [(qa, .inl (cI, 9, .inl (aI an))), (q4, .inl (cI, 997, .inl (aI iv))), (o5, .inr (5, [.ref h4, .ref h6, .ref hf, .ref qa, .ref qk, .ref qe, .ref qx, .int (iI K)])), (qk, .inl (cI, 4, .inl (aI kn))), (qx, .inl (cI, 5, .inl (aI o3))), (h4, .inr (4, [.ref q4, .int (iI P)]))] := hD
  refine x_ic jS dX5_coefficient_5 ?_
  refine x_isn (lv' := [(2, .int (iI 0)), (0, .ref o5), (1, .int (iI key))]) jS dX5_coefficient_6 rfl hl rfl rfl (fun ls hl => ?_)
  refine x_ic jS dX5_coefficient_7 ?_
  refine x_isn (lv' := [(3, .int (iI 0)), (2, .int (iI 0)), (0, .ref o5), (1, .int (iI key))]) jS dX5_coefficient_8 rfl hl rfl rfl (fun ls hl => ?_)
  refine x_aln jS dX5_coefficient_9 rfl hl 2 rfl ?_
  refine x_get jS hK hP h_X5_coefficient_X5 2 rfl rfl 7 rfl m_X5_coefficient_1 rfl dX5_coefficient_10 ?_
  refine x_ic jS dX5_coefficient_13 ?_
  refine x_isub jS dX5_coefficient_14 ?_
  refine x_is (lv' := [(4, .int (iI (K - 1))), (3, .int (iI 0)), (2, .int (iI 0)), (0, .ref o5), (1, .int (iI key))]) jS dX5_coefficient_15 hl rfl rfl (fun ls hl => ?_)
  have loop_17 : ∀ (mm : Nat) (we : Int) (va : Int) (i : Int), (i + 1).toNat = mm → (-1 ≤ i ∧ i ≤ K - 1) → (we + sm (fun q => o3 q * an q) (i + 1) = sm (fun q => o3 q * an q) K) → (0 ≤ we ∧ we ≤ (K - 1 - i) * 1000000) → (0 ≤ va ∧ va < P) → ((va * kn key ^ (i + 1).toNat + pl5 o3 (i + 1) (kn key)) % P = pl5 o3 K (kn key) % P) → ∀ ls : Array Slot, lv_has ls 5 [(4, .int (iI i)), (3, .int (iI va)), (2, .int (iI we)), (0, .ref o5), (1, .int (iI key))] → W jp jl je rm_X5_coefficient js jm ja jb jt jc jH jL 0 0 jQ (F0 jm 17 ls []) := by
    intro mm
    induction mm using Nat.strongRecOn with
    | ind mm ih17 =>
      intro we va i hmm17 hi hwe hweb hva hvb ls hl
      refine x_il jS dX5_coefficient_17 hl 0 rfl ?_
      refine x_iflt jS 75 dX5_coefficient_19 (by decide) (by omega) (fun hc19 => ?_) (fun hc19 => ?_)
      · skip
        refine x_aln jS dX5_coefficient_75 rfl hl 3 rfl ?_
        refine x_get jS hK hP h_X5_coefficient_X5 2 rfl rfl 0 rfl m_X5_coefficient_4 rfl dX5_coefficient_76 ?_
        refine x_iln jS dX5_coefficient_79 rfl hl 2 rfl ?_
        refine x_aln jS dX5_coefficient_80 rfl hl 3 rfl ?_
        refine x_get jS hK hP h_X5_coefficient_X5 2 rfl rfl 0 rfl m_X5_coefficient_4 rfl dX5_coefficient_81 ?_
        refine x_getN jS hK hP h_X5_coefficient_X4 5 rfl rfl 1 rfl 5 rfl rfl dX5_coefficient_84 ?_
        refine x_irem jS dX5_coefficient_87 (by omega) (fun hm87 => ?_)
        refine x_iln jS dX5_coefficient_88 rfl hl 1 rfl ?_
        have hi1 : i = -1 := by omega
        rw [hi1] at hwe hvb
        have hval : va % P = pl5 o3 K (kn key) % P := by rw [← hvb, show ((-1 : Int) + 1) = 0 by omega, pl5_0, show (0 : Int).toNat = 0 from rfl, Int.pow_zero, Int.mul_one, Int.add_zero]
        have hcut : ∀ r : Int, pl5 o3 K r = pl5 o3 5 r := fun r => (sm_cut (by omega) (by omega) (fun q x y => by rw [hw2.2.2 q x (by omega), Int.zero_mul])).symm
        have hnz : pl5 o3 K (kn key) % P ≠ 0 := by
          rw [hcut, hw2.1]
          refine prdN_nz hok kn key (kn key) K.toNat (fun m x y z => ?_)
          have h1 := hkn m x (by omega)
          intro h0
          have h2 := mod_eq hkk h1 (Int.emod_eq_emod_iff_emod_sub_eq_zero.mpr h0)
          rcases Int.lt_or_le m key with q | q
          · exact hkd key m x q hKb.2.1 h2
          · exact hkd m key hKb.1 (by omega) (by omega) h2.symm
        have hvne : va ≠ 0 := fun h => hnz (by rw [← hval, h]; rfl)
        have hivv := htb va (by omega) hva.2
        have hwz : we = sm (fun q => o3 q * an q) K := by rw [← hwe, show ((-1 : Int) + 1) = 0 by omega, sm_0]; omega
        refine x_rI (x_rmV (As := [.int (iI (we % P)), .int (iI va)]) (rest := []) jS hl.1 hK (c_X4_over jl D cI h4 q4 P (we % P) va iv (by first | assumption | omega) (by first | assumption | omega) (by first | assumption | omega) (⟨hivv.1, hivv.2.1⟩)) (hP.sub [5, 1] rfl) 0 rfl rfl gX5_coefficient_X4_over rfl rfl rfl kf_X4_over rfl rfl rfl rfl rfl dX5_coefficient_89 rfl rfl) ?_
        exact x_iretW jS jr jk jq dX5_coefficient_92 o3 (hP.sub [2, 0, 3, 4, 5, 1] rfl) (hD.sub [2, 0, 3, 4, 5, 1] (by decide) rfl) hS (show (iI ((we % P) * iv va % P)) = (iI (xs key)) ∧ True from ⟨congrArg iI (mod_eq (emB (by omega) _) (hsl.1 key hKb.1 hKb.2.1) (mod_cancel (a := va) hok (by rw [Int.emod_eq_of_lt hva.1 hva.2]; exact hvne) (by rw [cg_mul rfl (cg_m P _), show va * (we % P * iv va) = (we % P) * (va * iv va) by grind, hivv.2.2, Int.mul_emod (we % P), ivF_ok hok (show 0 < va by omega) hva.2, Int.mul_one, cg_m, cg_m, hwz, co_one hsl ⟨hKb.1, hKb.2.1⟩ (fun m x y z => by rw [hcut, hw2.1]; exact prdN_z kn key (kn m) x z (by rw [Int.sub_self]; rfl) K.toNat (by omega)), Int.mul_comm (xs key)]; exact (cg_mul hval rfl).symm))), trivial⟩)
      · skip
        refine x_iln jS dX5_coefficient_22 rfl hl 2 rfl ?_
        refine x_aln jS dX5_coefficient_23 rfl hl 3 rfl ?_
        refine x_get jS hK hP h_X5_coefficient_X5 2 rfl rfl 6 rfl m_X5_coefficient_2 rfl dX5_coefficient_24 ?_
        refine x_il jS dX5_coefficient_27 hl 0 rfl ?_
        refine x_iald jS hK hP 4 rfl (by omega) dX5_coefficient_29 ?_
        have hb29 := hw2.2.1 i (by omega) (by omega)
        refine x_aln jS dX5_coefficient_30 rfl hl 3 rfl ?_
        refine x_get jS hK hP h_X5_coefficient_X5 2 rfl rfl 3 rfl m_X5_coefficient_3 rfl dX5_coefficient_31 ?_
        refine x_il jS dX5_coefficient_34 hl 0 rfl ?_
        refine x_iald jS hK hP 0 rfl (by omega) dX5_coefficient_36 ?_
        have hb36 := han i (by omega) (by omega)
        refine x_imulB jS dX5_coefficient_37 (by omega) (fun hp37 => ?_)
        refine x_iadd jS dX5_coefficient_38 ?_
        refine x_isn (lv' := [(2, .int (iI (we + ((o3 i) * (an i))))), (4, .int (iI i)), (3, .int (iI va)), (0, .ref o5), (1, .int (iI key))]) jS dX5_coefficient_39 rfl hl rfl rfl (fun ls hl => ?_)
        refine x_aln jS dX5_coefficient_40 rfl hl 3 rfl ?_
        refine x_get jS hK hP h_X5_coefficient_X5 2 rfl rfl 0 rfl m_X5_coefficient_4 rfl dX5_coefficient_41 ?_
        refine x_aln jS dX5_coefficient_44 rfl hl 3 rfl ?_
        refine x_get jS hK hP h_X5_coefficient_X5 2 rfl rfl 0 rfl m_X5_coefficient_4 rfl dX5_coefficient_45 ?_
        refine x_iln jS dX5_coefficient_48 rfl hl 2 rfl ?_
        refine x_aln jS dX5_coefficient_49 rfl hl 3 rfl ?_
        refine x_get jS hK hP h_X5_coefficient_X5 2 rfl rfl 4 rfl m_X5_coefficient_5 rfl dX5_coefficient_50 ?_
        refine x_iln jS dX5_coefficient_53 rfl hl 4 rfl ?_
        refine x_iald jS hK hP 3 rfl (by omega) dX5_coefficient_54 ?_
        refine x_rI (x_rmV (As := [.int (iI va), .int (iI (kn key))]) (rest := [.ref h4]) jS hl.1 hK (c_X4_times jl D cI h4 q4 P va (kn key) (by first | assumption | omega) (by first | assumption | omega) (by first | assumption | omega)) (hP.sub [5] rfl) 0 rfl rfl gX5_coefficient_X4_times rfl rfl rfl kf_X4_times rfl rfl rfl rfl rfl dX5_coefficient_55 rfl rfl) ?_
        refine x_aln jS dX5_coefficient_58 rfl hl 3 rfl ?_
        refine x_get jS hK hP h_X5_coefficient_X5 2 rfl rfl 6 rfl m_X5_coefficient_2 rfl dX5_coefficient_59 ?_
        refine x_il jS dX5_coefficient_62 hl 1 rfl ?_
        refine x_iald jS hK hP 4 rfl (by omega) dX5_coefficient_64 ?_
        have hb64 := hw2.2.1 i (by omega) (by omega)
        have hq1 := emB (show 0 < P by omega) (va * kn key)
        refine x_rI (x_rmV (As := [.int (iI (va * (kn key) % P)), .int (iI (o3 i))]) (rest := []) jS hl.1 hK (c_X4_plus jl D cI h4 q4 P (va * (kn key) % P) (o3 i) (by first | assumption | omega) (by first | assumption | omega) (by first | assumption | omega)) (hP.sub [5] rfl) 0 rfl rfl gX5_coefficient_X4_plus rfl rfl rfl kf_X4_plus rfl rfl rfl rfl rfl dX5_coefficient_65 rfl rfl) ?_
        refine x_isn (lv' := [(3, .int (iI (((va * (kn key) % P) + (o3 i)) % P))), (2, .int (iI (we + ((o3 i) * (an i))))), (4, .int (iI i)), (0, .ref o5), (1, .int (iI key))]) jS dX5_coefficient_68 rfl hl rfl rfl (fun ls hl => ?_)
        refine x_iinc (lv' := [(4, .int (iI (i + (-1)))), (3, .int (iI (((va * (kn key) % P) + (o3 i)) % P))), (2, .int (iI (we + ((o3 i) * (an i))))), (0, .ref o5), (1, .int (iI key))]) jS dX5_coefficient_69 hl 2 rfl rfl rfl (fun ls hl => ?_)
        refine x_goto jS 17 dX5_coefficient_72 (by decide) ?_
        exact ih17 _ (by omega) (we + ((o3 i) * (an i))) (((va * (kn key) % P) + (o3 i)) % P) (i + (-1)) rfl (by omega) (by rw [show i + -1 + 1 = i by omega, ← hwe, sm_s _ (show 0 ≤ i by omega)]; omega) (by omega) (emB (by omega) _) (hor2 (by omega) rfl hvb) ls (lv_sub hl [0, 1, 2, 3, 4] rfl)
  exact loop_17 _ 0 0 (K - 1) rfl (by omega) (by rw [show K - 1 + 1 = K by omega]; omega) (by omega) (by omega) (by rw [show K - 1 + 1 = K by omega, Int.zero_mul, Int.zero_add]) ls (lv_sub hl [0, 1, 2, 3, 4] rfl)
theorem h_X5_lastAnswerFits_X5 : ∀ w ∈ u_ws RX5 TX5 8, w ∈ wsX5_lastAnswerFits := fun w h => List.mem_cons_of_mem _ (List.mem_append_left _ (List.mem_append_left _ (List.mem_append_right _ h)))
theorem m_X5_lastAnswerFits_1 : Cond.fieldLink RX5 24 "SealedBox$Recovery" "keys" "I" ∈ wsX5_lastAnswerFits := List.mem_of_getElem? (i := 1) rfl
theorem m_X5_lastAnswerFits_2 : Cond.fieldLink RX5 28 "SealedBox$Recovery" "numbers" "LSealedBox$PrimeField;" ∈ wsX5_lastAnswerFits := List.mem_of_getElem? (i := 2) rfl
theorem h_X5_lastAnswerFits_X4 : ∀ w ∈ u_ws RX4 TX4 2, w ∈ wsX5_lastAnswerFits := fun w h => List.mem_cons_of_mem _ (List.mem_append_left _ (List.mem_append_right _ h))
theorem m_X5_lastAnswerFits_5 : Cond.fieldLink RX5 11 "SealedBox$Recovery" "answers" "[I" ∈ wsX5_lastAnswerFits := List.mem_of_getElem? (i := 5) rfl
theorem m_X5_lastAnswerFits_3 : Cond.fieldLink RX5 46 "SealedBox$Recovery" "found" "LSealedBox$Box;" ∈ wsX5_lastAnswerFits := List.mem_of_getElem? (i := 3) rfl
theorem m_X5_lastAnswerFits_4 : Cond.fieldLink RX5 15 "SealedBox$Recovery" "keyNumbers" "[I" ∈ wsX5_lastAnswerFits := List.mem_of_getElem? (i := 4) rfl
abbrev rm_X5_lastAnswerFits : Room := { frames := 1, cells := 0, slots := 0, locals := 24 }
set_option maxHeartbeats 4000000 in
set_option maxRecDepth 100000 in
theorem c_X5_lastAnswerFits (jl : Launch) (D : va_G) (cI : ClassId) (o5 h6 hf qa qk qe qx : Nat) (bq bf bl h0 h4 q4 : Nat) (K P k5 nf : Int) (an kn pf : Int → Int)  (hP5 : 5 ≤ P ∧ P ≤ 997) (hKb : 0 ≤ K ∧ K ≤ 4) (hkn : ∀ j : Int, 0 ≤ j → j < K → 0 ≤ kn j ∧ kn j < P) (hpf : ∀ j : Int, 0 ≤ j → j < K → 0 ≤ pf (j * 4 + 0) ∧ pf (j * 4 + 0) < P) (han : 0 ≤ an 8 ∧ an 8 < P) : Met jl yX5_lastAnswerFits wsX5_lastAnswerFits rm_X5_lastAnswerFits (xPr [.ref o5] D cI [(o5, .inr (5, [.ref h4, .ref h6, .ref hf, .ref qa, .ref qk, .ref qe, .ref qx, .int (iI K)])), (hf, .inr (1, [.ref h4, .ref h0, .ref bq, .ref bf, .ref bl, .int (iI k5), .int (iI nf)])), (bq, .inl (cI, 16, .inl (aI pf))), (qa, .inl (cI, 9, .inl (aI an))), (qk, .inl (cI, 4, .inl (aI kn))), (h4, .inr (4, [.ref q4, .int (iI P)]))]) (vp_Si (fun r => r = (iI (bI (sm (fun j => pf (j * 4 + 0) * pw P (kn j) 8 % P) K % P = an 8))))) 0 0 (fun _ => False) := by
  refine x_metR (own := RX5) (cc := cX5_lastAnswerFits) (maxL := 3) (ret := (some .boolean)) (by decide) rfl rfl rfl ?_
  intro jp je js jm ja jb jt jc jQ jS jr jk jq hK hP ls hl
  have hl : lv_has ls 3 [(0, .ref o5)] := hl
  refine x_ic jS dX5_lastAnswerFits_0 ?_
  refine x_isn (lv' := [(1, .int (iI 0)), (0, .ref o5)]) jS dX5_lastAnswerFits_1 rfl hl rfl rfl (fun ls hl => ?_)
  refine x_ic jS dX5_lastAnswerFits_2 ?_
  refine x_isn (lv' := [(2, .int (iI 0)), (1, .int (iI 0)), (0, .ref o5)]) jS dX5_lastAnswerFits_3 rfl hl rfl rfl (fun ls hl => ?_)
  have loop_4 : ∀ (mm : Nat) (r : Int) (i : Int), (K - i).toNat = mm → (0 ≤ i ∧ i ≤ K) → (r = sm (fun j => pf (j * 4 + 0) * pw P (kn j) 8 % P) i) → (0 ≤ r ∧ r ≤ i * 1000) → ∀ ls : Array Slot, lv_has ls 3 [(2, .int (iI i)), (1, .int (iI r)), (0, .ref o5)] → W jp jl je rm_X5_lastAnswerFits js jm ja jb jt jc js.heap [] 0 0 jQ (F0 jm 4 ls []) := by
    intro mm
    induction mm using Nat.strongRecOn with
    | ind mm ih4 =>
      intro r i hmm4 hi hr hrb ls hl
      refine x_iln jS dX5_lastAnswerFits_4 rfl hl 0 rfl ?_
      refine x_aln jS dX5_lastAnswerFits_5 rfl hl 2 rfl ?_
      refine x_get jS hK hP h_X5_lastAnswerFits_X5 0 rfl rfl 7 rfl m_X5_lastAnswerFits_1 rfl dX5_lastAnswerFits_6 ?_
      refine x_cmpge jS 52 dX5_lastAnswerFits_9 (by decide) (by omega) (fun hc9 => ?_) (fun hc9 => ?_)
      · skip
        refine x_iln jS dX5_lastAnswerFits_52 rfl hl 1 rfl ?_
        refine x_aln jS dX5_lastAnswerFits_53 rfl hl 2 rfl ?_
        refine x_get jS hK hP h_X5_lastAnswerFits_X5 0 rfl rfl 0 rfl m_X5_lastAnswerFits_2 rfl dX5_lastAnswerFits_54 ?_
        refine x_getN jS hK hP h_X5_lastAnswerFits_X4 5 rfl rfl 1 rfl 5 rfl rfl dX5_lastAnswerFits_57 ?_
        refine x_irem jS dX5_lastAnswerFits_60 (by omega) (fun hm60 => ?_)
        refine x_aln jS dX5_lastAnswerFits_61 rfl hl 2 rfl ?_
        refine x_get jS hK hP h_X5_lastAnswerFits_X5 0 rfl rfl 3 rfl m_X5_lastAnswerFits_5 rfl dX5_lastAnswerFits_62 ?_
        refine x_bi jS dX5_lastAnswerFits_65 (by decide) ?_
        refine x_iald jS hK hP 3 rfl (by omega) dX5_lastAnswerFits_67 ?_
        refine x_cmpne jS 75 dX5_lastAnswerFits_68 (by decide) (by omega) (fun hc68 => ?_) (fun hc68 => ?_)
        · skip
          refine x_ic jS dX5_lastAnswerFits_75 ?_
          exact x_zretR jS jr jk jq dX5_lastAnswerFits_76 rfl (congrArg iI (bI_f (by rw [show K = i by omega, ← hr]; exact hc68)).symm)
        · skip
          refine x_ic jS dX5_lastAnswerFits_71 ?_
          refine x_goto jS 76 dX5_lastAnswerFits_72 (by decide) ?_
          exact x_zretR jS jr jk jq dX5_lastAnswerFits_76 rfl (congrArg iI (bI_t (by rw [show K = i by omega, ← hr]; exact hc68)).symm)
      · skip
        refine x_iln jS dX5_lastAnswerFits_12 rfl hl 1 rfl ?_
        refine x_aln jS dX5_lastAnswerFits_13 rfl hl 2 rfl ?_
        refine x_get jS hK hP h_X5_lastAnswerFits_X5 0 rfl rfl 0 rfl m_X5_lastAnswerFits_2 rfl dX5_lastAnswerFits_14 ?_
        refine x_aln jS dX5_lastAnswerFits_17 rfl hl 2 rfl ?_
        refine x_get jS hK hP h_X5_lastAnswerFits_X5 0 rfl rfl 2 rfl m_X5_lastAnswerFits_3 rfl dX5_lastAnswerFits_18 ?_
        refine x_iln jS dX5_lastAnswerFits_21 rfl hl 0 rfl ?_
        refine x_ic jS dX5_lastAnswerFits_22 ?_
        refine x_rI (x_rmV (As := [.int (iI i), .int (iI 0)]) (rest := [.ref h4, .int (iI r)]) jS hl.1 hK (c_X1_part jl D cI hf bq bf bl h0 h4 k5 nf i 0 pf (by first | assumption | omega) (by first | assumption | omega)) (hP.sub [1, 2] rfl) 0 rfl rfl gX5_lastAnswerFits_X1_part rfl rfl rfl kf_X1_part rfl rfl rfl rfl rfl dX5_lastAnswerFits_23 rfl rfl) ?_
        have hb23 := hpf i (by omega) (by omega)
        refine x_aln jS dX5_lastAnswerFits_26 rfl hl 2 rfl ?_
        refine x_get jS hK hP h_X5_lastAnswerFits_X5 0 rfl rfl 0 rfl m_X5_lastAnswerFits_2 rfl dX5_lastAnswerFits_27 ?_
        refine x_aln jS dX5_lastAnswerFits_30 rfl hl 2 rfl ?_
        refine x_get jS hK hP h_X5_lastAnswerFits_X5 0 rfl rfl 4 rfl m_X5_lastAnswerFits_4 rfl dX5_lastAnswerFits_31 ?_
        refine x_iln jS dX5_lastAnswerFits_34 rfl hl 0 rfl ?_
        refine x_iald jS hK hP 4 rfl (by omega) dX5_lastAnswerFits_35 ?_
        have hb35 := hkn i (by omega) (by omega)
        refine x_bi jS dX5_lastAnswerFits_36 (by decide) ?_
        refine x_rI (x_rmV (As := [.int (iI (kn i)), .int (iI 8)]) (rest := [.int (iI (pf (i * 4 + 0))), .ref h4, .int (iI r)]) jS hl.1 hK (c_X4_power jl D cI h4 q4 P (kn i) 8 (by first | assumption | omega) (by first | assumption | omega) (by first | assumption | omega)) (hP.sub [5] rfl) 0 rfl rfl gX5_lastAnswerFits_X4_power rfl rfl rfl kf_X4_power rfl rfl rfl rfl rfl dX5_lastAnswerFits_38 rfl rfl) ?_
        have hq := pw_in (show 2 ≤ P by omega) (kn i) 8
        have hq2 := emB (show 0 < P by omega) (pf (i * 4 + 0) * pw P (kn i) 8)
        refine x_rI (x_rmV (As := [.int (iI (pf (i * 4 + 0))), .int (iI (pw P (kn i) 8))]) (rest := [.int (iI r)]) jS hl.1 hK (c_X4_times jl D cI h4 q4 P (pf (i * 4 + 0)) (pw P (kn i) 8) (by first | assumption | omega) (by first | assumption | omega) (by first | assumption | omega)) (hP.sub [5] rfl) 0 rfl rfl gX5_lastAnswerFits_X4_times rfl rfl rfl kf_X4_times rfl rfl rfl rfl rfl dX5_lastAnswerFits_41 rfl rfl) ?_
        refine x_iadd jS dX5_lastAnswerFits_44 ?_
        refine x_isn (lv' := [(1, .int (iI (r + ((pf (i * 4 + 0)) * (pw P (kn i) 8) % P)))), (2, .int (iI i)), (0, .ref o5)]) jS dX5_lastAnswerFits_45 rfl hl rfl rfl (fun ls hl => ?_)
        refine x_iinc (lv' := [(2, .int (iI (i + 1))), (1, .int (iI (r + ((pf (i * 4 + 0)) * (pw P (kn i) 8) % P)))), (0, .ref o5)]) jS dX5_lastAnswerFits_46 hl 1 rfl rfl rfl (fun ls hl => ?_)
        refine x_goto jS 4 dX5_lastAnswerFits_49 (by decide) ?_
        exact ih4 _ (by omega) (r + ((pf (i * 4 + 0)) * (pw P (kn i) 8) % P)) (i + 1) rfl (by omega) (by rw [sm_s _ hi.1, ← hr]) (by omega) ls (lv_sub hl [0, 1, 2] rfl)
  exact loop_4 _ 0 0 rfl (by omega) ((sm_0 _).symm) (by omega) ls (lv_sub hl [0, 1, 2] rfl)
