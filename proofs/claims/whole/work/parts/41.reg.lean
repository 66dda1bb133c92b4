/-! Register -/
theorem h_X6_errorAt_X6 : ∀ w ∈ u_ws RX6 TX6 8, w ∈ wsX6_errorAt := fun w h => List.mem_cons_of_mem _ (List.mem_append_left _ (List.mem_append_right _ h))
theorem m_X6_errorAt_1 : Cond.fieldLink RX6 21 "SealedBox$Register" "length" "I" ∈ wsX6_errorAt := List.mem_of_getElem? (i := 1) rfl
theorem m_X6_errorAt_3 : Cond.fieldLink RX6 34 "SealedBox$Register" "numbers" "LSealedBox$PrimeField;" ∈ wsX6_errorAt := List.mem_of_getElem? (i := 3) rfl
theorem h_X6_errorAt_X4 : ∀ w ∈ u_ws RX4 TX4 2, w ∈ wsX6_errorAt := fun w h => List.mem_cons_of_mem _ (List.mem_append_right _ h)
theorem m_X6_errorAt_2 : Cond.fieldLink RX6 9 "SealedBox$Register" "now" "[I" ∈ wsX6_errorAt := List.mem_of_getElem? (i := 2) rfl
abbrev rm_X6_errorAt : Room := { frames := 0, cells := 0, slots := 0, locals := 0 }
set_option maxHeartbeats 4000000 in
set_option maxRecDepth 100000 in
theorem c_X6_errorAt (jl : Launch) (D : va_G) (cI : ClassId) (h6 qn qo qs h4 q4 : Nat) (qr nr : Nat) (P L fL f m n : Int) (now row : Int → Int)  (hP5 : 5 ≤ P ∧ P ≤ 997) (hnr : nr ≤ 16) (hn : 0 ≤ n ∧ n < nr) (hL : 0 ≤ L ∧ L ≤ n) (hnow : ∀ j : Int, 0 ≤ j → j ≤ 16 → 0 ≤ now j ∧ now j < P) (hrow : ∀ j : Int, 0 ≤ j → j ≤ n → 0 ≤ row j ∧ row j < P) : Met jl yX6_errorAt wsX6_errorAt rm_X6_errorAt (xPr [.ref h6, .ref qr, .int (iI n)] D cI [(h6, .inr (6, [.ref h4, .ref qn, .ref qo, .ref qs, .int (iI L), .int (iI fL), .int (iI f), .int (iI m)])), (qn, .inl (cI, 17, .inl (aI now))), (qr, .inl (cI, nr, .inl (aI row))), (h4, .inr (4, [.ref q4, .int (iI P)]))]) (vp_Si (fun r => r = (iI (sm (fun k => now k * row (n - k)) (L + 1) % P)))) 0 0 (fun _ => False) := by
  refine x_metR (own := RX6) (cc := cX6_errorAt) (maxL := 5) (ret := (some .int)) (by decide) rfl rfl rfl ?_
  intro jp je js jm ja jb jt jc jQ jS jr jk jq hK hP ls hl
  have hl : lv_has ls 5 [(0, .ref h6), (1, .ref qr), (2, .int (iI n))] := hl
  refine x_iln jS dX6_errorAt_0 rfl hl 2 rfl ?_
  refine x_iflt jS 10 dX6_errorAt_1 (by decide) (by omega) (fun hc1 => ?_) (fun hc1 => ?_)
  · exfalso; omega
  refine x_iln jS dX6_errorAt_4 rfl hl 2 rfl ?_
  refine x_aln jS dX6_errorAt_5 rfl hl 1 rfl ?_
  refine x_alen jS hK hP 2 rfl dX6_errorAt_6 ?_
  refine x_cmplt jS 12 dX6_errorAt_7 (by decide) (by omega) (fun hc7 => ?_) (fun hc7 => ?_)
  rotate_left
  · exfalso; omega
  refine x_ic jS dX6_errorAt_12 ?_
  refine x_isn (lv' := [(3, .int (iI 0)), (0, .ref h6), (1, .ref qr), (2, .int (iI n))]) jS dX6_errorAt_13 rfl hl rfl rfl (fun ls hl => ?_)
  refine x_ic jS dX6_errorAt_14 ?_
  refine x_is (lv' := [(4, .int (iI 0)), (3, .int (iI 0)), (0, .ref h6), (1, .ref qr), (2, .int (iI n))]) jS dX6_errorAt_15 hl rfl rfl (fun ls hl => ?_)
  have loop_17 : ∀ (mm : Nat) (r : Int) (i : Int), (L + 1 - i).toNat = mm → (0 ≤ i ∧ i ≤ L + 1) → (r = sm (fun k => now k * row (n - k)) i) → (0 ≤ r ∧ r ≤ i * 1000000) → ∀ ls : Array Slot, lv_has ls 5 [(4, .int (iI i)), (3, .int (iI r)), (0, .ref h6), (1, .ref qr), (2, .int (iI n))] → W jp jl je rm_X6_errorAt js jm ja jb jt jc js.heap [] 0 0 jQ (F0 jm 17 ls []) := by
    intro mm
    induction mm using Nat.strongRecOn with
    | ind mm ih17 =>
      intro r i hmm17 hi hr hrb ls hl
      refine x_il jS dX6_errorAt_17 hl 0 rfl ?_
      refine x_aln jS dX6_errorAt_19 rfl hl 2 rfl ?_
      refine x_get jS hK hP h_X6_errorAt_X6 0 rfl rfl 4 rfl m_X6_errorAt_1 rfl dX6_errorAt_20 ?_
      refine x_cmpgt jS 65 dX6_errorAt_23 (by decide) (by omega) (fun hc23 => ?_) (fun hc23 => ?_)
      · skip
        refine x_iln jS dX6_errorAt_65 rfl hl 1 rfl ?_
        refine x_aln jS dX6_errorAt_66 rfl hl 2 rfl ?_
        refine x_get jS hK hP h_X6_errorAt_X6 0 rfl rfl 0 rfl m_X6_errorAt_3 rfl dX6_errorAt_67 ?_
        refine x_getN jS hK hP h_X6_errorAt_X4 3 rfl rfl 1 rfl 3 rfl rfl dX6_errorAt_70 ?_
        refine x_irem jS dX6_errorAt_73 (by omega) (fun hm73 => ?_)
        exact x_iretR jS jr jk jq dX6_errorAt_74 (by rw [hr, show i = L + 1 by omega])
      · skip
        refine x_il jS dX6_errorAt_26 hl 0 rfl ?_
        refine x_iln jS dX6_errorAt_28 rfl hl 4 rfl ?_
        refine x_cmpgt jS 65 dX6_errorAt_29 (by decide) (by omega) (fun hc29 => ?_) (fun hc29 => ?_)
        · exfalso; omega
        refine x_il jS dX6_errorAt_32 hl 0 rfl ?_
        refine x_aln jS dX6_errorAt_34 rfl hl 2 rfl ?_
        refine x_get jS hK hP h_X6_errorAt_X6 0 rfl rfl 1 rfl m_X6_errorAt_2 rfl dX6_errorAt_35 ?_
        refine x_alen jS hK hP 1 rfl dX6_errorAt_38 ?_
        refine x_cmpge jS 65 dX6_errorAt_39 (by decide) (by omega) (fun hc39 => ?_) (fun hc39 => ?_)
        · exfalso; omega
        refine x_iln jS dX6_errorAt_42 rfl hl 1 rfl ?_
        refine x_aln jS dX6_errorAt_43 rfl hl 2 rfl ?_
        refine x_get jS hK hP h_X6_errorAt_X6 0 rfl rfl 1 rfl m_X6_errorAt_2 rfl dX6_errorAt_44 ?_
        refine x_il jS dX6_errorAt_47 hl 0 rfl ?_
        refine x_iald jS hK hP 1 rfl (by omega) dX6_errorAt_49 ?_
        have hb49 := hnow i (by omega) (by omega)
        refine x_aln jS dX6_errorAt_50 rfl hl 3 rfl ?_
        refine x_iln jS dX6_errorAt_51 rfl hl 4 rfl ?_
        refine x_il jS dX6_errorAt_52 hl 0 rfl ?_
        refine x_isub jS dX6_errorAt_54 ?_
        refine x_iald jS hK hP 2 rfl (by omega) dX6_errorAt_55 ?_
        have hb55 := hrow (n - i) (by omega) (by omega)
        refine x_imulB jS dX6_errorAt_56 (by omega) (fun hp56 => ?_)
        refine x_iadd jS dX6_errorAt_57 ?_
        refine x_isn (lv' := [(3, .int (iI (r + ((now i) * (row (n - i)))))), (4, .int (iI i)), (0, .ref h6), (1, .ref qr), (2, .int (iI n))]) jS dX6_errorAt_58 rfl hl rfl rfl (fun ls hl => ?_)
        refine x_iinc (lv' := [(4, .int (iI (i + 1))), (3, .int (iI (r + ((now i) * (row (n - i)))))), (0, .ref h6), (1, .ref qr), (2, .int (iI n))]) jS dX6_errorAt_59 hl 1 rfl rfl rfl (fun ls hl => ?_)
        refine x_goto jS 17 dX6_errorAt_62 (by decide) ?_
        exact ih17 _ (by omega) (r + ((now i) * (row (n - i)))) (i + 1) rfl (by omega) (by rw [sm_s _ hi.1, ← hr]) (by omega) ls (lv_sub hl [0, 1, 2, 3, 4] rfl)
  exact loop_17 _ 0 0 rfl (by omega) ((sm_0 _).symm) (by omega) ls (lv_sub hl [0, 1, 2, 3, 4] rfl)
theorem h_X6_addFormer_X6 : ∀ w ∈ u_ws RX6 TX6 8, w ∈ wsX6_addFormer := fun w h => List.mem_cons_of_mem _ (List.mem_append_left _ (List.mem_append_right _ h))
theorem m_X6_addFormer_1 : Cond.fieldLink RX6 25 "SealedBox$Register" "formerLength" "I" ∈ wsX6_addFormer := List.mem_of_getElem? (i := 1) rfl
theorem m_X6_addFormer_2 : Cond.fieldLink RX6 31 "SealedBox$Register" "moved" "I" ∈ wsX6_addFormer := List.mem_of_getElem? (i := 2) rfl
theorem m_X6_addFormer_3 : Cond.fieldLink RX6 9 "SealedBox$Register" "now" "[I" ∈ wsX6_addFormer := List.mem_of_getElem? (i := 3) rfl
theorem m_X6_addFormer_4 : Cond.fieldLink RX6 15 "SealedBox$Register" "former" "[I" ∈ wsX6_addFormer := List.mem_of_getElem? (i := 4) rfl
theorem m_X6_addFormer_5 : Cond.fieldLink RX6 34 "SealedBox$Register" "numbers" "LSealedBox$PrimeField;" ∈ wsX6_addFormer := List.mem_of_getElem? (i := 5) rfl
theorem h_X6_addFormer_X4 : ∀ w ∈ u_ws RX4 TX4 2, w ∈ wsX6_addFormer := fun w h => List.mem_cons_of_mem _ (List.mem_append_right _ h)
abbrev rm_X6_addFormer : Room := { frames := 0, cells := 0, slots := 0, locals := 0 }
set_option maxHeartbeats 4000000 in
set_option maxRecDepth 100000 in
theorem c_X6_addFormer (jl : Launch) (D : va_G) (cI : ClassId) (h6 qn qo qs h4 q4 : Nat) (P L fL f m fa : Int) (now fo : Int → Int) (sz : Nat) (hP5 : 5 ≤ P ∧ P ≤ 997) (hfa : 0 ≤ fa ∧ fa ≤ 1000) (hm : 1 ≤ m ∧ 0 ≤ fL ∧ fL + m ≤ 16) (hnow : ∀ j : Int, 0 ≤ j → j ≤ 16 → 0 ≤ now j ∧ now j < P) (hfo : ∀ j : Int, 0 ≤ j → j ≤ 16 → 0 ≤ fo j ∧ fo j < P) : Met jl yX6_addFormer wsX6_addFormer rm_X6_addFormer (xPw [.ref h6, .int (iI fa)] D cI [(h6, .inr (6, [.ref h4, .ref qn, .ref qo, .ref qs, .int (iI L), .int (iI fL), .int (iI f), .int (iI m)])), (qn, .inl (cI, 17, .inl (aI now))), (qo, .inl (cI, 17, .inl (aI fo))), (h4, .inr (4, [.ref q4, .int (iI P)]))] sz) (va_Qv (fun (u : (Int → Int)) => ∀ j : Int, 0 ≤ j → j ≤ 16 → u j = if m ≤ j ∧ j ≤ m + fL then (now j + fa * fo (j - m)) % P else now j) (xB D (fun (u : (Int → Int)) => [(h6, .inr (6, [.ref h4, .ref qn, .ref qo, .ref qs, .int (iI L), .int (iI fL), .int (iI f), .int (iI m)])), (qn, .inl (cI, 17, .inl (aI u))), (qo, .inl (cI, 17, .inl (aI fo))), (h4, .inr (4, [.ref q4, .int (iI P)]))]) (va_A [(h6, .inr (6, [.ref h4, .ref qn, .ref qo, .ref qs, .int (iI L), .int (iI fL), .int (iI f), .int (iI m)])), (qn, .inl (cI, 17, .inl (aI now))), (qo, .inl (cI, 17, .inl (aI fo))), (h4, .inr (4, [.ref q4, .int (iI P)]))] sz)) (va_A [(h6, .inr (6, [.ref h4, .ref qn, .ref qo, .ref qs, .int (iI L), .int (iI fL), .int (iI f), .int (iI m)])), (qn, .inl (cI, 17, .inl (aI now))), (qo, .inl (cI, 17, .inl (aI fo))), (h4, .inr (4, [.ref q4, .int (iI P)]))] sz)) 0 0 (va_A [(h6, .inr (6, [.ref h4, .ref qn, .ref qo, .ref qs, .int (iI L), .int (iI fL), .int (iI f), .int (iI m)])), (qn, .inl (cI, 17, .inl (aI now))), (qo, .inl (cI, 17, .inl (aI fo))), (h4, .inr (4, [.ref q4, .int (iI P)]))] sz) := by
  refine x_metW (own := RX6) (cc := cX6_addFormer) (maxL := 3) (ret := none) (Qc := fun jA => va_Qv (fun (u : (Int → Int)) => ∀ j : Int, 0 ≤ j → j ≤ 16 → u j = if m ≤ j ∧ j ≤ m + fL then (now j + fa * fo (j - m)) % P else now j) (xB D (fun (u : (Int → Int)) => [(h6, .inr (6, [.ref h4, .ref qn, .ref qo, .ref qs, .int (iI L), .int (iI fL), .int (iI f), .int (iI m)])), (qn, .inl (cI, 17, .inl (aI u))), (qo, .inl (cI, 17, .inl (aI fo))), (h4, .inr (4, [.ref q4, .int (iI P)]))]) jA) jA) (by decide) rfl rfl rfl ?_
  intro jp je js jm ja jb jt jc jA jQ jS jr jk jn jq hK hP hD hA hS ls hl
  have hl : lv_has ls 3 [(0, .ref h6), (1, .int (iI fa))] := hl
  refine x_ic jS dX6_addFormer_0 ?_
  refine x_isn (lv' := [(2, .int (iI 0)), (0, .ref h6), (1, .int (iI fa))]) jS dX6_addFormer_1 rfl hl rfl rfl (fun ls hl => ?_)
  have loop_2 : ∀ (mm : Nat) (i : Int) (now1 : Int → Int) (jH : Heap) (jL : List Loc), (fL + 1 - i).toNat = mm → (0 ≤ i ∧ i ≤ fL + 1) → (∀ j : Int, now1 j = if m ≤ j ∧ j < m + i then (now j + fa * fo (j - m)) % P else now j) → va_P D vwCl [(h6, .inr (6, [.ref h4, .ref qn, .ref qo, .ref qs, .int (iI L), .int (iI fL), .int (iI f), .int (iI m)])), (qn, .inl (cI, 17, .inl (aI now1))), (qo, .inl (cI, 17, .inl (aI fo))), (h4, .inr (4, [.ref q4, .int (iI P)]))] jH → va_D jA [(h6, .inr (6, [.ref h4, .ref qn, .ref qo, .ref qs, .int (iI L), .int (iI fL), .int (iI f), .int (iI m)])), (qn, .inl (cI, 17, .inl (aI now1))), (qo, .inl (cI, 17, .inl (aI fo))), (h4, .inr (4, [.ref q4, .int (iI P)]))] → va_S jA js.heap jH jL → ∀ ls : Array Slot, lv_has ls 3 [(2, .int (iI i)), (0, .ref h6), (1, .int (iI fa))] → W jp jl je rm_X6_addFormer js jm ja jb jt jc jH jL 0 0 jQ (F0 jm 2 ls []) := by
    intro mm
    induction mm using Nat.strongRecOn with
    | ind mm ih2 =>
      intro i now1 jH jL hmm2 hi h1 hP hD hS ls hl
      refine x_iln jS dX6_addFormer_2 rfl hl 0 rfl ?_
      refine x_aln jS dX6_addFormer_3 rfl hl 1 rfl ?_
      refine x_get jS hK hP h_X6_addFormer_X6 0 rfl rfl 5 rfl m_X6_addFormer_1 rfl dX6_addFormer_4 ?_
      refine x_cmpgt jS 69 dX6_addFormer_7 (by decide) (by omega) (fun hc7 => ?_) (fun hc7 => ?_)
      · skip
        exact x_vretW jS jr jk jq dX6_addFormer_69 now1 hP hD hS (show ∀ j : Int, 0 ≤ j → j ≤ 16 → now1 j = if m ≤ j ∧ j ≤ m + fL then (now j + fa * fo (j - m)) % P else now j from fun j a b => by rw [h1 j]; by_cases q2 : m ≤ j ∧ j < m + i; rw [if_pos q2, if_pos (by omega)]; rw [if_neg q2, if_neg (by omega)])
      · skip
        refine x_iln jS dX6_addFormer_10 rfl hl 0 rfl ?_
        refine x_aln jS dX6_addFormer_11 rfl hl 1 rfl ?_
        refine x_get jS hK hP h_X6_addFormer_X6 0 rfl rfl 7 rfl m_X6_addFormer_2 rfl dX6_addFormer_12 ?_
        refine x_iadd jS dX6_addFormer_15 ?_
        refine x_aln jS dX6_addFormer_16 rfl hl 1 rfl ?_
        refine x_get jS hK hP h_X6_addFormer_X6 0 rfl rfl 1 rfl m_X6_addFormer_3 rfl dX6_addFormer_17 ?_
        refine x_alen jS hK hP 1 rfl dX6_addFormer_20 ?_
        refine x_cmpge jS 69 dX6_addFormer_21 (by decide) (by omega) (fun hc21 => ?_) (fun hc21 => ?_)
        · exfalso; omega
        refine x_aln jS dX6_addFormer_24 rfl hl 1 rfl ?_
        refine x_get jS hK hP h_X6_addFormer_X6 0 rfl rfl 1 rfl m_X6_addFormer_3 rfl dX6_addFormer_25 ?_
        refine x_iln jS dX6_addFormer_28 rfl hl 0 rfl ?_
        refine x_aln jS dX6_addFormer_29 rfl hl 1 rfl ?_
        refine x_get jS hK hP h_X6_addFormer_X6 0 rfl rfl 7 rfl m_X6_addFormer_2 rfl dX6_addFormer_30 ?_
        refine x_iadd jS dX6_addFormer_33 ?_
        refine x_aln jS dX6_addFormer_34 rfl hl 1 rfl ?_
        refine x_get jS hK hP h_X6_addFormer_X6 0 rfl rfl 1 rfl m_X6_addFormer_3 rfl dX6_addFormer_35 ?_
        refine x_iln jS dX6_addFormer_38 rfl hl 0 rfl ?_
        refine x_aln jS dX6_addFormer_39 rfl hl 1 rfl ?_
        refine x_get jS hK hP h_X6_addFormer_X6 0 rfl rfl 7 rfl m_X6_addFormer_2 rfl dX6_addFormer_40 ?_
        refine x_iadd jS dX6_addFormer_43 ?_
        refine x_iald jS hK hP 1 rfl (by omega) dX6_addFormer_44 ?_
        have hb44 : 0 ≤ now1 (i + m) ∧ now1 (i + m) < P := by rw [h1 (i + m), if_neg (by omega)]; exact hnow _ (by omega) (by omega)
        refine x_iln jS dX6_addFormer_45 rfl hl 2 rfl ?_
        refine x_aln jS dX6_addFormer_46 rfl hl 1 rfl ?_
        refine x_get jS hK hP h_X6_addFormer_X6 0 rfl rfl 2 rfl m_X6_addFormer_4 rfl dX6_addFormer_47 ?_
        refine x_iln jS dX6_addFormer_50 rfl hl 0 rfl ?_
        refine x_iald jS hK hP 2 rfl (by omega) dX6_addFormer_51 ?_
        have hb51 := hfo i (by omega) (by omega)
        refine x_imulB jS dX6_addFormer_52 (by omega) (fun hp52 => ?_)
        refine x_iadd jS dX6_addFormer_53 ?_
        refine x_aln jS dX6_addFormer_54 rfl hl 1 rfl ?_
        refine x_get jS hK hP h_X6_addFormer_X6 0 rfl rfl 0 rfl m_X6_addFormer_5 rfl dX6_addFormer_55 ?_
        refine x_getN jS hK hP h_X6_addFormer_X4 3 rfl rfl 1 rfl 3 rfl rfl dX6_addFormer_58 ?_
        refine x_irem jS dX6_addFormer_61 (by omega) (fun hm61 => ?_)
        refine x_iast (ws' := [(h6, .inr (6, [.ref h4, .ref qn, .ref qo, .ref qs, .int (iI L), .int (iI fL), .int (iI f), .int (iI m)])), (qn, .inl (cI, 17, .inl (aI (uI now1 (i + m) (((now1 (i + m)) + (fa * (fo i))) % P))))), (qo, .inl (cI, 17, .inl (aI fo))), (h4, .inr (4, [.ref q4, .int (iI P)]))]) jS hK hP hD hS 1 rfl (by omega) dX6_addFormer_62 rfl (fun jH jL hP hD hS => ?_)
        refine x_iinc (lv' := [(2, .int (iI (i + 1))), (0, .ref h6), (1, .int (iI fa))]) jS dX6_addFormer_63 hl 0 rfl rfl rfl (fun ls hl => ?_)
        refine x_goto jS 2 dX6_addFormer_66 (by decide) ?_
        exact ih2 _ (by omega) (i + 1) (uI now1 (i + m) (((now1 (i + m)) + (fa * (fo i))) % P)) _ _ rfl (by omega) (fun j => by by_cases q : j = i + m; rw [q, uI_s, if_pos (by omega), h1 (i + m), if_neg (by omega), show i + m - m = i by omega]; rw [uI_n q, h1 j]; by_cases q2 : m ≤ j ∧ j < m + i; rw [if_pos q2, if_pos (by omega)]; rw [if_neg q2, if_neg (by omega)]) hP hD hS ls (lv_sub hl [0, 1, 2] rfl)
  exact loop_2 _ 0 now _ _ rfl (by omega) (fun j => by rw [if_neg (by omega)]) hP hD hS ls (lv_sub hl [0, 1, 2] rfl)
theorem h_X6_weight_X6 : ∀ w ∈ u_ws RX6 TX6 8, w ∈ wsX6_weight := fun w h => List.mem_cons_of_mem _ (List.mem_append_left _ (List.mem_append_right _ h))
theorem m_X6_weight_1 : Cond.fieldLink RX6 9 "SealedBox$Register" "now" "[I" ∈ wsX6_weight := List.mem_of_getElem? (i := 1) rfl
theorem m_X6_weight_2 : Cond.fieldLink RX6 34 "SealedBox$Register" "numbers" "LSealedBox$PrimeField;" ∈ wsX6_weight := List.mem_of_getElem? (i := 2) rfl
theorem kf_X4_less : kfV yX4_less RX4 2 := by decide +kernel
abbrev rm_X6_weight : Room := { frames := 1, cells := 0, slots := 0, locals := 22 }
set_option maxHeartbeats 4000000 in
set_option maxRecDepth 100000 in
theorem c_X6_weight (jl : Launch) (D : va_G) (cI : ClassId) (h6 qn qo qs h4 q4 : Nat) (P L fL f m i : Int) (now : Int → Int)  (hP5 : 5 ≤ P ∧ P ≤ 997) (hi : 1 ≤ i ∧ i ≤ 16) (hnow : 0 ≤ now i ∧ now i ≤ P) : Met jl yX6_weight wsX6_weight rm_X6_weight (xPr [.ref h6, .int (iI i)] D cI [(h6, .inr (6, [.ref h4, .ref qn, .ref qo, .ref qs, .int (iI L), .int (iI fL), .int (iI f), .int (iI m)])), (qn, .inl (cI, 17, .inl (aI now))), (h4, .inr (4, [.ref q4, .int (iI P)]))]) (vp_Si (fun r => r = (iI ((0 + P - now i) % P)))) 0 0 (fun _ => False) := by
  refine x_metR (own := RX6) (cc := cX6_weight) (maxL := 2) (ret := (some .int)) (by decide) rfl rfl rfl ?_
  intro jp je js jm ja jb jt jc jQ jS jr jk jq hK hP ls hl
  have hl : lv_has ls 2 [(0, .ref h6), (1, .int (iI i))] := hl
  refine x_iln jS dX6_weight_0 rfl hl 1 rfl ?_
  refine x_ic jS dX6_weight_1 ?_
  refine x_cmplt jS 31 dX6_weight_2 (by decide) (by omega) (fun hc2 => ?_) (fun hc2 => ?_)
  · exfalso; omega
  refine x_iln jS dX6_weight_5 rfl hl 1 rfl ?_
  refine x_aln jS dX6_weight_6 rfl hl 0 rfl ?_
  refine x_get jS hK hP h_X6_weight_X6 0 rfl rfl 1 rfl m_X6_weight_1 rfl dX6_weight_7 ?_
  refine x_alen jS hK hP 1 rfl dX6_weight_10 ?_
  refine x_cmpge jS 31 dX6_weight_11 (by decide) (by omega) (fun hc11 => ?_) (fun hc11 => ?_)
  · exfalso; omega
  refine x_aln jS dX6_weight_14 rfl hl 0 rfl ?_
  refine x_get jS hK hP h_X6_weight_X6 0 rfl rfl 0 rfl m_X6_weight_2 rfl dX6_weight_15 ?_
  refine x_ic jS dX6_weight_18 ?_
  refine x_aln jS dX6_weight_19 rfl hl 0 rfl ?_
  refine x_get jS hK hP h_X6_weight_X6 0 rfl rfl 1 rfl m_X6_weight_1 rfl dX6_weight_20 ?_
  refine x_iln jS dX6_weight_23 rfl hl 1 rfl ?_
  refine x_iald jS hK hP 1 rfl (by omega) dX6_weight_24 ?_
  refine x_rI (x_rmV (As := [.int (iI 0), .int (iI (now i))]) (rest := []) jS hl.1 hK (c_X4_less jl D cI h4 q4 P 0 (now i) (by first | assumption | omega) (by first | assumption | omega) (by first | assumption | omega)) (hP.sub [2] rfl) 0 rfl rfl gX6_weight_X4_less rfl rfl rfl kf_X4_less rfl rfl rfl rfl rfl dX6_weight_25 rfl rfl) ?_
  refine x_goto jS 32 dX6_weight_28 (by decide) ?_
  exact x_iretR jS jr jk jq dX6_weight_32 (rfl)
theorem h_X6_begin_X6 : ∀ w ∈ u_ws RX6 TX6 8, w ∈ wsX6_begin := fun w h => List.mem_cons_of_mem _ (List.mem_append_right _ h)
theorem m_X6_begin_1 : Cond.fieldLink RX6 9 "SealedBox$Register" "now" "[I" ∈ wsX6_begin := List.mem_of_getElem? (i := 1) rfl
theorem m_X6_begin_2 : Cond.fieldLink RX6 15 "SealedBox$Register" "former" "[I" ∈ wsX6_begin := List.mem_of_getElem? (i := 2) rfl
theorem m_X6_begin_3 : Cond.fieldLink RX6 21 "SealedBox$Register" "length" "I" ∈ wsX6_begin := List.mem_of_getElem? (i := 3) rfl
theorem m_X6_begin_4 : Cond.fieldLink RX6 25 "SealedBox$Register" "formerLength" "I" ∈ wsX6_begin := List.mem_of_getElem? (i := 4) rfl
theorem m_X6_begin_5 : Cond.fieldLink RX6 28 "SealedBox$Register" "formerError" "I" ∈ wsX6_begin := List.mem_of_getElem? (i := 5) rfl
theorem m_X6_begin_6 : Cond.fieldLink RX6 31 "SealedBox$Register" "moved" "I" ∈ wsX6_begin := List.mem_of_getElem? (i := 6) rfl
abbrev rm_X6_begin : Room := { frames := 0, cells := 0, slots := 0, locals := 0 }
set_option maxHeartbeats 4000000 in
set_option maxRecDepth 100000 in
theorem c_X6_begin (jl : Launch) (D : va_G) (cI : ClassId) (h6 qn qo qs h4 : Nat) (L fL f m : Int) (now fo : Int → Int) (sz : Nat) : Met jl yX6_begin wsX6_begin rm_X6_begin (xPw [.ref h6] D cI [(h6, .inr (6, [.ref h4, .ref qn, .ref qo, .ref qs, .int (iI L), .int (iI fL), .int (iI f), .int (iI m)])), (qn, .inl (cI, 17, .inl (aI now))), (qo, .inl (cI, 17, .inl (aI fo)))] sz) (va_Qv (fun (u : (Int → Int) × (Int → Int)) => rgR 0 bm0 u.1 u.2 0 0 1 1) (xB D (fun (u : (Int → Int) × (Int → Int)) => [(h6, .inr (6, [.ref h4, .ref qn, .ref qo, .ref qs, .int (iI 0), .int (iI 0), .int (iI 1), .int (iI 1)])), (qn, .inl (cI, 17, .inl (aI u.1))), (qo, .inl (cI, 17, .inl (aI u.2)))]) (va_A [(h6, .inr (6, [.ref h4, .ref qn, .ref qo, .ref qs, .int (iI L), .int (iI fL), .int (iI f), .int (iI m)])), (qn, .inl (cI, 17, .inl (aI now))), (qo, .inl (cI, 17, .inl (aI fo)))] sz)) (va_A [(h6, .inr (6, [.ref h4, .ref qn, .ref qo, .ref qs, .int (iI L), .int (iI fL), .int (iI f), .int (iI m)])), (qn, .inl (cI, 17, .inl (aI now))), (qo, .inl (cI, 17, .inl (aI fo)))] sz)) 0 0 (va_A [(h6, .inr (6, [.ref h4, .ref qn, .ref qo, .ref qs, .int (iI L), .int (iI fL), .int (iI f), .int (iI m)])), (qn, .inl (cI, 17, .inl (aI now))), (qo, .inl (cI, 17, .inl (aI fo)))] sz) := by
  refine x_metW (own := RX6) (cc := cX6_begin) (maxL := 2) (ret := none) (Qc := fun jA => va_Qv (fun (u : (Int → Int) × (Int → Int)) => rgR 0 bm0 u.1 u.2 0 0 1 1) (xB D (fun (u : (Int → Int) × (Int → Int)) => [(h6, .inr (6, [.ref h4, .ref qn, .ref qo, .ref qs, .int (iI 0), .int (iI 0), .int (iI 1), .int (iI 1)])), (qn, .inl (cI, 17, .inl (aI u.1))), (qo, .inl (cI, 17, .inl (aI u.2)))]) jA) jA) (by decide) rfl rfl rfl ?_
  intro jp je js jm ja jb jt jc jA jQ jS jr jk jn jq hK hP hD hA hS ls hl
  have hl : lv_has ls 2 [(0, .ref h6)] := hl
  refine x_ic jS dX6_begin_0 ?_
  refine x_isn (lv' := [(1, .int (iI 0)), (0, .ref h6)]) jS dX6_begin_1 rfl hl rfl rfl (fun ls hl => ?_)
  have loop_2 : ∀ (mm : Nat) (i : Int) (now1 : Int → Int) (fo1 : Int → Int) (jH : Heap) (jL : List Loc), (17 - i).toNat = mm → (0 ≤ i ∧ i ≤ 17) → (∀ j : Int, 0 ≤ j → j < i → now1 j = 0 ∧ fo1 j = 0) → va_P D vwCl [(h6, .inr (6, [.ref h4, .ref qn, .ref qo, .ref qs, .int (iI L), .int (iI fL), .int (iI f), .int (iI m)])), (qn, .inl (cI, 17, .inl (aI now1))), (qo, .inl (cI, 17, .inl (aI fo1)))] jH → va_D jA [(h6, .inr (6, [.ref h4, .ref qn, .ref qo, .ref qs, .int (iI L), .int (iI fL), .int (iI f), .int (iI m)])), (qn, .inl (cI, 17, .inl (aI now1))), (qo, .inl (cI, 17, .inl (aI fo1)))] → va_S jA js.heap jH jL → ∀ ls : Array Slot, lv_has ls 2 [(1, .int (iI i)), (0, .ref h6)] → W jp jl je rm_X6_begin js jm ja jb jt jc jH jL 0 0 jQ (F0 jm 2 ls []) := by
    intro mm
    induction mm using Nat.strongRecOn with
    | ind mm ih2 =>
      intro i now1 fo1 jH jL hmm2 hi h1 hP hD hS ls hl
      refine x_iln jS dX6_begin_2 rfl hl 0 rfl ?_
      refine x_aln jS dX6_begin_3 rfl hl 1 rfl ?_
      refine x_get jS hK hP h_X6_begin_X6 0 rfl rfl 1 rfl m_X6_begin_1 rfl dX6_begin_4 ?_
      refine x_alen jS hK hP 1 rfl dX6_begin_7 ?_
      refine x_cmpge jS 31 dX6_begin_8 (by decide) (by omega) (fun hc8 => ?_) (fun hc8 => ?_)
      · skip
        refine x_aln jS dX6_begin_31 rfl hl 1 rfl ?_
        refine x_get jS hK hP h_X6_begin_X6 0 rfl rfl 1 rfl m_X6_begin_1 rfl dX6_begin_32 ?_
        refine x_ic jS dX6_begin_35 ?_
        refine x_ic jS dX6_begin_36 ?_
        refine x_iast (ws' := [(h6, .inr (6, [.ref h4, .ref qn, .ref qo, .ref qs, .int (iI L), .int (iI fL), .int (iI f), .int (iI m)])), (qn, .inl (cI, 17, .inl (aI (uI now1 0 1)))), (qo, .inl (cI, 17, .inl (aI fo1)))]) jS hK hP hD hS 1 rfl (by omega) dX6_begin_37 rfl (fun jH jL hP hD hS => ?_)
        refine x_aln jS dX6_begin_38 rfl hl 1 rfl ?_
        refine x_get jS hK hP h_X6_begin_X6 0 rfl rfl 2 rfl m_X6_begin_2 rfl dX6_begin_39 ?_
        refine x_ic jS dX6_begin_42 ?_
        refine x_ic jS dX6_begin_43 ?_
        refine x_iast (ws' := [(h6, .inr (6, [.ref h4, .ref qn, .ref qo, .ref qs, .int (iI L), .int (iI fL), .int (iI f), .int (iI m)])), (qn, .inl (cI, 17, .inl (aI (uI now1 0 1)))), (qo, .inl (cI, 17, .inl (aI (uI fo1 0 1))))]) jS hK hP hD hS 2 rfl (by omega) dX6_begin_44 rfl (fun jH jL hP hD hS => ?_)
        refine x_aln jS dX6_begin_45 rfl hl 1 rfl ?_
        refine x_ic jS dX6_begin_46 ?_
        refine x_put (ty0 := tyX6) (ws' := [(h6, .inr (6, [.ref h4, .ref qn, .ref qo, .ref qs, .int (iI 0), .int (iI fL), .int (iI f), .int (iI m)])), (qn, .inl (cI, 17, .inl (aI (uI now1 0 1)))), (qo, .inl (cI, 17, .inl (aI (uI fo1 0 1))))]) jS hK hP hD hS h_X6_begin_X6 tyX6_ok nmX6 0 rfl rfl 4 rfl m_X6_begin_3 rfl rfl rfl rfl dX6_begin_47 rfl (fun jH jL hP hD hS => ?_)
        refine x_aln jS dX6_begin_50 rfl hl 1 rfl ?_
        refine x_ic jS dX6_begin_51 ?_
        refine x_put (ty0 := tyX6) (ws' := [(h6, .inr (6, [.ref h4, .ref qn, .ref qo, .ref qs, .int (iI 0), .int (iI 0), .int (iI f), .int (iI m)])), (qn, .inl (cI, 17, .inl (aI (uI now1 0 1)))), (qo, .inl (cI, 17, .inl (aI (uI fo1 0 1))))]) jS hK hP hD hS h_X6_begin_X6 tyX6_ok nmX6 0 rfl rfl 5 rfl m_X6_begin_4 rfl rfl rfl rfl dX6_begin_52 rfl (fun jH jL hP hD hS => ?_)
        refine x_aln jS dX6_begin_55 rfl hl 1 rfl ?_
        refine x_ic jS dX6_begin_56 ?_
        refine x_put (ty0 := tyX6) (ws' := [(h6, .inr (6, [.ref h4, .ref qn, .ref qo, .ref qs, .int (iI 0), .int (iI 0), .int (iI 1), .int (iI m)])), (qn, .inl (cI, 17, .inl (aI (uI now1 0 1)))), (qo, .inl (cI, 17, .inl (aI (uI fo1 0 1))))]) jS hK hP hD hS h_X6_begin_X6 tyX6_ok nmX6 0 rfl rfl 6 rfl m_X6_begin_5 rfl rfl rfl rfl dX6_begin_57 rfl (fun jH jL hP hD hS => ?_)
        refine x_aln jS dX6_begin_60 rfl hl 1 rfl ?_
        refine x_ic jS dX6_begin_61 ?_
        refine x_put (ty0 := tyX6) (ws' := [(h6, .inr (6, [.ref h4, .ref qn, .ref qo, .ref qs, .int (iI 0), .int (iI 0), .int (iI 1), .int (iI 1)])), (qn, .inl (cI, 17, .inl (aI (uI now1 0 1)))), (qo, .inl (cI, 17, .inl (aI (uI fo1 0 1))))]) jS hK hP hD hS h_X6_begin_X6 tyX6_ok nmX6 0 rfl rfl 7 rfl m_X6_begin_6 rfl rfl rfl rfl dX6_begin_62 rfl (fun jH jL hP hD hS => ?_)
        exact x_vretW jS jr jk jq dX6_begin_65 ⟨(uI now1 0 1), (uI fo1 0 1)⟩ hP hD hS (show rgR 0 bm0 (uI now1 0 1) (uI fo1 0 1) 0 0 1 1 from ⟨rfl, rfl, rfl, rfl, fun j a b => by unfold bm0 c00; dsimp only; by_cases q : j = 0; rw [q, uI_s, uI_s]; exact ⟨rfl, rfl⟩; rw [uI_n q, uI_n q, if_neg q]; exact h1 j a (by omega)⟩)
      · skip
        refine x_aln jS dX6_begin_11 rfl hl 1 rfl ?_
        refine x_get jS hK hP h_X6_begin_X6 0 rfl rfl 1 rfl m_X6_begin_1 rfl dX6_begin_12 ?_
        refine x_iln jS dX6_begin_15 rfl hl 0 rfl ?_
        refine x_ic jS dX6_begin_16 ?_
        refine x_iast (ws' := [(h6, .inr (6, [.ref h4, .ref qn, .ref qo, .ref qs, .int (iI L), .int (iI fL), .int (iI f), .int (iI m)])), (qn, .inl (cI, 17, .inl (aI (uI now1 i 0)))), (qo, .inl (cI, 17, .inl (aI fo1)))]) jS hK hP hD hS 1 rfl (by omega) dX6_begin_17 rfl (fun jH jL hP hD hS => ?_)
        refine x_aln jS dX6_begin_18 rfl hl 1 rfl ?_
        refine x_get jS hK hP h_X6_begin_X6 0 rfl rfl 2 rfl m_X6_begin_2 rfl dX6_begin_19 ?_
        refine x_iln jS dX6_begin_22 rfl hl 0 rfl ?_
        refine x_ic jS dX6_begin_23 ?_
        refine x_iast (ws' := [(h6, .inr (6, [.ref h4, .ref qn, .ref qo, .ref qs, .int (iI L), .int (iI fL), .int (iI f), .int (iI m)])), (qn, .inl (cI, 17, .inl (aI (uI now1 i 0)))), (qo, .inl (cI, 17, .inl (aI (uI fo1 i 0))))]) jS hK hP hD hS 2 rfl (by omega) dX6_begin_24 rfl (fun jH jL hP hD hS => ?_)
        refine x_iinc (lv' := [(1, .int (iI (i + 1))), (0, .ref h6)]) jS dX6_begin_25 hl 0 rfl rfl rfl (fun ls hl => ?_)
        refine x_goto jS 2 dX6_begin_28 (by decide) ?_
        exact ih2 _ (by omega) (i + 1) (uI now1 i 0) (uI fo1 i 0) _ _ rfl (by omega) (fun j a b => by rcases Int.lt_or_le j i with q | q; rw [uI_n (by omega), uI_n (by omega)]; exact h1 j a q; rw [show j = i by omega, uI_s, uI_s]; exact ⟨rfl, rfl⟩) hP hD hS ls (lv_sub hl [0, 1] rfl)
  exact loop_2 _ 0 now fo _ _ rfl (by omega) (fun j a b => by omega) hP hD hS ls (lv_sub hl [0, 1] rfl)
theorem h_X6_copyOf_X6 : ∀ w ∈ u_ws RX6 TX6 8, w ∈ wsX6_copyOf := fun w h => List.mem_cons_of_mem _ (List.mem_append_right _ h)
theorem m_X6_copyOf_1 : Cond.fieldLink RX6 9 "SealedBox$Register" "now" "[I" ∈ wsX6_copyOf := List.mem_of_getElem? (i := 1) rfl
theorem m_X6_copyOf_2 : Cond.methodLink RX6 45 arraycopyName ∈ wsX6_copyOf := List.mem_of_getElem? (i := 2) rfl
theorem m_X6_copyOf_3 : Cond.native arraycopyName ∈ wsX6_copyOf := List.mem_of_getElem? (i := 3) rfl
theorem m_X6_copyOf_4 : Cond.static arraycopyName ∈ wsX6_copyOf := List.mem_of_getElem? (i := 4) rfl
theorem m_X6_copyOf_5 : Cond.initialized "java/lang/System" ∈ wsX6_copyOf := List.mem_of_getElem? (i := 5) rfl
theorem m_X6_copyOf_6 : Cond.fieldLink RX6 15 "SealedBox$Register" "former" "[I" ∈ wsX6_copyOf := List.mem_of_getElem? (i := 6) rfl
theorem m_X6_copyOf_7 : Cond.fieldLink RX6 21 "SealedBox$Register" "length" "I" ∈ wsX6_copyOf := List.mem_of_getElem? (i := 7) rfl
theorem m_X6_copyOf_8 : Cond.fieldLink RX6 25 "SealedBox$Register" "formerLength" "I" ∈ wsX6_copyOf := List.mem_of_getElem? (i := 8) rfl
theorem m_X6_copyOf_9 : Cond.fieldLink RX6 28 "SealedBox$Register" "formerError" "I" ∈ wsX6_copyOf := List.mem_of_getElem? (i := 9) rfl
theorem m_X6_copyOf_10 : Cond.fieldLink RX6 31 "SealedBox$Register" "moved" "I" ∈ wsX6_copyOf := List.mem_of_getElem? (i := 10) rfl
abbrev rm_X6_copyOf : Room := { frames := 1, cells := 0, slots := 0, locals := 60 }
set_option maxHeartbeats 4000000 in
set_option maxRecDepth 100000 in
theorem c_X6_copyOf (jl : Launch) (D : va_G) (cI : ClassId) (h6 qn qo qs h4 h7 qn7 qo7 qs7 : Nat) (L fL f m L7 fL7 f7 m7 : Int) (now fo now7 fo7 : Int → Int) (sz : Nat) : Met jl yX6_copyOf wsX6_copyOf rm_X6_copyOf (xPw [.ref h6, .ref h7] D cI [(h6, .inr (6, [.ref h4, .ref qn, .ref qo, .ref qs, .int (iI L), .int (iI fL), .int (iI f), .int (iI m)])), (qn, .inl (cI, 17, .inl (aI now))), (qo, .inl (cI, 17, .inl (aI fo))), (h7, .inr (6, [.ref h4, .ref qn7, .ref qo7, .ref qs7, .int (iI L7), .int (iI fL7), .int (iI f7), .int (iI m7)])), (qn7, .inl (cI, 17, .inl (aI now7))), (qo7, .inl (cI, 17, .inl (aI fo7)))] sz) (va_Qv (fun (u : (Int → Int) × (Int → Int)) => ∀ j : Int, 0 ≤ j → j ≤ 16 → u.1 j = now7 j ∧ u.2 j = fo7 j) (xB D (fun (u : (Int → Int) × (Int → Int)) => [(h6, .inr (6, [.ref h4, .ref qn, .ref qo, .ref qs, .int (iI L7), .int (iI fL7), .int (iI f7), .int (iI m7)])), (qn, .inl (cI, 17, .inl (aI u.1))), (qo, .inl (cI, 17, .inl (aI u.2))), (h7, .inr (6, [.ref h4, .ref qn7, .ref qo7, .ref qs7, .int (iI L7), .int (iI fL7), .int (iI f7), .int (iI m7)])), (qn7, .inl (cI, 17, .inl (aI now7))), (qo7, .inl (cI, 17, .inl (aI fo7)))]) (va_A [(h6, .inr (6, [.ref h4, .ref qn, .ref qo, .ref qs, .int (iI L), .int (iI fL), .int (iI f), .int (iI m)])), (qn, .inl (cI, 17, .inl (aI now))), (qo, .inl (cI, 17, .inl (aI fo))), (h7, .inr (6, [.ref h4, .ref qn7, .ref qo7, .ref qs7, .int (iI L7), .int (iI fL7), .int (iI f7), .int (iI m7)])), (qn7, .inl (cI, 17, .inl (aI now7))), (qo7, .inl (cI, 17, .inl (aI fo7)))] sz)) (va_A [(h6, .inr (6, [.ref h4, .ref qn, .ref qo, .ref qs, .int (iI L), .int (iI fL), .int (iI f), .int (iI m)])), (qn, .inl (cI, 17, .inl (aI now))), (qo, .inl (cI, 17, .inl (aI fo))), (h7, .inr (6, [.ref h4, .ref qn7, .ref qo7, .ref qs7, .int (iI L7), .int (iI fL7), .int (iI f7), .int (iI m7)])), (qn7, .inl (cI, 17, .inl (aI now7))), (qo7, .inl (cI, 17, .inl (aI fo7)))] sz)) 0 0 (va_A [(h6, .inr (6, [.ref h4, .ref qn, .ref qo, .ref qs, .int (iI L), .int (iI fL), .int (iI f), .int (iI m)])), (qn, .inl (cI, 17, .inl (aI now))), (qo, .inl (cI, 17, .inl (aI fo))), (h7, .inr (6, [.ref h4, .ref qn7, .ref qo7, .ref qs7, .int (iI L7), .int (iI fL7), .int (iI f7), .int (iI m7)])), (qn7, .inl (cI, 17, .inl (aI now7))), (qo7, .inl (cI, 17, .inl (aI fo7)))] sz) := by
  refine x_metW (own := RX6) (cc := cX6_copyOf) (maxL := 2) (ret := none) (Qc := fun jA => va_Qv (fun (u : (Int → Int) × (Int → Int)) => ∀ j : Int, 0 ≤ j → j ≤ 16 → u.1 j = now7 j ∧ u.2 j = fo7 j) (xB D (fun (u : (Int → Int) × (Int → Int)) => [(h6, .inr (6, [.ref h4, .ref qn, .ref qo, .ref qs, .int (iI L7), .int (iI fL7), .int (iI f7), .int (iI m7)])), (qn, .inl (cI, 17, .inl (aI u.1))), (qo, .inl (cI, 17, .inl (aI u.2))), (h7, .inr (6, [.ref h4, .ref qn7, .ref qo7, .ref qs7, .int (iI L7), .int (iI fL7), .int (iI f7), .int (iI m7)])), (qn7, .inl (cI, 17, .inl (aI now7))), (qo7, .inl (cI, 17, .inl (aI fo7)))]) jA) jA) (by decide) rfl rfl rfl ?_
  intro jp je js jm ja jb jt jc jA jQ jS jr jk jn jq hK hP hD hA hS ls hl
  have hl : lv_has ls 2 [(0, .ref h6), (1, .ref h7)] := hl
  refine x_aln jS dX6_copyOf_0 rfl hl 1 rfl ?_
  refine x_get jS hK hP h_X6_copyOf_X6 3 rfl rfl 1 rfl m_X6_copyOf_1 rfl dX6_copyOf_1 ?_
  refine x_ic jS dX6_copyOf_4 ?_
  refine x_aln jS dX6_copyOf_5 rfl hl 0 rfl ?_
  refine x_get jS hK hP h_X6_copyOf_X6 0 rfl rfl 1 rfl m_X6_copyOf_1 rfl dX6_copyOf_6 ?_
  refine x_ic jS dX6_copyOf_9 ?_
  refine x_aln jS dX6_copyOf_10 rfl hl 0 rfl ?_
  refine x_get jS hK hP h_X6_copyOf_X6 0 rfl rfl 1 rfl m_X6_copyOf_1 rfl dX6_copyOf_11 ?_
  refine x_alen jS hK hP 1 rfl dX6_copyOf_14 ?_
  refine x_copy (ws' := [(h6, .inr (6, [.ref h4, .ref qn, .ref qo, .ref qs, .int (iI L), .int (iI fL), .int (iI f), .int (iI m)])), (qn, .inl (cI, 17, .inl (aI (cpI now7 now ((17 : Nat) : Int))))), (qo, .inl (cI, 17, .inl (aI fo))), (h7, .inr (6, [.ref h4, .ref qn7, .ref qo7, .ref qs7, .int (iI L7), .int (iI fL7), .int (iI f7), .int (iI m7)])), (qn7, .inl (cI, 17, .inl (aI now7))), (qo7, .inl (cI, 17, .inl (aI fo7)))]) (N := 17) jS hl.1 hK hP hD hS 4 1 rfl rfl m_X6_copyOf_2 m_X6_copyOf_3 m_X6_copyOf_4 m_X6_copyOf_5 rfl rfl dX6_copyOf_15 rfl rfl (fun jH jL hP hD hS => ?_)
  refine x_aln jS dX6_copyOf_18 rfl hl 1 rfl ?_
  refine x_get jS hK hP h_X6_copyOf_X6 3 rfl rfl 2 rfl m_X6_copyOf_6 rfl dX6_copyOf_19 ?_
  refine x_ic jS dX6_copyOf_22 ?_
  refine x_aln jS dX6_copyOf_23 rfl hl 0 rfl ?_
  refine x_get jS hK hP h_X6_copyOf_X6 0 rfl rfl 2 rfl m_X6_copyOf_6 rfl dX6_copyOf_24 ?_
  refine x_ic jS dX6_copyOf_27 ?_
  refine x_aln jS dX6_copyOf_28 rfl hl 0 rfl ?_
  refine x_get jS hK hP h_X6_copyOf_X6 0 rfl rfl 2 rfl m_X6_copyOf_6 rfl dX6_copyOf_29 ?_
  refine x_alen jS hK hP 2 rfl dX6_copyOf_32 ?_
  refine x_copy (ws' := [(h6, .inr (6, [.ref h4, .ref qn, .ref qo, .ref qs, .int (iI L), .int (iI fL), .int (iI f), .int (iI m)])), (qn, .inl (cI, 17, .inl (aI (cpI now7 now ((17 : Nat) : Int))))), (qo, .inl (cI, 17, .inl (aI (cpI fo7 fo ((17 : Nat) : Int))))), (h7, .inr (6, [.ref h4, .ref qn7, .ref qo7, .ref qs7, .int (iI L7), .int (iI fL7), .int (iI f7), .int (iI m7)])), (qn7, .inl (cI, 17, .inl (aI now7))), (qo7, .inl (cI, 17, .inl (aI fo7)))]) (N := 17) jS hl.1 hK hP hD hS 5 2 rfl rfl m_X6_copyOf_2 m_X6_copyOf_3 m_X6_copyOf_4 m_X6_copyOf_5 rfl rfl dX6_copyOf_33 rfl rfl (fun jH jL hP hD hS => ?_)
  refine x_aln jS dX6_copyOf_36 rfl hl 0 rfl ?_
  refine x_aln jS dX6_copyOf_37 rfl hl 1 rfl ?_
  refine x_get jS hK hP h_X6_copyOf_X6 3 rfl rfl 4 rfl m_X6_copyOf_7 rfl dX6_copyOf_38 ?_
  refine x_put (ty0 := tyX6) (ws' := [(h6, .inr (6, [.ref h4, .ref qn, .ref qo, .ref qs, .int (iI L7), .int (iI fL), .int (iI f), .int (iI m)])), (qn, .inl (cI, 17, .inl (aI (cpI now7 now ((17 : Nat) : Int))))), (qo, .inl (cI, 17, .inl (aI (cpI fo7 fo ((17 : Nat) : Int))))), (h7, .inr (6, [.ref h4, .ref qn7, .ref qo7, .ref qs7, .int (iI L7), .int (iI fL7), .int (iI f7), .int (iI m7)])), (qn7, .inl (cI, 17, .inl (aI now7))), (qo7, .inl (cI, 17, .inl (aI fo7)))]) jS hK hP hD hS h_X6_copyOf_X6 tyX6_ok nmX6 0 rfl rfl 4 rfl m_X6_copyOf_7 rfl rfl rfl rfl dX6_copyOf_41 rfl (fun jH jL hP hD hS => ?_)
  refine x_aln jS dX6_copyOf_44 rfl hl 0 rfl ?_
  refine x_aln jS dX6_copyOf_45 rfl hl 1 rfl ?_
  refine x_get jS hK hP h_X6_copyOf_X6 3 rfl rfl 5 rfl m_X6_copyOf_8 rfl dX6_copyOf_46 ?_
  refine x_put (ty0 := tyX6) (ws' := [(h6, .inr (6, [.ref h4, .ref qn, .ref qo, .ref qs, .int (iI L7), .int (iI fL7), .int (iI f), .int (iI m)])), (qn, .inl (cI, 17, .inl (aI (cpI now7 now ((17 : Nat) : Int))))), (qo, .inl (cI, 17, .inl (aI (cpI fo7 fo ((17 : Nat) : Int))))), (h7, .inr (6, [.ref h4, .ref qn7, .ref qo7, .ref qs7, .int (iI L7), .int (iI fL7), .int (iI f7), .int (iI m7)])), (qn7, .inl (cI, 17, .inl (aI now7))), (qo7, .inl (cI, 17, .inl (aI fo7)))]) jS hK hP hD hS h_X6_copyOf_X6 tyX6_ok nmX6 0 rfl rfl 5 rfl m_X6_copyOf_8 rfl rfl rfl rfl dX6_copyOf_49 rfl (fun jH jL hP hD hS => ?_)
  refine x_aln jS dX6_copyOf_52 rfl hl 0 rfl ?_
  refine x_aln jS dX6_copyOf_53 rfl hl 1 rfl ?_
  refine x_get jS hK hP h_X6_copyOf_X6 3 rfl rfl 6 rfl m_X6_copyOf_9 rfl dX6_copyOf_54 ?_
  refine x_put (ty0 := tyX6) (ws' := [(h6, .inr (6, [.ref h4, .ref qn, .ref qo, .ref qs, .int (iI L7), .int (iI fL7), .int (iI f7), .int (iI m)])), (qn, .inl (cI, 17, .inl (aI (cpI now7 now ((17 : Nat) : Int))))), (qo, .inl (cI, 17, .inl (aI (cpI fo7 fo ((17 : Nat) : Int))))), (h7, .inr (6, [.ref h4, .ref qn7, .ref qo7, .ref qs7, .int (iI L7), .int (iI fL7), .int (iI f7), .int (iI m7)])), (qn7, .inl (cI, 17, .inl (aI now7))), (qo7, .inl (cI, 17, .inl (aI fo7)))]) jS hK hP hD hS h_X6_copyOf_X6 tyX6_ok nmX6 0 rfl rfl 6 rfl m_X6_copyOf_9 rfl rfl rfl rfl dX6_copyOf_57 rfl (fun jH jL hP hD hS => ?_)
  refine x_aln jS dX6_copyOf_60 rfl hl 0 rfl ?_
  refine x_aln jS dX6_copyOf_61 rfl hl 1 rfl ?_
  refine x_get jS hK hP h_X6_copyOf_X6 3 rfl rfl 7 rfl m_X6_copyOf_10 rfl dX6_copyOf_62 ?_
  refine x_put (ty0 := tyX6) (ws' := [(h6, .inr (6, [.ref h4, .ref qn, .ref qo, .ref qs, .int (iI L7), .int (iI fL7), .int (iI f7), .int (iI m7)])), (qn, .inl (cI, 17, .inl (aI (cpI now7 now ((17 : Nat) : Int))))), (qo, .inl (cI, 17, .inl (aI (cpI fo7 fo ((17 : Nat) : Int))))), (h7, .inr (6, [.ref h4, .ref qn7, .ref qo7, .ref qs7, .int (iI L7), .int (iI fL7), .int (iI f7), .int (iI m7)])), (qn7, .inl (cI, 17, .inl (aI now7))), (qo7, .inl (cI, 17, .inl (aI fo7)))]) jS hK hP hD hS h_X6_copyOf_X6 tyX6_ok nmX6 0 rfl rfl 7 rfl m_X6_copyOf_10 rfl rfl rfl rfl dX6_copyOf_65 rfl (fun jH jL hP hD hS => ?_)
  exact x_vretW jS jr jk jq dX6_copyOf_68 ⟨(cpI now7 now ((17 : Nat) : Int)), (cpI fo7 fo ((17 : Nat) : Int))⟩ hP hD hS (show ∀ j : Int, 0 ≤ j → j ≤ 16 → (cpI now7 now ((17 : Nat) : Int)) j = now7 j ∧ (cpI fo7 fo ((17 : Nat) : Int)) j = fo7 j from fun j a b => by unfold cpI; rw [if_pos (by omega), if_pos (by omega)]; exact ⟨rfl, rfl⟩)
theorem kf_X6_errorAt : kfV yX6_errorAt RX6 2 := by decide +kernel
theorem h_X6_take_X6 : ∀ w ∈ u_ws RX6 TX6 8, w ∈ wsX6_take := fun w h => List.mem_cons_of_mem _ (List.mem_append_left _ (List.mem_append_right _ h))
theorem m_X6_take_2 : Cond.fieldLink RX6 34 "SealedBox$Register" "numbers" "LSealedBox$PrimeField;" ∈ wsX6_take := List.mem_of_getElem? (i := 2) rfl
theorem h_X6_take_X4 : ∀ w ∈ u_ws RX4 TX4 2, w ∈ wsX6_take := fun w h => List.mem_cons_of_mem _ (List.mem_append_right _ h)
theorem m_X6_take_3 : Cond.fieldLink RX6 28 "SealedBox$Register" "formerError" "I" ∈ wsX6_take := List.mem_of_getElem? (i := 3) rfl
theorem kf_X4_over : kfV yX4_over RX4 2 := by decide +kernel
theorem m_X6_take_4 : Cond.fieldLink RX6 21 "SealedBox$Register" "length" "I" ∈ wsX6_take := List.mem_of_getElem? (i := 4) rfl
theorem m_X6_take_5 : Cond.fieldLink RX6 9 "SealedBox$Register" "now" "[I" ∈ wsX6_take := List.mem_of_getElem? (i := 5) rfl
theorem m_X6_take_6 : Cond.fieldLink RX6 18 "SealedBox$Register" "spare" "[I" ∈ wsX6_take := List.mem_of_getElem? (i := 6) rfl
theorem m_X6_take_7 : Cond.methodLink RX6 45 arraycopyName ∈ wsX6_take := List.mem_of_getElem? (i := 7) rfl
theorem m_X6_take_8 : Cond.native arraycopyName ∈ wsX6_take := List.mem_of_getElem? (i := 8) rfl
theorem m_X6_take_9 : Cond.static arraycopyName ∈ wsX6_take := List.mem_of_getElem? (i := 9) rfl
theorem m_X6_take_10 : Cond.initialized "java/lang/System" ∈ wsX6_take := List.mem_of_getElem? (i := 10) rfl
theorem kf_X6_addFormer : kfV yX6_addFormer RX6 1 := by decide +kernel
theorem m_X6_take_11 : Cond.fieldLink RX6 15 "SealedBox$Register" "former" "[I" ∈ wsX6_take := List.mem_of_getElem? (i := 11) rfl
theorem m_X6_take_12 : Cond.fieldLink RX6 25 "SealedBox$Register" "formerLength" "I" ∈ wsX6_take := List.mem_of_getElem? (i := 12) rfl
theorem m_X6_take_1 : Cond.fieldLink RX6 31 "SealedBox$Register" "moved" "I" ∈ wsX6_take := List.mem_of_getElem? (i := 1) rfl
abbrev rm_X6_take : Room := { frames := 1, cells := 0, slots := 0, locals := 60 }
set_option maxHeartbeats 4000000 in
set_option maxRecDepth 100000 in
theorem c_X6_take (jl : Launch) (D : va_G) (cI : ClassId) (h6 qn qo qs h4 q4 : Nat) (qr nr : Nat) (P L fL f m n : Int) (now fo sp iv row : Int → Int) (rs : RS) (sz : Nat) (hP5 : 5 ≤ P ∧ P ≤ 997) (htb : tbF P iv) (hnr : nr ≤ 16) (hn : 0 ≤ n ∧ n < nr) (hrow : ∀ j : Int, 0 ≤ j → j ≤ n → 0 ≤ row j ∧ row j < P) (hI : bmI P n rs) (hR : rgR n rs now fo L fL f m) : Met jl yX6_take wsX6_take rm_X6_take (xPw [.ref h6, .ref qr, .int (iI n)] D cI [(h6, .inr (6, [.ref h4, .ref qn, .ref qo, .ref qs, .int (iI L), .int (iI fL), .int (iI f), .int (iI m)])), (qn, .inl (cI, 17, .inl (aI now))), (qo, .inl (cI, 17, .inl (aI fo))), (qs, .inl (cI, 17, .inl (aI sp))), (qr, .inl (cI, nr, .inl (aI row))), (h4, .inr (4, [.ref q4, .int (iI P)])), (q4, .inl (cI, 997, .inl (aI iv)))] sz) (va_Qv (fun (u : Nat × Nat × (Int → Int) × (Int → Int) × (Int → Int) × Int × Int × Int × Int) => rgR (n + 1) (bmS P row n rs) u.2.2.1 u.2.2.2.1 u.2.2.2.2.2.1 u.2.2.2.2.2.2.1 u.2.2.2.2.2.2.2.1 u.2.2.2.2.2.2.2.2) (xB D (fun (u : Nat × Nat × (Int → Int) × (Int → Int) × (Int → Int) × Int × Int × Int × Int) => [(h6, .inr (6, [.ref h4, .ref qn, .ref u.1, .ref u.2.1, .int (iI u.2.2.2.2.2.1), .int (iI u.2.2.2.2.2.2.1), .int (iI u.2.2.2.2.2.2.2.1), .int (iI u.2.2.2.2.2.2.2.2)])), (qn, .inl (cI, 17, .inl (aI u.2.2.1))), (u.1, .inl (cI, 17, .inl (aI u.2.2.2.1))), (u.2.1, .inl (cI, 17, .inl (aI u.2.2.2.2.1))), (qr, .inl (cI, nr, .inl (aI row))), (h4, .inr (4, [.ref q4, .int (iI P)])), (q4, .inl (cI, 997, .inl (aI iv)))]) (va_A [(h6, .inr (6, [.ref h4, .ref qn, .ref qo, .ref qs, .int (iI L), .int (iI fL), .int (iI f), .int (iI m)])), (qn, .inl (cI, 17, .inl (aI now))), (qo, .inl (cI, 17, .inl (aI fo))), (qs, .inl (cI, 17, .inl (aI sp))), (qr, .inl (cI, nr, .inl (aI row))), (h4, .inr (4, [.ref q4, .int (iI P)])), (q4, .inl (cI, 997, .inl (aI iv)))] sz)) (va_A [(h6, .inr (6, [.ref h4, .ref qn, .ref qo, .ref qs, .int (iI L), .int (iI fL), .int (iI f), .int (iI m)])), (qn, .inl (cI, 17, .inl (aI now))), (qo, .inl (cI, 17, .inl (aI fo))), (qs, .inl (cI, 17, .inl (aI sp))), (qr, .inl (cI, nr, .inl (aI row))), (h4, .inr (4, [.ref q4, .int (iI P)])), (q4, .inl (cI, 997, .inl (aI iv)))] sz)) 0 0 (va_A [(h6, .inr (6, [.ref h4, .ref qn, .ref qo, .ref qs, .int (iI L), .int (iI fL), .int (iI f), .int (iI m)])), (qn, .inl (cI, 17, .inl (aI now))), (qo, .inl (cI, 17, .inl (aI fo))), (qs, .inl (cI, 17, .inl (aI sp))), (qr, .inl (cI, nr, .inl (aI row))), (h4, .inr (4, [.ref q4, .int (iI P)])), (q4, .inl (cI, 997, .inl (aI iv)))] sz) := by
  refine x_metW (own := RX6) (cc := cX6_take) (maxL := 6) (ret := none) (Qc := fun jA => va_Qv (fun (u : Nat × Nat × (Int → Int) × (Int → Int) × (Int → Int) × Int × Int × Int × Int) => rgR (n + 1) (bmS P row n rs) u.2.2.1 u.2.2.2.1 u.2.2.2.2.2.1 u.2.2.2.2.2.2.1 u.2.2.2.2.2.2.2.1 u.2.2.2.2.2.2.2.2) (xB D (fun (u : Nat × Nat × (Int → Int) × (Int → Int) × (Int → Int) × Int × Int × Int × Int) => [(h6, .inr (6, [.ref h4, .ref qn, .ref u.1, .ref u.2.1, .int (iI u.2.2.2.2.2.1), .int (iI u.2.2.2.2.2.2.1), .int (iI u.2.2.2.2.2.2.2.1), .int (iI u.2.2.2.2.2.2.2.2)])), (qn, .inl (cI, 17, .inl (aI u.2.2.1))), (u.1, .inl (cI, 17, .inl (aI u.2.2.2.1))), (u.2.1, .inl (cI, 17, .inl (aI u.2.2.2.2.1))), (qr, .inl (cI, nr, .inl (aI row))), (h4, .inr (4, [.ref q4, .int (iI P)])), (q4, .inl (cI, 997, .inl (aI iv)))]) jA) jA) (by decide) rfl rfl rfl ?_
  intro jp je js jm ja jb jt jc jA jQ jS jr jk jn jq hK hP hD hA hS ls hl
  have hl : lv_has ls 6 [(0, .ref h6), (1, .ref qr), (2, .int (iI n))] := hl
  obtain ⟨sC, sF, sL, sf, sM⟩ := rs
  unfold rgR at hR
  dsimp only at hR
  obtain ⟨hR1, hR2, hR3, hfL, hj⟩ := hR
  subst hR1; subst hR2; subst hR3
  have hI0 := hI
  obtain ⟨⟨a1, a2, a3, a4, a5, a6⟩, hcb, hfb, -, -, -⟩ := hI0
  dsimp only at a1 a2 a3 a4 a5 a6 hcb hfb
  have hnowb : ∀ j : Int, 0 ≤ j → j ≤ 16 → 0 ≤ now j ∧ now j < P := fun j x y => by rw [(hj j x y).1]; exact hcb j
  have hfob : ∀ j : Int, 0 ≤ j → j ≤ 16 → 0 ≤ fo j ∧ fo j < P := fun j x y => by rw [(hj j x y).2]; exact hfb j
  have hivf := htb f (by omega) a6
  refine x_aln jS dX6_take_0 rfl hl 0 rfl ?_
  refine x_aln jS dX6_take_1 rfl hl 1 rfl ?_
  refine x_iln jS dX6_take_2 rfl hl 2 rfl ?_
  refine x_rI (x_rmV (As := [.ref qr, .int (iI n)]) (rest := []) jS hl.1 hK (c_X6_errorAt jl D cI h6 qn qo qs h4 q4 qr nr P L fL f m n now row (by first | assumption | omega) (by first | assumption | omega) (by first | assumption | omega) (by first | assumption | omega) (by first | assumption | omega) (by first | assumption | omega)) (hP.sub [0, 1, 4, 5] rfl) 0 rfl rfl gX6_take_X6_errorAt rfl rfl rfl kf_X6_errorAt rfl rfl rfl rfl rfl dX6_take_3 rfl rfl) ?_
  refine x_topi (fun er h_er => ?_)
  have her : er = bmE P row n (sC, sF, L, f, m) := by
    rw [h_er]; unfold bmE; dsimp only; congr 1; exact sm_congr (fun k x y => by show now k * _ = sC k * _; rw [(hj k x (by omega)).1])
  have herb := bmE_in (show 2 ≤ P by omega) row n (sC, sF, L, f, m)
  rw [← her] at herb
  refine x_isn (lv' := [(3, .int (iI er)), (0, .ref h6), (1, .ref qr), (2, .int (iI n))]) jS dX6_take_6 rfl hl rfl rfl (fun ls hl => ?_)
  refine x_iln jS dX6_take_7 rfl hl 0 rfl ?_
  refine x_ifne jS 22 dX6_take_8 (by decide) (by omega) (fun hc8 => ?_) (fun hc8 => ?_)
  · skip
    refine x_aln jS dX6_take_22 rfl hl 1 rfl ?_
    refine x_get jS hK hP h_X6_take_X6 0 rfl rfl 0 rfl m_X6_take_2 rfl dX6_take_23 ?_
    refine x_getN jS hK hP h_X6_take_X4 5 rfl rfl 1 rfl 3 rfl rfl dX6_take_26 ?_
    refine x_aln jS dX6_take_29 rfl hl 1 rfl ?_
    refine x_get jS hK hP h_X6_take_X6 0 rfl rfl 0 rfl m_X6_take_2 rfl dX6_take_30 ?_
    refine x_iln jS dX6_take_33 rfl hl 0 rfl ?_
    refine x_aln jS dX6_take_34 rfl hl 1 rfl ?_
    refine x_get jS hK hP h_X6_take_X6 0 rfl rfl 6 rfl m_X6_take_3 rfl dX6_take_35 ?_
    refine x_rI (x_rmV (As := [.int (iI er), .int (iI f)]) (rest := [.int (iI P)]) jS hl.1 hK (c_X4_over jl D cI h4 q4 P er f iv (by first | assumption | omega) (by first | assumption | omega) (by first | assumption | omega) (⟨hivf.1, hivf.2.1⟩)) (hP.sub [5, 6] rfl) 0 rfl rfl gX6_take_X4_over rfl rfl rfl kf_X4_over rfl rfl rfl rfl rfl dX6_take_38 rfl rfl) ?_
    refine x_isub jS dX6_take_41 ?_
    refine x_topi (fun fa h_fa => ?_)
    have hfa0 := emB (show 0 < P by omega) (er * iv f)
    have hfa1 : fa = P - er * ivF P f % P := by rw [h_fa, hivf.2.2]
    refine x_is (lv' := [(4, .int (iI fa)), (3, .int (iI er)), (0, .ref h6), (1, .ref qr), (2, .int (iI n))]) jS dX6_take_42 hl rfl rfl (fun ls hl => ?_)
    refine x_ic jS dX6_take_44 ?_
    refine x_aln jS dX6_take_45 rfl hl 2 rfl ?_
    refine x_get jS hK hP h_X6_take_X6 0 rfl rfl 4 rfl m_X6_take_4 rfl dX6_take_46 ?_
    refine x_imul jS dX6_take_49 ?_
    refine x_iln jS dX6_take_50 rfl hl 4 rfl ?_
    refine x_cmple jS 71 dX6_take_51 (by decide) (by omega) (fun hc51 => ?_) (fun hc51 => ?_)
    · skip
      refine x_aln jS dX6_take_71 rfl hl 2 rfl ?_
      refine x_get jS hK hP h_X6_take_X6 0 rfl rfl 1 rfl m_X6_take_5 rfl dX6_take_72 ?_
      refine x_ic jS dX6_take_75 ?_
      refine x_aln jS dX6_take_76 rfl hl 2 rfl ?_
      refine x_get jS hK hP h_X6_take_X6 0 rfl rfl 3 rfl m_X6_take_6 rfl dX6_take_77 ?_
      refine x_ic jS dX6_take_80 ?_
      refine x_aln jS dX6_take_81 rfl hl 2 rfl ?_
      refine x_get jS hK hP h_X6_take_X6 0 rfl rfl 1 rfl m_X6_take_5 rfl dX6_take_82 ?_
      refine x_alen jS hK hP 1 rfl dX6_take_85 ?_
      refine x_copy (ws' := [(h6, .inr (6, [.ref h4, .ref qn, .ref qo, .ref qs, .int (iI L), .int (iI fL), .int (iI f), .int (iI m)])), (qn, .inl (cI, 17, .inl (aI now))), (qo, .inl (cI, 17, .inl (aI fo))), (qs, .inl (cI, 17, .inl (aI (cpI now sp ((17 : Nat) : Int))))), (qr, .inl (cI, nr, .inl (aI row))), (h4, .inr (4, [.ref q4, .int (iI P)])), (q4, .inl (cI, 997, .inl (aI iv)))]) (N := 17) jS hl.1 hK hP hD hS 1 3 rfl rfl m_X6_take_7 m_X6_take_8 m_X6_take_9 m_X6_take_10 rfl rfl dX6_take_86 rfl rfl (fun jH jL hP hD hS => ?_)
      refine x_aln jS dX6_take_89 rfl hl 2 rfl ?_
      refine x_il jS dX6_take_90 hl 0 rfl ?_
      refine x_aV (wc := [(h6, .inr (6, [.ref h4, .ref qn, .ref qo, .ref qs, .int (iI L), .int (iI fL), .int (iI f), .int (iI m)])), (qn, .inl (cI, 17, .inl (aI now))), (qo, .inl (cI, 17, .inl (aI fo))), (h4, .inr (4, [.ref q4, .int (iI P)]))]) (wr := [(qs, .inl (cI, 17, .inl (aI (cpI now sp ((17 : Nat) : Int))))), (qr, .inl (cI, nr, .inl (aI row))), (q4, .inl (cI, 997, .inl (aI iv)))]) hP hD hS hA [0, 1, 2, 5] [3, 4, 6] rfl rfl (by decide) (by decide) (cs := 0) (ss := 0) rfl rfl (x_rnV (As := [.int (iI fa)]) (rest := []) jS hl.1 hK (c_X6_addFormer jl D cI h6 qn qo qs h4 q4 P L fL f m fa now fo _ (by first | assumption | omega) (by first | assumption | omega) (by first | assumption | omega) (by first | assumption | omega) (by first | assumption | omega)) hP hD [0, 1, 2, 5] rfl rfl (by decide) 0 rfl rfl gX6_take_X6_addFormer rfl rfl rfl kf_X6_addFormer rfl rfl rfl rfl rfl dX6_take_92 rfl rfl) (fun u jH jL hw hP hD hS => ?_)
      obtain ⟨nw2, rfl⟩ : ∃ z, z = u := ⟨_, rfl⟩
      have hw2 : ∀ j : Int, 0 ≤ j → j ≤ 16 → nw2 j = if m ≤ j ∧ j ≤ m + fL then (now j + fa * fo (j - m)) % P else now j := hw
      clear hw
      have hP : va_P D vwCl [(qs, .inl (cI, 17, .inl (aI (cpI now sp ((17 : Nat) : Int))))), (qr, .inl (cI, nr, .inl (aI row))), (q4, .inl (cI, 997, .inl (aI iv))), (h6, .inr (6, [.ref h4, .ref qn, .ref qo, .ref qs, .int (iI L), .int (iI fL), .int (iI f), .int (iI m)])), (qn, .inl (cI, 17, .inl (aI nw2))), (qo, .inl (cI, 17, .inl (aI fo))), (h4, .inr (4, [.ref q4, .int (iI P)]))] jH := hP
      have hD : va_D jA [(qs, .inl (cI, 17, .inl (aI (cpI now sp ((17 : Nat) : Int))))), (qr, .inl (cI, nr, .inl (aI row))), (q4, .inl (cI, 997, .inl (aI iv))), (h6, .inr (6, [.ref h4, .ref qn, .ref qo, .ref qs, .int (iI L), .int (iI fL), .int (iI f), .int (iI m)])), (qn, .inl (cI, 17, .inl (aI nw2))), (qo, .inl (cI, 17, .inl (aI fo))), (h4, .inr (4, [.ref q4, .int (iI P)]))] := hD
      refine x_aln jS dX6_take_95 rfl hl 2 rfl ?_
      refine x_get jS hK hP h_X6_take_X6 3 rfl rfl 2 rfl m_X6_take_11 rfl dX6_take_96 ?_
      refine x_as (lv' := [(5, .ref qo), (4, .int (iI fa)), (3, .int (iI er)), (0, .ref h6), (1, .ref qr), (2, .int (iI n))]) jS dX6_take_99 hl rfl rfl (fun ls hl => ?_)
      refine x_aln jS dX6_take_101 rfl hl 3 rfl ?_
      refine x_aln jS dX6_take_102 rfl hl 3 rfl ?_
      refine x_get jS hK hP h_X6_take_X6 3 rfl rfl 3 rfl m_X6_take_6 rfl dX6_take_103 ?_
      refine x_put (ty0 := tyX6) (ws' := [(qs, .inl (cI, 17, .inl (aI (cpI now sp ((17 : Nat) : Int))))), (qr, .inl (cI, nr, .inl (aI row))), (q4, .inl (cI, 997, .inl (aI iv))), (h6, .inr (6, [.ref h4, .ref qn, .ref qs, .ref qs, .int (iI L), .int (iI fL), .int (iI f), .int (iI m)])), (qn, .inl (cI, 17, .inl (aI nw2))), (qo, .inl (cI, 17, .inl (aI fo))), (h4, .inr (4, [.ref q4, .int (iI P)]))]) jS hK hP hD hS h_X6_take_X6 tyX6_ok nmX6 3 rfl rfl 2 rfl m_X6_take_11 rfl rfl rfl rfl dX6_take_106 rfl (fun jH jL hP hD hS => ?_)
      refine x_aln jS dX6_take_109 rfl hl 3 rfl ?_
      refine x_al jS dX6_take_110 hl 0 rfl ?_
      refine x_put (ty0 := tyX6) (ws' := [(qs, .inl (cI, 17, .inl (aI (cpI now sp ((17 : Nat) : Int))))), (qr, .inl (cI, nr, .inl (aI row))), (q4, .inl (cI, 997, .inl (aI iv))), (h6, .inr (6, [.ref h4, .ref qn, .ref qs, .ref qo, .int (iI L), .int (iI fL), .int (iI f), .int (iI m)])), (qn, .inl (cI, 17, .inl (aI nw2))), (qo, .inl (cI, 17, .inl (aI fo))), (h4, .inr (4, [.ref q4, .int (iI P)]))]) jS hK hP hD hS h_X6_take_X6 tyX6_ok nmX6 3 rfl rfl 3 rfl m_X6_take_6 rfl rfl rfl rfl dX6_take_112 rfl (fun jH jL hP hD hS => ?_)
      refine x_aln jS dX6_take_115 rfl hl 3 rfl ?_
      refine x_aln jS dX6_take_116 rfl hl 3 rfl ?_
      refine x_get jS hK hP h_X6_take_X6 3 rfl rfl 4 rfl m_X6_take_4 rfl dX6_take_117 ?_
      refine x_put (ty0 := tyX6) (ws' := [(qs, .inl (cI, 17, .inl (aI (cpI now sp ((17 : Nat) : Int))))), (qr, .inl (cI, nr, .inl (aI row))), (q4, .inl (cI, 997, .inl (aI iv))), (h6, .inr (6, [.ref h4, .ref qn, .ref qs, .ref qo, .int (iI L), .int (iI L), .int (iI f), .int (iI m)])), (qn, .inl (cI, 17, .inl (aI nw2))), (qo, .inl (cI, 17, .inl (aI fo))), (h4, .inr (4, [.ref q4, .int (iI P)]))]) jS hK hP hD hS h_X6_take_X6 tyX6_ok nmX6 3 rfl rfl 5 rfl m_X6_take_12 rfl rfl rfl rfl dX6_take_120 rfl (fun jH jL hP hD hS => ?_)
      refine x_aln jS dX6_take_123 rfl hl 3 rfl ?_
      refine x_iln jS dX6_take_124 rfl hl 2 rfl ?_
      refine x_put (ty0 := tyX6) (ws' := [(qs, .inl (cI, 17, .inl (aI (cpI now sp ((17 : Nat) : Int))))), (qr, .inl (cI, nr, .inl (aI row))), (q4, .inl (cI, 997, .inl (aI iv))), (h6, .inr (6, [.ref h4, .ref qn, .ref qs, .ref qo, .int (iI L), .int (iI L), .int (iI er), .int (iI m)])), (qn, .inl (cI, 17, .inl (aI nw2))), (qo, .inl (cI, 17, .inl (aI fo))), (h4, .inr (4, [.ref q4, .int (iI P)]))]) jS hK hP hD hS h_X6_take_X6 tyX6_ok nmX6 3 rfl rfl 6 rfl m_X6_take_3 rfl rfl rfl rfl dX6_take_125 rfl (fun jH jL hP hD hS => ?_)
      refine x_aln jS dX6_take_128 rfl hl 3 rfl ?_
      refine x_ic jS dX6_take_129 ?_
      refine x_put (ty0 := tyX6) (ws' := [(qs, .inl (cI, 17, .inl (aI (cpI now sp ((17 : Nat) : Int))))), (qr, .inl (cI, nr, .inl (aI row))), (q4, .inl (cI, 997, .inl (aI iv))), (h6, .inr (6, [.ref h4, .ref qn, .ref qs, .ref qo, .int (iI L), .int (iI L), .int (iI er), .int (iI 1)])), (qn, .inl (cI, 17, .inl (aI nw2))), (qo, .inl (cI, 17, .inl (aI fo))), (h4, .inr (4, [.ref q4, .int (iI P)]))]) jS hK hP hD hS h_X6_take_X6 tyX6_ok nmX6 3 rfl rfl 7 rfl m_X6_take_1 rfl rfl rfl rfl dX6_take_130 rfl (fun jH jL hP hD hS => ?_)
      refine x_aln jS dX6_take_133 rfl hl 3 rfl ?_
      refine x_iln jS dX6_take_134 rfl hl 5 rfl ?_
      refine x_ic jS dX6_take_135 ?_
      refine x_iadd jS dX6_take_136 ?_
      refine x_aln jS dX6_take_137 rfl hl 3 rfl ?_
      refine x_get jS hK hP h_X6_take_X6 3 rfl rfl 4 rfl m_X6_take_4 rfl dX6_take_138 ?_
      refine x_isub jS dX6_take_141 ?_
      refine x_put (ty0 := tyX6) (ws' := [(qs, .inl (cI, 17, .inl (aI (cpI now sp ((17 : Nat) : Int))))), (qr, .inl (cI, nr, .inl (aI row))), (q4, .inl (cI, 997, .inl (aI iv))), (h6, .inr (6, [.ref h4, .ref qn, .ref qs, .ref qo, .int (iI ((n + 1) - L)), .int (iI L), .int (iI er), .int (iI 1)])), (qn, .inl (cI, 17, .inl (aI nw2))), (qo, .inl (cI, 17, .inl (aI fo))), (h4, .inr (4, [.ref q4, .int (iI P)]))]) jS hK hP hD hS h_X6_take_X6 tyX6_ok nmX6 3 rfl rfl 4 rfl m_X6_take_4 rfl rfl rfl rfl dX6_take_142 rfl (fun jH jL hP hD hS => ?_)
      exact x_vretW jS jr jk jq dX6_take_145 ⟨qs, qo, nw2, (cpI now sp ((17 : Nat) : Int)), fo, ((n + 1) - L), L, er, 1⟩ (hP.sub [3, 4, 0, 5, 1, 6, 2] rfl) (hD.sub [3, 4, 0, 5, 1, 6, 2] (by decide) rfl) hS (show rgR (n + 1) (bmS P row n (sC, sF, L, f, m)) nw2 (cpI now sp ((17 : Nat) : Int)) ((n + 1) - L) L er 1 from by have e0 : bmE P row n (sC, sF, L, f, m) ≠ 0 := fun q => hc8 (her.trans q); rw [bmS_1 e0 (by dsimp only; omega), ← her]; exact ⟨rfl, rfl, rfl, by omega, fun j x y => ⟨by rw [add_rel hI hfL (by omega) hj hw2 j x y, hfa1]; rfl, by unfold cpI; rw [if_pos (by omega)]; exact (hj j x y).1⟩⟩)
    · skip
      refine x_aln jS dX6_take_54 rfl hl 2 rfl ?_
      refine x_il jS dX6_take_55 hl 0 rfl ?_
      refine x_aV (wc := [(h6, .inr (6, [.ref h4, .ref qn, .ref qo, .ref qs, .int (iI L), .int (iI fL), .int (iI f), .int (iI m)])), (qn, .inl (cI, 17, .inl (aI now))), (qo, .inl (cI, 17, .inl (aI fo))), (h4, .inr (4, [.ref q4, .int (iI P)]))]) (wr := [(qs, .inl (cI, 17, .inl (aI sp))), (qr, .inl (cI, nr, .inl (aI row))), (q4, .inl (cI, 997, .inl (aI iv)))]) hP hD hS hA [0, 1, 2, 5] [3, 4, 6] rfl rfl (by decide) (by decide) (cs := 0) (ss := 0) rfl rfl (x_rnV (As := [.int (iI fa)]) (rest := []) jS hl.1 hK (c_X6_addFormer jl D cI h6 qn qo qs h4 q4 P L fL f m fa now fo _ (by first | assumption | omega) (by first | assumption | omega) (by first | assumption | omega) (by first | assumption | omega) (by first | assumption | omega)) hP hD [0, 1, 2, 5] rfl rfl (by decide) 0 rfl rfl gX6_take_X6_addFormer rfl rfl rfl kf_X6_addFormer rfl rfl rfl rfl rfl dX6_take_57 rfl rfl) (fun u jH jL hw hP hD hS => ?_)
      obtain ⟨nw2, rfl⟩ : ∃ z, z = u := ⟨_, rfl⟩
      have hw2 : ∀ j : Int, 0 ≤ j → j ≤ 16 → nw2 j = if m ≤ j ∧ j ≤ m + fL then (now j + fa * fo (j - m)) % P else now j := hw
      clear hw
      have hP : va_P D vwCl [(qs, .inl (cI, 17, .inl (aI sp))), (qr, .inl (cI, nr, .inl (aI row))), (q4, .inl (cI, 997, .inl (aI iv))), (h6, .inr (6, [.ref h4, .ref qn, .ref qo, .ref qs, .int (iI L), .int (iI fL), .int (iI f), .int (iI m)])), (qn, .inl (cI, 17, .inl (aI nw2))), (qo, .inl (cI, 17, .inl (aI fo))), (h4, .inr (4, [.ref q4, .int (iI P)]))] jH := hP
      have hD : va_D jA [(qs, .inl (cI, 17, .inl (aI sp))), (qr, .inl (cI, nr, .inl (aI row))), (q4, .inl (cI, 997, .inl (aI iv))), (h6, .inr (6, [.ref h4, .ref qn, .ref qo, .ref qs, .int (iI L), .int (iI fL), .int (iI f), .int (iI m)])), (qn, .inl (cI, 17, .inl (aI nw2))), (qo, .inl (cI, 17, .inl (aI fo))), (h4, .inr (4, [.ref q4, .int (iI P)]))] := hD
      refine x_aln jS dX6_take_60 rfl hl 2 rfl ?_
      refine x_dup jS dX6_take_61 rfl ?_
      refine x_get jS hK hP h_X6_take_X6 3 rfl rfl 7 rfl m_X6_take_1 rfl dX6_take_62 ?_
      refine x_ic jS dX6_take_65 ?_
      refine x_iadd jS dX6_take_66 ?_
      refine x_put (ty0 := tyX6) (ws' := [(qs, .inl (cI, 17, .inl (aI sp))), (qr, .inl (cI, nr, .inl (aI row))), (q4, .inl (cI, 997, .inl (aI iv))), (h6, .inr (6, [.ref h4, .ref qn, .ref qo, .ref qs, .int (iI L), .int (iI fL), .int (iI f), .int (iI (m + 1))])), (qn, .inl (cI, 17, .inl (aI nw2))), (qo, .inl (cI, 17, .inl (aI fo))), (h4, .inr (4, [.ref q4, .int (iI P)]))]) jS hK hP hD hS h_X6_take_X6 tyX6_ok nmX6 3 rfl rfl 7 rfl m_X6_take_1 rfl rfl rfl rfl dX6_take_67 rfl (fun jH jL hP hD hS => ?_)
      exact x_vretW jS jr jk jq dX6_take_70 ⟨qo, qs, nw2, fo, sp, L, fL, f, (m + 1)⟩ (hP.sub [3, 4, 5, 0, 1, 6, 2] rfl) (hD.sub [3, 4, 5, 0, 1, 6, 2] (by decide) rfl) hS (show rgR (n + 1) (bmS P row n (sC, sF, L, f, m)) nw2 fo L fL f (m + 1) from by have e0 : bmE P row n (sC, sF, L, f, m) ≠ 0 := fun q => hc8 (her.trans q); rw [bmS_2 e0 (by dsimp only; omega), ← her]; exact ⟨rfl, rfl, rfl, by omega, fun j x y => ⟨by rw [add_rel hI hfL (by omega) hj hw2 j x y, hfa1]; rfl, (hj j x y).2⟩⟩)
  · skip
    refine x_aln jS dX6_take_11 rfl hl 1 rfl ?_
    refine x_dup jS dX6_take_12 rfl ?_
    refine x_get jS hK hP h_X6_take_X6 0 rfl rfl 7 rfl m_X6_take_1 rfl dX6_take_13 ?_
    refine x_ic jS dX6_take_16 ?_
    refine x_iadd jS dX6_take_17 ?_
    refine x_put (ty0 := tyX6) (ws' := [(h6, .inr (6, [.ref h4, .ref qn, .ref qo, .ref qs, .int (iI L), .int (iI fL), .int (iI f), .int (iI (m + 1))])), (qn, .inl (cI, 17, .inl (aI now))), (qo, .inl (cI, 17, .inl (aI fo))), (qs, .inl (cI, 17, .inl (aI sp))), (qr, .inl (cI, nr, .inl (aI row))), (h4, .inr (4, [.ref q4, .int (iI P)])), (q4, .inl (cI, 997, .inl (aI iv)))]) jS hK hP hD hS h_X6_take_X6 tyX6_ok nmX6 0 rfl rfl 7 rfl m_X6_take_1 rfl rfl rfl rfl dX6_take_18 rfl (fun jH jL hP hD hS => ?_)
    exact x_vretW jS jr jk jq dX6_take_21 ⟨qo, qs, now, fo, sp, L, fL, f, (m + 1)⟩ hP hD hS (show rgR (n + 1) (bmS P row n (sC, sF, L, f, m)) now fo L fL f (m + 1) from by have e0 : bmE P row n (sC, sF, L, f, m) = 0 := her.symm.trans hc8; rw [bmS_0 e0]; exact ⟨rfl, rfl, rfl, by omega, hj⟩)
theorem kf_X6_begin : kfV yX6_begin RX6 0 := by decide +kernel
theorem kf_X6_take : kfV yX6_take RX6 2 := by decide +kernel
abbrev rm_X6_read : Room := { frames := 2, cells := 0, slots := 0, locals := 85 }
set_option maxHeartbeats 4000000 in
set_option maxRecDepth 100000 in
theorem c_X6_read (jl : Launch) (D : va_G) (cI : ClassId) (h6 qn qo qs h4 q4 : Nat) (qr nr : Nat) (P L fL f m n : Int) (now fo sp iv row : Int → Int) (sz : Nat) (hP5 : 5 ≤ P ∧ P ≤ 997) (htb : tbF P iv) (hnr : nr ≤ 16) (hn : 0 ≤ n ∧ n ≤ nr) (hrow : ∀ j : Int, 0 ≤ j → j < n → 0 ≤ row j ∧ row j < P) : Met jl yX6_read wsX6_read rm_X6_read (xPw [.ref h6, .ref qr, .int (iI n)] D cI [(h6, .inr (6, [.ref h4, .ref qn, .ref qo, .ref qs, .int (iI L), .int (iI fL), .int (iI f), .int (iI m)])), (qn, .inl (cI, 17, .inl (aI now))), (qo, .inl (cI, 17, .inl (aI fo))), (qs, .inl (cI, 17, .inl (aI sp))), (qr, .inl (cI, nr, .inl (aI row))), (h4, .inr (4, [.ref q4, .int (iI P)])), (q4, .inl (cI, 997, .inl (aI iv)))] sz) (va_Qv (fun (u : Nat × Nat × (Int → Int) × (Int → Int) × (Int → Int) × Int × Int × Int × Int) => rgR n (bm P row (Int.toNat n)) u.2.2.1 u.2.2.2.1 u.2.2.2.2.2.1 u.2.2.2.2.2.2.1 u.2.2.2.2.2.2.2.1 u.2.2.2.2.2.2.2.2) (xB D (fun (u : Nat × Nat × (Int → Int) × (Int → Int) × (Int → Int) × Int × Int × Int × Int) => [(h6, .inr (6, [.ref h4, .ref qn, .ref u.1, .ref u.2.1, .int (iI u.2.2.2.2.2.1), .int (iI u.2.2.2.2.2.2.1), .int (iI u.2.2.2.2.2.2.2.1), .int (iI u.2.2.2.2.2.2.2.2)])), (qn, .inl (cI, 17, .inl (aI u.2.2.1))), (u.1, .inl (cI, 17, .inl (aI u.2.2.2.1))), (u.2.1, .inl (cI, 17, .inl (aI u.2.2.2.2.1))), (qr, .inl (cI, nr, .inl (aI row))), (h4, .inr (4, [.ref q4, .int (iI P)])), (q4, .inl (cI, 997, .inl (aI iv)))]) (va_A [(h6, .inr (6, [.ref h4, .ref qn, .ref qo, .ref qs, .int (iI L), .int (iI fL), .int (iI f), .int (iI m)])), (qn, .inl (cI, 17, .inl (aI now))), (qo, .inl (cI, 17, .inl (aI fo))), (qs, .inl (cI, 17, .inl (aI sp))), (qr, .inl (cI, nr, .inl (aI row))), (h4, .inr (4, [.ref q4, .int (iI P)])), (q4, .inl (cI, 997, .inl (aI iv)))] sz)) (va_A [(h6, .inr (6, [.ref h4, .ref qn, .ref qo, .ref qs, .int (iI L), .int (iI fL), .int (iI f), .int (iI m)])), (qn, .inl (cI, 17, .inl (aI now))), (qo, .inl (cI, 17, .inl (aI fo))), (qs, .inl (cI, 17, .inl (aI sp))), (qr, .inl (cI, nr, .inl (aI row))), (h4, .inr (4, [.ref q4, .int (iI P)])), (q4, .inl (cI, 997, .inl (aI iv)))] sz)) 0 0 (va_A [(h6, .inr (6, [.ref h4, .ref qn, .ref qo, .ref qs, .int (iI L), .int (iI fL), .int (iI f), .int (iI m)])), (qn, .inl (cI, 17, .inl (aI now))), (qo, .inl (cI, 17, .inl (aI fo))), (qs, .inl (cI, 17, .inl (aI sp))), (qr, .inl (cI, nr, .inl (aI row))), (h4, .inr (4, [.ref q4, .int (iI P)])), (q4, .inl (cI, 997, .inl (aI iv)))] sz) := by
  refine x_metW (own := RX6) (cc := cX6_read) (maxL := 4) (ret := none) (Qc := fun jA => va_Qv (fun (u : Nat × Nat × (Int → Int) × (Int → Int) × (Int → Int) × Int × Int × Int × Int) => rgR n (bm P row (Int.toNat n)) u.2.2.1 u.2.2.2.1 u.2.2.2.2.2.1 u.2.2.2.2.2.2.1 u.2.2.2.2.2.2.2.1 u.2.2.2.2.2.2.2.2) (xB D (fun (u : Nat × Nat × (Int → Int) × (Int → Int) × (Int → Int) × Int × Int × Int × Int) => [(h6, .inr (6, [.ref h4, .ref qn, .ref u.1, .ref u.2.1, .int (iI u.2.2.2.2.2.1), .int (iI u.2.2.2.2.2.2.1), .int (iI u.2.2.2.2.2.2.2.1), .int (iI u.2.2.2.2.2.2.2.2)])), (qn, .inl (cI, 17, .inl (aI u.2.2.1))), (u.1, .inl (cI, 17, .inl (aI u.2.2.2.1))), (u.2.1, .inl (cI, 17, .inl (aI u.2.2.2.2.1))), (qr, .inl (cI, nr, .inl (aI row))), (h4, .inr (4, [.ref q4, .int (iI P)])), (q4, .inl (cI, 997, .inl (aI iv)))]) jA) jA) (by decide) rfl rfl rfl ?_
  intro jp je js jm ja jb jt jc jA jQ jS jr jk jn jq hK hP hD hA hS ls hl
  have hl : lv_has ls 4 [(0, .ref h6), (1, .ref qr), (2, .int (iI n))] := hl
  refine x_aln jS dX6_read_0 rfl hl 0 rfl ?_
  refine x_aV (wc := [(h6, .inr (6, [.ref h4, .ref qn, .ref qo, .ref qs, .int (iI L), .int (iI fL), .int (iI f), .int (iI m)])), (qn, .inl (cI, 17, .inl (aI now))), (qo, .inl (cI, 17, .inl (aI fo)))]) (wr := [(qs, .inl (cI, 17, .inl (aI sp))), (qr, .inl (cI, nr, .inl (aI row))), (h4, .inr (4, [.ref q4, .int (iI P)])), (q4, .inl (cI, 997, .inl (aI iv)))]) hP hD hS hA [0, 1, 2] [3, 4, 5, 6] rfl rfl (by decide) (by decide) (cs := 0) (ss := 0) rfl rfl (x_rnV (As := []) (rest := []) jS hl.1 hK (c_X6_begin jl D cI h6 qn qo qs h4 L fL f m now fo _ ) hP hD [0, 1, 2] rfl rfl (by decide) 0 rfl rfl gX6_read_X6_begin rfl rfl rfl kf_X6_begin rfl rfl rfl rfl rfl dX6_read_1 rfl rfl) (fun u jH jL hw hP hD hS => ?_)
  obtain ⟨now2_1, fo2_2⟩ := u
  have hw1 : rgR 0 bm0 now2_1 fo2_2 0 0 1 1 := hw
  clear hw
  have hP : va_P D vwCl [(qs, .inl (cI, 17, .inl (aI sp))), (qr, .inl (cI, nr, .inl (aI row))), (h4, .inr (4, [.ref q4, .int (iI P)])), (q4, .inl (cI, 997, .inl (aI iv))), (h6, .inr (6, [.ref h4, .ref qn, .ref qo, .ref qs, .int (iI 0), .int (iI 0), .int (iI 1), .int (iI 1)])), (qn, .inl (cI, 17, .inl (aI now2_1))), (qo, .inl (cI, 17, .inl (aI fo2_2)))] jH := hP
  have hD : va_D jA [(qs, .inl (cI, 17, .inl (aI sp))), (qr, .inl (cI, nr, .inl (aI row))), (h4, .inr (4, [.ref q4, .int (iI P)])), (q4, .inl (cI, 997, .inl (aI iv))), (h6, .inr (6, [.ref h4, .ref qn, .ref qo, .ref qs, .int (iI 0), .int (iI 0), .int (iI 1), .int (iI 1)])), (qn, .inl (cI, 17, .inl (aI now2_1))), (qo, .inl (cI, 17, .inl (aI fo2_2)))] := hD
  refine x_ic jS dX6_read_4 ?_
  refine x_isn (lv' := [(3, .int (iI 0)), (0, .ref h6), (1, .ref qr), (2, .int (iI n))]) jS dX6_read_5 rfl hl rfl rfl (fun ls hl => ?_)
  have loop_6 : ∀ (mm : Nat) (i : Int) (qo1 : Nat) (qs1 : Nat) (now1 : Int → Int) (fo1 : Int → Int) (sp1 : Int → Int) (L1 : Int) (fL1 : Int) (f1 : Int) (m1 : Int) (jH : Heap) (jL : List Loc), (n - i).toNat = mm → (0 ≤ i ∧ i ≤ n) → (rgR i (bm P row i.toNat) now1 fo1 L1 fL1 f1 m1) → va_P D vwCl [(qs1, .inl (cI, 17, .inl (aI sp1))), (qr, .inl (cI, nr, .inl (aI row))), (h4, .inr (4, [.ref q4, .int (iI P)])), (q4, .inl (cI, 997, .inl (aI iv))), (h6, .inr (6, [.ref h4, .ref qn, .ref qo1, .ref qs1, .int (iI L1), .int (iI fL1), .int (iI f1), .int (iI m1)])), (qn, .inl (cI, 17, .inl (aI now1))), (qo1, .inl (cI, 17, .inl (aI fo1)))] jH → va_D jA [(qs1, .inl (cI, 17, .inl (aI sp1))), (qr, .inl (cI, nr, .inl (aI row))), (h4, .inr (4, [.ref q4, .int (iI P)])), (q4, .inl (cI, 997, .inl (aI iv))), (h6, .inr (6, [.ref h4, .ref qn, .ref qo1, .ref qs1, .int (iI L1), .int (iI fL1), .int (iI f1), .int (iI m1)])), (qn, .inl (cI, 17, .inl (aI now1))), (qo1, .inl (cI, 17, .inl (aI fo1)))] → va_S jA js.heap jH jL → ∀ ls : Array Slot, lv_has ls 4 [(3, .int (iI i)), (0, .ref h6), (1, .ref qr), (2, .int (iI n))] → W jp jl je rm_X6_read js jm ja jb jt jc jH jL 0 0 jQ (F0 jm 6 ls []) := by
    intro mm
    induction mm using Nat.strongRecOn with
    | ind mm ih6 =>
      intro i qo1 qs1 now1 fo1 sp1 L1 fL1 f1 m1 jH jL hmm6 hi hR hP hD hS ls hl
      refine x_iln jS dX6_read_6 rfl hl 0 rfl ?_
      refine x_iln jS dX6_read_7 rfl hl 3 rfl ?_
      refine x_cmpge jS 29 dX6_read_8 (by decide) (by omega) (fun hc8 => ?_) (fun hc8 => ?_)
      · skip
        exact x_vretW jS jr jk jq dX6_read_29 ⟨qo1, qs1, now1, fo1, sp1, L1, fL1, f1, m1⟩ (hP.sub [4, 5, 6, 0, 1, 2, 3] rfl) (hD.sub [4, 5, 6, 0, 1, 2, 3] (by decide) rfl) hS (show rgR n (bm P row (Int.toNat n)) now1 fo1 L1 fL1 f1 m1 from by rw [show n = i by omega]; exact hR)
      · skip
        refine x_iln jS dX6_read_11 rfl hl 0 rfl ?_
        refine x_aln jS dX6_read_12 rfl hl 2 rfl ?_
        refine x_alen jS hK hP 1 rfl dX6_read_13 ?_
        refine x_cmpge jS 29 dX6_read_14 (by decide) (by omega) (fun hc14 => ?_) (fun hc14 => ?_)
        · exfalso; omega
        refine x_aln jS dX6_read_17 rfl hl 1 rfl ?_
        refine x_aln jS dX6_read_18 rfl hl 2 rfl ?_
        refine x_iln jS dX6_read_19 rfl hl 0 rfl ?_
        refine x_aV (wc := [(h6, .inr (6, [.ref h4, .ref qn, .ref qo1, .ref qs1, .int (iI L1), .int (iI fL1), .int (iI f1), .int (iI m1)])), (qn, .inl (cI, 17, .inl (aI now1))), (qo1, .inl (cI, 17, .inl (aI fo1))), (qs1, .inl (cI, 17, .inl (aI sp1))), (qr, .inl (cI, nr, .inl (aI row))), (h4, .inr (4, [.ref q4, .int (iI P)])), (q4, .inl (cI, 997, .inl (aI iv)))]) (wr := []) hP hD hS hA [4, 5, 6, 0, 1, 2, 3] [] rfl rfl (by decide) (by decide) (cs := 0) (ss := 0) rfl rfl (x_rnV (As := [.ref qr, .int (iI i)]) (rest := []) jS hl.1 hK (c_X6_take jl D cI h6 qn qo1 qs1 h4 q4 qr nr P L1 fL1 f1 m1 i now1 fo1 sp1 iv row (bm P row i.toNat) _ (by first | assumption | omega) (by first | assumption | omega) (by first | assumption | omega) (by first | assumption | omega) (fun j x y => hrow j x (by omega)) (by have := bmI_n (show 2 ≤ P by omega) row i.toNat; rw [Int.toNat_of_nonneg hi.1] at this; exact this) (by first | assumption | omega)) hP hD [4, 5, 6, 0, 1, 2, 3] rfl rfl (by decide) 0 rfl rfl gX6_read_X6_take rfl rfl rfl kf_X6_take rfl rfl rfl rfl rfl dX6_read_20 rfl rfl) (fun u jH jL hw hP hD hS => ?_)
        obtain ⟨qo2_3, qs2_4, now2_5, fo3, sp3, L2_6, fL2_7, f2_8, m2_9⟩ := u
        have hw20 : rgR (i + 1) (bmS P row i (bm P row i.toNat)) now2_5 fo3 L2_6 fL2_7 f2_8 m2_9 := hw
        clear hw
        have hP : va_P D vwCl [(h6, .inr (6, [.ref h4, .ref qn, .ref qo2_3, .ref qs2_4, .int (iI L2_6), .int (iI fL2_7), .int (iI f2_8), .int (iI m2_9)])), (qn, .inl (cI, 17, .inl (aI now2_5))), (qo2_3, .inl (cI, 17, .inl (aI fo3))), (qs2_4, .inl (cI, 17, .inl (aI sp3))), (qr, .inl (cI, nr, .inl (aI row))), (h4, .inr (4, [.ref q4, .int (iI P)])), (q4, .inl (cI, 997, .inl (aI iv)))] jH := hP
        have hD : va_D jA [(h6, .inr (6, [.ref h4, .ref qn, .ref qo2_3, .ref qs2_4, .int (iI L2_6), .int (iI fL2_7), .int (iI f2_8), .int (iI m2_9)])), (qn, .inl (cI, 17, .inl (aI now2_5))), (qo2_3, .inl (cI, 17, .inl (aI fo3))), (qs2_4, .inl (cI, 17, .inl (aI sp3))), (qr, .inl (cI, nr, .inl (aI row))), (h4, .inr (4, [.ref q4, .int (iI P)])), (q4, .inl (cI, 997, .inl (aI iv)))] := hD
        refine x_iinc (lv' := [(3, .int (iI (i + 1))), (0, .ref h6), (1, .ref qr), (2, .int (iI n))]) jS dX6_read_23 hl 0 rfl rfl rfl (fun ls hl => ?_)
        refine x_goto jS 6 dX6_read_26 (by decide) ?_
        exact ih6 _ (by omega) (i + 1) qo2_3 qs2_4 now2_5 fo3 sp3 L2_6 fL2_7 f2_8 m2_9 _ _ rfl (by omega) (by rw [show (i + 1).toNat = i.toNat + 1 by omega]; show rgR _ (bmS P row (i.toNat : Int) (bm P row i.toNat)) _ _ _ _ _ _; rw [Int.toNat_of_nonneg hi.1]; exact hw20) (hP.sub [3, 4, 5, 6, 0, 1, 2] rfl) (hD.sub [3, 4, 5, 6, 0, 1, 2] (by decide) rfl) hS ls (lv_sub hl [0, 1, 2, 3] rfl)
  exact loop_6 _ 0 qo qs now2_1 fo2_2 sp 0 0 1 1 _ _ rfl (by omega) (hw1) hP hD hS ls (lv_sub hl [0, 1, 2, 3] rfl)
