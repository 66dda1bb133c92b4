/-! PrimeField: table; Bases; Box: reads, drop, add -/
abbrev rm_X4_isPrime : Room := { frames := 0, cells := 0, slots := 0, locals := 0 }
set_option maxHeartbeats 4000000 in
set_option maxRecDepth 100000 in
theorem c_X4_isPrime (jl : Launch) (D : va_G) (cI : ClassId) (v : Int)  (hv : 5 ≤ v ∧ v ≤ 997) : Met jl yX4_isPrime wsX4_isPrime rm_X4_isPrime (xPr [.int (iI v)] D cI []) (vp_Si (fun r => r = (iI (bI (prm v))))) 0 0 (fun _ => False) := by
  refine x_metR (own := RX4) (cc := cX4_isPrime) (maxL := 2) (ret := (some .boolean)) (by decide) rfl rfl rfl ?_
  intro jp je js jm ja jb jt jc jQ jS jr jk jq hK hP ls hl
  have hl : lv_has ls 2 [(0, .int (iI v))] := hl
  refine x_ic jS dX4_isPrime_0 ?_
  refine x_isn (lv' := [(1, .int (iI 2)), (0, .int (iI v))]) jS dX4_isPrime_1 rfl hl rfl rfl (fun ls hl => ?_)
  have loop_2 : ∀ (mm : Nat) (d : Int), (v - d).toNat = mm → (2 ≤ d ∧ d ≤ 32) → (∀ j : Int, 2 ≤ j → j < d → v % j ≠ 0) → ∀ ls : Array Slot, lv_has ls 2 [(1, .int (iI d)), (0, .int (iI v))] → W jp jl je rm_X4_isPrime js jm ja jb jt jc js.heap [] 0 0 jQ (F0 jm 2 ls []) := by
    intro mm
    induction mm using Nat.strongRecOn with
    | ind mm ih2 =>
      intro d hmm2 hd hj ls hl
      refine x_iln jS dX4_isPrime_2 rfl hl 0 rfl ?_
      refine x_iln jS dX4_isPrime_3 rfl hl 0 rfl ?_
      refine x_imulB jS dX4_isPrime_4 (by omega) (fun hp4 => ?_)
      refine x_iln jS dX4_isPrime_5 rfl hl 1 rfl ?_
      refine x_cmpgt jS 23 dX4_isPrime_6 (by decide) (by omega) (fun hc6 => ?_) (fun hc6 => ?_)
      · skip
        refine x_iln jS dX4_isPrime_23 rfl hl 1 rfl ?_
        refine x_ic jS dX4_isPrime_24 ?_
        refine x_cmple jS 32 dX4_isPrime_25 (by decide) (by omega) (fun hc25 => ?_) (fun hc25 => ?_)
        · exfalso; omega
        refine x_ic jS dX4_isPrime_28 ?_
        refine x_goto jS 33 dX4_isPrime_29 (by decide) ?_
        exact x_zretR jS jr jk jq dX4_isPrime_33 rfl (congrArg iI (bI_t (prm_yes hj hc6 hd.1)).symm)
      · skip
        refine x_iln jS dX4_isPrime_9 rfl hl 1 rfl ?_
        refine x_iln jS dX4_isPrime_10 rfl hl 0 rfl ?_
        refine x_irem jS dX4_isPrime_11 (by omega) (fun hm11 => ?_)
        refine x_ifne jS 17 dX4_isPrime_12 (by decide) (by omega) (fun hc12 => ?_) (fun hc12 => ?_)
        · skip
          have hdv : d < v := by
            have := Int.mul_le_mul_of_nonneg_left (show (2:Int) ≤ d by omega) (show 0 ≤ d by omega); omega
          refine x_iinc (lv' := [(1, .int (iI (d + 1))), (0, .int (iI v))]) jS dX4_isPrime_17 hl 0 rfl rfl rfl (fun ls hl => ?_)
          refine x_goto jS 2 dX4_isPrime_20 (by decide) ?_
          have hd31 : d < 32 := by
            rcases Int.lt_or_le d 32 with z | z
            · exact z
            · have := Int.mul_le_mul z z (by omega) (by omega); omega
          exact ih2 _ (by omega) (d + 1) rfl (by omega) (fun j h1 h2 => by rcases Int.lt_or_le j d with z | z; exact hj j h1 z; rw [show j = d by omega]; exact hc12) ls (lv_sub hl [0, 1] rfl)
        · skip
          refine x_ic jS dX4_isPrime_15 ?_
          exact x_zretR jS jr jk jq dX4_isPrime_16 rfl (congrArg iI (bI_f (prm_no hv.2 (by omega) hc6 hc12)).symm)
  exact loop_2 _ 2 rfl (by omega) (fun j h1 h2 => by omega) ls (lv_sub hl [0, 1] rfl)
theorem h_X4_fillInverses_X4 : ∀ w ∈ u_ws RX4 TX4 2, w ∈ wsX4_fillInverses := fun w h => List.mem_cons_of_mem _ (List.mem_append_right _ h)
theorem m_X4_fillInverses_1 : Cond.fieldLink RX4 9 "SealedBox$PrimeField" "inverses" "[I" ∈ wsX4_fillInverses := List.mem_of_getElem? (i := 1) rfl
theorem m_X4_fillInverses_2 : Cond.fieldLink RX4 15 "SealedBox$PrimeField" "p" "I" ∈ wsX4_fillInverses := List.mem_of_getElem? (i := 2) rfl
abbrev rm_X4_fillInverses : Room := { frames := 0, cells := 0, slots := 0, locals := 0 }
set_option maxHeartbeats 4000000 in
set_option maxRecDepth 100000 in
theorem c_X4_fillInverses (jl : Launch) (D : va_G) (cI : ClassId) (h4 q4 : Nat) (P : Int) (iv : Int → Int) (sz : Nat) (hok : okP P) : Met jl yX4_fillInverses wsX4_fillInverses rm_X4_fillInverses (xPw [.ref h4] D cI [(h4, .inr (4, [.ref q4, .int (iI P)])), (q4, .inl (cI, 997, .inl (aI iv)))] sz) (va_Qv (fun (u : (Int → Int)) => tbl P u) (xB D (fun (u : (Int → Int)) => [(h4, .inr (4, [.ref q4, .int (iI P)])), (q4, .inl (cI, 997, .inl (aI u)))]) (va_A [(h4, .inr (4, [.ref q4, .int (iI P)])), (q4, .inl (cI, 997, .inl (aI iv)))] sz)) (va_A [(h4, .inr (4, [.ref q4, .int (iI P)])), (q4, .inl (cI, 997, .inl (aI iv)))] sz)) 0 0 (va_A [(h4, .inr (4, [.ref q4, .int (iI P)])), (q4, .inl (cI, 997, .inl (aI iv)))] sz) := by
  refine x_metW (own := RX4) (cc := cX4_fillInverses) (maxL := 2) (ret := none) (Qc := fun jA => va_Qv (fun (u : (Int → Int)) => tbl P u) (xB D (fun (u : (Int → Int)) => [(h4, .inr (4, [.ref q4, .int (iI P)])), (q4, .inl (cI, 997, .inl (aI u)))]) jA) jA) (by decide) rfl rfl rfl ?_
  intro jp je js jm ja jb jt jc jA jQ jS jr jk jn jq hK hP hD hA hS ls hl
  have hl : lv_has ls 2 [(0, .ref h4)] := hl
  have hok5 := hok.1
  have hok9 := hok.2.1
  refine x_aln jS dX4_fillInverses_0 rfl hl 0 rfl ?_
  refine x_get jS hK hP h_X4_fillInverses_X4 0 rfl rfl 0 rfl m_X4_fillInverses_1 rfl dX4_fillInverses_1 ?_
  refine x_ic jS dX4_fillInverses_4 ?_
  refine x_ic jS dX4_fillInverses_5 ?_
  refine x_iast (ws' := [(h4, .inr (4, [.ref q4, .int (iI P)])), (q4, .inl (cI, 997, .inl (aI (uI iv 1 1))))]) jS hK hP hD hS 1 rfl (by omega) dX4_fillInverses_6 rfl (fun jH jL hP hD hS => ?_)
  refine x_ic jS dX4_fillInverses_7 ?_
  refine x_isn (lv' := [(1, .int (iI 2)), (0, .ref h4)]) jS dX4_fillInverses_8 rfl hl rfl rfl (fun ls hl => ?_)
  have loop_9 : ∀ (mm : Nat) (i : Int) (iv1 : Int → Int) (jH : Heap) (jL : List Loc), (P - i).toNat = mm → (2 ≤ i ∧ i ≤ P) → (∀ w : Int, 0 < w → w < i → 0 ≤ iv1 w ∧ iv1 w < P ∧ w * iv1 w % P = 1) → va_P D vwCl [(h4, .inr (4, [.ref q4, .int (iI P)])), (q4, .inl (cI, 997, .inl (aI iv1)))] jH → va_D jA [(h4, .inr (4, [.ref q4, .int (iI P)])), (q4, .inl (cI, 997, .inl (aI iv1)))] → va_S jA js.heap jH jL → ∀ ls : Array Slot, lv_has ls 2 [(1, .int (iI i)), (0, .ref h4)] → W jp jl je rm_X4_fillInverses js jm ja jb jt jc jH jL 0 0 jQ (F0 jm 9 ls []) := by
    intro mm
    induction mm using Nat.strongRecOn with
    | ind mm ih9 =>
      intro i iv1 jH jL hmm9 hi ht hP hD hS ls hl
      refine x_iln jS dX4_fillInverses_9 rfl hl 0 rfl ?_
      refine x_aln jS dX4_fillInverses_10 rfl hl 1 rfl ?_
      refine x_get jS hK hP h_X4_fillInverses_X4 0 rfl rfl 1 rfl m_X4_fillInverses_2 rfl dX4_fillInverses_11 ?_
      refine x_cmpge jS 66 dX4_fillInverses_14 (by decide) (by omega) (fun hc14 => ?_) (fun hc14 => ?_)
      · skip
        exact x_vretW jS jr jk jq dX4_fillInverses_66 iv1 hP hD hS (show tbl P iv1 from fun w h1 h2 => ht w h1 (by omega))
      · skip
        refine x_iln jS dX4_fillInverses_17 rfl hl 0 rfl ?_
        refine x_aln jS dX4_fillInverses_18 rfl hl 1 rfl ?_
        refine x_get jS hK hP h_X4_fillInverses_X4 0 rfl rfl 0 rfl m_X4_fillInverses_1 rfl dX4_fillInverses_19 ?_
        refine x_alen jS hK hP 1 rfl dX4_fillInverses_22 ?_
        refine x_cmpge jS 66 dX4_fillInverses_23 (by decide) (by omega) (fun hc23 => ?_) (fun hc23 => ?_)
        · exfalso; omega
        refine x_aln jS dX4_fillInverses_26 rfl hl 1 rfl ?_
        refine x_get jS hK hP h_X4_fillInverses_X4 0 rfl rfl 0 rfl m_X4_fillInverses_1 rfl dX4_fillInverses_27 ?_
        refine x_iln jS dX4_fillInverses_30 rfl hl 0 rfl ?_
        refine x_aln jS dX4_fillInverses_31 rfl hl 1 rfl ?_
        refine x_get jS hK hP h_X4_fillInverses_X4 0 rfl rfl 1 rfl m_X4_fillInverses_2 rfl dX4_fillInverses_32 ?_
        refine x_aln jS dX4_fillInverses_35 rfl hl 1 rfl ?_
        refine x_get jS hK hP h_X4_fillInverses_X4 0 rfl rfl 1 rfl m_X4_fillInverses_2 rfl dX4_fillInverses_36 ?_
        refine x_iln jS dX4_fillInverses_39 rfl hl 0 rfl ?_
        refine x_idiv jS dX4_fillInverses_40 (by omega) (fun hm40 => ?_)
        refine x_isub jS dX4_fillInverses_41 ?_
        refine x_aln jS dX4_fillInverses_42 rfl hl 1 rfl ?_
        refine x_get jS hK hP h_X4_fillInverses_X4 0 rfl rfl 0 rfl m_X4_fillInverses_1 rfl dX4_fillInverses_43 ?_
        refine x_aln jS dX4_fillInverses_46 rfl hl 1 rfl ?_
        refine x_get jS hK hP h_X4_fillInverses_X4 0 rfl rfl 1 rfl m_X4_fillInverses_2 rfl dX4_fillInverses_47 ?_
        refine x_iln jS dX4_fillInverses_50 rfl hl 0 rfl ?_
        refine x_irem jS dX4_fillInverses_51 (by omega) (fun hm51 => ?_)
        have hne := prm_div hok hi.1 hc14
        have hx := ht (P % i) (by omega) (by omega)
        refine x_iald jS hK hP 1 rfl (by omega) dX4_fillInverses_52 ?_
        refine x_imulB jS dX4_fillInverses_53 (by omega) (fun hp53 => ?_)
        refine x_aln jS dX4_fillInverses_54 rfl hl 1 rfl ?_
        refine x_get jS hK hP h_X4_fillInverses_X4 0 rfl rfl 1 rfl m_X4_fillInverses_2 rfl dX4_fillInverses_55 ?_
        refine x_irem jS dX4_fillInverses_58 (by omega) (fun hm58 => ?_)
        refine x_iast (ws' := [(h4, .inr (4, [.ref q4, .int (iI P)])), (q4, .inl (cI, 997, .inl (aI (uI iv1 i (((P - (P / i)) * (iv1 (P % i))) % P)))))]) jS hK hP hD hS 1 rfl (by omega) dX4_fillInverses_59 rfl (fun jH jL hP hD hS => ?_)
        refine x_iinc (lv' := [(1, .int (iI (i + 1))), (0, .ref h4)]) jS dX4_fillInverses_60 hl 0 rfl rfl rfl (fun ls hl => ?_)
        refine x_goto jS 9 dX4_fillInverses_63 (by decide) ?_
        exact ih9 _ (by omega) (i + 1) (uI iv1 i (((P - (P / i)) * (iv1 (P % i))) % P)) _ _ rfl (by omega) (fun w h1 h2 => by rcases Int.lt_or_le w i with z | z; rw [uI_n (by omega)]; exact ht w h1 z; rw [show w = i by omega, uI_s]; exact ⟨hm58.1, hm58.2.1, inv_step hx.2.2⟩) hP hD hS ls (lv_sub hl [0, 1] rfl)
  exact loop_9 _ 2 (uI iv 1 1) _ _ rfl (by omega) (fun w h1 h2 => by rw [show w = 1 by omega, uI_s]; refine ⟨by omega, by omega, ?_⟩; rw [Int.one_mul]; exact Int.emod_eq_of_lt (by omega) (by omega)) hP hD hS ls (lv_sub hl [0, 1] rfl)
theorem kf_X4_isPrime : kfS yX4_isPrime 1 := by decide +kernel
theorem h_X4_become_X4 : ∀ w ∈ u_ws RX4 TX4 2, w ∈ wsX4_become := fun w h => List.mem_cons_of_mem _ (List.mem_append_right _ h)
theorem m_X4_become_1 : Cond.fieldLink RX4 15 "SealedBox$PrimeField" "p" "I" ∈ wsX4_become := List.mem_of_getElem? (i := 1) rfl
theorem kf_X4_fillInverses : kfV yX4_fillInverses RX4 0 := by decide +kernel
abbrev rm_X4_become : Room := { frames := 1, cells := 0, slots := 0, locals := 21 }
set_option maxHeartbeats 4000000 in
set_option maxRecDepth 100000 in
theorem c_X4_become (jl : Launch) (D : va_G) (cI : ClassId) (h4 q4 : Nat) (P v : Int) (iv : Int → Int) (sz : Nat) (hv : -2147483648 ≤ v ∧ v < 2147483648) : Met jl yX4_become wsX4_become rm_X4_become (xPw [.ref h4, .int (iI v)] D cI [(h4, .inr (4, [.ref q4, .int (iI P)])), (q4, .inl (cI, 997, .inl (aI iv)))] sz) (va_Qi (fun (r : Int32) (u : Int × (Int → Int)) => r = (iI (bI (okP v))) ∧ ((okP v → u.1 = v ∧ tbl v u.2) ∧ (¬ okP v → u.1 = P ∧ u.2 = iv))) (xB D (fun (u : Int × (Int → Int)) => [(h4, .inr (4, [.ref q4, .int (iI u.1)])), (q4, .inl (cI, 997, .inl (aI u.2)))]) (va_A [(h4, .inr (4, [.ref q4, .int (iI P)])), (q4, .inl (cI, 997, .inl (aI iv)))] sz)) (va_A [(h4, .inr (4, [.ref q4, .int (iI P)])), (q4, .inl (cI, 997, .inl (aI iv)))] sz)) 0 0 (va_A [(h4, .inr (4, [.ref q4, .int (iI P)])), (q4, .inl (cI, 997, .inl (aI iv)))] sz) := by
  refine x_metW (own := RX4) (cc := cX4_become) (maxL := 2) (ret := (some .boolean)) (Qc := fun jA => va_Qi (fun (r : Int32) (u : Int × (Int → Int)) => r = (iI (bI (okP v))) ∧ ((okP v → u.1 = v ∧ tbl v u.2) ∧ (¬ okP v → u.1 = P ∧ u.2 = iv))) (xB D (fun (u : Int × (Int → Int)) => [(h4, .inr (4, [.ref q4, .int (iI u.1)])), (q4, .inl (cI, 997, .inl (aI u.2)))]) jA) jA) (by decide) rfl rfl rfl ?_
  intro jp je js jm ja jb jt jc jA jQ jS jr jk jn jq hK hP hD hA hS ls hl
  have hl : lv_has ls 2 [(0, .ref h4), (1, .int (iI v))] := hl
  refine x_iln jS dX4_become_0 rfl hl 1 rfl ?_
  refine x_ic jS dX4_become_1 ?_
  refine x_cmplt jS 19 dX4_become_2 (by decide) (by omega) (fun hc2 => ?_) (fun hc2 => ?_)
  · skip
    refine x_ic jS dX4_become_19 ?_
    exact x_zretW jS jr jk jq dX4_become_20 rfl ⟨P, iv⟩ hP hD hS (show (iI 0) = (iI (bI (okP v))) ∧ ((okP v → P = v ∧ tbl v iv) ∧ (¬ okP v → P = P ∧ iv = iv)) from ⟨congrArg iI (bI_f (fun h => by omega)).symm, fun h => by omega, fun _ => ⟨rfl, rfl⟩⟩)
  · skip
    refine x_iln jS dX4_become_5 rfl hl 1 rfl ?_
    refine x_si jS dX4_become_6 (by decide) ?_
    refine x_cmpgt jS 19 dX4_become_9 (by decide) (by omega) (fun hc9 => ?_) (fun hc9 => ?_)
    · skip
      refine x_ic jS dX4_become_19 ?_
      exact x_zretW jS jr jk jq dX4_become_20 rfl ⟨P, iv⟩ hP hD hS (show (iI 0) = (iI (bI (okP v))) ∧ ((okP v → P = v ∧ tbl v iv) ∧ (¬ okP v → P = P ∧ iv = iv)) from ⟨congrArg iI (bI_f (fun h => by omega)).symm, fun h => by omega, fun _ => ⟨rfl, rfl⟩⟩)
    · skip
      refine x_iln jS dX4_become_12 rfl hl 1 rfl ?_
      refine x_rI (x_rmS (As := [.int (iI v)]) (rest := []) jS hl.1 hK (c_X4_isPrime jl D cI v (by first | assumption | omega)) (hP.sub [] rfl) gX4_become_X4_isPrime rfl rfl rfl kf_X4_isPrime rfl rfl rfl rfl rfl dX4_become_13 rfl rfl) ?_
      refine x_ifneB jS 21 dX4_become_16 (by decide) (fun hc16 => ?_) (fun hc16 => ?_)
      · skip
        refine x_aln jS dX4_become_21 rfl hl 0 rfl ?_
        refine x_iln jS dX4_become_22 rfl hl 1 rfl ?_
        refine x_put (ty0 := tyX4) (ws' := [(h4, .inr (4, [.ref q4, .int (iI v)])), (q4, .inl (cI, 997, .inl (aI iv)))]) jS hK hP hD hS h_X4_become_X4 tyX4_ok nmX4 0 rfl rfl 1 rfl m_X4_become_1 rfl rfl rfl rfl dX4_become_23 rfl (fun jH jL hP hD hS => ?_)
        refine x_aln jS dX4_become_26 rfl hl 0 rfl ?_
        refine x_aV (wc := [(h4, .inr (4, [.ref q4, .int (iI v)])), (q4, .inl (cI, 997, .inl (aI iv)))]) (wr := []) hP hD hS hA [0, 1] [] rfl rfl (by decide) (by decide) (cs := 0) (ss := 0) rfl rfl (x_rnV (As := []) (rest := []) jS hl.1 hK (c_X4_fillInverses jl D cI h4 q4 v iv _ (⟨by omega, by omega, hc16⟩)) hP hD [0, 1] rfl rfl (by decide) 0 rfl rfl gX4_become_X4_fillInverses rfl rfl rfl kf_X4_fillInverses rfl rfl rfl rfl rfl dX4_become_27 rfl rfl) (fun u jH jL hw hP hD hS => ?_)
        obtain ⟨iv2_1, rfl⟩ : ∃ z, z = u := ⟨_, rfl⟩
        have hw27 : tbl v iv2_1 := hw
        clear hw
        have hP : va_P D vwCl [(h4, .inr (4, [.ref q4, .int (iI v)])), (q4, .inl (cI, 997, .inl (aI iv2_1)))] jH := hP
        have hD : va_D jA [(h4, .inr (4, [.ref q4, .int (iI v)])), (q4, .inl (cI, 997, .inl (aI iv2_1)))] := hD
        refine x_ic jS dX4_become_30 ?_
        exact x_zretW jS jr jk jq dX4_become_31 rfl ⟨v, iv2_1⟩ hP hD hS (show (iI 1) = (iI (bI (okP v))) ∧ ((okP v → v = v ∧ tbl v iv2_1) ∧ (¬ okP v → v = P ∧ iv2_1 = iv)) from ⟨congrArg iI (bI_t ⟨by omega, by omega, hc16⟩).symm, fun _ => ⟨rfl, hw27⟩, fun h => absurd ⟨by omega, by omega, hc16⟩ h⟩)
      · skip
        refine x_ic jS dX4_become_19 ?_
        exact x_zretW jS jr jk jq dX4_become_20 rfl ⟨P, iv⟩ hP hD hS (show (iI 0) = (iI (bI (okP v))) ∧ ((okP v → P = v ∧ tbl v iv) ∧ (¬ okP v → P = P ∧ iv = iv)) from ⟨congrArg iI (bI_f (fun h => hc16 h.2.2)).symm, fun h => absurd h.2.2 hc16, fun _ => ⟨rfl, rfl⟩⟩)
theorem h_X0_letter_X0 : ∀ w ∈ u_ws RX0 TX0 3, w ∈ wsX0_letter := fun w h => List.mem_cons_of_mem _ (List.mem_append_left _ (List.mem_append_right _ h))
theorem m_X0_letter_1 : Cond.fieldLink RX0 18 "SealedBox$Bases" "numbers" "LSealedBox$PrimeField;" ∈ wsX0_letter := List.mem_of_getElem? (i := 1) rfl
theorem m_X0_letter_2 : Cond.fieldLink RX0 9 "SealedBox$Bases" "shift" "I" ∈ wsX0_letter := List.mem_of_getElem? (i := 2) rfl
theorem kf_X4_plus : kfV yX4_plus RX4 2 := by decide +kernel
theorem kf_X4_power : kfV yX4_power RX4 2 := by decide +kernel
theorem m_X0_letter_3 : Cond.fieldLink RX0 15 "SealedBox$Bases" "scale" "I" ∈ wsX0_letter := List.mem_of_getElem? (i := 3) rfl
theorem kf_X4_times : kfV yX4_times RX4 2 := by decide +kernel
abbrev rm_X0_letter : Room := { frames := 1, cells := 0, slots := 0, locals := 24 }
set_option maxHeartbeats 4000000 in
set_option maxRecDepth 100000 in
theorem c_X0_letter (jl : Launch) (D : va_G) (cI : ClassId) (h0 h4 q4 : Nat) (P sh sc k v ex : Int)  (hP5 : 5 ≤ P ∧ P ≤ 997) (hs : 0 ≤ sh ∧ sh ≤ 996 ∧ 1 ≤ sc ∧ sc ≤ 996) (hk : 0 ≤ k ∧ k ≤ 2) (hv : 0 ≤ v ∧ v ≤ 1000) (he : 0 ≤ ex ∧ ex ≤ 1000) : Met jl yX0_letter wsX0_letter rm_X0_letter (xPr [.ref h0, .int (iI k), .int (iI v), .int (iI ex)] D cI [(h0, .inr (0, [.ref h4, .int (iI sh), .int (iI sc)])), (h4, .inr (4, [.ref q4, .int (iI P)]))]) (vp_Si (fun r => r = (iI (ltr P sh sc k v ex)))) 0 0 (fun _ => False) := by
  refine x_metR (own := RX0) (cc := cX0_letter) (maxL := 6) (ret := (some .int)) (by decide) rfl rfl rfl ?_
  intro jp je js jm ja jb jt jc jQ jS jr jk jq hK hP ls hl
  have hl : lv_has ls 6 [(0, .ref h0), (1, .int (iI k)), (2, .int (iI v)), (3, .int (iI ex))] := hl
  refine x_iln jS dX0_letter_0 rfl hl 1 rfl ?_
  refine x_ifne jS 8 dX0_letter_1 (by decide) (by omega) (fun hc1 => ?_) (fun hc1 => ?_)
  · skip
    refine x_aln jS dX0_letter_8 rfl hl 0 rfl ?_
    refine x_get jS hK hP h_X0_letter_X0 0 rfl rfl 0 rfl m_X0_letter_1 rfl dX0_letter_9 ?_
    refine x_iln jS dX0_letter_12 rfl hl 2 rfl ?_
    refine x_aln jS dX0_letter_13 rfl hl 0 rfl ?_
    refine x_get jS hK hP h_X0_letter_X0 0 rfl rfl 1 rfl m_X0_letter_2 rfl dX0_letter_14 ?_
    refine x_rI (x_rmV (As := [.int (iI v), .int (iI sh)]) (rest := []) jS hl.1 hK (c_X4_plus jl D cI h4 q4 P v sh (by first | assumption | omega) (by first | assumption | omega) (by first | assumption | omega)) (hP.sub [1] rfl) 0 rfl rfl gX0_letter_X4_plus rfl rfl rfl kf_X4_plus rfl rfl rfl rfl rfl dX0_letter_17 rfl rfl) ?_
    refine x_is (lv' := [(4, .int (iI ((v + sh) % P))), (0, .ref h0), (1, .int (iI k)), (2, .int (iI v)), (3, .int (iI ex))]) jS dX0_letter_20 hl rfl rfl (fun ls hl => ?_)
    refine x_aln jS dX0_letter_22 rfl hl 1 rfl ?_
    refine x_get jS hK hP h_X0_letter_X0 0 rfl rfl 0 rfl m_X0_letter_1 rfl dX0_letter_23 ?_
    refine x_il jS dX0_letter_26 hl 0 rfl ?_
    refine x_iln jS dX0_letter_28 rfl hl 4 rfl ?_
    have hq := emB (show 0 < P by omega) (v + sh)
    refine x_rI (x_rmV (As := [.int (iI ((v + sh) % P)), .int (iI ex)]) (rest := []) jS hl.1 hK (c_X4_power jl D cI h4 q4 P ((v + sh) % P) ex (by first | assumption | omega) (by first | assumption | omega) (by first | assumption | omega)) (hP.sub [1] rfl) 0 rfl rfl gX0_letter_X4_power rfl rfl rfl kf_X4_power rfl rfl rfl rfl rfl dX0_letter_29 rfl rfl) ?_
    refine x_is (lv' := [(5, .int (iI (pw P ((v + sh) % P) ex))), (4, .int (iI ((v + sh) % P))), (0, .ref h0), (1, .int (iI k)), (2, .int (iI v)), (3, .int (iI ex))]) jS dX0_letter_32 hl rfl rfl (fun ls hl => ?_)
    refine x_iln jS dX0_letter_34 rfl hl 3 rfl ?_
    refine x_ic jS dX0_letter_35 ?_
    refine x_cmpne jS 55 dX0_letter_36 (by decide) (by omega) (fun hc36 => ?_) (fun hc36 => ?_)
    · skip
      refine x_il jS dX0_letter_55 hl 0 rfl ?_
      exact x_iretR jS jr jk jq dX0_letter_57 (congrArg iI (ltr_1 (by omega)).symm)
    · skip
      refine x_aln jS dX0_letter_39 rfl hl 2 rfl ?_
      refine x_get jS hK hP h_X0_letter_X0 0 rfl rfl 0 rfl m_X0_letter_1 rfl dX0_letter_40 ?_
      refine x_aln jS dX0_letter_43 rfl hl 2 rfl ?_
      refine x_get jS hK hP h_X0_letter_X0 0 rfl rfl 2 rfl m_X0_letter_3 rfl dX0_letter_44 ?_
      refine x_il jS dX0_letter_47 hl 0 rfl ?_
      have hq2 := pw_in (show 2 ≤ P by omega) ((v + sh) % P) ex
      refine x_rI (x_rmV (As := [.int (iI sc), .int (iI (pw P ((v + sh) % P) ex))]) (rest := []) jS hl.1 hK (c_X4_times jl D cI h4 q4 P sc (pw P ((v + sh) % P) ex) (by first | assumption | omega) (by first | assumption | omega) (by first | assumption | omega)) (hP.sub [1] rfl) 0 rfl rfl gX0_letter_X4_times rfl rfl rfl kf_X4_times rfl rfl rfl rfl rfl dX0_letter_49 rfl rfl) ?_
      refine x_goto jS 57 dX0_letter_52 (by decide) ?_
      exact x_iretR jS jr jk jq dX0_letter_57 (congrArg iI (ltr_2 hc36).symm)
  · skip
    refine x_iln jS dX0_letter_4 rfl hl 2 rfl ?_
    refine x_goto jS 20 dX0_letter_5 (by decide) ?_
    refine x_is (lv' := [(4, .int (iI v)), (0, .ref h0), (1, .int (iI k)), (2, .int (iI v)), (3, .int (iI ex))]) jS dX0_letter_20 hl rfl rfl (fun ls hl => ?_)
    refine x_aln jS dX0_letter_22 rfl hl 1 rfl ?_
    refine x_get jS hK hP h_X0_letter_X0 0 rfl rfl 0 rfl m_X0_letter_1 rfl dX0_letter_23 ?_
    refine x_il jS dX0_letter_26 hl 0 rfl ?_
    refine x_iln jS dX0_letter_28 rfl hl 4 rfl ?_
    have hq := emB (show 0 < P by omega) (v + sh)
    refine x_rI (x_rmV (As := [.int (iI v), .int (iI ex)]) (rest := []) jS hl.1 hK (c_X4_power jl D cI h4 q4 P v ex (by first | assumption | omega) (by first | assumption | omega) (by first | assumption | omega)) (hP.sub [1] rfl) 0 rfl rfl gX0_letter_X4_power rfl rfl rfl kf_X4_power rfl rfl rfl rfl rfl dX0_letter_29 rfl rfl) ?_
    refine x_is (lv' := [(5, .int (iI (pw P v ex))), (4, .int (iI v)), (0, .ref h0), (1, .int (iI k)), (2, .int (iI v)), (3, .int (iI ex))]) jS dX0_letter_32 hl rfl rfl (fun ls hl => ?_)
    refine x_iln jS dX0_letter_34 rfl hl 3 rfl ?_
    refine x_ic jS dX0_letter_35 ?_
    refine x_cmpne jS 55 dX0_letter_36 (by decide) (by omega) (fun hc36 => ?_) (fun hc36 => ?_)
    · skip
      refine x_il jS dX0_letter_55 hl 0 rfl ?_
      exact x_iretR jS jr jk jq dX0_letter_57 (congrArg iI (ltr_0 hc36 (by omega)).symm)
    · skip
      refine x_aln jS dX0_letter_39 rfl hl 2 rfl ?_
      refine x_get jS hK hP h_X0_letter_X0 0 rfl rfl 0 rfl m_X0_letter_1 rfl dX0_letter_40 ?_
      refine x_aln jS dX0_letter_43 rfl hl 2 rfl ?_
      refine x_get jS hK hP h_X0_letter_X0 0 rfl rfl 2 rfl m_X0_letter_3 rfl dX0_letter_44 ?_
      refine x_il jS dX0_letter_47 hl 0 rfl ?_
      have hq2 := pw_in (show 2 ≤ P by omega) ((v + sh) % P) ex
      refine x_rI (x_rmV (As := [.int (iI sc), .int (iI (pw P v ex))]) (rest := []) jS hl.1 hK (c_X4_times jl D cI h4 q4 P sc (pw P v ex) (by first | assumption | omega) (by first | assumption | omega) (by first | assumption | omega)) (hP.sub [1] rfl) 0 rfl rfl gX0_letter_X4_times rfl rfl rfl kf_X4_times rfl rfl rfl rfl rfl dX0_letter_49 rfl rfl) ?_
      refine x_goto jS 57 dX0_letter_52 (by decide) ?_
      exact x_iretR jS jr jk jq dX0_letter_57 (absurd hc36 (by omega))
abbrev rm_X0_bodiesAsked : Room := { frames := 0, cells := 0, slots := 0, locals := 0 }
set_option maxHeartbeats 4000000 in
set_option maxRecDepth 100000 in
theorem c_X0_bodiesAsked (jl : Launch) (D : va_G) (cI : ClassId) (k : Int)  (hk : 0 ≤ k ∧ k ≤ 2) : Met jl yX0_bodiesAsked wsX0_bodiesAsked rm_X0_bodiesAsked (xPr [.int (iI k)] D cI []) (vp_Si (fun r => r = (iI (if k = 2 then 111 else if k = 1 then 11 else 1)))) 0 0 (fun _ => False) := by
  refine x_metR (own := RX0) (cc := cX0_bodiesAsked) (maxL := 1) (ret := (some .int)) (by decide) rfl rfl rfl ?_
  intro jp je js jm ja jb jt jc jQ jS jr jk jq hK hP ls hl
  have hl : lv_has ls 1 [(0, .int (iI k))] := hl
  refine x_iln jS dX0_bodiesAsked_0 rfl hl 0 rfl ?_
  refine x_ic jS dX0_bodiesAsked_1 ?_
  refine x_cmpne jS 8 dX0_bodiesAsked_2 (by decide) (by omega) (fun hc2 => ?_) (fun hc2 => ?_)
  · skip
    refine x_iln jS dX0_bodiesAsked_8 rfl hl 0 rfl ?_
    refine x_ic jS dX0_bodiesAsked_9 ?_
    refine x_cmpne jS 18 dX0_bodiesAsked_10 (by decide) (by omega) (fun hc10 => ?_) (fun hc10 => ?_)
    · skip
      refine x_ic jS dX0_bodiesAsked_18 ?_
      exact x_iretR jS jr jk jq dX0_bodiesAsked_19 (by rw [if_neg hc2, if_neg hc10])
    · skip
      refine x_bi jS dX0_bodiesAsked_13 (by decide) ?_
      refine x_goto jS 19 dX0_bodiesAsked_15 (by decide) ?_
      exact x_iretR jS jr jk jq dX0_bodiesAsked_19 (by rw [if_neg hc2, if_pos hc10])
  · skip
    refine x_bi jS dX0_bodiesAsked_5 (by decide) ?_
    exact x_iretR jS jr jk jq dX0_bodiesAsked_7 (by rw [if_pos hc2])
abbrev rm_X7_isExponent : Room := { frames := 0, cells := 0, slots := 0, locals := 0 }
set_option maxHeartbeats 4000000 in
set_option maxRecDepth 100000 in
theorem c_X7_isExponent (jl : Launch) (D : va_G) (cI : ClassId) (v : Int)  (hv : -2147483648 ≤ v ∧ v < 2147483648) : Met jl yX7_isExponent wsX7_isExponent rm_X7_isExponent (xPr [.int (iI v)] D cI []) (vp_Si (fun r => r = (iI (bI (0 ≤ v ∧ v ≤ 4))))) 0 0 (fun _ => False) := by
  refine x_metR (own := RX7) (cc := cX7_isExponent) (maxL := 1) (ret := (some .boolean)) (by decide) rfl rfl rfl ?_
  intro jp je js jm ja jb jt jc jQ jS jr jk jq hK hP ls hl
  have hl : lv_has ls 1 [(0, .int (iI v))] := hl
  refine x_iln jS dX7_isExponent_0 rfl hl 0 rfl ?_
  refine x_iflt jS 13 dX7_isExponent_1 (by decide) (by omega) (fun hc1 => ?_) (fun hc1 => ?_)
  · skip
    refine x_ic jS dX7_isExponent_13 ?_
    exact x_zretR jS jr jk jq dX7_isExponent_14 rfl (congrArg iI (bI_f (by omega)).symm)
  · skip
    refine x_iln jS dX7_isExponent_4 rfl hl 0 rfl ?_
    refine x_ic jS dX7_isExponent_5 ?_
    refine x_cmpgt jS 13 dX7_isExponent_6 (by decide) (by omega) (fun hc6 => ?_) (fun hc6 => ?_)
    · skip
      refine x_ic jS dX7_isExponent_13 ?_
      exact x_zretR jS jr jk jq dX7_isExponent_14 rfl (congrArg iI (bI_f (by omega)).symm)
    · skip
      refine x_ic jS dX7_isExponent_9 ?_
      refine x_goto jS 14 dX7_isExponent_10 (by decide) ?_
      exact x_zretR jS jr jk jq dX7_isExponent_14 rfl (congrArg iI (bI_t (by omega)).symm)
abbrev rm_X7_isKind : Room := { frames := 0, cells := 0, slots := 0, locals := 0 }
set_option maxHeartbeats 4000000 in
set_option maxRecDepth 100000 in
theorem c_X7_isKind (jl : Launch) (D : va_G) (cI : ClassId) (v : Int)  (hv : -2147483648 ≤ v ∧ v < 2147483648) : Met jl yX7_isKind wsX7_isKind rm_X7_isKind (xPr [.int (iI v)] D cI []) (vp_Si (fun r => r = (iI (bI (0 ≤ v ∧ v ≤ 2))))) 0 0 (fun _ => False) := by
  refine x_metR (own := RX7) (cc := cX7_isKind) (maxL := 1) (ret := (some .boolean)) (by decide) rfl rfl rfl ?_
  intro jp je js jm ja jb jt jc jQ jS jr jk jq hK hP ls hl
  have hl : lv_has ls 1 [(0, .int (iI v))] := hl
  refine x_iln jS dX7_isKind_0 rfl hl 0 rfl ?_
  refine x_iflt jS 13 dX7_isKind_1 (by decide) (by omega) (fun hc1 => ?_) (fun hc1 => ?_)
  · skip
    refine x_ic jS dX7_isKind_13 ?_
    exact x_zretR jS jr jk jq dX7_isKind_14 rfl (congrArg iI (bI_f (by omega)).symm)
  · skip
    refine x_iln jS dX7_isKind_4 rfl hl 0 rfl ?_
    refine x_ic jS dX7_isKind_5 ?_
    refine x_cmpgt jS 13 dX7_isKind_6 (by decide) (by omega) (fun hc6 => ?_) (fun hc6 => ?_)
    · skip
      refine x_ic jS dX7_isKind_13 ?_
      exact x_zretR jS jr jk jq dX7_isKind_14 rfl (congrArg iI (bI_f (by omega)).symm)
    · skip
      refine x_ic jS dX7_isKind_9 ?_
      refine x_goto jS 14 dX7_isKind_10 (by decide) ?_
      exact x_zretR jS jr jk jq dX7_isKind_14 rfl (congrArg iI (bI_t (by omega)).symm)
abbrev rm_X7_isBox : Room := { frames := 0, cells := 0, slots := 0, locals := 0 }
set_option maxHeartbeats 4000000 in
set_option maxRecDepth 100000 in
theorem c_X7_isBox (jl : Launch) (D : va_G) (cI : ClassId) (v : Int)  (hv : -2147483648 ≤ v ∧ v < 2147483648) : Met jl yX7_isBox wsX7_isBox rm_X7_isBox (xPr [.int (iI v)] D cI []) (vp_Si (fun r => r = (iI (bI (v = 0 ∨ v = 1))))) 0 0 (fun _ => False) := by
  refine x_metR (own := RX7) (cc := cX7_isBox) (maxL := 1) (ret := (some .boolean)) (by decide) rfl rfl rfl ?_
  intro jp je js jm ja jb jt jc jQ jS jr jk jq hK hP ls hl
  have hl : lv_has ls 1 [(0, .int (iI v))] := hl
  refine x_iln jS dX7_isBox_0 rfl hl 0 rfl ?_
  refine x_ifeq jS 9 dX7_isBox_1 (by decide) (by omega) (fun hc1 => ?_) (fun hc1 => ?_)
  · skip
    refine x_ic jS dX7_isBox_9 ?_
    refine x_goto jS 14 dX7_isBox_10 (by decide) ?_
    exact x_zretR jS jr jk jq dX7_isBox_14 rfl (congrArg iI (bI_t (by omega)).symm)
  · skip
    refine x_iln jS dX7_isBox_4 rfl hl 0 rfl ?_
    refine x_ic jS dX7_isBox_5 ?_
    refine x_cmpne jS 13 dX7_isBox_6 (by decide) (by omega) (fun hc6 => ?_) (fun hc6 => ?_)
    · skip
      refine x_ic jS dX7_isBox_13 ?_
      exact x_zretR jS jr jk jq dX7_isBox_14 rfl (congrArg iI (bI_f (by omega)).symm)
    · skip
      refine x_ic jS dX7_isBox_9 ?_
      refine x_goto jS 14 dX7_isBox_10 (by decide) ?_
      exact x_zretR jS jr jk jq dX7_isBox_14 rfl (congrArg iI (bI_t (by omega)).symm)
theorem h_X1_part_X1 : ∀ w ∈ u_ws RX1 TX1 7, w ∈ wsX1_part := fun w h => List.mem_cons_of_mem _ (List.mem_append_right _ h)
theorem m_X1_part_1 : Cond.fieldLink RX1 11 "SealedBox$Box" "parts" "[I" ∈ wsX1_part := List.mem_of_getElem? (i := 1) rfl
abbrev rm_X1_part : Room := { frames := 0, cells := 0, slots := 0, locals := 0 }
set_option maxHeartbeats 4000000 in
set_option maxRecDepth 100000 in
theorem c_X1_part (jl : Launch) (D : va_G) (cI : ClassId) (hb qp qf ql h0 h4 : Nat) (k n t w : Int) (pt : Int → Int)  (ht : 0 ≤ t ∧ t < 4) (hw : 0 ≤ w ∧ w < 4) : Met jl yX1_part wsX1_part rm_X1_part (xPr [.ref hb, .int (iI t), .int (iI w)] D cI [(hb, .inr (1, [.ref h4, .ref h0, .ref qp, .ref qf, .ref ql, .int (iI k), .int (iI n)])), (qp, .inl (cI, 16, .inl (aI pt)))]) (vp_Si (fun r => r = (iI (pt (t * 4 + w))))) 0 0 (fun _ => False) := by
  refine x_metR (own := RX1) (cc := cX1_part) (maxL := 4) (ret := (some .int)) (by decide) rfl rfl rfl ?_
  intro jp je js jm ja jb jt jc jQ jS jr jk jq hK hP ls hl
  have hl : lv_has ls 4 [(0, .ref hb), (1, .int (iI t)), (2, .int (iI w))] := hl
  refine x_iln jS dX1_part_0 rfl hl 1 rfl ?_
  refine x_ic jS dX1_part_1 ?_
  refine x_imul jS dX1_part_2 ?_
  refine x_iln jS dX1_part_3 rfl hl 2 rfl ?_
  refine x_iadd jS dX1_part_4 ?_
  refine x_isn (lv' := [(3, .int (iI ((t * 4) + w))), (0, .ref hb), (1, .int (iI t)), (2, .int (iI w))]) jS dX1_part_5 rfl hl rfl rfl (fun ls hl => ?_)
  refine x_iln jS dX1_part_6 rfl hl 0 rfl ?_
  refine x_iflt jS 28 dX1_part_7 (by decide) (by omega) (fun hc7 => ?_) (fun hc7 => ?_)
  · exfalso; omega
  refine x_iln jS dX1_part_10 rfl hl 0 rfl ?_
  refine x_aln jS dX1_part_11 rfl hl 1 rfl ?_
  refine x_get jS hK hP h_X1_part_X1 0 rfl rfl 2 rfl m_X1_part_1 rfl dX1_part_12 ?_
  refine x_alen jS hK hP 1 rfl dX1_part_15 ?_
  refine x_cmpge jS 28 dX1_part_16 (by decide) (by omega) (fun hc16 => ?_) (fun hc16 => ?_)
  · exfalso; omega
  refine x_aln jS dX1_part_19 rfl hl 1 rfl ?_
  refine x_get jS hK hP h_X1_part_X1 0 rfl rfl 2 rfl m_X1_part_1 rfl dX1_part_20 ?_
  refine x_iln jS dX1_part_23 rfl hl 0 rfl ?_
  refine x_iald jS hK hP 1 rfl (by omega) dX1_part_24 ?_
  refine x_goto jS 29 dX1_part_25 (by decide) ?_
  exact x_iretR jS jr jk jq dX1_part_29 (rfl)
theorem h_X1_ofTwoLetters_X1 : ∀ w ∈ u_ws RX1 TX1 7, w ∈ wsX1_ofTwoLetters := fun w h => List.mem_cons_of_mem _ (List.mem_append_left _ (List.mem_append_left _ (List.mem_append_right _ h)))
theorem m_X1_ofTwoLetters_1 : Cond.fieldLink RX1 28 "SealedBox$Box" "numbers" "LSealedBox$PrimeField;" ∈ wsX1_ofTwoLetters := List.mem_of_getElem? (i := 1) rfl
theorem kf_X1_part : kfV yX1_part RX1 2 := by decide +kernel
theorem m_X1_ofTwoLetters_2 : Cond.fieldLink RX1 32 "SealedBox$Box" "bases" "LSealedBox$Bases;" ∈ wsX1_ofTwoLetters := List.mem_of_getElem? (i := 2) rfl
theorem m_X1_ofTwoLetters_3 : Cond.fieldLink RX1 21 "SealedBox$Box" "kind" "I" ∈ wsX1_ofTwoLetters := List.mem_of_getElem? (i := 3) rfl
theorem kf_X0_letter : kfV yX0_letter RX0 3 := by decide +kernel
abbrev rm_X1_ofTwoLetters : Room := { frames := 2, cells := 0, slots := 0, locals := 49 }
set_option maxHeartbeats 4000000 in
set_option maxRecDepth 100000 in
theorem c_X1_ofTwoLetters (jl : Launch) (D : va_G) (cI : ClassId) (hb qp qf ql h0 h4 q4 : Nat) (P sh sc k n : Int) (pt : Int → Int) (t x y : Int)  (hP5 : 5 ≤ P ∧ P ≤ 997) (hs : 0 ≤ sh ∧ sh ≤ 996 ∧ 1 ≤ sc ∧ sc ≤ 996) (hk : 0 ≤ k ∧ k ≤ 2) (hn : 0 ≤ n ∧ n ≤ 4) (ht : 0 ≤ t ∧ t < n) (hbx : bxOK P n pt) (hx : 0 ≤ x ∧ x ≤ 1000) (hy : 0 ≤ y ∧ y ≤ 1000) : Met jl yX1_ofTwoLetters wsX1_ofTwoLetters rm_X1_ofTwoLetters (xPr [.ref hb, .int (iI t), .int (iI x), .int (iI y)] D cI [(hb, .inr (1, [.ref h4, .ref h0, .ref qp, .ref qf, .ref ql, .int (iI k), .int (iI n)])), (qp, .inl (cI, 16, .inl (aI pt))), (h0, .inr (0, [.ref h4, .int (iI sh), .int (iI sc)])), (h4, .inr (4, [.ref q4, .int (iI P)]))]) (vp_Si (fun r => r = (iI (of2 P sh sc k (cC pt 0) (cC pt 1) (cC pt 2) x y t)))) 0 0 (fun _ => False) := by
  refine x_metR (own := RX1) (cc := cX1_ofTwoLetters) (maxL := 5) (ret := (some .int)) (by decide) rfl rfl rfl ?_
  intro jp je js jm ja jb jt jc jQ jS jr jk jq hK hP ls hl
  have hl : lv_has ls 5 [(0, .ref hb), (1, .int (iI t)), (2, .int (iI x)), (3, .int (iI y))] := hl
  have hbt := hbx t ht.1 ht.2
  refine x_aln jS dX1_ofTwoLetters_0 rfl hl 0 rfl ?_
  refine x_get jS hK hP h_X1_ofTwoLetters_X1 0 rfl rfl 0 rfl m_X1_ofTwoLetters_1 rfl dX1_ofTwoLetters_1 ?_
  refine x_aln jS dX1_ofTwoLetters_4 rfl hl 0 rfl ?_
  refine x_iln jS dX1_ofTwoLetters_5 rfl hl 1 rfl ?_
  refine x_ic jS dX1_ofTwoLetters_6 ?_
  refine x_rI (x_rmV (As := [.int (iI t), .int (iI 0)]) (rest := [.ref h4]) jS hl.1 hK (c_X1_part jl D cI hb qp qf ql h0 h4 k n t 0 pt (by first | assumption | omega) (by first | assumption | omega)) (hP.sub [0, 1] rfl) 0 rfl rfl gX1_ofTwoLetters_X1_part rfl rfl rfl kf_X1_part rfl rfl rfl rfl rfl dX1_ofTwoLetters_7 rfl rfl) ?_
  refine x_aln jS dX1_ofTwoLetters_10 rfl hl 0 rfl ?_
  refine x_get jS hK hP h_X1_ofTwoLetters_X1 0 rfl rfl 1 rfl m_X1_ofTwoLetters_2 rfl dX1_ofTwoLetters_11 ?_
  refine x_aln jS dX1_ofTwoLetters_14 rfl hl 0 rfl ?_
  refine x_get jS hK hP h_X1_ofTwoLetters_X1 0 rfl rfl 5 rfl m_X1_ofTwoLetters_3 rfl dX1_ofTwoLetters_15 ?_
  refine x_iln jS dX1_ofTwoLetters_18 rfl hl 2 rfl ?_
  refine x_aln jS dX1_ofTwoLetters_19 rfl hl 0 rfl ?_
  refine x_iln jS dX1_ofTwoLetters_20 rfl hl 1 rfl ?_
  refine x_ic jS dX1_ofTwoLetters_21 ?_
  refine x_rI (x_rmV (As := [.int (iI t), .int (iI 1)]) (rest := [.int (iI x), .int (iI k), .ref h0, .int (iI (pt (t * 4 + 0))), .ref h4]) jS hl.1 hK (c_X1_part jl D cI hb qp qf ql h0 h4 k n t 1 pt (by first | assumption | omega) (by first | assumption | omega)) (hP.sub [0, 1] rfl) 0 rfl rfl gX1_ofTwoLetters_X1_part rfl rfl rfl kf_X1_part rfl rfl rfl rfl rfl dX1_ofTwoLetters_22 rfl rfl) ?_
  refine x_rI (x_rmV (As := [.int (iI k), .int (iI x), .int (iI (pt (t * 4 + 1)))]) (rest := [.int (iI (pt (t * 4 + 0))), .ref h4]) jS hl.1 hK (c_X0_letter jl D cI h0 h4 q4 P sh sc k x (pt (t * 4 + 1)) (by first | assumption | omega) (by first | assumption | omega) (by first | assumption | omega) (by first | assumption | omega) (by first | assumption | omega)) (hP.sub [2, 3] rfl) 0 rfl rfl gX1_ofTwoLetters_X0_letter rfl rfl rfl kf_X0_letter rfl rfl rfl rfl rfl dX1_ofTwoLetters_25 rfl rfl) ?_
  have hq := ltr_in (show 2 ≤ P by omega) sh sc k x (pt (t * 4 + 1))
  refine x_rI (x_rmV (As := [.int (iI (pt (t * 4 + 0))), .int (iI (ltr P sh sc k x (pt (t * 4 + 1))))]) (rest := []) jS hl.1 hK (c_X4_times jl D cI h4 q4 P (pt (t * 4 + 0)) (ltr P sh sc k x (pt (t * 4 + 1))) (by first | assumption | omega) (by first | assumption | omega) (by first | assumption | omega)) (hP.sub [3] rfl) 0 rfl rfl gX1_ofTwoLetters_X4_times rfl rfl rfl kf_X4_times rfl rfl rfl rfl rfl dX1_ofTwoLetters_28 rfl rfl) ?_
  refine x_is (lv' := [(4, .int (iI ((pt (t * 4 + 0)) * (ltr P sh sc k x (pt (t * 4 + 1))) % P))), (0, .ref hb), (1, .int (iI t)), (2, .int (iI x)), (3, .int (iI y))]) jS dX1_ofTwoLetters_31 hl rfl rfl (fun ls hl => ?_)
  refine x_aln jS dX1_ofTwoLetters_33 rfl hl 1 rfl ?_
  refine x_get jS hK hP h_X1_ofTwoLetters_X1 0 rfl rfl 0 rfl m_X1_ofTwoLetters_1 rfl dX1_ofTwoLetters_34 ?_
  refine x_il jS dX1_ofTwoLetters_37 hl 0 rfl ?_
  refine x_aln jS dX1_ofTwoLetters_39 rfl hl 1 rfl ?_
  refine x_get jS hK hP h_X1_ofTwoLetters_X1 0 rfl rfl 1 rfl m_X1_ofTwoLetters_2 rfl dX1_ofTwoLetters_40 ?_
  refine x_aln jS dX1_ofTwoLetters_43 rfl hl 1 rfl ?_
  refine x_get jS hK hP h_X1_ofTwoLetters_X1 0 rfl rfl 5 rfl m_X1_ofTwoLetters_3 rfl dX1_ofTwoLetters_44 ?_
  refine x_iln jS dX1_ofTwoLetters_47 rfl hl 4 rfl ?_
  refine x_aln jS dX1_ofTwoLetters_48 rfl hl 1 rfl ?_
  refine x_iln jS dX1_ofTwoLetters_49 rfl hl 2 rfl ?_
  refine x_ic jS dX1_ofTwoLetters_50 ?_
  refine x_rI (x_rmV (As := [.int (iI t), .int (iI 2)]) (rest := [.int (iI y), .int (iI k), .ref h0, .int (iI ((pt (t * 4 + 0)) * (ltr P sh sc k x (pt (t * 4 + 1))) % P)), .ref h4]) jS hl.1 hK (c_X1_part jl D cI hb qp qf ql h0 h4 k n t 2 pt (by first | assumption | omega) (by first | assumption | omega)) (hP.sub [0, 1] rfl) 0 rfl rfl gX1_ofTwoLetters_X1_part rfl rfl rfl kf_X1_part rfl rfl rfl rfl rfl dX1_ofTwoLetters_51 rfl rfl) ?_
  refine x_rI (x_rmV (As := [.int (iI k), .int (iI y), .int (iI (pt (t * 4 + 2)))]) (rest := [.int (iI ((pt (t * 4 + 0)) * (ltr P sh sc k x (pt (t * 4 + 1))) % P)), .ref h4]) jS hl.1 hK (c_X0_letter jl D cI h0 h4 q4 P sh sc k y (pt (t * 4 + 2)) (by first | assumption | omega) (by first | assumption | omega) (by first | assumption | omega) (by first | assumption | omega) (by first | assumption | omega)) (hP.sub [2, 3] rfl) 0 rfl rfl gX1_ofTwoLetters_X0_letter rfl rfl rfl kf_X0_letter rfl rfl rfl rfl rfl dX1_ofTwoLetters_54 rfl rfl) ?_
  have hq2 := ltr_in (show 2 ≤ P by omega) sh sc k y (pt (t * 4 + 2))
  have hq3 := emB (show 0 < P by omega) (pt (t * 4 + 0) * ltr P sh sc k x (pt (t * 4 + 1)))
  refine x_rI (x_rmV (As := [.int (iI ((pt (t * 4 + 0)) * (ltr P sh sc k x (pt (t * 4 + 1))) % P)), .int (iI (ltr P sh sc k y (pt (t * 4 + 2))))]) (rest := []) jS hl.1 hK (c_X4_times jl D cI h4 q4 P ((pt (t * 4 + 0)) * (ltr P sh sc k x (pt (t * 4 + 1))) % P) (ltr P sh sc k y (pt (t * 4 + 2))) (by first | assumption | omega) (by first | assumption | omega) (by first | assumption | omega)) (hP.sub [3] rfl) 0 rfl rfl gX1_ofTwoLetters_X4_times rfl rfl rfl kf_X4_times rfl rfl rfl rfl rfl dX1_ofTwoLetters_57 rfl rfl) ?_
  exact x_iretR jS jr jk jq dX1_ofTwoLetters_60 (rfl)
theorem h_X1_answer_X1 : ∀ w ∈ u_ws RX1 TX1 7, w ∈ wsX1_answer := fun w h => List.mem_cons_of_mem _ (List.mem_append_left _ (List.mem_append_left _ (List.mem_append_right _ h)))
theorem m_X1_answer_1 : Cond.fieldLink RX1 25 "SealedBox$Box" "terms" "I" ∈ wsX1_answer := List.mem_of_getElem? (i := 1) rfl
theorem m_X1_answer_2 : Cond.fieldLink RX1 28 "SealedBox$Box" "numbers" "LSealedBox$PrimeField;" ∈ wsX1_answer := List.mem_of_getElem? (i := 2) rfl
theorem h_X1_answer_X4 : ∀ w ∈ u_ws RX4 TX4 2, w ∈ wsX1_answer := fun w h => List.mem_cons_of_mem _ (List.mem_append_left _ (List.mem_append_right _ h))
theorem kf_X1_ofTwoLetters : kfV yX1_ofTwoLetters RX1 3 := by decide +kernel
theorem m_X1_answer_3 : Cond.fieldLink RX1 32 "SealedBox$Box" "bases" "LSealedBox$Bases;" ∈ wsX1_answer := List.mem_of_getElem? (i := 3) rfl
theorem m_X1_answer_4 : Cond.fieldLink RX1 21 "SealedBox$Box" "kind" "I" ∈ wsX1_answer := List.mem_of_getElem? (i := 4) rfl
abbrev rm_X1_answer : Room := { frames := 3, cells := 0, slots := 0, locals := 73 }
set_option maxHeartbeats 4000000 in
set_option maxRecDepth 100000 in
theorem c_X1_answer (jl : Launch) (D : va_G) (cI : ClassId) (hb qp qf ql h0 h4 q4 : Nat) (P sh sc k n : Int) (pt : Int → Int) (x y z : Int)  (hP5 : 5 ≤ P ∧ P ≤ 997) (hs : 0 ≤ sh ∧ sh ≤ 996 ∧ 1 ≤ sc ∧ sc ≤ 996) (hk : 0 ≤ k ∧ k ≤ 2) (hn : 0 ≤ n ∧ n ≤ 4) (hbx : bxOK P n pt) (hx : 0 ≤ x ∧ x ≤ 1000) (hy : 0 ≤ y ∧ y ≤ 1000) (hz : 0 ≤ z ∧ z ≤ 1000) : Met jl yX1_answer wsX1_answer rm_X1_answer (xPr [.ref hb, .int (iI x), .int (iI y), .int (iI z)] D cI [(hb, .inr (1, [.ref h4, .ref h0, .ref qp, .ref qf, .ref ql, .int (iI k), .int (iI n)])), (qp, .inl (cI, 16, .inl (aI pt))), (h0, .inr (0, [.ref h4, .int (iI sh), .int (iI sc)])), (h4, .inr (4, [.ref q4, .int (iI P)]))]) (vp_Si (fun r => r = (iI (ans P sh sc k n (cC pt 0) (cC pt 1) (cC pt 2) (cC pt 3) x y z)))) 0 0 (fun _ => False) := by
  refine x_metR (own := RX1) (cc := cX1_answer) (maxL := 6) (ret := (some .int)) (by decide) rfl rfl rfl ?_
  intro jp je js jm ja jb jt jc jQ jS jr jk jq hK hP ls hl
  have hl : lv_has ls 6 [(0, .ref hb), (1, .int (iI x)), (2, .int (iI y)), (3, .int (iI z))] := hl
  refine x_ic jS dX1_answer_0 ?_
  refine x_is (lv' := [(4, .int (iI 0)), (0, .ref hb), (1, .int (iI x)), (2, .int (iI y)), (3, .int (iI z))]) jS dX1_answer_1 hl rfl rfl (fun ls hl => ?_)
  refine x_ic jS dX1_answer_3 ?_
  refine x_is (lv' := [(5, .int (iI 0)), (4, .int (iI 0)), (0, .ref hb), (1, .int (iI x)), (2, .int (iI y)), (3, .int (iI z))]) jS dX1_answer_4 hl rfl rfl (fun ls hl => ?_)
  have loop_6 : ∀ (mm : Nat) (r : Int) (i : Int), (n - i).toNat = mm → (0 ≤ i ∧ i ≤ n) → (r = sm (fun t => tmg P sh sc k (cC pt 0) (cC pt 1) (cC pt 2) (cC pt 3) x y z t % P) i) → (0 ≤ r ∧ r ≤ i * 997) → ∀ ls : Array Slot, lv_has ls 6 [(5, .int (iI i)), (4, .int (iI r)), (0, .ref hb), (1, .int (iI x)), (2, .int (iI y)), (3, .int (iI z))] → W jp jl je rm_X1_answer js jm ja jb jt jc js.heap [] 0 0 jQ (F0 jm 6 ls []) := by
    intro mm
    induction mm using Nat.strongRecOn with
    | ind mm ih6 =>
      intro r i hmm6 hi hr hrb ls hl
      refine x_il jS dX1_answer_6 hl 0 rfl ?_
      refine x_aln jS dX1_answer_8 rfl hl 2 rfl ?_
      refine x_get jS hK hP h_X1_answer_X1 0 rfl rfl 6 rfl m_X1_answer_1 rfl dX1_answer_9 ?_
      refine x_cmpge jS 60 dX1_answer_12 (by decide) (by omega) (fun hc12 => ?_) (fun hc12 => ?_)
      · skip
        refine x_il jS dX1_answer_60 hl 1 rfl ?_
        refine x_aln jS dX1_answer_62 rfl hl 2 rfl ?_
        refine x_get jS hK hP h_X1_answer_X1 0 rfl rfl 0 rfl m_X1_answer_2 rfl dX1_answer_63 ?_
        refine x_getN jS hK hP h_X1_answer_X4 3 rfl rfl 1 rfl 4 rfl rfl dX1_answer_66 ?_
        refine x_irem jS dX1_answer_69 (by omega) (fun hm69 => ?_)
        exact x_iretR jS jr jk jq dX1_answer_70 (by rw [hr, show i = n by omega, sm_mod]; rfl)
      · skip
        have hbt := hbx i hi.1 hc12
        refine x_il jS dX1_answer_15 hl 1 rfl ?_
        refine x_aln jS dX1_answer_17 rfl hl 2 rfl ?_
        refine x_get jS hK hP h_X1_answer_X1 0 rfl rfl 0 rfl m_X1_answer_2 rfl dX1_answer_18 ?_
        refine x_aln jS dX1_answer_21 rfl hl 2 rfl ?_
        refine x_il jS dX1_answer_22 hl 0 rfl ?_
        refine x_iln jS dX1_answer_24 rfl hl 3 rfl ?_
        refine x_iln jS dX1_answer_25 rfl hl 4 rfl ?_
        refine x_rI (x_rmV (As := [.int (iI i), .int (iI x), .int (iI y)]) (rest := [.ref h4, .int (iI r)]) jS hl.1 hK (c_X1_ofTwoLetters jl D cI hb qp qf ql h0 h4 q4 P sh sc k n pt i x y (by first | assumption | omega) (by first | assumption | omega) (by first | assumption | omega) (by first | assumption | omega) (by first | assumption | omega) (by first | assumption | omega) (by first | assumption | omega) (by first | assumption | omega)) (hP.sub [0, 1, 2, 3] rfl) 0 rfl rfl gX1_answer_X1_ofTwoLetters rfl rfl rfl kf_X1_ofTwoLetters rfl rfl rfl rfl rfl dX1_answer_26 rfl rfl) ?_
        refine x_aln jS dX1_answer_29 rfl hl 2 rfl ?_
        refine x_get jS hK hP h_X1_answer_X1 0 rfl rfl 1 rfl m_X1_answer_3 rfl dX1_answer_30 ?_
        refine x_aln jS dX1_answer_33 rfl hl 2 rfl ?_
        refine x_get jS hK hP h_X1_answer_X1 0 rfl rfl 5 rfl m_X1_answer_4 rfl dX1_answer_34 ?_
        refine x_iln jS dX1_answer_37 rfl hl 5 rfl ?_
        refine x_aln jS dX1_answer_38 rfl hl 2 rfl ?_
        refine x_il jS dX1_answer_39 hl 0 rfl ?_
        refine x_ic jS dX1_answer_41 ?_
        refine x_rI (x_rmV (As := [.int (iI i), .int (iI 3)]) (rest := [.int (iI z), .int (iI k), .ref h0, .int (iI (of2 P sh sc k (cC pt 0) (cC pt 1) (cC pt 2) x y i)), .ref h4, .int (iI r)]) jS hl.1 hK (c_X1_part jl D cI hb qp qf ql h0 h4 k n i 3 pt (by first | assumption | omega) (by first | assumption | omega)) (hP.sub [0, 1] rfl) 0 rfl rfl gX1_answer_X1_part rfl rfl rfl kf_X1_part rfl rfl rfl rfl rfl dX1_answer_42 rfl rfl) ?_
        refine x_rI (x_rmV (As := [.int (iI k), .int (iI z), .int (iI (pt (i * 4 + 3)))]) (rest := [.int (iI (of2 P sh sc k (cC pt 0) (cC pt 1) (cC pt 2) x y i)), .ref h4, .int (iI r)]) jS hl.1 hK (c_X0_letter jl D cI h0 h4 q4 P sh sc k z (pt (i * 4 + 3)) (by first | assumption | omega) (by first | assumption | omega) (by first | assumption | omega) (by first | assumption | omega) (by first | assumption | omega)) (hP.sub [2, 3] rfl) 0 rfl rfl gX1_answer_X0_letter rfl rfl rfl kf_X0_letter rfl rfl rfl rfl rfl dX1_answer_45 rfl rfl) ?_
        have hq := ltr_in (show 2 ≤ P by omega) sh sc k z (pt (i * 4 + 3))
        have hq2 := of2_in (show 2 ≤ P by omega) sh sc k (cC pt 0) (cC pt 1) (cC pt 2) x y i
        have hq3 := emB (show 0 < P by omega) (of2 P sh sc k (cC pt 0) (cC pt 1) (cC pt 2) x y i * ltr P sh sc k z (pt (i * 4 + 3)))
        refine x_rI (x_rmV (As := [.int (iI (of2 P sh sc k (cC pt 0) (cC pt 1) (cC pt 2) x y i)), .int (iI (ltr P sh sc k z (pt (i * 4 + 3))))]) (rest := [.int (iI r)]) jS hl.1 hK (c_X4_times jl D cI h4 q4 P (of2 P sh sc k (cC pt 0) (cC pt 1) (cC pt 2) x y i) (ltr P sh sc k z (pt (i * 4 + 3))) (by first | assumption | omega) (by first | assumption | omega) (by first | assumption | omega)) (hP.sub [3] rfl) 0 rfl rfl gX1_answer_X4_times rfl rfl rfl kf_X4_times rfl rfl rfl rfl rfl dX1_answer_48 rfl rfl) ?_
        refine x_iadd jS dX1_answer_51 ?_
        refine x_is (lv' := [(4, .int (iI (r + ((of2 P sh sc k (cC pt 0) (cC pt 1) (cC pt 2) x y i) * (ltr P sh sc k z (pt (i * 4 + 3))) % P)))), (5, .int (iI i)), (0, .ref hb), (1, .int (iI x)), (2, .int (iI y)), (3, .int (iI z))]) jS dX1_answer_52 hl rfl rfl (fun ls hl => ?_)
        refine x_iinc (lv' := [(5, .int (iI (i + 1))), (4, .int (iI (r + ((of2 P sh sc k (cC pt 0) (cC pt 1) (cC pt 2) x y i) * (ltr P sh sc k z (pt (i * 4 + 3))) % P)))), (0, .ref hb), (1, .int (iI x)), (2, .int (iI y)), (3, .int (iI z))]) jS dX1_answer_54 hl 1 rfl rfl rfl (fun ls hl => ?_)
        refine x_goto jS 6 dX1_answer_57 (by decide) ?_
        exact ih6 _ (by omega) (r + ((of2 P sh sc k (cC pt 0) (cC pt 1) (cC pt 2) x y i) * (ltr P sh sc k z (pt (i * 4 + 3))) % P)) (i + 1) rfl (by omega) (by rw [sm_s _ hi.1, ← hr]; rfl) (by omega) ls (lv_sub hl [0, 1, 2, 3, 4, 5] rfl)
  exact loop_6 _ 0 0 rfl (by omega) ((sm_0 _).symm) (by omega) ls (lv_sub hl [0, 1, 2, 3, 4, 5] rfl)
theorem h_X1_drop_X1 : ∀ w ∈ u_ws RX1 TX1 7, w ∈ wsX1_drop := fun w h => List.mem_cons_of_mem _ (List.mem_append_right _ h)
theorem m_X1_drop_1 : Cond.fieldLink RX1 25 "SealedBox$Box" "terms" "I" ∈ wsX1_drop := List.mem_of_getElem? (i := 1) rfl
abbrev rm_X1_drop : Room := { frames := 0, cells := 0, slots := 0, locals := 0 }
set_option maxHeartbeats 4000000 in
set_option maxRecDepth 100000 in
theorem c_X1_drop (jl : Launch) (D : va_G) (cI : ClassId) (hb qp qf ql h0 h4 : Nat) (k n : Int) (sz : Nat) : Met jl yX1_drop wsX1_drop rm_X1_drop (xPw [.ref hb] D cI [(hb, .inr (1, [.ref h4, .ref h0, .ref qp, .ref qf, .ref ql, .int (iI k), .int (iI n)]))] sz) (va_Qv (fun (u : Unit) => True) (xB D (fun (u : Unit) => [(hb, .inr (1, [.ref h4, .ref h0, .ref qp, .ref qf, .ref ql, .int (iI k), .int (iI 0)]))]) (va_A [(hb, .inr (1, [.ref h4, .ref h0, .ref qp, .ref qf, .ref ql, .int (iI k), .int (iI n)]))] sz)) (va_A [(hb, .inr (1, [.ref h4, .ref h0, .ref qp, .ref qf, .ref ql, .int (iI k), .int (iI n)]))] sz)) 0 0 (va_A [(hb, .inr (1, [.ref h4, .ref h0, .ref qp, .ref qf, .ref ql, .int (iI k), .int (iI n)]))] sz) := by
  refine x_metW (own := RX1) (cc := cX1_drop) (maxL := 1) (ret := none) (Qc := fun jA => va_Qv (fun (u : Unit) => True) (xB D (fun (u : Unit) => [(hb, .inr (1, [.ref h4, .ref h0, .ref qp, .ref qf, .ref ql, .int (iI k), .int (iI 0)]))]) jA) jA) (by decide) rfl rfl rfl ?_
  intro jp je js jm ja jb jt jc jA jQ jS jr jk jn jq hK hP hD hA hS ls hl
  have hl : lv_has ls 1 [(0, .ref hb)] := hl
  refine x_aln jS dX1_drop_0 rfl hl 0 rfl ?_
  refine x_ic jS dX1_drop_1 ?_
  refine x_put (ty0 := tyX1) (ws' := [(hb, .inr (1, [.ref h4, .ref h0, .ref qp, .ref qf, .ref ql, .int (iI k), .int (iI 0)]))]) jS hK hP hD hS h_X1_drop_X1 tyX1_ok nmX1 0 rfl rfl 6 rfl m_X1_drop_1 rfl rfl rfl rfl dX1_drop_2 rfl (fun jH jL hP hD hS => ?_)
  exact x_vretW jS jr jk jq dX1_drop_5 () hP hD hS (show True from trivial)
theorem h_X1_add_X1 : ∀ w ∈ u_ws RX1 TX1 7, w ∈ wsX1_add := fun w h => List.mem_cons_of_mem _ (List.mem_append_right _ h)
theorem m_X1_add_1 : Cond.fieldLink RX1 25 "SealedBox$Box" "terms" "I" ∈ wsX1_add := List.mem_of_getElem? (i := 1) rfl
theorem m_X1_add_2 : Cond.fieldLink RX1 11 "SealedBox$Box" "parts" "[I" ∈ wsX1_add := List.mem_of_getElem? (i := 2) rfl
abbrev rm_X1_add : Room := { frames := 0, cells := 0, slots := 0, locals := 0 }
set_option maxHeartbeats 4000000 in
set_option maxRecDepth 100000 in
theorem c_X1_add (jl : Launch) (D : va_G) (cI : ClassId) (hb qp qf ql h0 h4 : Nat) (k n co a b d : Int) (pt : Int → Int) (sz : Nat) (hn : 0 ≤ n ∧ n ≤ 4) : Met jl yX1_add wsX1_add rm_X1_add (xPw [.ref hb, .int (iI co), .int (iI a), .int (iI b), .int (iI d)] D cI [(hb, .inr (1, [.ref h4, .ref h0, .ref qp, .ref qf, .ref ql, .int (iI k), .int (iI n)])), (qp, .inl (cI, 16, .inl (aI pt)))] sz) (va_Qi (fun (r : Int32) (u : Int × (Int → Int)) => r = (iI (bI (n < 4))) ∧ ((n < 4 → u.1 = n + 1 ∧ u.2 = pt4 pt n co a b d) ∧ (¬ n < 4 → u.1 = n ∧ u.2 = pt))) (xB D (fun (u : Int × (Int → Int)) => [(hb, .inr (1, [.ref h4, .ref h0, .ref qp, .ref qf, .ref ql, .int (iI k), .int (iI u.1)])), (qp, .inl (cI, 16, .inl (aI u.2)))]) (va_A [(hb, .inr (1, [.ref h4, .ref h0, .ref qp, .ref qf, .ref ql, .int (iI k), .int (iI n)])), (qp, .inl (cI, 16, .inl (aI pt)))] sz)) (va_A [(hb, .inr (1, [.ref h4, .ref h0, .ref qp, .ref qf, .ref ql, .int (iI k), .int (iI n)])), (qp, .inl (cI, 16, .inl (aI pt)))] sz)) 0 0 (va_A [(hb, .inr (1, [.ref h4, .ref h0, .ref qp, .ref qf, .ref ql, .int (iI k), .int (iI n)])), (qp, .inl (cI, 16, .inl (aI pt)))] sz) := by
  refine x_metW (own := RX1) (cc := cX1_add) (maxL := 6) (ret := (some .boolean)) (Qc := fun jA => va_Qi (fun (r : Int32) (u : Int × (Int → Int)) => r = (iI (bI (n < 4))) ∧ ((n < 4 → u.1 = n + 1 ∧ u.2 = pt4 pt n co a b d) ∧ (¬ n < 4 → u.1 = n ∧ u.2 = pt))) (xB D (fun (u : Int × (Int → Int)) => [(hb, .inr (1, [.ref h4, .ref h0, .ref qp, .ref qf, .ref ql, .int (iI k), .int (iI u.1)])), (qp, .inl (cI, 16, .inl (aI u.2)))]) jA) jA) (by decide) rfl rfl rfl ?_
  intro jp je js jm ja jb jt jc jA jQ jS jr jk jn jq hK hP hD hA hS ls hl
  have hl : lv_has ls 6 [(0, .ref hb), (1, .int (iI co)), (2, .int (iI a)), (3, .int (iI b)), (4, .int (iI d))] := hl
  refine x_aln jS dX1_add_0 rfl hl 0 rfl ?_
  refine x_get jS hK hP h_X1_add_X1 0 rfl rfl 6 rfl m_X1_add_1 rfl dX1_add_1 ?_
  refine x_ic jS dX1_add_4 ?_
  refine x_cmplt jS 10 dX1_add_5 (by decide) (by omega) (fun hc5 => ?_) (fun hc5 => ?_)
  · skip
    refine x_aln jS dX1_add_10 rfl hl 0 rfl ?_
    refine x_get jS hK hP h_X1_add_X1 0 rfl rfl 6 rfl m_X1_add_1 rfl dX1_add_11 ?_
    refine x_ic jS dX1_add_14 ?_
    refine x_imul jS dX1_add_15 ?_
    refine x_is (lv' := [(5, .int (iI (n * 4))), (0, .ref hb), (1, .int (iI co)), (2, .int (iI a)), (3, .int (iI b)), (4, .int (iI d))]) jS dX1_add_16 hl rfl rfl (fun ls hl => ?_)
    refine x_aln jS dX1_add_18 rfl hl 1 rfl ?_
    refine x_get jS hK hP h_X1_add_X1 0 rfl rfl 2 rfl m_X1_add_2 rfl dX1_add_19 ?_
    refine x_il jS dX1_add_22 hl 0 rfl ?_
    refine x_ic jS dX1_add_24 ?_
    refine x_iadd jS dX1_add_25 ?_
    refine x_iln jS dX1_add_26 rfl hl 2 rfl ?_
    refine x_iast (ws' := [(hb, .inr (1, [.ref h4, .ref h0, .ref qp, .ref qf, .ref ql, .int (iI k), .int (iI n)])), (qp, .inl (cI, 16, .inl (aI (uI pt ((n * 4) + 0) co))))]) jS hK hP hD hS 1 rfl (by omega) dX1_add_27 rfl (fun jH jL hP hD hS => ?_)
    refine x_aln jS dX1_add_28 rfl hl 1 rfl ?_
    refine x_get jS hK hP h_X1_add_X1 0 rfl rfl 2 rfl m_X1_add_2 rfl dX1_add_29 ?_
    refine x_il jS dX1_add_32 hl 0 rfl ?_
    refine x_ic jS dX1_add_34 ?_
    refine x_iadd jS dX1_add_35 ?_
    refine x_iln jS dX1_add_36 rfl hl 3 rfl ?_
    refine x_iast (ws' := [(hb, .inr (1, [.ref h4, .ref h0, .ref qp, .ref qf, .ref ql, .int (iI k), .int (iI n)])), (qp, .inl (cI, 16, .inl (aI (uI (uI pt ((n * 4) + 0) co) ((n * 4) + 1) a))))]) jS hK hP hD hS 1 rfl (by omega) dX1_add_37 rfl (fun jH jL hP hD hS => ?_)
    refine x_aln jS dX1_add_38 rfl hl 1 rfl ?_
    refine x_get jS hK hP h_X1_add_X1 0 rfl rfl 2 rfl m_X1_add_2 rfl dX1_add_39 ?_
    refine x_il jS dX1_add_42 hl 0 rfl ?_
    refine x_ic jS dX1_add_44 ?_
    refine x_iadd jS dX1_add_45 ?_
    refine x_iln jS dX1_add_46 rfl hl 4 rfl ?_
    refine x_iast (ws' := [(hb, .inr (1, [.ref h4, .ref h0, .ref qp, .ref qf, .ref ql, .int (iI k), .int (iI n)])), (qp, .inl (cI, 16, .inl (aI (uI (uI (uI pt ((n * 4) + 0) co) ((n * 4) + 1) a) ((n * 4) + 2) b))))]) jS hK hP hD hS 1 rfl (by omega) dX1_add_47 rfl (fun jH jL hP hD hS => ?_)
    refine x_aln jS dX1_add_48 rfl hl 1 rfl ?_
    refine x_get jS hK hP h_X1_add_X1 0 rfl rfl 2 rfl m_X1_add_2 rfl dX1_add_49 ?_
    refine x_il jS dX1_add_52 hl 0 rfl ?_
    refine x_ic jS dX1_add_54 ?_
    refine x_iadd jS dX1_add_55 ?_
    refine x_il jS dX1_add_56 hl 5 rfl ?_
    refine x_iast (ws' := [(hb, .inr (1, [.ref h4, .ref h0, .ref qp, .ref qf, .ref ql, .int (iI k), .int (iI n)])), (qp, .inl (cI, 16, .inl (aI (uI (uI (uI (uI pt ((n * 4) + 0) co) ((n * 4) + 1) a) ((n * 4) + 2) b) ((n * 4) + 3) d))))]) jS hK hP hD hS 1 rfl (by omega) dX1_add_58 rfl (fun jH jL hP hD hS => ?_)
    refine x_aln jS dX1_add_59 rfl hl 1 rfl ?_
    refine x_dup jS dX1_add_60 rfl ?_
    refine x_get jS hK hP h_X1_add_X1 0 rfl rfl 6 rfl m_X1_add_1 rfl dX1_add_61 ?_
    refine x_ic jS dX1_add_64 ?_
    refine x_iadd jS dX1_add_65 ?_
    refine x_put (ty0 := tyX1) (ws' := [(hb, .inr (1, [.ref h4, .ref h0, .ref qp, .ref qf, .ref ql, .int (iI k), .int (iI (n + 1))])), (qp, .inl (cI, 16, .inl (aI (uI (uI (uI (uI pt ((n * 4) + 0) co) ((n * 4) + 1) a) ((n * 4) + 2) b) ((n * 4) + 3) d))))]) jS hK hP hD hS h_X1_add_X1 tyX1_ok nmX1 0 rfl rfl 6 rfl m_X1_add_1 rfl rfl rfl rfl dX1_add_66 rfl (fun jH jL hP hD hS => ?_)
    refine x_ic jS dX1_add_69 ?_
    exact x_zretW jS jr jk jq dX1_add_70 rfl ⟨(n + 1), (uI (uI (uI (uI pt ((n * 4) + 0) co) ((n * 4) + 1) a) ((n * 4) + 2) b) ((n * 4) + 3) d)⟩ hP hD hS (show (iI 1) = (iI (bI (n < 4))) ∧ ((n < 4 → (n + 1) = n + 1 ∧ (uI (uI (uI (uI pt ((n * 4) + 0) co) ((n * 4) + 1) a) ((n * 4) + 2) b) ((n * 4) + 3) d) = pt4 pt n co a b d) ∧ (¬ n < 4 → (n + 1) = n ∧ (uI (uI (uI (uI pt ((n * 4) + 0) co) ((n * 4) + 1) a) ((n * 4) + 2) b) ((n * 4) + 3) d) = pt)) from ⟨congrArg iI (bI_t hc5).symm, fun _ => ⟨rfl, rfl⟩, fun h => absurd hc5 h⟩)
  · skip
    refine x_ic jS dX1_add_8 ?_
    exact x_zretW jS jr jk jq dX1_add_9 rfl ⟨n, pt⟩ hP hD hS (show (iI 0) = (iI (bI (n < 4))) ∧ ((n < 4 → n = n + 1 ∧ pt = pt4 pt n co a b d) ∧ (¬ n < 4 → n = n ∧ pt = pt)) from ⟨congrArg iI (bI_f (by omega)).symm, fun h => by omega, fun _ => ⟨rfl, rfl⟩⟩)
