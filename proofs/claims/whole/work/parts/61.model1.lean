/-! the reference: small calls -/
abbrev rm_X8_in : Room := { frames := 0, cells := 0, slots := 0, locals := 0 }
set_option maxHeartbeats 4000000 in
set_option maxRecDepth 100000 in
theorem c_X8_in (jl : Launch) (D : va_G) (cI : ClassId) (v lo hi : Int)  (g_v : -2147483648 ≤ v ∧ v < 2147483648) (g_lo : -2147483648 ≤ lo ∧ lo < 2147483648) (g_hi : -2147483648 ≤ hi ∧ hi < 2147483648) : Met jl yX8_in wsX8_in rm_X8_in (xPr [.int (iI v), .int (iI lo), .int (iI hi)] D cI []) (vp_Si (fun r => r = (iI (bI (lo ≤ v ∧ v ≤ hi))))) 0 0 (fun _ => False) := by
  refine x_metR (own := RX8) (cc := cX8_in) (maxL := 3) (ret := (some .boolean)) (by decide) rfl rfl rfl ?_
  intro jp je js jm ja jb jt jc jQ jS jr jk jq hK hP ls hl
  have hl : lv_has ls 3 [(0, .int (iI v)), (1, .int (iI lo)), (2, .int (iI hi))] := hl
  refine x_iln jS dX8_in_0 rfl hl 0 rfl ?_
  refine x_iln jS dX8_in_1 rfl hl 1 rfl ?_
  refine x_cmplt jS 14 dX8_in_2 (by decide) (by omega) (fun hc2 => ?_) (fun hc2 => ?_)
  · skip
    refine x_ic jS dX8_in_14 ?_
    exact x_zretR jS jr jk jq dX8_in_15 rfl (congrArg iI (bI_f (by omega)).symm)
  · skip
    refine x_iln jS dX8_in_5 rfl hl 0 rfl ?_
    refine x_iln jS dX8_in_6 rfl hl 2 rfl ?_
    refine x_cmpgt jS 14 dX8_in_7 (by decide) (by omega) (fun hc7 => ?_) (fun hc7 => ?_)
    · skip
      refine x_ic jS dX8_in_14 ?_
      exact x_zretR jS jr jk jq dX8_in_15 rfl (congrArg iI (bI_f (by omega)).symm)
    · skip
      refine x_ic jS dX8_in_10 ?_
      refine x_goto jS 15 dX8_in_11 (by decide) ?_
      exact x_zretR jS jr jk jq dX8_in_15 rfl (congrArg iI (bI_t (by omega)).symm)
theorem h_X8_isNumber_X8 : ∀ w ∈ u_ws RX8 TX8 29, w ∈ wsX8_isNumber := fun w h => List.mem_cons_of_mem _ (List.mem_append_right _ h)
theorem m_X8_isNumber_1 : Cond.fieldLink RX8 7 "SealedBoxModel" "p" "I" ∈ wsX8_isNumber := List.mem_of_getElem? (i := 1) rfl
theorem kf_X8_in : kfS yX8_in 3 := by decide +kernel
abbrev rm_X8_isNumber : Room := { frames := 1, cells := 0, slots := 0, locals := 22 }
set_option maxHeartbeats 4000000 in
set_option maxRecDepth 100000 in
theorem c_X8_isNumber (jl : Launch) (D : va_G) (cI : ClassId) (mo xk xt xc xx xy xz xr xl xC xF xK xn xb xw xa yx yy yz yn yc yl : Nat) (P sh sc cnt ak L K : Int) (tr : Int64) (v : Int)  (hP5 : 5 ≤ P ∧ P ≤ 997) (g_v : -2147483648 ≤ v ∧ v < 2147483648) : Met jl yX8_isNumber wsX8_isNumber rm_X8_isNumber (xPr [.ref mo, .int (iI v)] D cI [(mo, .inr (8, [.int (iI P), .int (iI sh), .int (iI sc), .ref xk, .ref xt, .ref xc, .ref xx, .ref xy, .ref xz, .int (iI cnt), .ref xr, .int (iI ak), .long tr, .ref xl, .int (iI L), .ref xC, .ref xF, .ref xK, .ref xn, .ref xb, .ref xw, .ref xa, .int (iI K), .ref yx, .ref yy, .ref yz, .ref yn, .ref yc, .ref yl]))]) (vp_Si (fun r => r = (iI (bI (0 ≤ v ∧ v < P))))) 0 0 (fun _ => False) := by
  refine x_metR (own := RX8) (cc := cX8_isNumber) (maxL := 2) (ret := (some .boolean)) (by decide) rfl rfl rfl ?_
  intro jp je js jm ja jb jt jc jQ jS jr jk jq hK hP ls hl
  have hl : lv_has ls 2 [(0, .ref mo), (1, .int (iI v))] := hl
  refine x_iln jS dX8_isNumber_0 rfl hl 1 rfl ?_
  refine x_ic jS dX8_isNumber_1 ?_
  refine x_aln jS dX8_isNumber_2 rfl hl 0 rfl ?_
  refine x_get jS hK hP h_X8_isNumber_X8 0 rfl rfl 0 rfl m_X8_isNumber_1 rfl dX8_isNumber_3 ?_
  refine x_ic jS dX8_isNumber_6 ?_
  refine x_isub jS dX8_isNumber_7 ?_
  refine x_rI (x_rmS (As := [.int (iI v), .int (iI 0), .int (iI (P - 1))]) (rest := []) jS hl.1 hK (c_X8_in jl D cI v 0 (P - 1) (by first | assumption | omega) (by first | assumption | omega) (by first | assumption | omega)) (hP.sub [] rfl) gX8_isNumber_X8_in rfl rfl rfl kf_X8_in rfl rfl rfl rfl rfl dX8_isNumber_8 rfl rfl) ?_
  exact x_zretR jS jr jk jq dX8_isNumber_11 (bI_nar _) (congrArg iI (bI_congr (by omega)))
abbrev rm_X8_isBox : Room := { frames := 1, cells := 0, slots := 0, locals := 22 }
set_option maxHeartbeats 4000000 in
set_option maxRecDepth 100000 in
theorem c_X8_isBox (jl : Launch) (D : va_G) (cI : ClassId) (v : Int)  (g_v : -2147483648 ≤ v ∧ v < 2147483648) : Met jl yX8_isBox wsX8_isBox rm_X8_isBox (xPr [.int (iI v)] D cI []) (vp_Si (fun r => r = (iI (bI (v = 0 ∨ v = 1))))) 0 0 (fun _ => False) := by
  refine x_metR (own := RX8) (cc := cX8_isBox) (maxL := 1) (ret := (some .boolean)) (by decide) rfl rfl rfl ?_
  intro jp je js jm ja jb jt jc jQ jS jr jk jq hK hP ls hl
  have hl : lv_has ls 1 [(0, .int (iI v))] := hl
  refine x_iln jS dX8_isBox_0 rfl hl 0 rfl ?_
  refine x_ic jS dX8_isBox_1 ?_
  refine x_ic jS dX8_isBox_2 ?_
  refine x_rI (x_rmS (As := [.int (iI v), .int (iI 0), .int (iI 1)]) (rest := []) jS hl.1 hK (c_X8_in jl D cI v 0 1 (by first | assumption | omega) (by first | assumption | omega) (by first | assumption | omega)) (hP.sub [] rfl) gX8_isBox_X8_in rfl rfl rfl kf_X8_in rfl rfl rfl rfl rfl dX8_isBox_3 rfl rfl) ?_
  exact x_zretR jS jr jk jq dX8_isBox_6 (bI_nar _) (congrArg iI (bI_congr (by omega)))
theorem h_X8_field_X8 : ∀ w ∈ u_ws RX8 TX8 29, w ∈ wsX8_field := fun w h => List.mem_cons_of_mem _ (List.mem_append_right _ h)
theorem m_X8_field_1 : Cond.fieldLink RX8 7 "SealedBoxModel" "p" "I" ∈ wsX8_field := List.mem_of_getElem? (i := 1) rfl
theorem m_X8_field_2 : Cond.fieldLink RX8 23 "SealedBoxModel" "terms" "[I" ∈ wsX8_field := List.mem_of_getElem? (i := 2) rfl
theorem m_X8_field_3 : Cond.fieldLink RX8 83 "SealedBoxModel" "said" "I" ∈ wsX8_field := List.mem_of_getElem? (i := 3) rfl
abbrev rm_X8_field : Room := { frames := 1, cells := 0, slots := 0, locals := 22 }
set_option maxHeartbeats 4000000 in
set_option maxRecDepth 100000 in
theorem c_X8_field (jl : Launch) (D : va_G) (cI : ClassId) (mo xk xt xc xx xy xz xr xl xC xF xK xn xb xw xa yx yy yz yn yc yl : Nat) (P sh sc cnt ak L K : Int) (tr : Int64) (v : Int) (tm : Int → Int) (sz : Nat) (g_v : -2147483648 ≤ v ∧ v < 2147483648) : Met jl yX8_field wsX8_field rm_X8_field (xPw [.ref mo, .int (iI v)] D cI [(mo, .inr (8, [.int (iI P), .int (iI sh), .int (iI sc), .ref xk, .ref xt, .ref xc, .ref xx, .ref xy, .ref xz, .int (iI cnt), .ref xr, .int (iI ak), .long tr, .ref xl, .int (iI L), .ref xC, .ref xF, .ref xK, .ref xn, .ref xb, .ref xw, .ref xa, .int (iI K), .ref yx, .ref yy, .ref yz, .ref yn, .ref yc, .ref yl])), (xt, .inl (cI, 2, .inl (aI tm)))] sz) (va_Qi (fun (r : Int32) (u : Int × Int × (Int → Int)) => r = (iI (if okP v then P else -1)) ∧ ((okP v → u.1 = v ∧ u.2.1 = 0 ∧ u.2.2 = uI (uI tm 0 0) 1 0) ∧ (¬ okP v → u.1 = P ∧ u.2.1 = cnt ∧ u.2.2 = tm))) (xB D (fun (u : Int × Int × (Int → Int)) => [(mo, .inr (8, [.int (iI u.1), .int (iI sh), .int (iI sc), .ref xk, .ref xt, .ref xc, .ref xx, .ref xy, .ref xz, .int (iI u.2.1), .ref xr, .int (iI ak), .long tr, .ref xl, .int (iI L), .ref xC, .ref xF, .ref xK, .ref xn, .ref xb, .ref xw, .ref xa, .int (iI K), .ref yx, .ref yy, .ref yz, .ref yn, .ref yc, .ref yl])), (xt, .inl (cI, 2, .inl (aI u.2.2)))]) (va_A [(mo, .inr (8, [.int (iI P), .int (iI sh), .int (iI sc), .ref xk, .ref xt, .ref xc, .ref xx, .ref xy, .ref xz, .int (iI cnt), .ref xr, .int (iI ak), .long tr, .ref xl, .int (iI L), .ref xC, .ref xF, .ref xK, .ref xn, .ref xb, .ref xw, .ref xa, .int (iI K), .ref yx, .ref yy, .ref yz, .ref yn, .ref yc, .ref yl])), (xt, .inl (cI, 2, .inl (aI tm)))] sz)) (va_A [(mo, .inr (8, [.int (iI P), .int (iI sh), .int (iI sc), .ref xk, .ref xt, .ref xc, .ref xx, .ref xy, .ref xz, .int (iI cnt), .ref xr, .int (iI ak), .long tr, .ref xl, .int (iI L), .ref xC, .ref xF, .ref xK, .ref xn, .ref xb, .ref xw, .ref xa, .int (iI K), .ref yx, .ref yy, .ref yz, .ref yn, .ref yc, .ref yl])), (xt, .inl (cI, 2, .inl (aI tm)))] sz)) 0 0 (va_A [(mo, .inr (8, [.int (iI P), .int (iI sh), .int (iI sc), .ref xk, .ref xt, .ref xc, .ref xx, .ref xy, .ref xz, .int (iI cnt), .ref xr, .int (iI ak), .long tr, .ref xl, .int (iI L), .ref xC, .ref xF, .ref xK, .ref xn, .ref xb, .ref xw, .ref xa, .int (iI K), .ref yx, .ref yy, .ref yz, .ref yn, .ref yc, .ref yl])), (xt, .inl (cI, 2, .inl (aI tm)))] sz) := by
  refine x_metW (own := RX8) (cc := cX8_field) (maxL := 4) (ret := (some .int)) (Qc := fun jA => va_Qi (fun (r : Int32) (u : Int × Int × (Int → Int)) => r = (iI (if okP v then P else -1)) ∧ ((okP v → u.1 = v ∧ u.2.1 = 0 ∧ u.2.2 = uI (uI tm 0 0) 1 0) ∧ (¬ okP v → u.1 = P ∧ u.2.1 = cnt ∧ u.2.2 = tm))) (xB D (fun (u : Int × Int × (Int → Int)) => [(mo, .inr (8, [.int (iI u.1), .int (iI sh), .int (iI sc), .ref xk, .ref xt, .ref xc, .ref xx, .ref xy, .ref xz, .int (iI u.2.1), .ref xr, .int (iI ak), .long tr, .ref xl, .int (iI L), .ref xC, .ref xF, .ref xK, .ref xn, .ref xb, .ref xw, .ref xa, .int (iI K), .ref yx, .ref yy, .ref yz, .ref yn, .ref yc, .ref yl])), (xt, .inl (cI, 2, .inl (aI u.2.2)))]) jA) jA) (by decide) rfl rfl rfl ?_
  intro jp je js jm ja jb jt jc jA jQ jS jr jk jn jq hK hP hD hA hS ls hl
  have hl : lv_has ls 4 [(0, .ref mo), (1, .int (iI v))] := hl
  refine x_iln jS dX8_field_0 rfl hl 1 rfl ?_
  refine x_ic jS dX8_field_1 ?_
  refine x_si jS dX8_field_2 (by decide) ?_
  refine x_rI (x_rmS (As := [.int (iI v), .int (iI 5), .int (iI 997)]) (rest := []) jS hl.1 hK (c_X8_in jl D cI v 5 997 (by first | assumption | omega) (by first | assumption | omega) (by first | assumption | omega)) (hP.sub [] rfl) gX8_field_X8_in rfl rfl rfl kf_X8_in rfl rfl rfl rfl rfl dX8_field_5 rfl rfl) ?_
  refine x_isn (lv' := [(2, .int (iI (bI (5 ≤ v ∧ v ≤ 997)))), (0, .ref mo), (1, .int (iI v))]) jS dX8_field_8 rfl hl rfl rfl (fun ls hl => ?_)
  refine x_ic jS dX8_field_9 ?_
  refine x_isn (lv' := [(3, .int (iI 2)), (2, .int (iI (bI (5 ≤ v ∧ v ≤ 997)))), (0, .ref mo), (1, .int (iI v))]) jS dX8_field_10 rfl hl rfl rfl (fun ls hl => ?_)
  have loop_11 : ∀ (mm : Nat) (pr : Int) (d : Int), (40 - d).toNat = mm → (2 ≤ d ∧ d ≤ 33) → (pr = 0 ∨ pr = 1) → (pr = 0 → ¬ okP v) → (pr = 1 → (5 ≤ v ∧ v ≤ 997)) → (pr = 1 → ∀ j : Int, 2 ≤ j → j < d → v % j ≠ 0) → ∀ ls : Array Slot, lv_has ls 4 [(3, .int (iI d)), (2, .int (iI pr)), (0, .ref mo), (1, .int (iI v))] → W jp jl je rm_X8_field js jm ja jb jt jc js.heap [] 0 0 jQ (F0 jm 11 ls []) := by
    intro mm
    induction mm using Nat.strongRecOn with
    | ind mm ih11 =>
      intro pr d hmm11 hd hpr h0p h1p h2p ls hl
      refine x_iln jS dX8_field_11 rfl hl 1 rfl ?_
      refine x_ifeq jS 40 dX8_field_12 (by decide) (by omega) (fun hc12 => ?_) (fun hc12 => ?_)
      · skip
        refine x_iln jS dX8_field_40 rfl hl 1 rfl ?_
        refine x_ifne jS 46 dX8_field_41 (by decide) (by omega) (fun hc41 => ?_) (fun hc41 => ?_)
        · skip
          refine x_aln jS dX8_field_46 rfl hl 2 rfl ?_
          refine x_get jS hK hP h_X8_field_X8 0 rfl rfl 0 rfl m_X8_field_1 rfl dX8_field_47 ?_
          refine x_isn (lv' := [(3, .int (iI P)), (2, .int (iI pr)), (0, .ref mo), (1, .int (iI v))]) jS dX8_field_50 rfl hl rfl rfl (fun ls hl => ?_)
          refine x_aln jS dX8_field_51 rfl hl 2 rfl ?_
          refine x_iln jS dX8_field_52 rfl hl 3 rfl ?_
          refine x_put (ty0 := tyX8) (ws' := [(mo, .inr (8, [.int (iI v), .int (iI sh), .int (iI sc), .ref xk, .ref xt, .ref xc, .ref xx, .ref xy, .ref xz, .int (iI cnt), .ref xr, .int (iI ak), .long tr, .ref xl, .int (iI L), .ref xC, .ref xF, .ref xK, .ref xn, .ref xb, .ref xw, .ref xa, .int (iI K), .ref yx, .ref yy, .ref yz, .ref yn, .ref yc, .ref yl])), (xt, .inl (cI, 2, .inl (aI tm)))]) jS hK hP hD hS h_X8_field_X8 tyX8_ok nmX8 0 rfl rfl 0 rfl m_X8_field_1 rfl rfl rfl rfl dX8_field_53 rfl (fun jH jL hP hD hS => ?_)
          refine x_aln jS dX8_field_56 rfl hl 2 rfl ?_
          refine x_get jS hK hP h_X8_field_X8 0 rfl rfl 4 rfl m_X8_field_2 rfl dX8_field_57 ?_
          refine x_ic jS dX8_field_60 ?_
          refine x_ic jS dX8_field_61 ?_
          refine x_iast (ws' := [(mo, .inr (8, [.int (iI v), .int (iI sh), .int (iI sc), .ref xk, .ref xt, .ref xc, .ref xx, .ref xy, .ref xz, .int (iI cnt), .ref xr, .int (iI ak), .long tr, .ref xl, .int (iI L), .ref xC, .ref xF, .ref xK, .ref xn, .ref xb, .ref xw, .ref xa, .int (iI K), .ref yx, .ref yy, .ref yz, .ref yn, .ref yc, .ref yl])), (xt, .inl (cI, 2, .inl (aI (uI tm 0 0))))]) jS hK hP hD hS 1 rfl (by omega) dX8_field_62 rfl (fun jH jL hP hD hS => ?_)
          refine x_aln jS dX8_field_63 rfl hl 2 rfl ?_
          refine x_get jS hK hP h_X8_field_X8 0 rfl rfl 4 rfl m_X8_field_2 rfl dX8_field_64 ?_
          refine x_ic jS dX8_field_67 ?_
          refine x_ic jS dX8_field_68 ?_
          refine x_iast (ws' := [(mo, .inr (8, [.int (iI v), .int (iI sh), .int (iI sc), .ref xk, .ref xt, .ref xc, .ref xx, .ref xy, .ref xz, .int (iI cnt), .ref xr, .int (iI ak), .long tr, .ref xl, .int (iI L), .ref xC, .ref xF, .ref xK, .ref xn, .ref xb, .ref xw, .ref xa, .int (iI K), .ref yx, .ref yy, .ref yz, .ref yn, .ref yc, .ref yl])), (xt, .inl (cI, 2, .inl (aI (uI (uI tm 0 0) 1 0))))]) jS hK hP hD hS 1 rfl (by omega) dX8_field_69 rfl (fun jH jL hP hD hS => ?_)
          refine x_aln jS dX8_field_70 rfl hl 2 rfl ?_
          refine x_ic jS dX8_field_71 ?_
          refine x_put (ty0 := tyX8) (ws' := [(mo, .inr (8, [.int (iI v), .int (iI sh), .int (iI sc), .ref xk, .ref xt, .ref xc, .ref xx, .ref xy, .ref xz, .int (iI 0), .ref xr, .int (iI ak), .long tr, .ref xl, .int (iI L), .ref xC, .ref xF, .ref xK, .ref xn, .ref xb, .ref xw, .ref xa, .int (iI K), .ref yx, .ref yy, .ref yz, .ref yn, .ref yc, .ref yl])), (xt, .inl (cI, 2, .inl (aI (uI (uI tm 0 0) 1 0))))]) jS hK hP hD hS h_X8_field_X8 tyX8_ok nmX8 0 rfl rfl 9 rfl m_X8_field_3 rfl rfl rfl rfl dX8_field_72 rfl (fun jH jL hP hD hS => ?_)
          refine x_iln jS dX8_field_75 rfl hl 0 rfl ?_
          exact x_iretW jS jr jk jq dX8_field_76 ⟨v, 0, (uI (uI tm 0 0) 1 0)⟩ hP hD hS (show (iI P) = (iI (if okP v then P else -1)) ∧ ((okP v → v = v ∧ 0 = 0 ∧ (uI (uI tm 0 0) 1 0) = uI (uI tm 0 0) 1 0) ∧ (¬ okP v → v = P ∧ 0 = cnt ∧ (uI (uI tm 0 0) 1 0) = tm)) from absurd hc12 hc41)
        · skip
          refine x_ic jS dX8_field_44 ?_
          exact x_iretW jS jr jk jq dX8_field_45 ⟨P, cnt, tm⟩ hP hD hS (show (iI (-1)) = (iI (if okP v then P else -1)) ∧ ((okP v → P = v ∧ cnt = 0 ∧ tm = uI (uI tm 0 0) 1 0) ∧ (¬ okP v → P = P ∧ cnt = cnt ∧ tm = tm)) from ⟨by rw [if_neg (h0p hc12)], fun g => absurd g (h0p hc12), fun _ => ⟨rfl, rfl, rfl⟩⟩)
      · skip
        have hp1 : pr = 1 := by omega
        have hv5 := h1p hp1
        have hd31 : d * d ≤ v → d < 32 := fun g => by
          rcases Int.lt_or_le d 32 with z | z
          · exact z
          · have := Int.mul_le_mul z z (by omega) (by omega); omega
        refine x_iln jS dX8_field_15 rfl hl 0 rfl ?_
        refine x_iln jS dX8_field_16 rfl hl 0 rfl ?_
        refine x_imulB jS dX8_field_17 (by omega) (fun hp17 => ?_)
        refine x_iln jS dX8_field_18 rfl hl 3 rfl ?_
        refine x_cmpgt jS 40 dX8_field_19 (by decide) (by omega) (fun hc19 => ?_) (fun hc19 => ?_)
        · skip
          refine x_iln jS dX8_field_40 rfl hl 1 rfl ?_
          refine x_ifne jS 46 dX8_field_41 (by decide) (by omega) (fun hc41 => ?_) (fun hc41 => ?_)
          · skip
            refine x_aln jS dX8_field_46 rfl hl 2 rfl ?_
            refine x_get jS hK hP h_X8_field_X8 0 rfl rfl 0 rfl m_X8_field_1 rfl dX8_field_47 ?_
            refine x_isn (lv' := [(3, .int (iI P)), (2, .int (iI pr)), (0, .ref mo), (1, .int (iI v))]) jS dX8_field_50 rfl hl rfl rfl (fun ls hl => ?_)
            refine x_aln jS dX8_field_51 rfl hl 2 rfl ?_
            refine x_iln jS dX8_field_52 rfl hl 3 rfl ?_
            refine x_put (ty0 := tyX8) (ws' := [(mo, .inr (8, [.int (iI v), .int (iI sh), .int (iI sc), .ref xk, .ref xt, .ref xc, .ref xx, .ref xy, .ref xz, .int (iI cnt), .ref xr, .int (iI ak), .long tr, .ref xl, .int (iI L), .ref xC, .ref xF, .ref xK, .ref xn, .ref xb, .ref xw, .ref xa, .int (iI K), .ref yx, .ref yy, .ref yz, .ref yn, .ref yc, .ref yl])), (xt, .inl (cI, 2, .inl (aI tm)))]) jS hK hP hD hS h_X8_field_X8 tyX8_ok nmX8 0 rfl rfl 0 rfl m_X8_field_1 rfl rfl rfl rfl dX8_field_53 rfl (fun jH jL hP hD hS => ?_)
            refine x_aln jS dX8_field_56 rfl hl 2 rfl ?_
            refine x_get jS hK hP h_X8_field_X8 0 rfl rfl 4 rfl m_X8_field_2 rfl dX8_field_57 ?_
            refine x_ic jS dX8_field_60 ?_
            refine x_ic jS dX8_field_61 ?_
            refine x_iast (ws' := [(mo, .inr (8, [.int (iI v), .int (iI sh), .int (iI sc), .ref xk, .ref xt, .ref xc, .ref xx, .ref xy, .ref xz, .int (iI cnt), .ref xr, .int (iI ak), .long tr, .ref xl, .int (iI L), .ref xC, .ref xF, .ref xK, .ref xn, .ref xb, .ref xw, .ref xa, .int (iI K), .ref yx, .ref yy, .ref yz, .ref yn, .ref yc, .ref yl])), (xt, .inl (cI, 2, .inl (aI (uI tm 0 0))))]) jS hK hP hD hS 1 rfl (by omega) dX8_field_62 rfl (fun jH jL hP hD hS => ?_)
            refine x_aln jS dX8_field_63 rfl hl 2 rfl ?_
            refine x_get jS hK hP h_X8_field_X8 0 rfl rfl 4 rfl m_X8_field_2 rfl dX8_field_64 ?_
            refine x_ic jS dX8_field_67 ?_
            refine x_ic jS dX8_field_68 ?_
            refine x_iast (ws' := [(mo, .inr (8, [.int (iI v), .int (iI sh), .int (iI sc), .ref xk, .ref xt, .ref xc, .ref xx, .ref xy, .ref xz, .int (iI cnt), .ref xr, .int (iI ak), .long tr, .ref xl, .int (iI L), .ref xC, .ref xF, .ref xK, .ref xn, .ref xb, .ref xw, .ref xa, .int (iI K), .ref yx, .ref yy, .ref yz, .ref yn, .ref yc, .ref yl])), (xt, .inl (cI, 2, .inl (aI (uI (uI tm 0 0) 1 0))))]) jS hK hP hD hS 1 rfl (by omega) dX8_field_69 rfl (fun jH jL hP hD hS => ?_)
            refine x_aln jS dX8_field_70 rfl hl 2 rfl ?_
            refine x_ic jS dX8_field_71 ?_
            refine x_put (ty0 := tyX8) (ws' := [(mo, .inr (8, [.int (iI v), .int (iI sh), .int (iI sc), .ref xk, .ref xt, .ref xc, .ref xx, .ref xy, .ref xz, .int (iI 0), .ref xr, .int (iI ak), .long tr, .ref xl, .int (iI L), .ref xC, .ref xF, .ref xK, .ref xn, .ref xb, .ref xw, .ref xa, .int (iI K), .ref yx, .ref yy, .ref yz, .ref yn, .ref yc, .ref yl])), (xt, .inl (cI, 2, .inl (aI (uI (uI tm 0 0) 1 0))))]) jS hK hP hD hS h_X8_field_X8 tyX8_ok nmX8 0 rfl rfl 9 rfl m_X8_field_3 rfl rfl rfl rfl dX8_field_72 rfl (fun jH jL hP hD hS => ?_)
            refine x_iln jS dX8_field_75 rfl hl 0 rfl ?_
            exact x_iretW jS jr jk jq dX8_field_76 ⟨v, 0, (uI (uI tm 0 0) 1 0)⟩ hP hD hS (show (iI P) = (iI (if okP v then P else -1)) ∧ ((okP v → v = v ∧ 0 = 0 ∧ (uI (uI tm 0 0) 1 0) = uI (uI tm 0 0) 1 0) ∧ (¬ okP v → v = P ∧ 0 = cnt ∧ (uI (uI tm 0 0) 1 0) = tm)) from ⟨by rw [if_pos ⟨hv5.1, hv5.2, prm_yes (h2p hp1) hc19 hd.1⟩], fun _ => ⟨rfl, rfl, rfl⟩, fun g => absurd ⟨hv5.1, hv5.2, prm_yes (h2p hp1) hc19 hd.1⟩ g⟩)
          · skip
            refine x_ic jS dX8_field_44 ?_
            exact x_iretW jS jr jk jq dX8_field_45 ⟨P, cnt, tm⟩ hP hD hS (show (iI (-1)) = (iI (if okP v then P else -1)) ∧ ((okP v → P = v ∧ cnt = 0 ∧ tm = uI (uI tm 0 0) 1 0) ∧ (¬ okP v → P = P ∧ cnt = cnt ∧ tm = tm)) from absurd hp1 (by omega))
        · skip
          have hd32 := hd31 hc19
          refine x_iln jS dX8_field_22 rfl hl 3 rfl ?_
          refine x_iln jS dX8_field_23 rfl hl 0 rfl ?_
          refine x_irem jS dX8_field_24 (by omega) (fun hm24 => ?_)
          refine x_ifeq jS 32 dX8_field_25 (by decide) (by omega) (fun hc25 => ?_) (fun hc25 => ?_)
          · skip
            have hz0 : (0 : Int) = 0 → ¬ okP v := fun _ g => prm_no hv5.2 hd.1 hc19 hc25 g.2.2
            have hz1 : (0 : Int) = 1 → (5 ≤ v ∧ v ≤ 997) := fun g => by omega
            have hz2 : (0 : Int) = 1 → ∀ j : Int, 2 ≤ j → j < d + 1 → v % j ≠ 0 := fun g => by omega
            refine x_ic jS dX8_field_32 ?_
            refine x_isn (lv' := [(2, .int (iI 0)), (3, .int (iI d)), (0, .ref mo), (1, .int (iI v))]) jS dX8_field_33 rfl hl rfl rfl (fun ls hl => ?_)
            refine x_iinc (lv' := [(3, .int (iI (d + 1))), (2, .int (iI 0)), (0, .ref mo), (1, .int (iI v))]) jS dX8_field_34 hl 1 rfl rfl rfl (fun ls hl => ?_)
            refine x_goto jS 11 dX8_field_37 (by decide) ?_
            exact ih11 _ (by omega) 0 (d + 1) rfl (by omega) (by omega) (hz0) (hz1) (hz2) ls (lv_sub hl [0, 1, 2, 3] rfl)
          · skip
            have hz0 : (1 : Int) = 0 → ¬ okP v := fun g => by omega
            have hz1 : (1 : Int) = 1 → (5 ≤ v ∧ v ≤ 997) := fun _ => hv5
            have hz2 : (1 : Int) = 1 → ∀ j : Int, 2 ≤ j → j < d + 1 → v % j ≠ 0 := fun _ j a b => by rcases Int.lt_or_le j d with z | z; exact h2p hp1 j a z; rw [show j = d by omega]; exact hc25
            refine x_ic jS dX8_field_28 ?_
            refine x_goto jS 33 dX8_field_29 (by decide) ?_
            refine x_isn (lv' := [(2, .int (iI 1)), (3, .int (iI d)), (0, .ref mo), (1, .int (iI v))]) jS dX8_field_33 rfl hl rfl rfl (fun ls hl => ?_)
            refine x_iinc (lv' := [(3, .int (iI (d + 1))), (2, .int (iI 1)), (0, .ref mo), (1, .int (iI v))]) jS dX8_field_34 hl 1 rfl rfl rfl (fun ls hl => ?_)
            refine x_goto jS 11 dX8_field_37 (by decide) ?_
            exact ih11 _ (by omega) 1 (d + 1) rfl (by omega) (by omega) (hz0) (hz1) (hz2) ls (lv_sub hl [0, 1, 2, 3] rfl)
  exact loop_11 _ (bI (5 ≤ v ∧ v ≤ 997)) 2 rfl (by omega) (by have := bI_in (5 ≤ v ∧ v ≤ 997); omega) (fun q g => by rw [bI_t ⟨g.1, g.2.1⟩] at q; omega) (fun q => by by_cases g : 5 ≤ v ∧ v ≤ 997; exact g; rw [bI_f g] at q; omega) (fun q j a b => by omega) ls (lv_sub hl [0, 1, 2, 3] rfl)
theorem h_X8_set_X8 : ∀ w ∈ u_ws RX8 TX8 29, w ∈ wsX8_set := fun w h => List.mem_cons_of_mem _ (List.mem_append_right _ h)
theorem m_X8_set_3 : Cond.fieldLink RX8 19 "SealedBoxModel" "kind" "[I" ∈ wsX8_set := List.mem_of_getElem? (i := 3) rfl
theorem m_X8_set_2 : Cond.fieldLink RX8 16 "SealedBoxModel" "scale" "I" ∈ wsX8_set := List.mem_of_getElem? (i := 2) rfl
theorem m_X8_set_1 : Cond.fieldLink RX8 13 "SealedBoxModel" "shift" "I" ∈ wsX8_set := List.mem_of_getElem? (i := 1) rfl
abbrev rm_X8_set : Room := { frames := 1, cells := 0, slots := 0, locals := 22 }
set_option maxHeartbeats 4000000 in
set_option maxRecDepth 100000 in
theorem c_X8_set (jl : Launch) (D : va_G) (cI : ClassId) (mo xk xt xc xx xy xz xr xl xC xF xK xn xb xw xa yx yy yz yn yc yl : Nat) (P sh sc cnt ak L K : Int) (tr : Int64) (w v : Int) (kd : Int → Int) (sz : Nat) (g_w : -2147483648 ≤ w ∧ w < 2147483648) (g_v : -2147483648 ≤ v ∧ v < 2147483648) : Met jl yX8_set wsX8_set rm_X8_set (xPw [.ref mo, .int (iI w), .int (iI v)] D cI [(mo, .inr (8, [.int (iI P), .int (iI sh), .int (iI sc), .ref xk, .ref xt, .ref xc, .ref xx, .ref xy, .ref xz, .int (iI cnt), .ref xr, .int (iI ak), .long tr, .ref xl, .int (iI L), .ref xC, .ref xF, .ref xK, .ref xn, .ref xb, .ref xw, .ref xa, .int (iI K), .ref yx, .ref yy, .ref yz, .ref yn, .ref yc, .ref yl])), (xk, .inl (cI, 2, .inl (aI kd)))] sz) (va_Qi (fun (r : Int32) (u : Int × Int × (Int → Int)) => r = (iI (if w = 0 then (if 0 ≤ v ∧ v ≤ 996 then sh else -1) else if w = 1 then (if 1 ≤ v ∧ v ≤ 996 then sc else -1) else if w = 2 then (if 0 ≤ v ∧ v ≤ 2 then kd 0 else -1) else if w = 3 then (if 0 ≤ v ∧ v ≤ 2 then kd 1 else -1) else -1)) ∧ (u.1 = (if w = 0 ∧ 0 ≤ v ∧ v ≤ 996 then v else sh) ∧ u.2.1 = (if w = 1 ∧ 1 ≤ v ∧ v ≤ 996 then v else sc) ∧ u.2.2 = (if (w = 2 ∨ w = 3) ∧ 0 ≤ v ∧ v ≤ 2 then uI kd (w - 2) v else kd))) (xB D (fun (u : Int × Int × (Int → Int)) => [(mo, .inr (8, [.int (iI P), .int (iI u.1), .int (iI u.2.1), .ref xk, .ref xt, .ref xc, .ref xx, .ref xy, .ref xz, .int (iI cnt), .ref xr, .int (iI ak), .long tr, .ref xl, .int (iI L), .ref xC, .ref xF, .ref xK, .ref xn, .ref xb, .ref xw, .ref xa, .int (iI K), .ref yx, .ref yy, .ref yz, .ref yn, .ref yc, .ref yl])), (xk, .inl (cI, 2, .inl (aI u.2.2)))]) (va_A [(mo, .inr (8, [.int (iI P), .int (iI sh), .int (iI sc), .ref xk, .ref xt, .ref xc, .ref xx, .ref xy, .ref xz, .int (iI cnt), .ref xr, .int (iI ak), .long tr, .ref xl, .int (iI L), .ref xC, .ref xF, .ref xK, .ref xn, .ref xb, .ref xw, .ref xa, .int (iI K), .ref yx, .ref yy, .ref yz, .ref yn, .ref yc, .ref yl])), (xk, .inl (cI, 2, .inl (aI kd)))] sz)) (va_A [(mo, .inr (8, [.int (iI P), .int (iI sh), .int (iI sc), .ref xk, .ref xt, .ref xc, .ref xx, .ref xy, .ref xz, .int (iI cnt), .ref xr, .int (iI ak), .long tr, .ref xl, .int (iI L), .ref xC, .ref xF, .ref xK, .ref xn, .ref xb, .ref xw, .ref xa, .int (iI K), .ref yx, .ref yy, .ref yz, .ref yn, .ref yc, .ref yl])), (xk, .inl (cI, 2, .inl (aI kd)))] sz)) 0 0 (va_A [(mo, .inr (8, [.int (iI P), .int (iI sh), .int (iI sc), .ref xk, .ref xt, .ref xc, .ref xx, .ref xy, .ref xz, .int (iI cnt), .ref xr, .int (iI ak), .long tr, .ref xl, .int (iI L), .ref xC, .ref xF, .ref xK, .ref xn, .ref xb, .ref xw, .ref xa, .int (iI K), .ref yx, .ref yy, .ref yz, .ref yn, .ref yc, .ref yl])), (xk, .inl (cI, 2, .inl (aI kd)))] sz) := by
  refine x_metW (own := RX8) (cc := cX8_set) (maxL := 4) (ret := (some .int)) (Qc := fun jA => va_Qi (fun (r : Int32) (u : Int × Int × (Int → Int)) => r = (iI (if w = 0 then (if 0 ≤ v ∧ v ≤ 996 then sh else -1) else if w = 1 then (if 1 ≤ v ∧ v ≤ 996 then sc else -1) else if w = 2 then (if 0 ≤ v ∧ v ≤ 2 then kd 0 else -1) else if w = 3 then (if 0 ≤ v ∧ v ≤ 2 then kd 1 else -1) else -1)) ∧ (u.1 = (if w = 0 ∧ 0 ≤ v ∧ v ≤ 996 then v else sh) ∧ u.2.1 = (if w = 1 ∧ 1 ≤ v ∧ v ≤ 996 then v else sc) ∧ u.2.2 = (if (w = 2 ∨ w = 3) ∧ 0 ≤ v ∧ v ≤ 2 then uI kd (w - 2) v else kd))) (xB D (fun (u : Int × Int × (Int → Int)) => [(mo, .inr (8, [.int (iI P), .int (iI u.1), .int (iI u.2.1), .ref xk, .ref xt, .ref xc, .ref xx, .ref xy, .ref xz, .int (iI cnt), .ref xr, .int (iI ak), .long tr, .ref xl, .int (iI L), .ref xC, .ref xF, .ref xK, .ref xn, .ref xb, .ref xw, .ref xa, .int (iI K), .ref yx, .ref yy, .ref yz, .ref yn, .ref yc, .ref yl])), (xk, .inl (cI, 2, .inl (aI u.2.2)))]) jA) jA) (by decide) rfl rfl rfl ?_
  intro jp je js jm ja jb jt jc jA jQ jS jr jk jn jq hK hP hD hA hS ls hl
  have hl : lv_has ls 4 [(0, .ref mo), (1, .int (iI w)), (2, .int (iI v))] := hl
  refine x_ic jS dX8_set_0 ?_
  refine x_isn (lv' := [(3, .int (iI (-1))), (0, .ref mo), (1, .int (iI w)), (2, .int (iI v))]) jS dX8_set_1 rfl hl rfl rfl (fun ls hl => ?_)
  refine x_iln jS dX8_set_2 rfl hl 2 rfl ?_
  refine x_ifne jS 30 dX8_set_3 (by decide) (by omega) (fun hc3 => ?_) (fun hc3 => ?_)
  · skip
    refine x_iln jS dX8_set_30 rfl hl 2 rfl ?_
    refine x_ic jS dX8_set_31 ?_
    refine x_cmpne jS 59 dX8_set_32 (by decide) (by omega) (fun hc32 => ?_) (fun hc32 => ?_)
    · skip
      refine x_iln jS dX8_set_59 rfl hl 2 rfl ?_
      refine x_ic jS dX8_set_60 ?_
      refine x_ic jS dX8_set_61 ?_
      refine x_rI (x_rmS (As := [.int (iI w), .int (iI 2), .int (iI 3)]) (rest := []) jS hl.1 hK (c_X8_in jl D cI w 2 3 (by first | assumption | omega) (by first | assumption | omega) (by first | assumption | omega)) (hP.sub [] rfl) gX8_set_X8_in rfl rfl rfl kf_X8_in rfl rfl rfl rfl rfl dX8_set_62 rfl rfl) ?_
      refine x_ifeqB jS 95 dX8_set_65 (by decide) (fun hc65 => ?_) (fun hc65 => ?_)
      · skip
        refine x_iln jS dX8_set_95 rfl hl 0 rfl ?_
        exact x_iretW jS jr jk jq dX8_set_96 ⟨sh, sc, kd⟩ hP hD hS (show (iI (-1)) = (iI (if w = 0 then (if 0 ≤ v ∧ v ≤ 996 then sh else -1) else if w = 1 then (if 1 ≤ v ∧ v ≤ 996 then sc else -1) else if w = 2 then (if 0 ≤ v ∧ v ≤ 2 then kd 0 else -1) else if w = 3 then (if 0 ≤ v ∧ v ≤ 2 then kd 1 else -1) else -1)) ∧ (sh = (if w = 0 ∧ 0 ≤ v ∧ v ≤ 996 then v else sh) ∧ sc = (if w = 1 ∧ 1 ≤ v ∧ v ≤ 996 then v else sc) ∧ kd = (if (w = 2 ∨ w = 3) ∧ 0 ≤ v ∧ v ≤ 2 then uI kd (w - 2) v else kd)) from by first | omega | (refine ⟨?_, ?_, ?_, ?_⟩ <;> (repeat (first | rfl | omega | (rw [if_pos (by omega)]) | (rw [if_neg (by omega)]))) <;> done) | (rcases (show w = 2 ∨ w = 3 by omega) with q | q <;> (subst q; refine ⟨?_, ?_, ?_, ?_⟩ <;> simp [hc74])))
      · skip
        refine x_iln jS dX8_set_68 rfl hl 3 rfl ?_
        refine x_ic jS dX8_set_69 ?_
        refine x_ic jS dX8_set_70 ?_
        refine x_rI (x_rmS (As := [.int (iI v), .int (iI 0), .int (iI 2)]) (rest := []) jS hl.1 hK (c_X8_in jl D cI v 0 2 (by first | assumption | omega) (by first | assumption | omega) (by first | assumption | omega)) (hP.sub [] rfl) gX8_set_X8_in rfl rfl rfl kf_X8_in rfl rfl rfl rfl rfl dX8_set_71 rfl rfl) ?_
        refine x_ifeqB jS 95 dX8_set_74 (by decide) (fun hc74 => ?_) (fun hc74 => ?_)
        · skip
          refine x_iln jS dX8_set_95 rfl hl 0 rfl ?_
          exact x_iretW jS jr jk jq dX8_set_96 ⟨sh, sc, kd⟩ hP hD hS (show (iI (-1)) = (iI (if w = 0 then (if 0 ≤ v ∧ v ≤ 996 then sh else -1) else if w = 1 then (if 1 ≤ v ∧ v ≤ 996 then sc else -1) else if w = 2 then (if 0 ≤ v ∧ v ≤ 2 then kd 0 else -1) else if w = 3 then (if 0 ≤ v ∧ v ≤ 2 then kd 1 else -1) else -1)) ∧ (sh = (if w = 0 ∧ 0 ≤ v ∧ v ≤ 996 then v else sh) ∧ sc = (if w = 1 ∧ 1 ≤ v ∧ v ≤ 996 then v else sc) ∧ kd = (if (w = 2 ∨ w = 3) ∧ 0 ≤ v ∧ v ≤ 2 then uI kd (w - 2) v else kd)) from by first | omega | (refine ⟨?_, ?_, ?_, ?_⟩ <;> (repeat (first | rfl | omega | (rw [if_pos (by omega)]) | (rw [if_neg (by omega)]))) <;> done) | (rcases (show w = 2 ∨ w = 3 by omega) with q | q <;> (subst q; refine ⟨?_, ?_, ?_, ?_⟩ <;> simp [hc74])))
        · skip
          refine x_aln jS dX8_set_77 rfl hl 1 rfl ?_
          refine x_get jS hK hP h_X8_set_X8 0 rfl rfl 3 rfl m_X8_set_3 rfl dX8_set_78 ?_
          refine x_iln jS dX8_set_81 rfl hl 2 rfl ?_
          refine x_ic jS dX8_set_82 ?_
          refine x_isub jS dX8_set_83 ?_
          refine x_iald jS hK hP 1 rfl (by omega) dX8_set_84 ?_
          refine x_isn (lv' := [(3, .int (iI (kd (w - 2)))), (0, .ref mo), (1, .int (iI w)), (2, .int (iI v))]) jS dX8_set_85 rfl hl rfl rfl (fun ls hl => ?_)
          refine x_aln jS dX8_set_86 rfl hl 1 rfl ?_
          refine x_get jS hK hP h_X8_set_X8 0 rfl rfl 3 rfl m_X8_set_3 rfl dX8_set_87 ?_
          refine x_iln jS dX8_set_90 rfl hl 2 rfl ?_
          refine x_ic jS dX8_set_91 ?_
          refine x_isub jS dX8_set_92 ?_
          refine x_iln jS dX8_set_93 rfl hl 3 rfl ?_
          refine x_iast (ws' := [(mo, .inr (8, [.int (iI P), .int (iI sh), .int (iI sc), .ref xk, .ref xt, .ref xc, .ref xx, .ref xy, .ref xz, .int (iI cnt), .ref xr, .int (iI ak), .long tr, .ref xl, .int (iI L), .ref xC, .ref xF, .ref xK, .ref xn, .ref xb, .ref xw, .ref xa, .int (iI K), .ref yx, .ref yy, .ref yz, .ref yn, .ref yc, .ref yl])), (xk, .inl (cI, 2, .inl (aI (uI kd (w - 2) v))))]) jS hK hP hD hS 1 rfl (by omega) dX8_set_94 rfl (fun jH jL hP hD hS => ?_)
          refine x_iln jS dX8_set_95 rfl hl 0 rfl ?_
          exact x_iretW jS jr jk jq dX8_set_96 ⟨sh, sc, (uI kd (w - 2) v)⟩ hP hD hS (show (iI (kd (w - 2))) = (iI (if w = 0 then (if 0 ≤ v ∧ v ≤ 996 then sh else -1) else if w = 1 then (if 1 ≤ v ∧ v ≤ 996 then sc else -1) else if w = 2 then (if 0 ≤ v ∧ v ≤ 2 then kd 0 else -1) else if w = 3 then (if 0 ≤ v ∧ v ≤ 2 then kd 1 else -1) else -1)) ∧ (sh = (if w = 0 ∧ 0 ≤ v ∧ v ≤ 996 then v else sh) ∧ sc = (if w = 1 ∧ 1 ≤ v ∧ v ≤ 996 then v else sc) ∧ (uI kd (w - 2) v) = (if (w = 2 ∨ w = 3) ∧ 0 ≤ v ∧ v ≤ 2 then uI kd (w - 2) v else kd)) from by first | omega | (refine ⟨?_, ?_, ?_, ?_⟩ <;> (repeat (first | rfl | omega | (rw [if_pos (by omega)]) | (rw [if_neg (by omega)]))) <;> done) | (rcases (show w = 2 ∨ w = 3 by omega) with q | q <;> (subst q; refine ⟨?_, ?_, ?_, ?_⟩ <;> simp [hc74])))
    · skip
      refine x_iln jS dX8_set_35 rfl hl 3 rfl ?_
      refine x_ic jS dX8_set_36 ?_
      refine x_si jS dX8_set_37 (by decide) ?_
      refine x_rI (x_rmS (As := [.int (iI v), .int (iI 1), .int (iI 996)]) (rest := []) jS hl.1 hK (c_X8_in jl D cI v 1 996 (by first | assumption | omega) (by first | assumption | omega) (by first | assumption | omega)) (hP.sub [] rfl) gX8_set_X8_in rfl rfl rfl kf_X8_in rfl rfl rfl rfl rfl dX8_set_40 rfl rfl) ?_
      refine x_ifeqB jS 59 dX8_set_43 (by decide) (fun hc43 => ?_) (fun hc43 => ?_)
      · skip
        refine x_iln jS dX8_set_59 rfl hl 2 rfl ?_
        refine x_ic jS dX8_set_60 ?_
        refine x_ic jS dX8_set_61 ?_
        refine x_rI (x_rmS (As := [.int (iI w), .int (iI 2), .int (iI 3)]) (rest := []) jS hl.1 hK (c_X8_in jl D cI w 2 3 (by first | assumption | omega) (by first | assumption | omega) (by first | assumption | omega)) (hP.sub [] rfl) gX8_set_X8_in rfl rfl rfl kf_X8_in rfl rfl rfl rfl rfl dX8_set_62 rfl rfl) ?_
        refine x_ifeqB jS 95 dX8_set_65 (by decide) (fun hc65 => ?_) (fun hc65 => ?_)
        · skip
          refine x_iln jS dX8_set_95 rfl hl 0 rfl ?_
          exact x_iretW jS jr jk jq dX8_set_96 ⟨sh, sc, kd⟩ hP hD hS (show (iI (-1)) = (iI (if w = 0 then (if 0 ≤ v ∧ v ≤ 996 then sh else -1) else if w = 1 then (if 1 ≤ v ∧ v ≤ 996 then sc else -1) else if w = 2 then (if 0 ≤ v ∧ v ≤ 2 then kd 0 else -1) else if w = 3 then (if 0 ≤ v ∧ v ≤ 2 then kd 1 else -1) else -1)) ∧ (sh = (if w = 0 ∧ 0 ≤ v ∧ v ≤ 996 then v else sh) ∧ sc = (if w = 1 ∧ 1 ≤ v ∧ v ≤ 996 then v else sc) ∧ kd = (if (w = 2 ∨ w = 3) ∧ 0 ≤ v ∧ v ≤ 2 then uI kd (w - 2) v else kd)) from by first | omega | (refine ⟨?_, ?_, ?_, ?_⟩ <;> (repeat (first | rfl | omega | (rw [if_pos (by omega)]) | (rw [if_neg (by omega)]))) <;> done) | (rcases (show w = 2 ∨ w = 3 by omega) with q | q <;> (subst q; refine ⟨?_, ?_, ?_, ?_⟩ <;> simp [hc74])))
        · skip
          refine x_iln jS dX8_set_68 rfl hl 3 rfl ?_
          refine x_ic jS dX8_set_69 ?_
          refine x_ic jS dX8_set_70 ?_
          refine x_rI (x_rmS (As := [.int (iI v), .int (iI 0), .int (iI 2)]) (rest := []) jS hl.1 hK (c_X8_in jl D cI v 0 2 (by first | assumption | omega) (by first | assumption | omega) (by first | assumption | omega)) (hP.sub [] rfl) gX8_set_X8_in rfl rfl rfl kf_X8_in rfl rfl rfl rfl rfl dX8_set_71 rfl rfl) ?_
          refine x_ifeqB jS 95 dX8_set_74 (by decide) (fun hc74 => ?_) (fun hc74 => ?_)
          · skip
            refine x_iln jS dX8_set_95 rfl hl 0 rfl ?_
            exact x_iretW jS jr jk jq dX8_set_96 ⟨sh, sc, kd⟩ hP hD hS (show (iI (-1)) = (iI (if w = 0 then (if 0 ≤ v ∧ v ≤ 996 then sh else -1) else if w = 1 then (if 1 ≤ v ∧ v ≤ 996 then sc else -1) else if w = 2 then (if 0 ≤ v ∧ v ≤ 2 then kd 0 else -1) else if w = 3 then (if 0 ≤ v ∧ v ≤ 2 then kd 1 else -1) else -1)) ∧ (sh = (if w = 0 ∧ 0 ≤ v ∧ v ≤ 996 then v else sh) ∧ sc = (if w = 1 ∧ 1 ≤ v ∧ v ≤ 996 then v else sc) ∧ kd = (if (w = 2 ∨ w = 3) ∧ 0 ≤ v ∧ v ≤ 2 then uI kd (w - 2) v else kd)) from by first | omega | (refine ⟨?_, ?_, ?_, ?_⟩ <;> (repeat (first | rfl | omega | (rw [if_pos (by omega)]) | (rw [if_neg (by omega)]))) <;> done) | (rcases (show w = 2 ∨ w = 3 by omega) with q | q <;> (subst q; refine ⟨?_, ?_, ?_, ?_⟩ <;> simp [hc74])))
          · skip
            refine x_aln jS dX8_set_77 rfl hl 1 rfl ?_
            refine x_get jS hK hP h_X8_set_X8 0 rfl rfl 3 rfl m_X8_set_3 rfl dX8_set_78 ?_
            refine x_iln jS dX8_set_81 rfl hl 2 rfl ?_
            refine x_ic jS dX8_set_82 ?_
            refine x_isub jS dX8_set_83 ?_
            refine x_iald jS hK hP 1 rfl (by omega) dX8_set_84 ?_
            refine x_isn (lv' := [(3, .int (iI (kd (w - 2)))), (0, .ref mo), (1, .int (iI w)), (2, .int (iI v))]) jS dX8_set_85 rfl hl rfl rfl (fun ls hl => ?_)
            refine x_aln jS dX8_set_86 rfl hl 1 rfl ?_
            refine x_get jS hK hP h_X8_set_X8 0 rfl rfl 3 rfl m_X8_set_3 rfl dX8_set_87 ?_
            refine x_iln jS dX8_set_90 rfl hl 2 rfl ?_
            refine x_ic jS dX8_set_91 ?_
            refine x_isub jS dX8_set_92 ?_
            refine x_iln jS dX8_set_93 rfl hl 3 rfl ?_
            refine x_iast (ws' := [(mo, .inr (8, [.int (iI P), .int (iI sh), .int (iI sc), .ref xk, .ref xt, .ref xc, .ref xx, .ref xy, .ref xz, .int (iI cnt), .ref xr, .int (iI ak), .long tr, .ref xl, .int (iI L), .ref xC, .ref xF, .ref xK, .ref xn, .ref xb, .ref xw, .ref xa, .int (iI K), .ref yx, .ref yy, .ref yz, .ref yn, .ref yc, .ref yl])), (xk, .inl (cI, 2, .inl (aI (uI kd (w - 2) v))))]) jS hK hP hD hS 1 rfl (by omega) dX8_set_94 rfl (fun jH jL hP hD hS => ?_)
            refine x_iln jS dX8_set_95 rfl hl 0 rfl ?_
            exact x_iretW jS jr jk jq dX8_set_96 ⟨sh, sc, (uI kd (w - 2) v)⟩ hP hD hS (show (iI (kd (w - 2))) = (iI (if w = 0 then (if 0 ≤ v ∧ v ≤ 996 then sh else -1) else if w = 1 then (if 1 ≤ v ∧ v ≤ 996 then sc else -1) else if w = 2 then (if 0 ≤ v ∧ v ≤ 2 then kd 0 else -1) else if w = 3 then (if 0 ≤ v ∧ v ≤ 2 then kd 1 else -1) else -1)) ∧ (sh = (if w = 0 ∧ 0 ≤ v ∧ v ≤ 996 then v else sh) ∧ sc = (if w = 1 ∧ 1 ≤ v ∧ v ≤ 996 then v else sc) ∧ (uI kd (w - 2) v) = (if (w = 2 ∨ w = 3) ∧ 0 ≤ v ∧ v ≤ 2 then uI kd (w - 2) v else kd)) from by first | omega | (refine ⟨?_, ?_, ?_, ?_⟩ <;> (repeat (first | rfl | omega | (rw [if_pos (by omega)]) | (rw [if_neg (by omega)]))) <;> done) | (rcases (show w = 2 ∨ w = 3 by omega) with q | q <;> (subst q; refine ⟨?_, ?_, ?_, ?_⟩ <;> simp [hc74])))
      · skip
        refine x_aln jS dX8_set_46 rfl hl 1 rfl ?_
        refine x_get jS hK hP h_X8_set_X8 0 rfl rfl 2 rfl m_X8_set_2 rfl dX8_set_47 ?_
        refine x_isn (lv' := [(3, .int (iI sc)), (0, .ref mo), (1, .int (iI w)), (2, .int (iI v))]) jS dX8_set_50 rfl hl rfl rfl (fun ls hl => ?_)
        refine x_aln jS dX8_set_51 rfl hl 1 rfl ?_
        refine x_iln jS dX8_set_52 rfl hl 3 rfl ?_
        refine x_put (ty0 := tyX8) (ws' := [(mo, .inr (8, [.int (iI P), .int (iI sh), .int (iI v), .ref xk, .ref xt, .ref xc, .ref xx, .ref xy, .ref xz, .int (iI cnt), .ref xr, .int (iI ak), .long tr, .ref xl, .int (iI L), .ref xC, .ref xF, .ref xK, .ref xn, .ref xb, .ref xw, .ref xa, .int (iI K), .ref yx, .ref yy, .ref yz, .ref yn, .ref yc, .ref yl])), (xk, .inl (cI, 2, .inl (aI kd)))]) jS hK hP hD hS h_X8_set_X8 tyX8_ok nmX8 0 rfl rfl 2 rfl m_X8_set_2 rfl rfl rfl rfl dX8_set_53 rfl (fun jH jL hP hD hS => ?_)
        refine x_goto jS 95 dX8_set_56 (by decide) ?_
        refine x_iln jS dX8_set_95 rfl hl 0 rfl ?_
        exact x_iretW jS jr jk jq dX8_set_96 ⟨sh, v, kd⟩ hP hD hS (show (iI sc) = (iI (if w = 0 then (if 0 ≤ v ∧ v ≤ 996 then sh else -1) else if w = 1 then (if 1 ≤ v ∧ v ≤ 996 then sc else -1) else if w = 2 then (if 0 ≤ v ∧ v ≤ 2 then kd 0 else -1) else if w = 3 then (if 0 ≤ v ∧ v ≤ 2 then kd 1 else -1) else -1)) ∧ (sh = (if w = 0 ∧ 0 ≤ v ∧ v ≤ 996 then v else sh) ∧ v = (if w = 1 ∧ 1 ≤ v ∧ v ≤ 996 then v else sc) ∧ kd = (if (w = 2 ∨ w = 3) ∧ 0 ≤ v ∧ v ≤ 2 then uI kd (w - 2) v else kd)) from by first | omega | (refine ⟨?_, ?_, ?_, ?_⟩ <;> (repeat (first | rfl | omega | (rw [if_pos (by omega)]) | (rw [if_neg (by omega)]))) <;> done) | (rcases (show w = 2 ∨ w = 3 by omega) with q | q <;> (subst q; refine ⟨?_, ?_, ?_, ?_⟩ <;> simp [hc74])))
  · skip
    refine x_iln jS dX8_set_6 rfl hl 3 rfl ?_
    refine x_ic jS dX8_set_7 ?_
    refine x_si jS dX8_set_8 (by decide) ?_
    refine x_rI (x_rmS (As := [.int (iI v), .int (iI 0), .int (iI 996)]) (rest := []) jS hl.1 hK (c_X8_in jl D cI v 0 996 (by first | assumption | omega) (by first | assumption | omega) (by first | assumption | omega)) (hP.sub [] rfl) gX8_set_X8_in rfl rfl rfl kf_X8_in rfl rfl rfl rfl rfl dX8_set_11 rfl rfl) ?_
    refine x_ifeqB jS 30 dX8_set_14 (by decide) (fun hc14 => ?_) (fun hc14 => ?_)
    · skip
      refine x_iln jS dX8_set_30 rfl hl 2 rfl ?_
      refine x_ic jS dX8_set_31 ?_
      refine x_cmpne jS 59 dX8_set_32 (by decide) (by omega) (fun hc32 => ?_) (fun hc32 => ?_)
      · skip
        refine x_iln jS dX8_set_59 rfl hl 2 rfl ?_
        refine x_ic jS dX8_set_60 ?_
        refine x_ic jS dX8_set_61 ?_
        refine x_rI (x_rmS (As := [.int (iI w), .int (iI 2), .int (iI 3)]) (rest := []) jS hl.1 hK (c_X8_in jl D cI w 2 3 (by first | assumption | omega) (by first | assumption | omega) (by first | assumption | omega)) (hP.sub [] rfl) gX8_set_X8_in rfl rfl rfl kf_X8_in rfl rfl rfl rfl rfl dX8_set_62 rfl rfl) ?_
        refine x_ifeqB jS 95 dX8_set_65 (by decide) (fun hc65 => ?_) (fun hc65 => ?_)
        · skip
          refine x_iln jS dX8_set_95 rfl hl 0 rfl ?_
          exact x_iretW jS jr jk jq dX8_set_96 ⟨sh, sc, kd⟩ hP hD hS (show (iI (-1)) = (iI (if w = 0 then (if 0 ≤ v ∧ v ≤ 996 then sh else -1) else if w = 1 then (if 1 ≤ v ∧ v ≤ 996 then sc else -1) else if w = 2 then (if 0 ≤ v ∧ v ≤ 2 then kd 0 else -1) else if w = 3 then (if 0 ≤ v ∧ v ≤ 2 then kd 1 else -1) else -1)) ∧ (sh = (if w = 0 ∧ 0 ≤ v ∧ v ≤ 996 then v else sh) ∧ sc = (if w = 1 ∧ 1 ≤ v ∧ v ≤ 996 then v else sc) ∧ kd = (if (w = 2 ∨ w = 3) ∧ 0 ≤ v ∧ v ≤ 2 then uI kd (w - 2) v else kd)) from by first | omega | (refine ⟨?_, ?_, ?_, ?_⟩ <;> (repeat (first | rfl | omega | (rw [if_pos (by omega)]) | (rw [if_neg (by omega)]))) <;> done) | (rcases (show w = 2 ∨ w = 3 by omega) with q | q <;> (subst q; refine ⟨?_, ?_, ?_, ?_⟩ <;> simp [hc74])))
        · skip
          refine x_iln jS dX8_set_68 rfl hl 3 rfl ?_
          refine x_ic jS dX8_set_69 ?_
          refine x_ic jS dX8_set_70 ?_
          refine x_rI (x_rmS (As := [.int (iI v), .int (iI 0), .int (iI 2)]) (rest := []) jS hl.1 hK (c_X8_in jl D cI v 0 2 (by first | assumption | omega) (by first | assumption | omega) (by first | assumption | omega)) (hP.sub [] rfl) gX8_set_X8_in rfl rfl rfl kf_X8_in rfl rfl rfl rfl rfl dX8_set_71 rfl rfl) ?_
          refine x_ifeqB jS 95 dX8_set_74 (by decide) (fun hc74 => ?_) (fun hc74 => ?_)
          · skip
            refine x_iln jS dX8_set_95 rfl hl 0 rfl ?_
            exact x_iretW jS jr jk jq dX8_set_96 ⟨sh, sc, kd⟩ hP hD hS (show (iI (-1)) = (iI (if w = 0 then (if 0 ≤ v ∧ v ≤ 996 then sh else -1) else if w = 1 then (if 1 ≤ v ∧ v ≤ 996 then sc else -1) else if w = 2 then (if 0 ≤ v ∧ v ≤ 2 then kd 0 else -1) else if w = 3 then (if 0 ≤ v ∧ v ≤ 2 then kd 1 else -1) else -1)) ∧ (sh = (if w = 0 ∧ 0 ≤ v ∧ v ≤ 996 then v else sh) ∧ sc = (if w = 1 ∧ 1 ≤ v ∧ v ≤ 996 then v else sc) ∧ kd = (if (w = 2 ∨ w = 3) ∧ 0 ≤ v ∧ v ≤ 2 then uI kd (w - 2) v else kd)) from by first | omega | (refine ⟨?_, ?_, ?_, ?_⟩ <;> (repeat (first | rfl | omega | (rw [if_pos (by omega)]) | (rw [if_neg (by omega)]))) <;> done) | (rcases (show w = 2 ∨ w = 3 by omega) with q | q <;> (subst q; refine ⟨?_, ?_, ?_, ?_⟩ <;> simp [hc74])))
          · skip
            refine x_aln jS dX8_set_77 rfl hl 1 rfl ?_
            refine x_get jS hK hP h_X8_set_X8 0 rfl rfl 3 rfl m_X8_set_3 rfl dX8_set_78 ?_
            refine x_iln jS dX8_set_81 rfl hl 2 rfl ?_
            refine x_ic jS dX8_set_82 ?_
            refine x_isub jS dX8_set_83 ?_
            refine x_iald jS hK hP 1 rfl (by omega) dX8_set_84 ?_
            refine x_isn (lv' := [(3, .int (iI (kd (w - 2)))), (0, .ref mo), (1, .int (iI w)), (2, .int (iI v))]) jS dX8_set_85 rfl hl rfl rfl (fun ls hl => ?_)
            refine x_aln jS dX8_set_86 rfl hl 1 rfl ?_
            refine x_get jS hK hP h_X8_set_X8 0 rfl rfl 3 rfl m_X8_set_3 rfl dX8_set_87 ?_
            refine x_iln jS dX8_set_90 rfl hl 2 rfl ?_
            refine x_ic jS dX8_set_91 ?_
            refine x_isub jS dX8_set_92 ?_
            refine x_iln jS dX8_set_93 rfl hl 3 rfl ?_
            refine x_iast (ws' := [(mo, .inr (8, [.int (iI P), .int (iI sh), .int (iI sc), .ref xk, .ref xt, .ref xc, .ref xx, .ref xy, .ref xz, .int (iI cnt), .ref xr, .int (iI ak), .long tr, .ref xl, .int (iI L), .ref xC, .ref xF, .ref xK, .ref xn, .ref xb, .ref xw, .ref xa, .int (iI K), .ref yx, .ref yy, .ref yz, .ref yn, .ref yc, .ref yl])), (xk, .inl (cI, 2, .inl (aI (uI kd (w - 2) v))))]) jS hK hP hD hS 1 rfl (by omega) dX8_set_94 rfl (fun jH jL hP hD hS => ?_)
            refine x_iln jS dX8_set_95 rfl hl 0 rfl ?_
            exact x_iretW jS jr jk jq dX8_set_96 ⟨sh, sc, (uI kd (w - 2) v)⟩ hP hD hS (show (iI (kd (w - 2))) = (iI (if w = 0 then (if 0 ≤ v ∧ v ≤ 996 then sh else -1) else if w = 1 then (if 1 ≤ v ∧ v ≤ 996 then sc else -1) else if w = 2 then (if 0 ≤ v ∧ v ≤ 2 then kd 0 else -1) else if w = 3 then (if 0 ≤ v ∧ v ≤ 2 then kd 1 else -1) else -1)) ∧ (sh = (if w = 0 ∧ 0 ≤ v ∧ v ≤ 996 then v else sh) ∧ sc = (if w = 1 ∧ 1 ≤ v ∧ v ≤ 996 then v else sc) ∧ (uI kd (w - 2) v) = (if (w = 2 ∨ w = 3) ∧ 0 ≤ v ∧ v ≤ 2 then uI kd (w - 2) v else kd)) from by first | omega | (refine ⟨?_, ?_, ?_, ?_⟩ <;> (repeat (first | rfl | omega | (rw [if_pos (by omega)]) | (rw [if_neg (by omega)]))) <;> done) | (rcases (show w = 2 ∨ w = 3 by omega) with q | q <;> (subst q; refine ⟨?_, ?_, ?_, ?_⟩ <;> simp [hc74])))
      · skip
        refine x_iln jS dX8_set_35 rfl hl 3 rfl ?_
        refine x_ic jS dX8_set_36 ?_
        refine x_si jS dX8_set_37 (by decide) ?_
        refine x_rI (x_rmS (As := [.int (iI v), .int (iI 1), .int (iI 996)]) (rest := []) jS hl.1 hK (c_X8_in jl D cI v 1 996 (by first | assumption | omega) (by first | assumption | omega) (by first | assumption | omega)) (hP.sub [] rfl) gX8_set_X8_in rfl rfl rfl kf_X8_in rfl rfl rfl rfl rfl dX8_set_40 rfl rfl) ?_
        refine x_ifeqB jS 59 dX8_set_43 (by decide) (fun hc43 => ?_) (fun hc43 => ?_)
        · skip
          refine x_iln jS dX8_set_59 rfl hl 2 rfl ?_
          refine x_ic jS dX8_set_60 ?_
          refine x_ic jS dX8_set_61 ?_
          refine x_rI (x_rmS (As := [.int (iI w), .int (iI 2), .int (iI 3)]) (rest := []) jS hl.1 hK (c_X8_in jl D cI w 2 3 (by first | assumption | omega) (by first | assumption | omega) (by first | assumption | omega)) (hP.sub [] rfl) gX8_set_X8_in rfl rfl rfl kf_X8_in rfl rfl rfl rfl rfl dX8_set_62 rfl rfl) ?_
          refine x_ifeqB jS 95 dX8_set_65 (by decide) (fun hc65 => ?_) (fun hc65 => ?_)
          · skip
            refine x_iln jS dX8_set_95 rfl hl 0 rfl ?_
            exact x_iretW jS jr jk jq dX8_set_96 ⟨sh, sc, kd⟩ hP hD hS (show (iI (-1)) = (iI (if w = 0 then (if 0 ≤ v ∧ v ≤ 996 then sh else -1) else if w = 1 then (if 1 ≤ v ∧ v ≤ 996 then sc else -1) else if w = 2 then (if 0 ≤ v ∧ v ≤ 2 then kd 0 else -1) else if w = 3 then (if 0 ≤ v ∧ v ≤ 2 then kd 1 else -1) else -1)) ∧ (sh = (if w = 0 ∧ 0 ≤ v ∧ v ≤ 996 then v else sh) ∧ sc = (if w = 1 ∧ 1 ≤ v ∧ v ≤ 996 then v else sc) ∧ kd = (if (w = 2 ∨ w = 3) ∧ 0 ≤ v ∧ v ≤ 2 then uI kd (w - 2) v else kd)) from by first | omega | (refine ⟨?_, ?_, ?_, ?_⟩ <;> (repeat (first | rfl | omega | (rw [if_pos (by omega)]) | (rw [if_neg (by omega)]))) <;> done) | (rcases (show w = 2 ∨ w = 3 by omega) with q | q <;> (subst q; refine ⟨?_, ?_, ?_, ?_⟩ <;> simp [hc74])))
          · skip
            refine x_iln jS dX8_set_68 rfl hl 3 rfl ?_
            refine x_ic jS dX8_set_69 ?_
            refine x_ic jS dX8_set_70 ?_
            refine x_rI (x_rmS (As := [.int (iI v), .int (iI 0), .int (iI 2)]) (rest := []) jS hl.1 hK (c_X8_in jl D cI v 0 2 (by first | assumption | omega) (by first | assumption | omega) (by first | assumption | omega)) (hP.sub [] rfl) gX8_set_X8_in rfl rfl rfl kf_X8_in rfl rfl rfl rfl rfl dX8_set_71 rfl rfl) ?_
            refine x_ifeqB jS 95 dX8_set_74 (by decide) (fun hc74 => ?_) (fun hc74 => ?_)
            · skip
              refine x_iln jS dX8_set_95 rfl hl 0 rfl ?_
              exact x_iretW jS jr jk jq dX8_set_96 ⟨sh, sc, kd⟩ hP hD hS (show (iI (-1)) = (iI (if w = 0 then (if 0 ≤ v ∧ v ≤ 996 then sh else -1) else if w = 1 then (if 1 ≤ v ∧ v ≤ 996 then sc else -1) else if w = 2 then (if 0 ≤ v ∧ v ≤ 2 then kd 0 else -1) else if w = 3 then (if 0 ≤ v ∧ v ≤ 2 then kd 1 else -1) else -1)) ∧ (sh = (if w = 0 ∧ 0 ≤ v ∧ v ≤ 996 then v else sh) ∧ sc = (if w = 1 ∧ 1 ≤ v ∧ v ≤ 996 then v else sc) ∧ kd = (if (w = 2 ∨ w = 3) ∧ 0 ≤ v ∧ v ≤ 2 then uI kd (w - 2) v else kd)) from by first | omega | (refine ⟨?_, ?_, ?_, ?_⟩ <;> (repeat (first | rfl | omega | (rw [if_pos (by omega)]) | (rw [if_neg (by omega)]))) <;> done) | (rcases (show w = 2 ∨ w = 3 by omega) with q | q <;> (subst q; refine ⟨?_, ?_, ?_, ?_⟩ <;> simp [hc74])))
            · skip
              refine x_aln jS dX8_set_77 rfl hl 1 rfl ?_
              refine x_get jS hK hP h_X8_set_X8 0 rfl rfl 3 rfl m_X8_set_3 rfl dX8_set_78 ?_
              refine x_iln jS dX8_set_81 rfl hl 2 rfl ?_
              refine x_ic jS dX8_set_82 ?_
              refine x_isub jS dX8_set_83 ?_
              refine x_iald jS hK hP 1 rfl (by omega) dX8_set_84 ?_
              refine x_isn (lv' := [(3, .int (iI (kd (w - 2)))), (0, .ref mo), (1, .int (iI w)), (2, .int (iI v))]) jS dX8_set_85 rfl hl rfl rfl (fun ls hl => ?_)
              refine x_aln jS dX8_set_86 rfl hl 1 rfl ?_
              refine x_get jS hK hP h_X8_set_X8 0 rfl rfl 3 rfl m_X8_set_3 rfl dX8_set_87 ?_
              refine x_iln jS dX8_set_90 rfl hl 2 rfl ?_
              refine x_ic jS dX8_set_91 ?_
              refine x_isub jS dX8_set_92 ?_
              refine x_iln jS dX8_set_93 rfl hl 3 rfl ?_
              refine x_iast (ws' := [(mo, .inr (8, [.int (iI P), .int (iI sh), .int (iI sc), .ref xk, .ref xt, .ref xc, .ref xx, .ref xy, .ref xz, .int (iI cnt), .ref xr, .int (iI ak), .long tr, .ref xl, .int (iI L), .ref xC, .ref xF, .ref xK, .ref xn, .ref xb, .ref xw, .ref xa, .int (iI K), .ref yx, .ref yy, .ref yz, .ref yn, .ref yc, .ref yl])), (xk, .inl (cI, 2, .inl (aI (uI kd (w - 2) v))))]) jS hK hP hD hS 1 rfl (by omega) dX8_set_94 rfl (fun jH jL hP hD hS => ?_)
              refine x_iln jS dX8_set_95 rfl hl 0 rfl ?_
              exact x_iretW jS jr jk jq dX8_set_96 ⟨sh, sc, (uI kd (w - 2) v)⟩ hP hD hS (show (iI (kd (w - 2))) = (iI (if w = 0 then (if 0 ≤ v ∧ v ≤ 996 then sh else -1) else if w = 1 then (if 1 ≤ v ∧ v ≤ 996 then sc else -1) else if w = 2 then (if 0 ≤ v ∧ v ≤ 2 then kd 0 else -1) else if w = 3 then (if 0 ≤ v ∧ v ≤ 2 then kd 1 else -1) else -1)) ∧ (sh = (if w = 0 ∧ 0 ≤ v ∧ v ≤ 996 then v else sh) ∧ sc = (if w = 1 ∧ 1 ≤ v ∧ v ≤ 996 then v else sc) ∧ (uI kd (w - 2) v) = (if (w = 2 ∨ w = 3) ∧ 0 ≤ v ∧ v ≤ 2 then uI kd (w - 2) v else kd)) from by first | omega | (refine ⟨?_, ?_, ?_, ?_⟩ <;> (repeat (first | rfl | omega | (rw [if_pos (by omega)]) | (rw [if_neg (by omega)]))) <;> done) | (rcases (show w = 2 ∨ w = 3 by omega) with q | q <;> (subst q; refine ⟨?_, ?_, ?_, ?_⟩ <;> simp [hc74])))
        · skip
          refine x_aln jS dX8_set_46 rfl hl 1 rfl ?_
          refine x_get jS hK hP h_X8_set_X8 0 rfl rfl 2 rfl m_X8_set_2 rfl dX8_set_47 ?_
          refine x_isn (lv' := [(3, .int (iI sc)), (0, .ref mo), (1, .int (iI w)), (2, .int (iI v))]) jS dX8_set_50 rfl hl rfl rfl (fun ls hl => ?_)
          refine x_aln jS dX8_set_51 rfl hl 1 rfl ?_
          refine x_iln jS dX8_set_52 rfl hl 3 rfl ?_
          refine x_put (ty0 := tyX8) (ws' := [(mo, .inr (8, [.int (iI P), .int (iI sh), .int (iI v), .ref xk, .ref xt, .ref xc, .ref xx, .ref xy, .ref xz, .int (iI cnt), .ref xr, .int (iI ak), .long tr, .ref xl, .int (iI L), .ref xC, .ref xF, .ref xK, .ref xn, .ref xb, .ref xw, .ref xa, .int (iI K), .ref yx, .ref yy, .ref yz, .ref yn, .ref yc, .ref yl])), (xk, .inl (cI, 2, .inl (aI kd)))]) jS hK hP hD hS h_X8_set_X8 tyX8_ok nmX8 0 rfl rfl 2 rfl m_X8_set_2 rfl rfl rfl rfl dX8_set_53 rfl (fun jH jL hP hD hS => ?_)
          refine x_goto jS 95 dX8_set_56 (by decide) ?_
          refine x_iln jS dX8_set_95 rfl hl 0 rfl ?_
          exact x_iretW jS jr jk jq dX8_set_96 ⟨sh, v, kd⟩ hP hD hS (show (iI sc) = (iI (if w = 0 then (if 0 ≤ v ∧ v ≤ 996 then sh else -1) else if w = 1 then (if 1 ≤ v ∧ v ≤ 996 then sc else -1) else if w = 2 then (if 0 ≤ v ∧ v ≤ 2 then kd 0 else -1) else if w = 3 then (if 0 ≤ v ∧ v ≤ 2 then kd 1 else -1) else -1)) ∧ (sh = (if w = 0 ∧ 0 ≤ v ∧ v ≤ 996 then v else sh) ∧ v = (if w = 1 ∧ 1 ≤ v ∧ v ≤ 996 then v else sc) ∧ kd = (if (w = 2 ∨ w = 3) ∧ 0 ≤ v ∧ v ≤ 2 then uI kd (w - 2) v else kd)) from by first | omega | (refine ⟨?_, ?_, ?_, ?_⟩ <;> (repeat (first | rfl | omega | (rw [if_pos (by omega)]) | (rw [if_neg (by omega)]))) <;> done) | (rcases (show w = 2 ∨ w = 3 by omega) with q | q <;> (subst q; refine ⟨?_, ?_, ?_, ?_⟩ <;> simp [hc74])))
    · skip
      refine x_aln jS dX8_set_17 rfl hl 1 rfl ?_
      refine x_get jS hK hP h_X8_set_X8 0 rfl rfl 1 rfl m_X8_set_1 rfl dX8_set_18 ?_
      refine x_isn (lv' := [(3, .int (iI sh)), (0, .ref mo), (1, .int (iI w)), (2, .int (iI v))]) jS dX8_set_21 rfl hl rfl rfl (fun ls hl => ?_)
      refine x_aln jS dX8_set_22 rfl hl 1 rfl ?_
      refine x_iln jS dX8_set_23 rfl hl 3 rfl ?_
      refine x_put (ty0 := tyX8) (ws' := [(mo, .inr (8, [.int (iI P), .int (iI v), .int (iI sc), .ref xk, .ref xt, .ref xc, .ref xx, .ref xy, .ref xz, .int (iI cnt), .ref xr, .int (iI ak), .long tr, .ref xl, .int (iI L), .ref xC, .ref xF, .ref xK, .ref xn, .ref xb, .ref xw, .ref xa, .int (iI K), .ref yx, .ref yy, .ref yz, .ref yn, .ref yc, .ref yl])), (xk, .inl (cI, 2, .inl (aI kd)))]) jS hK hP hD hS h_X8_set_X8 tyX8_ok nmX8 0 rfl rfl 1 rfl m_X8_set_1 rfl rfl rfl rfl dX8_set_24 rfl (fun jH jL hP hD hS => ?_)
      refine x_goto jS 95 dX8_set_27 (by decide) ?_
      refine x_iln jS dX8_set_95 rfl hl 0 rfl ?_
      exact x_iretW jS jr jk jq dX8_set_96 ⟨v, sc, kd⟩ hP hD hS (show (iI sh) = (iI (if w = 0 then (if 0 ≤ v ∧ v ≤ 996 then sh else -1) else if w = 1 then (if 1 ≤ v ∧ v ≤ 996 then sc else -1) else if w = 2 then (if 0 ≤ v ∧ v ≤ 2 then kd 0 else -1) else if w = 3 then (if 0 ≤ v ∧ v ≤ 2 then kd 1 else -1) else -1)) ∧ (v = (if w = 0 ∧ 0 ≤ v ∧ v ≤ 996 then v else sh) ∧ sc = (if w = 1 ∧ 1 ≤ v ∧ v ≤ 996 then v else sc) ∧ kd = (if (w = 2 ∨ w = 3) ∧ 0 ≤ v ∧ v ≤ 2 then uI kd (w - 2) v else kd)) from by first | omega | (refine ⟨?_, ?_, ?_, ?_⟩ <;> (repeat (first | rfl | omega | (rw [if_pos (by omega)]) | (rw [if_neg (by omega)]))) <;> done) | (rcases (show w = 2 ∨ w = 3 by omega) with q | q <;> (subst q; refine ⟨?_, ?_, ?_, ?_⟩ <;> simp [hc74])))
theorem h_X8_raised_X8 : ∀ w ∈ u_ws RX8 TX8 29, w ∈ wsX8_raised := fun w h => List.mem_cons_of_mem _ (List.mem_append_right _ h)
theorem m_X8_raised_1 : Cond.fieldLink RX8 7 "SealedBoxModel" "p" "I" ∈ wsX8_raised := List.mem_of_getElem? (i := 1) rfl
abbrev rm_X8_raised : Room := { frames := 0, cells := 0, slots := 0, locals := 0 }
set_option maxHeartbeats 4000000 in
set_option maxRecDepth 100000 in
theorem c_X8_raised (jl : Launch) (D : va_G) (cI : ClassId) (mo xk xt xc xx xy xz xr xl xC xF xK xn xb xw xa yx yy yz yn yc yl : Nat) (P sh sc cnt ak L K : Int) (tr : Int64) (v ex : Int)  (hP5 : 5 ≤ P ∧ P ≤ 997) (hv : 0 ≤ v ∧ v ≤ 1000) (he : 0 ≤ ex ∧ ex ≤ 1000) : Met jl yX8_raised wsX8_raised rm_X8_raised (xPr [.ref mo, .int (iI v), .int (iI ex)] D cI [(mo, .inr (8, [.int (iI P), .int (iI sh), .int (iI sc), .ref xk, .ref xt, .ref xc, .ref xx, .ref xy, .ref xz, .int (iI cnt), .ref xr, .int (iI ak), .long tr, .ref xl, .int (iI L), .ref xC, .ref xF, .ref xK, .ref xn, .ref xb, .ref xw, .ref xa, .int (iI K), .ref yx, .ref yy, .ref yz, .ref yn, .ref yc, .ref yl]))]) (vp_Si (fun r => r = (iI (pw P v ex)))) 0 0 (fun _ => False) := by
  refine x_metR (own := RX8) (cc := cX8_raised) (maxL := 5) (ret := (some .int)) (by decide) rfl rfl rfl ?_
  intro jp je js jm ja jb jt jc jQ jS jr jk jq hK hP ls hl
  have hl : lv_has ls 5 [(0, .ref mo), (1, .int (iI v)), (2, .int (iI ex))] := hl
  refine x_ic jS dX8_raised_0 ?_
  refine x_isn (lv' := [(3, .int (iI 1)), (0, .ref mo), (1, .int (iI v)), (2, .int (iI ex))]) jS dX8_raised_1 rfl hl rfl rfl (fun ls hl => ?_)
  refine x_ic jS dX8_raised_2 ?_
  refine x_is (lv' := [(4, .int (iI 0)), (3, .int (iI 1)), (0, .ref mo), (1, .int (iI v)), (2, .int (iI ex))]) jS dX8_raised_3 hl rfl rfl (fun ls hl => ?_)
  have loop_5 : ∀ (mm : Nat) (r : Int) (i : Int), (ex - i).toNat = mm → (0 ≤ i ∧ i ≤ ex) → (r = pw P v i) → ∀ ls : Array Slot, lv_has ls 5 [(4, .int (iI i)), (3, .int (iI r)), (0, .ref mo), (1, .int (iI v)), (2, .int (iI ex))] → W jp jl je rm_X8_raised js jm ja jb jt jc js.heap [] 0 0 jQ (F0 jm 5 ls []) := by
    intro mm
    induction mm using Nat.strongRecOn with
    | ind mm ih5 =>
      intro r i hmm5 hi hr ls hl
      have hrb := pw_in (show 2 ≤ P by omega) v i
      rw [← hr] at hrb
      refine x_il jS dX8_raised_5 hl 0 rfl ?_
      refine x_iln jS dX8_raised_7 rfl hl 4 rfl ?_
      refine x_cmpge jS 26 dX8_raised_8 (by decide) (by omega) (fun hc8 => ?_) (fun hc8 => ?_)
      · skip
        refine x_iln jS dX8_raised_26 rfl hl 1 rfl ?_
        exact x_iretR jS jr jk jq dX8_raised_27 (by rw [hr, show i = ex by omega])
      · skip
        refine x_iln jS dX8_raised_11 rfl hl 1 rfl ?_
        refine x_iln jS dX8_raised_12 rfl hl 3 rfl ?_
        refine x_imulB jS dX8_raised_13 (by omega) (fun hp13 => ?_)
        refine x_aln jS dX8_raised_14 rfl hl 2 rfl ?_
        refine x_get jS hK hP h_X8_raised_X8 0 rfl rfl 0 rfl m_X8_raised_1 rfl dX8_raised_15 ?_
        refine x_irem jS dX8_raised_18 (by omega) (fun hm18 => ?_)
        refine x_isn (lv' := [(3, .int (iI ((r * v) % P))), (4, .int (iI i)), (0, .ref mo), (1, .int (iI v)), (2, .int (iI ex))]) jS dX8_raised_19 rfl hl rfl rfl (fun ls hl => ?_)
        refine x_iinc (lv' := [(4, .int (iI (i + 1))), (3, .int (iI ((r * v) % P))), (0, .ref mo), (1, .int (iI v)), (2, .int (iI ex))]) jS dX8_raised_20 hl 1 rfl rfl rfl (fun ls hl => ?_)
        refine x_goto jS 5 dX8_raised_23 (by decide) ?_
        exact ih5 _ (by omega) ((r * v) % P) (i + 1) rfl (by omega) (by rw [pw_s P v hi.1, ← hr]) ls (lv_sub hl [0, 1, 2, 3, 4] rfl)
  exact loop_5 _ 1 0 rfl (by omega) (pw_0 P v |>.symm) ls (lv_sub hl [0, 1, 2, 3, 4] rfl)
theorem h_X8_formOf_X8 : ∀ w ∈ u_ws RX8 TX8 29, w ∈ wsX8_formOf := fun w h => List.mem_cons_of_mem _ (List.mem_append_right _ h)
theorem m_X8_formOf_1 : Cond.fieldLink RX8 13 "SealedBoxModel" "shift" "I" ∈ wsX8_formOf := List.mem_of_getElem? (i := 1) rfl
theorem m_X8_formOf_2 : Cond.fieldLink RX8 7 "SealedBoxModel" "p" "I" ∈ wsX8_formOf := List.mem_of_getElem? (i := 2) rfl
theorem kf_X8_raised : kfV yX8_raised RX8 2 := by decide +kernel
theorem m_X8_formOf_3 : Cond.fieldLink RX8 16 "SealedBoxModel" "scale" "I" ∈ wsX8_formOf := List.mem_of_getElem? (i := 3) rfl
abbrev rm_X8_formOf : Room := { frames := 1, cells := 0, slots := 0, locals := 24 }
set_option maxHeartbeats 4000000 in
set_option maxRecDepth 100000 in
theorem c_X8_formOf (jl : Launch) (D : va_G) (cI : ClassId) (mo xk xt xc xx xy xz xr xl xC xF xK xn xb xw xa yx yy yz yn yc yl : Nat) (P sh sc cnt ak L K : Int) (tr : Int64) (k v ex : Int)  (hP5 : 5 ≤ P ∧ P ≤ 997) (hs : 0 ≤ sh ∧ sh ≤ 996 ∧ 1 ≤ sc ∧ sc ≤ 996) (hk : 0 ≤ k ∧ k ≤ 2) (hv : 0 ≤ v ∧ v ≤ 1000) (he : 0 ≤ ex ∧ ex ≤ 1000) : Met jl yX8_formOf wsX8_formOf rm_X8_formOf (xPr [.ref mo, .int (iI k), .int (iI v), .int (iI ex)] D cI [(mo, .inr (8, [.int (iI P), .int (iI sh), .int (iI sc), .ref xk, .ref xt, .ref xc, .ref xx, .ref xy, .ref xz, .int (iI cnt), .ref xr, .int (iI ak), .long tr, .ref xl, .int (iI L), .ref xC, .ref xF, .ref xK, .ref xn, .ref xb, .ref xw, .ref xa, .int (iI K), .ref yx, .ref yy, .ref yz, .ref yn, .ref yc, .ref yl]))]) (vp_Si (fun r => r = (iI (ltr P sh sc k v ex)))) 0 0 (fun _ => False) := by
  refine x_metR (own := RX8) (cc := cX8_formOf) (maxL := 5) (ret := (some .int)) (by decide) rfl rfl rfl ?_
  intro jp je js jm ja jb jt jc jQ jS jr jk jq hK hP ls hl
  have hl : lv_has ls 5 [(0, .ref mo), (1, .int (iI k)), (2, .int (iI v)), (3, .int (iI ex))] := hl
  refine x_aln jS dX8_formOf_0 rfl hl 0 rfl ?_
  refine x_iln jS dX8_formOf_1 rfl hl 1 rfl ?_
  refine x_ifne jS 9 dX8_formOf_2 (by decide) (by omega) (fun hc2 => ?_) (fun hc2 => ?_)
  · skip
    refine x_iln jS dX8_formOf_9 rfl hl 2 rfl ?_
    refine x_aln jS dX8_formOf_10 rfl hl 0 rfl ?_
    refine x_get jS hK hP h_X8_formOf_X8 0 rfl rfl 1 rfl m_X8_formOf_1 rfl dX8_formOf_11 ?_
    refine x_iadd jS dX8_formOf_14 ?_
    refine x_aln jS dX8_formOf_15 rfl hl 0 rfl ?_
    refine x_get jS hK hP h_X8_formOf_X8 0 rfl rfl 0 rfl m_X8_formOf_2 rfl dX8_formOf_16 ?_
    refine x_irem jS dX8_formOf_19 (by omega) (fun hm19 => ?_)
    refine x_iln jS dX8_formOf_20 rfl hl 3 rfl ?_
    refine x_rI (x_rmV (As := [.int (iI ((v + sh) % P)), .int (iI ex)]) (rest := []) jS hl.1 hK (c_X8_raised jl D cI mo xk xt xc xx xy xz xr xl xC xF xK xn xb xw xa yx yy yz yn yc yl P sh sc cnt ak L K tr ((v + sh) % P) ex (by first | assumption | omega) (by first | assumption | omega) (by first | assumption | omega)) (hP.sub [0] rfl) 0 rfl rfl gX8_formOf_X8_raised rfl rfl rfl kf_X8_raised rfl rfl rfl rfl rfl dX8_formOf_21 rfl rfl) ?_
    refine x_is (lv' := [(4, .int (iI (pw P ((v + sh) % P) ex))), (0, .ref mo), (1, .int (iI k)), (2, .int (iI v)), (3, .int (iI ex))]) jS dX8_formOf_24 hl rfl rfl (fun ls hl => ?_)
    refine x_iln jS dX8_formOf_26 rfl hl 2 rfl ?_
    refine x_ic jS dX8_formOf_27 ?_
    refine x_cmpne jS 51 dX8_formOf_28 (by decide) (by omega) (fun hc28 => ?_) (fun hc28 => ?_)
    · skip
      refine x_il jS dX8_formOf_51 hl 0 rfl ?_
      exact x_iretR jS jr jk jq dX8_formOf_53 (congrArg iI (ltr_1 (by omega)).symm)
    · skip
      have hpb := pw_in (show 2 ≤ P by omega) ((v + sh) % P) ex
      have hpc := pw_in (show 2 ≤ P by omega) v ex
      refine x_aln jS dX8_formOf_31 rfl hl 1 rfl ?_
      refine x_get jS hK hP h_X8_formOf_X8 0 rfl rfl 2 rfl m_X8_formOf_3 rfl dX8_formOf_32 ?_
      refine x_aln jS dX8_formOf_35 rfl hl 1 rfl ?_
      refine x_get jS hK hP h_X8_formOf_X8 0 rfl rfl 0 rfl m_X8_formOf_2 rfl dX8_formOf_36 ?_
      refine x_irem jS dX8_formOf_39 (by omega) (fun hm39 => ?_)
      refine x_il jS dX8_formOf_40 hl 0 rfl ?_
      refine x_imulB jS dX8_formOf_42 (by omega) (fun hp42 => ?_)
      refine x_aln jS dX8_formOf_43 rfl hl 1 rfl ?_
      refine x_get jS hK hP h_X8_formOf_X8 0 rfl rfl 0 rfl m_X8_formOf_2 rfl dX8_formOf_44 ?_
      refine x_irem jS dX8_formOf_47 (by omega) (fun hm47 => ?_)
      refine x_goto jS 53 dX8_formOf_48 (by decide) ?_
      exact x_iretR jS jr jk jq dX8_formOf_53 (congrArg iI (by rw [ltr_2 hc28]; exact cg_mul (cg_m _ _) rfl))
  · skip
    refine x_iln jS dX8_formOf_5 rfl hl 2 rfl ?_
    refine x_goto jS 20 dX8_formOf_6 (by decide) ?_
    refine x_iln jS dX8_formOf_20 rfl hl 3 rfl ?_
    refine x_rI (x_rmV (As := [.int (iI v), .int (iI ex)]) (rest := []) jS hl.1 hK (c_X8_raised jl D cI mo xk xt xc xx xy xz xr xl xC xF xK xn xb xw xa yx yy yz yn yc yl P sh sc cnt ak L K tr v ex (by first | assumption | omega) (by first | assumption | omega) (by first | assumption | omega)) (hP.sub [0] rfl) 0 rfl rfl gX8_formOf_X8_raised rfl rfl rfl kf_X8_raised rfl rfl rfl rfl rfl dX8_formOf_21 rfl rfl) ?_
    refine x_is (lv' := [(4, .int (iI (pw P v ex))), (0, .ref mo), (1, .int (iI k)), (2, .int (iI v)), (3, .int (iI ex))]) jS dX8_formOf_24 hl rfl rfl (fun ls hl => ?_)
    refine x_iln jS dX8_formOf_26 rfl hl 2 rfl ?_
    refine x_ic jS dX8_formOf_27 ?_
    refine x_cmpne jS 51 dX8_formOf_28 (by decide) (by omega) (fun hc28 => ?_) (fun hc28 => ?_)
    · skip
      refine x_il jS dX8_formOf_51 hl 0 rfl ?_
      exact x_iretR jS jr jk jq dX8_formOf_53 (congrArg iI (ltr_0 (by omega) (by omega)).symm)
    · skip
      have hpb := pw_in (show 2 ≤ P by omega) ((v + sh) % P) ex
      have hpc := pw_in (show 2 ≤ P by omega) v ex
      refine x_aln jS dX8_formOf_31 rfl hl 1 rfl ?_
      refine x_get jS hK hP h_X8_formOf_X8 0 rfl rfl 2 rfl m_X8_formOf_3 rfl dX8_formOf_32 ?_
      refine x_aln jS dX8_formOf_35 rfl hl 1 rfl ?_
      refine x_get jS hK hP h_X8_formOf_X8 0 rfl rfl 0 rfl m_X8_formOf_2 rfl dX8_formOf_36 ?_
      refine x_irem jS dX8_formOf_39 (by omega) (fun hm39 => ?_)
      refine x_il jS dX8_formOf_40 hl 0 rfl ?_
      refine x_imulB jS dX8_formOf_42 (by omega) (fun hp42 => ?_)
      refine x_aln jS dX8_formOf_43 rfl hl 1 rfl ?_
      refine x_get jS hK hP h_X8_formOf_X8 0 rfl rfl 0 rfl m_X8_formOf_2 rfl dX8_formOf_44 ?_
      refine x_irem jS dX8_formOf_47 (by omega) (fun hm47 => ?_)
      refine x_goto jS 53 dX8_formOf_48 (by decide) ?_
      exact x_iretR jS jr jk jq dX8_formOf_53 (absurd hc2 (by omega))
theorem kf_X8_isNumber : kfV yX8_isNumber RX8 1 := by decide +kernel
theorem h_X8_form_X8 : ∀ w ∈ u_ws RX8 TX8 29, w ∈ wsX8_form := fun w h => List.mem_cons_of_mem _ (List.mem_append_right _ h)
theorem m_X8_form_1 : Cond.fieldLink RX8 98 "SealedBoxModel" "trace" "J" ∈ wsX8_form := List.mem_of_getElem? (i := 1) rfl
theorem m_X8_form_3 : Cond.constantLong RX8 104 111 ∈ wsX8_form := List.mem_of_getElem? (i := 3) rfl
theorem kf_X8_formOf : kfV yX8_formOf RX8 3 := by decide +kernel
theorem m_X8_form_2 : Cond.constantLong RX8 102 11 ∈ wsX8_form := List.mem_of_getElem? (i := 2) rfl
abbrev rm_X8_form : Room := { frames := 2, cells := 0, slots := 0, locals := 48 }
set_option maxHeartbeats 4000000 in
set_option maxRecDepth 100000 in
theorem c_X8_form (jl : Launch) (D : va_G) (cI : ClassId) (mo xk xt xc xx xy xz xr xl xC xF xK xn xb xw xa yx yy yz yn yc yl : Nat) (P sh sc cnt ak L K : Int) (tr : Int64) (kd v ex : Int) (sz : Nat) (hP5 : 5 ≤ P ∧ P ≤ 997) (hs : 0 ≤ sh ∧ sh ≤ 996 ∧ 1 ≤ sc ∧ sc ≤ 996) (g_kd : -2147483648 ≤ kd ∧ kd < 2147483648) (g_v : -2147483648 ≤ v ∧ v < 2147483648) (g_ex : -2147483648 ≤ ex ∧ ex < 2147483648) : Met jl yX8_form wsX8_form rm_X8_form (xPw [.ref mo, .int (iI kd), .int (iI v), .int (iI ex)] D cI [(mo, .inr (8, [.int (iI P), .int (iI sh), .int (iI sc), .ref xk, .ref xt, .ref xc, .ref xx, .ref xy, .ref xz, .int (iI cnt), .ref xr, .int (iI ak), .long tr, .ref xl, .int (iI L), .ref xC, .ref xF, .ref xK, .ref xn, .ref xb, .ref xw, .ref xa, .int (iI K), .ref yx, .ref yy, .ref yz, .ref yn, .ref yc, .ref yl]))] sz) (va_Qi (fun (r : Int32) (u : Int64) => r = (iI (if (0 ≤ kd ∧ kd ≤ 2) ∧ (0 ≤ v ∧ v < P) ∧ (0 ≤ ex ∧ ex ≤ 4) then ltr P sh sc kd v ex else -1)) ∧ (u = (if (0 ≤ kd ∧ kd ≤ 2) ∧ (0 ≤ v ∧ v < P) ∧ (0 ≤ ex ∧ ex ≤ 4) then tr + (iI (if kd = 2 then 111 else if kd = 1 then 11 else 1)).toInt64 else tr))) (xB D (fun (u : Int64) => [(mo, .inr (8, [.int (iI P), .int (iI sh), .int (iI sc), .ref xk, .ref xt, .ref xc, .ref xx, .ref xy, .ref xz, .int (iI cnt), .ref xr, .int (iI ak), .long u, .ref xl, .int (iI L), .ref xC, .ref xF, .ref xK, .ref xn, .ref xb, .ref xw, .ref xa, .int (iI K), .ref yx, .ref yy, .ref yz, .ref yn, .ref yc, .ref yl]))]) (va_A [(mo, .inr (8, [.int (iI P), .int (iI sh), .int (iI sc), .ref xk, .ref xt, .ref xc, .ref xx, .ref xy, .ref xz, .int (iI cnt), .ref xr, .int (iI ak), .long tr, .ref xl, .int (iI L), .ref xC, .ref xF, .ref xK, .ref xn, .ref xb, .ref xw, .ref xa, .int (iI K), .ref yx, .ref yy, .ref yz, .ref yn, .ref yc, .ref yl]))] sz)) (va_A [(mo, .inr (8, [.int (iI P), .int (iI sh), .int (iI sc), .ref xk, .ref xt, .ref xc, .ref xx, .ref xy, .ref xz, .int (iI cnt), .ref xr, .int (iI ak), .long tr, .ref xl, .int (iI L), .ref xC, .ref xF, .ref xK, .ref xn, .ref xb, .ref xw, .ref xa, .int (iI K), .ref yx, .ref yy, .ref yz, .ref yn, .ref yc, .ref yl]))] sz)) 0 0 (va_A [(mo, .inr (8, [.int (iI P), .int (iI sh), .int (iI sc), .ref xk, .ref xt, .ref xc, .ref xx, .ref xy, .ref xz, .int (iI cnt), .ref xr, .int (iI ak), .long tr, .ref xl, .int (iI L), .ref xC, .ref xF, .ref xK, .ref xn, .ref xb, .ref xw, .ref xa, .int (iI K), .ref yx, .ref yy, .ref yz, .ref yn, .ref yc, .ref yl]))] sz) := by
  refine x_metW (own := RX8) (cc := cX8_form) (maxL := 4) (ret := (some .int)) (Qc := fun jA => va_Qi (fun (r : Int32) (u : Int64) => r = (iI (if (0 ≤ kd ∧ kd ≤ 2) ∧ (0 ≤ v ∧ v < P) ∧ (0 ≤ ex ∧ ex ≤ 4) then ltr P sh sc kd v ex else -1)) ∧ (u = (if (0 ≤ kd ∧ kd ≤ 2) ∧ (0 ≤ v ∧ v < P) ∧ (0 ≤ ex ∧ ex ≤ 4) then tr + (iI (if kd = 2 then 111 else if kd = 1 then 11 else 1)).toInt64 else tr))) (xB D (fun (u : Int64) => [(mo, .inr (8, [.int (iI P), .int (iI sh), .int (iI sc), .ref xk, .ref xt, .ref xc, .ref xx, .ref xy, .ref xz, .int (iI cnt), .ref xr, .int (iI ak), .long u, .ref xl, .int (iI L), .ref xC, .ref xF, .ref xK, .ref xn, .ref xb, .ref xw, .ref xa, .int (iI K), .ref yx, .ref yy, .ref yz, .ref yn, .ref yc, .ref yl]))]) jA) jA) (by decide) rfl rfl rfl ?_
  intro jp je js jm ja jb jt jc jA jQ jS jr jk jn jq hK hP hD hA hS ls hl
  have hl : lv_has ls 4 [(0, .ref mo), (1, .int (iI kd)), (2, .int (iI v)), (3, .int (iI ex))] := hl
  refine x_iln jS dX8_form_0 rfl hl 1 rfl ?_
  refine x_ic jS dX8_form_1 ?_
  refine x_ic jS dX8_form_2 ?_
  refine x_rI (x_rmS (As := [.int (iI kd), .int (iI 0), .int (iI 2)]) (rest := []) jS hl.1 hK (c_X8_in jl D cI kd 0 2 (by first | assumption | omega) (by first | assumption | omega) (by first | assumption | omega)) (hP.sub [] rfl) gX8_form_X8_in rfl rfl rfl kf_X8_in rfl rfl rfl rfl rfl dX8_form_3 rfl rfl) ?_
  refine x_ifeqB jS 26 dX8_form_6 (by decide) (fun hc6 => ?_) (fun hc6 => ?_)
  · skip
    refine x_ic jS dX8_form_26 ?_
    exact x_iretW jS jr jk jq dX8_form_27 tr hP hD hS (show (iI (-1)) = (iI (if (0 ≤ kd ∧ kd ≤ 2) ∧ (0 ≤ v ∧ v < P) ∧ (0 ≤ ex ∧ ex ≤ 4) then ltr P sh sc kd v ex else -1)) ∧ (tr = (if (0 ≤ kd ∧ kd ≤ 2) ∧ (0 ≤ v ∧ v < P) ∧ (0 ≤ ex ∧ ex ≤ 4) then tr + (iI (if kd = 2 then 111 else if kd = 1 then 11 else 1)).toInt64 else tr)) from ⟨by rw [if_neg (by omega)], by rw [if_neg (by omega)]⟩)
  · skip
    refine x_aln jS dX8_form_9 rfl hl 0 rfl ?_
    refine x_iln jS dX8_form_10 rfl hl 2 rfl ?_
    refine x_rI (x_rmV (As := [.int (iI v)]) (rest := []) jS hl.1 hK (c_X8_isNumber jl D cI mo xk xt xc xx xy xz xr xl xC xF xK xn xb xw xa yx yy yz yn yc yl P sh sc cnt ak L K tr v (by first | assumption | omega) (by first | assumption | omega)) (hP.sub [0] rfl) 0 rfl rfl gX8_form_X8_isNumber rfl rfl rfl kf_X8_isNumber rfl rfl rfl rfl rfl dX8_form_11 rfl rfl) ?_
    refine x_ifeqB jS 26 dX8_form_14 (by decide) (fun hc14 => ?_) (fun hc14 => ?_)
    · skip
      refine x_ic jS dX8_form_26 ?_
      exact x_iretW jS jr jk jq dX8_form_27 tr hP hD hS (show (iI (-1)) = (iI (if (0 ≤ kd ∧ kd ≤ 2) ∧ (0 ≤ v ∧ v < P) ∧ (0 ≤ ex ∧ ex ≤ 4) then ltr P sh sc kd v ex else -1)) ∧ (tr = (if (0 ≤ kd ∧ kd ≤ 2) ∧ (0 ≤ v ∧ v < P) ∧ (0 ≤ ex ∧ ex ≤ 4) then tr + (iI (if kd = 2 then 111 else if kd = 1 then 11 else 1)).toInt64 else tr)) from ⟨by rw [if_neg (by omega)], by rw [if_neg (by omega)]⟩)
    · skip
      refine x_iln jS dX8_form_17 rfl hl 3 rfl ?_
      refine x_ic jS dX8_form_18 ?_
      refine x_ic jS dX8_form_19 ?_
      refine x_rI (x_rmS (As := [.int (iI ex), .int (iI 0), .int (iI 4)]) (rest := []) jS hl.1 hK (c_X8_in jl D cI ex 0 4 (by first | assumption | omega) (by first | assumption | omega) (by first | assumption | omega)) (hP.sub [] rfl) gX8_form_X8_in rfl rfl rfl kf_X8_in rfl rfl rfl rfl rfl dX8_form_20 rfl rfl) ?_
      refine x_ifneB jS 28 dX8_form_23 (by decide) (fun hc23 => ?_) (fun hc23 => ?_)
      · skip
        refine x_aln jS dX8_form_28 rfl hl 0 rfl ?_
        refine x_dup jS dX8_form_29 rfl ?_
        refine x_get jS hK hP h_X8_form_X8 0 rfl rfl 12 rfl m_X8_form_1 rfl dX8_form_30 ?_
        refine x_iln jS dX8_form_33 rfl hl 1 rfl ?_
        refine x_ifne jS 41 dX8_form_34 (by decide) (by omega) (fun hc34 => ?_) (fun hc34 => ?_)
        · skip
          refine x_iln jS dX8_form_41 rfl hl 1 rfl ?_
          refine x_ic jS dX8_form_42 ?_
          refine x_cmpne jS 52 dX8_form_43 (by decide) (by omega) (fun hc43 => ?_) (fun hc43 => ?_)
          · skip
            refine x_ldc2 jS m_X8_form_3 dX8_form_52 ?_
            refine x_ladd jS dX8_form_55 ?_
            refine x_put (ty0 := tyX8) (ws' := [(mo, .inr (8, [.int (iI P), .int (iI sh), .int (iI sc), .ref xk, .ref xt, .ref xc, .ref xx, .ref xy, .ref xz, .int (iI cnt), .ref xr, .int (iI ak), .long (tr + 111), .ref xl, .int (iI L), .ref xC, .ref xF, .ref xK, .ref xn, .ref xb, .ref xw, .ref xa, .int (iI K), .ref yx, .ref yy, .ref yz, .ref yn, .ref yc, .ref yl]))]) jS hK hP hD hS h_X8_form_X8 tyX8_ok nmX8 0 rfl rfl 12 rfl m_X8_form_1 rfl rfl rfl rfl dX8_form_56 rfl (fun jH jL hP hD hS => ?_)
            refine x_aln jS dX8_form_59 rfl hl 0 rfl ?_
            refine x_iln jS dX8_form_60 rfl hl 1 rfl ?_
            refine x_iln jS dX8_form_61 rfl hl 2 rfl ?_
            refine x_iln jS dX8_form_62 rfl hl 3 rfl ?_
            refine x_rI (x_rmV (As := [.int (iI kd), .int (iI v), .int (iI ex)]) (rest := []) jS hl.1 hK (c_X8_formOf jl D cI mo xk xt xc xx xy xz xr xl xC xF xK xn xb xw xa yx yy yz yn yc yl P sh sc cnt ak L K (tr + 111) kd v ex (by first | assumption | omega) (by first | assumption | omega) (by first | assumption | omega) (by first | assumption | omega) (by first | assumption | omega)) (hP.sub [0] rfl) 0 rfl rfl gX8_form_X8_formOf rfl rfl rfl kf_X8_formOf rfl rfl rfl rfl rfl dX8_form_63 rfl rfl) ?_
            exact x_iretW jS jr jk jq dX8_form_66 (tr + 111) hP hD hS (show (iI (ltr P sh sc kd v ex)) = (iI (if (0 ≤ kd ∧ kd ≤ 2) ∧ (0 ≤ v ∧ v < P) ∧ (0 ≤ ex ∧ ex ≤ 4) then ltr P sh sc kd v ex else -1)) ∧ ((tr + 111) = (if (0 ≤ kd ∧ kd ≤ 2) ∧ (0 ≤ v ∧ v < P) ∧ (0 ≤ ex ∧ ex ≤ 4) then tr + (iI (if kd = 2 then 111 else if kd = 1 then 11 else 1)).toInt64 else tr)) from ⟨by rw [if_pos ⟨hc6, hc14, hc23⟩], ((if_pos ⟨hc6, hc14, hc23⟩).trans (by rw [if_pos (show kd = 2 by omega)]; rfl)).symm⟩)
          · skip
            refine x_ldc2 jS m_X8_form_2 dX8_form_46 ?_
            refine x_goto jS 55 dX8_form_49 (by decide) ?_
            refine x_ladd jS dX8_form_55 ?_
            refine x_put (ty0 := tyX8) (ws' := [(mo, .inr (8, [.int (iI P), .int (iI sh), .int (iI sc), .ref xk, .ref xt, .ref xc, .ref xx, .ref xy, .ref xz, .int (iI cnt), .ref xr, .int (iI ak), .long (tr + 11), .ref xl, .int (iI L), .ref xC, .ref xF, .ref xK, .ref xn, .ref xb, .ref xw, .ref xa, .int (iI K), .ref yx, .ref yy, .ref yz, .ref yn, .ref yc, .ref yl]))]) jS hK hP hD hS h_X8_form_X8 tyX8_ok nmX8 0 rfl rfl 12 rfl m_X8_form_1 rfl rfl rfl rfl dX8_form_56 rfl (fun jH jL hP hD hS => ?_)
            refine x_aln jS dX8_form_59 rfl hl 0 rfl ?_
            refine x_iln jS dX8_form_60 rfl hl 1 rfl ?_
            refine x_iln jS dX8_form_61 rfl hl 2 rfl ?_
            refine x_iln jS dX8_form_62 rfl hl 3 rfl ?_
            refine x_rI (x_rmV (As := [.int (iI kd), .int (iI v), .int (iI ex)]) (rest := []) jS hl.1 hK (c_X8_formOf jl D cI mo xk xt xc xx xy xz xr xl xC xF xK xn xb xw xa yx yy yz yn yc yl P sh sc cnt ak L K (tr + 11) kd v ex (by first | assumption | omega) (by first | assumption | omega) (by first | assumption | omega) (by first | assumption | omega) (by first | assumption | omega)) (hP.sub [0] rfl) 0 rfl rfl gX8_form_X8_formOf rfl rfl rfl kf_X8_formOf rfl rfl rfl rfl rfl dX8_form_63 rfl rfl) ?_
            exact x_iretW jS jr jk jq dX8_form_66 (tr + 11) hP hD hS (show (iI (ltr P sh sc kd v ex)) = (iI (if (0 ≤ kd ∧ kd ≤ 2) ∧ (0 ≤ v ∧ v < P) ∧ (0 ≤ ex ∧ ex ≤ 4) then ltr P sh sc kd v ex else -1)) ∧ ((tr + 11) = (if (0 ≤ kd ∧ kd ≤ 2) ∧ (0 ≤ v ∧ v < P) ∧ (0 ≤ ex ∧ ex ≤ 4) then tr + (iI (if kd = 2 then 111 else if kd = 1 then 11 else 1)).toInt64 else tr)) from ⟨by rw [if_pos ⟨hc6, hc14, hc23⟩], ((if_pos ⟨hc6, hc14, hc23⟩).trans (by rw [if_neg (show ¬ kd = 2 by omega), if_pos (show kd = 1 by omega)]; rfl)).symm⟩)
        · skip
          refine x_lc (v := 1) jS dX8_form_37 (by decide) ?_
          refine x_goto jS 55 dX8_form_38 (by decide) ?_
          refine x_ladd jS dX8_form_55 ?_
          refine x_put (ty0 := tyX8) (ws' := [(mo, .inr (8, [.int (iI P), .int (iI sh), .int (iI sc), .ref xk, .ref xt, .ref xc, .ref xx, .ref xy, .ref xz, .int (iI cnt), .ref xr, .int (iI ak), .long (tr + 1), .ref xl, .int (iI L), .ref xC, .ref xF, .ref xK, .ref xn, .ref xb, .ref xw, .ref xa, .int (iI K), .ref yx, .ref yy, .ref yz, .ref yn, .ref yc, .ref yl]))]) jS hK hP hD hS h_X8_form_X8 tyX8_ok nmX8 0 rfl rfl 12 rfl m_X8_form_1 rfl rfl rfl rfl dX8_form_56 rfl (fun jH jL hP hD hS => ?_)
          refine x_aln jS dX8_form_59 rfl hl 0 rfl ?_
          refine x_iln jS dX8_form_60 rfl hl 1 rfl ?_
          refine x_iln jS dX8_form_61 rfl hl 2 rfl ?_
          refine x_iln jS dX8_form_62 rfl hl 3 rfl ?_
          refine x_rI (x_rmV (As := [.int (iI kd), .int (iI v), .int (iI ex)]) (rest := []) jS hl.1 hK (c_X8_formOf jl D cI mo xk xt xc xx xy xz xr xl xC xF xK xn xb xw xa yx yy yz yn yc yl P sh sc cnt ak L K (tr + 1) kd v ex (by first | assumption | omega) (by first | assumption | omega) (by first | assumption | omega) (by first | assumption | omega) (by first | assumption | omega)) (hP.sub [0] rfl) 0 rfl rfl gX8_form_X8_formOf rfl rfl rfl kf_X8_formOf rfl rfl rfl rfl rfl dX8_form_63 rfl rfl) ?_
          exact x_iretW jS jr jk jq dX8_form_66 (tr + 1) hP hD hS (show (iI (ltr P sh sc kd v ex)) = (iI (if (0 ≤ kd ∧ kd ≤ 2) ∧ (0 ≤ v ∧ v < P) ∧ (0 ≤ ex ∧ ex ≤ 4) then ltr P sh sc kd v ex else -1)) ∧ ((tr + 1) = (if (0 ≤ kd ∧ kd ≤ 2) ∧ (0 ≤ v ∧ v < P) ∧ (0 ≤ ex ∧ ex ≤ 4) then tr + (iI (if kd = 2 then 111 else if kd = 1 then 11 else 1)).toInt64 else tr)) from ⟨by rw [if_pos ⟨hc6, hc14, hc23⟩], ((if_pos ⟨hc6, hc14, hc23⟩).trans (by rw [if_neg (show ¬ kd = 2 by omega), if_neg (show ¬ kd = 1 by omega)]; rfl)).symm⟩)
      · skip
        refine x_ic jS dX8_form_26 ?_
        exact x_iretW jS jr jk jq dX8_form_27 tr hP hD hS (show (iI (-1)) = (iI (if (0 ≤ kd ∧ kd ≤ 2) ∧ (0 ≤ v ∧ v < P) ∧ (0 ≤ ex ∧ ex ≤ 4) then ltr P sh sc kd v ex else -1)) ∧ (tr = (if (0 ≤ kd ∧ kd ≤ 2) ∧ (0 ≤ v ∧ v < P) ∧ (0 ≤ ex ∧ ex ≤ 4) then tr + (iI (if kd = 2 then 111 else if kd = 1 then 11 else 1)).toInt64 else tr)) from ⟨by rw [if_neg (by omega)], by rw [if_neg (by omega)]⟩)
theorem h_X8_over_X8 : ∀ w ∈ u_ws RX8 TX8 29, w ∈ wsX8_over := fun w h => List.mem_cons_of_mem _ (List.mem_append_right _ h)
theorem m_X8_over_1 : Cond.fieldLink RX8 7 "SealedBoxModel" "p" "I" ∈ wsX8_over := List.mem_of_getElem? (i := 1) rfl
abbrev rm_X8_over : Room := { frames := 0, cells := 0, slots := 0, locals := 0 }
set_option maxHeartbeats 4000000 in
set_option maxRecDepth 100000 in
theorem c_X8_over (jl : Launch) (D : va_G) (cI : ClassId) (mo xk xt xc xx xy xz xr xl xC xF xK xn xb xw xa yx yy yz yn yc yl : Nat) (P sh sc cnt ak L K : Int) (tr : Int64) (v : Int)  (hP5 : 5 ≤ P ∧ P ≤ 997) (hv : 0 < v ∧ v < P) : Met jl yX8_over wsX8_over rm_X8_over (xPr [.ref mo, .int (iI v)] D cI [(mo, .inr (8, [.int (iI P), .int (iI sh), .int (iI sc), .ref xk, .ref xt, .ref xc, .ref xx, .ref xy, .ref xz, .int (iI cnt), .ref xr, .int (iI ak), .long tr, .ref xl, .int (iI L), .ref xC, .ref xF, .ref xK, .ref xn, .ref xb, .ref xw, .ref xa, .int (iI K), .ref yx, .ref yy, .ref yz, .ref yn, .ref yc, .ref yl]))]) (vp_Si (fun r => r = (iI (ivF P v)))) 0 0 (fun _ => False) := by
  refine x_metR (own := RX8) (cc := cX8_over) (maxL := 5) (ret := (some .int)) (by decide) rfl rfl rfl ?_
  intro jp je js jm ja jb jt jc jQ jS jr jk jq hK hP ls hl
  have hl : lv_has ls 5 [(0, .ref mo), (1, .int (iI v))] := hl
  refine x_ic jS dX8_over_0 ?_
  refine x_isn (lv' := [(2, .int (iI 1)), (0, .ref mo), (1, .int (iI v))]) jS dX8_over_1 rfl hl rfl rfl (fun ls hl => ?_)
  refine x_iln jS dX8_over_2 rfl hl 2 rfl ?_
  refine x_isn (lv' := [(3, .int (iI v)), (2, .int (iI 1)), (0, .ref mo), (1, .int (iI v))]) jS dX8_over_3 rfl hl rfl rfl (fun ls hl => ?_)
  refine x_aln jS dX8_over_4 rfl hl 2 rfl ?_
  refine x_get jS hK hP h_X8_over_X8 0 rfl rfl 0 rfl m_X8_over_1 rfl dX8_over_5 ?_
  refine x_ic jS dX8_over_8 ?_
  refine x_isub jS dX8_over_9 ?_
  refine x_is (lv' := [(4, .int (iI (P - 2))), (3, .int (iI v)), (2, .int (iI 1)), (0, .ref mo), (1, .int (iI v))]) jS dX8_over_10 hl rfl rfl (fun ls hl => ?_)
  have loop_12 : ∀ (mm : Nat) (r : Int) (b : Int) (ex : Int), (ex).toNat = mm → (0 ≤ ex ∧ ex ≤ P - 2) → (0 ≤ r ∧ r < P) → (0 ≤ b ∧ b < P) → (r * b ^ ex.toNat % P = ivF P v) → ∀ ls : Array Slot, lv_has ls 5 [(4, .int (iI ex)), (3, .int (iI b)), (2, .int (iI r)), (0, .ref mo), (1, .int (iI v))] → W jp jl je rm_X8_over js jm ja jb jt jc js.heap [] 0 0 jQ (F0 jm 12 ls []) := by
    intro mm
    induction mm using Nat.strongRecOn with
    | ind mm ih12 =>
      intro r b ex hmm12 he hr hb hp ls hl
      refine x_il jS dX8_over_12 hl 0 rfl ?_
      refine x_ifle jS 56 dX8_over_14 (by decide) (by omega) (fun hc14 => ?_) (fun hc14 => ?_)
      · skip
        refine x_iln jS dX8_over_56 rfl hl 2 rfl ?_
        exact x_iretR jS jr jk jq dX8_over_57 (by rw [← hp, show ex = 0 by omega, show (0 : Int).toNat = 0 from rfl, Int.pow_zero, Int.mul_one, Int.emod_eq_of_lt hr.1 hr.2])
      · skip
        refine x_il jS dX8_over_17 hl 0 rfl ?_
        refine x_ic jS dX8_over_19 ?_
        refine x_iand1 jS dX8_over_20 (by omega) ?_
        refine x_ic jS dX8_over_21 ?_
        refine x_cmpne jS 36 dX8_over_22 (by decide) (by omega) (fun hc22 => ?_) (fun hc22 => ?_)
        · skip
          refine x_iln jS dX8_over_36 rfl hl 2 rfl ?_
          refine x_isn (lv' := [(2, .int (iI r)), (4, .int (iI ex)), (3, .int (iI b)), (0, .ref mo), (1, .int (iI v))]) jS dX8_over_37 rfl hl rfl rfl (fun ls hl => ?_)
          refine x_iln jS dX8_over_38 rfl hl 2 rfl ?_
          refine x_iln jS dX8_over_39 rfl hl 2 rfl ?_
          refine x_imulB jS dX8_over_40 (by omega) (fun hp40 => ?_)
          refine x_aln jS dX8_over_41 rfl hl 3 rfl ?_
          refine x_get jS hK hP h_X8_over_X8 0 rfl rfl 0 rfl m_X8_over_1 rfl dX8_over_42 ?_
          refine x_irem jS dX8_over_45 (by omega) (fun hm45 => ?_)
          refine x_isn (lv' := [(3, .int (iI ((b * b) % P))), (2, .int (iI r)), (4, .int (iI ex)), (0, .ref mo), (1, .int (iI v))]) jS dX8_over_46 rfl hl rfl rfl (fun ls hl => ?_)
          refine x_il jS dX8_over_47 hl 2 rfl ?_
          refine x_ic jS dX8_over_49 ?_
          refine x_ishr jS dX8_over_50 (by omega) ?_
          refine x_is (lv' := [(4, .int (iI (ex / 2 ^ (Int.toNat 1)))), (3, .int (iI ((b * b) % P))), (2, .int (iI r)), (0, .ref mo), (1, .int (iI v))]) jS dX8_over_51 hl rfl rfl (fun ls hl => ?_)
          refine x_goto jS 12 dX8_over_53 (by decide) ?_
          have e21 : (2 : Int) ^ (Int.toNat 1) = 2 := rfl
          exact ih12 _ (by rw [e21]; omega) r ((b * b) % P) (ex / 2 ^ (Int.toNat 1)) rfl (by rw [e21]; omega) (by omega) (by omega) (by have q := half_pow he.1 hp; rw [e21]; first | (rw [if_pos hc22] at q; exact q) | (rw [if_neg hc22] at q; exact q)) ls (lv_sub hl [0, 1, 2, 3, 4] rfl)
        · skip
          refine x_iln jS dX8_over_25 rfl hl 2 rfl ?_
          refine x_iln jS dX8_over_26 rfl hl 1 rfl ?_
          refine x_imulB jS dX8_over_27 (by omega) (fun hp27 => ?_)
          refine x_aln jS dX8_over_28 rfl hl 3 rfl ?_
          refine x_get jS hK hP h_X8_over_X8 0 rfl rfl 0 rfl m_X8_over_1 rfl dX8_over_29 ?_
          refine x_irem jS dX8_over_32 (by omega) (fun hm32 => ?_)
          refine x_goto jS 37 dX8_over_33 (by decide) ?_
          refine x_isn (lv' := [(2, .int (iI ((r * b) % P))), (4, .int (iI ex)), (3, .int (iI b)), (0, .ref mo), (1, .int (iI v))]) jS dX8_over_37 rfl hl rfl rfl (fun ls hl => ?_)
          refine x_iln jS dX8_over_38 rfl hl 2 rfl ?_
          refine x_iln jS dX8_over_39 rfl hl 2 rfl ?_
          refine x_imulB jS dX8_over_40 (by omega) (fun hp40 => ?_)
          refine x_aln jS dX8_over_41 rfl hl 3 rfl ?_
          refine x_get jS hK hP h_X8_over_X8 0 rfl rfl 0 rfl m_X8_over_1 rfl dX8_over_42 ?_
          refine x_irem jS dX8_over_45 (by omega) (fun hm45 => ?_)
          refine x_isn (lv' := [(3, .int (iI ((b * b) % P))), (2, .int (iI ((r * b) % P))), (4, .int (iI ex)), (0, .ref mo), (1, .int (iI v))]) jS dX8_over_46 rfl hl rfl rfl (fun ls hl => ?_)
          refine x_il jS dX8_over_47 hl 2 rfl ?_
          refine x_ic jS dX8_over_49 ?_
          refine x_ishr jS dX8_over_50 (by omega) ?_
          refine x_is (lv' := [(4, .int (iI (ex / 2 ^ (Int.toNat 1)))), (3, .int (iI ((b * b) % P))), (2, .int (iI ((r * b) % P))), (0, .ref mo), (1, .int (iI v))]) jS dX8_over_51 hl rfl rfl (fun ls hl => ?_)
          refine x_goto jS 12 dX8_over_53 (by decide) ?_
          have e21 : (2 : Int) ^ (Int.toNat 1) = 2 := rfl
          exact ih12 _ (by rw [e21]; omega) ((r * b) % P) ((b * b) % P) (ex / 2 ^ (Int.toNat 1)) rfl (by rw [e21]; omega) (by omega) (by omega) (by have q := half_pow he.1 hp; rw [e21]; first | (rw [if_pos hc22] at q; exact q) | (rw [if_neg hc22] at q; exact q)) ls (lv_sub hl [0, 1, 2, 3, 4] rfl)
  exact loop_12 _ 1 v (P - 2) rfl (by omega) (by omega) (by omega) (by rw [Int.one_mul]; rfl) ls (lv_sub hl [0, 1, 2, 3, 4] rfl)
theorem h_X8_g_X8 : ∀ w ∈ u_ws RX8 TX8 29, w ∈ wsX8_g := fun w h => List.mem_cons_of_mem _ (List.mem_append_right _ h)
theorem m_X8_g_1 : Cond.fieldLink RX8 7 "SealedBoxModel" "p" "I" ∈ wsX8_g := List.mem_of_getElem? (i := 1) rfl
theorem m_X8_g_2 : Cond.fieldLink RX8 44 "SealedBoxModel" "c" "[I" ∈ wsX8_g := List.mem_of_getElem? (i := 2) rfl
abbrev rm_X8_g : Room := { frames := 0, cells := 0, slots := 0, locals := 0 }
set_option maxHeartbeats 4000000 in
set_option maxRecDepth 100000 in
theorem c_X8_g (jl : Launch) (D : va_G) (cI : ClassId) (mo xk xt xc xx xy xz xr xl xC xF xK xn xb xw xa yx yy yz yn yc yl : Nat) (P sh sc cnt ak L K : Int) (tr : Int64) (i : Int) (cr : Int → Int)  (hP5 : 5 ≤ P ∧ P ≤ 997) (hi : 0 ≤ i ∧ i < 40) (hcr : 0 ≤ cr i ∧ cr i ≤ P) : Met jl yX8_g wsX8_g rm_X8_g (xPr [.ref mo, .int (iI i)] D cI [(mo, .inr (8, [.int (iI P), .int (iI sh), .int (iI sc), .ref xk, .ref xt, .ref xc, .ref xx, .ref xy, .ref xz, .int (iI cnt), .ref xr, .int (iI ak), .long tr, .ref xl, .int (iI L), .ref xC, .ref xF, .ref xK, .ref xn, .ref xb, .ref xw, .ref xa, .int (iI K), .ref yx, .ref yy, .ref yz, .ref yn, .ref yc, .ref yl])), (xC, .inl (cI, 40, .inl (aI cr)))]) (vp_Si (fun r => r = (iI (gw P cr i)))) 0 0 (fun _ => False) := by
  refine x_metR (own := RX8) (cc := cX8_g) (maxL := 2) (ret := (some .int)) (by decide) rfl rfl rfl ?_
  intro jp je js jm ja jb jt jc jQ jS jr jk jq hK hP ls hl
  have hl : lv_has ls 2 [(0, .ref mo), (1, .int (iI i))] := hl
  refine x_aln jS dX8_g_0 rfl hl 0 rfl ?_
  refine x_get jS hK hP h_X8_g_X8 0 rfl rfl 0 rfl m_X8_g_1 rfl dX8_g_1 ?_
  refine x_aln jS dX8_g_4 rfl hl 0 rfl ?_
  refine x_get jS hK hP h_X8_g_X8 0 rfl rfl 15 rfl m_X8_g_2 rfl dX8_g_5 ?_
  refine x_iln jS dX8_g_8 rfl hl 1 rfl ?_
  refine x_iald jS hK hP 1 rfl (by omega) dX8_g_9 ?_
  refine x_isub jS dX8_g_10 ?_
  refine x_aln jS dX8_g_11 rfl hl 0 rfl ?_
  refine x_get jS hK hP h_X8_g_X8 0 rfl rfl 0 rfl m_X8_g_1 rfl dX8_g_12 ?_
  refine x_irem jS dX8_g_15 (by omega) (fun hm15 => ?_)
  exact x_iretR jS jr jk jq dX8_g_16 (by unfold gw; rw [Int.zero_add])
theorem h_X8_take_X8 : ∀ w ∈ u_ws RX8 TX8 29, w ∈ wsX8_take := fun w h => List.mem_cons_of_mem _ (List.mem_append_right _ h)
theorem m_X8_take_1 : Cond.fieldLink RX8 83 "SealedBoxModel" "said" "I" ∈ wsX8_take := List.mem_of_getElem? (i := 1) rfl
theorem m_X8_take_2 : Cond.fieldLink RX8 41 "SealedBoxModel" "look" "[I" ∈ wsX8_take := List.mem_of_getElem? (i := 2) rfl
theorem m_X8_take_3 : Cond.fieldLink RX8 38 "SealedBoxModel" "row" "[I" ∈ wsX8_take := List.mem_of_getElem? (i := 3) rfl
abbrev rm_X8_take : Room := { frames := 0, cells := 0, slots := 0, locals := 0 }
set_option maxHeartbeats 4000000 in
set_option maxRecDepth 100000 in
theorem c_X8_take (jl : Launch) (D : va_G) (cI : ClassId) (mo xk xt xc xx xy xz xr xl xC xF xK xn xb xw xa yx yy yz yn yc yl : Nat) (P sh sc cnt ak L K : Int) (tr : Int64) (lk row : Int → Int) (sz : Nat) (hcnt : 0 ≤ cnt ∧ cnt ≤ 16) : Met jl yX8_take wsX8_take rm_X8_take (xPw [.ref mo] D cI [(mo, .inr (8, [.int (iI P), .int (iI sh), .int (iI sc), .ref xk, .ref xt, .ref xc, .ref xx, .ref xy, .ref xz, .int (iI cnt), .ref xr, .int (iI ak), .long tr, .ref xl, .int (iI L), .ref xC, .ref xF, .ref xK, .ref xn, .ref xb, .ref xw, .ref xa, .int (iI K), .ref yx, .ref yy, .ref yz, .ref yn, .ref yc, .ref yl])), (xl, .inl (cI, 16, .inl (aI lk))), (xr, .inl (cI, 16, .inl (aI row)))] sz) (va_Qv (fun (u : (Int → Int)) => ∀ j : Int, 0 ≤ j → j < cnt → u j = row j) (xB D (fun (u : (Int → Int)) => [(mo, .inr (8, [.int (iI P), .int (iI sh), .int (iI sc), .ref xk, .ref xt, .ref xc, .ref xx, .ref xy, .ref xz, .int (iI cnt), .ref xr, .int (iI ak), .long tr, .ref xl, .int (iI L), .ref xC, .ref xF, .ref xK, .ref xn, .ref xb, .ref xw, .ref xa, .int (iI K), .ref yx, .ref yy, .ref yz, .ref yn, .ref yc, .ref yl])), (xl, .inl (cI, 16, .inl (aI u))), (xr, .inl (cI, 16, .inl (aI row)))]) (va_A [(mo, .inr (8, [.int (iI P), .int (iI sh), .int (iI sc), .ref xk, .ref xt, .ref xc, .ref xx, .ref xy, .ref xz, .int (iI cnt), .ref xr, .int (iI ak), .long tr, .ref xl, .int (iI L), .ref xC, .ref xF, .ref xK, .ref xn, .ref xb, .ref xw, .ref xa, .int (iI K), .ref yx, .ref yy, .ref yz, .ref yn, .ref yc, .ref yl])), (xl, .inl (cI, 16, .inl (aI lk))), (xr, .inl (cI, 16, .inl (aI row)))] sz)) (va_A [(mo, .inr (8, [.int (iI P), .int (iI sh), .int (iI sc), .ref xk, .ref xt, .ref xc, .ref xx, .ref xy, .ref xz, .int (iI cnt), .ref xr, .int (iI ak), .long tr, .ref xl, .int (iI L), .ref xC, .ref xF, .ref xK, .ref xn, .ref xb, .ref xw, .ref xa, .int (iI K), .ref yx, .ref yy, .ref yz, .ref yn, .ref yc, .ref yl])), (xl, .inl (cI, 16, .inl (aI lk))), (xr, .inl (cI, 16, .inl (aI row)))] sz)) 0 0 (va_A [(mo, .inr (8, [.int (iI P), .int (iI sh), .int (iI sc), .ref xk, .ref xt, .ref xc, .ref xx, .ref xy, .ref xz, .int (iI cnt), .ref xr, .int (iI ak), .long tr, .ref xl, .int (iI L), .ref xC, .ref xF, .ref xK, .ref xn, .ref xb, .ref xw, .ref xa, .int (iI K), .ref yx, .ref yy, .ref yz, .ref yn, .ref yc, .ref yl])), (xl, .inl (cI, 16, .inl (aI lk))), (xr, .inl (cI, 16, .inl (aI row)))] sz) := by
  refine x_metW (own := RX8) (cc := cX8_take) (maxL := 2) (ret := none) (Qc := fun jA => va_Qv (fun (u : (Int → Int)) => ∀ j : Int, 0 ≤ j → j < cnt → u j = row j) (xB D (fun (u : (Int → Int)) => [(mo, .inr (8, [.int (iI P), .int (iI sh), .int (iI sc), .ref xk, .ref xt, .ref xc, .ref xx, .ref xy, .ref xz, .int (iI cnt), .ref xr, .int (iI ak), .long tr, .ref xl, .int (iI L), .ref xC, .ref xF, .ref xK, .ref xn, .ref xb, .ref xw, .ref xa, .int (iI K), .ref yx, .ref yy, .ref yz, .ref yn, .ref yc, .ref yl])), (xl, .inl (cI, 16, .inl (aI u))), (xr, .inl (cI, 16, .inl (aI row)))]) jA) jA) (by decide) rfl rfl rfl ?_
  intro jp je js jm ja jb jt jc jA jQ jS jr jk jn jq hK hP hD hA hS ls hl
  have hl : lv_has ls 2 [(0, .ref mo)] := hl
  refine x_ic jS dX8_take_0 ?_
  refine x_isn (lv' := [(1, .int (iI 0)), (0, .ref mo)]) jS dX8_take_1 rfl hl rfl rfl (fun ls hl => ?_)
  have loop_2 : ∀ (mm : Nat) (i : Int) (lk1 : Int → Int) (jH : Heap) (jL : List Loc), (cnt - i).toNat = mm → (0 ≤ i ∧ i ≤ cnt) → (∀ j : Int, 0 ≤ j → j < i → lk1 j = row j) → va_P D vwCl [(mo, .inr (8, [.int (iI P), .int (iI sh), .int (iI sc), .ref xk, .ref xt, .ref xc, .ref xx, .ref xy, .ref xz, .int (iI cnt), .ref xr, .int (iI ak), .long tr, .ref xl, .int (iI L), .ref xC, .ref xF, .ref xK, .ref xn, .ref xb, .ref xw, .ref xa, .int (iI K), .ref yx, .ref yy, .ref yz, .ref yn, .ref yc, .ref yl])), (xl, .inl (cI, 16, .inl (aI lk1))), (xr, .inl (cI, 16, .inl (aI row)))] jH → va_D jA [(mo, .inr (8, [.int (iI P), .int (iI sh), .int (iI sc), .ref xk, .ref xt, .ref xc, .ref xx, .ref xy, .ref xz, .int (iI cnt), .ref xr, .int (iI ak), .long tr, .ref xl, .int (iI L), .ref xC, .ref xF, .ref xK, .ref xn, .ref xb, .ref xw, .ref xa, .int (iI K), .ref yx, .ref yy, .ref yz, .ref yn, .ref yc, .ref yl])), (xl, .inl (cI, 16, .inl (aI lk1))), (xr, .inl (cI, 16, .inl (aI row)))] → va_S jA js.heap jH jL → ∀ ls : Array Slot, lv_has ls 2 [(1, .int (iI i)), (0, .ref mo)] → W jp jl je rm_X8_take js jm ja jb jt jc jH jL 0 0 jQ (F0 jm 2 ls []) := by
    intro mm
    induction mm using Nat.strongRecOn with
    | ind mm ih2 =>
      intro i lk1 jH jL hmm2 hi h1 hP hD hS ls hl
      refine x_iln jS dX8_take_2 rfl hl 0 rfl ?_
      refine x_aln jS dX8_take_3 rfl hl 1 rfl ?_
      refine x_get jS hK hP h_X8_take_X8 0 rfl rfl 9 rfl m_X8_take_1 rfl dX8_take_4 ?_
      refine x_cmpge jS 28 dX8_take_7 (by decide) (by omega) (fun hc7 => ?_) (fun hc7 => ?_)
      · skip
        exact x_vretW jS jr jk jq dX8_take_28 lk1 hP hD hS (show ∀ j : Int, 0 ≤ j → j < cnt → lk1 j = row j from fun j x y => h1 j x (by omega))
      · skip
        refine x_aln jS dX8_take_10 rfl hl 1 rfl ?_
        refine x_get jS hK hP h_X8_take_X8 0 rfl rfl 13 rfl m_X8_take_2 rfl dX8_take_11 ?_
        refine x_iln jS dX8_take_14 rfl hl 0 rfl ?_
        refine x_aln jS dX8_take_15 rfl hl 1 rfl ?_
        refine x_get jS hK hP h_X8_take_X8 0 rfl rfl 10 rfl m_X8_take_3 rfl dX8_take_16 ?_
        refine x_iln jS dX8_take_19 rfl hl 0 rfl ?_
        refine x_iald jS hK hP 2 rfl (by omega) dX8_take_20 ?_
        refine x_iast (ws' := [(mo, .inr (8, [.int (iI P), .int (iI sh), .int (iI sc), .ref xk, .ref xt, .ref xc, .ref xx, .ref xy, .ref xz, .int (iI cnt), .ref xr, .int (iI ak), .long tr, .ref xl, .int (iI L), .ref xC, .ref xF, .ref xK, .ref xn, .ref xb, .ref xw, .ref xa, .int (iI K), .ref yx, .ref yy, .ref yz, .ref yn, .ref yc, .ref yl])), (xl, .inl (cI, 16, .inl (aI (uI lk1 i (row i))))), (xr, .inl (cI, 16, .inl (aI row)))]) jS hK hP hD hS 1 rfl (by omega) dX8_take_21 rfl (fun jH jL hP hD hS => ?_)
        refine x_iinc (lv' := [(1, .int (iI (i + 1))), (0, .ref mo)]) jS dX8_take_22 hl 0 rfl rfl rfl (fun ls hl => ?_)
        refine x_goto jS 2 dX8_take_25 (by decide) ?_
        exact ih2 _ (by omega) (i + 1) (uI lk1 i (row i)) _ _ rfl (by omega) (fun j x y => by rcases Int.lt_or_le j i with q | q; rw [uI_n (by omega)]; exact h1 j x q; rw [show j = i by omega, uI_s]) hP hD hS ls (lv_sub hl [0, 1] rfl)
  exact loop_2 _ 0 lk _ _ rfl (by omega) (fun j x y => by omega) hP hD hS ls (lv_sub hl [0, 1] rfl)
theorem h_X8_answer_X8 : ∀ w ∈ u_ws RX8 TX8 29, w ∈ wsX8_answer := fun w h => List.mem_cons_of_mem _ (List.mem_append_right _ h)
theorem m_X8_answer_1 : Cond.fieldLink RX8 23 "SealedBoxModel" "terms" "[I" ∈ wsX8_answer := List.mem_of_getElem? (i := 1) rfl
theorem m_X8_answer_2 : Cond.fieldLink RX8 26 "SealedBoxModel" "coefficient" "[I" ∈ wsX8_answer := List.mem_of_getElem? (i := 2) rfl
theorem m_X8_answer_3 : Cond.fieldLink RX8 19 "SealedBoxModel" "kind" "[I" ∈ wsX8_answer := List.mem_of_getElem? (i := 3) rfl
theorem m_X8_answer_4 : Cond.fieldLink RX8 29 "SealedBoxModel" "ofX" "[I" ∈ wsX8_answer := List.mem_of_getElem? (i := 4) rfl
theorem m_X8_answer_5 : Cond.fieldLink RX8 7 "SealedBoxModel" "p" "I" ∈ wsX8_answer := List.mem_of_getElem? (i := 5) rfl
theorem m_X8_answer_6 : Cond.fieldLink RX8 32 "SealedBoxModel" "ofY" "[I" ∈ wsX8_answer := List.mem_of_getElem? (i := 6) rfl
theorem m_X8_answer_7 : Cond.fieldLink RX8 35 "SealedBoxModel" "ofZ" "[I" ∈ wsX8_answer := List.mem_of_getElem? (i := 7) rfl
abbrev rm_X8_answer : Room := { frames := 2, cells := 0, slots := 0, locals := 48 }
set_option maxHeartbeats 4000000 in
set_option maxRecDepth 100000 in
theorem c_X8_answer (jl : Launch) (D : va_G) (cI : ClassId) (mo xk xt xc xx xy xz xr xl xC xF xK xn xb xw xa yx yy yz yn yc yl : Nat) (P sh sc cnt ak L K : Int) (tr : Int64) (kd tm co ex ey ez : Int → Int) (b x y z : Int)  (hP5 : 5 ≤ P ∧ P ≤ 997) (hs : 0 ≤ sh ∧ sh ≤ 996 ∧ 1 ≤ sc ∧ sc ≤ 996) (hb : b = 0 ∨ b = 1) (hkd : 0 ≤ kd b ∧ kd b ≤ 2) (htm : 0 ≤ tm b ∧ tm b ≤ 4) (hmb : mbOK P (tm b) (mB co b) (mB ex b) (mB ey b) (mB ez b)) (hx : 0 ≤ x ∧ x ≤ 1000) (hy : 0 ≤ y ∧ y ≤ 1000) (hz : 0 ≤ z ∧ z ≤ 1000) : Met jl yX8_answer wsX8_answer rm_X8_answer (xPr [.ref mo, .int (iI b), .int (iI x), .int (iI y), .int (iI z)] D cI [(mo, .inr (8, [.int (iI P), .int (iI sh), .int (iI sc), .ref xk, .ref xt, .ref xc, .ref xx, .ref xy, .ref xz, .int (iI cnt), .ref xr, .int (iI ak), .long tr, .ref xl, .int (iI L), .ref xC, .ref xF, .ref xK, .ref xn, .ref xb, .ref xw, .ref xa, .int (iI K), .ref yx, .ref yy, .ref yz, .ref yn, .ref yc, .ref yl])), (xk, .inl (cI, 2, .inl (aI kd))), (xt, .inl (cI, 2, .inl (aI tm))), (xc, .inl (cI, 8, .inl (aI co))), (xx, .inl (cI, 8, .inl (aI ex))), (xy, .inl (cI, 8, .inl (aI ey))), (xz, .inl (cI, 8, .inl (aI ez)))]) (vp_Si (fun r => r = (iI (ans P sh sc (kd b) (tm b) (mB co b) (mB ex b) (mB ey b) (mB ez b) x y z)))) 0 0 (fun _ => False) := by
  refine x_metR (own := RX8) (cc := cX8_answer) (maxL := 8) (ret := (some .int)) (by decide) rfl rfl rfl ?_
  intro jp je js jm ja jb jt jc jQ jS jr jk jq hK hP ls hl
  have hl : lv_has ls 8 [(0, .ref mo), (1, .int (iI b)), (2, .int (iI x)), (3, .int (iI y)), (4, .int (iI z))] := hl
  refine x_ic jS dX8_answer_0 ?_
  refine x_is (lv' := [(5, .int (iI 0)), (0, .ref mo), (1, .int (iI b)), (2, .int (iI x)), (3, .int (iI y)), (4, .int (iI z))]) jS dX8_answer_1 hl rfl rfl (fun ls hl => ?_)
  refine x_ic jS dX8_answer_3 ?_
  refine x_iln jS dX8_answer_4 rfl hl 2 rfl ?_
  refine x_imul jS dX8_answer_5 ?_
  refine x_is (lv' := [(6, .int (iI (4 * b))), (5, .int (iI 0)), (0, .ref mo), (1, .int (iI b)), (2, .int (iI x)), (3, .int (iI y)), (4, .int (iI z))]) jS dX8_answer_6 hl rfl rfl (fun ls hl => ?_)
  have loop_8 : ∀ (mm : Nat) (r : Int) (q : Int), (4 * b + tm b - q).toNat = mm → (4 * b ≤ q ∧ q ≤ 4 * b + tm b) → (r = sm (tmg P sh sc (kd b) (mB co b) (mB ex b) (mB ey b) (mB ez b) x y z) (q - 4 * b) % P) → (0 ≤ r ∧ r < P) → ∀ ls : Array Slot, lv_has ls 8 [(6, .int (iI q)), (5, .int (iI r)), (0, .ref mo), (1, .int (iI b)), (2, .int (iI x)), (3, .int (iI y)), (4, .int (iI z))] → W jp jl je rm_X8_answer js jm ja jb jt jc js.heap [] 0 0 jQ (F0 jm 8 ls []) := by
    intro mm
    induction mm using Nat.strongRecOn with
    | ind mm ih8 =>
      intro r q hmm8 hq hr hrb ls hl
      refine x_il jS dX8_answer_8 hl 0 rfl ?_
      refine x_ic jS dX8_answer_10 ?_
      refine x_iln jS dX8_answer_11 rfl hl 3 rfl ?_
      refine x_imul jS dX8_answer_12 ?_
      refine x_aln jS dX8_answer_13 rfl hl 2 rfl ?_
      refine x_get jS hK hP h_X8_answer_X8 0 rfl rfl 4 rfl m_X8_answer_1 rfl dX8_answer_14 ?_
      refine x_iln jS dX8_answer_17 rfl hl 3 rfl ?_
      refine x_iald jS hK hP 2 rfl (by omega) dX8_answer_18 ?_
      refine x_iadd jS dX8_answer_19 ?_
      refine x_cmpge jS 122 dX8_answer_20 (by decide) (by omega) (fun hc20 => ?_) (fun hc20 => ?_)
      · skip
        refine x_il jS dX8_answer_122 hl 1 rfl ?_
        exact x_iretR jS jr jk jq dX8_answer_124 (by rw [hr, show q - 4 * b = tm b by omega]; rfl)
      · skip
        have hbt := hmb (q - 4 * b) (by omega) (by omega)
        rw [mB_at, mB_at, mB_at, mB_at] at hbt
        refine x_aln jS dX8_answer_23 rfl hl 2 rfl ?_
        refine x_get jS hK hP h_X8_answer_X8 0 rfl rfl 5 rfl m_X8_answer_2 rfl dX8_answer_24 ?_
        refine x_il jS dX8_answer_27 hl 0 rfl ?_
        refine x_iald jS hK hP 3 rfl (by omega) dX8_answer_29 ?_
        refine x_aln jS dX8_answer_30 rfl hl 2 rfl ?_
        refine x_aln jS dX8_answer_31 rfl hl 2 rfl ?_
        refine x_get jS hK hP h_X8_answer_X8 0 rfl rfl 3 rfl m_X8_answer_3 rfl dX8_answer_32 ?_
        refine x_iln jS dX8_answer_35 rfl hl 3 rfl ?_
        refine x_iald jS hK hP 1 rfl (by omega) dX8_answer_36 ?_
        refine x_iln jS dX8_answer_37 rfl hl 4 rfl ?_
        refine x_aln jS dX8_answer_38 rfl hl 2 rfl ?_
        refine x_get jS hK hP h_X8_answer_X8 0 rfl rfl 6 rfl m_X8_answer_4 rfl dX8_answer_39 ?_
        refine x_il jS dX8_answer_42 hl 0 rfl ?_
        refine x_iald jS hK hP 4 rfl (by omega) dX8_answer_44 ?_
        refine x_rI (x_rmV (As := [.int (iI (kd b)), .int (iI x), .int (iI (ex q))]) (rest := [.int (iI (co q))]) jS hl.1 hK (c_X8_formOf jl D cI mo xk xt xc xx xy xz xr xl xC xF xK xn xb xw xa yx yy yz yn yc yl P sh sc cnt ak L K tr (kd b) x (ex q) (by first | assumption | omega) (by first | assumption | omega) (by first | assumption | omega) (by first | assumption | omega) (by first | assumption | omega)) (hP.sub [0] rfl) 0 rfl rfl gX8_answer_X8_formOf rfl rfl rfl kf_X8_formOf rfl rfl rfl rfl rfl dX8_answer_45 rfl rfl) ?_
        have hq45 := ltr_in (show 2 ≤ P by omega) sh sc (kd b) x (ex q)
        refine x_imulB jS dX8_answer_48 (by omega) (fun hp48 => ?_)
        refine x_aln jS dX8_answer_49 rfl hl 2 rfl ?_
        refine x_get jS hK hP h_X8_answer_X8 0 rfl rfl 0 rfl m_X8_answer_5 rfl dX8_answer_50 ?_
        refine x_irem jS dX8_answer_53 (by omega) (fun hm53 => ?_)
        refine x_is (lv' := [(7, .int (iI (((co q) * (ltr P sh sc (kd b) x (ex q))) % P))), (6, .int (iI q)), (5, .int (iI r)), (0, .ref mo), (1, .int (iI b)), (2, .int (iI x)), (3, .int (iI y)), (4, .int (iI z))]) jS dX8_answer_54 hl rfl rfl (fun ls hl => ?_)
        refine x_il jS dX8_answer_56 hl 0 rfl ?_
        refine x_aln jS dX8_answer_58 rfl hl 3 rfl ?_
        refine x_aln jS dX8_answer_59 rfl hl 3 rfl ?_
        refine x_get jS hK hP h_X8_answer_X8 0 rfl rfl 3 rfl m_X8_answer_3 rfl dX8_answer_60 ?_
        refine x_iln jS dX8_answer_63 rfl hl 4 rfl ?_
        refine x_iald jS hK hP 1 rfl (by omega) dX8_answer_64 ?_
        refine x_iln jS dX8_answer_65 rfl hl 6 rfl ?_
        refine x_aln jS dX8_answer_66 rfl hl 3 rfl ?_
        refine x_get jS hK hP h_X8_answer_X8 0 rfl rfl 7 rfl m_X8_answer_6 rfl dX8_answer_67 ?_
        refine x_il jS dX8_answer_70 hl 1 rfl ?_
        refine x_iald jS hK hP 5 rfl (by omega) dX8_answer_72 ?_
        refine x_rI (x_rmV (As := [.int (iI (kd b)), .int (iI y), .int (iI (ey q))]) (rest := [.int (iI (((co q) * (ltr P sh sc (kd b) x (ex q))) % P))]) jS hl.1 hK (c_X8_formOf jl D cI mo xk xt xc xx xy xz xr xl xC xF xK xn xb xw xa yx yy yz yn yc yl P sh sc cnt ak L K tr (kd b) y (ey q) (by first | assumption | omega) (by first | assumption | omega) (by first | assumption | omega) (by first | assumption | omega) (by first | assumption | omega)) (hP.sub [0] rfl) 0 rfl rfl gX8_answer_X8_formOf rfl rfl rfl kf_X8_formOf rfl rfl rfl rfl rfl dX8_answer_73 rfl rfl) ?_
        have hq73 := ltr_in (show 2 ≤ P by omega) sh sc (kd b) y (ey q)
        refine x_imulB jS dX8_answer_76 (by omega) (fun hp76 => ?_)
        refine x_aln jS dX8_answer_77 rfl hl 3 rfl ?_
        refine x_get jS hK hP h_X8_answer_X8 0 rfl rfl 0 rfl m_X8_answer_5 rfl dX8_answer_78 ?_
        refine x_irem jS dX8_answer_81 (by omega) (fun hm81 => ?_)
        refine x_is (lv' := [(7, .int (iI (((((co q) * (ltr P sh sc (kd b) x (ex q))) % P) * (ltr P sh sc (kd b) y (ey q))) % P))), (6, .int (iI q)), (5, .int (iI r)), (0, .ref mo), (1, .int (iI b)), (2, .int (iI x)), (3, .int (iI y)), (4, .int (iI z))]) jS dX8_answer_82 hl rfl rfl (fun ls hl => ?_)
        refine x_il jS dX8_answer_84 hl 2 rfl ?_
        refine x_il jS dX8_answer_86 hl 0 rfl ?_
        refine x_aln jS dX8_answer_88 rfl hl 3 rfl ?_
        refine x_aln jS dX8_answer_89 rfl hl 3 rfl ?_
        refine x_get jS hK hP h_X8_answer_X8 0 rfl rfl 3 rfl m_X8_answer_3 rfl dX8_answer_90 ?_
        refine x_iln jS dX8_answer_93 rfl hl 4 rfl ?_
        refine x_iald jS hK hP 1 rfl (by omega) dX8_answer_94 ?_
        refine x_il jS dX8_answer_95 hl 7 rfl ?_
        refine x_aln jS dX8_answer_97 rfl hl 3 rfl ?_
        refine x_get jS hK hP h_X8_answer_X8 0 rfl rfl 8 rfl m_X8_answer_7 rfl dX8_answer_98 ?_
        refine x_il jS dX8_answer_101 hl 1 rfl ?_
        refine x_iald jS hK hP 6 rfl (by omega) dX8_answer_103 ?_
        refine x_rI (x_rmV (As := [.int (iI (kd b)), .int (iI z), .int (iI (ez q))]) (rest := [.int (iI (((((co q) * (ltr P sh sc (kd b) x (ex q))) % P) * (ltr P sh sc (kd b) y (ey q))) % P)), .int (iI r)]) jS hl.1 hK (c_X8_formOf jl D cI mo xk xt xc xx xy xz xr xl xC xF xK xn xb xw xa yx yy yz yn yc yl P sh sc cnt ak L K tr (kd b) z (ez q) (by first | assumption | omega) (by first | assumption | omega) (by first | assumption | omega) (by first | assumption | omega) (by first | assumption | omega)) (hP.sub [0] rfl) 0 rfl rfl gX8_answer_X8_formOf rfl rfl rfl kf_X8_formOf rfl rfl rfl rfl rfl dX8_answer_104 rfl rfl) ?_
        have hq104 := ltr_in (show 2 ≤ P by omega) sh sc (kd b) z (ez q)
        refine x_imulB jS dX8_answer_107 (by omega) (fun hp107 => ?_)
        refine x_iadd jS dX8_answer_108 ?_
        refine x_aln jS dX8_answer_109 rfl hl 3 rfl ?_
        refine x_get jS hK hP h_X8_answer_X8 0 rfl rfl 0 rfl m_X8_answer_5 rfl dX8_answer_110 ?_
        refine x_irem jS dX8_answer_113 (by omega) (fun hm113 => ?_)
        refine x_is (lv' := [(5, .int (iI ((r + ((((((co q) * (ltr P sh sc (kd b) x (ex q))) % P) * (ltr P sh sc (kd b) y (ey q))) % P) * (ltr P sh sc (kd b) z (ez q)))) % P))), (7, .int (iI (((((co q) * (ltr P sh sc (kd b) x (ex q))) % P) * (ltr P sh sc (kd b) y (ey q))) % P))), (6, .int (iI q)), (0, .ref mo), (1, .int (iI b)), (2, .int (iI x)), (3, .int (iI y)), (4, .int (iI z))]) jS dX8_answer_114 hl rfl rfl (fun ls hl => ?_)
        refine x_iinc (lv' := [(6, .int (iI (q + 1))), (5, .int (iI ((r + ((((((co q) * (ltr P sh sc (kd b) x (ex q))) % P) * (ltr P sh sc (kd b) y (ey q))) % P) * (ltr P sh sc (kd b) z (ez q)))) % P))), (7, .int (iI (((((co q) * (ltr P sh sc (kd b) x (ex q))) % P) * (ltr P sh sc (kd b) y (ey q))) % P))), (0, .ref mo), (1, .int (iI b)), (2, .int (iI x)), (3, .int (iI y)), (4, .int (iI z))]) jS dX8_answer_116 hl 2 rfl rfl rfl (fun ls hl => ?_)
        refine x_goto jS 8 dX8_answer_119 (by decide) ?_
        exact ih8 _ (by omega) ((r + ((((((co q) * (ltr P sh sc (kd b) x (ex q))) % P) * (ltr P sh sc (kd b) y (ey q))) % P) * (ltr P sh sc (kd b) z (ez q)))) % P) (q + 1) rfl (by omega) (by rw [hr, show q + 1 - 4 * b = (q - 4 * b) + 1 by omega, sm_s _ (show 0 ≤ q - 4 * b by omega)]; unfold tmg of2; rw [mB_at, mB_at, mB_at, mB_at]; exact cg_add (cg_m _ _) rfl) (by omega) ls (lv_sub hl [0, 1, 3, 4, 5, 6, 7] rfl)
  exact loop_8 _ 0 (4 * b) rfl (by omega) (by rw [show 4 * b - 4 * b = 0 by omega, sm_0]; rfl) (by omega) ls (lv_sub hl [0, 1, 2, 3, 4, 5, 6] rfl)
theorem kf_X8_isBox : kfS yX8_isBox 1 := by decide +kernel
theorem h_X8_term_X8 : ∀ w ∈ u_ws RX8 TX8 29, w ∈ wsX8_term := fun w h => List.mem_cons_of_mem _ (List.mem_append_right _ h)
theorem m_X8_term_1 : Cond.fieldLink RX8 7 "SealedBoxModel" "p" "I" ∈ wsX8_term := List.mem_of_getElem? (i := 1) rfl
theorem m_X8_term_2 : Cond.fieldLink RX8 23 "SealedBoxModel" "terms" "[I" ∈ wsX8_term := List.mem_of_getElem? (i := 2) rfl
theorem m_X8_term_3 : Cond.fieldLink RX8 26 "SealedBoxModel" "coefficient" "[I" ∈ wsX8_term := List.mem_of_getElem? (i := 3) rfl
theorem m_X8_term_4 : Cond.fieldLink RX8 29 "SealedBoxModel" "ofX" "[I" ∈ wsX8_term := List.mem_of_getElem? (i := 4) rfl
theorem m_X8_term_5 : Cond.fieldLink RX8 32 "SealedBoxModel" "ofY" "[I" ∈ wsX8_term := List.mem_of_getElem? (i := 5) rfl
theorem m_X8_term_6 : Cond.fieldLink RX8 35 "SealedBoxModel" "ofZ" "[I" ∈ wsX8_term := List.mem_of_getElem? (i := 6) rfl
abbrev rm_X8_term : Room := { frames := 2, cells := 0, slots := 0, locals := 42 }
set_option maxHeartbeats 4000000 in
set_option maxRecDepth 100000 in
theorem c_X8_term (jl : Launch) (D : va_G) (cI : ClassId) (mo xk xt xc xx xy xz xr xl xC xF xK xn xb xw xa yx yy yz yn yc yl : Nat) (P sh sc cnt ak L K : Int) (tr : Int64) (tm co ex ey ez : Int → Int) (v cf x y z : Int) (sz : Nat) (hP5 : 5 ≤ P ∧ P ≤ 997) (ht0 : 0 ≤ tm 0 ∧ tm 0 ≤ 4) (ht1 : 0 ≤ tm 1 ∧ tm 1 ≤ 4) (g_v : -2147483648 ≤ v ∧ v < 2147483648) (g_cf : -2147483648 ≤ cf ∧ cf < 2147483648) (g_x : -2147483648 ≤ x ∧ x < 2147483648) (g_y : -2147483648 ≤ y ∧ y < 2147483648) (g_z : -2147483648 ≤ z ∧ z < 2147483648) : Met jl yX8_term wsX8_term rm_X8_term (xPw [.ref mo, .int (iI v), .int (iI cf), .int (iI x), .int (iI y), .int (iI z)] D cI [(mo, .inr (8, [.int (iI P), .int (iI sh), .int (iI sc), .ref xk, .ref xt, .ref xc, .ref xx, .ref xy, .ref xz, .int (iI cnt), .ref xr, .int (iI ak), .long tr, .ref xl, .int (iI L), .ref xC, .ref xF, .ref xK, .ref xn, .ref xb, .ref xw, .ref xa, .int (iI K), .ref yx, .ref yy, .ref yz, .ref yn, .ref yc, .ref yl])), (xt, .inl (cI, 2, .inl (aI tm))), (xc, .inl (cI, 8, .inl (aI co))), (xx, .inl (cI, 8, .inl (aI ex))), (xy, .inl (cI, 8, .inl (aI ey))), (xz, .inl (cI, 8, .inl (aI ez)))] sz) (va_Qi (fun (r : Int32) (u : (Int → Int) × (Int → Int) × (Int → Int) × (Int → Int) × (Int → Int)) => r = (iI (if (v = 0 ∨ v = 1) ∧ (1 ≤ cf ∧ cf < P) ∧ (0 ≤ x ∧ x ≤ 4) ∧ (0 ≤ y ∧ y ≤ 4) ∧ (0 ≤ z ∧ z ≤ 4) then (if tm v < 4 then tm v else -3) else -1)) ∧ ((((v = 0 ∨ v = 1) ∧ (1 ≤ cf ∧ cf < P) ∧ (0 ≤ x ∧ x ≤ 4) ∧ (0 ≤ y ∧ y ≤ 4) ∧ (0 ≤ z ∧ z ≤ 4)) ∧ tm v < 4 → u.1 = uI tm v (tm v + 1) ∧ u.2.1 = uI co (4 * v + tm v) cf ∧ u.2.2.1 = uI ex (4 * v + tm v) x ∧ u.2.2.2.1 = uI ey (4 * v + tm v) y ∧ u.2.2.2.2 = uI ez (4 * v + tm v) z) ∧ (¬ (((v = 0 ∨ v = 1) ∧ (1 ≤ cf ∧ cf < P) ∧ (0 ≤ x ∧ x ≤ 4) ∧ (0 ≤ y ∧ y ≤ 4) ∧ (0 ≤ z ∧ z ≤ 4)) ∧ tm v < 4) → u.1 = tm ∧ u.2.1 = co ∧ u.2.2.1 = ex ∧ u.2.2.2.1 = ey ∧ u.2.2.2.2 = ez))) (xB D (fun (u : (Int → Int) × (Int → Int) × (Int → Int) × (Int → Int) × (Int → Int)) => [(mo, .inr (8, [.int (iI P), .int (iI sh), .int (iI sc), .ref xk, .ref xt, .ref xc, .ref xx, .ref xy, .ref xz, .int (iI cnt), .ref xr, .int (iI ak), .long tr, .ref xl, .int (iI L), .ref xC, .ref xF, .ref xK, .ref xn, .ref xb, .ref xw, .ref xa, .int (iI K), .ref yx, .ref yy, .ref yz, .ref yn, .ref yc, .ref yl])), (xt, .inl (cI, 2, .inl (aI u.1))), (xc, .inl (cI, 8, .inl (aI u.2.1))), (xx, .inl (cI, 8, .inl (aI u.2.2.1))), (xy, .inl (cI, 8, .inl (aI u.2.2.2.1))), (xz, .inl (cI, 8, .inl (aI u.2.2.2.2)))]) (va_A [(mo, .inr (8, [.int (iI P), .int (iI sh), .int (iI sc), .ref xk, .ref xt, .ref xc, .ref xx, .ref xy, .ref xz, .int (iI cnt), .ref xr, .int (iI ak), .long tr, .ref xl, .int (iI L), .ref xC, .ref xF, .ref xK, .ref xn, .ref xb, .ref xw, .ref xa, .int (iI K), .ref yx, .ref yy, .ref yz, .ref yn, .ref yc, .ref yl])), (xt, .inl (cI, 2, .inl (aI tm))), (xc, .inl (cI, 8, .inl (aI co))), (xx, .inl (cI, 8, .inl (aI ex))), (xy, .inl (cI, 8, .inl (aI ey))), (xz, .inl (cI, 8, .inl (aI ez)))] sz)) (va_A [(mo, .inr (8, [.int (iI P), .int (iI sh), .int (iI sc), .ref xk, .ref xt, .ref xc, .ref xx, .ref xy, .ref xz, .int (iI cnt), .ref xr, .int (iI ak), .long tr, .ref xl, .int (iI L), .ref xC, .ref xF, .ref xK, .ref xn, .ref xb, .ref xw, .ref xa, .int (iI K), .ref yx, .ref yy, .ref yz, .ref yn, .ref yc, .ref yl])), (xt, .inl (cI, 2, .inl (aI tm))), (xc, .inl (cI, 8, .inl (aI co))), (xx, .inl (cI, 8, .inl (aI ex))), (xy, .inl (cI, 8, .inl (aI ey))), (xz, .inl (cI, 8, .inl (aI ez)))] sz)) 0 0 (va_A [(mo, .inr (8, [.int (iI P), .int (iI sh), .int (iI sc), .ref xk, .ref xt, .ref xc, .ref xx, .ref xy, .ref xz, .int (iI cnt), .ref xr, .int (iI ak), .long tr, .ref xl, .int (iI L), .ref xC, .ref xF, .ref xK, .ref xn, .ref xb, .ref xw, .ref xa, .int (iI K), .ref yx, .ref yy, .ref yz, .ref yn, .ref yc, .ref yl])), (xt, .inl (cI, 2, .inl (aI tm))), (xc, .inl (cI, 8, .inl (aI co))), (xx, .inl (cI, 8, .inl (aI ex))), (xy, .inl (cI, 8, .inl (aI ey))), (xz, .inl (cI, 8, .inl (aI ez)))] sz) := by
  refine x_metW (own := RX8) (cc := cX8_term) (maxL := 7) (ret := (some .int)) (Qc := fun jA => va_Qi (fun (r : Int32) (u : (Int → Int) × (Int → Int) × (Int → Int) × (Int → Int) × (Int → Int)) => r = (iI (if (v = 0 ∨ v = 1) ∧ (1 ≤ cf ∧ cf < P) ∧ (0 ≤ x ∧ x ≤ 4) ∧ (0 ≤ y ∧ y ≤ 4) ∧ (0 ≤ z ∧ z ≤ 4) then (if tm v < 4 then tm v else -3) else -1)) ∧ ((((v = 0 ∨ v = 1) ∧ (1 ≤ cf ∧ cf < P) ∧ (0 ≤ x ∧ x ≤ 4) ∧ (0 ≤ y ∧ y ≤ 4) ∧ (0 ≤ z ∧ z ≤ 4)) ∧ tm v < 4 → u.1 = uI tm v (tm v + 1) ∧ u.2.1 = uI co (4 * v + tm v) cf ∧ u.2.2.1 = uI ex (4 * v + tm v) x ∧ u.2.2.2.1 = uI ey (4 * v + tm v) y ∧ u.2.2.2.2 = uI ez (4 * v + tm v) z) ∧ (¬ (((v = 0 ∨ v = 1) ∧ (1 ≤ cf ∧ cf < P) ∧ (0 ≤ x ∧ x ≤ 4) ∧ (0 ≤ y ∧ y ≤ 4) ∧ (0 ≤ z ∧ z ≤ 4)) ∧ tm v < 4) → u.1 = tm ∧ u.2.1 = co ∧ u.2.2.1 = ex ∧ u.2.2.2.1 = ey ∧ u.2.2.2.2 = ez))) (xB D (fun (u : (Int → Int) × (Int → Int) × (Int → Int) × (Int → Int) × (Int → Int)) => [(mo, .inr (8, [.int (iI P), .int (iI sh), .int (iI sc), .ref xk, .ref xt, .ref xc, .ref xx, .ref xy, .ref xz, .int (iI cnt), .ref xr, .int (iI ak), .long tr, .ref xl, .int (iI L), .ref xC, .ref xF, .ref xK, .ref xn, .ref xb, .ref xw, .ref xa, .int (iI K), .ref yx, .ref yy, .ref yz, .ref yn, .ref yc, .ref yl])), (xt, .inl (cI, 2, .inl (aI u.1))), (xc, .inl (cI, 8, .inl (aI u.2.1))), (xx, .inl (cI, 8, .inl (aI u.2.2.1))), (xy, .inl (cI, 8, .inl (aI u.2.2.2.1))), (xz, .inl (cI, 8, .inl (aI u.2.2.2.2)))]) jA) jA) (by decide) rfl rfl rfl ?_
  intro jp je js jm ja jb jt jc jA jQ jS jr jk jn jq hK hP hD hA hS ls hl
  have hl : lv_has ls 7 [(0, .ref mo), (1, .int (iI v)), (2, .int (iI cf)), (3, .int (iI x)), (4, .int (iI y)), (5, .int (iI z))] := hl
  refine x_iln jS dX8_term_0 rfl hl 1 rfl ?_
  refine x_rI (x_rmS (As := [.int (iI v)]) (rest := []) jS hl.1 hK (c_X8_isBox jl D cI v (by first | assumption | omega)) (hP.sub [] rfl) gX8_term_X8_isBox rfl rfl rfl kf_X8_isBox rfl rfl rfl rfl rfl dX8_term_1 rfl rfl) ?_
  refine x_ifeqB jS 50 dX8_term_4 (by decide) (fun hc4 => ?_) (fun hc4 => ?_)
  · skip
    refine x_ic jS dX8_term_50 ?_
    exact x_iretW jS jr jk jq dX8_term_51 ⟨tm, co, ex, ey, ez⟩ hP hD hS (show (iI (-1)) = (iI (if (v = 0 ∨ v = 1) ∧ (1 ≤ cf ∧ cf < P) ∧ (0 ≤ x ∧ x ≤ 4) ∧ (0 ≤ y ∧ y ≤ 4) ∧ (0 ≤ z ∧ z ≤ 4) then (if tm v < 4 then tm v else -3) else -1)) ∧ ((((v = 0 ∨ v = 1) ∧ (1 ≤ cf ∧ cf < P) ∧ (0 ≤ x ∧ x ≤ 4) ∧ (0 ≤ y ∧ y ≤ 4) ∧ (0 ≤ z ∧ z ≤ 4)) ∧ tm v < 4 → tm = uI tm v (tm v + 1) ∧ co = uI co (4 * v + tm v) cf ∧ ex = uI ex (4 * v + tm v) x ∧ ey = uI ey (4 * v + tm v) y ∧ ez = uI ez (4 * v + tm v) z) ∧ (¬ (((v = 0 ∨ v = 1) ∧ (1 ≤ cf ∧ cf < P) ∧ (0 ≤ x ∧ x ≤ 4) ∧ (0 ≤ y ∧ y ≤ 4) ∧ (0 ≤ z ∧ z ≤ 4)) ∧ tm v < 4) → tm = tm ∧ co = co ∧ ex = ex ∧ ey = ey ∧ ez = ez)) from ⟨by rw [if_neg (by omega)], fun g => by omega, fun _ => ⟨rfl, rfl, rfl, rfl, rfl⟩⟩)
  · skip
    refine x_iln jS dX8_term_7 rfl hl 2 rfl ?_
    refine x_ic jS dX8_term_8 ?_
    refine x_aln jS dX8_term_9 rfl hl 0 rfl ?_
    refine x_get jS hK hP h_X8_term_X8 0 rfl rfl 0 rfl m_X8_term_1 rfl dX8_term_10 ?_
    refine x_ic jS dX8_term_13 ?_
    refine x_isub jS dX8_term_14 ?_
    refine x_rI (x_rmS (As := [.int (iI cf), .int (iI 1), .int (iI (P - 1))]) (rest := []) jS hl.1 hK (c_X8_in jl D cI cf 1 (P - 1) (by first | assumption | omega) (by first | assumption | omega) (by first | assumption | omega)) (hP.sub [] rfl) gX8_term_X8_in rfl rfl rfl kf_X8_in rfl rfl rfl rfl rfl dX8_term_15 rfl rfl) ?_
    refine x_ifeqB jS 50 dX8_term_18 (by decide) (fun hc18 => ?_) (fun hc18 => ?_)
    · skip
      refine x_ic jS dX8_term_50 ?_
      exact x_iretW jS jr jk jq dX8_term_51 ⟨tm, co, ex, ey, ez⟩ hP hD hS (show (iI (-1)) = (iI (if (v = 0 ∨ v = 1) ∧ (1 ≤ cf ∧ cf < P) ∧ (0 ≤ x ∧ x ≤ 4) ∧ (0 ≤ y ∧ y ≤ 4) ∧ (0 ≤ z ∧ z ≤ 4) then (if tm v < 4 then tm v else -3) else -1)) ∧ ((((v = 0 ∨ v = 1) ∧ (1 ≤ cf ∧ cf < P) ∧ (0 ≤ x ∧ x ≤ 4) ∧ (0 ≤ y ∧ y ≤ 4) ∧ (0 ≤ z ∧ z ≤ 4)) ∧ tm v < 4 → tm = uI tm v (tm v + 1) ∧ co = uI co (4 * v + tm v) cf ∧ ex = uI ex (4 * v + tm v) x ∧ ey = uI ey (4 * v + tm v) y ∧ ez = uI ez (4 * v + tm v) z) ∧ (¬ (((v = 0 ∨ v = 1) ∧ (1 ≤ cf ∧ cf < P) ∧ (0 ≤ x ∧ x ≤ 4) ∧ (0 ≤ y ∧ y ≤ 4) ∧ (0 ≤ z ∧ z ≤ 4)) ∧ tm v < 4) → tm = tm ∧ co = co ∧ ex = ex ∧ ey = ey ∧ ez = ez)) from ⟨by rw [if_neg (by omega)], fun g => by omega, fun _ => ⟨rfl, rfl, rfl, rfl, rfl⟩⟩)
    · skip
      refine x_iln jS dX8_term_21 rfl hl 3 rfl ?_
      refine x_ic jS dX8_term_22 ?_
      refine x_ic jS dX8_term_23 ?_
      refine x_rI (x_rmS (As := [.int (iI x), .int (iI 0), .int (iI 4)]) (rest := []) jS hl.1 hK (c_X8_in jl D cI x 0 4 (by first | assumption | omega) (by first | assumption | omega) (by first | assumption | omega)) (hP.sub [] rfl) gX8_term_X8_in rfl rfl rfl kf_X8_in rfl rfl rfl rfl rfl dX8_term_24 rfl rfl) ?_
      refine x_ifeqB jS 50 dX8_term_27 (by decide) (fun hc27 => ?_) (fun hc27 => ?_)
      · skip
        refine x_ic jS dX8_term_50 ?_
        exact x_iretW jS jr jk jq dX8_term_51 ⟨tm, co, ex, ey, ez⟩ hP hD hS (show (iI (-1)) = (iI (if (v = 0 ∨ v = 1) ∧ (1 ≤ cf ∧ cf < P) ∧ (0 ≤ x ∧ x ≤ 4) ∧ (0 ≤ y ∧ y ≤ 4) ∧ (0 ≤ z ∧ z ≤ 4) then (if tm v < 4 then tm v else -3) else -1)) ∧ ((((v = 0 ∨ v = 1) ∧ (1 ≤ cf ∧ cf < P) ∧ (0 ≤ x ∧ x ≤ 4) ∧ (0 ≤ y ∧ y ≤ 4) ∧ (0 ≤ z ∧ z ≤ 4)) ∧ tm v < 4 → tm = uI tm v (tm v + 1) ∧ co = uI co (4 * v + tm v) cf ∧ ex = uI ex (4 * v + tm v) x ∧ ey = uI ey (4 * v + tm v) y ∧ ez = uI ez (4 * v + tm v) z) ∧ (¬ (((v = 0 ∨ v = 1) ∧ (1 ≤ cf ∧ cf < P) ∧ (0 ≤ x ∧ x ≤ 4) ∧ (0 ≤ y ∧ y ≤ 4) ∧ (0 ≤ z ∧ z ≤ 4)) ∧ tm v < 4) → tm = tm ∧ co = co ∧ ex = ex ∧ ey = ey ∧ ez = ez)) from ⟨by rw [if_neg (by omega)], fun g => by omega, fun _ => ⟨rfl, rfl, rfl, rfl, rfl⟩⟩)
      · skip
        refine x_il jS dX8_term_30 hl 4 rfl ?_
        refine x_ic jS dX8_term_32 ?_
        refine x_ic jS dX8_term_33 ?_
        refine x_rI (x_rmS (As := [.int (iI y), .int (iI 0), .int (iI 4)]) (rest := []) jS hl.1 hK (c_X8_in jl D cI y 0 4 (by first | assumption | omega) (by first | assumption | omega) (by first | assumption | omega)) (hP.sub [] rfl) gX8_term_X8_in rfl rfl rfl kf_X8_in rfl rfl rfl rfl rfl dX8_term_34 rfl rfl) ?_
        refine x_ifeqB jS 50 dX8_term_37 (by decide) (fun hc37 => ?_) (fun hc37 => ?_)
        · skip
          refine x_ic jS dX8_term_50 ?_
          exact x_iretW jS jr jk jq dX8_term_51 ⟨tm, co, ex, ey, ez⟩ hP hD hS (show (iI (-1)) = (iI (if (v = 0 ∨ v = 1) ∧ (1 ≤ cf ∧ cf < P) ∧ (0 ≤ x ∧ x ≤ 4) ∧ (0 ≤ y ∧ y ≤ 4) ∧ (0 ≤ z ∧ z ≤ 4) then (if tm v < 4 then tm v else -3) else -1)) ∧ ((((v = 0 ∨ v = 1) ∧ (1 ≤ cf ∧ cf < P) ∧ (0 ≤ x ∧ x ≤ 4) ∧ (0 ≤ y ∧ y ≤ 4) ∧ (0 ≤ z ∧ z ≤ 4)) ∧ tm v < 4 → tm = uI tm v (tm v + 1) ∧ co = uI co (4 * v + tm v) cf ∧ ex = uI ex (4 * v + tm v) x ∧ ey = uI ey (4 * v + tm v) y ∧ ez = uI ez (4 * v + tm v) z) ∧ (¬ (((v = 0 ∨ v = 1) ∧ (1 ≤ cf ∧ cf < P) ∧ (0 ≤ x ∧ x ≤ 4) ∧ (0 ≤ y ∧ y ≤ 4) ∧ (0 ≤ z ∧ z ≤ 4)) ∧ tm v < 4) → tm = tm ∧ co = co ∧ ex = ex ∧ ey = ey ∧ ez = ez)) from ⟨by rw [if_neg (by omega)], fun g => by omega, fun _ => ⟨rfl, rfl, rfl, rfl, rfl⟩⟩)
        · skip
          refine x_il jS dX8_term_40 hl 5 rfl ?_
          refine x_ic jS dX8_term_42 ?_
          refine x_ic jS dX8_term_43 ?_
          refine x_rI (x_rmS (As := [.int (iI z), .int (iI 0), .int (iI 4)]) (rest := []) jS hl.1 hK (c_X8_in jl D cI z 0 4 (by first | assumption | omega) (by first | assumption | omega) (by first | assumption | omega)) (hP.sub [] rfl) gX8_term_X8_in rfl rfl rfl kf_X8_in rfl rfl rfl rfl rfl dX8_term_44 rfl rfl) ?_
          refine x_ifneB jS 52 dX8_term_47 (by decide) (fun hc47 => ?_) (fun hc47 => ?_)
          · skip
            have htv : 0 ≤ tm v ∧ tm v ≤ 4 := by rcases hc4 with q | q <;> (rw [q]; assumption)
            have hall : (v = 0 ∨ v = 1) ∧ (1 ≤ cf ∧ cf < P) ∧ (0 ≤ x ∧ x ≤ 4) ∧ (0 ≤ y ∧ y ≤ 4) ∧ (0 ≤ z ∧ z ≤ 4) := ⟨hc4, by omega, hc27, hc37, hc47⟩
            refine x_aln jS dX8_term_52 rfl hl 0 rfl ?_
            refine x_get jS hK hP h_X8_term_X8 0 rfl rfl 4 rfl m_X8_term_2 rfl dX8_term_53 ?_
            refine x_iln jS dX8_term_56 rfl hl 1 rfl ?_
            refine x_iald jS hK hP 1 rfl (by omega) dX8_term_57 ?_
            refine x_ic jS dX8_term_58 ?_
            refine x_cmpne jS 65 dX8_term_59 (by decide) (by omega) (fun hc59 => ?_) (fun hc59 => ?_)
            · skip
              refine x_ic jS dX8_term_65 ?_
              refine x_iln jS dX8_term_66 rfl hl 1 rfl ?_
              refine x_imul jS dX8_term_67 ?_
              refine x_aln jS dX8_term_68 rfl hl 0 rfl ?_
              refine x_get jS hK hP h_X8_term_X8 0 rfl rfl 4 rfl m_X8_term_2 rfl dX8_term_69 ?_
              refine x_iln jS dX8_term_72 rfl hl 1 rfl ?_
              refine x_iald jS hK hP 1 rfl (by omega) dX8_term_73 ?_
              refine x_iadd jS dX8_term_74 ?_
              refine x_is (lv' := [(6, .int (iI ((4 * v) + (tm v)))), (0, .ref mo), (1, .int (iI v)), (2, .int (iI cf)), (3, .int (iI x)), (4, .int (iI y)), (5, .int (iI z))]) jS dX8_term_75 hl rfl rfl (fun ls hl => ?_)
              refine x_aln jS dX8_term_77 rfl hl 1 rfl ?_
              refine x_get jS hK hP h_X8_term_X8 0 rfl rfl 5 rfl m_X8_term_3 rfl dX8_term_78 ?_
              refine x_il jS dX8_term_81 hl 0 rfl ?_
              refine x_iln jS dX8_term_83 rfl hl 3 rfl ?_
              refine x_iast (ws' := [(mo, .inr (8, [.int (iI P), .int (iI sh), .int (iI sc), .ref xk, .ref xt, .ref xc, .ref xx, .ref xy, .ref xz, .int (iI cnt), .ref xr, .int (iI ak), .long tr, .ref xl, .int (iI L), .ref xC, .ref xF, .ref xK, .ref xn, .ref xb, .ref xw, .ref xa, .int (iI K), .ref yx, .ref yy, .ref yz, .ref yn, .ref yc, .ref yl])), (xt, .inl (cI, 2, .inl (aI tm))), (xc, .inl (cI, 8, .inl (aI (uI co ((4 * v) + (tm v)) cf)))), (xx, .inl (cI, 8, .inl (aI ex))), (xy, .inl (cI, 8, .inl (aI ey))), (xz, .inl (cI, 8, .inl (aI ez)))]) jS hK hP hD hS 2 rfl (by omega) dX8_term_84 rfl (fun jH jL hP hD hS => ?_)
              refine x_aln jS dX8_term_85 rfl hl 1 rfl ?_
              refine x_get jS hK hP h_X8_term_X8 0 rfl rfl 6 rfl m_X8_term_4 rfl dX8_term_86 ?_
              refine x_il jS dX8_term_89 hl 0 rfl ?_
              refine x_iln jS dX8_term_91 rfl hl 4 rfl ?_
              refine x_iast (ws' := [(mo, .inr (8, [.int (iI P), .int (iI sh), .int (iI sc), .ref xk, .ref xt, .ref xc, .ref xx, .ref xy, .ref xz, .int (iI cnt), .ref xr, .int (iI ak), .long tr, .ref xl, .int (iI L), .ref xC, .ref xF, .ref xK, .ref xn, .ref xb, .ref xw, .ref xa, .int (iI K), .ref yx, .ref yy, .ref yz, .ref yn, .ref yc, .ref yl])), (xt, .inl (cI, 2, .inl (aI tm))), (xc, .inl (cI, 8, .inl (aI (uI co ((4 * v) + (tm v)) cf)))), (xx, .inl (cI, 8, .inl (aI (uI ex ((4 * v) + (tm v)) x)))), (xy, .inl (cI, 8, .inl (aI ey))), (xz, .inl (cI, 8, .inl (aI ez)))]) jS hK hP hD hS 3 rfl (by omega) dX8_term_92 rfl (fun jH jL hP hD hS => ?_)
              refine x_aln jS dX8_term_93 rfl hl 1 rfl ?_
              refine x_get jS hK hP h_X8_term_X8 0 rfl rfl 7 rfl m_X8_term_5 rfl dX8_term_94 ?_
              refine x_il jS dX8_term_97 hl 0 rfl ?_
              refine x_il jS dX8_term_99 hl 5 rfl ?_
              refine x_iast (ws' := [(mo, .inr (8, [.int (iI P), .int (iI sh), .int (iI sc), .ref xk, .ref xt, .ref xc, .ref xx, .ref xy, .ref xz, .int (iI cnt), .ref xr, .int (iI ak), .long tr, .ref xl, .int (iI L), .ref xC, .ref xF, .ref xK, .ref xn, .ref xb, .ref xw, .ref xa, .int (iI K), .ref yx, .ref yy, .ref yz, .ref yn, .ref yc, .ref yl])), (xt, .inl (cI, 2, .inl (aI tm))), (xc, .inl (cI, 8, .inl (aI (uI co ((4 * v) + (tm v)) cf)))), (xx, .inl (cI, 8, .inl (aI (uI ex ((4 * v) + (tm v)) x)))), (xy, .inl (cI, 8, .inl (aI (uI ey ((4 * v) + (tm v)) y)))), (xz, .inl (cI, 8, .inl (aI ez)))]) jS hK hP hD hS 4 rfl (by omega) dX8_term_101 rfl (fun jH jL hP hD hS => ?_)
              refine x_aln jS dX8_term_102 rfl hl 1 rfl ?_
              refine x_get jS hK hP h_X8_term_X8 0 rfl rfl 8 rfl m_X8_term_6 rfl dX8_term_103 ?_
              refine x_il jS dX8_term_106 hl 0 rfl ?_
              refine x_il jS dX8_term_108 hl 6 rfl ?_
              refine x_iast (ws' := [(mo, .inr (8, [.int (iI P), .int (iI sh), .int (iI sc), .ref xk, .ref xt, .ref xc, .ref xx, .ref xy, .ref xz, .int (iI cnt), .ref xr, .int (iI ak), .long tr, .ref xl, .int (iI L), .ref xC, .ref xF, .ref xK, .ref xn, .ref xb, .ref xw, .ref xa, .int (iI K), .ref yx, .ref yy, .ref yz, .ref yn, .ref yc, .ref yl])), (xt, .inl (cI, 2, .inl (aI tm))), (xc, .inl (cI, 8, .inl (aI (uI co ((4 * v) + (tm v)) cf)))), (xx, .inl (cI, 8, .inl (aI (uI ex ((4 * v) + (tm v)) x)))), (xy, .inl (cI, 8, .inl (aI (uI ey ((4 * v) + (tm v)) y)))), (xz, .inl (cI, 8, .inl (aI (uI ez ((4 * v) + (tm v)) z))))]) jS hK hP hD hS 5 rfl (by omega) dX8_term_110 rfl (fun jH jL hP hD hS => ?_)
              refine x_aln jS dX8_term_111 rfl hl 1 rfl ?_
              refine x_get jS hK hP h_X8_term_X8 0 rfl rfl 4 rfl m_X8_term_2 rfl dX8_term_112 ?_
              refine x_iln jS dX8_term_115 rfl hl 2 rfl ?_
              refine x_dup2 jS dX8_term_116 rfl rfl ?_
              refine x_iald jS hK hP 1 rfl (by omega) dX8_term_117 ?_
              refine x_ic jS dX8_term_118 ?_
              refine x_iadd jS dX8_term_119 ?_
              refine x_iast (ws' := [(mo, .inr (8, [.int (iI P), .int (iI sh), .int (iI sc), .ref xk, .ref xt, .ref xc, .ref xx, .ref xy, .ref xz, .int (iI cnt), .ref xr, .int (iI ak), .long tr, .ref xl, .int (iI L), .ref xC, .ref xF, .ref xK, .ref xn, .ref xb, .ref xw, .ref xa, .int (iI K), .ref yx, .ref yy, .ref yz, .ref yn, .ref yc, .ref yl])), (xt, .inl (cI, 2, .inl (aI (uI tm v ((tm v) + 1))))), (xc, .inl (cI, 8, .inl (aI (uI co ((4 * v) + (tm v)) cf)))), (xx, .inl (cI, 8, .inl (aI (uI ex ((4 * v) + (tm v)) x)))), (xy, .inl (cI, 8, .inl (aI (uI ey ((4 * v) + (tm v)) y)))), (xz, .inl (cI, 8, .inl (aI (uI ez ((4 * v) + (tm v)) z))))]) jS hK hP hD hS 1 rfl (by omega) dX8_term_120 rfl (fun jH jL hP hD hS => ?_)
              refine x_aln jS dX8_term_121 rfl hl 1 rfl ?_
              refine x_get jS hK hP h_X8_term_X8 0 rfl rfl 4 rfl m_X8_term_2 rfl dX8_term_122 ?_
              refine x_iln jS dX8_term_125 rfl hl 2 rfl ?_
              refine x_iald jS hK hP 1 rfl (by omega) dX8_term_126 ?_
              refine x_ic jS dX8_term_127 ?_
              refine x_isub jS dX8_term_128 ?_
              exact x_iretW jS jr jk jq dX8_term_129 ⟨(uI tm v ((tm v) + 1)), (uI co ((4 * v) + (tm v)) cf), (uI ex ((4 * v) + (tm v)) x), (uI ey ((4 * v) + (tm v)) y), (uI ez ((4 * v) + (tm v)) z)⟩ hP hD hS (show (iI (((uI tm v ((tm v) + 1)) v) - 1)) = (iI (if (v = 0 ∨ v = 1) ∧ (1 ≤ cf ∧ cf < P) ∧ (0 ≤ x ∧ x ≤ 4) ∧ (0 ≤ y ∧ y ≤ 4) ∧ (0 ≤ z ∧ z ≤ 4) then (if tm v < 4 then tm v else -3) else -1)) ∧ ((((v = 0 ∨ v = 1) ∧ (1 ≤ cf ∧ cf < P) ∧ (0 ≤ x ∧ x ≤ 4) ∧ (0 ≤ y ∧ y ≤ 4) ∧ (0 ≤ z ∧ z ≤ 4)) ∧ tm v < 4 → (uI tm v ((tm v) + 1)) = uI tm v (tm v + 1) ∧ (uI co ((4 * v) + (tm v)) cf) = uI co (4 * v + tm v) cf ∧ (uI ex ((4 * v) + (tm v)) x) = uI ex (4 * v + tm v) x ∧ (uI ey ((4 * v) + (tm v)) y) = uI ey (4 * v + tm v) y ∧ (uI ez ((4 * v) + (tm v)) z) = uI ez (4 * v + tm v) z) ∧ (¬ (((v = 0 ∨ v = 1) ∧ (1 ≤ cf ∧ cf < P) ∧ (0 ≤ x ∧ x ≤ 4) ∧ (0 ≤ y ∧ y ≤ 4) ∧ (0 ≤ z ∧ z ≤ 4)) ∧ tm v < 4) → (uI tm v ((tm v) + 1)) = tm ∧ (uI co ((4 * v) + (tm v)) cf) = co ∧ (uI ex ((4 * v) + (tm v)) x) = ex ∧ (uI ey ((4 * v) + (tm v)) y) = ey ∧ (uI ez ((4 * v) + (tm v)) z) = ez)) from ⟨by rw [if_pos hall, if_pos (by omega), uI_s]; congr 1; omega, fun _ => ⟨rfl, rfl, rfl, rfl, rfl⟩, fun g => absurd ⟨hall, by omega⟩ g⟩)
            · skip
              refine x_bi jS dX8_term_62 (by decide) ?_
              exact x_iretW jS jr jk jq dX8_term_64 ⟨tm, co, ex, ey, ez⟩ hP hD hS (show (iI (-3)) = (iI (if (v = 0 ∨ v = 1) ∧ (1 ≤ cf ∧ cf < P) ∧ (0 ≤ x ∧ x ≤ 4) ∧ (0 ≤ y ∧ y ≤ 4) ∧ (0 ≤ z ∧ z ≤ 4) then (if tm v < 4 then tm v else -3) else -1)) ∧ ((((v = 0 ∨ v = 1) ∧ (1 ≤ cf ∧ cf < P) ∧ (0 ≤ x ∧ x ≤ 4) ∧ (0 ≤ y ∧ y ≤ 4) ∧ (0 ≤ z ∧ z ≤ 4)) ∧ tm v < 4 → tm = uI tm v (tm v + 1) ∧ co = uI co (4 * v + tm v) cf ∧ ex = uI ex (4 * v + tm v) x ∧ ey = uI ey (4 * v + tm v) y ∧ ez = uI ez (4 * v + tm v) z) ∧ (¬ (((v = 0 ∨ v = 1) ∧ (1 ≤ cf ∧ cf < P) ∧ (0 ≤ x ∧ x ≤ 4) ∧ (0 ≤ y ∧ y ≤ 4) ∧ (0 ≤ z ∧ z ≤ 4)) ∧ tm v < 4) → tm = tm ∧ co = co ∧ ex = ex ∧ ey = ey ∧ ez = ez)) from ⟨by rw [if_pos hall, if_neg (by omega)], fun g => by omega, fun _ => ⟨rfl, rfl, rfl, rfl, rfl⟩⟩)
          · skip
            refine x_ic jS dX8_term_50 ?_
            exact x_iretW jS jr jk jq dX8_term_51 ⟨tm, co, ex, ey, ez⟩ hP hD hS (show (iI (-1)) = (iI (if (v = 0 ∨ v = 1) ∧ (1 ≤ cf ∧ cf < P) ∧ (0 ≤ x ∧ x ≤ 4) ∧ (0 ≤ y ∧ y ≤ 4) ∧ (0 ≤ z ∧ z ≤ 4) then (if tm v < 4 then tm v else -3) else -1)) ∧ ((((v = 0 ∨ v = 1) ∧ (1 ≤ cf ∧ cf < P) ∧ (0 ≤ x ∧ x ≤ 4) ∧ (0 ≤ y ∧ y ≤ 4) ∧ (0 ≤ z ∧ z ≤ 4)) ∧ tm v < 4 → tm = uI tm v (tm v + 1) ∧ co = uI co (4 * v + tm v) cf ∧ ex = uI ex (4 * v + tm v) x ∧ ey = uI ey (4 * v + tm v) y ∧ ez = uI ez (4 * v + tm v) z) ∧ (¬ (((v = 0 ∨ v = 1) ∧ (1 ≤ cf ∧ cf < P) ∧ (0 ≤ x ∧ x ≤ 4) ∧ (0 ≤ y ∧ y ≤ 4) ∧ (0 ≤ z ∧ z ≤ 4)) ∧ tm v < 4) → tm = tm ∧ co = co ∧ ex = ex ∧ ey = ey ∧ ez = ez)) from ⟨by rw [if_neg (by omega)], fun g => by omega, fun _ => ⟨rfl, rfl, rfl, rfl, rfl⟩⟩)
theorem h_X8_empty_X8 : ∀ w ∈ u_ws RX8 TX8 29, w ∈ wsX8_empty := fun w h => List.mem_cons_of_mem _ (List.mem_append_right _ h)
theorem m_X8_empty_1 : Cond.fieldLink RX8 23 "SealedBoxModel" "terms" "[I" ∈ wsX8_empty := List.mem_of_getElem? (i := 1) rfl
abbrev rm_X8_empty : Room := { frames := 2, cells := 0, slots := 0, locals := 42 }
set_option maxHeartbeats 4000000 in
set_option maxRecDepth 100000 in
theorem c_X8_empty (jl : Launch) (D : va_G) (cI : ClassId) (mo xk xt xc xx xy xz xr xl xC xF xK xn xb xw xa yx yy yz yn yc yl : Nat) (P sh sc cnt ak L K : Int) (tr : Int64) (tm : Int → Int) (v : Int) (sz : Nat) (g_v : -2147483648 ≤ v ∧ v < 2147483648) : Met jl yX8_empty wsX8_empty rm_X8_empty (xPw [.ref mo, .int (iI v)] D cI [(mo, .inr (8, [.int (iI P), .int (iI sh), .int (iI sc), .ref xk, .ref xt, .ref xc, .ref xx, .ref xy, .ref xz, .int (iI cnt), .ref xr, .int (iI ak), .long tr, .ref xl, .int (iI L), .ref xC, .ref xF, .ref xK, .ref xn, .ref xb, .ref xw, .ref xa, .int (iI K), .ref yx, .ref yy, .ref yz, .ref yn, .ref yc, .ref yl])), (xt, .inl (cI, 2, .inl (aI tm)))] sz) (va_Qi (fun (r : Int32) (u : (Int → Int)) => r = (iI (if v = 0 ∨ v = 1 then tm v else -1)) ∧ (u = (if v = 0 ∨ v = 1 then uI tm v 0 else tm))) (xB D (fun (u : (Int → Int)) => [(mo, .inr (8, [.int (iI P), .int (iI sh), .int (iI sc), .ref xk, .ref xt, .ref xc, .ref xx, .ref xy, .ref xz, .int (iI cnt), .ref xr, .int (iI ak), .long tr, .ref xl, .int (iI L), .ref xC, .ref xF, .ref xK, .ref xn, .ref xb, .ref xw, .ref xa, .int (iI K), .ref yx, .ref yy, .ref yz, .ref yn, .ref yc, .ref yl])), (xt, .inl (cI, 2, .inl (aI u)))]) (va_A [(mo, .inr (8, [.int (iI P), .int (iI sh), .int (iI sc), .ref xk, .ref xt, .ref xc, .ref xx, .ref xy, .ref xz, .int (iI cnt), .ref xr, .int (iI ak), .long tr, .ref xl, .int (iI L), .ref xC, .ref xF, .ref xK, .ref xn, .ref xb, .ref xw, .ref xa, .int (iI K), .ref yx, .ref yy, .ref yz, .ref yn, .ref yc, .ref yl])), (xt, .inl (cI, 2, .inl (aI tm)))] sz)) (va_A [(mo, .inr (8, [.int (iI P), .int (iI sh), .int (iI sc), .ref xk, .ref xt, .ref xc, .ref xx, .ref xy, .ref xz, .int (iI cnt), .ref xr, .int (iI ak), .long tr, .ref xl, .int (iI L), .ref xC, .ref xF, .ref xK, .ref xn, .ref xb, .ref xw, .ref xa, .int (iI K), .ref yx, .ref yy, .ref yz, .ref yn, .ref yc, .ref yl])), (xt, .inl (cI, 2, .inl (aI tm)))] sz)) 0 0 (va_A [(mo, .inr (8, [.int (iI P), .int (iI sh), .int (iI sc), .ref xk, .ref xt, .ref xc, .ref xx, .ref xy, .ref xz, .int (iI cnt), .ref xr, .int (iI ak), .long tr, .ref xl, .int (iI L), .ref xC, .ref xF, .ref xK, .ref xn, .ref xb, .ref xw, .ref xa, .int (iI K), .ref yx, .ref yy, .ref yz, .ref yn, .ref yc, .ref yl])), (xt, .inl (cI, 2, .inl (aI tm)))] sz) := by
  refine x_metW (own := RX8) (cc := cX8_empty) (maxL := 3) (ret := (some .int)) (Qc := fun jA => va_Qi (fun (r : Int32) (u : (Int → Int)) => r = (iI (if v = 0 ∨ v = 1 then tm v else -1)) ∧ (u = (if v = 0 ∨ v = 1 then uI tm v 0 else tm))) (xB D (fun (u : (Int → Int)) => [(mo, .inr (8, [.int (iI P), .int (iI sh), .int (iI sc), .ref xk, .ref xt, .ref xc, .ref xx, .ref xy, .ref xz, .int (iI cnt), .ref xr, .int (iI ak), .long tr, .ref xl, .int (iI L), .ref xC, .ref xF, .ref xK, .ref xn, .ref xb, .ref xw, .ref xa, .int (iI K), .ref yx, .ref yy, .ref yz, .ref yn, .ref yc, .ref yl])), (xt, .inl (cI, 2, .inl (aI u)))]) jA) jA) (by decide) rfl rfl rfl ?_
  intro jp je js jm ja jb jt jc jA jQ jS jr jk jn jq hK hP hD hA hS ls hl
  have hl : lv_has ls 3 [(0, .ref mo), (1, .int (iI v))] := hl
  refine x_iln jS dX8_empty_0 rfl hl 1 rfl ?_
  refine x_rI (x_rmS (As := [.int (iI v)]) (rest := []) jS hl.1 hK (c_X8_isBox jl D cI v (by first | assumption | omega)) (hP.sub [] rfl) gX8_empty_X8_isBox rfl rfl rfl kf_X8_isBox rfl rfl rfl rfl rfl dX8_empty_1 rfl rfl) ?_
  refine x_ifneB jS 9 dX8_empty_4 (by decide) (fun hc4 => ?_) (fun hc4 => ?_)
  · skip
    refine x_aln jS dX8_empty_9 rfl hl 0 rfl ?_
    refine x_get jS hK hP h_X8_empty_X8 0 rfl rfl 4 rfl m_X8_empty_1 rfl dX8_empty_10 ?_
    refine x_iln jS dX8_empty_13 rfl hl 1 rfl ?_
    refine x_iald jS hK hP 1 rfl (by omega) dX8_empty_14 ?_
    refine x_isn (lv' := [(2, .int (iI (tm v))), (0, .ref mo), (1, .int (iI v))]) jS dX8_empty_15 rfl hl rfl rfl (fun ls hl => ?_)
    refine x_aln jS dX8_empty_16 rfl hl 1 rfl ?_
    refine x_get jS hK hP h_X8_empty_X8 0 rfl rfl 4 rfl m_X8_empty_1 rfl dX8_empty_17 ?_
    refine x_iln jS dX8_empty_20 rfl hl 2 rfl ?_
    refine x_ic jS dX8_empty_21 ?_
    refine x_iast (ws' := [(mo, .inr (8, [.int (iI P), .int (iI sh), .int (iI sc), .ref xk, .ref xt, .ref xc, .ref xx, .ref xy, .ref xz, .int (iI cnt), .ref xr, .int (iI ak), .long tr, .ref xl, .int (iI L), .ref xC, .ref xF, .ref xK, .ref xn, .ref xb, .ref xw, .ref xa, .int (iI K), .ref yx, .ref yy, .ref yz, .ref yn, .ref yc, .ref yl])), (xt, .inl (cI, 2, .inl (aI (uI tm v 0))))]) jS hK hP hD hS 1 rfl (by omega) dX8_empty_22 rfl (fun jH jL hP hD hS => ?_)
    refine x_iln jS dX8_empty_23 rfl hl 0 rfl ?_
    exact x_iretW jS jr jk jq dX8_empty_24 (uI tm v 0) hP hD hS (show (iI (tm v)) = (iI (if v = 0 ∨ v = 1 then tm v else -1)) ∧ ((uI tm v 0) = (if v = 0 ∨ v = 1 then uI tm v 0 else tm)) from ⟨by rw [if_pos hc4], by rw [if_pos hc4]⟩)
  · skip
    refine x_ic jS dX8_empty_7 ?_
    exact x_iretW jS jr jk jq dX8_empty_8 tm hP hD hS (show (iI (-1)) = (iI (if v = 0 ∨ v = 1 then tm v else -1)) ∧ (tm = (if v = 0 ∨ v = 1 then uI tm v 0 else tm)) from ⟨by rw [if_neg hc4], by rw [if_neg hc4]⟩)
theorem h_X8_ask_X8 : ∀ w ∈ u_ws RX8 TX8 29, w ∈ wsX8_ask := fun w h => List.mem_cons_of_mem _ (List.mem_append_right _ h)
theorem m_X8_ask_1 : Cond.fieldLink RX8 113 "SealedBoxModel" "asks" "I" ∈ wsX8_ask := List.mem_of_getElem? (i := 1) rfl
theorem kf_X8_answer : kfV yX8_answer RX8 4 := by decide +kernel
abbrev rm_X8_ask : Room := { frames := 3, cells := 0, slots := 0, locals := 75 }
set_option maxHeartbeats 4000000 in
set_option maxRecDepth 100000 in
theorem c_X8_ask (jl : Launch) (D : va_G) (cI : ClassId) (mo xk xt xc xx xy xz xr xl xC xF xK xn xb xw xa yx yy yz yn yc yl : Nat) (P sh sc cnt ak L K : Int) (tr : Int64) (kd tm co ex ey ez : Int → Int) (v x y z : Int) (sz : Nat) (hP5 : 5 ≤ P ∧ P ≤ 997) (hs : 0 ≤ sh ∧ sh ≤ 996 ∧ 1 ≤ sc ∧ sc ≤ 996) (hkd0 : 0 ≤ kd 0 ∧ kd 0 ≤ 2) (hkd1 : 0 ≤ kd 1 ∧ kd 1 ≤ 2) (ht0 : 0 ≤ tm 0 ∧ tm 0 ≤ 4) (ht1 : 0 ≤ tm 1 ∧ tm 1 ≤ 4) (hmb0 : mbOK P (tm 0) (mB co 0) (mB ex 0) (mB ey 0) (mB ez 0)) (hmb1 : mbOK P (tm 1) (mB co 1) (mB ex 1) (mB ey 1) (mB ez 1)) (g_v : -2147483648 ≤ v ∧ v < 2147483648) (g_x : -2147483648 ≤ x ∧ x < 2147483648) (g_y : -2147483648 ≤ y ∧ y < 2147483648) (g_z : -2147483648 ≤ z ∧ z < 2147483648) : Met jl yX8_ask wsX8_ask rm_X8_ask (xPw [.ref mo, .int (iI v), .int (iI x), .int (iI y), .int (iI z)] D cI [(mo, .inr (8, [.int (iI P), .int (iI sh), .int (iI sc), .ref xk, .ref xt, .ref xc, .ref xx, .ref xy, .ref xz, .int (iI cnt), .ref xr, .int (iI ak), .long tr, .ref xl, .int (iI L), .ref xC, .ref xF, .ref xK, .ref xn, .ref xb, .ref xw, .ref xa, .int (iI K), .ref yx, .ref yy, .ref yz, .ref yn, .ref yc, .ref yl])), (xk, .inl (cI, 2, .inl (aI kd))), (xt, .inl (cI, 2, .inl (aI tm))), (xc, .inl (cI, 8, .inl (aI co))), (xx, .inl (cI, 8, .inl (aI ex))), (xy, .inl (cI, 8, .inl (aI ey))), (xz, .inl (cI, 8, .inl (aI ez)))] sz) (va_Qi (fun (r : Int32) (u : Int) => r = (iI (if (v = 0 ∨ v = 1) ∧ (0 ≤ x ∧ x < P) ∧ (0 ≤ y ∧ y < P) ∧ (0 ≤ z ∧ z < P) then ans P sh sc (kd v) (tm v) (mB co v) (mB ex v) (mB ey v) (mB ez v) x y z else -1)) ∧ (u = (if (v = 0 ∨ v = 1) ∧ (0 ≤ x ∧ x < P) ∧ (0 ≤ y ∧ y < P) ∧ (0 ≤ z ∧ z < P) then ak + 1 else ak))) (xB D (fun (u : Int) => [(mo, .inr (8, [.int (iI P), .int (iI sh), .int (iI sc), .ref xk, .ref xt, .ref xc, .ref xx, .ref xy, .ref xz, .int (iI cnt), .ref xr, .int (iI u), .long tr, .ref xl, .int (iI L), .ref xC, .ref xF, .ref xK, .ref xn, .ref xb, .ref xw, .ref xa, .int (iI K), .ref yx, .ref yy, .ref yz, .ref yn, .ref yc, .ref yl])), (xk, .inl (cI, 2, .inl (aI kd))), (xt, .inl (cI, 2, .inl (aI tm))), (xc, .inl (cI, 8, .inl (aI co))), (xx, .inl (cI, 8, .inl (aI ex))), (xy, .inl (cI, 8, .inl (aI ey))), (xz, .inl (cI, 8, .inl (aI ez)))]) (va_A [(mo, .inr (8, [.int (iI P), .int (iI sh), .int (iI sc), .ref xk, .ref xt, .ref xc, .ref xx, .ref xy, .ref xz, .int (iI cnt), .ref xr, .int (iI ak), .long tr, .ref xl, .int (iI L), .ref xC, .ref xF, .ref xK, .ref xn, .ref xb, .ref xw, .ref xa, .int (iI K), .ref yx, .ref yy, .ref yz, .ref yn, .ref yc, .ref yl])), (xk, .inl (cI, 2, .inl (aI kd))), (xt, .inl (cI, 2, .inl (aI tm))), (xc, .inl (cI, 8, .inl (aI co))), (xx, .inl (cI, 8, .inl (aI ex))), (xy, .inl (cI, 8, .inl (aI ey))), (xz, .inl (cI, 8, .inl (aI ez)))] sz)) (va_A [(mo, .inr (8, [.int (iI P), .int (iI sh), .int (iI sc), .ref xk, .ref xt, .ref xc, .ref xx, .ref xy, .ref xz, .int (iI cnt), .ref xr, .int (iI ak), .long tr, .ref xl, .int (iI L), .ref xC, .ref xF, .ref xK, .ref xn, .ref xb, .ref xw, .ref xa, .int (iI K), .ref yx, .ref yy, .ref yz, .ref yn, .ref yc, .ref yl])), (xk, .inl (cI, 2, .inl (aI kd))), (xt, .inl (cI, 2, .inl (aI tm))), (xc, .inl (cI, 8, .inl (aI co))), (xx, .inl (cI, 8, .inl (aI ex))), (xy, .inl (cI, 8, .inl (aI ey))), (xz, .inl (cI, 8, .inl (aI ez)))] sz)) 0 0 (va_A [(mo, .inr (8, [.int (iI P), .int (iI sh), .int (iI sc), .ref xk, .ref xt, .ref xc, .ref xx, .ref xy, .ref xz, .int (iI cnt), .ref xr, .int (iI ak), .long tr, .ref xl, .int (iI L), .ref xC, .ref xF, .ref xK, .ref xn, .ref xb, .ref xw, .ref xa, .int (iI K), .ref yx, .ref yy, .ref yz, .ref yn, .ref yc, .ref yl])), (xk, .inl (cI, 2, .inl (aI kd))), (xt, .inl (cI, 2, .inl (aI tm))), (xc, .inl (cI, 8, .inl (aI co))), (xx, .inl (cI, 8, .inl (aI ex))), (xy, .inl (cI, 8, .inl (aI ey))), (xz, .inl (cI, 8, .inl (aI ez)))] sz) := by
  refine x_metW (own := RX8) (cc := cX8_ask) (maxL := 5) (ret := (some .int)) (Qc := fun jA => va_Qi (fun (r : Int32) (u : Int) => r = (iI (if (v = 0 ∨ v = 1) ∧ (0 ≤ x ∧ x < P) ∧ (0 ≤ y ∧ y < P) ∧ (0 ≤ z ∧ z < P) then ans P sh sc (kd v) (tm v) (mB co v) (mB ex v) (mB ey v) (mB ez v) x y z else -1)) ∧ (u = (if (v = 0 ∨ v = 1) ∧ (0 ≤ x ∧ x < P) ∧ (0 ≤ y ∧ y < P) ∧ (0 ≤ z ∧ z < P) then ak + 1 else ak))) (xB D (fun (u : Int) => [(mo, .inr (8, [.int (iI P), .int (iI sh), .int (iI sc), .ref xk, .ref xt, .ref xc, .ref xx, .ref xy, .ref xz, .int (iI cnt), .ref xr, .int (iI u), .long tr, .ref xl, .int (iI L), .ref xC, .ref xF, .ref xK, .ref xn, .ref xb, .ref xw, .ref xa, .int (iI K), .ref yx, .ref yy, .ref yz, .ref yn, .ref yc, .ref yl])), (xk, .inl (cI, 2, .inl (aI kd))), (xt, .inl (cI, 2, .inl (aI tm))), (xc, .inl (cI, 8, .inl (aI co))), (xx, .inl (cI, 8, .inl (aI ex))), (xy, .inl (cI, 8, .inl (aI ey))), (xz, .inl (cI, 8, .inl (aI ez)))]) jA) jA) (by decide) rfl rfl rfl ?_
  intro jp je js jm ja jb jt jc jA jQ jS jr jk jn jq hK hP hD hA hS ls hl
  have hl : lv_has ls 5 [(0, .ref mo), (1, .int (iI v)), (2, .int (iI x)), (3, .int (iI y)), (4, .int (iI z))] := hl
  refine x_iln jS dX8_ask_0 rfl hl 1 rfl ?_
  refine x_rI (x_rmS (As := [.int (iI v)]) (rest := []) jS hl.1 hK (c_X8_isBox jl D cI v (by first | assumption | omega)) (hP.sub [] rfl) gX8_ask_X8_isBox rfl rfl rfl kf_X8_isBox rfl rfl rfl rfl rfl dX8_ask_1 rfl rfl) ?_
  refine x_ifeqB jS 32 dX8_ask_4 (by decide) (fun hc4 => ?_) (fun hc4 => ?_)
  · skip
    refine x_ic jS dX8_ask_32 ?_
    exact x_iretW jS jr jk jq dX8_ask_33 ak hP hD hS (show (iI (-1)) = (iI (if (v = 0 ∨ v = 1) ∧ (0 ≤ x ∧ x < P) ∧ (0 ≤ y ∧ y < P) ∧ (0 ≤ z ∧ z < P) then ans P sh sc (kd v) (tm v) (mB co v) (mB ex v) (mB ey v) (mB ez v) x y z else -1)) ∧ (ak = (if (v = 0 ∨ v = 1) ∧ (0 ≤ x ∧ x < P) ∧ (0 ≤ y ∧ y < P) ∧ (0 ≤ z ∧ z < P) then ak + 1 else ak)) from ⟨by rw [if_neg (by omega)], by rw [if_neg (by omega)]⟩)
  · skip
    refine x_aln jS dX8_ask_7 rfl hl 0 rfl ?_
    refine x_iln jS dX8_ask_8 rfl hl 2 rfl ?_
    refine x_rI (x_rmV (As := [.int (iI x)]) (rest := []) jS hl.1 hK (c_X8_isNumber jl D cI mo xk xt xc xx xy xz xr xl xC xF xK xn xb xw xa yx yy yz yn yc yl P sh sc cnt ak L K tr x (by first | assumption | omega) (by first | assumption | omega)) (hP.sub [0] rfl) 0 rfl rfl gX8_ask_X8_isNumber rfl rfl rfl kf_X8_isNumber rfl rfl rfl rfl rfl dX8_ask_9 rfl rfl) ?_
    refine x_ifeqB jS 32 dX8_ask_12 (by decide) (fun hc12 => ?_) (fun hc12 => ?_)
    · skip
      refine x_ic jS dX8_ask_32 ?_
      exact x_iretW jS jr jk jq dX8_ask_33 ak hP hD hS (show (iI (-1)) = (iI (if (v = 0 ∨ v = 1) ∧ (0 ≤ x ∧ x < P) ∧ (0 ≤ y ∧ y < P) ∧ (0 ≤ z ∧ z < P) then ans P sh sc (kd v) (tm v) (mB co v) (mB ex v) (mB ey v) (mB ez v) x y z else -1)) ∧ (ak = (if (v = 0 ∨ v = 1) ∧ (0 ≤ x ∧ x < P) ∧ (0 ≤ y ∧ y < P) ∧ (0 ≤ z ∧ z < P) then ak + 1 else ak)) from ⟨by rw [if_neg (by omega)], by rw [if_neg (by omega)]⟩)
    · skip
      refine x_aln jS dX8_ask_15 rfl hl 0 rfl ?_
      refine x_iln jS dX8_ask_16 rfl hl 3 rfl ?_
      refine x_rI (x_rmV (As := [.int (iI y)]) (rest := []) jS hl.1 hK (c_X8_isNumber jl D cI mo xk xt xc xx xy xz xr xl xC xF xK xn xb xw xa yx yy yz yn yc yl P sh sc cnt ak L K tr y (by first | assumption | omega) (by first | assumption | omega)) (hP.sub [0] rfl) 0 rfl rfl gX8_ask_X8_isNumber rfl rfl rfl kf_X8_isNumber rfl rfl rfl rfl rfl dX8_ask_17 rfl rfl) ?_
      refine x_ifeqB jS 32 dX8_ask_20 (by decide) (fun hc20 => ?_) (fun hc20 => ?_)
      · skip
        refine x_ic jS dX8_ask_32 ?_
        exact x_iretW jS jr jk jq dX8_ask_33 ak hP hD hS (show (iI (-1)) = (iI (if (v = 0 ∨ v = 1) ∧ (0 ≤ x ∧ x < P) ∧ (0 ≤ y ∧ y < P) ∧ (0 ≤ z ∧ z < P) then ans P sh sc (kd v) (tm v) (mB co v) (mB ex v) (mB ey v) (mB ez v) x y z else -1)) ∧ (ak = (if (v = 0 ∨ v = 1) ∧ (0 ≤ x ∧ x < P) ∧ (0 ≤ y ∧ y < P) ∧ (0 ≤ z ∧ z < P) then ak + 1 else ak)) from ⟨by rw [if_neg (by omega)], by rw [if_neg (by omega)]⟩)
      · skip
        refine x_aln jS dX8_ask_23 rfl hl 0 rfl ?_
        refine x_il jS dX8_ask_24 hl 4 rfl ?_
        refine x_rI (x_rmV (As := [.int (iI z)]) (rest := []) jS hl.1 hK (c_X8_isNumber jl D cI mo xk xt xc xx xy xz xr xl xC xF xK xn xb xw xa yx yy yz yn yc yl P sh sc cnt ak L K tr z (by first | assumption | omega) (by first | assumption | omega)) (hP.sub [0] rfl) 0 rfl rfl gX8_ask_X8_isNumber rfl rfl rfl kf_X8_isNumber rfl rfl rfl rfl rfl dX8_ask_26 rfl rfl) ?_
        refine x_ifneB jS 34 dX8_ask_29 (by decide) (fun hc29 => ?_) (fun hc29 => ?_)
        · skip
          refine x_aln jS dX8_ask_34 rfl hl 0 rfl ?_
          refine x_dup jS dX8_ask_35 rfl ?_
          refine x_get jS hK hP h_X8_ask_X8 0 rfl rfl 11 rfl m_X8_ask_1 rfl dX8_ask_36 ?_
          refine x_ic jS dX8_ask_39 ?_
          refine x_iadd jS dX8_ask_40 ?_
          refine x_put (ty0 := tyX8) (ws' := [(mo, .inr (8, [.int (iI P), .int (iI sh), .int (iI sc), .ref xk, .ref xt, .ref xc, .ref xx, .ref xy, .ref xz, .int (iI cnt), .ref xr, .int (iI (ak + 1)), .long tr, .ref xl, .int (iI L), .ref xC, .ref xF, .ref xK, .ref xn, .ref xb, .ref xw, .ref xa, .int (iI K), .ref yx, .ref yy, .ref yz, .ref yn, .ref yc, .ref yl])), (xk, .inl (cI, 2, .inl (aI kd))), (xt, .inl (cI, 2, .inl (aI tm))), (xc, .inl (cI, 8, .inl (aI co))), (xx, .inl (cI, 8, .inl (aI ex))), (xy, .inl (cI, 8, .inl (aI ey))), (xz, .inl (cI, 8, .inl (aI ez)))]) jS hK hP hD hS h_X8_ask_X8 tyX8_ok nmX8 0 rfl rfl 11 rfl m_X8_ask_1 rfl rfl rfl rfl dX8_ask_41 rfl (fun jH jL hP hD hS => ?_)
          refine x_aln jS dX8_ask_44 rfl hl 0 rfl ?_
          refine x_iln jS dX8_ask_45 rfl hl 1 rfl ?_
          refine x_iln jS dX8_ask_46 rfl hl 2 rfl ?_
          refine x_iln jS dX8_ask_47 rfl hl 3 rfl ?_
          refine x_il jS dX8_ask_48 hl 4 rfl ?_
          refine x_rI (x_rmV (As := [.int (iI v), .int (iI x), .int (iI y), .int (iI z)]) (rest := []) jS hl.1 hK (c_X8_answer jl D cI mo xk xt xc xx xy xz xr xl xC xF xK xn xb xw xa yx yy yz yn yc yl P sh sc cnt (ak + 1) L K tr kd tm co ex ey ez v x y z (by first | assumption | omega) (by first | assumption | omega) (by first | assumption | omega) (by rcases hc4 with q | q <;> (rw [q]; assumption)) (by rcases hc4 with q | q <;> (rw [q]; assumption)) (by rcases hc4 with q | q <;> (rw [q]; assumption)) (by first | assumption | omega) (by first | assumption | omega) (by first | assumption | omega)) (hP.sub [0, 1, 2, 3, 4, 5, 6] rfl) 0 rfl rfl gX8_ask_X8_answer rfl rfl rfl kf_X8_answer rfl rfl rfl rfl rfl dX8_ask_50 rfl rfl) ?_
          exact x_iretW jS jr jk jq dX8_ask_53 (ak + 1) hP hD hS (show (iI (ans P sh sc (kd v) (tm v) (mB co v) (mB ex v) (mB ey v) (mB ez v) x y z)) = (iI (if (v = 0 ∨ v = 1) ∧ (0 ≤ x ∧ x < P) ∧ (0 ≤ y ∧ y < P) ∧ (0 ≤ z ∧ z < P) then ans P sh sc (kd v) (tm v) (mB co v) (mB ex v) (mB ey v) (mB ez v) x y z else -1)) ∧ ((ak + 1) = (if (v = 0 ∨ v = 1) ∧ (0 ≤ x ∧ x < P) ∧ (0 ≤ y ∧ y < P) ∧ (0 ≤ z ∧ z < P) then ak + 1 else ak)) from ⟨by rw [if_pos ⟨hc4, hc12, hc20, hc29⟩], by rw [if_pos ⟨hc4, hc12, hc20, hc29⟩]⟩)
        · skip
          refine x_ic jS dX8_ask_32 ?_
          exact x_iretW jS jr jk jq dX8_ask_33 ak hP hD hS (show (iI (-1)) = (iI (if (v = 0 ∨ v = 1) ∧ (0 ≤ x ∧ x < P) ∧ (0 ≤ y ∧ y < P) ∧ (0 ≤ z ∧ z < P) then ans P sh sc (kd v) (tm v) (mB co v) (mB ex v) (mB ey v) (mB ez v) x y z else -1)) ∧ (ak = (if (v = 0 ∨ v = 1) ∧ (0 ≤ x ∧ x < P) ∧ (0 ≤ y ∧ y < P) ∧ (0 ≤ z ∧ z < P) then ak + 1 else ak)) from ⟨by rw [if_neg (by omega)], by rw [if_neg (by omega)]⟩)
theorem h_X8_say_X8 : ∀ w ∈ u_ws RX8 TX8 29, w ∈ wsX8_say := fun w h => List.mem_cons_of_mem _ (List.mem_append_right _ h)
theorem m_X8_say_1 : Cond.fieldLink RX8 83 "SealedBoxModel" "said" "I" ∈ wsX8_say := List.mem_of_getElem? (i := 1) rfl
theorem m_X8_say_2 : Cond.fieldLink RX8 38 "SealedBoxModel" "row" "[I" ∈ wsX8_say := List.mem_of_getElem? (i := 2) rfl
abbrev rm_X8_say : Room := { frames := 2, cells := 0, slots := 0, locals := 43 }
set_option maxHeartbeats 4000000 in
set_option maxRecDepth 100000 in
theorem c_X8_say (jl : Launch) (D : va_G) (cI : ClassId) (mo xk xt xc xx xy xz xr xl xC xF xK xn xb xw xa yx yy yz yn yc yl : Nat) (P sh sc cnt ak L K : Int) (tr : Int64) (v : Int) (row : Int → Int) (sz : Nat) (hP5 : 5 ≤ P ∧ P ≤ 997) (hcnt : 0 ≤ cnt ∧ cnt ≤ 16) (g_v : -2147483648 ≤ v ∧ v < 2147483648) : Met jl yX8_say wsX8_say rm_X8_say (xPw [.ref mo, .int (iI v)] D cI [(mo, .inr (8, [.int (iI P), .int (iI sh), .int (iI sc), .ref xk, .ref xt, .ref xc, .ref xx, .ref xy, .ref xz, .int (iI cnt), .ref xr, .int (iI ak), .long tr, .ref xl, .int (iI L), .ref xC, .ref xF, .ref xK, .ref xn, .ref xb, .ref xw, .ref xa, .int (iI K), .ref yx, .ref yy, .ref yz, .ref yn, .ref yc, .ref yl])), (xr, .inl (cI, 16, .inl (aI row)))] sz) (va_Qi (fun (r : Int32) (u : Int × (Int → Int)) => r = (iI (if 0 ≤ v ∧ v < P then (if cnt < 16 then cnt + 1 else -3) else -1)) ∧ (((0 ≤ v ∧ v < P) ∧ cnt < 16 → u.1 = cnt + 1 ∧ u.2 = uI row cnt v) ∧ (¬ ((0 ≤ v ∧ v < P) ∧ cnt < 16) → u.1 = cnt ∧ u.2 = row))) (xB D (fun (u : Int × (Int → Int)) => [(mo, .inr (8, [.int (iI P), .int (iI sh), .int (iI sc), .ref xk, .ref xt, .ref xc, .ref xx, .ref xy, .ref xz, .int (iI u.1), .ref xr, .int (iI ak), .long tr, .ref xl, .int (iI L), .ref xC, .ref xF, .ref xK, .ref xn, .ref xb, .ref xw, .ref xa, .int (iI K), .ref yx, .ref yy, .ref yz, .ref yn, .ref yc, .ref yl])), (xr, .inl (cI, 16, .inl (aI u.2)))]) (va_A [(mo, .inr (8, [.int (iI P), .int (iI sh), .int (iI sc), .ref xk, .ref xt, .ref xc, .ref xx, .ref xy, .ref xz, .int (iI cnt), .ref xr, .int (iI ak), .long tr, .ref xl, .int (iI L), .ref xC, .ref xF, .ref xK, .ref xn, .ref xb, .ref xw, .ref xa, .int (iI K), .ref yx, .ref yy, .ref yz, .ref yn, .ref yc, .ref yl])), (xr, .inl (cI, 16, .inl (aI row)))] sz)) (va_A [(mo, .inr (8, [.int (iI P), .int (iI sh), .int (iI sc), .ref xk, .ref xt, .ref xc, .ref xx, .ref xy, .ref xz, .int (iI cnt), .ref xr, .int (iI ak), .long tr, .ref xl, .int (iI L), .ref xC, .ref xF, .ref xK, .ref xn, .ref xb, .ref xw, .ref xa, .int (iI K), .ref yx, .ref yy, .ref yz, .ref yn, .ref yc, .ref yl])), (xr, .inl (cI, 16, .inl (aI row)))] sz)) 0 0 (va_A [(mo, .inr (8, [.int (iI P), .int (iI sh), .int (iI sc), .ref xk, .ref xt, .ref xc, .ref xx, .ref xy, .ref xz, .int (iI cnt), .ref xr, .int (iI ak), .long tr, .ref xl, .int (iI L), .ref xC, .ref xF, .ref xK, .ref xn, .ref xb, .ref xw, .ref xa, .int (iI K), .ref yx, .ref yy, .ref yz, .ref yn, .ref yc, .ref yl])), (xr, .inl (cI, 16, .inl (aI row)))] sz) := by
  refine x_metW (own := RX8) (cc := cX8_say) (maxL := 2) (ret := (some .int)) (Qc := fun jA => va_Qi (fun (r : Int32) (u : Int × (Int → Int)) => r = (iI (if 0 ≤ v ∧ v < P then (if cnt < 16 then cnt + 1 else -3) else -1)) ∧ (((0 ≤ v ∧ v < P) ∧ cnt < 16 → u.1 = cnt + 1 ∧ u.2 = uI row cnt v) ∧ (¬ ((0 ≤ v ∧ v < P) ∧ cnt < 16) → u.1 = cnt ∧ u.2 = row))) (xB D (fun (u : Int × (Int → Int)) => [(mo, .inr (8, [.int (iI P), .int (iI sh), .int (iI sc), .ref xk, .ref xt, .ref xc, .ref xx, .ref xy, .ref xz, .int (iI u.1), .ref xr, .int (iI ak), .long tr, .ref xl, .int (iI L), .ref xC, .ref xF, .ref xK, .ref xn, .ref xb, .ref xw, .ref xa, .int (iI K), .ref yx, .ref yy, .ref yz, .ref yn, .ref yc, .ref yl])), (xr, .inl (cI, 16, .inl (aI u.2)))]) jA) jA) (by decide) rfl rfl rfl ?_
  intro jp je js jm ja jb jt jc jA jQ jS jr jk jn jq hK hP hD hA hS ls hl
  have hl : lv_has ls 2 [(0, .ref mo), (1, .int (iI v))] := hl
  refine x_aln jS dX8_say_0 rfl hl 0 rfl ?_
  refine x_iln jS dX8_say_1 rfl hl 1 rfl ?_
  refine x_rI (x_rmV (As := [.int (iI v)]) (rest := []) jS hl.1 hK (c_X8_isNumber jl D cI mo xk xt xc xx xy xz xr xl xC xF xK xn xb xw xa yx yy yz yn yc yl P sh sc cnt ak L K tr v (by first | assumption | omega) (by first | assumption | omega)) (hP.sub [0] rfl) 0 rfl rfl gX8_say_X8_isNumber rfl rfl rfl kf_X8_isNumber rfl rfl rfl rfl rfl dX8_say_2 rfl rfl) ?_
  refine x_ifneB jS 10 dX8_say_5 (by decide) (fun hc5 => ?_) (fun hc5 => ?_)
  · skip
    refine x_aln jS dX8_say_10 rfl hl 0 rfl ?_
    refine x_get jS hK hP h_X8_say_X8 0 rfl rfl 9 rfl m_X8_say_1 rfl dX8_say_11 ?_
    refine x_bi jS dX8_say_14 (by decide) ?_
    refine x_cmpne jS 22 dX8_say_16 (by decide) (by omega) (fun hc16 => ?_) (fun hc16 => ?_)
    · skip
      refine x_aln jS dX8_say_22 rfl hl 0 rfl ?_
      refine x_get jS hK hP h_X8_say_X8 0 rfl rfl 10 rfl m_X8_say_2 rfl dX8_say_23 ?_
      refine x_aln jS dX8_say_26 rfl hl 0 rfl ?_
      refine x_get jS hK hP h_X8_say_X8 0 rfl rfl 9 rfl m_X8_say_1 rfl dX8_say_27 ?_
      refine x_iln jS dX8_say_30 rfl hl 1 rfl ?_
      refine x_iast (ws' := [(mo, .inr (8, [.int (iI P), .int (iI sh), .int (iI sc), .ref xk, .ref xt, .ref xc, .ref xx, .ref xy, .ref xz, .int (iI cnt), .ref xr, .int (iI ak), .long tr, .ref xl, .int (iI L), .ref xC, .ref xF, .ref xK, .ref xn, .ref xb, .ref xw, .ref xa, .int (iI K), .ref yx, .ref yy, .ref yz, .ref yn, .ref yc, .ref yl])), (xr, .inl (cI, 16, .inl (aI (uI row cnt v))))]) jS hK hP hD hS 1 rfl (by omega) dX8_say_31 rfl (fun jH jL hP hD hS => ?_)
      refine x_aln jS dX8_say_32 rfl hl 0 rfl ?_
      refine x_dup jS dX8_say_33 rfl ?_
      refine x_get jS hK hP h_X8_say_X8 0 rfl rfl 9 rfl m_X8_say_1 rfl dX8_say_34 ?_
      refine x_ic jS dX8_say_37 ?_
      refine x_iadd jS dX8_say_38 ?_
      refine x_put (ty0 := tyX8) (ws' := [(mo, .inr (8, [.int (iI P), .int (iI sh), .int (iI sc), .ref xk, .ref xt, .ref xc, .ref xx, .ref xy, .ref xz, .int (iI (cnt + 1)), .ref xr, .int (iI ak), .long tr, .ref xl, .int (iI L), .ref xC, .ref xF, .ref xK, .ref xn, .ref xb, .ref xw, .ref xa, .int (iI K), .ref yx, .ref yy, .ref yz, .ref yn, .ref yc, .ref yl])), (xr, .inl (cI, 16, .inl (aI (uI row cnt v))))]) jS hK hP hD hS h_X8_say_X8 tyX8_ok nmX8 0 rfl rfl 9 rfl m_X8_say_1 rfl rfl rfl rfl dX8_say_39 rfl (fun jH jL hP hD hS => ?_)
      refine x_aln jS dX8_say_42 rfl hl 0 rfl ?_
      refine x_get jS hK hP h_X8_say_X8 0 rfl rfl 9 rfl m_X8_say_1 rfl dX8_say_43 ?_
      exact x_iretW jS jr jk jq dX8_say_46 ⟨(cnt + 1), (uI row cnt v)⟩ hP hD hS (show (iI (cnt + 1)) = (iI (if 0 ≤ v ∧ v < P then (if cnt < 16 then cnt + 1 else -3) else -1)) ∧ (((0 ≤ v ∧ v < P) ∧ cnt < 16 → (cnt + 1) = cnt + 1 ∧ (uI row cnt v) = uI row cnt v) ∧ (¬ ((0 ≤ v ∧ v < P) ∧ cnt < 16) → (cnt + 1) = cnt ∧ (uI row cnt v) = row)) from ⟨by rw [if_pos hc5, if_pos (by omega)], fun g => ⟨rfl, rfl⟩, fun g => absurd ⟨hc5, by omega⟩ g⟩)
    · skip
      refine x_bi jS dX8_say_19 (by decide) ?_
      exact x_iretW jS jr jk jq dX8_say_21 ⟨cnt, row⟩ hP hD hS (show (iI (-3)) = (iI (if 0 ≤ v ∧ v < P then (if cnt < 16 then cnt + 1 else -3) else -1)) ∧ (((0 ≤ v ∧ v < P) ∧ cnt < 16 → cnt = cnt + 1 ∧ row = uI row cnt v) ∧ (¬ ((0 ≤ v ∧ v < P) ∧ cnt < 16) → cnt = cnt ∧ row = row)) from ⟨by rw [if_pos hc5, if_neg (by omega)], fun g => by omega, fun _ => ⟨rfl, rfl⟩⟩)
  · skip
    refine x_ic jS dX8_say_8 ?_
    exact x_iretW jS jr jk jq dX8_say_9 ⟨cnt, row⟩ hP hD hS (show (iI (-1)) = (iI (if 0 ≤ v ∧ v < P then (if cnt < 16 then cnt + 1 else -3) else -1)) ∧ (((0 ≤ v ∧ v < P) ∧ cnt < 16 → cnt = cnt + 1 ∧ row = uI row cnt v) ∧ (¬ ((0 ≤ v ∧ v < P) ∧ cnt < 16) → cnt = cnt ∧ row = row)) from ⟨by rw [if_neg hc5], fun g => absurd g.1 hc5, fun _ => ⟨rfl, rfl⟩⟩)
theorem h_X8_change_X8 : ∀ w ∈ u_ws RX8 TX8 29, w ∈ wsX8_change := fun w h => List.mem_cons_of_mem _ (List.mem_append_right _ h)
theorem m_X8_change_1 : Cond.fieldLink RX8 83 "SealedBoxModel" "said" "I" ∈ wsX8_change := List.mem_of_getElem? (i := 1) rfl
theorem m_X8_change_2 : Cond.fieldLink RX8 38 "SealedBoxModel" "row" "[I" ∈ wsX8_change := List.mem_of_getElem? (i := 2) rfl
abbrev rm_X8_change : Room := { frames := 2, cells := 0, slots := 0, locals := 43 }
set_option maxHeartbeats 4000000 in
set_option maxRecDepth 100000 in
theorem c_X8_change (jl : Launch) (D : va_G) (cI : ClassId) (mo xk xt xc xx xy xz xr xl xC xF xK xn xb xw xa yx yy yz yn yc yl : Nat) (P sh sc cnt ak L K : Int) (tr : Int64) (w v : Int) (row : Int → Int) (sz : Nat) (hP5 : 5 ≤ P ∧ P ≤ 997) (hcnt : 0 ≤ cnt ∧ cnt ≤ 16) (g_w : -2147483648 ≤ w ∧ w < 2147483648) (g_v : -2147483648 ≤ v ∧ v < 2147483648) : Met jl yX8_change wsX8_change rm_X8_change (xPw [.ref mo, .int (iI w), .int (iI v)] D cI [(mo, .inr (8, [.int (iI P), .int (iI sh), .int (iI sc), .ref xk, .ref xt, .ref xc, .ref xx, .ref xy, .ref xz, .int (iI cnt), .ref xr, .int (iI ak), .long tr, .ref xl, .int (iI L), .ref xC, .ref xF, .ref xK, .ref xn, .ref xb, .ref xw, .ref xa, .int (iI K), .ref yx, .ref yy, .ref yz, .ref yn, .ref yc, .ref yl])), (xr, .inl (cI, 16, .inl (aI row)))] sz) (va_Qi (fun (r : Int32) (u : (Int → Int)) => r = (iI (if (0 ≤ w ∧ w < cnt) ∧ (0 ≤ v ∧ v < P) then row w else -1)) ∧ (u = (if (0 ≤ w ∧ w < cnt) ∧ (0 ≤ v ∧ v < P) then uI row w v else row))) (xB D (fun (u : (Int → Int)) => [(mo, .inr (8, [.int (iI P), .int (iI sh), .int (iI sc), .ref xk, .ref xt, .ref xc, .ref xx, .ref xy, .ref xz, .int (iI cnt), .ref xr, .int (iI ak), .long tr, .ref xl, .int (iI L), .ref xC, .ref xF, .ref xK, .ref xn, .ref xb, .ref xw, .ref xa, .int (iI K), .ref yx, .ref yy, .ref yz, .ref yn, .ref yc, .ref yl])), (xr, .inl (cI, 16, .inl (aI u)))]) (va_A [(mo, .inr (8, [.int (iI P), .int (iI sh), .int (iI sc), .ref xk, .ref xt, .ref xc, .ref xx, .ref xy, .ref xz, .int (iI cnt), .ref xr, .int (iI ak), .long tr, .ref xl, .int (iI L), .ref xC, .ref xF, .ref xK, .ref xn, .ref xb, .ref xw, .ref xa, .int (iI K), .ref yx, .ref yy, .ref yz, .ref yn, .ref yc, .ref yl])), (xr, .inl (cI, 16, .inl (aI row)))] sz)) (va_A [(mo, .inr (8, [.int (iI P), .int (iI sh), .int (iI sc), .ref xk, .ref xt, .ref xc, .ref xx, .ref xy, .ref xz, .int (iI cnt), .ref xr, .int (iI ak), .long tr, .ref xl, .int (iI L), .ref xC, .ref xF, .ref xK, .ref xn, .ref xb, .ref xw, .ref xa, .int (iI K), .ref yx, .ref yy, .ref yz, .ref yn, .ref yc, .ref yl])), (xr, .inl (cI, 16, .inl (aI row)))] sz)) 0 0 (va_A [(mo, .inr (8, [.int (iI P), .int (iI sh), .int (iI sc), .ref xk, .ref xt, .ref xc, .ref xx, .ref xy, .ref xz, .int (iI cnt), .ref xr, .int (iI ak), .long tr, .ref xl, .int (iI L), .ref xC, .ref xF, .ref xK, .ref xn, .ref xb, .ref xw, .ref xa, .int (iI K), .ref yx, .ref yy, .ref yz, .ref yn, .ref yc, .ref yl])), (xr, .inl (cI, 16, .inl (aI row)))] sz) := by
  refine x_metW (own := RX8) (cc := cX8_change) (maxL := 4) (ret := (some .int)) (Qc := fun jA => va_Qi (fun (r : Int32) (u : (Int → Int)) => r = (iI (if (0 ≤ w ∧ w < cnt) ∧ (0 ≤ v ∧ v < P) then row w else -1)) ∧ (u = (if (0 ≤ w ∧ w < cnt) ∧ (0 ≤ v ∧ v < P) then uI row w v else row))) (xB D (fun (u : (Int → Int)) => [(mo, .inr (8, [.int (iI P), .int (iI sh), .int (iI sc), .ref xk, .ref xt, .ref xc, .ref xx, .ref xy, .ref xz, .int (iI cnt), .ref xr, .int (iI ak), .long tr, .ref xl, .int (iI L), .ref xC, .ref xF, .ref xK, .ref xn, .ref xb, .ref xw, .ref xa, .int (iI K), .ref yx, .ref yy, .ref yz, .ref yn, .ref yc, .ref yl])), (xr, .inl (cI, 16, .inl (aI u)))]) jA) jA) (by decide) rfl rfl rfl ?_
  intro jp je js jm ja jb jt jc jA jQ jS jr jk jn jq hK hP hD hA hS ls hl
  have hl : lv_has ls 4 [(0, .ref mo), (1, .int (iI w)), (2, .int (iI v))] := hl
  refine x_iln jS dX8_change_0 rfl hl 1 rfl ?_
  refine x_ic jS dX8_change_1 ?_
  refine x_aln jS dX8_change_2 rfl hl 0 rfl ?_
  refine x_get jS hK hP h_X8_change_X8 0 rfl rfl 9 rfl m_X8_change_1 rfl dX8_change_3 ?_
  refine x_ic jS dX8_change_6 ?_
  refine x_isub jS dX8_change_7 ?_
  refine x_rI (x_rmS (As := [.int (iI w), .int (iI 0), .int (iI (cnt - 1))]) (rest := []) jS hl.1 hK (c_X8_in jl D cI w 0 (cnt - 1) (by first | assumption | omega) (by first | assumption | omega) (by first | assumption | omega)) (hP.sub [] rfl) gX8_change_X8_in rfl rfl rfl kf_X8_in rfl rfl rfl rfl rfl dX8_change_8 rfl rfl) ?_
  refine x_ifeqB jS 22 dX8_change_11 (by decide) (fun hc11 => ?_) (fun hc11 => ?_)
  · skip
    refine x_ic jS dX8_change_22 ?_
    exact x_iretW jS jr jk jq dX8_change_23 row hP hD hS (show (iI (-1)) = (iI (if (0 ≤ w ∧ w < cnt) ∧ (0 ≤ v ∧ v < P) then row w else -1)) ∧ (row = (if (0 ≤ w ∧ w < cnt) ∧ (0 ≤ v ∧ v < P) then uI row w v else row)) from ⟨by rw [if_neg (by omega)], by rw [if_neg (by omega)]⟩)
  · skip
    refine x_aln jS dX8_change_14 rfl hl 0 rfl ?_
    refine x_iln jS dX8_change_15 rfl hl 2 rfl ?_
    refine x_rI (x_rmV (As := [.int (iI v)]) (rest := []) jS hl.1 hK (c_X8_isNumber jl D cI mo xk xt xc xx xy xz xr xl xC xF xK xn xb xw xa yx yy yz yn yc yl P sh sc cnt ak L K tr v (by first | assumption | omega) (by first | assumption | omega)) (hP.sub [0] rfl) 0 rfl rfl gX8_change_X8_isNumber rfl rfl rfl kf_X8_isNumber rfl rfl rfl rfl rfl dX8_change_16 rfl rfl) ?_
    refine x_ifneB jS 24 dX8_change_19 (by decide) (fun hc19 => ?_) (fun hc19 => ?_)
    · skip
      refine x_aln jS dX8_change_24 rfl hl 0 rfl ?_
      refine x_get jS hK hP h_X8_change_X8 0 rfl rfl 10 rfl m_X8_change_2 rfl dX8_change_25 ?_
      refine x_iln jS dX8_change_28 rfl hl 1 rfl ?_
      refine x_iald jS hK hP 1 rfl (by omega) dX8_change_29 ?_
      refine x_isn (lv' := [(3, .int (iI (row w))), (0, .ref mo), (1, .int (iI w)), (2, .int (iI v))]) jS dX8_change_30 rfl hl rfl rfl (fun ls hl => ?_)
      refine x_aln jS dX8_change_31 rfl hl 1 rfl ?_
      refine x_get jS hK hP h_X8_change_X8 0 rfl rfl 10 rfl m_X8_change_2 rfl dX8_change_32 ?_
      refine x_iln jS dX8_change_35 rfl hl 2 rfl ?_
      refine x_iln jS dX8_change_36 rfl hl 3 rfl ?_
      refine x_iast (ws' := [(mo, .inr (8, [.int (iI P), .int (iI sh), .int (iI sc), .ref xk, .ref xt, .ref xc, .ref xx, .ref xy, .ref xz, .int (iI cnt), .ref xr, .int (iI ak), .long tr, .ref xl, .int (iI L), .ref xC, .ref xF, .ref xK, .ref xn, .ref xb, .ref xw, .ref xa, .int (iI K), .ref yx, .ref yy, .ref yz, .ref yn, .ref yc, .ref yl])), (xr, .inl (cI, 16, .inl (aI (uI row w v))))]) jS hK hP hD hS 1 rfl (by omega) dX8_change_37 rfl (fun jH jL hP hD hS => ?_)
      refine x_iln jS dX8_change_38 rfl hl 0 rfl ?_
      exact x_iretW jS jr jk jq dX8_change_39 (uI row w v) hP hD hS (show (iI (row w)) = (iI (if (0 ≤ w ∧ w < cnt) ∧ (0 ≤ v ∧ v < P) then row w else -1)) ∧ ((uI row w v) = (if (0 ≤ w ∧ w < cnt) ∧ (0 ≤ v ∧ v < P) then uI row w v else row)) from ⟨by rw [if_pos ⟨by omega, hc19⟩], by rw [if_pos ⟨by omega, hc19⟩]⟩)
    · skip
      refine x_ic jS dX8_change_22 ?_
      exact x_iretW jS jr jk jq dX8_change_23 row hP hD hS (show (iI (-1)) = (iI (if (0 ≤ w ∧ w < cnt) ∧ (0 ≤ v ∧ v < P) then row w else -1)) ∧ (row = (if (0 ≤ w ∧ w < cnt) ∧ (0 ≤ v ∧ v < P) then uI row w v else row)) from ⟨by rw [if_neg (by omega)], by rw [if_neg (by omega)]⟩)
theorem h_X8_clear_X8 : ∀ w ∈ u_ws RX8 TX8 29, w ∈ wsX8_clear := fun w h => List.mem_cons_of_mem _ (List.mem_append_right _ h)
theorem m_X8_clear_1 : Cond.fieldLink RX8 83 "SealedBoxModel" "said" "I" ∈ wsX8_clear := List.mem_of_getElem? (i := 1) rfl
abbrev rm_X8_clear : Room := { frames := 0, cells := 0, slots := 0, locals := 0 }
set_option maxHeartbeats 4000000 in
set_option maxRecDepth 100000 in
theorem c_X8_clear (jl : Launch) (D : va_G) (cI : ClassId) (mo xk xt xc xx xy xz xr xl xC xF xK xn xb xw xa yx yy yz yn yc yl : Nat) (P sh sc cnt ak L K : Int) (tr : Int64) (sz : Nat) : Met jl yX8_clear wsX8_clear rm_X8_clear (xPw [.ref mo] D cI [(mo, .inr (8, [.int (iI P), .int (iI sh), .int (iI sc), .ref xk, .ref xt, .ref xc, .ref xx, .ref xy, .ref xz, .int (iI cnt), .ref xr, .int (iI ak), .long tr, .ref xl, .int (iI L), .ref xC, .ref xF, .ref xK, .ref xn, .ref xb, .ref xw, .ref xa, .int (iI K), .ref yx, .ref yy, .ref yz, .ref yn, .ref yc, .ref yl]))] sz) (va_Qi (fun (r : Int32) (u : Unit) => r = (iI cnt) ∧ (True)) (xB D (fun (u : Unit) => [(mo, .inr (8, [.int (iI P), .int (iI sh), .int (iI sc), .ref xk, .ref xt, .ref xc, .ref xx, .ref xy, .ref xz, .int (iI 0), .ref xr, .int (iI ak), .long tr, .ref xl, .int (iI L), .ref xC, .ref xF, .ref xK, .ref xn, .ref xb, .ref xw, .ref xa, .int (iI K), .ref yx, .ref yy, .ref yz, .ref yn, .ref yc, .ref yl]))]) (va_A [(mo, .inr (8, [.int (iI P), .int (iI sh), .int (iI sc), .ref xk, .ref xt, .ref xc, .ref xx, .ref xy, .ref xz, .int (iI cnt), .ref xr, .int (iI ak), .long tr, .ref xl, .int (iI L), .ref xC, .ref xF, .ref xK, .ref xn, .ref xb, .ref xw, .ref xa, .int (iI K), .ref yx, .ref yy, .ref yz, .ref yn, .ref yc, .ref yl]))] sz)) (va_A [(mo, .inr (8, [.int (iI P), .int (iI sh), .int (iI sc), .ref xk, .ref xt, .ref xc, .ref xx, .ref xy, .ref xz, .int (iI cnt), .ref xr, .int (iI ak), .long tr, .ref xl, .int (iI L), .ref xC, .ref xF, .ref xK, .ref xn, .ref xb, .ref xw, .ref xa, .int (iI K), .ref yx, .ref yy, .ref yz, .ref yn, .ref yc, .ref yl]))] sz)) 0 0 (va_A [(mo, .inr (8, [.int (iI P), .int (iI sh), .int (iI sc), .ref xk, .ref xt, .ref xc, .ref xx, .ref xy, .ref xz, .int (iI cnt), .ref xr, .int (iI ak), .long tr, .ref xl, .int (iI L), .ref xC, .ref xF, .ref xK, .ref xn, .ref xb, .ref xw, .ref xa, .int (iI K), .ref yx, .ref yy, .ref yz, .ref yn, .ref yc, .ref yl]))] sz) := by
  refine x_metW (own := RX8) (cc := cX8_clear) (maxL := 2) (ret := (some .int)) (Qc := fun jA => va_Qi (fun (r : Int32) (u : Unit) => r = (iI cnt) ∧ (True)) (xB D (fun (u : Unit) => [(mo, .inr (8, [.int (iI P), .int (iI sh), .int (iI sc), .ref xk, .ref xt, .ref xc, .ref xx, .ref xy, .ref xz, .int (iI 0), .ref xr, .int (iI ak), .long tr, .ref xl, .int (iI L), .ref xC, .ref xF, .ref xK, .ref xn, .ref xb, .ref xw, .ref xa, .int (iI K), .ref yx, .ref yy, .ref yz, .ref yn, .ref yc, .ref yl]))]) jA) jA) (by decide) rfl rfl rfl ?_
  intro jp je js jm ja jb jt jc jA jQ jS jr jk jn jq hK hP hD hA hS ls hl
  have hl : lv_has ls 2 [(0, .ref mo)] := hl
  refine x_aln jS dX8_clear_0 rfl hl 0 rfl ?_
  refine x_get jS hK hP h_X8_clear_X8 0 rfl rfl 9 rfl m_X8_clear_1 rfl dX8_clear_1 ?_
  refine x_isn (lv' := [(1, .int (iI cnt)), (0, .ref mo)]) jS dX8_clear_4 rfl hl rfl rfl (fun ls hl => ?_)
  refine x_aln jS dX8_clear_5 rfl hl 1 rfl ?_
  refine x_ic jS dX8_clear_6 ?_
  refine x_put (ty0 := tyX8) (ws' := [(mo, .inr (8, [.int (iI P), .int (iI sh), .int (iI sc), .ref xk, .ref xt, .ref xc, .ref xx, .ref xy, .ref xz, .int (iI 0), .ref xr, .int (iI ak), .long tr, .ref xl, .int (iI L), .ref xC, .ref xF, .ref xK, .ref xn, .ref xb, .ref xw, .ref xa, .int (iI K), .ref yx, .ref yy, .ref yz, .ref yn, .ref yc, .ref yl]))]) jS hK hP hD hS h_X8_clear_X8 tyX8_ok nmX8 0 rfl rfl 9 rfl m_X8_clear_1 rfl rfl rfl rfl dX8_clear_7 rfl (fun jH jL hP hD hS => ?_)
  refine x_iln jS dX8_clear_10 rfl hl 0 rfl ?_
  exact x_iretW jS jr jk jq dX8_clear_11 () hP hD hS (show (iI cnt) = (iI cnt) ∧ True from ⟨rfl, trivial⟩)
theorem h_X8_count_X8 : ∀ w ∈ u_ws RX8 TX8 29, w ∈ wsX8_count := fun w h => List.mem_cons_of_mem _ (List.mem_append_right _ h)
theorem m_X8_count_1 : Cond.fieldLink RX8 7 "SealedBoxModel" "p" "I" ∈ wsX8_count := List.mem_of_getElem? (i := 1) rfl
theorem m_X8_count_2 : Cond.fieldLink RX8 23 "SealedBoxModel" "terms" "[I" ∈ wsX8_count := List.mem_of_getElem? (i := 2) rfl
theorem m_X8_count_3 : Cond.fieldLink RX8 83 "SealedBoxModel" "said" "I" ∈ wsX8_count := List.mem_of_getElem? (i := 3) rfl
theorem m_X8_count_4 : Cond.fieldLink RX8 113 "SealedBoxModel" "asks" "I" ∈ wsX8_count := List.mem_of_getElem? (i := 4) rfl
abbrev rm_X8_count : Room := { frames := 0, cells := 0, slots := 0, locals := 0 }
set_option maxHeartbeats 4000000 in
set_option maxRecDepth 100000 in
theorem c_X8_count (jl : Launch) (D : va_G) (cI : ClassId) (mo xk xt xc xx xy xz xr xl xC xF xK xn xb xw xa yx yy yz yn yc yl : Nat) (P sh sc cnt ak L K : Int) (tr : Int64) (tm : Int → Int) (v : Int)  (g_v : -2147483648 ≤ v ∧ v < 2147483648) : Met jl yX8_count wsX8_count rm_X8_count (xPr [.ref mo, .int (iI v)] D cI [(mo, .inr (8, [.int (iI P), .int (iI sh), .int (iI sc), .ref xk, .ref xt, .ref xc, .ref xx, .ref xy, .ref xz, .int (iI cnt), .ref xr, .int (iI ak), .long tr, .ref xl, .int (iI L), .ref xC, .ref xF, .ref xK, .ref xn, .ref xb, .ref xw, .ref xa, .int (iI K), .ref yx, .ref yy, .ref yz, .ref yn, .ref yc, .ref yl])), (xt, .inl (cI, 2, .inl (aI tm)))]) (vp_Si (fun r => r = (iI (if v = 0 then P else if v = 1 then tm 0 else if v = 2 then tm 1 else if v = 3 then cnt else if v = 4 then ak else -1)))) 0 0 (fun _ => False) := by
  refine x_metR (own := RX8) (cc := cX8_count) (maxL := 2) (ret := (some .int)) (by decide) rfl rfl rfl ?_
  intro jp je js jm ja jb jt jc jQ jS jr jk jq hK hP ls hl
  have hl : lv_has ls 2 [(0, .ref mo), (1, .int (iI v))] := hl
  refine x_iln jS dX8_count_0 rfl hl 1 rfl ?_
  by_cases hc1 : v < 0 ∨ 4 < v
  · refine x_swO jS 60 dX8_count_1 (by omega) hc1 (by decide) ?_
    refine x_ic jS dX8_count_60 ?_
    exact x_iretR jS jr jk jq dX8_count_61 (by have e0 : v ≠ 0 := (by omega); have e1 : v ≠ 1 := (by omega); have e2 : v ≠ 2 := (by omega); have e3 : v ≠ 3 := (by omega); have e4 : v ≠ 4 := (by omega); simp [e0, e1, e2, e3, e4])
  by_cases hc1_0 : v = 0
  · refine x_swI (k := 0) jS 36 dX8_count_1 hc1_0 (by decide) (by decide) rfl (by decide) ?_
    refine x_aln jS dX8_count_36 rfl hl 0 rfl ?_
    refine x_get jS hK hP h_X8_count_X8 0 rfl rfl 0 rfl m_X8_count_1 rfl dX8_count_37 ?_
    exact x_iretR jS jr jk jq dX8_count_40 (by simp [hc1_0])
  by_cases hc1_1 : v = 1
  · refine x_swI (k := 1) jS 41 dX8_count_1 hc1_1 (by decide) (by decide) rfl (by decide) ?_
    refine x_aln jS dX8_count_41 rfl hl 0 rfl ?_
    refine x_get jS hK hP h_X8_count_X8 0 rfl rfl 4 rfl m_X8_count_2 rfl dX8_count_42 ?_
    refine x_iln jS dX8_count_45 rfl hl 1 rfl ?_
    refine x_ic jS dX8_count_46 ?_
    refine x_isub jS dX8_count_47 ?_
    refine x_iald jS hK hP 1 rfl (by omega) dX8_count_48 ?_
    exact x_iretR jS jr jk jq dX8_count_49 (by simp [hc1_1])
  by_cases hc1_2 : v = 2
  · refine x_swI (k := 2) jS 41 dX8_count_1 hc1_2 (by decide) (by decide) rfl (by decide) ?_
    refine x_aln jS dX8_count_41 rfl hl 0 rfl ?_
    refine x_get jS hK hP h_X8_count_X8 0 rfl rfl 4 rfl m_X8_count_2 rfl dX8_count_42 ?_
    refine x_iln jS dX8_count_45 rfl hl 1 rfl ?_
    refine x_ic jS dX8_count_46 ?_
    refine x_isub jS dX8_count_47 ?_
    refine x_iald jS hK hP 1 rfl (by omega) dX8_count_48 ?_
    exact x_iretR jS jr jk jq dX8_count_49 (by simp [hc1_2])
  by_cases hc1_3 : v = 3
  · refine x_swI (k := 3) jS 50 dX8_count_1 hc1_3 (by decide) (by decide) rfl (by decide) ?_
    refine x_aln jS dX8_count_50 rfl hl 0 rfl ?_
    refine x_get jS hK hP h_X8_count_X8 0 rfl rfl 9 rfl m_X8_count_3 rfl dX8_count_51 ?_
    exact x_iretR jS jr jk jq dX8_count_54 (by simp [hc1_3])
  have hc1_4 : v = 4 := by omega
  refine x_swI (k := 4) jS 55 dX8_count_1 hc1_4 (by decide) (by decide) rfl (by decide) ?_
  refine x_aln jS dX8_count_55 rfl hl 0 rfl ?_
  refine x_get jS hK hP h_X8_count_X8 0 rfl rfl 11 rfl m_X8_count_4 rfl dX8_count_56 ?_
  exact x_iretR jS jr jk jq dX8_count_59 (by simp [hc1_4])
theorem h_X8_trace_X8 : ∀ w ∈ u_ws RX8 TX8 29, w ∈ wsX8_trace := fun w h => List.mem_cons_of_mem _ (List.mem_append_right _ h)
theorem m_X8_trace_1 : Cond.fieldLink RX8 98 "SealedBoxModel" "trace" "J" ∈ wsX8_trace := List.mem_of_getElem? (i := 1) rfl
abbrev rm_X8_trace : Room := { frames := 0, cells := 0, slots := 0, locals := 0 }
set_option maxHeartbeats 4000000 in
set_option maxRecDepth 100000 in
theorem c_X8_trace (jl : Launch) (D : va_G) (cI : ClassId) (mo xk xt xc xx xy xz xr xl xC xF xK xn xb xw xa yx yy yz yn yc yl : Nat) (P sh sc cnt ak L K : Int) (tr : Int64)  : Met jl yX8_trace wsX8_trace rm_X8_trace (xPr [.ref mo] D cI [(mo, .inr (8, [.int (iI P), .int (iI sh), .int (iI sc), .ref xk, .ref xt, .ref xc, .ref xx, .ref xy, .ref xz, .int (iI cnt), .ref xr, .int (iI ak), .long tr, .ref xl, .int (iI L), .ref xC, .ref xF, .ref xK, .ref xn, .ref xb, .ref xw, .ref xa, .int (iI K), .ref yx, .ref yy, .ref yz, .ref yn, .ref yc, .ref yl]))]) (vp_Sl (fun r => r = tr)) 0 0 (fun _ => False) := by
  refine x_metR (own := RX8) (cc := cX8_trace) (maxL := 1) (ret := (some .long)) (by decide) rfl rfl rfl ?_
  intro jp je js jm ja jb jt jc jQ jS jr jk jq hK hP ls hl
  have hl : lv_has ls 1 [(0, .ref mo)] := hl
  refine x_aln jS dX8_trace_0 rfl hl 0 rfl ?_
  refine x_get jS hK hP h_X8_trace_X8 0 rfl rfl 12 rfl m_X8_trace_1 rfl dX8_trace_1 ?_
  exact x_lretR jS jr jk jq dX8_trace_4 (rfl)
