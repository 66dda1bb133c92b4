/-! SealedBox: the field, boxes -/
theorem h_X7_boxOf_X7 : ∀ w ∈ u_ws RX7 TX7 12, w ∈ wsX7_boxOf := fun w h => List.mem_cons_of_mem _ (List.mem_append_right _ h)
theorem m_X7_boxOf_1 : Cond.fieldLink RX7 30 "SealedBox" "first" "LSealedBox$Box;" ∈ wsX7_boxOf := List.mem_of_getElem? (i := 1) rfl
abbrev rm_X7_boxOf : Room := { frames := 0, cells := 0, slots := 0, locals := 0 }
set_option maxHeartbeats 4000000 in
set_option maxRecDepth 100000 in
theorem c_X7_boxOf (jl : Launch) (D : va_G) (cI : ClassId) (sb h4 h0 b1 b2 qr r1 o3 o2 o5 : Nat) (cnt ak : Int) (tr : Int64) (v : Int)  (g_v : -2147483648 ≤ v ∧ v < 2147483648) (hv0 : v = 0) : Met jl yX7_boxOf wsX7_boxOf rm_X7_boxOf (xPr [.ref sb, .int (iI v)] D cI [(sb, .inr (7, [.ref h4, .ref h0, .ref b1, .ref b2, .ref qr, .ref r1, .ref o3, .ref o2, .ref o5, .int (iI cnt), .int (iI ak), .long tr]))]) (va_Sr (fun r => r = b1) (fun k => .ref k)) 0 0 (fun _ => False) := by
  refine x_metR (own := RX7) (cc := cX7_boxOf) (maxL := 2) (ret := (some (.object "SealedBox$Box"))) (by decide) rfl rfl rfl ?_
  intro jp je js jm ja jb jt jc jQ jS jr jk jq hK hP ls hl
  have hl : lv_has ls 2 [(0, .ref sb), (1, .int (iI v))] := hl
  refine x_iln jS dX7_boxOf_0 rfl hl 1 rfl ?_
  refine x_ifne jS 11 dX7_boxOf_1 (by decide) (by omega) (fun hc1 => ?_) (fun hc1 => ?_)
  · exfalso; omega
  refine x_aln jS dX7_boxOf_4 rfl hl 0 rfl ?_
  refine x_get jS hK hP h_X7_boxOf_X7 0 rfl rfl 2 rfl m_X7_boxOf_1 rfl dX7_boxOf_5 ?_
  refine x_goto jS 15 dX7_boxOf_8 (by decide) ?_
  exact x_aretR jS jr jk jq dX7_boxOf_15 (rfl)
theorem m_X7_boxOf_2 : Cond.fieldLink RX7 34 "SealedBox" "second" "LSealedBox$Box;" ∈ wsX7_boxOf := List.mem_of_getElem? (i := 2) rfl
abbrev rm_X7_boxOf1 : Room := { frames := 0, cells := 0, slots := 0, locals := 0 }
set_option maxHeartbeats 4000000 in
set_option maxRecDepth 100000 in
theorem c_X7_boxOf1 (jl : Launch) (D : va_G) (cI : ClassId) (sb h4 h0 b1 b2 qr r1 o3 o2 o5 : Nat) (cnt ak : Int) (tr : Int64) (v : Int)  (g_v : -2147483648 ≤ v ∧ v < 2147483648) (hv0 : ¬ v = 0) : Met jl yX7_boxOf wsX7_boxOf rm_X7_boxOf1 (xPr [.ref sb, .int (iI v)] D cI [(sb, .inr (7, [.ref h4, .ref h0, .ref b1, .ref b2, .ref qr, .ref r1, .ref o3, .ref o2, .ref o5, .int (iI cnt), .int (iI ak), .long tr]))]) (va_Sr (fun r => r = b2) (fun k => .ref k)) 0 0 (fun _ => False) := by
  refine x_metR (own := RX7) (cc := cX7_boxOf) (maxL := 2) (ret := (some (.object "SealedBox$Box"))) (by decide) rfl rfl rfl ?_
  intro jp je js jm ja jb jt jc jQ jS jr jk jq hK hP ls hl
  have hl : lv_has ls 2 [(0, .ref sb), (1, .int (iI v))] := hl
  refine x_iln jS dX7_boxOf_0 rfl hl 1 rfl ?_
  refine x_ifne jS 11 dX7_boxOf_1 (by decide) (by omega) (fun hc1 => ?_) (fun hc1 => ?_)
  rotate_left
  · exfalso; omega
  refine x_aln jS dX7_boxOf_11 rfl hl 0 rfl ?_
  refine x_get jS hK hP h_X7_boxOf_X7 0 rfl rfl 3 rfl m_X7_boxOf_2 rfl dX7_boxOf_12 ?_
  exact x_aretR jS jr jk jq dX7_boxOf_15 (rfl)
theorem h_X7_arePoint_X7 : ∀ w ∈ u_ws RX7 TX7 12, w ∈ wsX7_arePoint := fun w h => List.mem_cons_of_mem _ (List.mem_append_left _ (List.mem_append_right _ h))
theorem m_X7_arePoint_1 : Cond.fieldLink RX7 10 "SealedBox" "numbers" "LSealedBox$PrimeField;" ∈ wsX7_arePoint := List.mem_of_getElem? (i := 1) rfl
theorem kf_X4_has : kfV yX4_has RX4 1 := by decide +kernel
abbrev rm_X7_arePoint : Room := { frames := 1, cells := 0, slots := 0, locals := 21 }
set_option maxHeartbeats 4000000 in
set_option maxRecDepth 100000 in
theorem c_X7_arePoint (jl : Launch) (D : va_G) (cI : ClassId) (sb h4 h0 b1 b2 qr r1 o3 o2 o5 : Nat) (cnt ak : Int) (tr : Int64) (q4 : Nat) (P x y z : Int)  (hP5 : 5 ≤ P ∧ P ≤ 997) (g_x : -2147483648 ≤ x ∧ x < 2147483648) (g_y : -2147483648 ≤ y ∧ y < 2147483648) (g_z : -2147483648 ≤ z ∧ z < 2147483648) : Met jl yX7_arePoint wsX7_arePoint rm_X7_arePoint (xPr [.ref sb, .int (iI x), .int (iI y), .int (iI z)] D cI [(sb, .inr (7, [.ref h4, .ref h0, .ref b1, .ref b2, .ref qr, .ref r1, .ref o3, .ref o2, .ref o5, .int (iI cnt), .int (iI ak), .long tr])), (h4, .inr (4, [.ref q4, .int (iI P)]))]) (vp_Si (fun r => r = (iI (bI ((0 ≤ x ∧ x < P) ∧ (0 ≤ y ∧ y < P) ∧ (0 ≤ z ∧ z < P)))))) 0 0 (fun _ => False) := by
  refine x_metR (own := RX7) (cc := cX7_arePoint) (maxL := 4) (ret := (some .boolean)) (by decide) rfl rfl rfl ?_
  intro jp je js jm ja jb jt jc jQ jS jr jk jq hK hP ls hl
  have hl : lv_has ls 4 [(0, .ref sb), (1, .int (iI x)), (2, .int (iI y)), (3, .int (iI z))] := hl
  refine x_aln jS dX7_arePoint_0 rfl hl 0 rfl ?_
  refine x_get jS hK hP h_X7_arePoint_X7 0 rfl rfl 0 rfl m_X7_arePoint_1 rfl dX7_arePoint_1 ?_
  refine x_iln jS dX7_arePoint_4 rfl hl 1 rfl ?_
  refine x_rI (x_rmV (As := [.int (iI x)]) (rest := []) jS hl.1 hK (c_X4_has jl D cI h4 q4 P x (by first | assumption | omega) (by first | assumption | omega)) (hP.sub [1] rfl) 0 rfl rfl gX7_arePoint_X4_has rfl rfl rfl kf_X4_has rfl rfl rfl rfl rfl dX7_arePoint_5 rfl rfl) ?_
  refine x_ifeqB jS 37 dX7_arePoint_8 (by decide) (fun hc8 => ?_) (fun hc8 => ?_)
  · skip
    refine x_ic jS dX7_arePoint_37 ?_
    exact x_zretR jS jr jk jq dX7_arePoint_38 rfl (congrArg iI (bI_f (by omega)).symm)
  · skip
    refine x_aln jS dX7_arePoint_11 rfl hl 0 rfl ?_
    refine x_get jS hK hP h_X7_arePoint_X7 0 rfl rfl 0 rfl m_X7_arePoint_1 rfl dX7_arePoint_12 ?_
    refine x_iln jS dX7_arePoint_15 rfl hl 2 rfl ?_
    refine x_rI (x_rmV (As := [.int (iI y)]) (rest := []) jS hl.1 hK (c_X4_has jl D cI h4 q4 P y (by first | assumption | omega) (by first | assumption | omega)) (hP.sub [1] rfl) 0 rfl rfl gX7_arePoint_X4_has rfl rfl rfl kf_X4_has rfl rfl rfl rfl rfl dX7_arePoint_16 rfl rfl) ?_
    refine x_ifeqB jS 37 dX7_arePoint_19 (by decide) (fun hc19 => ?_) (fun hc19 => ?_)
    · skip
      refine x_ic jS dX7_arePoint_37 ?_
      exact x_zretR jS jr jk jq dX7_arePoint_38 rfl (congrArg iI (bI_f (by omega)).symm)
    · skip
      refine x_aln jS dX7_arePoint_22 rfl hl 0 rfl ?_
      refine x_get jS hK hP h_X7_arePoint_X7 0 rfl rfl 0 rfl m_X7_arePoint_1 rfl dX7_arePoint_23 ?_
      refine x_iln jS dX7_arePoint_26 rfl hl 3 rfl ?_
      refine x_rI (x_rmV (As := [.int (iI z)]) (rest := []) jS hl.1 hK (c_X4_has jl D cI h4 q4 P z (by first | assumption | omega) (by first | assumption | omega)) (hP.sub [1] rfl) 0 rfl rfl gX7_arePoint_X4_has rfl rfl rfl kf_X4_has rfl rfl rfl rfl rfl dX7_arePoint_27 rfl rfl) ?_
      refine x_ifeqB jS 37 dX7_arePoint_30 (by decide) (fun hc30 => ?_) (fun hc30 => ?_)
      · skip
        refine x_ic jS dX7_arePoint_37 ?_
        exact x_zretR jS jr jk jq dX7_arePoint_38 rfl (congrArg iI (bI_f (by omega)).symm)
      · skip
        refine x_ic jS dX7_arePoint_33 ?_
        refine x_goto jS 38 dX7_arePoint_34 (by decide) ?_
        exact x_zretR jS jr jk jq dX7_arePoint_38 rfl (congrArg iI (bI_t (by omega)).symm)
theorem h_X7_field_X7 : ∀ w ∈ u_ws RX7 TX7 12, w ∈ wsX7_field := fun w h => List.mem_cons_of_mem _ (List.mem_append_left _ (List.mem_append_left _ (List.mem_append_right _ h)))
theorem m_X7_field_1 : Cond.fieldLink RX7 10 "SealedBox" "numbers" "LSealedBox$PrimeField;" ∈ wsX7_field := List.mem_of_getElem? (i := 1) rfl
theorem h_X7_field_X4 : ∀ w ∈ u_ws RX4 TX4 2, w ∈ wsX7_field := fun w h => List.mem_cons_of_mem _ (List.mem_append_left _ (List.mem_append_right _ h))
theorem kf_X4_become : kfV yX4_become RX4 1 := by decide +kernel
theorem m_X7_field_2 : Cond.fieldLink RX7 30 "SealedBox" "first" "LSealedBox$Box;" ∈ wsX7_field := List.mem_of_getElem? (i := 2) rfl
theorem m_X7_field_3 : Cond.fieldLink RX7 34 "SealedBox" "second" "LSealedBox$Box;" ∈ wsX7_field := List.mem_of_getElem? (i := 3) rfl
theorem m_X7_field_4 : Cond.fieldLink RX7 69 "SealedBox" "rowLength" "I" ∈ wsX7_field := List.mem_of_getElem? (i := 4) rfl
abbrev rm_X7_field : Room := { frames := 2, cells := 0, slots := 0, locals := 42 }
set_option maxHeartbeats 4000000 in
set_option maxRecDepth 100000 in
theorem c_X7_field (jl : Launch) (D : va_G) (cI : ClassId) (sb h4 h0 b1 b2 qr r1 o3 o2 o5 : Nat) (cnt ak : Int) (tr : Int64) (p1 f1 l1 p2 f2 l2 : Nat) (k1 n1 k2 n2 : Int) (q4 : Nat) (P v : Int) (iv : Int → Int) (sz : Nat) (g_v : -2147483648 ≤ v ∧ v < 2147483648) : Met jl yX7_field wsX7_field rm_X7_field (xPw [.ref sb, .int (iI v)] D cI [(sb, .inr (7, [.ref h4, .ref h0, .ref b1, .ref b2, .ref qr, .ref r1, .ref o3, .ref o2, .ref o5, .int (iI cnt), .int (iI ak), .long tr])), (b1, .inr (1, [.ref h4, .ref h0, .ref p1, .ref f1, .ref l1, .int (iI k1), .int (iI n1)])), (b2, .inr (1, [.ref h4, .ref h0, .ref p2, .ref f2, .ref l2, .int (iI k2), .int (iI n2)])), (h4, .inr (4, [.ref q4, .int (iI P)])), (q4, .inl (cI, 997, .inl (aI iv)))] sz) (va_Qi (fun (r : Int32) (u : Int × Int × Int × Int × (Int → Int)) => r = (iI (if okP v then P else -1)) ∧ ((okP v → u.2.2.2.1 = v ∧ tbl v u.2.2.2.2 ∧ u.2.1 = 0 ∧ u.2.2.1 = 0 ∧ u.1 = 0) ∧ (¬ okP v → u.2.2.2.1 = P ∧ u.2.2.2.2 = iv ∧ u.2.1 = n1 ∧ u.2.2.1 = n2 ∧ u.1 = cnt))) (xB D (fun (u : Int × Int × Int × Int × (Int → Int)) => [(sb, .inr (7, [.ref h4, .ref h0, .ref b1, .ref b2, .ref qr, .ref r1, .ref o3, .ref o2, .ref o5, .int (iI u.1), .int (iI ak), .long tr])), (b1, .inr (1, [.ref h4, .ref h0, .ref p1, .ref f1, .ref l1, .int (iI k1), .int (iI u.2.1)])), (b2, .inr (1, [.ref h4, .ref h0, .ref p2, .ref f2, .ref l2, .int (iI k2), .int (iI u.2.2.1)])), (h4, .inr (4, [.ref q4, .int (iI u.2.2.2.1)])), (q4, .inl (cI, 997, .inl (aI u.2.2.2.2)))]) (va_A [(sb, .inr (7, [.ref h4, .ref h0, .ref b1, .ref b2, .ref qr, .ref r1, .ref o3, .ref o2, .ref o5, .int (iI cnt), .int (iI ak), .long tr])), (b1, .inr (1, [.ref h4, .ref h0, .ref p1, .ref f1, .ref l1, .int (iI k1), .int (iI n1)])), (b2, .inr (1, [.ref h4, .ref h0, .ref p2, .ref f2, .ref l2, .int (iI k2), .int (iI n2)])), (h4, .inr (4, [.ref q4, .int (iI P)])), (q4, .inl (cI, 997, .inl (aI iv)))] sz)) (va_A [(sb, .inr (7, [.ref h4, .ref h0, .ref b1, .ref b2, .ref qr, .ref r1, .ref o3, .ref o2, .ref o5, .int (iI cnt), .int (iI ak), .long tr])), (b1, .inr (1, [.ref h4, .ref h0, .ref p1, .ref f1, .ref l1, .int (iI k1), .int (iI n1)])), (b2, .inr (1, [.ref h4, .ref h0, .ref p2, .ref f2, .ref l2, .int (iI k2), .int (iI n2)])), (h4, .inr (4, [.ref q4, .int (iI P)])), (q4, .inl (cI, 997, .inl (aI iv)))] sz)) 0 0 (va_A [(sb, .inr (7, [.ref h4, .ref h0, .ref b1, .ref b2, .ref qr, .ref r1, .ref o3, .ref o2, .ref o5, .int (iI cnt), .int (iI ak), .long tr])), (b1, .inr (1, [.ref h4, .ref h0, .ref p1, .ref f1, .ref l1, .int (iI k1), .int (iI n1)])), (b2, .inr (1, [.ref h4, .ref h0, .ref p2, .ref f2, .ref l2, .int (iI k2), .int (iI n2)])), (h4, .inr (4, [.ref q4, .int (iI P)])), (q4, .inl (cI, 997, .inl (aI iv)))] sz) := by
  refine x_metW (own := RX7) (cc := cX7_field) (maxL := 3) (ret := (some .int)) (Qc := fun jA => va_Qi (fun (r : Int32) (u : Int × Int × Int × Int × (Int → Int)) => r = (iI (if okP v then P else -1)) ∧ ((okP v → u.2.2.2.1 = v ∧ tbl v u.2.2.2.2 ∧ u.2.1 = 0 ∧ u.2.2.1 = 0 ∧ u.1 = 0) ∧ (¬ okP v → u.2.2.2.1 = P ∧ u.2.2.2.2 = iv ∧ u.2.1 = n1 ∧ u.2.2.1 = n2 ∧ u.1 = cnt))) (xB D (fun (u : Int × Int × Int × Int × (Int → Int)) => [(sb, .inr (7, [.ref h4, .ref h0, .ref b1, .ref b2, .ref qr, .ref r1, .ref o3, .ref o2, .ref o5, .int (iI u.1), .int (iI ak), .long tr])), (b1, .inr (1, [.ref h4, .ref h0, .ref p1, .ref f1, .ref l1, .int (iI k1), .int (iI u.2.1)])), (b2, .inr (1, [.ref h4, .ref h0, .ref p2, .ref f2, .ref l2, .int (iI k2), .int (iI u.2.2.1)])), (h4, .inr (4, [.ref q4, .int (iI u.2.2.2.1)])), (q4, .inl (cI, 997, .inl (aI u.2.2.2.2)))]) jA) jA) (by decide) rfl rfl rfl ?_
  intro jp je js jm ja jb jt jc jA jQ jS jr jk jn jq hK hP hD hA hS ls hl
  have hl : lv_has ls 3 [(0, .ref sb), (1, .int (iI v))] := hl
  refine x_aln jS dX7_field_0 rfl hl 0 rfl ?_
  refine x_get jS hK hP h_X7_field_X7 0 rfl rfl 0 rfl m_X7_field_1 rfl dX7_field_1 ?_
  refine x_getN jS hK hP h_X7_field_X4 3 rfl rfl 1 rfl 0 rfl rfl dX7_field_4 ?_
  refine x_isn (lv' := [(2, .int (iI P)), (0, .ref sb), (1, .int (iI v))]) jS dX7_field_7 rfl hl rfl rfl (fun ls hl => ?_)
  refine x_aln jS dX7_field_8 rfl hl 1 rfl ?_
  refine x_get jS hK hP h_X7_field_X7 0 rfl rfl 0 rfl m_X7_field_1 rfl dX7_field_9 ?_
  refine x_iln jS dX7_field_12 rfl hl 2 rfl ?_
  refine x_aI (wc := [(h4, .inr (4, [.ref q4, .int (iI P)])), (q4, .inl (cI, 997, .inl (aI iv)))]) (wr := [(sb, .inr (7, [.ref h4, .ref h0, .ref b1, .ref b2, .ref qr, .ref r1, .ref o3, .ref o2, .ref o5, .int (iI cnt), .int (iI ak), .long tr])), (b1, .inr (1, [.ref h4, .ref h0, .ref p1, .ref f1, .ref l1, .int (iI k1), .int (iI n1)])), (b2, .inr (1, [.ref h4, .ref h0, .ref p2, .ref f2, .ref l2, .int (iI k2), .int (iI n2)]))]) hP hD hS hA [3, 4] [0, 1, 2] rfl rfl (by decide) (by decide) (cs := 0) (ss := 0) rfl rfl (x_rnV (As := [.int (iI v)]) (rest := []) jS hl.1 hK (c_X4_become jl D cI h4 q4 P v iv _ (by first | assumption | omega)) hP hD [3, 4] rfl rfl (by decide) 0 rfl rfl gX7_field_X4_become rfl rfl rfl kf_X4_become rfl rfl rfl rfl rfl dX7_field_13 rfl rfl) (fun jv u jH jL hw hP hD hS => ?_)
  obtain ⟨P3, iv3⟩ := u
  obtain ⟨hv, hw⟩ := hw
  have hw13 : (okP v → P3 = v ∧ tbl v iv3) ∧ (¬ okP v → P3 = P ∧ iv3 = iv) := hw
  subst hv
  have hP : va_P D vwCl [(sb, .inr (7, [.ref h4, .ref h0, .ref b1, .ref b2, .ref qr, .ref r1, .ref o3, .ref o2, .ref o5, .int (iI cnt), .int (iI ak), .long tr])), (b1, .inr (1, [.ref h4, .ref h0, .ref p1, .ref f1, .ref l1, .int (iI k1), .int (iI n1)])), (b2, .inr (1, [.ref h4, .ref h0, .ref p2, .ref f2, .ref l2, .int (iI k2), .int (iI n2)])), (h4, .inr (4, [.ref q4, .int (iI P3)])), (q4, .inl (cI, 997, .inl (aI iv3)))] jH := hP
  have hD : va_D jA [(sb, .inr (7, [.ref h4, .ref h0, .ref b1, .ref b2, .ref qr, .ref r1, .ref o3, .ref o2, .ref o5, .int (iI cnt), .int (iI ak), .long tr])), (b1, .inr (1, [.ref h4, .ref h0, .ref p1, .ref f1, .ref l1, .int (iI k1), .int (iI n1)])), (b2, .inr (1, [.ref h4, .ref h0, .ref p2, .ref f2, .ref l2, .int (iI k2), .int (iI n2)])), (h4, .inr (4, [.ref q4, .int (iI P3)])), (q4, .inl (cI, 997, .inl (aI iv3)))] := hD
  refine x_ifneB jS 21 dX7_field_16 (by decide) (fun hc16 => ?_) (fun hc16 => ?_)
  · skip
    refine x_aln jS dX7_field_21 rfl hl 1 rfl ?_
    refine x_get jS hK hP h_X7_field_X7 0 rfl rfl 2 rfl m_X7_field_2 rfl dX7_field_22 ?_
    refine x_aV (wc := [(b1, .inr (1, [.ref h4, .ref h0, .ref p1, .ref f1, .ref l1, .int (iI k1), .int (iI n1)]))]) (wr := [(sb, .inr (7, [.ref h4, .ref h0, .ref b1, .ref b2, .ref qr, .ref r1, .ref o3, .ref o2, .ref o5, .int (iI cnt), .int (iI ak), .long tr])), (b2, .inr (1, [.ref h4, .ref h0, .ref p2, .ref f2, .ref l2, .int (iI k2), .int (iI n2)])), (h4, .inr (4, [.ref q4, .int (iI P3)])), (q4, .inl (cI, 997, .inl (aI iv3)))]) hP hD hS hA [1] [0, 2, 3, 4] rfl rfl (by decide) (by decide) (cs := 0) (ss := 0) rfl rfl (x_rnV (As := []) (rest := []) jS hl.1 hK (c_X1_drop jl D cI b1 p1 f1 l1 h0 h4 k1 n1 _ ) hP hD [1] rfl rfl (by decide) 0 rfl rfl gX7_field_X1_drop rfl rfl rfl kf_X1_drop rfl rfl rfl rfl rfl dX7_field_25 rfl rfl) (fun u jH jL hw hP hD hS => ?_)
    have hw25 : True := hw
    clear hw
    have hP : va_P D vwCl [(sb, .inr (7, [.ref h4, .ref h0, .ref b1, .ref b2, .ref qr, .ref r1, .ref o3, .ref o2, .ref o5, .int (iI cnt), .int (iI ak), .long tr])), (b2, .inr (1, [.ref h4, .ref h0, .ref p2, .ref f2, .ref l2, .int (iI k2), .int (iI n2)])), (h4, .inr (4, [.ref q4, .int (iI P3)])), (q4, .inl (cI, 997, .inl (aI iv3))), (b1, .inr (1, [.ref h4, .ref h0, .ref p1, .ref f1, .ref l1, .int (iI k1), .int (iI 0)]))] jH := hP
    have hD : va_D jA [(sb, .inr (7, [.ref h4, .ref h0, .ref b1, .ref b2, .ref qr, .ref r1, .ref o3, .ref o2, .ref o5, .int (iI cnt), .int (iI ak), .long tr])), (b2, .inr (1, [.ref h4, .ref h0, .ref p2, .ref f2, .ref l2, .int (iI k2), .int (iI n2)])), (h4, .inr (4, [.ref q4, .int (iI P3)])), (q4, .inl (cI, 997, .inl (aI iv3))), (b1, .inr (1, [.ref h4, .ref h0, .ref p1, .ref f1, .ref l1, .int (iI k1), .int (iI 0)]))] := hD
    refine x_aln jS dX7_field_28 rfl hl 1 rfl ?_
    refine x_get jS hK hP h_X7_field_X7 0 rfl rfl 3 rfl m_X7_field_3 rfl dX7_field_29 ?_
    refine x_aV (wc := [(b2, .inr (1, [.ref h4, .ref h0, .ref p2, .ref f2, .ref l2, .int (iI k2), .int (iI n2)]))]) (wr := [(sb, .inr (7, [.ref h4, .ref h0, .ref b1, .ref b2, .ref qr, .ref r1, .ref o3, .ref o2, .ref o5, .int (iI cnt), .int (iI ak), .long tr])), (h4, .inr (4, [.ref q4, .int (iI P3)])), (q4, .inl (cI, 997, .inl (aI iv3))), (b1, .inr (1, [.ref h4, .ref h0, .ref p1, .ref f1, .ref l1, .int (iI k1), .int (iI 0)]))]) hP hD hS hA [1] [0, 2, 3, 4] rfl rfl (by decide) (by decide) (cs := 0) (ss := 0) rfl rfl (x_rnV (As := []) (rest := []) jS hl.1 hK (c_X1_drop jl D cI b2 p2 f2 l2 h0 h4 k2 n2 _ ) hP hD [1] rfl rfl (by decide) 0 rfl rfl gX7_field_X1_drop rfl rfl rfl kf_X1_drop rfl rfl rfl rfl rfl dX7_field_32 rfl rfl) (fun u jH jL hw hP hD hS => ?_)
    have hw32 : True := hw
    clear hw
    have hP : va_P D vwCl [(sb, .inr (7, [.ref h4, .ref h0, .ref b1, .ref b2, .ref qr, .ref r1, .ref o3, .ref o2, .ref o5, .int (iI cnt), .int (iI ak), .long tr])), (h4, .inr (4, [.ref q4, .int (iI P3)])), (q4, .inl (cI, 997, .inl (aI iv3))), (b1, .inr (1, [.ref h4, .ref h0, .ref p1, .ref f1, .ref l1, .int (iI k1), .int (iI 0)])), (b2, .inr (1, [.ref h4, .ref h0, .ref p2, .ref f2, .ref l2, .int (iI k2), .int (iI 0)]))] jH := hP
    have hD : va_D jA [(sb, .inr (7, [.ref h4, .ref h0, .ref b1, .ref b2, .ref qr, .ref r1, .ref o3, .ref o2, .ref o5, .int (iI cnt), .int (iI ak), .long tr])), (h4, .inr (4, [.ref q4, .int (iI P3)])), (q4, .inl (cI, 997, .inl (aI iv3))), (b1, .inr (1, [.ref h4, .ref h0, .ref p1, .ref f1, .ref l1, .int (iI k1), .int (iI 0)])), (b2, .inr (1, [.ref h4, .ref h0, .ref p2, .ref f2, .ref l2, .int (iI k2), .int (iI 0)]))] := hD
    refine x_aln jS dX7_field_35 rfl hl 1 rfl ?_
    refine x_ic jS dX7_field_36 ?_
    refine x_put (ty0 := tyX7) (ws' := [(sb, .inr (7, [.ref h4, .ref h0, .ref b1, .ref b2, .ref qr, .ref r1, .ref o3, .ref o2, .ref o5, .int (iI 0), .int (iI ak), .long tr])), (h4, .inr (4, [.ref q4, .int (iI P3)])), (q4, .inl (cI, 997, .inl (aI iv3))), (b1, .inr (1, [.ref h4, .ref h0, .ref p1, .ref f1, .ref l1, .int (iI k1), .int (iI 0)])), (b2, .inr (1, [.ref h4, .ref h0, .ref p2, .ref f2, .ref l2, .int (iI k2), .int (iI 0)]))]) jS hK hP hD hS h_X7_field_X7 tyX7_ok nmX7 0 rfl rfl 9 rfl m_X7_field_4 rfl rfl rfl rfl dX7_field_37 rfl (fun jH jL hP hD hS => ?_)
    refine x_iln jS dX7_field_40 rfl hl 0 rfl ?_
    exact x_iretW jS jr jk jq dX7_field_41 ⟨0, 0, 0, P3, iv3⟩ (hP.sub [0, 3, 4, 1, 2] rfl) (hD.sub [0, 3, 4, 1, 2] (by decide) rfl) hS (show (iI P) = (iI (if okP v then P else -1)) ∧ ((okP v → P3 = v ∧ tbl v iv3 ∧ 0 = 0 ∧ 0 = 0 ∧ 0 = 0) ∧ (¬ okP v → P3 = P ∧ iv3 = iv ∧ 0 = n1 ∧ 0 = n2 ∧ 0 = cnt)) from ⟨by rw [if_pos hc16], fun _ => ⟨(hw13.1 hc16).1, (hw13.1 hc16).2, rfl, rfl, rfl⟩, fun g => absurd hc16 g⟩)
  · skip
    refine x_ic jS dX7_field_19 ?_
    exact x_iretW jS jr jk jq dX7_field_20 ⟨cnt, n1, n2, P3, iv3⟩ hP hD hS (show (iI (-1)) = (iI (if okP v then P else -1)) ∧ ((okP v → P3 = v ∧ tbl v iv3 ∧ n1 = 0 ∧ n2 = 0 ∧ cnt = 0) ∧ (¬ okP v → P3 = P ∧ iv3 = iv ∧ n1 = n1 ∧ n2 = n2 ∧ cnt = cnt)) from ⟨by rw [if_neg hc16], fun g => absurd g hc16, fun _ => ⟨(hw13.2 hc16).1, (hw13.2 hc16).2, rfl, rfl, rfl⟩⟩)
theorem h_X7_setShift_X7 : ∀ w ∈ u_ws RX7 TX7 12, w ∈ wsX7_setShift := fun w h => List.mem_cons_of_mem _ (List.mem_append_left _ (List.mem_append_right _ h))
theorem m_X7_setShift_1 : Cond.fieldLink RX7 21 "SealedBox" "bases" "LSealedBox$Bases;" ∈ wsX7_setShift := List.mem_of_getElem? (i := 1) rfl
theorem h_X7_setShift_X0 : ∀ w ∈ u_ws RX0 TX0 3, w ∈ wsX7_setShift := fun w h => List.mem_cons_of_mem _ (List.mem_append_right _ h)
abbrev rm_X7_setShift : Room := { frames := 0, cells := 0, slots := 0, locals := 0 }
set_option maxHeartbeats 4000000 in
set_option maxRecDepth 100000 in
theorem c_X7_setShift (jl : Launch) (D : va_G) (cI : ClassId) (sb h4 h0 b1 b2 qr r1 o3 o2 o5 : Nat) (cnt ak : Int) (tr : Int64) (sh sc v : Int) (sz : Nat) (g_v : -2147483648 ≤ v ∧ v < 2147483648) : Met jl yX7_setShift wsX7_setShift rm_X7_setShift (xPw [.ref sb, .int (iI v)] D cI [(sb, .inr (7, [.ref h4, .ref h0, .ref b1, .ref b2, .ref qr, .ref r1, .ref o3, .ref o2, .ref o5, .int (iI cnt), .int (iI ak), .long tr])), (h0, .inr (0, [.ref h4, .int (iI sh), .int (iI sc)]))] sz) (va_Qi (fun (r : Int32) (u : Int) => r = (iI (if 0 ≤ v ∧ v ≤ 996 then sh else -1)) ∧ (u = (if 0 ≤ v ∧ v ≤ 996 then v else sh))) (xB D (fun (u : Int) => [(sb, .inr (7, [.ref h4, .ref h0, .ref b1, .ref b2, .ref qr, .ref r1, .ref o3, .ref o2, .ref o5, .int (iI cnt), .int (iI ak), .long tr])), (h0, .inr (0, [.ref h4, .int (iI u), .int (iI sc)]))]) (va_A [(sb, .inr (7, [.ref h4, .ref h0, .ref b1, .ref b2, .ref qr, .ref r1, .ref o3, .ref o2, .ref o5, .int (iI cnt), .int (iI ak), .long tr])), (h0, .inr (0, [.ref h4, .int (iI sh), .int (iI sc)]))] sz)) (va_A [(sb, .inr (7, [.ref h4, .ref h0, .ref b1, .ref b2, .ref qr, .ref r1, .ref o3, .ref o2, .ref o5, .int (iI cnt), .int (iI ak), .long tr])), (h0, .inr (0, [.ref h4, .int (iI sh), .int (iI sc)]))] sz)) 0 0 (va_A [(sb, .inr (7, [.ref h4, .ref h0, .ref b1, .ref b2, .ref qr, .ref r1, .ref o3, .ref o2, .ref o5, .int (iI cnt), .int (iI ak), .long tr])), (h0, .inr (0, [.ref h4, .int (iI sh), .int (iI sc)]))] sz) := by
  refine x_metW (own := RX7) (cc := cX7_setShift) (maxL := 3) (ret := (some .int)) (Qc := fun jA => va_Qi (fun (r : Int32) (u : Int) => r = (iI (if 0 ≤ v ∧ v ≤ 996 then sh else -1)) ∧ (u = (if 0 ≤ v ∧ v ≤ 996 then v else sh))) (xB D (fun (u : Int) => [(sb, .inr (7, [.ref h4, .ref h0, .ref b1, .ref b2, .ref qr, .ref r1, .ref o3, .ref o2, .ref o5, .int (iI cnt), .int (iI ak), .long tr])), (h0, .inr (0, [.ref h4, .int (iI u), .int (iI sc)]))]) jA) jA) (by decide) rfl rfl rfl ?_
  intro jp je js jm ja jb jt jc jA jQ jS jr jk jn jq hK hP hD hA hS ls hl
  have hl : lv_has ls 3 [(0, .ref sb), (1, .int (iI v))] := hl
  refine x_iln jS dX7_setShift_0 rfl hl 1 rfl ?_
  refine x_iflt jS 11 dX7_setShift_1 (by decide) (by omega) (fun hc1 => ?_) (fun hc1 => ?_)
  · skip
    refine x_ic jS dX7_setShift_11 ?_
    exact x_iretW jS jr jk jq dX7_setShift_12 sh hP hD hS (show (iI (-1)) = (iI (if 0 ≤ v ∧ v ≤ 996 then sh else -1)) ∧ (sh = (if 0 ≤ v ∧ v ≤ 996 then v else sh)) from ⟨by rw [if_neg (by omega)], by rw [if_neg (by omega)]⟩)
  · skip
    refine x_iln jS dX7_setShift_4 rfl hl 1 rfl ?_
    refine x_si jS dX7_setShift_5 (by decide) ?_
    refine x_cmple jS 13 dX7_setShift_8 (by decide) (by omega) (fun hc8 => ?_) (fun hc8 => ?_)
    · skip
      refine x_aln jS dX7_setShift_13 rfl hl 0 rfl ?_
      refine x_get jS hK hP h_X7_setShift_X7 0 rfl rfl 1 rfl m_X7_setShift_1 rfl dX7_setShift_14 ?_
      refine x_getN jS hK hP h_X7_setShift_X0 1 rfl rfl 1 rfl 6 rfl rfl dX7_setShift_17 ?_
      refine x_isn (lv' := [(2, .int (iI sh)), (0, .ref sb), (1, .int (iI v))]) jS dX7_setShift_20 rfl hl rfl rfl (fun ls hl => ?_)
      refine x_aln jS dX7_setShift_21 rfl hl 1 rfl ?_
      refine x_get jS hK hP h_X7_setShift_X7 0 rfl rfl 1 rfl m_X7_setShift_1 rfl dX7_setShift_22 ?_
      refine x_iln jS dX7_setShift_25 rfl hl 2 rfl ?_
      refine x_putN (ty0 := tyX0) (ws' := [(sb, .inr (7, [.ref h4, .ref h0, .ref b1, .ref b2, .ref qr, .ref r1, .ref o3, .ref o2, .ref o5, .int (iI cnt), .int (iI ak), .long tr])), (h0, .inr (0, [.ref h4, .int (iI v), .int (iI sc)]))]) jS hK hP hD hS h_X7_setShift_X0 tyX0_ok nmX0 1 rfl rfl 1 rfl 6 rfl rfl rfl rfl rfl dX7_setShift_26 rfl (fun jH jL hP hD hS => ?_)
      refine x_iln jS dX7_setShift_29 rfl hl 0 rfl ?_
      exact x_iretW jS jr jk jq dX7_setShift_30 v hP hD hS (show (iI sh) = (iI (if 0 ≤ v ∧ v ≤ 996 then sh else -1)) ∧ (v = (if 0 ≤ v ∧ v ≤ 996 then v else sh)) from ⟨by rw [if_pos (by omega)], by rw [if_pos (by omega)]⟩)
    · skip
      refine x_ic jS dX7_setShift_11 ?_
      exact x_iretW jS jr jk jq dX7_setShift_12 sh hP hD hS (show (iI (-1)) = (iI (if 0 ≤ v ∧ v ≤ 996 then sh else -1)) ∧ (sh = (if 0 ≤ v ∧ v ≤ 996 then v else sh)) from ⟨by rw [if_neg (by omega)], by rw [if_neg (by omega)]⟩)
theorem h_X7_setScale_X7 : ∀ w ∈ u_ws RX7 TX7 12, w ∈ wsX7_setScale := fun w h => List.mem_cons_of_mem _ (List.mem_append_left _ (List.mem_append_right _ h))
theorem m_X7_setScale_1 : Cond.fieldLink RX7 21 "SealedBox" "bases" "LSealedBox$Bases;" ∈ wsX7_setScale := List.mem_of_getElem? (i := 1) rfl
theorem h_X7_setScale_X0 : ∀ w ∈ u_ws RX0 TX0 3, w ∈ wsX7_setScale := fun w h => List.mem_cons_of_mem _ (List.mem_append_right _ h)
abbrev rm_X7_setScale : Room := { frames := 0, cells := 0, slots := 0, locals := 0 }
set_option maxHeartbeats 4000000 in
set_option maxRecDepth 100000 in
theorem c_X7_setScale (jl : Launch) (D : va_G) (cI : ClassId) (sb h4 h0 b1 b2 qr r1 o3 o2 o5 : Nat) (cnt ak : Int) (tr : Int64) (sh sc v : Int) (sz : Nat) (g_v : -2147483648 ≤ v ∧ v < 2147483648) : Met jl yX7_setScale wsX7_setScale rm_X7_setScale (xPw [.ref sb, .int (iI v)] D cI [(sb, .inr (7, [.ref h4, .ref h0, .ref b1, .ref b2, .ref qr, .ref r1, .ref o3, .ref o2, .ref o5, .int (iI cnt), .int (iI ak), .long tr])), (h0, .inr (0, [.ref h4, .int (iI sh), .int (iI sc)]))] sz) (va_Qi (fun (r : Int32) (u : Int) => r = (iI (if 1 ≤ v ∧ v ≤ 996 then sc else -1)) ∧ (u = (if 1 ≤ v ∧ v ≤ 996 then v else sc))) (xB D (fun (u : Int) => [(sb, .inr (7, [.ref h4, .ref h0, .ref b1, .ref b2, .ref qr, .ref r1, .ref o3, .ref o2, .ref o5, .int (iI cnt), .int (iI ak), .long tr])), (h0, .inr (0, [.ref h4, .int (iI sh), .int (iI u)]))]) (va_A [(sb, .inr (7, [.ref h4, .ref h0, .ref b1, .ref b2, .ref qr, .ref r1, .ref o3, .ref o2, .ref o5, .int (iI cnt), .int (iI ak), .long tr])), (h0, .inr (0, [.ref h4, .int (iI sh), .int (iI sc)]))] sz)) (va_A [(sb, .inr (7, [.ref h4, .ref h0, .ref b1, .ref b2, .ref qr, .ref r1, .ref o3, .ref o2, .ref o5, .int (iI cnt), .int (iI ak), .long tr])), (h0, .inr (0, [.ref h4, .int (iI sh), .int (iI sc)]))] sz)) 0 0 (va_A [(sb, .inr (7, [.ref h4, .ref h0, .ref b1, .ref b2, .ref qr, .ref r1, .ref o3, .ref o2, .ref o5, .int (iI cnt), .int (iI ak), .long tr])), (h0, .inr (0, [.ref h4, .int (iI sh), .int (iI sc)]))] sz) := by
  refine x_metW (own := RX7) (cc := cX7_setScale) (maxL := 3) (ret := (some .int)) (Qc := fun jA => va_Qi (fun (r : Int32) (u : Int) => r = (iI (if 1 ≤ v ∧ v ≤ 996 then sc else -1)) ∧ (u = (if 1 ≤ v ∧ v ≤ 996 then v else sc))) (xB D (fun (u : Int) => [(sb, .inr (7, [.ref h4, .ref h0, .ref b1, .ref b2, .ref qr, .ref r1, .ref o3, .ref o2, .ref o5, .int (iI cnt), .int (iI ak), .long tr])), (h0, .inr (0, [.ref h4, .int (iI sh), .int (iI u)]))]) jA) jA) (by decide) rfl rfl rfl ?_
  intro jp je js jm ja jb jt jc jA jQ jS jr jk jn jq hK hP hD hA hS ls hl
  have hl : lv_has ls 3 [(0, .ref sb), (1, .int (iI v))] := hl
  refine x_iln jS dX7_setScale_0 rfl hl 1 rfl ?_
  refine x_ic jS dX7_setScale_1 ?_
  refine x_cmplt jS 12 dX7_setScale_2 (by decide) (by omega) (fun hc2 => ?_) (fun hc2 => ?_)
  · skip
    refine x_ic jS dX7_setScale_12 ?_
    exact x_iretW jS jr jk jq dX7_setScale_13 sc hP hD hS (show (iI (-1)) = (iI (if 1 ≤ v ∧ v ≤ 996 then sc else -1)) ∧ (sc = (if 1 ≤ v ∧ v ≤ 996 then v else sc)) from ⟨by rw [if_neg (by omega)], by rw [if_neg (by omega)]⟩)
  · skip
    refine x_iln jS dX7_setScale_5 rfl hl 1 rfl ?_
    refine x_si jS dX7_setScale_6 (by decide) ?_
    refine x_cmple jS 14 dX7_setScale_9 (by decide) (by omega) (fun hc9 => ?_) (fun hc9 => ?_)
    · skip
      refine x_aln jS dX7_setScale_14 rfl hl 0 rfl ?_
      refine x_get jS hK hP h_X7_setScale_X7 0 rfl rfl 1 rfl m_X7_setScale_1 rfl dX7_setScale_15 ?_
      refine x_getN jS hK hP h_X7_setScale_X0 1 rfl rfl 2 rfl 7 rfl rfl dX7_setScale_18 ?_
      refine x_isn (lv' := [(2, .int (iI sc)), (0, .ref sb), (1, .int (iI v))]) jS dX7_setScale_21 rfl hl rfl rfl (fun ls hl => ?_)
      refine x_aln jS dX7_setScale_22 rfl hl 1 rfl ?_
      refine x_get jS hK hP h_X7_setScale_X7 0 rfl rfl 1 rfl m_X7_setScale_1 rfl dX7_setScale_23 ?_
      refine x_iln jS dX7_setScale_26 rfl hl 2 rfl ?_
      refine x_putN (ty0 := tyX0) (ws' := [(sb, .inr (7, [.ref h4, .ref h0, .ref b1, .ref b2, .ref qr, .ref r1, .ref o3, .ref o2, .ref o5, .int (iI cnt), .int (iI ak), .long tr])), (h0, .inr (0, [.ref h4, .int (iI sh), .int (iI v)]))]) jS hK hP hD hS h_X7_setScale_X0 tyX0_ok nmX0 1 rfl rfl 2 rfl 7 rfl rfl rfl rfl rfl dX7_setScale_27 rfl (fun jH jL hP hD hS => ?_)
      refine x_iln jS dX7_setScale_30 rfl hl 0 rfl ?_
      exact x_iretW jS jr jk jq dX7_setScale_31 v hP hD hS (show (iI sc) = (iI (if 1 ≤ v ∧ v ≤ 996 then sc else -1)) ∧ (v = (if 1 ≤ v ∧ v ≤ 996 then v else sc)) from ⟨by rw [if_pos (by omega)], by rw [if_pos (by omega)]⟩)
    · skip
      refine x_ic jS dX7_setScale_12 ?_
      exact x_iretW jS jr jk jq dX7_setScale_13 sc hP hD hS (show (iI (-1)) = (iI (if 1 ≤ v ∧ v ≤ 996 then sc else -1)) ∧ (sc = (if 1 ≤ v ∧ v ≤ 996 then v else sc)) from ⟨by rw [if_neg (by omega)], by rw [if_neg (by omega)]⟩)
theorem kf_X7_isKind : kfS yX7_isKind 1 := by decide +kernel
theorem h_X7_setKind_X1 : ∀ w ∈ u_ws RX1 TX1 7, w ∈ wsX7_setKind := fun w h => List.mem_cons_of_mem _ (List.mem_append_right _ h)
abbrev rm_X7_setKind : Room := { frames := 1, cells := 0, slots := 0, locals := 20 }
set_option maxHeartbeats 4000000 in
set_option maxRecDepth 100000 in
theorem c_X7_setKind (jl : Launch) (D : va_G) (cI : ClassId) (hb qp qf ql h0 h4 : Nat) (k n v : Int) (sz : Nat) (g_v : -2147483648 ≤ v ∧ v < 2147483648) : Met jl yX7_setKind wsX7_setKind rm_X7_setKind (xPw [.ref hb, .int (iI v)] D cI [(hb, .inr (1, [.ref h4, .ref h0, .ref qp, .ref qf, .ref ql, .int (iI k), .int (iI n)]))] sz) (va_Qi (fun (r : Int32) (u : Int) => r = (iI (if 0 ≤ v ∧ v ≤ 2 then k else -1)) ∧ (u = (if 0 ≤ v ∧ v ≤ 2 then v else k))) (xB D (fun (u : Int) => [(hb, .inr (1, [.ref h4, .ref h0, .ref qp, .ref qf, .ref ql, .int (iI u), .int (iI n)]))]) (va_A [(hb, .inr (1, [.ref h4, .ref h0, .ref qp, .ref qf, .ref ql, .int (iI k), .int (iI n)]))] sz)) (va_A [(hb, .inr (1, [.ref h4, .ref h0, .ref qp, .ref qf, .ref ql, .int (iI k), .int (iI n)]))] sz)) 0 0 (va_A [(hb, .inr (1, [.ref h4, .ref h0, .ref qp, .ref qf, .ref ql, .int (iI k), .int (iI n)]))] sz) := by
  refine x_metW (own := RX7) (cc := cX7_setKind) (maxL := 3) (ret := (some .int)) (Qc := fun jA => va_Qi (fun (r : Int32) (u : Int) => r = (iI (if 0 ≤ v ∧ v ≤ 2 then k else -1)) ∧ (u = (if 0 ≤ v ∧ v ≤ 2 then v else k))) (xB D (fun (u : Int) => [(hb, .inr (1, [.ref h4, .ref h0, .ref qp, .ref qf, .ref ql, .int (iI u), .int (iI n)]))]) jA) jA) (by decide) rfl rfl rfl ?_
  intro jp je js jm ja jb jt jc jA jQ jS jr jk jn jq hK hP hD hA hS ls hl
  have hl : lv_has ls 3 [(0, .ref hb), (1, .int (iI v))] := hl
  refine x_iln jS dX7_setKind_0 rfl hl 1 rfl ?_
  refine x_rI (x_rmS (As := [.int (iI v)]) (rest := []) jS hl.1 hK (c_X7_isKind jl D cI v (by first | assumption | omega)) (hP.sub [] rfl) gX7_setKind_X7_isKind rfl rfl rfl kf_X7_isKind rfl rfl rfl rfl rfl dX7_setKind_1 rfl rfl) ?_
  refine x_ifneB jS 9 dX7_setKind_4 (by decide) (fun hc4 => ?_) (fun hc4 => ?_)
  · skip
    refine x_aln jS dX7_setKind_9 rfl hl 0 rfl ?_
    refine x_getN jS hK hP h_X7_setKind_X1 0 rfl rfl 5 rfl 8 rfl rfl dX7_setKind_10 ?_
    refine x_isn (lv' := [(2, .int (iI k)), (0, .ref hb), (1, .int (iI v))]) jS dX7_setKind_13 rfl hl rfl rfl (fun ls hl => ?_)
    refine x_aln jS dX7_setKind_14 rfl hl 1 rfl ?_
    refine x_iln jS dX7_setKind_15 rfl hl 2 rfl ?_
    refine x_putN (ty0 := tyX1) (ws' := [(hb, .inr (1, [.ref h4, .ref h0, .ref qp, .ref qf, .ref ql, .int (iI v), .int (iI n)]))]) jS hK hP hD hS h_X7_setKind_X1 tyX1_ok nmX1 0 rfl rfl 5 rfl 8 rfl rfl rfl rfl rfl dX7_setKind_16 rfl (fun jH jL hP hD hS => ?_)
    refine x_iln jS dX7_setKind_19 rfl hl 0 rfl ?_
    exact x_iretW jS jr jk jq dX7_setKind_20 v hP hD hS (show (iI k) = (iI (if 0 ≤ v ∧ v ≤ 2 then k else -1)) ∧ (v = (if 0 ≤ v ∧ v ≤ 2 then v else k)) from ⟨by rw [if_pos hc4], by rw [if_pos hc4]⟩)
  · skip
    refine x_ic jS dX7_setKind_7 ?_
    exact x_iretW jS jr jk jq dX7_setKind_8 k hP hD hS (show (iI (-1)) = (iI (if 0 ≤ v ∧ v ≤ 2 then k else -1)) ∧ (k = (if 0 ≤ v ∧ v ≤ 2 then v else k)) from ⟨by rw [if_neg hc4], by rw [if_neg hc4]⟩)
theorem kf_X7_setShift : kfV yX7_setShift RX7 1 := by decide +kernel
theorem kf_X7_setScale : kfV yX7_setScale RX7 1 := by decide +kernel
theorem h_X7_set_X7 : ∀ w ∈ u_ws RX7 TX7 12, w ∈ wsX7_set := fun w h => List.mem_cons_of_mem _ (List.mem_append_left _ (List.mem_append_left _ (List.mem_append_right _ h)))
theorem m_X7_set_1 : Cond.fieldLink RX7 30 "SealedBox" "first" "LSealedBox$Box;" ∈ wsX7_set := List.mem_of_getElem? (i := 1) rfl
theorem kf_X7_setKind : kfS yX7_setKind 2 := by decide +kernel
theorem m_X7_set_2 : Cond.fieldLink RX7 34 "SealedBox" "second" "LSealedBox$Box;" ∈ wsX7_set := List.mem_of_getElem? (i := 2) rfl
abbrev rm_X7_set : Room := { frames := 2, cells := 0, slots := 0, locals := 42 }
set_option maxHeartbeats 4000000 in
set_option maxRecDepth 100000 in
theorem c_X7_set (jl : Launch) (D : va_G) (cI : ClassId) (sb h4 h0 b1 b2 qr r1 o3 o2 o5 : Nat) (cnt ak : Int) (tr : Int64) (p1 f1 l1 p2 f2 l2 : Nat) (k1 n1 k2 n2 : Int) (sh sc w v : Int) (sz : Nat) (g_w : -2147483648 ≤ w ∧ w < 2147483648) (g_v : -2147483648 ≤ v ∧ v < 2147483648) : Met jl yX7_set wsX7_set rm_X7_set (xPw [.ref sb, .int (iI w), .int (iI v)] D cI [(sb, .inr (7, [.ref h4, .ref h0, .ref b1, .ref b2, .ref qr, .ref r1, .ref o3, .ref o2, .ref o5, .int (iI cnt), .int (iI ak), .long tr])), (h0, .inr (0, [.ref h4, .int (iI sh), .int (iI sc)])), (b1, .inr (1, [.ref h4, .ref h0, .ref p1, .ref f1, .ref l1, .int (iI k1), .int (iI n1)])), (b2, .inr (1, [.ref h4, .ref h0, .ref p2, .ref f2, .ref l2, .int (iI k2), .int (iI n2)]))] sz) (va_Qi (fun (r : Int32) (u : Int × Int × Int × Int) => r = (iI (if w = 0 then (if 0 ≤ v ∧ v ≤ 996 then sh else -1) else if w = 1 then (if 1 ≤ v ∧ v ≤ 996 then sc else -1) else if w = 2 then (if 0 ≤ v ∧ v ≤ 2 then k1 else -1) else if w = 3 then (if 0 ≤ v ∧ v ≤ 2 then k2 else -1) else -1)) ∧ (u.1 = (if w = 0 ∧ 0 ≤ v ∧ v ≤ 996 then v else sh) ∧ u.2.1 = (if w = 1 ∧ 1 ≤ v ∧ v ≤ 996 then v else sc) ∧ u.2.2.1 = (if w = 2 ∧ 0 ≤ v ∧ v ≤ 2 then v else k1) ∧ u.2.2.2 = (if w = 3 ∧ 0 ≤ v ∧ v ≤ 2 then v else k2))) (xB D (fun (u : Int × Int × Int × Int) => [(sb, .inr (7, [.ref h4, .ref h0, .ref b1, .ref b2, .ref qr, .ref r1, .ref o3, .ref o2, .ref o5, .int (iI cnt), .int (iI ak), .long tr])), (h0, .inr (0, [.ref h4, .int (iI u.1), .int (iI u.2.1)])), (b1, .inr (1, [.ref h4, .ref h0, .ref p1, .ref f1, .ref l1, .int (iI u.2.2.1), .int (iI n1)])), (b2, .inr (1, [.ref h4, .ref h0, .ref p2, .ref f2, .ref l2, .int (iI u.2.2.2), .int (iI n2)]))]) (va_A [(sb, .inr (7, [.ref h4, .ref h0, .ref b1, .ref b2, .ref qr, .ref r1, .ref o3, .ref o2, .ref o5, .int (iI cnt), .int (iI ak), .long tr])), (h0, .inr (0, [.ref h4, .int (iI sh), .int (iI sc)])), (b1, .inr (1, [.ref h4, .ref h0, .ref p1, .ref f1, .ref l1, .int (iI k1), .int (iI n1)])), (b2, .inr (1, [.ref h4, .ref h0, .ref p2, .ref f2, .ref l2, .int (iI k2), .int (iI n2)]))] sz)) (va_A [(sb, .inr (7, [.ref h4, .ref h0, .ref b1, .ref b2, .ref qr, .ref r1, .ref o3, .ref o2, .ref o5, .int (iI cnt), .int (iI ak), .long tr])), (h0, .inr (0, [.ref h4, .int (iI sh), .int (iI sc)])), (b1, .inr (1, [.ref h4, .ref h0, .ref p1, .ref f1, .ref l1, .int (iI k1), .int (iI n1)])), (b2, .inr (1, [.ref h4, .ref h0, .ref p2, .ref f2, .ref l2, .int (iI k2), .int (iI n2)]))] sz)) 0 0 (va_A [(sb, .inr (7, [.ref h4, .ref h0, .ref b1, .ref b2, .ref qr, .ref r1, .ref o3, .ref o2, .ref o5, .int (iI cnt), .int (iI ak), .long tr])), (h0, .inr (0, [.ref h4, .int (iI sh), .int (iI sc)])), (b1, .inr (1, [.ref h4, .ref h0, .ref p1, .ref f1, .ref l1, .int (iI k1), .int (iI n1)])), (b2, .inr (1, [.ref h4, .ref h0, .ref p2, .ref f2, .ref l2, .int (iI k2), .int (iI n2)]))] sz) := by
  refine x_metW (own := RX7) (cc := cX7_set) (maxL := 3) (ret := (some .int)) (Qc := fun jA => va_Qi (fun (r : Int32) (u : Int × Int × Int × Int) => r = (iI (if w = 0 then (if 0 ≤ v ∧ v ≤ 996 then sh else -1) else if w = 1 then (if 1 ≤ v ∧ v ≤ 996 then sc else -1) else if w = 2 then (if 0 ≤ v ∧ v ≤ 2 then k1 else -1) else if w = 3 then (if 0 ≤ v ∧ v ≤ 2 then k2 else -1) else -1)) ∧ (u.1 = (if w = 0 ∧ 0 ≤ v ∧ v ≤ 996 then v else sh) ∧ u.2.1 = (if w = 1 ∧ 1 ≤ v ∧ v ≤ 996 then v else sc) ∧ u.2.2.1 = (if w = 2 ∧ 0 ≤ v ∧ v ≤ 2 then v else k1) ∧ u.2.2.2 = (if w = 3 ∧ 0 ≤ v ∧ v ≤ 2 then v else k2))) (xB D (fun (u : Int × Int × Int × Int) => [(sb, .inr (7, [.ref h4, .ref h0, .ref b1, .ref b2, .ref qr, .ref r1, .ref o3, .ref o2, .ref o5, .int (iI cnt), .int (iI ak), .long tr])), (h0, .inr (0, [.ref h4, .int (iI u.1), .int (iI u.2.1)])), (b1, .inr (1, [.ref h4, .ref h0, .ref p1, .ref f1, .ref l1, .int (iI u.2.2.1), .int (iI n1)])), (b2, .inr (1, [.ref h4, .ref h0, .ref p2, .ref f2, .ref l2, .int (iI u.2.2.2), .int (iI n2)]))]) jA) jA) (by decide) rfl rfl rfl ?_
  intro jp je js jm ja jb jt jc jA jQ jS jr jk jn jq hK hP hD hA hS ls hl
  have hl : lv_has ls 3 [(0, .ref sb), (1, .int (iI w)), (2, .int (iI v))] := hl
  refine x_iln jS dX7_set_0 rfl hl 1 rfl ?_
  by_cases hc1 : w < 0 ∨ 3 < w
  · refine x_swO jS 62 dX7_set_1 (by omega) hc1 (by decide) ?_
    refine x_ic jS dX7_set_62 ?_
    exact x_iretW jS jr jk jq dX7_set_63 ⟨sh, sc, k1, k2⟩ hP hD hS (show (iI (-1)) = (iI (if w = 0 then (if 0 ≤ v ∧ v ≤ 996 then sh else -1) else if w = 1 then (if 1 ≤ v ∧ v ≤ 996 then sc else -1) else if w = 2 then (if 0 ≤ v ∧ v ≤ 2 then k1 else -1) else if w = 3 then (if 0 ≤ v ∧ v ≤ 2 then k2 else -1) else -1)) ∧ (sh = (if w = 0 ∧ 0 ≤ v ∧ v ≤ 996 then v else sh) ∧ sc = (if w = 1 ∧ 1 ≤ v ∧ v ≤ 996 then v else sc) ∧ k1 = (if w = 2 ∧ 0 ≤ v ∧ v ≤ 2 then v else k1) ∧ k2 = (if w = 3 ∧ 0 ≤ v ∧ v ≤ 2 then v else k2)) from by have e0 : w ≠ 0 := (by omega); have e1 : w ≠ 1 := (by omega); have e2 : w ≠ 2 := (by omega); have e3 : w ≠ 3 := (by omega); simp [e0, e1, e2, e3])
  by_cases hc1_0 : w = 0
  · refine x_swI (k := 0) jS 32 dX7_set_1 hc1_0 (by decide) (by decide) rfl (by decide) ?_
    refine x_aln jS dX7_set_32 rfl hl 0 rfl ?_
    refine x_iln jS dX7_set_33 rfl hl 2 rfl ?_
    refine x_aI (wc := [(sb, .inr (7, [.ref h4, .ref h0, .ref b1, .ref b2, .ref qr, .ref r1, .ref o3, .ref o2, .ref o5, .int (iI cnt), .int (iI ak), .long tr])), (h0, .inr (0, [.ref h4, .int (iI sh), .int (iI sc)]))]) (wr := [(b1, .inr (1, [.ref h4, .ref h0, .ref p1, .ref f1, .ref l1, .int (iI k1), .int (iI n1)])), (b2, .inr (1, [.ref h4, .ref h0, .ref p2, .ref f2, .ref l2, .int (iI k2), .int (iI n2)]))]) hP hD hS hA [0, 1] [2, 3] rfl rfl (by decide) (by decide) (cs := 0) (ss := 0) rfl rfl (x_rnV (As := [.int (iI v)]) (rest := []) jS hl.1 hK (c_X7_setShift jl D cI sb h4 h0 b1 b2 qr r1 o3 o2 o5 cnt ak tr sh sc v _ (by first | assumption | omega)) hP hD [0, 1] rfl rfl (by decide) 0 rfl rfl gX7_set_X7_setShift rfl rfl rfl kf_X7_setShift rfl rfl rfl rfl rfl dX7_set_34 rfl rfl) (fun jv u jH jL hw hP hD hS => ?_)
    obtain ⟨sh2_1, rfl⟩ : ∃ z, z = u := ⟨_, rfl⟩
    obtain ⟨hv, hw⟩ := hw
    have hw34 : sh2_1 = (if 0 ≤ v ∧ v ≤ 996 then v else sh) := hw
    subst hv
    have hP : va_P D vwCl [(b1, .inr (1, [.ref h4, .ref h0, .ref p1, .ref f1, .ref l1, .int (iI k1), .int (iI n1)])), (b2, .inr (1, [.ref h4, .ref h0, .ref p2, .ref f2, .ref l2, .int (iI k2), .int (iI n2)])), (sb, .inr (7, [.ref h4, .ref h0, .ref b1, .ref b2, .ref qr, .ref r1, .ref o3, .ref o2, .ref o5, .int (iI cnt), .int (iI ak), .long tr])), (h0, .inr (0, [.ref h4, .int (iI sh2_1), .int (iI sc)]))] jH := hP
    have hD : va_D jA [(b1, .inr (1, [.ref h4, .ref h0, .ref p1, .ref f1, .ref l1, .int (iI k1), .int (iI n1)])), (b2, .inr (1, [.ref h4, .ref h0, .ref p2, .ref f2, .ref l2, .int (iI k2), .int (iI n2)])), (sb, .inr (7, [.ref h4, .ref h0, .ref b1, .ref b2, .ref qr, .ref r1, .ref o3, .ref o2, .ref o5, .int (iI cnt), .int (iI ak), .long tr])), (h0, .inr (0, [.ref h4, .int (iI sh2_1), .int (iI sc)]))] := hD
    exact x_iretW jS jr jk jq dX7_set_37 ⟨sh2_1, sc, k1, k2⟩ (hP.sub [2, 3, 0, 1] rfl) (hD.sub [2, 3, 0, 1] (by decide) rfl) hS (show (iI (if 0 ≤ v ∧ v ≤ 996 then sh else -1)) = (iI (if w = 0 then (if 0 ≤ v ∧ v ≤ 996 then sh else -1) else if w = 1 then (if 1 ≤ v ∧ v ≤ 996 then sc else -1) else if w = 2 then (if 0 ≤ v ∧ v ≤ 2 then k1 else -1) else if w = 3 then (if 0 ≤ v ∧ v ≤ 2 then k2 else -1) else -1)) ∧ (sh2_1 = (if w = 0 ∧ 0 ≤ v ∧ v ≤ 996 then v else sh) ∧ sc = (if w = 1 ∧ 1 ≤ v ∧ v ≤ 996 then v else sc) ∧ k1 = (if w = 2 ∧ 0 ≤ v ∧ v ≤ 2 then v else k1) ∧ k2 = (if w = 3 ∧ 0 ≤ v ∧ v ≤ 2 then v else k2)) from by simp [hc1_0, hw34])
  by_cases hc1_1 : w = 1
  · refine x_swI (k := 1) jS 38 dX7_set_1 hc1_1 (by decide) (by decide) rfl (by decide) ?_
    refine x_aln jS dX7_set_38 rfl hl 0 rfl ?_
    refine x_iln jS dX7_set_39 rfl hl 2 rfl ?_
    refine x_aI (wc := [(sb, .inr (7, [.ref h4, .ref h0, .ref b1, .ref b2, .ref qr, .ref r1, .ref o3, .ref o2, .ref o5, .int (iI cnt), .int (iI ak), .long tr])), (h0, .inr (0, [.ref h4, .int (iI sh), .int (iI sc)]))]) (wr := [(b1, .inr (1, [.ref h4, .ref h0, .ref p1, .ref f1, .ref l1, .int (iI k1), .int (iI n1)])), (b2, .inr (1, [.ref h4, .ref h0, .ref p2, .ref f2, .ref l2, .int (iI k2), .int (iI n2)]))]) hP hD hS hA [0, 1] [2, 3] rfl rfl (by decide) (by decide) (cs := 0) (ss := 0) rfl rfl (x_rnV (As := [.int (iI v)]) (rest := []) jS hl.1 hK (c_X7_setScale jl D cI sb h4 h0 b1 b2 qr r1 o3 o2 o5 cnt ak tr sh sc v _ (by first | assumption | omega)) hP hD [0, 1] rfl rfl (by decide) 0 rfl rfl gX7_set_X7_setScale rfl rfl rfl kf_X7_setScale rfl rfl rfl rfl rfl dX7_set_40 rfl rfl) (fun jv u jH jL hw hP hD hS => ?_)
    obtain ⟨sc2_2, rfl⟩ : ∃ z, z = u := ⟨_, rfl⟩
    obtain ⟨hv, hw⟩ := hw
    have hw40 : sc2_2 = (if 1 ≤ v ∧ v ≤ 996 then v else sc) := hw
    subst hv
    have hP : va_P D vwCl [(b1, .inr (1, [.ref h4, .ref h0, .ref p1, .ref f1, .ref l1, .int (iI k1), .int (iI n1)])), (b2, .inr (1, [.ref h4, .ref h0, .ref p2, .ref f2, .ref l2, .int (iI k2), .int (iI n2)])), (sb, .inr (7, [.ref h4, .ref h0, .ref b1, .ref b2, .ref qr, .ref r1, .ref o3, .ref o2, .ref o5, .int (iI cnt), .int (iI ak), .long tr])), (h0, .inr (0, [.ref h4, .int (iI sh), .int (iI sc2_2)]))] jH := hP
    have hD : va_D jA [(b1, .inr (1, [.ref h4, .ref h0, .ref p1, .ref f1, .ref l1, .int (iI k1), .int (iI n1)])), (b2, .inr (1, [.ref h4, .ref h0, .ref p2, .ref f2, .ref l2, .int (iI k2), .int (iI n2)])), (sb, .inr (7, [.ref h4, .ref h0, .ref b1, .ref b2, .ref qr, .ref r1, .ref o3, .ref o2, .ref o5, .int (iI cnt), .int (iI ak), .long tr])), (h0, .inr (0, [.ref h4, .int (iI sh), .int (iI sc2_2)]))] := hD
    exact x_iretW jS jr jk jq dX7_set_43 ⟨sh, sc2_2, k1, k2⟩ (hP.sub [2, 3, 0, 1] rfl) (hD.sub [2, 3, 0, 1] (by decide) rfl) hS (show (iI (if 1 ≤ v ∧ v ≤ 996 then sc else -1)) = (iI (if w = 0 then (if 0 ≤ v ∧ v ≤ 996 then sh else -1) else if w = 1 then (if 1 ≤ v ∧ v ≤ 996 then sc else -1) else if w = 2 then (if 0 ≤ v ∧ v ≤ 2 then k1 else -1) else if w = 3 then (if 0 ≤ v ∧ v ≤ 2 then k2 else -1) else -1)) ∧ (sh = (if w = 0 ∧ 0 ≤ v ∧ v ≤ 996 then v else sh) ∧ sc2_2 = (if w = 1 ∧ 1 ≤ v ∧ v ≤ 996 then v else sc) ∧ k1 = (if w = 2 ∧ 0 ≤ v ∧ v ≤ 2 then v else k1) ∧ k2 = (if w = 3 ∧ 0 ≤ v ∧ v ≤ 2 then v else k2)) from by simp [hc1_1, hw40])
  by_cases hc1_2 : w = 2
  · refine x_swI (k := 2) jS 44 dX7_set_1 hc1_2 (by decide) (by decide) rfl (by decide) ?_
    refine x_aln jS dX7_set_44 rfl hl 0 rfl ?_
    refine x_get jS hK hP h_X7_set_X7 0 rfl rfl 2 rfl m_X7_set_1 rfl dX7_set_45 ?_
    refine x_iln jS dX7_set_48 rfl hl 2 rfl ?_
    refine x_aI (wc := [(b1, .inr (1, [.ref h4, .ref h0, .ref p1, .ref f1, .ref l1, .int (iI k1), .int (iI n1)]))]) (wr := [(sb, .inr (7, [.ref h4, .ref h0, .ref b1, .ref b2, .ref qr, .ref r1, .ref o3, .ref o2, .ref o5, .int (iI cnt), .int (iI ak), .long tr])), (h0, .inr (0, [.ref h4, .int (iI sh), .int (iI sc)])), (b2, .inr (1, [.ref h4, .ref h0, .ref p2, .ref f2, .ref l2, .int (iI k2), .int (iI n2)]))]) hP hD hS hA [2] [0, 1, 3] rfl rfl (by decide) (by decide) (cs := 0) (ss := 0) rfl rfl (x_rnS (As := [.ref b1, .int (iI v)]) (rest := []) jS hl.1 hK (c_X7_setKind jl D cI b1 p1 f1 l1 h0 h4 k1 n1 v _ (by first | assumption | omega)) hP hD [2] rfl rfl (by decide) gX7_set_X7_setKind rfl rfl rfl kf_X7_setKind rfl rfl rfl rfl rfl dX7_set_49 rfl rfl) (fun jv u jH jL hw hP hD hS => ?_)
    obtain ⟨kk2_3, rfl⟩ : ∃ z, z = u := ⟨_, rfl⟩
    obtain ⟨hv, hw⟩ := hw
    have hw49 : kk2_3 = (if 0 ≤ v ∧ v ≤ 2 then v else k1) := hw
    subst hv
    have hP : va_P D vwCl [(sb, .inr (7, [.ref h4, .ref h0, .ref b1, .ref b2, .ref qr, .ref r1, .ref o3, .ref o2, .ref o5, .int (iI cnt), .int (iI ak), .long tr])), (h0, .inr (0, [.ref h4, .int (iI sh), .int (iI sc)])), (b2, .inr (1, [.ref h4, .ref h0, .ref p2, .ref f2, .ref l2, .int (iI k2), .int (iI n2)])), (b1, .inr (1, [.ref h4, .ref h0, .ref p1, .ref f1, .ref l1, .int (iI kk2_3), .int (iI n1)]))] jH := hP
    have hD : va_D jA [(sb, .inr (7, [.ref h4, .ref h0, .ref b1, .ref b2, .ref qr, .ref r1, .ref o3, .ref o2, .ref o5, .int (iI cnt), .int (iI ak), .long tr])), (h0, .inr (0, [.ref h4, .int (iI sh), .int (iI sc)])), (b2, .inr (1, [.ref h4, .ref h0, .ref p2, .ref f2, .ref l2, .int (iI k2), .int (iI n2)])), (b1, .inr (1, [.ref h4, .ref h0, .ref p1, .ref f1, .ref l1, .int (iI kk2_3), .int (iI n1)]))] := hD
    exact x_iretW jS jr jk jq dX7_set_52 ⟨sh, sc, kk2_3, k2⟩ (hP.sub [0, 1, 3, 2] rfl) (hD.sub [0, 1, 3, 2] (by decide) rfl) hS (show (iI (if 0 ≤ v ∧ v ≤ 2 then k1 else -1)) = (iI (if w = 0 then (if 0 ≤ v ∧ v ≤ 996 then sh else -1) else if w = 1 then (if 1 ≤ v ∧ v ≤ 996 then sc else -1) else if w = 2 then (if 0 ≤ v ∧ v ≤ 2 then k1 else -1) else if w = 3 then (if 0 ≤ v ∧ v ≤ 2 then k2 else -1) else -1)) ∧ (sh = (if w = 0 ∧ 0 ≤ v ∧ v ≤ 996 then v else sh) ∧ sc = (if w = 1 ∧ 1 ≤ v ∧ v ≤ 996 then v else sc) ∧ kk2_3 = (if w = 2 ∧ 0 ≤ v ∧ v ≤ 2 then v else k1) ∧ k2 = (if w = 3 ∧ 0 ≤ v ∧ v ≤ 2 then v else k2)) from by simp [hc1_2, hw49])
  have hc1_3 : w = 3 := by omega
  refine x_swI (k := 3) jS 53 dX7_set_1 hc1_3 (by decide) (by decide) rfl (by decide) ?_
  refine x_aln jS dX7_set_53 rfl hl 0 rfl ?_
  refine x_get jS hK hP h_X7_set_X7 0 rfl rfl 3 rfl m_X7_set_2 rfl dX7_set_54 ?_
  refine x_iln jS dX7_set_57 rfl hl 2 rfl ?_
  refine x_aI (wc := [(b2, .inr (1, [.ref h4, .ref h0, .ref p2, .ref f2, .ref l2, .int (iI k2), .int (iI n2)]))]) (wr := [(sb, .inr (7, [.ref h4, .ref h0, .ref b1, .ref b2, .ref qr, .ref r1, .ref o3, .ref o2, .ref o5, .int (iI cnt), .int (iI ak), .long tr])), (h0, .inr (0, [.ref h4, .int (iI sh), .int (iI sc)])), (b1, .inr (1, [.ref h4, .ref h0, .ref p1, .ref f1, .ref l1, .int (iI k1), .int (iI n1)]))]) hP hD hS hA [3] [0, 1, 2] rfl rfl (by decide) (by decide) (cs := 0) (ss := 0) rfl rfl (x_rnS (As := [.ref b2, .int (iI v)]) (rest := []) jS hl.1 hK (c_X7_setKind jl D cI b2 p2 f2 l2 h0 h4 k2 n2 v _ (by first | assumption | omega)) hP hD [3] rfl rfl (by decide) gX7_set_X7_setKind rfl rfl rfl kf_X7_setKind rfl rfl rfl rfl rfl dX7_set_58 rfl rfl) (fun jv u jH jL hw hP hD hS => ?_)
  obtain ⟨kk2_4, rfl⟩ : ∃ z, z = u := ⟨_, rfl⟩
  obtain ⟨hv, hw⟩ := hw
  have hw58 : kk2_4 = (if 0 ≤ v ∧ v ≤ 2 then v else k2) := hw
  subst hv
  have hP : va_P D vwCl [(sb, .inr (7, [.ref h4, .ref h0, .ref b1, .ref b2, .ref qr, .ref r1, .ref o3, .ref o2, .ref o5, .int (iI cnt), .int (iI ak), .long tr])), (h0, .inr (0, [.ref h4, .int (iI sh), .int (iI sc)])), (b1, .inr (1, [.ref h4, .ref h0, .ref p1, .ref f1, .ref l1, .int (iI k1), .int (iI n1)])), (b2, .inr (1, [.ref h4, .ref h0, .ref p2, .ref f2, .ref l2, .int (iI kk2_4), .int (iI n2)]))] jH := hP
  have hD : va_D jA [(sb, .inr (7, [.ref h4, .ref h0, .ref b1, .ref b2, .ref qr, .ref r1, .ref o3, .ref o2, .ref o5, .int (iI cnt), .int (iI ak), .long tr])), (h0, .inr (0, [.ref h4, .int (iI sh), .int (iI sc)])), (b1, .inr (1, [.ref h4, .ref h0, .ref p1, .ref f1, .ref l1, .int (iI k1), .int (iI n1)])), (b2, .inr (1, [.ref h4, .ref h0, .ref p2, .ref f2, .ref l2, .int (iI kk2_4), .int (iI n2)]))] := hD
  exact x_iretW jS jr jk jq dX7_set_61 ⟨sh, sc, k1, kk2_4⟩ hP hD hS (show (iI (if 0 ≤ v ∧ v ≤ 2 then k2 else -1)) = (iI (if w = 0 then (if 0 ≤ v ∧ v ≤ 996 then sh else -1) else if w = 1 then (if 1 ≤ v ∧ v ≤ 996 then sc else -1) else if w = 2 then (if 0 ≤ v ∧ v ≤ 2 then k1 else -1) else if w = 3 then (if 0 ≤ v ∧ v ≤ 2 then k2 else -1) else -1)) ∧ (sh = (if w = 0 ∧ 0 ≤ v ∧ v ≤ 996 then v else sh) ∧ sc = (if w = 1 ∧ 1 ≤ v ∧ v ≤ 996 then v else sc) ∧ k1 = (if w = 2 ∧ 0 ≤ v ∧ v ≤ 2 then v else k1) ∧ kk2_4 = (if w = 3 ∧ 0 ≤ v ∧ v ≤ 2 then v else k2)) from by simp [hc1_3, hw58])
theorem h_X7_form_X7 : ∀ w ∈ u_ws RX7 TX7 12, w ∈ wsX7_form := fun w h => List.mem_cons_of_mem _ (List.mem_append_left _ (List.mem_append_left _ (List.mem_append_right _ h)))
theorem m_X7_form_1 : Cond.fieldLink RX7 10 "SealedBox" "numbers" "LSealedBox$PrimeField;" ∈ wsX7_form := List.mem_of_getElem? (i := 1) rfl
theorem m_X7_form_2 : Cond.fieldLink RX7 76 "SealedBox" "traced" "J" ∈ wsX7_form := List.mem_of_getElem? (i := 2) rfl
theorem kf_X0_bodiesAsked : kfS yX0_bodiesAsked 1 := by decide +kernel
theorem m_X7_form_3 : Cond.fieldLink RX7 21 "SealedBox" "bases" "LSealedBox$Bases;" ∈ wsX7_form := List.mem_of_getElem? (i := 3) rfl
abbrev rm_X7_form : Room := { frames := 2, cells := 0, slots := 0, locals := 49 }
set_option maxHeartbeats 4000000 in
set_option maxRecDepth 100000 in
theorem c_X7_form (jl : Launch) (D : va_G) (cI : ClassId) (sb h4 h0 b1 b2 qr r1 o3 o2 o5 : Nat) (cnt ak : Int) (tr : Int64) (q4 : Nat) (P sh sc kd v ex : Int) (sz : Nat) (hP5 : 5 ≤ P ∧ P ≤ 997) (hs : 0 ≤ sh ∧ sh ≤ 996 ∧ 1 ≤ sc ∧ sc ≤ 996) (g_kd : -2147483648 ≤ kd ∧ kd < 2147483648) (g_v : -2147483648 ≤ v ∧ v < 2147483648) (g_ex : -2147483648 ≤ ex ∧ ex < 2147483648) : Met jl yX7_form wsX7_form rm_X7_form (xPw [.ref sb, .int (iI kd), .int (iI v), .int (iI ex)] D cI [(sb, .inr (7, [.ref h4, .ref h0, .ref b1, .ref b2, .ref qr, .ref r1, .ref o3, .ref o2, .ref o5, .int (iI cnt), .int (iI ak), .long tr])), (h0, .inr (0, [.ref h4, .int (iI sh), .int (iI sc)])), (h4, .inr (4, [.ref q4, .int (iI P)]))] sz) (va_Qi (fun (r : Int32) (u : Int64) => r = (iI (if (0 ≤ kd ∧ kd ≤ 2) ∧ (0 ≤ v ∧ v < P) ∧ (0 ≤ ex ∧ ex ≤ 4) then ltr P sh sc kd v ex else -1)) ∧ (u = (if (0 ≤ kd ∧ kd ≤ 2) ∧ (0 ≤ v ∧ v < P) ∧ (0 ≤ ex ∧ ex ≤ 4) then tr + (iI (if kd = 2 then 111 else if kd = 1 then 11 else 1)).toInt64 else tr))) (xB D (fun (u : Int64) => [(sb, .inr (7, [.ref h4, .ref h0, .ref b1, .ref b2, .ref qr, .ref r1, .ref o3, .ref o2, .ref o5, .int (iI cnt), .int (iI ak), .long u])), (h0, .inr (0, [.ref h4, .int (iI sh), .int (iI sc)])), (h4, .inr (4, [.ref q4, .int (iI P)]))]) (va_A [(sb, .inr (7, [.ref h4, .ref h0, .ref b1, .ref b2, .ref qr, .ref r1, .ref o3, .ref o2, .ref o5, .int (iI cnt), .int (iI ak), .long tr])), (h0, .inr (0, [.ref h4, .int (iI sh), .int (iI sc)])), (h4, .inr (4, [.ref q4, .int (iI P)]))] sz)) (va_A [(sb, .inr (7, [.ref h4, .ref h0, .ref b1, .ref b2, .ref qr, .ref r1, .ref o3, .ref o2, .ref o5, .int (iI cnt), .int (iI ak), .long tr])), (h0, .inr (0, [.ref h4, .int (iI sh), .int (iI sc)])), (h4, .inr (4, [.ref q4, .int (iI P)]))] sz)) 0 0 (va_A [(sb, .inr (7, [.ref h4, .ref h0, .ref b1, .ref b2, .ref qr, .ref r1, .ref o3, .ref o2, .ref o5, .int (iI cnt), .int (iI ak), .long tr])), (h0, .inr (0, [.ref h4, .int (iI sh), .int (iI sc)])), (h4, .inr (4, [.ref q4, .int (iI P)]))] sz) := by
  refine x_metW (own := RX7) (cc := cX7_form) (maxL := 4) (ret := (some .int)) (Qc := fun jA => va_Qi (fun (r : Int32) (u : Int64) => r = (iI (if (0 ≤ kd ∧ kd ≤ 2) ∧ (0 ≤ v ∧ v < P) ∧ (0 ≤ ex ∧ ex ≤ 4) then ltr P sh sc kd v ex else -1)) ∧ (u = (if (0 ≤ kd ∧ kd ≤ 2) ∧ (0 ≤ v ∧ v < P) ∧ (0 ≤ ex ∧ ex ≤ 4) then tr + (iI (if kd = 2 then 111 else if kd = 1 then 11 else 1)).toInt64 else tr))) (xB D (fun (u : Int64) => [(sb, .inr (7, [.ref h4, .ref h0, .ref b1, .ref b2, .ref qr, .ref r1, .ref o3, .ref o2, .ref o5, .int (iI cnt), .int (iI ak), .long u])), (h0, .inr (0, [.ref h4, .int (iI sh), .int (iI sc)])), (h4, .inr (4, [.ref q4, .int (iI P)]))]) jA) jA) (by decide) rfl rfl rfl ?_
  intro jp je js jm ja jb jt jc jA jQ jS jr jk jn jq hK hP hD hA hS ls hl
  have hl : lv_has ls 4 [(0, .ref sb), (1, .int (iI kd)), (2, .int (iI v)), (3, .int (iI ex))] := hl
  refine x_iln jS dX7_form_0 rfl hl 1 rfl ?_
  refine x_rI (x_rmS (As := [.int (iI kd)]) (rest := []) jS hl.1 hK (c_X7_isKind jl D cI kd (by first | assumption | omega)) (hP.sub [] rfl) gX7_form_X7_isKind rfl rfl rfl kf_X7_isKind rfl rfl rfl rfl rfl dX7_form_1 rfl rfl) ?_
  refine x_ifeqB jS 25 dX7_form_4 (by decide) (fun hc4 => ?_) (fun hc4 => ?_)
  · skip
    refine x_ic jS dX7_form_25 ?_
    exact x_iretW jS jr jk jq dX7_form_26 tr hP hD hS (show (iI (-1)) = (iI (if (0 ≤ kd ∧ kd ≤ 2) ∧ (0 ≤ v ∧ v < P) ∧ (0 ≤ ex ∧ ex ≤ 4) then ltr P sh sc kd v ex else -1)) ∧ (tr = (if (0 ≤ kd ∧ kd ≤ 2) ∧ (0 ≤ v ∧ v < P) ∧ (0 ≤ ex ∧ ex ≤ 4) then tr + (iI (if kd = 2 then 111 else if kd = 1 then 11 else 1)).toInt64 else tr)) from ⟨by rw [if_neg (by omega)], by rw [if_neg (by omega)]⟩)
  · skip
    refine x_aln jS dX7_form_7 rfl hl 0 rfl ?_
    refine x_get jS hK hP h_X7_form_X7 0 rfl rfl 0 rfl m_X7_form_1 rfl dX7_form_8 ?_
    refine x_iln jS dX7_form_11 rfl hl 2 rfl ?_
    refine x_rI (x_rmV (As := [.int (iI v)]) (rest := []) jS hl.1 hK (c_X4_has jl D cI h4 q4 P v (by first | assumption | omega) (by first | assumption | omega)) (hP.sub [2] rfl) 0 rfl rfl gX7_form_X4_has rfl rfl rfl kf_X4_has rfl rfl rfl rfl rfl dX7_form_12 rfl rfl) ?_
    refine x_ifeqB jS 25 dX7_form_15 (by decide) (fun hc15 => ?_) (fun hc15 => ?_)
    · skip
      refine x_ic jS dX7_form_25 ?_
      exact x_iretW jS jr jk jq dX7_form_26 tr hP hD hS (show (iI (-1)) = (iI (if (0 ≤ kd ∧ kd ≤ 2) ∧ (0 ≤ v ∧ v < P) ∧ (0 ≤ ex ∧ ex ≤ 4) then ltr P sh sc kd v ex else -1)) ∧ (tr = (if (0 ≤ kd ∧ kd ≤ 2) ∧ (0 ≤ v ∧ v < P) ∧ (0 ≤ ex ∧ ex ≤ 4) then tr + (iI (if kd = 2 then 111 else if kd = 1 then 11 else 1)).toInt64 else tr)) from ⟨by rw [if_neg (by omega)], by rw [if_neg (by omega)]⟩)
    · skip
      refine x_iln jS dX7_form_18 rfl hl 3 rfl ?_
      refine x_rI (x_rmS (As := [.int (iI ex)]) (rest := []) jS hl.1 hK (c_X7_isExponent jl D cI ex (by first | assumption | omega)) (hP.sub [] rfl) gX7_form_X7_isExponent rfl rfl rfl kf_X7_isExponent rfl rfl rfl rfl rfl dX7_form_19 rfl rfl) ?_
      refine x_ifneB jS 27 dX7_form_22 (by decide) (fun hc22 => ?_) (fun hc22 => ?_)
      · skip
        refine x_aln jS dX7_form_27 rfl hl 0 rfl ?_
        refine x_dup jS dX7_form_28 rfl ?_
        refine x_get jS hK hP h_X7_form_X7 0 rfl rfl 11 rfl m_X7_form_2 rfl dX7_form_29 ?_
        refine x_iln jS dX7_form_32 rfl hl 1 rfl ?_
        refine x_rI (x_rmS (As := [.int (iI kd)]) (rest := [.long tr, .ref sb]) jS hl.1 hK (c_X0_bodiesAsked jl D cI kd (by first | assumption | omega)) (hP.sub [] rfl) gX7_form_X0_bodiesAsked rfl rfl rfl kf_X0_bodiesAsked rfl rfl rfl rfl rfl dX7_form_33 rfl rfl) ?_
        refine x_i2l jS dX7_form_36 ?_
        refine x_ladd jS dX7_form_37 ?_
        refine x_put (ty0 := tyX7) (ws' := [(sb, .inr (7, [.ref h4, .ref h0, .ref b1, .ref b2, .ref qr, .ref r1, .ref o3, .ref o2, .ref o5, .int (iI cnt), .int (iI ak), .long (tr + (((iI (if kd = 2 then 111 else if kd = 1 then 11 else 1))).toInt64))])), (h0, .inr (0, [.ref h4, .int (iI sh), .int (iI sc)])), (h4, .inr (4, [.ref q4, .int (iI P)]))]) jS hK hP hD hS h_X7_form_X7 tyX7_ok nmX7 0 rfl rfl 11 rfl m_X7_form_2 rfl rfl rfl rfl dX7_form_38 rfl (fun jH jL hP hD hS => ?_)
        refine x_aln jS dX7_form_41 rfl hl 0 rfl ?_
        refine x_get jS hK hP h_X7_form_X7 0 rfl rfl 1 rfl m_X7_form_3 rfl dX7_form_42 ?_
        refine x_iln jS dX7_form_45 rfl hl 1 rfl ?_
        refine x_iln jS dX7_form_46 rfl hl 2 rfl ?_
        refine x_iln jS dX7_form_47 rfl hl 3 rfl ?_
        refine x_rI (x_rmV (As := [.int (iI kd), .int (iI v), .int (iI ex)]) (rest := []) jS hl.1 hK (c_X0_letter jl D cI h0 h4 q4 P sh sc kd v ex (by first | assumption | omega) (by first | assumption | omega) (by first | assumption | omega) (by first | assumption | omega) (by first | assumption | omega)) (hP.sub [1, 2] rfl) 0 rfl rfl gX7_form_X0_letter rfl rfl rfl kf_X0_letter rfl rfl rfl rfl rfl dX7_form_48 rfl rfl) ?_
        exact x_iretW jS jr jk jq dX7_form_51 (tr + (((iI (if kd = 2 then 111 else if kd = 1 then 11 else 1))).toInt64)) hP hD hS (show (iI (ltr P sh sc kd v ex)) = (iI (if (0 ≤ kd ∧ kd ≤ 2) ∧ (0 ≤ v ∧ v < P) ∧ (0 ≤ ex ∧ ex ≤ 4) then ltr P sh sc kd v ex else -1)) ∧ ((tr + (((iI (if kd = 2 then 111 else if kd = 1 then 11 else 1))).toInt64)) = (if (0 ≤ kd ∧ kd ≤ 2) ∧ (0 ≤ v ∧ v < P) ∧ (0 ≤ ex ∧ ex ≤ 4) then tr + (iI (if kd = 2 then 111 else if kd = 1 then 11 else 1)).toInt64 else tr)) from ⟨by rw [if_pos ⟨hc4, hc15, hc22⟩], (if_pos ⟨hc4, hc15, hc22⟩).symm⟩)
      · skip
        refine x_ic jS dX7_form_25 ?_
        exact x_iretW jS jr jk jq dX7_form_26 tr hP hD hS (show (iI (-1)) = (iI (if (0 ≤ kd ∧ kd ≤ 2) ∧ (0 ≤ v ∧ v < P) ∧ (0 ≤ ex ∧ ex ≤ 4) then ltr P sh sc kd v ex else -1)) ∧ (tr = (if (0 ≤ kd ∧ kd ≤ 2) ∧ (0 ≤ v ∧ v < P) ∧ (0 ≤ ex ∧ ex ≤ 4) then tr + (iI (if kd = 2 then 111 else if kd = 1 then 11 else 1)).toInt64 else tr)) from ⟨by rw [if_neg (by omega)], by rw [if_neg (by omega)]⟩)
theorem kf_X7_isBox : kfS yX7_isBox 1 := by decide +kernel
theorem h_X7_term_X7 : ∀ w ∈ u_ws RX7 TX7 12, w ∈ wsX7_term := fun w h => List.mem_cons_of_mem _ (List.mem_append_left _ (List.mem_append_left _ (List.mem_append_right _ h)))
theorem m_X7_term_1 : Cond.fieldLink RX7 10 "SealedBox" "numbers" "LSealedBox$PrimeField;" ∈ wsX7_term := List.mem_of_getElem? (i := 1) rfl
theorem kf_X7_boxOf : kfV yX7_boxOf RX7 1 := by decide +kernel
theorem h_X7_term_X1 : ∀ w ∈ u_ws RX1 TX1 7, w ∈ wsX7_term := fun w h => List.mem_cons_of_mem _ (List.mem_append_left _ (List.mem_append_right _ h))
abbrev rm_X7_term : Room := { frames := 1, cells := 0, slots := 0, locals := 25 }
set_option maxHeartbeats 4000000 in
set_option maxRecDepth 100000 in
theorem c_X7_term (jl : Launch) (D : va_G) (cI : ClassId) (sb h4 h0 b1 b2 qr r1 o3 o2 o5 : Nat) (cnt ak : Int) (tr : Int64) (p1 f1 l1 p2 f2 l2 q4 : Nat) (P k1 n1 k2 n2 v co x y z : Int) (pt1 pt2 : Int → Int) (sz : Nat) (hP5 : 5 ≤ P ∧ P ≤ 997) (hn1 : 0 ≤ n1 ∧ n1 ≤ 4) (hn2 : 0 ≤ n2 ∧ n2 ≤ 4) (g_v : -2147483648 ≤ v ∧ v < 2147483648) (g_co : -2147483648 ≤ co ∧ co < 2147483648) (g_x : -2147483648 ≤ x ∧ x < 2147483648) (g_y : -2147483648 ≤ y ∧ y < 2147483648) (g_z : -2147483648 ≤ z ∧ z < 2147483648) : Met jl yX7_term wsX7_term rm_X7_term (xPw [.ref sb, .int (iI v), .int (iI co), .int (iI x), .int (iI y), .int (iI z)] D cI [(sb, .inr (7, [.ref h4, .ref h0, .ref b1, .ref b2, .ref qr, .ref r1, .ref o3, .ref o2, .ref o5, .int (iI cnt), .int (iI ak), .long tr])), (b1, .inr (1, [.ref h4, .ref h0, .ref p1, .ref f1, .ref l1, .int (iI k1), .int (iI n1)])), (b2, .inr (1, [.ref h4, .ref h0, .ref p2, .ref f2, .ref l2, .int (iI k2), .int (iI n2)])), (p1, .inl (cI, 16, .inl (aI pt1))), (p2, .inl (cI, 16, .inl (aI pt2))), (h4, .inr (4, [.ref q4, .int (iI P)]))] sz) (va_Qi (fun (r : Int32) (u : Int × Int × (Int → Int) × (Int → Int)) => r = (iI (if (v = 0 ∨ v = 1) ∧ (1 ≤ co ∧ co < P) ∧ (0 ≤ x ∧ x ≤ 4) ∧ (0 ≤ y ∧ y ≤ 4) ∧ (0 ≤ z ∧ z ≤ 4) then (if v = 0 then (if n1 < 4 then n1 else -3) else (if n2 < 4 then n2 else -3)) else -1)) ∧ ((((v = 0 ∨ v = 1) ∧ (1 ≤ co ∧ co < P) ∧ (0 ≤ x ∧ x ≤ 4) ∧ (0 ≤ y ∧ y ≤ 4) ∧ (0 ≤ z ∧ z ≤ 4)) ∧ v = 0 ∧ n1 < 4 ∧ u.1 = n1 + 1 ∧ u.2.2.1 = pt4 pt1 n1 co x y z ∧ u.2.1 = n2 ∧ u.2.2.2 = pt2) ∨ (((v = 0 ∨ v = 1) ∧ (1 ≤ co ∧ co < P) ∧ (0 ≤ x ∧ x ≤ 4) ∧ (0 ≤ y ∧ y ≤ 4) ∧ (0 ≤ z ∧ z ≤ 4)) ∧ v ≠ 0 ∧ n2 < 4 ∧ u.2.1 = n2 + 1 ∧ u.2.2.2 = pt4 pt2 n2 co x y z ∧ u.1 = n1 ∧ u.2.2.1 = pt1) ∨ (¬ (((v = 0 ∨ v = 1) ∧ (1 ≤ co ∧ co < P) ∧ (0 ≤ x ∧ x ≤ 4) ∧ (0 ≤ y ∧ y ≤ 4) ∧ (0 ≤ z ∧ z ≤ 4)) ∧ (v = 0 → n1 < 4) ∧ (v ≠ 0 → n2 < 4)) ∧ u.1 = n1 ∧ u.2.1 = n2 ∧ u.2.2.1 = pt1 ∧ u.2.2.2 = pt2))) (xB D (fun (u : Int × Int × (Int → Int) × (Int → Int)) => [(sb, .inr (7, [.ref h4, .ref h0, .ref b1, .ref b2, .ref qr, .ref r1, .ref o3, .ref o2, .ref o5, .int (iI cnt), .int (iI ak), .long tr])), (b1, .inr (1, [.ref h4, .ref h0, .ref p1, .ref f1, .ref l1, .int (iI k1), .int (iI u.1)])), (b2, .inr (1, [.ref h4, .ref h0, .ref p2, .ref f2, .ref l2, .int (iI k2), .int (iI u.2.1)])), (p1, .inl (cI, 16, .inl (aI u.2.2.1))), (p2, .inl (cI, 16, .inl (aI u.2.2.2))), (h4, .inr (4, [.ref q4, .int (iI P)]))]) (va_A [(sb, .inr (7, [.ref h4, .ref h0, .ref b1, .ref b2, .ref qr, .ref r1, .ref o3, .ref o2, .ref o5, .int (iI cnt), .int (iI ak), .long tr])), (b1, .inr (1, [.ref h4, .ref h0, .ref p1, .ref f1, .ref l1, .int (iI k1), .int (iI n1)])), (b2, .inr (1, [.ref h4, .ref h0, .ref p2, .ref f2, .ref l2, .int (iI k2), .int (iI n2)])), (p1, .inl (cI, 16, .inl (aI pt1))), (p2, .inl (cI, 16, .inl (aI pt2))), (h4, .inr (4, [.ref q4, .int (iI P)]))] sz)) (va_A [(sb, .inr (7, [.ref h4, .ref h0, .ref b1, .ref b2, .ref qr, .ref r1, .ref o3, .ref o2, .ref o5, .int (iI cnt), .int (iI ak), .long tr])), (b1, .inr (1, [.ref h4, .ref h0, .ref p1, .ref f1, .ref l1, .int (iI k1), .int (iI n1)])), (b2, .inr (1, [.ref h4, .ref h0, .ref p2, .ref f2, .ref l2, .int (iI k2), .int (iI n2)])), (p1, .inl (cI, 16, .inl (aI pt1))), (p2, .inl (cI, 16, .inl (aI pt2))), (h4, .inr (4, [.ref q4, .int (iI P)]))] sz)) 0 0 (va_A [(sb, .inr (7, [.ref h4, .ref h0, .ref b1, .ref b2, .ref qr, .ref r1, .ref o3, .ref o2, .ref o5, .int (iI cnt), .int (iI ak), .long tr])), (b1, .inr (1, [.ref h4, .ref h0, .ref p1, .ref f1, .ref l1, .int (iI k1), .int (iI n1)])), (b2, .inr (1, [.ref h4, .ref h0, .ref p2, .ref f2, .ref l2, .int (iI k2), .int (iI n2)])), (p1, .inl (cI, 16, .inl (aI pt1))), (p2, .inl (cI, 16, .inl (aI pt2))), (h4, .inr (4, [.ref q4, .int (iI P)]))] sz) := by
  refine x_metW (own := RX7) (cc := cX7_term) (maxL := 8) (ret := (some .int)) (Qc := fun jA => va_Qi (fun (r : Int32) (u : Int × Int × (Int → Int) × (Int → Int)) => r = (iI (if (v = 0 ∨ v = 1) ∧ (1 ≤ co ∧ co < P) ∧ (0 ≤ x ∧ x ≤ 4) ∧ (0 ≤ y ∧ y ≤ 4) ∧ (0 ≤ z ∧ z ≤ 4) then (if v = 0 then (if n1 < 4 then n1 else -3) else (if n2 < 4 then n2 else -3)) else -1)) ∧ ((((v = 0 ∨ v = 1) ∧ (1 ≤ co ∧ co < P) ∧ (0 ≤ x ∧ x ≤ 4) ∧ (0 ≤ y ∧ y ≤ 4) ∧ (0 ≤ z ∧ z ≤ 4)) ∧ v = 0 ∧ n1 < 4 ∧ u.1 = n1 + 1 ∧ u.2.2.1 = pt4 pt1 n1 co x y z ∧ u.2.1 = n2 ∧ u.2.2.2 = pt2) ∨ (((v = 0 ∨ v = 1) ∧ (1 ≤ co ∧ co < P) ∧ (0 ≤ x ∧ x ≤ 4) ∧ (0 ≤ y ∧ y ≤ 4) ∧ (0 ≤ z ∧ z ≤ 4)) ∧ v ≠ 0 ∧ n2 < 4 ∧ u.2.1 = n2 + 1 ∧ u.2.2.2 = pt4 pt2 n2 co x y z ∧ u.1 = n1 ∧ u.2.2.1 = pt1) ∨ (¬ (((v = 0 ∨ v = 1) ∧ (1 ≤ co ∧ co < P) ∧ (0 ≤ x ∧ x ≤ 4) ∧ (0 ≤ y ∧ y ≤ 4) ∧ (0 ≤ z ∧ z ≤ 4)) ∧ (v = 0 → n1 < 4) ∧ (v ≠ 0 → n2 < 4)) ∧ u.1 = n1 ∧ u.2.1 = n2 ∧ u.2.2.1 = pt1 ∧ u.2.2.2 = pt2))) (xB D (fun (u : Int × Int × (Int → Int) × (Int → Int)) => [(sb, .inr (7, [.ref h4, .ref h0, .ref b1, .ref b2, .ref qr, .ref r1, .ref o3, .ref o2, .ref o5, .int (iI cnt), .int (iI ak), .long tr])), (b1, .inr (1, [.ref h4, .ref h0, .ref p1, .ref f1, .ref l1, .int (iI k1), .int (iI u.1)])), (b2, .inr (1, [.ref h4, .ref h0, .ref p2, .ref f2, .ref l2, .int (iI k2), .int (iI u.2.1)])), (p1, .inl (cI, 16, .inl (aI u.2.2.1))), (p2, .inl (cI, 16, .inl (aI u.2.2.2))), (h4, .inr (4, [.ref q4, .int (iI P)]))]) jA) jA) (by decide) rfl rfl rfl ?_
  intro jp je js jm ja jb jt jc jA jQ jS jr jk jn jq hK hP hD hA hS ls hl
  have hl : lv_has ls 8 [(0, .ref sb), (1, .int (iI v)), (2, .int (iI co)), (3, .int (iI x)), (4, .int (iI y)), (5, .int (iI z))] := hl
  refine x_iln jS dX7_term_0 rfl hl 1 rfl ?_
  refine x_rI (x_rmS (As := [.int (iI v)]) (rest := []) jS hl.1 hK (c_X7_isBox jl D cI v (by first | assumption | omega)) (hP.sub [] rfl) gX7_term_X7_isBox rfl rfl rfl kf_X7_isBox rfl rfl rfl rfl rfl dX7_term_1 rfl rfl) ?_
  refine x_ifeqB jS 22 dX7_term_4 (by decide) (fun hc4 => ?_) (fun hc4 => ?_)
  · skip
    refine x_ic jS dX7_term_22 ?_
    exact x_iretW jS jr jk jq dX7_term_23 ⟨n1, n2, pt1, pt2⟩ hP hD hS (show (iI (-1)) = (iI (if (v = 0 ∨ v = 1) ∧ (1 ≤ co ∧ co < P) ∧ (0 ≤ x ∧ x ≤ 4) ∧ (0 ≤ y ∧ y ≤ 4) ∧ (0 ≤ z ∧ z ≤ 4) then (if v = 0 then (if n1 < 4 then n1 else -3) else (if n2 < 4 then n2 else -3)) else -1)) ∧ ((((v = 0 ∨ v = 1) ∧ (1 ≤ co ∧ co < P) ∧ (0 ≤ x ∧ x ≤ 4) ∧ (0 ≤ y ∧ y ≤ 4) ∧ (0 ≤ z ∧ z ≤ 4)) ∧ v = 0 ∧ n1 < 4 ∧ n1 = n1 + 1 ∧ pt1 = pt4 pt1 n1 co x y z ∧ n2 = n2 ∧ pt2 = pt2) ∨ (((v = 0 ∨ v = 1) ∧ (1 ≤ co ∧ co < P) ∧ (0 ≤ x ∧ x ≤ 4) ∧ (0 ≤ y ∧ y ≤ 4) ∧ (0 ≤ z ∧ z ≤ 4)) ∧ v ≠ 0 ∧ n2 < 4 ∧ n2 = n2 + 1 ∧ pt2 = pt4 pt2 n2 co x y z ∧ n1 = n1 ∧ pt1 = pt1) ∨ (¬ (((v = 0 ∨ v = 1) ∧ (1 ≤ co ∧ co < P) ∧ (0 ≤ x ∧ x ≤ 4) ∧ (0 ≤ y ∧ y ≤ 4) ∧ (0 ≤ z ∧ z ≤ 4)) ∧ (v = 0 → n1 < 4) ∧ (v ≠ 0 → n2 < 4)) ∧ n1 = n1 ∧ n2 = n2 ∧ pt1 = pt1 ∧ pt2 = pt2)) from ⟨by rw [if_neg (by omega)], Or.inr (Or.inr ⟨by omega, rfl, rfl, rfl, rfl⟩)⟩)
  · skip
    refine x_iln jS dX7_term_7 rfl hl 2 rfl ?_
    refine x_ifeq jS 22 dX7_term_8 (by decide) (by omega) (fun hc8 => ?_) (fun hc8 => ?_)
    · skip
      refine x_ic jS dX7_term_22 ?_
      exact x_iretW jS jr jk jq dX7_term_23 ⟨n1, n2, pt1, pt2⟩ hP hD hS (show (iI (-1)) = (iI (if (v = 0 ∨ v = 1) ∧ (1 ≤ co ∧ co < P) ∧ (0 ≤ x ∧ x ≤ 4) ∧ (0 ≤ y ∧ y ≤ 4) ∧ (0 ≤ z ∧ z ≤ 4) then (if v = 0 then (if n1 < 4 then n1 else -3) else (if n2 < 4 then n2 else -3)) else -1)) ∧ ((((v = 0 ∨ v = 1) ∧ (1 ≤ co ∧ co < P) ∧ (0 ≤ x ∧ x ≤ 4) ∧ (0 ≤ y ∧ y ≤ 4) ∧ (0 ≤ z ∧ z ≤ 4)) ∧ v = 0 ∧ n1 < 4 ∧ n1 = n1 + 1 ∧ pt1 = pt4 pt1 n1 co x y z ∧ n2 = n2 ∧ pt2 = pt2) ∨ (((v = 0 ∨ v = 1) ∧ (1 ≤ co ∧ co < P) ∧ (0 ≤ x ∧ x ≤ 4) ∧ (0 ≤ y ∧ y ≤ 4) ∧ (0 ≤ z ∧ z ≤ 4)) ∧ v ≠ 0 ∧ n2 < 4 ∧ n2 = n2 + 1 ∧ pt2 = pt4 pt2 n2 co x y z ∧ n1 = n1 ∧ pt1 = pt1) ∨ (¬ (((v = 0 ∨ v = 1) ∧ (1 ≤ co ∧ co < P) ∧ (0 ≤ x ∧ x ≤ 4) ∧ (0 ≤ y ∧ y ≤ 4) ∧ (0 ≤ z ∧ z ≤ 4)) ∧ (v = 0 → n1 < 4) ∧ (v ≠ 0 → n2 < 4)) ∧ n1 = n1 ∧ n2 = n2 ∧ pt1 = pt1 ∧ pt2 = pt2)) from ⟨by rw [if_neg (by omega)], Or.inr (Or.inr ⟨by omega, rfl, rfl, rfl, rfl⟩)⟩)
    · skip
      refine x_aln jS dX7_term_11 rfl hl 0 rfl ?_
      refine x_get jS hK hP h_X7_term_X7 0 rfl rfl 0 rfl m_X7_term_1 rfl dX7_term_12 ?_
      refine x_iln jS dX7_term_15 rfl hl 2 rfl ?_
      refine x_rI (x_rmV (As := [.int (iI co)]) (rest := []) jS hl.1 hK (c_X4_has jl D cI h4 q4 P co (by first | assumption | omega) (by first | assumption | omega)) (hP.sub [5] rfl) 0 rfl rfl gX7_term_X4_has rfl rfl rfl kf_X4_has rfl rfl rfl rfl rfl dX7_term_16 rfl rfl) ?_
      refine x_ifneB jS 24 dX7_term_19 (by decide) (fun hc19 => ?_) (fun hc19 => ?_)
      · skip
        refine x_iln jS dX7_term_24 rfl hl 3 rfl ?_
        refine x_rI (x_rmS (As := [.int (iI x)]) (rest := []) jS hl.1 hK (c_X7_isExponent jl D cI x (by first | assumption | omega)) (hP.sub [] rfl) gX7_term_X7_isExponent rfl rfl rfl kf_X7_isExponent rfl rfl rfl rfl rfl dX7_term_25 rfl rfl) ?_
        refine x_ifeqB jS 47 dX7_term_28 (by decide) (fun hc28 => ?_) (fun hc28 => ?_)
        · skip
          refine x_ic jS dX7_term_47 ?_
          exact x_iretW jS jr jk jq dX7_term_48 ⟨n1, n2, pt1, pt2⟩ hP hD hS (show (iI (-1)) = (iI (if (v = 0 ∨ v = 1) ∧ (1 ≤ co ∧ co < P) ∧ (0 ≤ x ∧ x ≤ 4) ∧ (0 ≤ y ∧ y ≤ 4) ∧ (0 ≤ z ∧ z ≤ 4) then (if v = 0 then (if n1 < 4 then n1 else -3) else (if n2 < 4 then n2 else -3)) else -1)) ∧ ((((v = 0 ∨ v = 1) ∧ (1 ≤ co ∧ co < P) ∧ (0 ≤ x ∧ x ≤ 4) ∧ (0 ≤ y ∧ y ≤ 4) ∧ (0 ≤ z ∧ z ≤ 4)) ∧ v = 0 ∧ n1 < 4 ∧ n1 = n1 + 1 ∧ pt1 = pt4 pt1 n1 co x y z ∧ n2 = n2 ∧ pt2 = pt2) ∨ (((v = 0 ∨ v = 1) ∧ (1 ≤ co ∧ co < P) ∧ (0 ≤ x ∧ x ≤ 4) ∧ (0 ≤ y ∧ y ≤ 4) ∧ (0 ≤ z ∧ z ≤ 4)) ∧ v ≠ 0 ∧ n2 < 4 ∧ n2 = n2 + 1 ∧ pt2 = pt4 pt2 n2 co x y z ∧ n1 = n1 ∧ pt1 = pt1) ∨ (¬ (((v = 0 ∨ v = 1) ∧ (1 ≤ co ∧ co < P) ∧ (0 ≤ x ∧ x ≤ 4) ∧ (0 ≤ y ∧ y ≤ 4) ∧ (0 ≤ z ∧ z ≤ 4)) ∧ (v = 0 → n1 < 4) ∧ (v ≠ 0 → n2 < 4)) ∧ n1 = n1 ∧ n2 = n2 ∧ pt1 = pt1 ∧ pt2 = pt2)) from ⟨by rw [if_neg (by omega)], Or.inr (Or.inr ⟨by omega, rfl, rfl, rfl, rfl⟩)⟩)
        · skip
          refine x_il jS dX7_term_31 hl 4 rfl ?_
          refine x_rI (x_rmS (As := [.int (iI y)]) (rest := []) jS hl.1 hK (c_X7_isExponent jl D cI y (by first | assumption | omega)) (hP.sub [] rfl) gX7_term_X7_isExponent rfl rfl rfl kf_X7_isExponent rfl rfl rfl rfl rfl dX7_term_33 rfl rfl) ?_
          refine x_ifeqB jS 47 dX7_term_36 (by decide) (fun hc36 => ?_) (fun hc36 => ?_)
          · skip
            refine x_ic jS dX7_term_47 ?_
            exact x_iretW jS jr jk jq dX7_term_48 ⟨n1, n2, pt1, pt2⟩ hP hD hS (show (iI (-1)) = (iI (if (v = 0 ∨ v = 1) ∧ (1 ≤ co ∧ co < P) ∧ (0 ≤ x ∧ x ≤ 4) ∧ (0 ≤ y ∧ y ≤ 4) ∧ (0 ≤ z ∧ z ≤ 4) then (if v = 0 then (if n1 < 4 then n1 else -3) else (if n2 < 4 then n2 else -3)) else -1)) ∧ ((((v = 0 ∨ v = 1) ∧ (1 ≤ co ∧ co < P) ∧ (0 ≤ x ∧ x ≤ 4) ∧ (0 ≤ y ∧ y ≤ 4) ∧ (0 ≤ z ∧ z ≤ 4)) ∧ v = 0 ∧ n1 < 4 ∧ n1 = n1 + 1 ∧ pt1 = pt4 pt1 n1 co x y z ∧ n2 = n2 ∧ pt2 = pt2) ∨ (((v = 0 ∨ v = 1) ∧ (1 ≤ co ∧ co < P) ∧ (0 ≤ x ∧ x ≤ 4) ∧ (0 ≤ y ∧ y ≤ 4) ∧ (0 ≤ z ∧ z ≤ 4)) ∧ v ≠ 0 ∧ n2 < 4 ∧ n2 = n2 + 1 ∧ pt2 = pt4 pt2 n2 co x y z ∧ n1 = n1 ∧ pt1 = pt1) ∨ (¬ (((v = 0 ∨ v = 1) ∧ (1 ≤ co ∧ co < P) ∧ (0 ≤ x ∧ x ≤ 4) ∧ (0 ≤ y ∧ y ≤ 4) ∧ (0 ≤ z ∧ z ≤ 4)) ∧ (v = 0 → n1 < 4) ∧ (v ≠ 0 → n2 < 4)) ∧ n1 = n1 ∧ n2 = n2 ∧ pt1 = pt1 ∧ pt2 = pt2)) from ⟨by rw [if_neg (by omega)], Or.inr (Or.inr ⟨by omega, rfl, rfl, rfl, rfl⟩)⟩)
          · skip
            refine x_il jS dX7_term_39 hl 5 rfl ?_
            refine x_rI (x_rmS (As := [.int (iI z)]) (rest := []) jS hl.1 hK (c_X7_isExponent jl D cI z (by first | assumption | omega)) (hP.sub [] rfl) gX7_term_X7_isExponent rfl rfl rfl kf_X7_isExponent rfl rfl rfl rfl rfl dX7_term_41 rfl rfl) ?_
            refine x_ifneB jS 49 dX7_term_44 (by decide) (fun hc44 => ?_) (fun hc44 => ?_)
            · skip
              by_cases hv0 : v = 0
              · skip
                have hall : (v = 0 ∨ v = 1) ∧ (1 ≤ co ∧ co < P) ∧ (0 ≤ x ∧ x ≤ 4) ∧ (0 ≤ y ∧ y ≤ 4) ∧ (0 ≤ z ∧ z ≤ 4) := ⟨hc4, by omega, hc28, hc36, hc44⟩
                refine x_aln jS dX7_term_49 rfl hl 0 rfl ?_
                refine x_iln jS dX7_term_50 rfl hl 1 rfl ?_
                refine x_rA (x_rmV (As := [.int (iI v)]) (rest := []) jS hl.1 hK (c_X7_boxOf jl D cI sb h4 h0 b1 b2 qr r1 o3 o2 o5 cnt ak tr v (by first | assumption | omega) (by first | assumption | omega)) (hP.sub [0] rfl) 0 rfl rfl gX7_term_X7_boxOf rfl rfl rfl kf_X7_boxOf rfl rfl rfl rfl rfl dX7_term_51 rfl rfl) ?_
                refine x_as (lv' := [(6, .ref b1), (0, .ref sb), (1, .int (iI v)), (2, .int (iI co)), (3, .int (iI x)), (4, .int (iI y)), (5, .int (iI z))]) jS dX7_term_54 hl rfl rfl (fun ls hl => ?_)
                refine x_al jS dX7_term_56 hl 0 rfl ?_
                refine x_getN jS hK hP h_X7_term_X1 1 rfl rfl 6 rfl 9 rfl rfl dX7_term_58 ?_
                refine x_is (lv' := [(7, .int (iI n1)), (6, .ref b1), (0, .ref sb), (1, .int (iI v)), (2, .int (iI co)), (3, .int (iI x)), (4, .int (iI y)), (5, .int (iI z))]) jS dX7_term_61 hl rfl rfl (fun ls hl => ?_)
                refine x_al jS dX7_term_63 hl 1 rfl ?_
                refine x_iln jS dX7_term_65 rfl hl 4 rfl ?_
                refine x_iln jS dX7_term_66 rfl hl 5 rfl ?_
                refine x_il jS dX7_term_67 hl 6 rfl ?_
                refine x_il jS dX7_term_69 hl 7 rfl ?_
                refine x_aI (wc := [(b1, .inr (1, [.ref h4, .ref h0, .ref p1, .ref f1, .ref l1, .int (iI k1), .int (iI n1)])), (p1, .inl (cI, 16, .inl (aI pt1)))]) (wr := [(sb, .inr (7, [.ref h4, .ref h0, .ref b1, .ref b2, .ref qr, .ref r1, .ref o3, .ref o2, .ref o5, .int (iI cnt), .int (iI ak), .long tr])), (b2, .inr (1, [.ref h4, .ref h0, .ref p2, .ref f2, .ref l2, .int (iI k2), .int (iI n2)])), (p2, .inl (cI, 16, .inl (aI pt2))), (h4, .inr (4, [.ref q4, .int (iI P)]))]) hP hD hS hA [1, 3] [0, 2, 4, 5] rfl rfl (by decide) (by decide) (cs := 0) (ss := 0) rfl rfl (x_rnV (As := [.int (iI co), .int (iI x), .int (iI y), .int (iI z)]) (rest := []) jS hl.1 hK (c_X1_add jl D cI b1 p1 f1 l1 h0 h4 k1 n1 co x y z pt1 _ (by first | assumption | omega)) hP hD [1, 3] rfl rfl (by decide) 0 rfl rfl gX7_term_X1_add rfl rfl rfl kf_X1_add rfl rfl rfl rfl rfl dX7_term_71 rfl rfl) (fun jv u jH jL hw hP hD hS => ?_)
                obtain ⟨nn, pp⟩ := u
                obtain ⟨hv, hw⟩ := hw
                have hw71 : (n1 < 4 → nn = n1 + 1 ∧ pp = pt4 pt1 n1 co x y z) ∧ (¬ n1 < 4 → nn = n1 ∧ pp = pt1) := hw
                subst hv
                have hP : va_P D vwCl [(sb, .inr (7, [.ref h4, .ref h0, .ref b1, .ref b2, .ref qr, .ref r1, .ref o3, .ref o2, .ref o5, .int (iI cnt), .int (iI ak), .long tr])), (b2, .inr (1, [.ref h4, .ref h0, .ref p2, .ref f2, .ref l2, .int (iI k2), .int (iI n2)])), (p2, .inl (cI, 16, .inl (aI pt2))), (h4, .inr (4, [.ref q4, .int (iI P)])), (b1, .inr (1, [.ref h4, .ref h0, .ref p1, .ref f1, .ref l1, .int (iI k1), .int (iI nn)])), (p1, .inl (cI, 16, .inl (aI pp)))] jH := hP
                have hD : va_D jA [(sb, .inr (7, [.ref h4, .ref h0, .ref b1, .ref b2, .ref qr, .ref r1, .ref o3, .ref o2, .ref o5, .int (iI cnt), .int (iI ak), .long tr])), (b2, .inr (1, [.ref h4, .ref h0, .ref p2, .ref f2, .ref l2, .int (iI k2), .int (iI n2)])), (p2, .inl (cI, 16, .inl (aI pt2))), (h4, .inr (4, [.ref q4, .int (iI P)])), (b1, .inr (1, [.ref h4, .ref h0, .ref p1, .ref f1, .ref l1, .int (iI k1), .int (iI nn)])), (p1, .inl (cI, 16, .inl (aI pp)))] := hD
                refine x_ifeqB jS 82 dX7_term_74 (by decide) (fun hc74 => ?_) (fun hc74 => ?_)
                · skip
                  refine x_bi jS dX7_term_82 (by decide) ?_
                  exact x_iretW jS jr jk jq dX7_term_84 ⟨nn, n2, pp, pt2⟩ (hP.sub [0, 4, 1, 5, 2, 3] rfl) (hD.sub [0, 4, 1, 5, 2, 3] (by decide) rfl) hS (show (iI (-3)) = (iI (if (v = 0 ∨ v = 1) ∧ (1 ≤ co ∧ co < P) ∧ (0 ≤ x ∧ x ≤ 4) ∧ (0 ≤ y ∧ y ≤ 4) ∧ (0 ≤ z ∧ z ≤ 4) then (if v = 0 then (if n1 < 4 then n1 else -3) else (if n2 < 4 then n2 else -3)) else -1)) ∧ ((((v = 0 ∨ v = 1) ∧ (1 ≤ co ∧ co < P) ∧ (0 ≤ x ∧ x ≤ 4) ∧ (0 ≤ y ∧ y ≤ 4) ∧ (0 ≤ z ∧ z ≤ 4)) ∧ v = 0 ∧ n1 < 4 ∧ nn = n1 + 1 ∧ pp = pt4 pt1 n1 co x y z ∧ n2 = n2 ∧ pt2 = pt2) ∨ (((v = 0 ∨ v = 1) ∧ (1 ≤ co ∧ co < P) ∧ (0 ≤ x ∧ x ≤ 4) ∧ (0 ≤ y ∧ y ≤ 4) ∧ (0 ≤ z ∧ z ≤ 4)) ∧ v ≠ 0 ∧ n2 < 4 ∧ n2 = n2 + 1 ∧ pt2 = pt4 pt2 n2 co x y z ∧ nn = n1 ∧ pp = pt1) ∨ (¬ (((v = 0 ∨ v = 1) ∧ (1 ≤ co ∧ co < P) ∧ (0 ≤ x ∧ x ≤ 4) ∧ (0 ≤ y ∧ y ≤ 4) ∧ (0 ≤ z ∧ z ≤ 4)) ∧ (v = 0 → n1 < 4) ∧ (v ≠ 0 → n2 < 4)) ∧ nn = n1 ∧ n2 = n2 ∧ pp = pt1 ∧ pt2 = pt2)) from ⟨by rw [if_pos hall, if_pos hv0, if_neg hc74], Or.inr (Or.inr ⟨fun g => hc74 (g.2.1 hv0), (hw71.2 hc74).1, rfl, (hw71.2 hc74).2, rfl⟩)⟩)
                · skip
                  refine x_il jS dX7_term_77 hl 0 rfl ?_
                  refine x_goto jS 84 dX7_term_79 (by decide) ?_
                  exact x_iretW jS jr jk jq dX7_term_84 ⟨nn, n2, pp, pt2⟩ (hP.sub [0, 4, 1, 5, 2, 3] rfl) (hD.sub [0, 4, 1, 5, 2, 3] (by decide) rfl) hS (show (iI n1) = (iI (if (v = 0 ∨ v = 1) ∧ (1 ≤ co ∧ co < P) ∧ (0 ≤ x ∧ x ≤ 4) ∧ (0 ≤ y ∧ y ≤ 4) ∧ (0 ≤ z ∧ z ≤ 4) then (if v = 0 then (if n1 < 4 then n1 else -3) else (if n2 < 4 then n2 else -3)) else -1)) ∧ ((((v = 0 ∨ v = 1) ∧ (1 ≤ co ∧ co < P) ∧ (0 ≤ x ∧ x ≤ 4) ∧ (0 ≤ y ∧ y ≤ 4) ∧ (0 ≤ z ∧ z ≤ 4)) ∧ v = 0 ∧ n1 < 4 ∧ nn = n1 + 1 ∧ pp = pt4 pt1 n1 co x y z ∧ n2 = n2 ∧ pt2 = pt2) ∨ (((v = 0 ∨ v = 1) ∧ (1 ≤ co ∧ co < P) ∧ (0 ≤ x ∧ x ≤ 4) ∧ (0 ≤ y ∧ y ≤ 4) ∧ (0 ≤ z ∧ z ≤ 4)) ∧ v ≠ 0 ∧ n2 < 4 ∧ n2 = n2 + 1 ∧ pt2 = pt4 pt2 n2 co x y z ∧ nn = n1 ∧ pp = pt1) ∨ (¬ (((v = 0 ∨ v = 1) ∧ (1 ≤ co ∧ co < P) ∧ (0 ≤ x ∧ x ≤ 4) ∧ (0 ≤ y ∧ y ≤ 4) ∧ (0 ≤ z ∧ z ≤ 4)) ∧ (v = 0 → n1 < 4) ∧ (v ≠ 0 → n2 < 4)) ∧ nn = n1 ∧ n2 = n2 ∧ pp = pt1 ∧ pt2 = pt2)) from ⟨by rw [if_pos hall, if_pos hv0, if_pos hc74], Or.inl ⟨hall, hv0, hc74, (hw71.1 hc74).1, (hw71.1 hc74).2, rfl, rfl⟩⟩)
              · skip
                have hall : (v = 0 ∨ v = 1) ∧ (1 ≤ co ∧ co < P) ∧ (0 ≤ x ∧ x ≤ 4) ∧ (0 ≤ y ∧ y ≤ 4) ∧ (0 ≤ z ∧ z ≤ 4) := ⟨hc4, by omega, hc28, hc36, hc44⟩
                refine x_aln jS dX7_term_49 rfl hl 0 rfl ?_
                refine x_iln jS dX7_term_50 rfl hl 1 rfl ?_
                refine x_rA (x_rmV (As := [.int (iI v)]) (rest := []) jS hl.1 hK (c_X7_boxOf1 jl D cI sb h4 h0 b1 b2 qr r1 o3 o2 o5 cnt ak tr v (by first | assumption | omega) (by first | assumption | omega)) (hP.sub [0] rfl) 0 rfl rfl gX7_term_X7_boxOf rfl rfl rfl kf_X7_boxOf rfl rfl rfl rfl rfl dX7_term_51 rfl rfl) ?_
                refine x_as (lv' := [(6, .ref b2), (0, .ref sb), (1, .int (iI v)), (2, .int (iI co)), (3, .int (iI x)), (4, .int (iI y)), (5, .int (iI z))]) jS dX7_term_54 hl rfl rfl (fun ls hl => ?_)
                refine x_al jS dX7_term_56 hl 0 rfl ?_
                refine x_getN jS hK hP h_X7_term_X1 2 rfl rfl 6 rfl 9 rfl rfl dX7_term_58 ?_
                refine x_is (lv' := [(7, .int (iI n2)), (6, .ref b2), (0, .ref sb), (1, .int (iI v)), (2, .int (iI co)), (3, .int (iI x)), (4, .int (iI y)), (5, .int (iI z))]) jS dX7_term_61 hl rfl rfl (fun ls hl => ?_)
                refine x_al jS dX7_term_63 hl 1 rfl ?_
                refine x_iln jS dX7_term_65 rfl hl 4 rfl ?_
                refine x_iln jS dX7_term_66 rfl hl 5 rfl ?_
                refine x_il jS dX7_term_67 hl 6 rfl ?_
                refine x_il jS dX7_term_69 hl 7 rfl ?_
                refine x_aI (wc := [(b2, .inr (1, [.ref h4, .ref h0, .ref p2, .ref f2, .ref l2, .int (iI k2), .int (iI n2)])), (p2, .inl (cI, 16, .inl (aI pt2)))]) (wr := [(sb, .inr (7, [.ref h4, .ref h0, .ref b1, .ref b2, .ref qr, .ref r1, .ref o3, .ref o2, .ref o5, .int (iI cnt), .int (iI ak), .long tr])), (b1, .inr (1, [.ref h4, .ref h0, .ref p1, .ref f1, .ref l1, .int (iI k1), .int (iI n1)])), (p1, .inl (cI, 16, .inl (aI pt1))), (h4, .inr (4, [.ref q4, .int (iI P)]))]) hP hD hS hA [2, 4] [0, 1, 3, 5] rfl rfl (by decide) (by decide) (cs := 0) (ss := 0) rfl rfl (x_rnV (As := [.int (iI co), .int (iI x), .int (iI y), .int (iI z)]) (rest := []) jS hl.1 hK (c_X1_add jl D cI b2 p2 f2 l2 h0 h4 k2 n2 co x y z pt2 _ (by first | assumption | omega)) hP hD [2, 4] rfl rfl (by decide) 0 rfl rfl gX7_term_X1_add rfl rfl rfl kf_X1_add rfl rfl rfl rfl rfl dX7_term_71 rfl rfl) (fun jv u jH jL hw hP hD hS => ?_)
                obtain ⟨nn, pp⟩ := u
                obtain ⟨hv, hw⟩ := hw
                have hw71 : (n2 < 4 → nn = n2 + 1 ∧ pp = pt4 pt2 n2 co x y z) ∧ (¬ n2 < 4 → nn = n2 ∧ pp = pt2) := hw
                subst hv
                have hP : va_P D vwCl [(sb, .inr (7, [.ref h4, .ref h0, .ref b1, .ref b2, .ref qr, .ref r1, .ref o3, .ref o2, .ref o5, .int (iI cnt), .int (iI ak), .long tr])), (b1, .inr (1, [.ref h4, .ref h0, .ref p1, .ref f1, .ref l1, .int (iI k1), .int (iI n1)])), (p1, .inl (cI, 16, .inl (aI pt1))), (h4, .inr (4, [.ref q4, .int (iI P)])), (b2, .inr (1, [.ref h4, .ref h0, .ref p2, .ref f2, .ref l2, .int (iI k2), .int (iI nn)])), (p2, .inl (cI, 16, .inl (aI pp)))] jH := hP
                have hD : va_D jA [(sb, .inr (7, [.ref h4, .ref h0, .ref b1, .ref b2, .ref qr, .ref r1, .ref o3, .ref o2, .ref o5, .int (iI cnt), .int (iI ak), .long tr])), (b1, .inr (1, [.ref h4, .ref h0, .ref p1, .ref f1, .ref l1, .int (iI k1), .int (iI n1)])), (p1, .inl (cI, 16, .inl (aI pt1))), (h4, .inr (4, [.ref q4, .int (iI P)])), (b2, .inr (1, [.ref h4, .ref h0, .ref p2, .ref f2, .ref l2, .int (iI k2), .int (iI nn)])), (p2, .inl (cI, 16, .inl (aI pp)))] := hD
                refine x_ifeqB jS 82 dX7_term_74 (by decide) (fun hc74 => ?_) (fun hc74 => ?_)
                · skip
                  refine x_bi jS dX7_term_82 (by decide) ?_
                  exact x_iretW jS jr jk jq dX7_term_84 ⟨n1, nn, pt1, pp⟩ (hP.sub [0, 1, 4, 2, 5, 3] rfl) (hD.sub [0, 1, 4, 2, 5, 3] (by decide) rfl) hS (show (iI (-3)) = (iI (if (v = 0 ∨ v = 1) ∧ (1 ≤ co ∧ co < P) ∧ (0 ≤ x ∧ x ≤ 4) ∧ (0 ≤ y ∧ y ≤ 4) ∧ (0 ≤ z ∧ z ≤ 4) then (if v = 0 then (if n1 < 4 then n1 else -3) else (if n2 < 4 then n2 else -3)) else -1)) ∧ ((((v = 0 ∨ v = 1) ∧ (1 ≤ co ∧ co < P) ∧ (0 ≤ x ∧ x ≤ 4) ∧ (0 ≤ y ∧ y ≤ 4) ∧ (0 ≤ z ∧ z ≤ 4)) ∧ v = 0 ∧ n1 < 4 ∧ n1 = n1 + 1 ∧ pt1 = pt4 pt1 n1 co x y z ∧ nn = n2 ∧ pp = pt2) ∨ (((v = 0 ∨ v = 1) ∧ (1 ≤ co ∧ co < P) ∧ (0 ≤ x ∧ x ≤ 4) ∧ (0 ≤ y ∧ y ≤ 4) ∧ (0 ≤ z ∧ z ≤ 4)) ∧ v ≠ 0 ∧ n2 < 4 ∧ nn = n2 + 1 ∧ pp = pt4 pt2 n2 co x y z ∧ n1 = n1 ∧ pt1 = pt1) ∨ (¬ (((v = 0 ∨ v = 1) ∧ (1 ≤ co ∧ co < P) ∧ (0 ≤ x ∧ x ≤ 4) ∧ (0 ≤ y ∧ y ≤ 4) ∧ (0 ≤ z ∧ z ≤ 4)) ∧ (v = 0 → n1 < 4) ∧ (v ≠ 0 → n2 < 4)) ∧ n1 = n1 ∧ nn = n2 ∧ pt1 = pt1 ∧ pp = pt2)) from ⟨by rw [if_pos hall, if_neg hv0, if_neg hc74], Or.inr (Or.inr ⟨fun g => hc74 (g.2.2 hv0), rfl, (hw71.2 hc74).1, rfl, (hw71.2 hc74).2⟩)⟩)
                · skip
                  refine x_il jS dX7_term_77 hl 0 rfl ?_
                  refine x_goto jS 84 dX7_term_79 (by decide) ?_
                  exact x_iretW jS jr jk jq dX7_term_84 ⟨n1, nn, pt1, pp⟩ (hP.sub [0, 1, 4, 2, 5, 3] rfl) (hD.sub [0, 1, 4, 2, 5, 3] (by decide) rfl) hS (show (iI n2) = (iI (if (v = 0 ∨ v = 1) ∧ (1 ≤ co ∧ co < P) ∧ (0 ≤ x ∧ x ≤ 4) ∧ (0 ≤ y ∧ y ≤ 4) ∧ (0 ≤ z ∧ z ≤ 4) then (if v = 0 then (if n1 < 4 then n1 else -3) else (if n2 < 4 then n2 else -3)) else -1)) ∧ ((((v = 0 ∨ v = 1) ∧ (1 ≤ co ∧ co < P) ∧ (0 ≤ x ∧ x ≤ 4) ∧ (0 ≤ y ∧ y ≤ 4) ∧ (0 ≤ z ∧ z ≤ 4)) ∧ v = 0 ∧ n1 < 4 ∧ n1 = n1 + 1 ∧ pt1 = pt4 pt1 n1 co x y z ∧ nn = n2 ∧ pp = pt2) ∨ (((v = 0 ∨ v = 1) ∧ (1 ≤ co ∧ co < P) ∧ (0 ≤ x ∧ x ≤ 4) ∧ (0 ≤ y ∧ y ≤ 4) ∧ (0 ≤ z ∧ z ≤ 4)) ∧ v ≠ 0 ∧ n2 < 4 ∧ nn = n2 + 1 ∧ pp = pt4 pt2 n2 co x y z ∧ n1 = n1 ∧ pt1 = pt1) ∨ (¬ (((v = 0 ∨ v = 1) ∧ (1 ≤ co ∧ co < P) ∧ (0 ≤ x ∧ x ≤ 4) ∧ (0 ≤ y ∧ y ≤ 4) ∧ (0 ≤ z ∧ z ≤ 4)) ∧ (v = 0 → n1 < 4) ∧ (v ≠ 0 → n2 < 4)) ∧ n1 = n1 ∧ nn = n2 ∧ pt1 = pt1 ∧ pp = pt2)) from ⟨by rw [if_pos hall, if_neg hv0, if_pos hc74], Or.inr (Or.inl ⟨hall, hv0, hc74, (hw71.1 hc74).1, (hw71.1 hc74).2, rfl, rfl⟩)⟩)
            · skip
              refine x_ic jS dX7_term_47 ?_
              exact x_iretW jS jr jk jq dX7_term_48 ⟨n1, n2, pt1, pt2⟩ hP hD hS (show (iI (-1)) = (iI (if (v = 0 ∨ v = 1) ∧ (1 ≤ co ∧ co < P) ∧ (0 ≤ x ∧ x ≤ 4) ∧ (0 ≤ y ∧ y ≤ 4) ∧ (0 ≤ z ∧ z ≤ 4) then (if v = 0 then (if n1 < 4 then n1 else -3) else (if n2 < 4 then n2 else -3)) else -1)) ∧ ((((v = 0 ∨ v = 1) ∧ (1 ≤ co ∧ co < P) ∧ (0 ≤ x ∧ x ≤ 4) ∧ (0 ≤ y ∧ y ≤ 4) ∧ (0 ≤ z ∧ z ≤ 4)) ∧ v = 0 ∧ n1 < 4 ∧ n1 = n1 + 1 ∧ pt1 = pt4 pt1 n1 co x y z ∧ n2 = n2 ∧ pt2 = pt2) ∨ (((v = 0 ∨ v = 1) ∧ (1 ≤ co ∧ co < P) ∧ (0 ≤ x ∧ x ≤ 4) ∧ (0 ≤ y ∧ y ≤ 4) ∧ (0 ≤ z ∧ z ≤ 4)) ∧ v ≠ 0 ∧ n2 < 4 ∧ n2 = n2 + 1 ∧ pt2 = pt4 pt2 n2 co x y z ∧ n1 = n1 ∧ pt1 = pt1) ∨ (¬ (((v = 0 ∨ v = 1) ∧ (1 ≤ co ∧ co < P) ∧ (0 ≤ x ∧ x ≤ 4) ∧ (0 ≤ y ∧ y ≤ 4) ∧ (0 ≤ z ∧ z ≤ 4)) ∧ (v = 0 → n1 < 4) ∧ (v ≠ 0 → n2 < 4)) ∧ n1 = n1 ∧ n2 = n2 ∧ pt1 = pt1 ∧ pt2 = pt2)) from ⟨by rw [if_neg (by omega)], Or.inr (Or.inr ⟨by omega, rfl, rfl, rfl, rfl⟩)⟩)
      · skip
        refine x_ic jS dX7_term_22 ?_
        exact x_iretW jS jr jk jq dX7_term_23 ⟨n1, n2, pt1, pt2⟩ hP hD hS (show (iI (-1)) = (iI (if (v = 0 ∨ v = 1) ∧ (1 ≤ co ∧ co < P) ∧ (0 ≤ x ∧ x ≤ 4) ∧ (0 ≤ y ∧ y ≤ 4) ∧ (0 ≤ z ∧ z ≤ 4) then (if v = 0 then (if n1 < 4 then n1 else -3) else (if n2 < 4 then n2 else -3)) else -1)) ∧ ((((v = 0 ∨ v = 1) ∧ (1 ≤ co ∧ co < P) ∧ (0 ≤ x ∧ x ≤ 4) ∧ (0 ≤ y ∧ y ≤ 4) ∧ (0 ≤ z ∧ z ≤ 4)) ∧ v = 0 ∧ n1 < 4 ∧ n1 = n1 + 1 ∧ pt1 = pt4 pt1 n1 co x y z ∧ n2 = n2 ∧ pt2 = pt2) ∨ (((v = 0 ∨ v = 1) ∧ (1 ≤ co ∧ co < P) ∧ (0 ≤ x ∧ x ≤ 4) ∧ (0 ≤ y ∧ y ≤ 4) ∧ (0 ≤ z ∧ z ≤ 4)) ∧ v ≠ 0 ∧ n2 < 4 ∧ n2 = n2 + 1 ∧ pt2 = pt4 pt2 n2 co x y z ∧ n1 = n1 ∧ pt1 = pt1) ∨ (¬ (((v = 0 ∨ v = 1) ∧ (1 ≤ co ∧ co < P) ∧ (0 ≤ x ∧ x ≤ 4) ∧ (0 ≤ y ∧ y ≤ 4) ∧ (0 ≤ z ∧ z ≤ 4)) ∧ (v = 0 → n1 < 4) ∧ (v ≠ 0 → n2 < 4)) ∧ n1 = n1 ∧ n2 = n2 ∧ pt1 = pt1 ∧ pt2 = pt2)) from ⟨by rw [if_neg (by omega)], Or.inr (Or.inr ⟨by omega, rfl, rfl, rfl, rfl⟩)⟩)
theorem h_X7_empty_X1 : ∀ w ∈ u_ws RX1 TX1 7, w ∈ wsX7_empty := fun w h => List.mem_cons_of_mem _ (List.mem_append_left _ (List.mem_append_right _ h))
abbrev rm_X7_empty : Room := { frames := 1, cells := 0, slots := 0, locals := 21 }
set_option maxHeartbeats 4000000 in
set_option maxRecDepth 100000 in
theorem c_X7_empty (jl : Launch) (D : va_G) (cI : ClassId) (sb h4 h0 b1 b2 qr r1 o3 o2 o5 : Nat) (cnt ak : Int) (tr : Int64) (p1 f1 l1 p2 f2 l2 : Nat) (k1 n1 k2 n2 : Int) (v : Int) (sz : Nat) (g_v : -2147483648 ≤ v ∧ v < 2147483648) : Met jl yX7_empty wsX7_empty rm_X7_empty (xPw [.ref sb, .int (iI v)] D cI [(sb, .inr (7, [.ref h4, .ref h0, .ref b1, .ref b2, .ref qr, .ref r1, .ref o3, .ref o2, .ref o5, .int (iI cnt), .int (iI ak), .long tr])), (b1, .inr (1, [.ref h4, .ref h0, .ref p1, .ref f1, .ref l1, .int (iI k1), .int (iI n1)])), (b2, .inr (1, [.ref h4, .ref h0, .ref p2, .ref f2, .ref l2, .int (iI k2), .int (iI n2)]))] sz) (va_Qi (fun (r : Int32) (u : Int × Int) => r = (iI (if v = 0 then n1 else if v = 1 then n2 else -1)) ∧ (u.1 = (if v = 0 then 0 else n1) ∧ u.2 = (if v = 1 then 0 else n2))) (xB D (fun (u : Int × Int) => [(sb, .inr (7, [.ref h4, .ref h0, .ref b1, .ref b2, .ref qr, .ref r1, .ref o3, .ref o2, .ref o5, .int (iI cnt), .int (iI ak), .long tr])), (b1, .inr (1, [.ref h4, .ref h0, .ref p1, .ref f1, .ref l1, .int (iI k1), .int (iI u.1)])), (b2, .inr (1, [.ref h4, .ref h0, .ref p2, .ref f2, .ref l2, .int (iI k2), .int (iI u.2)]))]) (va_A [(sb, .inr (7, [.ref h4, .ref h0, .ref b1, .ref b2, .ref qr, .ref r1, .ref o3, .ref o2, .ref o5, .int (iI cnt), .int (iI ak), .long tr])), (b1, .inr (1, [.ref h4, .ref h0, .ref p1, .ref f1, .ref l1, .int (iI k1), .int (iI n1)])), (b2, .inr (1, [.ref h4, .ref h0, .ref p2, .ref f2, .ref l2, .int (iI k2), .int (iI n2)]))] sz)) (va_A [(sb, .inr (7, [.ref h4, .ref h0, .ref b1, .ref b2, .ref qr, .ref r1, .ref o3, .ref o2, .ref o5, .int (iI cnt), .int (iI ak), .long tr])), (b1, .inr (1, [.ref h4, .ref h0, .ref p1, .ref f1, .ref l1, .int (iI k1), .int (iI n1)])), (b2, .inr (1, [.ref h4, .ref h0, .ref p2, .ref f2, .ref l2, .int (iI k2), .int (iI n2)]))] sz)) 0 0 (va_A [(sb, .inr (7, [.ref h4, .ref h0, .ref b1, .ref b2, .ref qr, .ref r1, .ref o3, .ref o2, .ref o5, .int (iI cnt), .int (iI ak), .long tr])), (b1, .inr (1, [.ref h4, .ref h0, .ref p1, .ref f1, .ref l1, .int (iI k1), .int (iI n1)])), (b2, .inr (1, [.ref h4, .ref h0, .ref p2, .ref f2, .ref l2, .int (iI k2), .int (iI n2)]))] sz) := by
  refine x_metW (own := RX7) (cc := cX7_empty) (maxL := 4) (ret := (some .int)) (Qc := fun jA => va_Qi (fun (r : Int32) (u : Int × Int) => r = (iI (if v = 0 then n1 else if v = 1 then n2 else -1)) ∧ (u.1 = (if v = 0 then 0 else n1) ∧ u.2 = (if v = 1 then 0 else n2))) (xB D (fun (u : Int × Int) => [(sb, .inr (7, [.ref h4, .ref h0, .ref b1, .ref b2, .ref qr, .ref r1, .ref o3, .ref o2, .ref o5, .int (iI cnt), .int (iI ak), .long tr])), (b1, .inr (1, [.ref h4, .ref h0, .ref p1, .ref f1, .ref l1, .int (iI k1), .int (iI u.1)])), (b2, .inr (1, [.ref h4, .ref h0, .ref p2, .ref f2, .ref l2, .int (iI k2), .int (iI u.2)]))]) jA) jA) (by decide) rfl rfl rfl ?_
  intro jp je js jm ja jb jt jc jA jQ jS jr jk jn jq hK hP hD hA hS ls hl
  have hl : lv_has ls 4 [(0, .ref sb), (1, .int (iI v))] := hl
  refine x_iln jS dX7_empty_0 rfl hl 1 rfl ?_
  refine x_rI (x_rmS (As := [.int (iI v)]) (rest := []) jS hl.1 hK (c_X7_isBox jl D cI v (by first | assumption | omega)) (hP.sub [] rfl) gX7_empty_X7_isBox rfl rfl rfl kf_X7_isBox rfl rfl rfl rfl rfl dX7_empty_1 rfl rfl) ?_
  refine x_ifneB jS 9 dX7_empty_4 (by decide) (fun hc4 => ?_) (fun hc4 => ?_)
  · skip
    by_cases hv0 : v = 0
    · skip
      refine x_aln jS dX7_empty_9 rfl hl 0 rfl ?_
      refine x_iln jS dX7_empty_10 rfl hl 1 rfl ?_
      refine x_rA (x_rmV (As := [.int (iI v)]) (rest := []) jS hl.1 hK (c_X7_boxOf jl D cI sb h4 h0 b1 b2 qr r1 o3 o2 o5 cnt ak tr v (by first | assumption | omega) (by first | assumption | omega)) (hP.sub [0] rfl) 0 rfl rfl gX7_empty_X7_boxOf rfl rfl rfl kf_X7_boxOf rfl rfl rfl rfl rfl dX7_empty_11 rfl rfl) ?_
      refine x_asn (lv' := [(2, .ref b1), (0, .ref sb), (1, .int (iI v))]) jS dX7_empty_14 rfl hl rfl rfl (fun ls hl => ?_)
      refine x_aln jS dX7_empty_15 rfl hl 0 rfl ?_
      refine x_getN jS hK hP h_X7_empty_X1 1 rfl rfl 6 rfl 9 rfl rfl dX7_empty_16 ?_
      refine x_isn (lv' := [(3, .int (iI n1)), (2, .ref b1), (0, .ref sb), (1, .int (iI v))]) jS dX7_empty_19 rfl hl rfl rfl (fun ls hl => ?_)
      refine x_aln jS dX7_empty_20 rfl hl 1 rfl ?_
      refine x_aV (wc := [(b1, .inr (1, [.ref h4, .ref h0, .ref p1, .ref f1, .ref l1, .int (iI k1), .int (iI n1)]))]) (wr := [(sb, .inr (7, [.ref h4, .ref h0, .ref b1, .ref b2, .ref qr, .ref r1, .ref o3, .ref o2, .ref o5, .int (iI cnt), .int (iI ak), .long tr])), (b2, .inr (1, [.ref h4, .ref h0, .ref p2, .ref f2, .ref l2, .int (iI k2), .int (iI n2)]))]) hP hD hS hA [1] [0, 2] rfl rfl (by decide) (by decide) (cs := 0) (ss := 0) rfl rfl (x_rnV (As := []) (rest := []) jS hl.1 hK (c_X1_drop jl D cI b1 p1 f1 l1 h0 h4 k1 n1 _ ) hP hD [1] rfl rfl (by decide) 0 rfl rfl gX7_empty_X1_drop rfl rfl rfl kf_X1_drop rfl rfl rfl rfl rfl dX7_empty_21 rfl rfl) (fun u jH jL hw hP hD hS => ?_)
      have hw21 : True := hw
      clear hw
      have hP : va_P D vwCl [(sb, .inr (7, [.ref h4, .ref h0, .ref b1, .ref b2, .ref qr, .ref r1, .ref o3, .ref o2, .ref o5, .int (iI cnt), .int (iI ak), .long tr])), (b2, .inr (1, [.ref h4, .ref h0, .ref p2, .ref f2, .ref l2, .int (iI k2), .int (iI n2)])), (b1, .inr (1, [.ref h4, .ref h0, .ref p1, .ref f1, .ref l1, .int (iI k1), .int (iI 0)]))] jH := hP
      have hD : va_D jA [(sb, .inr (7, [.ref h4, .ref h0, .ref b1, .ref b2, .ref qr, .ref r1, .ref o3, .ref o2, .ref o5, .int (iI cnt), .int (iI ak), .long tr])), (b2, .inr (1, [.ref h4, .ref h0, .ref p2, .ref f2, .ref l2, .int (iI k2), .int (iI n2)])), (b1, .inr (1, [.ref h4, .ref h0, .ref p1, .ref f1, .ref l1, .int (iI k1), .int (iI 0)]))] := hD
      refine x_iln jS dX7_empty_24 rfl hl 0 rfl ?_
      exact x_iretW jS jr jk jq dX7_empty_25 ⟨0, n2⟩ (hP.sub [0, 2, 1] rfl) (hD.sub [0, 2, 1] (by decide) rfl) hS (show (iI n1) = (iI (if v = 0 then n1 else if v = 1 then n2 else -1)) ∧ (0 = (if v = 0 then 0 else n1) ∧ n2 = (if v = 1 then 0 else n2)) from ⟨by rw [if_pos hv0], by rw [if_pos hv0], by rw [if_neg (by omega)]⟩)
    · skip
      refine x_aln jS dX7_empty_9 rfl hl 0 rfl ?_
      refine x_iln jS dX7_empty_10 rfl hl 1 rfl ?_
      refine x_rA (x_rmV (As := [.int (iI v)]) (rest := []) jS hl.1 hK (c_X7_boxOf1 jl D cI sb h4 h0 b1 b2 qr r1 o3 o2 o5 cnt ak tr v (by first | assumption | omega) (by first | assumption | omega)) (hP.sub [0] rfl) 0 rfl rfl gX7_empty_X7_boxOf rfl rfl rfl kf_X7_boxOf rfl rfl rfl rfl rfl dX7_empty_11 rfl rfl) ?_
      refine x_asn (lv' := [(2, .ref b2), (0, .ref sb), (1, .int (iI v))]) jS dX7_empty_14 rfl hl rfl rfl (fun ls hl => ?_)
      refine x_aln jS dX7_empty_15 rfl hl 0 rfl ?_
      refine x_getN jS hK hP h_X7_empty_X1 2 rfl rfl 6 rfl 9 rfl rfl dX7_empty_16 ?_
      refine x_isn (lv' := [(3, .int (iI n2)), (2, .ref b2), (0, .ref sb), (1, .int (iI v))]) jS dX7_empty_19 rfl hl rfl rfl (fun ls hl => ?_)
      refine x_aln jS dX7_empty_20 rfl hl 1 rfl ?_
      refine x_aV (wc := [(b2, .inr (1, [.ref h4, .ref h0, .ref p2, .ref f2, .ref l2, .int (iI k2), .int (iI n2)]))]) (wr := [(sb, .inr (7, [.ref h4, .ref h0, .ref b1, .ref b2, .ref qr, .ref r1, .ref o3, .ref o2, .ref o5, .int (iI cnt), .int (iI ak), .long tr])), (b1, .inr (1, [.ref h4, .ref h0, .ref p1, .ref f1, .ref l1, .int (iI k1), .int (iI n1)]))]) hP hD hS hA [2] [0, 1] rfl rfl (by decide) (by decide) (cs := 0) (ss := 0) rfl rfl (x_rnV (As := []) (rest := []) jS hl.1 hK (c_X1_drop jl D cI b2 p2 f2 l2 h0 h4 k2 n2 _ ) hP hD [2] rfl rfl (by decide) 0 rfl rfl gX7_empty_X1_drop rfl rfl rfl kf_X1_drop rfl rfl rfl rfl rfl dX7_empty_21 rfl rfl) (fun u jH jL hw hP hD hS => ?_)
      have hw21 : True := hw
      clear hw
      have hP : va_P D vwCl [(sb, .inr (7, [.ref h4, .ref h0, .ref b1, .ref b2, .ref qr, .ref r1, .ref o3, .ref o2, .ref o5, .int (iI cnt), .int (iI ak), .long tr])), (b1, .inr (1, [.ref h4, .ref h0, .ref p1, .ref f1, .ref l1, .int (iI k1), .int (iI n1)])), (b2, .inr (1, [.ref h4, .ref h0, .ref p2, .ref f2, .ref l2, .int (iI k2), .int (iI 0)]))] jH := hP
      have hD : va_D jA [(sb, .inr (7, [.ref h4, .ref h0, .ref b1, .ref b2, .ref qr, .ref r1, .ref o3, .ref o2, .ref o5, .int (iI cnt), .int (iI ak), .long tr])), (b1, .inr (1, [.ref h4, .ref h0, .ref p1, .ref f1, .ref l1, .int (iI k1), .int (iI n1)])), (b2, .inr (1, [.ref h4, .ref h0, .ref p2, .ref f2, .ref l2, .int (iI k2), .int (iI 0)]))] := hD
      refine x_iln jS dX7_empty_24 rfl hl 0 rfl ?_
      exact x_iretW jS jr jk jq dX7_empty_25 ⟨n1, 0⟩ hP hD hS (show (iI n2) = (iI (if v = 0 then n1 else if v = 1 then n2 else -1)) ∧ (n1 = (if v = 0 then 0 else n1) ∧ 0 = (if v = 1 then 0 else n2)) from ⟨by rw [if_neg hv0, if_pos (by omega)], by rw [if_neg hv0], by rw [if_pos (by omega)]⟩)
  · skip
    refine x_ic jS dX7_empty_7 ?_
    exact x_iretW jS jr jk jq dX7_empty_8 ⟨n1, n2⟩ hP hD hS (show (iI (-1)) = (iI (if v = 0 then n1 else if v = 1 then n2 else -1)) ∧ (n1 = (if v = 0 then 0 else n1) ∧ n2 = (if v = 1 then 0 else n2)) from ⟨by rw [if_neg (by omega), if_neg (by omega)], by rw [if_neg (by omega)], by rw [if_neg (by omega)]⟩)
theorem kf_X7_arePoint : kfV yX7_arePoint RX7 3 := by decide +kernel
theorem h_X7_ask_X7 : ∀ w ∈ u_ws RX7 TX7 12, w ∈ wsX7_ask := fun w h => List.mem_cons_of_mem _ (List.mem_append_left _ (List.mem_append_left _ (List.mem_append_left _ (List.mem_append_right _ h))))
theorem m_X7_ask_1 : Cond.fieldLink RX7 73 "SealedBox" "asks" "I" ∈ wsX7_ask := List.mem_of_getElem? (i := 1) rfl
abbrev rm_X7_ask : Room := { frames := 4, cells := 0, slots := 0, locals := 98 }
set_option maxHeartbeats 4000000 in
set_option maxRecDepth 100000 in
theorem c_X7_ask (jl : Launch) (D : va_G) (cI : ClassId) (sb h4 h0 b1 b2 qr r1 o3 o2 o5 : Nat) (cnt ak : Int) (tr : Int64) (p1 f1 l1 p2 f2 l2 q4 : Nat) (P sh sc k1 n1 k2 n2 : Int) (pt1 pt2 : Int → Int) (v x y z : Int) (sz : Nat) (hP5 : 5 ≤ P ∧ P ≤ 997) (hs : 0 ≤ sh ∧ sh ≤ 996 ∧ 1 ≤ sc ∧ sc ≤ 996) (hk1 : 0 ≤ k1 ∧ k1 ≤ 2) (hk2 : 0 ≤ k2 ∧ k2 ≤ 2) (hn1 : 0 ≤ n1 ∧ n1 ≤ 4) (hn2 : 0 ≤ n2 ∧ n2 ≤ 4) (hbx1 : bxOK P n1 pt1) (hbx2 : bxOK P n2 pt2) (g_v : -2147483648 ≤ v ∧ v < 2147483648) (g_x : -2147483648 ≤ x ∧ x < 2147483648) (g_y : -2147483648 ≤ y ∧ y < 2147483648) (g_z : -2147483648 ≤ z ∧ z < 2147483648) : Met jl yX7_ask wsX7_ask rm_X7_ask (xPw [.ref sb, .int (iI v), .int (iI x), .int (iI y), .int (iI z)] D cI [(sb, .inr (7, [.ref h4, .ref h0, .ref b1, .ref b2, .ref qr, .ref r1, .ref o3, .ref o2, .ref o5, .int (iI cnt), .int (iI ak), .long tr])), (b1, .inr (1, [.ref h4, .ref h0, .ref p1, .ref f1, .ref l1, .int (iI k1), .int (iI n1)])), (b2, .inr (1, [.ref h4, .ref h0, .ref p2, .ref f2, .ref l2, .int (iI k2), .int (iI n2)])), (p1, .inl (cI, 16, .inl (aI pt1))), (p2, .inl (cI, 16, .inl (aI pt2))), (h0, .inr (0, [.ref h4, .int (iI sh), .int (iI sc)])), (h4, .inr (4, [.ref q4, .int (iI P)]))] sz) (va_Qi (fun (r : Int32) (u : Int) => r = (iI (if (v = 0 ∨ v = 1) ∧ (0 ≤ x ∧ x < P) ∧ (0 ≤ y ∧ y < P) ∧ (0 ≤ z ∧ z < P) then (if v = 0 then ans P sh sc k1 n1 (cC pt1 0) (cC pt1 1) (cC pt1 2) (cC pt1 3) x y z else ans P sh sc k2 n2 (cC pt2 0) (cC pt2 1) (cC pt2 2) (cC pt2 3) x y z) else -1)) ∧ (u = (if (v = 0 ∨ v = 1) ∧ (0 ≤ x ∧ x < P) ∧ (0 ≤ y ∧ y < P) ∧ (0 ≤ z ∧ z < P) then ak + 1 else ak))) (xB D (fun (u : Int) => [(sb, .inr (7, [.ref h4, .ref h0, .ref b1, .ref b2, .ref qr, .ref r1, .ref o3, .ref o2, .ref o5, .int (iI cnt), .int (iI u), .long tr])), (b1, .inr (1, [.ref h4, .ref h0, .ref p1, .ref f1, .ref l1, .int (iI k1), .int (iI n1)])), (b2, .inr (1, [.ref h4, .ref h0, .ref p2, .ref f2, .ref l2, .int (iI k2), .int (iI n2)])), (p1, .inl (cI, 16, .inl (aI pt1))), (p2, .inl (cI, 16, .inl (aI pt2))), (h0, .inr (0, [.ref h4, .int (iI sh), .int (iI sc)])), (h4, .inr (4, [.ref q4, .int (iI P)]))]) (va_A [(sb, .inr (7, [.ref h4, .ref h0, .ref b1, .ref b2, .ref qr, .ref r1, .ref o3, .ref o2, .ref o5, .int (iI cnt), .int (iI ak), .long tr])), (b1, .inr (1, [.ref h4, .ref h0, .ref p1, .ref f1, .ref l1, .int (iI k1), .int (iI n1)])), (b2, .inr (1, [.ref h4, .ref h0, .ref p2, .ref f2, .ref l2, .int (iI k2), .int (iI n2)])), (p1, .inl (cI, 16, .inl (aI pt1))), (p2, .inl (cI, 16, .inl (aI pt2))), (h0, .inr (0, [.ref h4, .int (iI sh), .int (iI sc)])), (h4, .inr (4, [.ref q4, .int (iI P)]))] sz)) (va_A [(sb, .inr (7, [.ref h4, .ref h0, .ref b1, .ref b2, .ref qr, .ref r1, .ref o3, .ref o2, .ref o5, .int (iI cnt), .int (iI ak), .long tr])), (b1, .inr (1, [.ref h4, .ref h0, .ref p1, .ref f1, .ref l1, .int (iI k1), .int (iI n1)])), (b2, .inr (1, [.ref h4, .ref h0, .ref p2, .ref f2, .ref l2, .int (iI k2), .int (iI n2)])), (p1, .inl (cI, 16, .inl (aI pt1))), (p2, .inl (cI, 16, .inl (aI pt2))), (h0, .inr (0, [.ref h4, .int (iI sh), .int (iI sc)])), (h4, .inr (4, [.ref q4, .int (iI P)]))] sz)) 0 0 (va_A [(sb, .inr (7, [.ref h4, .ref h0, .ref b1, .ref b2, .ref qr, .ref r1, .ref o3, .ref o2, .ref o5, .int (iI cnt), .int (iI ak), .long tr])), (b1, .inr (1, [.ref h4, .ref h0, .ref p1, .ref f1, .ref l1, .int (iI k1), .int (iI n1)])), (b2, .inr (1, [.ref h4, .ref h0, .ref p2, .ref f2, .ref l2, .int (iI k2), .int (iI n2)])), (p1, .inl (cI, 16, .inl (aI pt1))), (p2, .inl (cI, 16, .inl (aI pt2))), (h0, .inr (0, [.ref h4, .int (iI sh), .int (iI sc)])), (h4, .inr (4, [.ref q4, .int (iI P)]))] sz) := by
  refine x_metW (own := RX7) (cc := cX7_ask) (maxL := 5) (ret := (some .int)) (Qc := fun jA => va_Qi (fun (r : Int32) (u : Int) => r = (iI (if (v = 0 ∨ v = 1) ∧ (0 ≤ x ∧ x < P) ∧ (0 ≤ y ∧ y < P) ∧ (0 ≤ z ∧ z < P) then (if v = 0 then ans P sh sc k1 n1 (cC pt1 0) (cC pt1 1) (cC pt1 2) (cC pt1 3) x y z else ans P sh sc k2 n2 (cC pt2 0) (cC pt2 1) (cC pt2 2) (cC pt2 3) x y z) else -1)) ∧ (u = (if (v = 0 ∨ v = 1) ∧ (0 ≤ x ∧ x < P) ∧ (0 ≤ y ∧ y < P) ∧ (0 ≤ z ∧ z < P) then ak + 1 else ak))) (xB D (fun (u : Int) => [(sb, .inr (7, [.ref h4, .ref h0, .ref b1, .ref b2, .ref qr, .ref r1, .ref o3, .ref o2, .ref o5, .int (iI cnt), .int (iI u), .long tr])), (b1, .inr (1, [.ref h4, .ref h0, .ref p1, .ref f1, .ref l1, .int (iI k1), .int (iI n1)])), (b2, .inr (1, [.ref h4, .ref h0, .ref p2, .ref f2, .ref l2, .int (iI k2), .int (iI n2)])), (p1, .inl (cI, 16, .inl (aI pt1))), (p2, .inl (cI, 16, .inl (aI pt2))), (h0, .inr (0, [.ref h4, .int (iI sh), .int (iI sc)])), (h4, .inr (4, [.ref q4, .int (iI P)]))]) jA) jA) (by decide) rfl rfl rfl ?_
  intro jp je js jm ja jb jt jc jA jQ jS jr jk jn jq hK hP hD hA hS ls hl
  have hl : lv_has ls 5 [(0, .ref sb), (1, .int (iI v)), (2, .int (iI x)), (3, .int (iI y)), (4, .int (iI z))] := hl
  refine x_iln jS dX7_ask_0 rfl hl 1 rfl ?_
  refine x_rI (x_rmS (As := [.int (iI v)]) (rest := []) jS hl.1 hK (c_X7_isBox jl D cI v (by first | assumption | omega)) (hP.sub [] rfl) gX7_ask_X7_isBox rfl rfl rfl kf_X7_isBox rfl rfl rfl rfl rfl dX7_ask_1 rfl rfl) ?_
  refine x_ifeqB jS 18 dX7_ask_4 (by decide) (fun hc4 => ?_) (fun hc4 => ?_)
  · skip
    refine x_ic jS dX7_ask_18 ?_
    exact x_iretW jS jr jk jq dX7_ask_19 ak hP hD hS (show (iI (-1)) = (iI (if (v = 0 ∨ v = 1) ∧ (0 ≤ x ∧ x < P) ∧ (0 ≤ y ∧ y < P) ∧ (0 ≤ z ∧ z < P) then (if v = 0 then ans P sh sc k1 n1 (cC pt1 0) (cC pt1 1) (cC pt1 2) (cC pt1 3) x y z else ans P sh sc k2 n2 (cC pt2 0) (cC pt2 1) (cC pt2 2) (cC pt2 3) x y z) else -1)) ∧ (ak = (if (v = 0 ∨ v = 1) ∧ (0 ≤ x ∧ x < P) ∧ (0 ≤ y ∧ y < P) ∧ (0 ≤ z ∧ z < P) then ak + 1 else ak)) from ⟨by rw [if_neg (fun g => by first | exact hc4 g.1 | exact hc15 g.2)], by rw [if_neg (fun g => by first | exact hc4 g.1 | exact hc15 g.2)]⟩)
  · skip
    refine x_aln jS dX7_ask_7 rfl hl 0 rfl ?_
    refine x_iln jS dX7_ask_8 rfl hl 2 rfl ?_
    refine x_iln jS dX7_ask_9 rfl hl 3 rfl ?_
    refine x_il jS dX7_ask_10 hl 4 rfl ?_
    refine x_rI (x_rmV (As := [.int (iI x), .int (iI y), .int (iI z)]) (rest := []) jS hl.1 hK (c_X7_arePoint jl D cI sb h4 h0 b1 b2 qr r1 o3 o2 o5 cnt ak tr q4 P x y z (by first | assumption | omega) (by first | assumption | omega) (by first | assumption | omega) (by first | assumption | omega)) (hP.sub [0, 6] rfl) 0 rfl rfl gX7_ask_X7_arePoint rfl rfl rfl kf_X7_arePoint rfl rfl rfl rfl rfl dX7_ask_12 rfl rfl) ?_
    refine x_ifneB jS 20 dX7_ask_15 (by decide) (fun hc15 => ?_) (fun hc15 => ?_)
    · skip
      refine x_aln jS dX7_ask_20 rfl hl 0 rfl ?_
      refine x_dup jS dX7_ask_21 rfl ?_
      refine x_get jS hK hP h_X7_ask_X7 0 rfl rfl 10 rfl m_X7_ask_1 rfl dX7_ask_22 ?_
      refine x_ic jS dX7_ask_25 ?_
      refine x_iadd jS dX7_ask_26 ?_
      refine x_put (ty0 := tyX7) (ws' := [(sb, .inr (7, [.ref h4, .ref h0, .ref b1, .ref b2, .ref qr, .ref r1, .ref o3, .ref o2, .ref o5, .int (iI cnt), .int (iI (ak + 1)), .long tr])), (b1, .inr (1, [.ref h4, .ref h0, .ref p1, .ref f1, .ref l1, .int (iI k1), .int (iI n1)])), (b2, .inr (1, [.ref h4, .ref h0, .ref p2, .ref f2, .ref l2, .int (iI k2), .int (iI n2)])), (p1, .inl (cI, 16, .inl (aI pt1))), (p2, .inl (cI, 16, .inl (aI pt2))), (h0, .inr (0, [.ref h4, .int (iI sh), .int (iI sc)])), (h4, .inr (4, [.ref q4, .int (iI P)]))]) jS hK hP hD hS h_X7_ask_X7 tyX7_ok nmX7 0 rfl rfl 10 rfl m_X7_ask_1 rfl rfl rfl rfl dX7_ask_27 rfl (fun jH jL hP hD hS => ?_)
      by_cases hv0 : v = 0
      · skip
        refine x_aln jS dX7_ask_30 rfl hl 0 rfl ?_
        refine x_iln jS dX7_ask_31 rfl hl 1 rfl ?_
        refine x_rA (x_rmV (As := [.int (iI v)]) (rest := []) jS hl.1 hK (c_X7_boxOf jl D cI sb h4 h0 b1 b2 qr r1 o3 o2 o5 cnt (ak + 1) tr v (by first | assumption | omega) (by first | assumption | omega)) (hP.sub [0] rfl) 0 rfl rfl gX7_ask_X7_boxOf rfl rfl rfl kf_X7_boxOf rfl rfl rfl rfl rfl dX7_ask_32 rfl rfl) ?_
        refine x_iln jS dX7_ask_35 rfl hl 2 rfl ?_
        refine x_iln jS dX7_ask_36 rfl hl 3 rfl ?_
        refine x_il jS dX7_ask_37 hl 4 rfl ?_
        refine x_rI (x_rmV (As := [.int (iI x), .int (iI y), .int (iI z)]) (rest := []) jS hl.1 hK (c_X1_answer jl D cI b1 p1 f1 l1 h0 h4 q4 P sh sc k1 n1 pt1 x y z (by first | assumption | omega) (by first | assumption | omega) (by first | assumption | omega) (by first | assumption | omega) (by first | assumption | omega) (by first | assumption | omega) (by first | assumption | omega) (by first | assumption | omega)) (hP.sub [1, 3, 5, 6] rfl) 0 rfl rfl gX7_ask_X1_answer rfl rfl rfl kf_X1_answer rfl rfl rfl rfl rfl dX7_ask_39 rfl rfl) ?_
        exact x_iretW jS jr jk jq dX7_ask_42 (ak + 1) hP hD hS (show (iI (ans P sh sc k1 n1 (cC pt1 0) (cC pt1 1) (cC pt1 2) (cC pt1 3) x y z)) = (iI (if (v = 0 ∨ v = 1) ∧ (0 ≤ x ∧ x < P) ∧ (0 ≤ y ∧ y < P) ∧ (0 ≤ z ∧ z < P) then (if v = 0 then ans P sh sc k1 n1 (cC pt1 0) (cC pt1 1) (cC pt1 2) (cC pt1 3) x y z else ans P sh sc k2 n2 (cC pt2 0) (cC pt2 1) (cC pt2 2) (cC pt2 3) x y z) else -1)) ∧ ((ak + 1) = (if (v = 0 ∨ v = 1) ∧ (0 ≤ x ∧ x < P) ∧ (0 ≤ y ∧ y < P) ∧ (0 ≤ z ∧ z < P) then ak + 1 else ak)) from ⟨by rw [if_pos ⟨hc4, hc15⟩, if_pos hv0], by rw [if_pos ⟨hc4, hc15⟩]⟩)
      · skip
        refine x_aln jS dX7_ask_30 rfl hl 0 rfl ?_
        refine x_iln jS dX7_ask_31 rfl hl 1 rfl ?_
        refine x_rA (x_rmV (As := [.int (iI v)]) (rest := []) jS hl.1 hK (c_X7_boxOf1 jl D cI sb h4 h0 b1 b2 qr r1 o3 o2 o5 cnt (ak + 1) tr v (by first | assumption | omega) (by first | assumption | omega)) (hP.sub [0] rfl) 0 rfl rfl gX7_ask_X7_boxOf rfl rfl rfl kf_X7_boxOf rfl rfl rfl rfl rfl dX7_ask_32 rfl rfl) ?_
        refine x_iln jS dX7_ask_35 rfl hl 2 rfl ?_
        refine x_iln jS dX7_ask_36 rfl hl 3 rfl ?_
        refine x_il jS dX7_ask_37 hl 4 rfl ?_
        refine x_rI (x_rmV (As := [.int (iI x), .int (iI y), .int (iI z)]) (rest := []) jS hl.1 hK (c_X1_answer jl D cI b2 p2 f2 l2 h0 h4 q4 P sh sc k2 n2 pt2 x y z (by first | assumption | omega) (by first | assumption | omega) (by first | assumption | omega) (by first | assumption | omega) (by first | assumption | omega) (by first | assumption | omega) (by first | assumption | omega) (by first | assumption | omega)) (hP.sub [2, 4, 5, 6] rfl) 0 rfl rfl gX7_ask_X1_answer rfl rfl rfl kf_X1_answer rfl rfl rfl rfl rfl dX7_ask_39 rfl rfl) ?_
        exact x_iretW jS jr jk jq dX7_ask_42 (ak + 1) hP hD hS (show (iI (ans P sh sc k2 n2 (cC pt2 0) (cC pt2 1) (cC pt2 2) (cC pt2 3) x y z)) = (iI (if (v = 0 ∨ v = 1) ∧ (0 ≤ x ∧ x < P) ∧ (0 ≤ y ∧ y < P) ∧ (0 ≤ z ∧ z < P) then (if v = 0 then ans P sh sc k1 n1 (cC pt1 0) (cC pt1 1) (cC pt1 2) (cC pt1 3) x y z else ans P sh sc k2 n2 (cC pt2 0) (cC pt2 1) (cC pt2 2) (cC pt2 3) x y z) else -1)) ∧ ((ak + 1) = (if (v = 0 ∨ v = 1) ∧ (0 ≤ x ∧ x < P) ∧ (0 ≤ y ∧ y < P) ∧ (0 ≤ z ∧ z < P) then ak + 1 else ak)) from ⟨by rw [if_pos ⟨hc4, hc15⟩, if_neg hv0], by rw [if_pos ⟨hc4, hc15⟩]⟩)
    · skip
      refine x_ic jS dX7_ask_18 ?_
      exact x_iretW jS jr jk jq dX7_ask_19 ak hP hD hS (show (iI (-1)) = (iI (if (v = 0 ∨ v = 1) ∧ (0 ≤ x ∧ x < P) ∧ (0 ≤ y ∧ y < P) ∧ (0 ≤ z ∧ z < P) then (if v = 0 then ans P sh sc k1 n1 (cC pt1 0) (cC pt1 1) (cC pt1 2) (cC pt1 3) x y z else ans P sh sc k2 n2 (cC pt2 0) (cC pt2 1) (cC pt2 2) (cC pt2 3) x y z) else -1)) ∧ (ak = (if (v = 0 ∨ v = 1) ∧ (0 ≤ x ∧ x < P) ∧ (0 ≤ y ∧ y < P) ∧ (0 ≤ z ∧ z < P) then ak + 1 else ak)) from ⟨by rw [if_neg (fun g => by first | exact hc4 g.1 | exact hc15 g.2)], by rw [if_neg (fun g => by first | exact hc4 g.1 | exact hc15 g.2)]⟩)
theorem h_X7_say_X7 : ∀ w ∈ u_ws RX7 TX7 12, w ∈ wsX7_say := fun w h => List.mem_cons_of_mem _ (List.mem_append_left _ (List.mem_append_right _ h))
theorem m_X7_say_1 : Cond.fieldLink RX7 10 "SealedBox" "numbers" "LSealedBox$PrimeField;" ∈ wsX7_say := List.mem_of_getElem? (i := 1) rfl
theorem m_X7_say_2 : Cond.fieldLink RX7 69 "SealedBox" "rowLength" "I" ∈ wsX7_say := List.mem_of_getElem? (i := 2) rfl
theorem m_X7_say_3 : Cond.fieldLink RX7 37 "SealedBox" "row" "[I" ∈ wsX7_say := List.mem_of_getElem? (i := 3) rfl
abbrev rm_X7_say : Room := { frames := 1, cells := 0, slots := 0, locals := 21 }
set_option maxHeartbeats 4000000 in
set_option maxRecDepth 100000 in
theorem c_X7_say (jl : Launch) (D : va_G) (cI : ClassId) (sb h4 h0 b1 b2 qr r1 o3 o2 o5 : Nat) (cnt ak : Int) (tr : Int64) (q4 : Nat) (P v : Int) (row : Int → Int) (sz : Nat) (hP5 : 5 ≤ P ∧ P ≤ 997) (hcnt : 0 ≤ cnt ∧ cnt ≤ 16) (g_v : -2147483648 ≤ v ∧ v < 2147483648) : Met jl yX7_say wsX7_say rm_X7_say (xPw [.ref sb, .int (iI v)] D cI [(sb, .inr (7, [.ref h4, .ref h0, .ref b1, .ref b2, .ref qr, .ref r1, .ref o3, .ref o2, .ref o5, .int (iI cnt), .int (iI ak), .long tr])), (qr, .inl (cI, 16, .inl (aI row))), (h4, .inr (4, [.ref q4, .int (iI P)]))] sz) (va_Qi (fun (r : Int32) (u : Int × (Int → Int)) => r = (iI (if 0 ≤ v ∧ v < P then (if cnt < 16 then cnt + 1 else -3) else -1)) ∧ (((0 ≤ v ∧ v < P) ∧ cnt < 16 → u.1 = cnt + 1 ∧ u.2 = uI row cnt v) ∧ (¬ ((0 ≤ v ∧ v < P) ∧ cnt < 16) → u.1 = cnt ∧ u.2 = row))) (xB D (fun (u : Int × (Int → Int)) => [(sb, .inr (7, [.ref h4, .ref h0, .ref b1, .ref b2, .ref qr, .ref r1, .ref o3, .ref o2, .ref o5, .int (iI u.1), .int (iI ak), .long tr])), (qr, .inl (cI, 16, .inl (aI u.2))), (h4, .inr (4, [.ref q4, .int (iI P)]))]) (va_A [(sb, .inr (7, [.ref h4, .ref h0, .ref b1, .ref b2, .ref qr, .ref r1, .ref o3, .ref o2, .ref o5, .int (iI cnt), .int (iI ak), .long tr])), (qr, .inl (cI, 16, .inl (aI row))), (h4, .inr (4, [.ref q4, .int (iI P)]))] sz)) (va_A [(sb, .inr (7, [.ref h4, .ref h0, .ref b1, .ref b2, .ref qr, .ref r1, .ref o3, .ref o2, .ref o5, .int (iI cnt), .int (iI ak), .long tr])), (qr, .inl (cI, 16, .inl (aI row))), (h4, .inr (4, [.ref q4, .int (iI P)]))] sz)) 0 0 (va_A [(sb, .inr (7, [.ref h4, .ref h0, .ref b1, .ref b2, .ref qr, .ref r1, .ref o3, .ref o2, .ref o5, .int (iI cnt), .int (iI ak), .long tr])), (qr, .inl (cI, 16, .inl (aI row))), (h4, .inr (4, [.ref q4, .int (iI P)]))] sz) := by
  refine x_metW (own := RX7) (cc := cX7_say) (maxL := 2) (ret := (some .int)) (Qc := fun jA => va_Qi (fun (r : Int32) (u : Int × (Int → Int)) => r = (iI (if 0 ≤ v ∧ v < P then (if cnt < 16 then cnt + 1 else -3) else -1)) ∧ (((0 ≤ v ∧ v < P) ∧ cnt < 16 → u.1 = cnt + 1 ∧ u.2 = uI row cnt v) ∧ (¬ ((0 ≤ v ∧ v < P) ∧ cnt < 16) → u.1 = cnt ∧ u.2 = row))) (xB D (fun (u : Int × (Int → Int)) => [(sb, .inr (7, [.ref h4, .ref h0, .ref b1, .ref b2, .ref qr, .ref r1, .ref o3, .ref o2, .ref o5, .int (iI u.1), .int (iI ak), .long tr])), (qr, .inl (cI, 16, .inl (aI u.2))), (h4, .inr (4, [.ref q4, .int (iI P)]))]) jA) jA) (by decide) rfl rfl rfl ?_
  intro jp je js jm ja jb jt jc jA jQ jS jr jk jn jq hK hP hD hA hS ls hl
  have hl : lv_has ls 2 [(0, .ref sb), (1, .int (iI v))] := hl
  refine x_aln jS dX7_say_0 rfl hl 0 rfl ?_
  refine x_get jS hK hP h_X7_say_X7 0 rfl rfl 0 rfl m_X7_say_1 rfl dX7_say_1 ?_
  refine x_iln jS dX7_say_4 rfl hl 1 rfl ?_
  refine x_rI (x_rmV (As := [.int (iI v)]) (rest := []) jS hl.1 hK (c_X4_has jl D cI h4 q4 P v (by first | assumption | omega) (by first | assumption | omega)) (hP.sub [2] rfl) 0 rfl rfl gX7_say_X4_has rfl rfl rfl kf_X4_has rfl rfl rfl rfl rfl dX7_say_5 rfl rfl) ?_
  refine x_ifneB jS 13 dX7_say_8 (by decide) (fun hc8 => ?_) (fun hc8 => ?_)
  · skip
    refine x_aln jS dX7_say_13 rfl hl 0 rfl ?_
    refine x_get jS hK hP h_X7_say_X7 0 rfl rfl 9 rfl m_X7_say_2 rfl dX7_say_14 ?_
    refine x_aln jS dX7_say_17 rfl hl 0 rfl ?_
    refine x_get jS hK hP h_X7_say_X7 0 rfl rfl 4 rfl m_X7_say_3 rfl dX7_say_18 ?_
    refine x_alen jS hK hP 1 rfl dX7_say_21 ?_
    refine x_cmplt jS 28 dX7_say_22 (by decide) (by omega) (fun hc22 => ?_) (fun hc22 => ?_)
    · skip
      refine x_aln jS dX7_say_28 rfl hl 0 rfl ?_
      refine x_get jS hK hP h_X7_say_X7 0 rfl rfl 4 rfl m_X7_say_3 rfl dX7_say_29 ?_
      refine x_aln jS dX7_say_32 rfl hl 0 rfl ?_
      refine x_get jS hK hP h_X7_say_X7 0 rfl rfl 9 rfl m_X7_say_2 rfl dX7_say_33 ?_
      refine x_iln jS dX7_say_36 rfl hl 1 rfl ?_
      refine x_iast (ws' := [(sb, .inr (7, [.ref h4, .ref h0, .ref b1, .ref b2, .ref qr, .ref r1, .ref o3, .ref o2, .ref o5, .int (iI cnt), .int (iI ak), .long tr])), (qr, .inl (cI, 16, .inl (aI (uI row cnt v)))), (h4, .inr (4, [.ref q4, .int (iI P)]))]) jS hK hP hD hS 1 rfl (by omega) dX7_say_37 rfl (fun jH jL hP hD hS => ?_)
      refine x_aln jS dX7_say_38 rfl hl 0 rfl ?_
      refine x_dup jS dX7_say_39 rfl ?_
      refine x_get jS hK hP h_X7_say_X7 0 rfl rfl 9 rfl m_X7_say_2 rfl dX7_say_40 ?_
      refine x_ic jS dX7_say_43 ?_
      refine x_iadd jS dX7_say_44 ?_
      refine x_put (ty0 := tyX7) (ws' := [(sb, .inr (7, [.ref h4, .ref h0, .ref b1, .ref b2, .ref qr, .ref r1, .ref o3, .ref o2, .ref o5, .int (iI (cnt + 1)), .int (iI ak), .long tr])), (qr, .inl (cI, 16, .inl (aI (uI row cnt v)))), (h4, .inr (4, [.ref q4, .int (iI P)]))]) jS hK hP hD hS h_X7_say_X7 tyX7_ok nmX7 0 rfl rfl 9 rfl m_X7_say_2 rfl rfl rfl rfl dX7_say_45 rfl (fun jH jL hP hD hS => ?_)
      refine x_aln jS dX7_say_48 rfl hl 0 rfl ?_
      refine x_get jS hK hP h_X7_say_X7 0 rfl rfl 9 rfl m_X7_say_2 rfl dX7_say_49 ?_
      exact x_iretW jS jr jk jq dX7_say_52 ⟨(cnt + 1), (uI row cnt v)⟩ hP hD hS (show (iI (cnt + 1)) = (iI (if 0 ≤ v ∧ v < P then (if cnt < 16 then cnt + 1 else -3) else -1)) ∧ (((0 ≤ v ∧ v < P) ∧ cnt < 16 → (cnt + 1) = cnt + 1 ∧ (uI row cnt v) = uI row cnt v) ∧ (¬ ((0 ≤ v ∧ v < P) ∧ cnt < 16) → (cnt + 1) = cnt ∧ (uI row cnt v) = row)) from ⟨by rw [if_pos hc8, if_pos (by omega)], fun g => ⟨rfl, rfl⟩, fun g => absurd ⟨hc8, by omega⟩ g⟩)
    · skip
      refine x_bi jS dX7_say_25 (by decide) ?_
      exact x_iretW jS jr jk jq dX7_say_27 ⟨cnt, row⟩ hP hD hS (show (iI (-3)) = (iI (if 0 ≤ v ∧ v < P then (if cnt < 16 then cnt + 1 else -3) else -1)) ∧ (((0 ≤ v ∧ v < P) ∧ cnt < 16 → cnt = cnt + 1 ∧ row = uI row cnt v) ∧ (¬ ((0 ≤ v ∧ v < P) ∧ cnt < 16) → cnt = cnt ∧ row = row)) from ⟨by rw [if_pos hc8, if_neg (by omega)], fun g => by omega, fun _ => ⟨rfl, rfl⟩⟩)
  · skip
    refine x_ic jS dX7_say_11 ?_
    exact x_iretW jS jr jk jq dX7_say_12 ⟨cnt, row⟩ hP hD hS (show (iI (-1)) = (iI (if 0 ≤ v ∧ v < P then (if cnt < 16 then cnt + 1 else -3) else -1)) ∧ (((0 ≤ v ∧ v < P) ∧ cnt < 16 → cnt = cnt + 1 ∧ row = uI row cnt v) ∧ (¬ ((0 ≤ v ∧ v < P) ∧ cnt < 16) → cnt = cnt ∧ row = row)) from ⟨by rw [if_neg hc8], fun g => absurd g.1 hc8, fun _ => ⟨rfl, rfl⟩⟩)
theorem h_X7_change_X7 : ∀ w ∈ u_ws RX7 TX7 12, w ∈ wsX7_change := fun w h => List.mem_cons_of_mem _ (List.mem_append_left _ (List.mem_append_right _ h))
theorem m_X7_change_1 : Cond.fieldLink RX7 69 "SealedBox" "rowLength" "I" ∈ wsX7_change := List.mem_of_getElem? (i := 1) rfl
theorem m_X7_change_2 : Cond.fieldLink RX7 37 "SealedBox" "row" "[I" ∈ wsX7_change := List.mem_of_getElem? (i := 2) rfl
theorem m_X7_change_3 : Cond.fieldLink RX7 10 "SealedBox" "numbers" "LSealedBox$PrimeField;" ∈ wsX7_change := List.mem_of_getElem? (i := 3) rfl
abbrev rm_X7_change : Room := { frames := 1, cells := 0, slots := 0, locals := 21 }
set_option maxHeartbeats 4000000 in
set_option maxRecDepth 100000 in
theorem c_X7_change (jl : Launch) (D : va_G) (cI : ClassId) (sb h4 h0 b1 b2 qr r1 o3 o2 o5 : Nat) (cnt ak : Int) (tr : Int64) (q4 : Nat) (P w v : Int) (row : Int → Int) (sz : Nat) (hP5 : 5 ≤ P ∧ P ≤ 997) (hcnt : 0 ≤ cnt ∧ cnt ≤ 16) (g_w : -2147483648 ≤ w ∧ w < 2147483648) (g_v : -2147483648 ≤ v ∧ v < 2147483648) : Met jl yX7_change wsX7_change rm_X7_change (xPw [.ref sb, .int (iI w), .int (iI v)] D cI [(sb, .inr (7, [.ref h4, .ref h0, .ref b1, .ref b2, .ref qr, .ref r1, .ref o3, .ref o2, .ref o5, .int (iI cnt), .int (iI ak), .long tr])), (qr, .inl (cI, 16, .inl (aI row))), (h4, .inr (4, [.ref q4, .int (iI P)]))] sz) (va_Qi (fun (r : Int32) (u : (Int → Int)) => r = (iI (if (0 ≤ w ∧ w < cnt) ∧ (0 ≤ v ∧ v < P) then row w else -1)) ∧ (u = (if (0 ≤ w ∧ w < cnt) ∧ (0 ≤ v ∧ v < P) then uI row w v else row))) (xB D (fun (u : (Int → Int)) => [(sb, .inr (7, [.ref h4, .ref h0, .ref b1, .ref b2, .ref qr, .ref r1, .ref o3, .ref o2, .ref o5, .int (iI cnt), .int (iI ak), .long tr])), (qr, .inl (cI, 16, .inl (aI u))), (h4, .inr (4, [.ref q4, .int (iI P)]))]) (va_A [(sb, .inr (7, [.ref h4, .ref h0, .ref b1, .ref b2, .ref qr, .ref r1, .ref o3, .ref o2, .ref o5, .int (iI cnt), .int (iI ak), .long tr])), (qr, .inl (cI, 16, .inl (aI row))), (h4, .inr (4, [.ref q4, .int (iI P)]))] sz)) (va_A [(sb, .inr (7, [.ref h4, .ref h0, .ref b1, .ref b2, .ref qr, .ref r1, .ref o3, .ref o2, .ref o5, .int (iI cnt), .int (iI ak), .long tr])), (qr, .inl (cI, 16, .inl (aI row))), (h4, .inr (4, [.ref q4, .int (iI P)]))] sz)) 0 0 (va_A [(sb, .inr (7, [.ref h4, .ref h0, .ref b1, .ref b2, .ref qr, .ref r1, .ref o3, .ref o2, .ref o5, .int (iI cnt), .int (iI ak), .long tr])), (qr, .inl (cI, 16, .inl (aI row))), (h4, .inr (4, [.ref q4, .int (iI P)]))] sz) := by
  refine x_metW (own := RX7) (cc := cX7_change) (maxL := 4) (ret := (some .int)) (Qc := fun jA => va_Qi (fun (r : Int32) (u : (Int → Int)) => r = (iI (if (0 ≤ w ∧ w < cnt) ∧ (0 ≤ v ∧ v < P) then row w else -1)) ∧ (u = (if (0 ≤ w ∧ w < cnt) ∧ (0 ≤ v ∧ v < P) then uI row w v else row))) (xB D (fun (u : (Int → Int)) => [(sb, .inr (7, [.ref h4, .ref h0, .ref b1, .ref b2, .ref qr, .ref r1, .ref o3, .ref o2, .ref o5, .int (iI cnt), .int (iI ak), .long tr])), (qr, .inl (cI, 16, .inl (aI u))), (h4, .inr (4, [.ref q4, .int (iI P)]))]) jA) jA) (by decide) rfl rfl rfl ?_
  intro jp je js jm ja jb jt jc jA jQ jS jr jk jn jq hK hP hD hA hS ls hl
  have hl : lv_has ls 4 [(0, .ref sb), (1, .int (iI w)), (2, .int (iI v))] := hl
  refine x_iln jS dX7_change_0 rfl hl 1 rfl ?_
  refine x_iflt jS 32 dX7_change_1 (by decide) (by omega) (fun hc1 => ?_) (fun hc1 => ?_)
  · skip
    refine x_ic jS dX7_change_32 ?_
    exact x_iretW jS jr jk jq dX7_change_33 row hP hD hS (show (iI (-1)) = (iI (if (0 ≤ w ∧ w < cnt) ∧ (0 ≤ v ∧ v < P) then row w else -1)) ∧ (row = (if (0 ≤ w ∧ w < cnt) ∧ (0 ≤ v ∧ v < P) then uI row w v else row)) from ⟨by rw [if_neg (by omega)], by rw [if_neg (by omega)]⟩)
  · skip
    refine x_iln jS dX7_change_4 rfl hl 1 rfl ?_
    refine x_aln jS dX7_change_5 rfl hl 0 rfl ?_
    refine x_get jS hK hP h_X7_change_X7 0 rfl rfl 9 rfl m_X7_change_1 rfl dX7_change_6 ?_
    refine x_cmpge jS 32 dX7_change_9 (by decide) (by omega) (fun hc9 => ?_) (fun hc9 => ?_)
    · skip
      refine x_ic jS dX7_change_32 ?_
      exact x_iretW jS jr jk jq dX7_change_33 row hP hD hS (show (iI (-1)) = (iI (if (0 ≤ w ∧ w < cnt) ∧ (0 ≤ v ∧ v < P) then row w else -1)) ∧ (row = (if (0 ≤ w ∧ w < cnt) ∧ (0 ≤ v ∧ v < P) then uI row w v else row)) from ⟨by rw [if_neg (by omega)], by rw [if_neg (by omega)]⟩)
    · skip
      refine x_iln jS dX7_change_12 rfl hl 1 rfl ?_
      refine x_aln jS dX7_change_13 rfl hl 0 rfl ?_
      refine x_get jS hK hP h_X7_change_X7 0 rfl rfl 4 rfl m_X7_change_2 rfl dX7_change_14 ?_
      refine x_alen jS hK hP 1 rfl dX7_change_17 ?_
      refine x_cmpge jS 32 dX7_change_18 (by decide) (by omega) (fun hc18 => ?_) (fun hc18 => ?_)
      · exfalso; omega
      refine x_aln jS dX7_change_21 rfl hl 0 rfl ?_
      refine x_get jS hK hP h_X7_change_X7 0 rfl rfl 0 rfl m_X7_change_3 rfl dX7_change_22 ?_
      refine x_iln jS dX7_change_25 rfl hl 2 rfl ?_
      refine x_rI (x_rmV (As := [.int (iI v)]) (rest := []) jS hl.1 hK (c_X4_has jl D cI h4 q4 P v (by first | assumption | omega) (by first | assumption | omega)) (hP.sub [2] rfl) 0 rfl rfl gX7_change_X4_has rfl rfl rfl kf_X4_has rfl rfl rfl rfl rfl dX7_change_26 rfl rfl) ?_
      refine x_ifneB jS 34 dX7_change_29 (by decide) (fun hc29 => ?_) (fun hc29 => ?_)
      · skip
        refine x_aln jS dX7_change_34 rfl hl 0 rfl ?_
        refine x_get jS hK hP h_X7_change_X7 0 rfl rfl 4 rfl m_X7_change_2 rfl dX7_change_35 ?_
        refine x_iln jS dX7_change_38 rfl hl 1 rfl ?_
        refine x_iald jS hK hP 1 rfl (by omega) dX7_change_39 ?_
        refine x_isn (lv' := [(3, .int (iI (row w))), (0, .ref sb), (1, .int (iI w)), (2, .int (iI v))]) jS dX7_change_40 rfl hl rfl rfl (fun ls hl => ?_)
        refine x_aln jS dX7_change_41 rfl hl 1 rfl ?_
        refine x_get jS hK hP h_X7_change_X7 0 rfl rfl 4 rfl m_X7_change_2 rfl dX7_change_42 ?_
        refine x_iln jS dX7_change_45 rfl hl 2 rfl ?_
        refine x_iln jS dX7_change_46 rfl hl 3 rfl ?_
        refine x_iast (ws' := [(sb, .inr (7, [.ref h4, .ref h0, .ref b1, .ref b2, .ref qr, .ref r1, .ref o3, .ref o2, .ref o5, .int (iI cnt), .int (iI ak), .long tr])), (qr, .inl (cI, 16, .inl (aI (uI row w v)))), (h4, .inr (4, [.ref q4, .int (iI P)]))]) jS hK hP hD hS 1 rfl (by omega) dX7_change_47 rfl (fun jH jL hP hD hS => ?_)
        refine x_iln jS dX7_change_48 rfl hl 0 rfl ?_
        exact x_iretW jS jr jk jq dX7_change_49 (uI row w v) hP hD hS (show (iI (row w)) = (iI (if (0 ≤ w ∧ w < cnt) ∧ (0 ≤ v ∧ v < P) then row w else -1)) ∧ ((uI row w v) = (if (0 ≤ w ∧ w < cnt) ∧ (0 ≤ v ∧ v < P) then uI row w v else row)) from ⟨by rw [if_pos ⟨by omega, hc29⟩], by rw [if_pos ⟨by omega, hc29⟩]⟩)
      · skip
        refine x_ic jS dX7_change_32 ?_
        exact x_iretW jS jr jk jq dX7_change_33 row hP hD hS (show (iI (-1)) = (iI (if (0 ≤ w ∧ w < cnt) ∧ (0 ≤ v ∧ v < P) then row w else -1)) ∧ (row = (if (0 ≤ w ∧ w < cnt) ∧ (0 ≤ v ∧ v < P) then uI row w v else row)) from ⟨by rw [if_neg (by omega)], by rw [if_neg (by omega)]⟩)
theorem h_X7_clear_X7 : ∀ w ∈ u_ws RX7 TX7 12, w ∈ wsX7_clear := fun w h => List.mem_cons_of_mem _ (List.mem_append_right _ h)
theorem m_X7_clear_1 : Cond.fieldLink RX7 69 "SealedBox" "rowLength" "I" ∈ wsX7_clear := List.mem_of_getElem? (i := 1) rfl
abbrev rm_X7_clear : Room := { frames := 0, cells := 0, slots := 0, locals := 0 }
set_option maxHeartbeats 4000000 in
set_option maxRecDepth 100000 in
theorem c_X7_clear (jl : Launch) (D : va_G) (cI : ClassId) (sb h4 h0 b1 b2 qr r1 o3 o2 o5 : Nat) (cnt ak : Int) (tr : Int64) (sz : Nat) : Met jl yX7_clear wsX7_clear rm_X7_clear (xPw [.ref sb] D cI [(sb, .inr (7, [.ref h4, .ref h0, .ref b1, .ref b2, .ref qr, .ref r1, .ref o3, .ref o2, .ref o5, .int (iI cnt), .int (iI ak), .long tr]))] sz) (va_Qi (fun (r : Int32) (u : Unit) => r = (iI cnt) ∧ (True)) (xB D (fun (u : Unit) => [(sb, .inr (7, [.ref h4, .ref h0, .ref b1, .ref b2, .ref qr, .ref r1, .ref o3, .ref o2, .ref o5, .int (iI 0), .int (iI ak), .long tr]))]) (va_A [(sb, .inr (7, [.ref h4, .ref h0, .ref b1, .ref b2, .ref qr, .ref r1, .ref o3, .ref o2, .ref o5, .int (iI cnt), .int (iI ak), .long tr]))] sz)) (va_A [(sb, .inr (7, [.ref h4, .ref h0, .ref b1, .ref b2, .ref qr, .ref r1, .ref o3, .ref o2, .ref o5, .int (iI cnt), .int (iI ak), .long tr]))] sz)) 0 0 (va_A [(sb, .inr (7, [.ref h4, .ref h0, .ref b1, .ref b2, .ref qr, .ref r1, .ref o3, .ref o2, .ref o5, .int (iI cnt), .int (iI ak), .long tr]))] sz) := by
  refine x_metW (own := RX7) (cc := cX7_clear) (maxL := 2) (ret := (some .int)) (Qc := fun jA => va_Qi (fun (r : Int32) (u : Unit) => r = (iI cnt) ∧ (True)) (xB D (fun (u : Unit) => [(sb, .inr (7, [.ref h4, .ref h0, .ref b1, .ref b2, .ref qr, .ref r1, .ref o3, .ref o2, .ref o5, .int (iI 0), .int (iI ak), .long tr]))]) jA) jA) (by decide) rfl rfl rfl ?_
  intro jp je js jm ja jb jt jc jA jQ jS jr jk jn jq hK hP hD hA hS ls hl
  have hl : lv_has ls 2 [(0, .ref sb)] := hl
  refine x_aln jS dX7_clear_0 rfl hl 0 rfl ?_
  refine x_get jS hK hP h_X7_clear_X7 0 rfl rfl 9 rfl m_X7_clear_1 rfl dX7_clear_1 ?_
  refine x_isn (lv' := [(1, .int (iI cnt)), (0, .ref sb)]) jS dX7_clear_4 rfl hl rfl rfl (fun ls hl => ?_)
  refine x_aln jS dX7_clear_5 rfl hl 1 rfl ?_
  refine x_ic jS dX7_clear_6 ?_
  refine x_put (ty0 := tyX7) (ws' := [(sb, .inr (7, [.ref h4, .ref h0, .ref b1, .ref b2, .ref qr, .ref r1, .ref o3, .ref o2, .ref o5, .int (iI 0), .int (iI ak), .long tr]))]) jS hK hP hD hS h_X7_clear_X7 tyX7_ok nmX7 0 rfl rfl 9 rfl m_X7_clear_1 rfl rfl rfl rfl dX7_clear_7 rfl (fun jH jL hP hD hS => ?_)
  refine x_iln jS dX7_clear_10 rfl hl 0 rfl ?_
  exact x_iretW jS jr jk jq dX7_clear_11 () hP hD hS (show (iI cnt) = (iI cnt) ∧ True from ⟨rfl, trivial⟩)
theorem h_X7_count_X7 : ∀ w ∈ u_ws RX7 TX7 12, w ∈ wsX7_count := fun w h => List.mem_cons_of_mem _ (List.mem_append_left _ (List.mem_append_left _ (List.mem_append_right _ h)))
theorem m_X7_count_1 : Cond.fieldLink RX7 10 "SealedBox" "numbers" "LSealedBox$PrimeField;" ∈ wsX7_count := List.mem_of_getElem? (i := 1) rfl
theorem h_X7_count_X4 : ∀ w ∈ u_ws RX4 TX4 2, w ∈ wsX7_count := fun w h => List.mem_cons_of_mem _ (List.mem_append_left _ (List.mem_append_right _ h))
theorem m_X7_count_2 : Cond.fieldLink RX7 30 "SealedBox" "first" "LSealedBox$Box;" ∈ wsX7_count := List.mem_of_getElem? (i := 2) rfl
theorem h_X7_count_X1 : ∀ w ∈ u_ws RX1 TX1 7, w ∈ wsX7_count := fun w h => List.mem_cons_of_mem _ (List.mem_append_right _ h)
theorem m_X7_count_3 : Cond.fieldLink RX7 34 "SealedBox" "second" "LSealedBox$Box;" ∈ wsX7_count := List.mem_of_getElem? (i := 3) rfl
theorem m_X7_count_4 : Cond.fieldLink RX7 69 "SealedBox" "rowLength" "I" ∈ wsX7_count := List.mem_of_getElem? (i := 4) rfl
theorem m_X7_count_5 : Cond.fieldLink RX7 73 "SealedBox" "asks" "I" ∈ wsX7_count := List.mem_of_getElem? (i := 5) rfl
abbrev rm_X7_count : Room := { frames := 0, cells := 0, slots := 0, locals := 0 }
set_option maxHeartbeats 4000000 in
set_option maxRecDepth 100000 in
theorem c_X7_count (jl : Launch) (D : va_G) (cI : ClassId) (sb h4 h0 b1 b2 qr r1 o3 o2 o5 : Nat) (cnt ak : Int) (tr : Int64) (p1 f1 l1 p2 f2 l2 : Nat) (k1 n1 k2 n2 : Int) (q4 : Nat) (P v : Int)  (g_v : -2147483648 ≤ v ∧ v < 2147483648) : Met jl yX7_count wsX7_count rm_X7_count (xPr [.ref sb, .int (iI v)] D cI [(sb, .inr (7, [.ref h4, .ref h0, .ref b1, .ref b2, .ref qr, .ref r1, .ref o3, .ref o2, .ref o5, .int (iI cnt), .int (iI ak), .long tr])), (b1, .inr (1, [.ref h4, .ref h0, .ref p1, .ref f1, .ref l1, .int (iI k1), .int (iI n1)])), (b2, .inr (1, [.ref h4, .ref h0, .ref p2, .ref f2, .ref l2, .int (iI k2), .int (iI n2)])), (h4, .inr (4, [.ref q4, .int (iI P)]))]) (vp_Si (fun r => r = (iI (if v = 0 then P else if v = 1 then n1 else if v = 2 then n2 else if v = 3 then cnt else if v = 4 then ak else -1)))) 0 0 (fun _ => False) := by
  refine x_metR (own := RX7) (cc := cX7_count) (maxL := 2) (ret := (some .int)) (by decide) rfl rfl rfl ?_
  intro jp je js jm ja jb jt jc jQ jS jr jk jq hK hP ls hl
  have hl : lv_has ls 2 [(0, .ref sb), (1, .int (iI v))] := hl
  refine x_iln jS dX7_count_0 rfl hl 1 rfl ?_
  by_cases hc1 : v < 0 ∨ 4 < v
  · refine x_swO jS 70 dX7_count_1 (by omega) hc1 (by decide) ?_
    refine x_ic jS dX7_count_70 ?_
    exact x_iretR jS jr jk jq dX7_count_71 (by have e0 : v ≠ 0 := (by omega); have e1 : v ≠ 1 := (by omega); have e2 : v ≠ 2 := (by omega); have e3 : v ≠ 3 := (by omega); have e4 : v ≠ 4 := (by omega); simp [e0, e1, e2, e3, e4])
  by_cases hc1_0 : v = 0
  · refine x_swI (k := 0) jS 36 dX7_count_1 hc1_0 (by decide) (by decide) rfl (by decide) ?_
    refine x_aln jS dX7_count_36 rfl hl 0 rfl ?_
    refine x_get jS hK hP h_X7_count_X7 0 rfl rfl 0 rfl m_X7_count_1 rfl dX7_count_37 ?_
    refine x_getN jS hK hP h_X7_count_X4 3 rfl rfl 1 rfl 0 rfl rfl dX7_count_40 ?_
    exact x_iretR jS jr jk jq dX7_count_43 (by simp [hc1_0])
  by_cases hc1_1 : v = 1
  · refine x_swI (k := 1) jS 44 dX7_count_1 hc1_1 (by decide) (by decide) rfl (by decide) ?_
    refine x_aln jS dX7_count_44 rfl hl 0 rfl ?_
    refine x_get jS hK hP h_X7_count_X7 0 rfl rfl 2 rfl m_X7_count_2 rfl dX7_count_45 ?_
    refine x_getN jS hK hP h_X7_count_X1 1 rfl rfl 6 rfl 9 rfl rfl dX7_count_48 ?_
    exact x_iretR jS jr jk jq dX7_count_51 (by simp [hc1_1])
  by_cases hc1_2 : v = 2
  · refine x_swI (k := 2) jS 52 dX7_count_1 hc1_2 (by decide) (by decide) rfl (by decide) ?_
    refine x_aln jS dX7_count_52 rfl hl 0 rfl ?_
    refine x_get jS hK hP h_X7_count_X7 0 rfl rfl 3 rfl m_X7_count_3 rfl dX7_count_53 ?_
    refine x_getN jS hK hP h_X7_count_X1 2 rfl rfl 6 rfl 9 rfl rfl dX7_count_56 ?_
    exact x_iretR jS jr jk jq dX7_count_59 (by simp [hc1_2])
  by_cases hc1_3 : v = 3
  · refine x_swI (k := 3) jS 60 dX7_count_1 hc1_3 (by decide) (by decide) rfl (by decide) ?_
    refine x_aln jS dX7_count_60 rfl hl 0 rfl ?_
    refine x_get jS hK hP h_X7_count_X7 0 rfl rfl 9 rfl m_X7_count_4 rfl dX7_count_61 ?_
    exact x_iretR jS jr jk jq dX7_count_64 (by simp [hc1_3])
  have hc1_4 : v = 4 := by omega
  refine x_swI (k := 4) jS 65 dX7_count_1 hc1_4 (by decide) (by decide) rfl (by decide) ?_
  refine x_aln jS dX7_count_65 rfl hl 0 rfl ?_
  refine x_get jS hK hP h_X7_count_X7 0 rfl rfl 10 rfl m_X7_count_5 rfl dX7_count_66 ?_
  exact x_iretR jS jr jk jq dX7_count_69 (by simp [hc1_4])
theorem h_X7_trace_X7 : ∀ w ∈ u_ws RX7 TX7 12, w ∈ wsX7_trace := fun w h => List.mem_cons_of_mem _ (List.mem_append_right _ h)
theorem m_X7_trace_1 : Cond.fieldLink RX7 76 "SealedBox" "traced" "J" ∈ wsX7_trace := List.mem_of_getElem? (i := 1) rfl
abbrev rm_X7_trace : Room := { frames := 0, cells := 0, slots := 0, locals := 0 }
set_option maxHeartbeats 4000000 in
set_option maxRecDepth 100000 in
theorem c_X7_trace (jl : Launch) (D : va_G) (cI : ClassId) (sb h4 h0 b1 b2 qr r1 o3 o2 o5 : Nat) (cnt ak : Int) (tr : Int64)  : Met jl yX7_trace wsX7_trace rm_X7_trace (xPr [.ref sb] D cI [(sb, .inr (7, [.ref h4, .ref h0, .ref b1, .ref b2, .ref qr, .ref r1, .ref o3, .ref o2, .ref o5, .int (iI cnt), .int (iI ak), .long tr]))]) (vp_Sl (fun r => r = tr)) 0 0 (fun _ => False) := by
  refine x_metR (own := RX7) (cc := cX7_trace) (maxL := 1) (ret := (some .long)) (by decide) rfl rfl rfl ?_
  intro jp je js jm ja jb jt jc jQ jS jr jk jq hK hP ls hl
  have hl : lv_has ls 1 [(0, .ref sb)] := hl
  refine x_aln jS dX7_trace_0 rfl hl 0 rfl ?_
  refine x_get jS hK hP h_X7_trace_X7 0 rfl rfl 11 rfl m_X7_trace_1 rfl dX7_trace_1 ?_
  exact x_lretR jS jr jk jq dX7_trace_4 (rfl)
