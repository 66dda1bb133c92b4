/-! PrimeField: reads -/
theorem h_X4_has_X4 : ∀ w ∈ u_ws RX4 TX4 2, w ∈ wsX4_has := fun w h => List.mem_cons_of_mem _ (List.mem_append_right _ h)
theorem m_X4_has_1 : Cond.fieldLink RX4 15 "SealedBox$PrimeField" "p" "I" ∈ wsX4_has := List.mem_of_getElem? (i := 1) rfl
abbrev rm_X4_has : Room := { frames := 0, cells := 0, slots := 0, locals := 0 }
set_option maxHeartbeats 4000000 in
set_option maxRecDepth 100000 in
theorem c_X4_has (jl : Launch) (D : va_G) (cI : ClassId) (h4 q4 : Nat) (P v : Int)  (hP5 : 5 ≤ P ∧ P ≤ 997) (hv : -2147483648 ≤ v ∧ v < 2147483648) : Met jl yX4_has wsX4_has rm_X4_has (xPr [.ref h4, .int (iI v)] D cI [(h4, .inr (4, [.ref q4, .int (iI P)]))]) (vp_Si (fun r => r = (iI (bI (0 ≤ v ∧ v < P))))) 0 0 (fun _ => False) := by
  refine x_metR (own := RX4) (cc := cX4_has) (maxL := 2) (ret := (some .boolean)) (by decide) rfl rfl rfl ?_
  intro jp je js jm ja jb jt jc jQ jS jr jk jq hK hP ls hl
  have hl : lv_has ls 2 [(0, .ref h4), (1, .int (iI v))] := hl
  refine x_iln jS dX4_has_0 rfl hl 1 rfl ?_
  refine x_iflt jS 16 dX4_has_1 (by decide) (by omega) (fun hc1 => ?_) (fun hc1 => ?_)
  · skip
    refine x_ic jS dX4_has_16 ?_
    exact x_zretR jS jr jk jq dX4_has_17 rfl (congrArg iI (bI_f (by omega)).symm)
  · skip
    refine x_iln jS dX4_has_4 rfl hl 1 rfl ?_
    refine x_aln jS dX4_has_5 rfl hl 0 rfl ?_
    refine x_get jS hK hP h_X4_has_X4 0 rfl rfl 1 rfl m_X4_has_1 rfl dX4_has_6 ?_
    refine x_cmpge jS 16 dX4_has_9 (by decide) (by omega) (fun hc9 => ?_) (fun hc9 => ?_)
    · skip
      refine x_ic jS dX4_has_16 ?_
      exact x_zretR jS jr jk jq dX4_has_17 rfl (congrArg iI (bI_f (by omega)).symm)
    · skip
      refine x_ic jS dX4_has_12 ?_
      refine x_goto jS 17 dX4_has_13 (by decide) ?_
      exact x_zretR jS jr jk jq dX4_has_17 rfl (congrArg iI (bI_t (by omega)).symm)
theorem h_X4_times_X4 : ∀ w ∈ u_ws RX4 TX4 2, w ∈ wsX4_times := fun w h => List.mem_cons_of_mem _ (List.mem_append_right _ h)
theorem m_X4_times_1 : Cond.fieldLink RX4 15 "SealedBox$PrimeField" "p" "I" ∈ wsX4_times := List.mem_of_getElem? (i := 1) rfl
abbrev rm_X4_times : Room := { frames := 0, cells := 0, slots := 0, locals := 0 }
set_option maxHeartbeats 4000000 in
set_option maxRecDepth 100000 in
theorem c_X4_times (jl : Launch) (D : va_G) (cI : ClassId) (h4 q4 : Nat) (P v w : Int)  (hP5 : 5 ≤ P ∧ P ≤ 997) (hv : 0 ≤ v ∧ v ≤ 1000) (hw : 0 ≤ w ∧ w ≤ 1000) : Met jl yX4_times wsX4_times rm_X4_times (xPr [.ref h4, .int (iI v), .int (iI w)] D cI [(h4, .inr (4, [.ref q4, .int (iI P)]))]) (vp_Si (fun r => r = (iI (v * w % P)))) 0 0 (fun _ => False) := by
  refine x_metR (own := RX4) (cc := cX4_times) (maxL := 3) (ret := (some .int)) (by decide) rfl rfl rfl ?_
  intro jp je js jm ja jb jt jc jQ jS jr jk jq hK hP ls hl
  have hl : lv_has ls 3 [(0, .ref h4), (1, .int (iI v)), (2, .int (iI w))] := hl
  refine x_iln jS dX4_times_0 rfl hl 1 rfl ?_
  refine x_iln jS dX4_times_1 rfl hl 2 rfl ?_
  refine x_imulB jS dX4_times_2 (by omega) (fun hp2 => ?_)
  refine x_aln jS dX4_times_3 rfl hl 0 rfl ?_
  refine x_get jS hK hP h_X4_times_X4 0 rfl rfl 1 rfl m_X4_times_1 rfl dX4_times_4 ?_
  refine x_irem jS dX4_times_7 (by omega) (fun hm7 => ?_)
  exact x_iretR jS jr jk jq dX4_times_8 (rfl)
theorem h_X4_plus_X4 : ∀ w ∈ u_ws RX4 TX4 2, w ∈ wsX4_plus := fun w h => List.mem_cons_of_mem _ (List.mem_append_right _ h)
theorem m_X4_plus_1 : Cond.fieldLink RX4 15 "SealedBox$PrimeField" "p" "I" ∈ wsX4_plus := List.mem_of_getElem? (i := 1) rfl
abbrev rm_X4_plus : Room := { frames := 0, cells := 0, slots := 0, locals := 0 }
set_option maxHeartbeats 4000000 in
set_option maxRecDepth 100000 in
theorem c_X4_plus (jl : Launch) (D : va_G) (cI : ClassId) (h4 q4 : Nat) (P v w : Int)  (hP5 : 5 ≤ P ∧ P ≤ 997) (hv : 0 ≤ v ∧ v ≤ 1000) (hw : 0 ≤ w ∧ w ≤ 1000) : Met jl yX4_plus wsX4_plus rm_X4_plus (xPr [.ref h4, .int (iI v), .int (iI w)] D cI [(h4, .inr (4, [.ref q4, .int (iI P)]))]) (vp_Si (fun r => r = (iI ((v + w) % P)))) 0 0 (fun _ => False) := by
  refine x_metR (own := RX4) (cc := cX4_plus) (maxL := 3) (ret := (some .int)) (by decide) rfl rfl rfl ?_
  intro jp je js jm ja jb jt jc jQ jS jr jk jq hK hP ls hl
  have hl : lv_has ls 3 [(0, .ref h4), (1, .int (iI v)), (2, .int (iI w))] := hl
  refine x_iln jS dX4_plus_0 rfl hl 1 rfl ?_
  refine x_iln jS dX4_plus_1 rfl hl 2 rfl ?_
  refine x_iadd jS dX4_plus_2 ?_
  refine x_aln jS dX4_plus_3 rfl hl 0 rfl ?_
  refine x_get jS hK hP h_X4_plus_X4 0 rfl rfl 1 rfl m_X4_plus_1 rfl dX4_plus_4 ?_
  refine x_irem jS dX4_plus_7 (by omega) (fun hm7 => ?_)
  exact x_iretR jS jr jk jq dX4_plus_8 (rfl)
theorem h_X4_less_X4 : ∀ w ∈ u_ws RX4 TX4 2, w ∈ wsX4_less := fun w h => List.mem_cons_of_mem _ (List.mem_append_right _ h)
theorem m_X4_less_1 : Cond.fieldLink RX4 15 "SealedBox$PrimeField" "p" "I" ∈ wsX4_less := List.mem_of_getElem? (i := 1) rfl
abbrev rm_X4_less : Room := { frames := 0, cells := 0, slots := 0, locals := 0 }
set_option maxHeartbeats 4000000 in
set_option maxRecDepth 100000 in
theorem c_X4_less (jl : Launch) (D : va_G) (cI : ClassId) (h4 q4 : Nat) (P v w : Int)  (hP5 : 5 ≤ P ∧ P ≤ 997) (hv : 0 ≤ v ∧ v ≤ 1000) (hw : 0 ≤ w ∧ w ≤ P) : Met jl yX4_less wsX4_less rm_X4_less (xPr [.ref h4, .int (iI v), .int (iI w)] D cI [(h4, .inr (4, [.ref q4, .int (iI P)]))]) (vp_Si (fun r => r = (iI ((v + P - w) % P)))) 0 0 (fun _ => False) := by
  refine x_metR (own := RX4) (cc := cX4_less) (maxL := 3) (ret := (some .int)) (by decide) rfl rfl rfl ?_
  intro jp je js jm ja jb jt jc jQ jS jr jk jq hK hP ls hl
  have hl : lv_has ls 3 [(0, .ref h4), (1, .int (iI v)), (2, .int (iI w))] := hl
  refine x_iln jS dX4_less_0 rfl hl 1 rfl ?_
  refine x_aln jS dX4_less_1 rfl hl 0 rfl ?_
  refine x_get jS hK hP h_X4_less_X4 0 rfl rfl 1 rfl m_X4_less_1 rfl dX4_less_2 ?_
  refine x_iadd jS dX4_less_5 ?_
  refine x_iln jS dX4_less_6 rfl hl 2 rfl ?_
  refine x_isub jS dX4_less_7 ?_
  refine x_aln jS dX4_less_8 rfl hl 0 rfl ?_
  refine x_get jS hK hP h_X4_less_X4 0 rfl rfl 1 rfl m_X4_less_1 rfl dX4_less_9 ?_
  refine x_irem jS dX4_less_12 (by omega) (fun hm12 => ?_)
  exact x_iretR jS jr jk jq dX4_less_13 (rfl)
theorem h_X4_over_X4 : ∀ w ∈ u_ws RX4 TX4 2, w ∈ wsX4_over := fun w h => List.mem_cons_of_mem _ (List.mem_append_right _ h)
theorem m_X4_over_1 : Cond.fieldLink RX4 15 "SealedBox$PrimeField" "p" "I" ∈ wsX4_over := List.mem_of_getElem? (i := 1) rfl
theorem m_X4_over_2 : Cond.fieldLink RX4 9 "SealedBox$PrimeField" "inverses" "[I" ∈ wsX4_over := List.mem_of_getElem? (i := 2) rfl
abbrev rm_X4_over : Room := { frames := 0, cells := 0, slots := 0, locals := 0 }
set_option maxHeartbeats 4000000 in
set_option maxRecDepth 100000 in
theorem c_X4_over (jl : Launch) (D : va_G) (cI : ClassId) (h4 q4 : Nat) (P v w : Int) (iv : Int → Int)  (hP5 : 5 ≤ P ∧ P ≤ 997) (hv : 0 ≤ v ∧ v ≤ 1000) (hw : 0 < w ∧ w < P) (hi : 0 ≤ iv w ∧ iv w < P) : Met jl yX4_over wsX4_over rm_X4_over (xPr [.ref h4, .int (iI v), .int (iI w)] D cI [(h4, .inr (4, [.ref q4, .int (iI P)])), (q4, .inl (cI, 997, .inl (aI iv)))]) (vp_Si (fun r => r = (iI (v * iv w % P)))) 0 0 (fun _ => False) := by
  refine x_metR (own := RX4) (cc := cX4_over) (maxL := 3) (ret := (some .int)) (by decide) rfl rfl rfl ?_
  intro jp je js jm ja jb jt jc jQ jS jr jk jq hK hP ls hl
  have hl : lv_has ls 3 [(0, .ref h4), (1, .int (iI v)), (2, .int (iI w))] := hl
  refine x_iln jS dX4_over_0 rfl hl 2 rfl ?_
  refine x_ifle jS 37 dX4_over_1 (by decide) (by omega) (fun hc1 => ?_) (fun hc1 => ?_)
  · exfalso; omega
  refine x_iln jS dX4_over_4 rfl hl 2 rfl ?_
  refine x_aln jS dX4_over_5 rfl hl 0 rfl ?_
  refine x_get jS hK hP h_X4_over_X4 0 rfl rfl 1 rfl m_X4_over_1 rfl dX4_over_6 ?_
  refine x_cmpge jS 37 dX4_over_9 (by decide) (by omega) (fun hc9 => ?_) (fun hc9 => ?_)
  · exfalso; omega
  refine x_iln jS dX4_over_12 rfl hl 2 rfl ?_
  refine x_aln jS dX4_over_13 rfl hl 0 rfl ?_
  refine x_get jS hK hP h_X4_over_X4 0 rfl rfl 0 rfl m_X4_over_2 rfl dX4_over_14 ?_
  refine x_alen jS hK hP 1 rfl dX4_over_17 ?_
  refine x_cmpge jS 37 dX4_over_18 (by decide) (by omega) (fun hc18 => ?_) (fun hc18 => ?_)
  · exfalso; omega
  refine x_iln jS dX4_over_21 rfl hl 1 rfl ?_
  refine x_aln jS dX4_over_22 rfl hl 0 rfl ?_
  refine x_get jS hK hP h_X4_over_X4 0 rfl rfl 0 rfl m_X4_over_2 rfl dX4_over_23 ?_
  refine x_iln jS dX4_over_26 rfl hl 2 rfl ?_
  refine x_iald jS hK hP 1 rfl (by omega) dX4_over_27 ?_
  refine x_imulB jS dX4_over_28 (by omega) (fun hp28 => ?_)
  refine x_aln jS dX4_over_29 rfl hl 0 rfl ?_
  refine x_get jS hK hP h_X4_over_X4 0 rfl rfl 1 rfl m_X4_over_1 rfl dX4_over_30 ?_
  refine x_irem jS dX4_over_33 (by omega) (fun hm33 => ?_)
  refine x_goto jS 38 dX4_over_34 (by decide) ?_
  exact x_iretR jS jr jk jq dX4_over_38 (rfl)
theorem h_X4_power_X4 : ∀ w ∈ u_ws RX4 TX4 2, w ∈ wsX4_power := fun w h => List.mem_cons_of_mem _ (List.mem_append_right _ h)
theorem m_X4_power_1 : Cond.fieldLink RX4 15 "SealedBox$PrimeField" "p" "I" ∈ wsX4_power := List.mem_of_getElem? (i := 1) rfl
abbrev rm_X4_power : Room := { frames := 0, cells := 0, slots := 0, locals := 0 }
set_option maxHeartbeats 4000000 in
set_option maxRecDepth 100000 in
theorem c_X4_power (jl : Launch) (D : va_G) (cI : ClassId) (h4 q4 : Nat) (P v ex : Int)  (hP5 : 5 ≤ P ∧ P ≤ 997) (hv : 0 ≤ v ∧ v ≤ 1000) (he : 0 ≤ ex ∧ ex ≤ 1000) : Met jl yX4_power wsX4_power rm_X4_power (xPr [.ref h4, .int (iI v), .int (iI ex)] D cI [(h4, .inr (4, [.ref q4, .int (iI P)]))]) (vp_Si (fun r => r = (iI (pw P v ex)))) 0 0 (fun _ => False) := by
  refine x_metR (own := RX4) (cc := cX4_power) (maxL := 5) (ret := (some .int)) (by decide) rfl rfl rfl ?_
  intro jp je js jm ja jb jt jc jQ jS jr jk jq hK hP ls hl
  have hl : lv_has ls 5 [(0, .ref h4), (1, .int (iI v)), (2, .int (iI ex))] := hl
  refine x_ic jS dX4_power_0 ?_
  refine x_isn (lv' := [(3, .int (iI 1)), (0, .ref h4), (1, .int (iI v)), (2, .int (iI ex))]) jS dX4_power_1 rfl hl rfl rfl (fun ls hl => ?_)
  refine x_ic jS dX4_power_2 ?_
  refine x_is (lv' := [(4, .int (iI 0)), (3, .int (iI 1)), (0, .ref h4), (1, .int (iI v)), (2, .int (iI ex))]) jS dX4_power_3 hl rfl rfl (fun ls hl => ?_)
  have loop_5 : ∀ (mm : Nat) (r : Int) (i : Int), (ex - i).toNat = mm → (0 ≤ i ∧ i ≤ ex) → (r = pw P v i) → ∀ ls : Array Slot, lv_has ls 5 [(4, .int (iI i)), (3, .int (iI r)), (0, .ref h4), (1, .int (iI v)), (2, .int (iI ex))] → W jp jl je rm_X4_power js jm ja jb jt jc js.heap [] 0 0 jQ (F0 jm 5 ls []) := by
    intro mm
    induction mm using Nat.strongRecOn with
    | ind mm ih5 =>
      intro r i hmm5 hi hr ls hl
      have hrb := pw_in (show 2 ≤ P by omega) v i
      rw [← hr] at hrb
      refine x_il jS dX4_power_5 hl 0 rfl ?_
      refine x_iln jS dX4_power_7 rfl hl 4 rfl ?_
      refine x_cmpge jS 26 dX4_power_8 (by decide) (by omega) (fun hc8 => ?_) (fun hc8 => ?_)
      · skip
        refine x_iln jS dX4_power_26 rfl hl 1 rfl ?_
        exact x_iretR jS jr jk jq dX4_power_27 (by rw [hr, show i = ex by omega])
      · skip
        refine x_iln jS dX4_power_11 rfl hl 1 rfl ?_
        refine x_iln jS dX4_power_12 rfl hl 3 rfl ?_
        refine x_imulB jS dX4_power_13 (by omega) (fun hp13 => ?_)
        refine x_aln jS dX4_power_14 rfl hl 2 rfl ?_
        refine x_get jS hK hP h_X4_power_X4 0 rfl rfl 1 rfl m_X4_power_1 rfl dX4_power_15 ?_
        refine x_irem jS dX4_power_18 (by omega) (fun hm18 => ?_)
        refine x_isn (lv' := [(3, .int (iI ((r * v) % P))), (4, .int (iI i)), (0, .ref h4), (1, .int (iI v)), (2, .int (iI ex))]) jS dX4_power_19 rfl hl rfl rfl (fun ls hl => ?_)
        refine x_iinc (lv' := [(4, .int (iI (i + 1))), (3, .int (iI ((r * v) % P))), (0, .ref h4), (1, .int (iI v)), (2, .int (iI ex))]) jS dX4_power_20 hl 1 rfl rfl rfl (fun ls hl => ?_)
        refine x_goto jS 5 dX4_power_23 (by decide) ?_
        exact ih5 _ (by omega) ((r * v) % P) (i + 1) rfl (by omega) (by rw [pw_s P v hi.1, ← hr]) ls (lv_sub hl [0, 1, 2, 3, 4] rfl)
  exact loop_5 _ 1 0 rfl (by omega) (pw_0 P v |>.symm) ls (lv_sub hl [0, 1, 2, 3, 4] rfl)
