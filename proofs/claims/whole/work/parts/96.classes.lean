/-! the classes as the tables have them -/
theorem mL_0 : Cond.classLink RL 7 RX7 ∈ wsL_law := List.mem_of_getElem? (i := 0) rfl
theorem mL_1 : Cond.instantiable RX7 12 ∈ wsL_law := List.mem_of_getElem? (i := 1) rfl
theorem mL_2 : Cond.initialized RX7 ∈ wsL_law := List.mem_of_getElem? (i := 2) rfl
theorem mL_3 : Cond.classLink RL 10 RX8 ∈ wsL_law := List.mem_of_getElem? (i := 3) rfl
theorem mL_4 : Cond.instantiable RX8 29 ∈ wsL_law := List.mem_of_getElem? (i := 4) rfl
theorem mL_5 : Cond.initialized RX8 ∈ wsL_law := List.mem_of_getElem? (i := 5) rfl
theorem mL_6 : Cond.methodLink RL 9 yX7_init ∈ wsL_law := List.mem_of_getElem? (i := 6) rfl
theorem mL_7 : Cond.instanceMethod yX7_init ∈ wsL_law := List.mem_of_getElem? (i := 7) rfl
theorem mL_13 : Cond.instantiable RX4 2 ∈ wsL_law := List.mem_of_getElem? (i := 13) rfl
theorem mL_17 : Cond.instantiable RX0 3 ∈ wsL_law := List.mem_of_getElem? (i := 17) rfl
theorem mL_21 : Cond.instantiable RX1 7 ∈ wsL_law := List.mem_of_getElem? (i := 21) rfl
theorem mL_25 : Cond.arrayClass .int ∈ wsL_law := List.mem_of_getElem? (i := 25) rfl
theorem mL_28 : Cond.instantiable RX6 8 ∈ wsL_law := List.mem_of_getElem? (i := 28) rfl
theorem mL_32 : Cond.instantiable RX3 5 ∈ wsL_law := List.mem_of_getElem? (i := 32) rfl
theorem mL_36 : Cond.instantiable RX2 4 ∈ wsL_law := List.mem_of_getElem? (i := 36) rfl
theorem mL_40 : Cond.instantiable RX5 8 ∈ wsL_law := List.mem_of_getElem? (i := 40) rfl
theorem mL_121 : Cond.methodLink RL 12 yX8_init ∈ wsL_law := List.mem_of_getElem? (i := 121) rfl
theorem mL_122 : Cond.instanceMethod yX8_init ∈ wsL_law := List.mem_of_getElem? (i := 122) rfl
theorem nw_tb {w : Cond} {i : Nat} (h : tables_1[i]? = some w) : w ∈ lw_tbl := List.mem_append_right _ (List.mem_of_getElem? h)
theorem nw_0 : nwC (nwF[0]) ∈ lw_tbl := nw_tb (i := 32) rfl
theorem nw_1 : nwC (nwF[1]) ∈ lw_tbl := nw_tb (i := 33) rfl
theorem nw_2 : nwC (nwF[2]) ∈ lw_tbl := nw_tb (i := 34) rfl
theorem nw_3 : nwC (nwF[3]) ∈ lw_tbl := nw_tb (i := 35) rfl
theorem nw_4 : nwC (nwF[4]) ∈ lw_tbl := nw_tb (i := 36) rfl
theorem nw_5 : nwC (nwF[5]) ∈ lw_tbl := nw_tb (i := 37) rfl
theorem nw_6 : nwC (nwF[6]) ∈ lw_tbl := nw_tb (i := 52) rfl
theorem nw_7 : nwC (nwF[7]) ∈ lw_tbl := nw_tb (i := 54) rfl
theorem nw_8 : nwC (nwF[8]) ∈ lw_tbl := nw_tb (i := 74) rfl
theorem nw_9 : nwC (nwF[9]) ∈ lw_tbl := nw_tb (i := 76) rfl
theorem nw_10 : nwC (nwF[10]) ∈ lw_tbl := nw_tb (i := 103) rfl
theorem nw_11 : nwC (nwF[11]) ∈ lw_tbl := nw_tb (i := 104) rfl
theorem nw_12 : nwC (nwF[12]) ∈ lw_tbl := nw_tb (i := 105) rfl
theorem nw_13 : nwC (nwF[13]) ∈ lw_tbl := nw_tb (i := 106) rfl
theorem nw_14 : nwC (nwF[14]) ∈ lw_tbl := nw_tb (i := 183) rfl
theorem nw_m : nwM ∈ lw_tbl := nw_tb (i := 526) (by decide +kernel)
theorem nw_all : ∀ q ∈ nwF, nwC q ∈ lw_tbl := fun q hq => by
  obtain ⟨k, hk⟩ := List.mem_iff_getElem?.mp hq
  match k, hk with
  | 0, hk => cases hk; exact nw_0
  | 1, hk => cases hk; exact nw_1
  | 2, hk => cases hk; exact nw_2
  | 3, hk => cases hk; exact nw_3
  | 4, hk => cases hk; exact nw_4
  | 5, hk => cases hk; exact nw_5
  | 6, hk => cases hk; exact nw_6
  | 7, hk => cases hk; exact nw_7
  | 8, hk => cases hk; exact nw_8
  | 9, hk => cases hk; exact nw_9
  | 10, hk => cases hk; exact nw_10
  | 11, hk => cases hk; exact nw_11
  | 12, hk => cases hk; exact nw_12
  | 13, hk => cases hk; exact nw_13
  | 14, hk => cases hk; exact nw_14
  | k + 15, hk => exact absurd hk (by rw [List.getElem?_eq_none (show nwF.length ≤ k + 15 by show 15 ≤ k + 15; omega)]; exact fun h => by cases h)
theorem xK_ex {b : Nat} {s : State} (hts : ∀ w ∈ lw_tbl, w.before #[Value.ref b] s = true) : ∃ (D : va_G) (cI : ClassId), xK D cI s := by
  obtain ⟨c0, i0, g0⟩ := u_known (C := RX0) (T := TX0) (N := 3) (n := 3) hts (fun w h => (inL_X00 w h).1) (hts _ (wsL_law_in _ mL_17))
  obtain ⟨c1, i1, g1⟩ := u_known (C := RX1) (T := TX1) (N := 7) (n := 7) hts (fun w h => (inL_X10 w h).1) (hts _ (wsL_law_in _ mL_21))
  obtain ⟨c2, i2, g2⟩ := u_known (C := RX2) (T := TX2) (N := 4) (n := 4) hts (fun w h => (inL_X20 w h).1) (hts _ (wsL_law_in _ mL_36))
  obtain ⟨c3, i3, g3⟩ := u_known (C := RX3) (T := TX3) (N := 5) (n := 5) hts (fun w h => (inL_X30 w h).1) (hts _ (wsL_law_in _ mL_32))
  obtain ⟨c4, i4, g4⟩ := u_known (C := RX4) (T := TX4) (N := 2) (n := 2) hts (fun w h => (inL_X40 w h).1) (hts _ (wsL_law_in _ mL_13))
  obtain ⟨c5, i5, g5⟩ := u_known (C := RX5) (T := TX5) (N := 8) (n := 8) hts (fun w h => (inL_X50 w h).1) (hts _ (wsL_law_in _ mL_40))
  obtain ⟨c6, i6, g6⟩ := u_known (C := RX6) (T := TX6) (N := 8) (n := 8) hts (fun w h => (inL_X60 w h).1) (hts _ (wsL_law_in _ mL_28))
  obtain ⟨c7, i7, g7⟩ := u_known (C := RX7) (T := TX7) (N := 12) (n := 12) hts (fun w h => (inL_X70 w h).1) (hts _ (wsL_law_in _ mL_1))
  obtain ⟨c8, i8, g8⟩ := u_known (C := RX8) (T := TX8) (N := 29) (n := 29) hts (fun w h => (inL_X80 w h).1) (hts _ (wsL_law_in _ mL_4))
  obtain ⟨cA, kA, comp, f1, f2, f3⟩ := Cond.arrayClass_spec (hts _ (wsL_law_in _ mL_25))
  refine ⟨(fun k => match k with | 0 => c0 | 1 => c1 | 2 => c2 | 3 => c3 | 4 => c4 | 5 => c5 | 6 => c6 | 7 => c7 | _ => c8, fun k => match k with | 0 => i0 | 1 => i1 | 2 => i2 | 3 => i3 | 4 => i4 | 5 => i5 | 6 => i6 | 7 => i7 | _ => i8), cA, ⟨fun k q hq => ?_, fun k q hq => ?_⟩, fun q hq => va_Nw.of rfl (hts _ (nw_all q hq)), va_Nw.of rfl (hts _ nw_m)⟩
  · match k, hq with
    | 0, hq => cases hq; exact g0
    | 1, hq => cases hq; exact g1
    | 2, hq => cases hq; exact g2
    | 3, hq => cases hq; exact g3
    | 4, hq => cases hq; exact g4
    | 5, hq => cases hq; exact g5
    | 6, hq => cases hq; exact g6
    | 7, hq => cases hq; exact g7
    | 8, hq => cases hq; exact g8
    | k + 9, hq => exact absurd hq (by rw [List.getElem?_eq_none (show vwCl.length ≤ k + 9 by show 9 ≤ k + 9; omega)]; exact fun h => by cases h)
  · match k, hq with
    | 0, hq => cases hq; exact ⟨fun n z => ⟨fun k h => (by cases h), kA, f2, comp, f3⟩, f1⟩
    | k + 1, hq => exact absurd hq (by rw [List.getElem?_eq_none (show 1 ≤ k + 1 by omega)]; exact fun h => by cases h)
