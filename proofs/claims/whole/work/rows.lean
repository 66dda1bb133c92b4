section
-- ===== PART A: goes FIRST, ahead of the names: the tables' words, and 'selects' of the private methods out of them =====
/-- a private method of a class that the tables say can be made, by its rows of tables_1 -/
def lw_okq (q : MethodName × Nat) : Prop := (q.1.cls ≠ "java/lang/invoke/MethodHandle" ∧ q.1.cls ≠ "java/lang/invoke/VarHandle") ∧ Cond.instantiable q.1.cls q.2 ∈ tables_1 ∧ Cond.privateMethod q.1 ∈ tables_1 ∧ Cond.instanceMethod q.1 ∈ tables_1
theorem lw_p0 : lw_okq (⟨"SealedBox$PrimeField", "fillInverses", "()V"⟩, 2) := ⟨⟨by decide +kernel, by decide +kernel⟩, List.mem_of_getElem? (i := 21) (by decide +kernel), List.mem_of_getElem? (i := 27) (by decide +kernel), List.mem_of_getElem? (i := 28) (by decide +kernel)⟩
theorem lw_p1 : lw_okq (⟨"SealedBox", "setShift", "(I)I"⟩, 12) := ⟨⟨by decide +kernel, by decide +kernel⟩, List.mem_of_getElem? (i := 13) (by decide +kernel), List.mem_of_getElem? (i := 263) (by decide +kernel), List.mem_of_getElem? (i := 264) (by decide +kernel)⟩
theorem lw_p2 : lw_okq (⟨"SealedBox", "setScale", "(I)I"⟩, 12) := ⟨⟨by decide +kernel, by decide +kernel⟩, List.mem_of_getElem? (i := 13) (by decide +kernel), List.mem_of_getElem? (i := 267) (by decide +kernel), List.mem_of_getElem? (i := 268) (by decide +kernel)⟩
theorem lw_p3 : lw_okq (⟨"SealedBox$Bases", "scaled", "(II)I"⟩, 3) := ⟨⟨by decide +kernel, by decide +kernel⟩, List.mem_of_getElem? (i := 45) (by decide +kernel), List.mem_of_getElem? (i := 295) (by decide +kernel), List.mem_of_getElem? (i := 296) (by decide +kernel)⟩
theorem lw_p4 : lw_okq (⟨"SealedBox$Bases", "shifted", "(II)I"⟩, 3) := ⟨⟨by decide +kernel, by decide +kernel⟩, List.mem_of_getElem? (i := 45) (by decide +kernel), List.mem_of_getElem? (i := 299) (by decide +kernel), List.mem_of_getElem? (i := 300) (by decide +kernel)⟩
theorem lw_p5 : lw_okq (⟨"SealedBox", "boxOf", "(I)LSealedBox$Box;"⟩, 12) := ⟨⟨by decide +kernel, by decide +kernel⟩, List.mem_of_getElem? (i := 13) (by decide +kernel), List.mem_of_getElem? (i := 322) (by decide +kernel), List.mem_of_getElem? (i := 323) (by decide +kernel)⟩
theorem lw_p6 : lw_okq (⟨"SealedBox", "arePoint", "(III)Z"⟩, 12) := ⟨⟨by decide +kernel, by decide +kernel⟩, List.mem_of_getElem? (i := 13) (by decide +kernel), List.mem_of_getElem? (i := 338) (by decide +kernel), List.mem_of_getElem? (i := 339) (by decide +kernel)⟩
theorem lw_p7 : lw_okq (⟨"SealedBox$Box", "ofTwoLetters", "(III)I"⟩, 7) := ⟨⟨by decide +kernel, by decide +kernel⟩, List.mem_of_getElem? (i := 63) (by decide +kernel), List.mem_of_getElem? (i := 346) (by decide +kernel), List.mem_of_getElem? (i := 347) (by decide +kernel)⟩
theorem lw_p8 : lw_okq (⟨"SealedBox$Register", "errorAt", "([II)I"⟩, 8) := ⟨⟨by decide +kernel, by decide +kernel⟩, List.mem_of_getElem? (i := 93) (by decide +kernel), List.mem_of_getElem? (i := 384) (by decide +kernel), List.mem_of_getElem? (i := 385) (by decide +kernel)⟩
theorem lw_p9 : lw_okq (⟨"SealedBox$Register", "addFormer", "(I)V"⟩, 8) := ⟨⟨by decide +kernel, by decide +kernel⟩, List.mem_of_getElem? (i := 93) (by decide +kernel), List.mem_of_getElem? (i := 392) (by decide +kernel), List.mem_of_getElem? (i := 393) (by decide +kernel)⟩
theorem lw_p10 : lw_okq (⟨"SealedBox$Onward", "takeWeights", "(LSealedBox$Register;)V"⟩, 5) := ⟨⟨by decide +kernel, by decide +kernel⟩, List.mem_of_getElem? (i := 128) (by decide +kernel), List.mem_of_getElem? (i := 416) (by decide +kernel), List.mem_of_getElem? (i := 417) (by decide +kernel)⟩
theorem lw_p11 : lw_okq (⟨"SealedBox$Onward", "raise", "(I)V"⟩, 5) := ⟨⟨by decide +kernel, by decide +kernel⟩, List.mem_of_getElem? (i := 128) (by decide +kernel), List.mem_of_getElem? (i := 421) (by decide +kernel), List.mem_of_getElem? (i := 422) (by decide +kernel)⟩
theorem lw_p12 : lw_okq (⟨"SealedBox$Onward", "squareInto", "(I)V"⟩, 5) := ⟨⟨by decide +kernel, by decide +kernel⟩, List.mem_of_getElem? (i := 128) (by decide +kernel), List.mem_of_getElem? (i := 425) (by decide +kernel), List.mem_of_getElem? (i := 426) (by decide +kernel)⟩
theorem lw_p13 : lw_okq (⟨"SealedBox$Onward", "reduce", "()V"⟩, 5) := ⟨⟨by decide +kernel, by decide +kernel⟩, List.mem_of_getElem? (i := 128) (by decide +kernel), List.mem_of_getElem? (i := 429) (by decide +kernel), List.mem_of_getElem? (i := 430) (by decide +kernel)⟩
theorem lw_p14 : lw_okq (⟨"SealedBox$LieSearch", "leastNumberAt", "(III)I"⟩, 4) := ⟨⟨by decide +kernel, by decide +kernel⟩, List.mem_of_getElem? (i := 150) (by decide +kernel), List.mem_of_getElem? (i := 446) (by decide +kernel), List.mem_of_getElem? (i := 447) (by decide +kernel)⟩
theorem lw_p15 : lw_okq (⟨"SealedBox$LieSearch", "staysWithin", "(III)Z"⟩, 4) := ⟨⟨by decide +kernel, by decide +kernel⟩, List.mem_of_getElem? (i := 150) (by decide +kernel), List.mem_of_getElem? (i := 450) (by decide +kernel), List.mem_of_getElem? (i := 451) (by decide +kernel)⟩
def lw_privs_1 : List (MethodName × Nat) := [(⟨"SealedBox$PrimeField", "fillInverses", "()V"⟩, 2), (⟨"SealedBox", "setShift", "(I)I"⟩, 12), (⟨"SealedBox", "setScale", "(I)I"⟩, 12), (⟨"SealedBox$Bases", "scaled", "(II)I"⟩, 3), (⟨"SealedBox$Bases", "shifted", "(II)I"⟩, 3), (⟨"SealedBox", "boxOf", "(I)LSealedBox$Box;"⟩, 12), (⟨"SealedBox", "arePoint", "(III)Z"⟩, 12), (⟨"SealedBox$Box", "ofTwoLetters", "(III)I"⟩, 7), (⟨"SealedBox$Register", "errorAt", "([II)I"⟩, 8), (⟨"SealedBox$Register", "addFormer", "(I)V"⟩, 8), (⟨"SealedBox$Onward", "takeWeights", "(LSealedBox$Register;)V"⟩, 5), (⟨"SealedBox$Onward", "raise", "(I)V"⟩, 5), (⟨"SealedBox$Onward", "squareInto", "(I)V"⟩, 5), (⟨"SealedBox$Onward", "reduce", "()V"⟩, 5), (⟨"SealedBox$LieSearch", "leastNumberAt", "(III)I"⟩, 4), (⟨"SealedBox$LieSearch", "staysWithin", "(III)Z"⟩, 4)]
theorem lw_r1 : ∀ q ∈ lw_privs_1, lw_okq q := List.forall_mem_cons.mpr ⟨lw_p0, List.forall_mem_cons.mpr ⟨lw_p1, List.forall_mem_cons.mpr ⟨lw_p2, List.forall_mem_cons.mpr ⟨lw_p3, List.forall_mem_cons.mpr ⟨lw_p4, List.forall_mem_cons.mpr ⟨lw_p5, List.forall_mem_cons.mpr ⟨lw_p6, List.forall_mem_cons.mpr ⟨lw_p7, List.forall_mem_cons.mpr ⟨lw_p8, List.forall_mem_cons.mpr ⟨lw_p9, List.forall_mem_cons.mpr ⟨lw_p10, List.forall_mem_cons.mpr ⟨lw_p11, List.forall_mem_cons.mpr ⟨lw_p12, List.forall_mem_cons.mpr ⟨lw_p13, List.forall_mem_cons.mpr ⟨lw_p14, List.forall_mem_cons.mpr ⟨lw_p15, fun _ h => absurd h List.not_mem_nil⟩⟩⟩⟩⟩⟩⟩⟩⟩⟩⟩⟩⟩⟩⟩⟩
theorem lw_p16 : lw_okq (⟨"SealedBox$Recovery", "askPowers", "(LSealedBox$Box;)V"⟩, 8) := ⟨⟨by decide +kernel, by decide +kernel⟩, List.mem_of_getElem? (i := 171) (by decide +kernel), List.mem_of_getElem? (i := 468) (by decide +kernel), List.mem_of_getElem? (i := 469) (by decide +kernel)⟩
theorem lw_p17 : lw_okq (⟨"SealedBox$Recovery", "findKeys", "()Z"⟩, 8) := ⟨⟨by decide +kernel, by decide +kernel⟩, List.mem_of_getElem? (i := 171) (by decide +kernel), List.mem_of_getElem? (i := 475) (by decide +kernel), List.mem_of_getElem? (i := 476) (by decide +kernel)⟩
theorem lw_p18 : lw_okq (⟨"SealedBox$Recovery", "isRoot", "(I)Z"⟩, 8) := ⟨⟨by decide +kernel, by decide +kernel⟩, List.mem_of_getElem? (i := 171) (by decide +kernel), List.mem_of_getElem? (i := 479) (by decide +kernel), List.mem_of_getElem? (i := 480) (by decide +kernel)⟩
theorem lw_p19 : lw_okq (⟨"SealedBox$Recovery", "addKey", "(IIII)Z"⟩, 8) := ⟨⟨by decide +kernel, by decide +kernel⟩, List.mem_of_getElem? (i := 171) (by decide +kernel), List.mem_of_getElem? (i := 485) (by decide +kernel), List.mem_of_getElem? (i := 486) (by decide +kernel)⟩
theorem lw_p20 : lw_okq (⟨"SealedBox$Recovery", "keysDiffer", "()Z"⟩, 8) := ⟨⟨by decide +kernel, by decide +kernel⟩, List.mem_of_getElem? (i := 171) (by decide +kernel), List.mem_of_getElem? (i := 489) (by decide +kernel), List.mem_of_getElem? (i := 490) (by decide +kernel)⟩
theorem lw_p21 : lw_okq (⟨"SealedBox$Recovery", "coefficient", "(I)I"⟩, 8) := ⟨⟨by decide +kernel, by decide +kernel⟩, List.mem_of_getElem? (i := 171) (by decide +kernel), List.mem_of_getElem? (i := 493) (by decide +kernel), List.mem_of_getElem? (i := 494) (by decide +kernel)⟩
theorem lw_p22 : lw_okq (⟨"SealedBox$Recovery", "multiplyOthers", "(I)V"⟩, 8) := ⟨⟨by decide +kernel, by decide +kernel⟩, List.mem_of_getElem? (i := 171) (by decide +kernel), List.mem_of_getElem? (i := 497) (by decide +kernel), List.mem_of_getElem? (i := 498) (by decide +kernel)⟩
theorem lw_p23 : lw_okq (⟨"SealedBox$Recovery", "multiplyBy", "(I)V"⟩, 8) := ⟨⟨by decide +kernel, by decide +kernel⟩, List.mem_of_getElem? (i := 171) (by decide +kernel), List.mem_of_getElem? (i := 501) (by decide +kernel), List.mem_of_getElem? (i := 502) (by decide +kernel)⟩
theorem lw_p24 : lw_okq (⟨"SealedBox$Recovery", "lastAnswerFits", "()Z"⟩, 8) := ⟨⟨by decide +kernel, by decide +kernel⟩, List.mem_of_getElem? (i := 171) (by decide +kernel), List.mem_of_getElem? (i := 508) (by decide +kernel), List.mem_of_getElem? (i := 509) (by decide +kernel)⟩
theorem lw_p25 : lw_okq (⟨"SealedBox$Box", "addToLine", "(II)V"⟩, 7) := ⟨⟨by decide +kernel, by decide +kernel⟩, List.mem_of_getElem? (i := 63) (by decide +kernel), List.mem_of_getElem? (i := 531) (by decide +kernel), List.mem_of_getElem? (i := 532) (by decide +kernel)⟩
theorem lw_p26 : lw_okq (⟨"SealedBoxModel", "isNumber", "(I)Z"⟩, 29) := ⟨⟨by decide +kernel, by decide +kernel⟩, List.mem_of_getElem? (i := 556) (by decide +kernel), List.mem_of_getElem? (i := 665) (by decide +kernel), List.mem_of_getElem? (i := 666) (by decide +kernel)⟩
theorem lw_p27 : lw_okq (⟨"SealedBoxModel", "formOf", "(III)I"⟩, 29) := ⟨⟨by decide +kernel, by decide +kernel⟩, List.mem_of_getElem? (i := 556) (by decide +kernel), List.mem_of_getElem? (i := 671) (by decide +kernel), List.mem_of_getElem? (i := 672) (by decide +kernel)⟩
theorem lw_p28 : lw_okq (⟨"SealedBoxModel", "raised", "(II)I"⟩, 29) := ⟨⟨by decide +kernel, by decide +kernel⟩, List.mem_of_getElem? (i := 556) (by decide +kernel), List.mem_of_getElem? (i := 675) (by decide +kernel), List.mem_of_getElem? (i := 676) (by decide +kernel)⟩
theorem lw_p29 : lw_okq (⟨"SealedBoxModel", "answer", "(IIII)I"⟩, 29) := ⟨⟨by decide +kernel, by decide +kernel⟩, List.mem_of_getElem? (i := 556) (by decide +kernel), List.mem_of_getElem? (i := 694) (by decide +kernel), List.mem_of_getElem? (i := 695) (by decide +kernel)⟩
theorem lw_p30 : lw_okq (⟨"SealedBoxModel", "take", "()V"⟩, 29) := ⟨⟨by decide +kernel, by decide +kernel⟩, List.mem_of_getElem? (i := 556) (by decide +kernel), List.mem_of_getElem? (i := 714) (by decide +kernel), List.mem_of_getElem? (i := 715) (by decide +kernel)⟩
theorem lw_p31 : lw_okq (⟨"SealedBoxModel", "grow", "(II)V"⟩, 29) := ⟨⟨by decide +kernel, by decide +kernel⟩, List.mem_of_getElem? (i := 556) (by decide +kernel), List.mem_of_getElem? (i := 718) (by decide +kernel), List.mem_of_getElem? (i := 719) (by decide +kernel)⟩
def lw_privs_2 : List (MethodName × Nat) := [(⟨"SealedBox$Recovery", "askPowers", "(LSealedBox$Box;)V"⟩, 8), (⟨"SealedBox$Recovery", "findKeys", "()Z"⟩, 8), (⟨"SealedBox$Recovery", "isRoot", "(I)Z"⟩, 8), (⟨"SealedBox$Recovery", "addKey", "(IIII)Z"⟩, 8), (⟨"SealedBox$Recovery", "keysDiffer", "()Z"⟩, 8), (⟨"SealedBox$Recovery", "coefficient", "(I)I"⟩, 8), (⟨"SealedBox$Recovery", "multiplyOthers", "(I)V"⟩, 8), (⟨"SealedBox$Recovery", "multiplyBy", "(I)V"⟩, 8), (⟨"SealedBox$Recovery", "lastAnswerFits", "()Z"⟩, 8), (⟨"SealedBox$Box", "addToLine", "(II)V"⟩, 7), (⟨"SealedBoxModel", "isNumber", "(I)Z"⟩, 29), (⟨"SealedBoxModel", "formOf", "(III)I"⟩, 29), (⟨"SealedBoxModel", "raised", "(II)I"⟩, 29), (⟨"SealedBoxModel", "answer", "(IIII)I"⟩, 29), (⟨"SealedBoxModel", "take", "()V"⟩, 29), (⟨"SealedBoxModel", "grow", "(II)V"⟩, 29)]
theorem lw_r2 : ∀ q ∈ lw_privs_2, lw_okq q := List.forall_mem_cons.mpr ⟨lw_p16, List.forall_mem_cons.mpr ⟨lw_p17, List.forall_mem_cons.mpr ⟨lw_p18, List.forall_mem_cons.mpr ⟨lw_p19, List.forall_mem_cons.mpr ⟨lw_p20, List.forall_mem_cons.mpr ⟨lw_p21, List.forall_mem_cons.mpr ⟨lw_p22, List.forall_mem_cons.mpr ⟨lw_p23, List.forall_mem_cons.mpr ⟨lw_p24, List.forall_mem_cons.mpr ⟨lw_p25, List.forall_mem_cons.mpr ⟨lw_p26, List.forall_mem_cons.mpr ⟨lw_p27, List.forall_mem_cons.mpr ⟨lw_p28, List.forall_mem_cons.mpr ⟨lw_p29, List.forall_mem_cons.mpr ⟨lw_p30, List.forall_mem_cons.mpr ⟨lw_p31, fun _ h => absurd h List.not_mem_nil⟩⟩⟩⟩⟩⟩⟩⟩⟩⟩⟩⟩⟩⟩⟩⟩
theorem lw_p32 : lw_okq (⟨"SealedBoxModel", "over", "(I)I"⟩, 29) := ⟨⟨by decide +kernel, by decide +kernel⟩, List.mem_of_getElem? (i := 556) (by decide +kernel), List.mem_of_getElem? (i := 722) (by decide +kernel), List.mem_of_getElem? (i := 723) (by decide +kernel)⟩
theorem lw_p33 : lw_okq (⟨"SealedBoxModel", "g", "(I)I"⟩, 29) := ⟨⟨by decide +kernel, by decide +kernel⟩, List.mem_of_getElem? (i := 556) (by decide +kernel), List.mem_of_getElem? (i := 726) (by decide +kernel), List.mem_of_getElem? (i := 727) (by decide +kernel)⟩
theorem lw_p34 : lw_okq (⟨"SealedBoxModel", "product", "(Z)V"⟩, 29) := ⟨⟨by decide +kernel, by decide +kernel⟩, List.mem_of_getElem? (i := 556) (by decide +kernel), List.mem_of_getElem? (i := 735) (by decide +kernel), List.mem_of_getElem? (i := 736) (by decide +kernel)⟩
theorem lw_p35 : lw_okq (⟨"SealedBoxModel", "getBack", "(I)Z"⟩, 29) := ⟨⟨by decide +kernel, by decide +kernel⟩, List.mem_of_getElem? (i := 556) (by decide +kernel), List.mem_of_getElem? (i := 748) (by decide +kernel), List.mem_of_getElem? (i := 749) (by decide +kernel)⟩
theorem lw_p36 : lw_okq (⟨"SealedBoxModel", "isRoot", "(I)Z"⟩, 29) := ⟨⟨by decide +kernel, by decide +kernel⟩, List.mem_of_getElem? (i := 556) (by decide +kernel), List.mem_of_getElem? (i := 752) (by decide +kernel), List.mem_of_getElem? (i := 753) (by decide +kernel)⟩
theorem lw_p37 : lw_okq (⟨"SealedBoxModel", "solve", "()V"⟩, 29) := ⟨⟨by decide +kernel, by decide +kernel⟩, List.mem_of_getElem? (i := 556) (by decide +kernel), List.mem_of_getElem? (i := 756) (by decide +kernel), List.mem_of_getElem? (i := 757) (by decide +kernel)⟩
theorem lw_p38 : lw_okq (⟨"SealedBoxModel", "told", "(I)I"⟩, 29) := ⟨⟨by decide +kernel, by decide +kernel⟩, List.mem_of_getElem? (i := 556) (by decide +kernel), List.mem_of_getElem? (i := 760) (by decide +kernel), List.mem_of_getElem? (i := 761) (by decide +kernel)⟩
def lw_privs_3 : List (MethodName × Nat) := [(⟨"SealedBoxModel", "over", "(I)I"⟩, 29), (⟨"SealedBoxModel", "g", "(I)I"⟩, 29), (⟨"SealedBoxModel", "product", "(Z)V"⟩, 29), (⟨"SealedBoxModel", "getBack", "(I)Z"⟩, 29), (⟨"SealedBoxModel", "isRoot", "(I)Z"⟩, 29), (⟨"SealedBoxModel", "solve", "()V"⟩, 29), (⟨"SealedBoxModel", "told", "(I)I"⟩, 29)]
theorem lw_r3 : ∀ q ∈ lw_privs_3, lw_okq q := List.forall_mem_cons.mpr ⟨lw_p32, List.forall_mem_cons.mpr ⟨lw_p33, List.forall_mem_cons.mpr ⟨lw_p34, List.forall_mem_cons.mpr ⟨lw_p35, List.forall_mem_cons.mpr ⟨lw_p36, List.forall_mem_cons.mpr ⟨lw_p37, List.forall_mem_cons.mpr ⟨lw_p38, fun _ h => absurd h List.not_mem_nil⟩⟩⟩⟩⟩⟩⟩
def lw_privs : List (MethodName × Nat) := lw_privs_1 ++ (lw_privs_2 ++ (lw_privs_3))
def lw_tbl : List Cond := k2_sels lw_privs ++ tables_1
theorem lw_privs_ok : ∀ q ∈ lw_privs, lw_okq q := by
  show ∀ q ∈ lw_privs_1 ++ (lw_privs_2 ++ (lw_privs_3)), lw_okq q
  exact List.forall_mem_append.mpr ⟨lw_r1, List.forall_mem_append.mpr ⟨lw_r2, lw_r3⟩⟩
end
section
/-! ===== BEGIN words of one list among another's, by their places ===== -/
theorem goodIn_r {big : List Cond} (ws : List Cond) (ps : List Nat) (hp : ws = ps.filterMap (fun i => big[i]?)) (h : ws.all goodWord = true) : GoodIn big ws := by
  intro w hw
  have h1 := List.all_eq_true.mp h w hw
  rw [hp] at hw
  obtain ⟨i, -, hi⟩ := List.mem_filterMap.mp hw
  have hm : w ∈ big := by first | exact List.mem_of_getElem? hi | exact List.getElem?_mem hi
  exact ⟨hm, good_of_word h1⟩
theorem goodIn_app {big a b : List Cond} (ha : GoodIn big a) (hb : GoodIn big b) : GoodIn big (a ++ b) := fun w h => (List.mem_append.mp h).elim (ha w) (hb w)
theorem goodIn_ca {big a b : List Cond} {c : Cond} (ha : GoodIn big (c :: a)) (hb : GoodIn big b) : GoodIn big (c :: (a ++ b)) := fun w h => (List.mem_cons.mp h).elim (fun e => ha w (List.mem_cons.mpr (Or.inl e))) (fun h => (List.mem_append.mp h).elim (fun h => ha w (List.mem_cons.mpr (Or.inr h))) (hb w))
theorem goodIn_sub {big ws : List Cond} (hm : ∀ w ∈ ws, w ∈ big) (h : ws.all goodWord = true) : GoodIn big ws := fun w hw => ⟨hm w hw, good_of_word (List.all_eq_true.mp h w hw)⟩
/-! ===== END ===== -/

/-! ===== BEGIN printed: names, fields, word lists, decode rows ===== -/
def RX0 : String := "SealedBox$Bases"
def TX0 : u_T := fun k => match k with
  | 0 => ("SealedBox$Bases", "numbers", "LSealedBox$PrimeField;", true)
  | 1 => ("SealedBox$Bases", "shift", "I", false)
  | _ => ("SealedBox$Bases", "scale", "I", false)
def tyX0 : Nat → FieldType := fun k => match k with
  | 0 => .object "SealedBox$PrimeField"
  | 1 => .int
  | _ => .int
abbrev wsX00 : List Cond := u_ws RX0 TX0 3
theorem nmX0 : ∀ a, a < 3 → ∀ b, b < 3 → a ≠ b → (TX0 a).2.1 ≠ (TX0 b).2.1 := by decide +kernel
theorem tyX0_ok : ∀ k, k < 3 → parseFieldDescriptor (TX0 k).2.2.1 = some (tyX0 k) := by decide +kernel
abbrev cX0_init : ByteArray := prog_2_method_1_code
def yX0_init : MethodName := ⟨RX0, "<init>", "(LSealedBox$PrimeField;)V"⟩
abbrev cX0_letter : ByteArray := prog_2_method_2_code
def yX0_letter : MethodName := ⟨RX0, "letter", "(III)I"⟩
abbrev cX0_shifted : ByteArray := prog_2_method_3_code
def yX0_shifted : MethodName := ⟨RX0, "shifted", "(II)I"⟩
abbrev cX0_scaled : ByteArray := prog_2_method_4_code
def yX0_scaled : MethodName := ⟨RX0, "scaled", "(II)I"⟩
abbrev cX0_bodiesAsked : ByteArray := prog_2_method_5_code
def yX0_bodiesAsked : MethodName := ⟨RX0, "bodiesAsked", "(I)I"⟩
def RX1 : String := "SealedBox$Box"
def TX1 : u_T := fun k => match k with
  | 0 => ("SealedBox$Box", "numbers", "LSealedBox$PrimeField;", true)
  | 1 => ("SealedBox$Box", "bases", "LSealedBox$Bases;", true)
  | 2 => ("SealedBox$Box", "parts", "[I", true)
  | 3 => ("SealedBox$Box", "lineForms", "[I", true)
  | 4 => ("SealedBox$Box", "line", "[I", true)
  | 5 => ("SealedBox$Box", "kind", "I", false)
  | _ => ("SealedBox$Box", "terms", "I", false)
def tyX1 : Nat → FieldType := fun k => match k with
  | 0 => .object "SealedBox$PrimeField"
  | 1 => .object "SealedBox$Bases"
  | 2 => .array .int
  | 3 => .array .int
  | 4 => .array .int
  | 5 => .int
  | _ => .int
abbrev wsX10 : List Cond := u_ws RX1 TX1 7
theorem nmX1 : ∀ a, a < 7 → ∀ b, b < 7 → a ≠ b → (TX1 a).2.1 ≠ (TX1 b).2.1 := by decide +kernel
theorem tyX1_ok : ∀ k, k < 7 → parseFieldDescriptor (TX1 k).2.2.1 = some (tyX1 k) := by decide +kernel
abbrev cX1_init : ByteArray := prog_3_method_1_code
def yX1_init : MethodName := ⟨RX1, "<init>", "(LSealedBox$PrimeField;LSealedBox$Bases;)V"⟩
abbrev cX1_drop : ByteArray := prog_3_method_2_code
def yX1_drop : MethodName := ⟨RX1, "drop", "()V"⟩
abbrev cX1_add : ByteArray := prog_3_method_3_code
def yX1_add : MethodName := ⟨RX1, "add", "(IIII)Z"⟩
abbrev cX1_part : ByteArray := prog_3_method_4_code
def yX1_part : MethodName := ⟨RX1, "part", "(II)I"⟩
abbrev cX1_answer : ByteArray := prog_3_method_5_code
def yX1_answer : MethodName := ⟨RX1, "answer", "(III)I"⟩
abbrev cX1_ofTwoLetters : ByteArray := prog_3_method_6_code
def yX1_ofTwoLetters : MethodName := ⟨RX1, "ofTwoLetters", "(III)I"⟩
abbrev cX1_readyLines : ByteArray := prog_3_method_7_code
def yX1_readyLines : MethodName := ⟨RX1, "readyLines", "()V"⟩
abbrev cX1_answerLine : ByteArray := prog_3_method_8_code
def yX1_answerLine : MethodName := ⟨RX1, "answerLine", "(II)V"⟩
abbrev cX1_addToLine : ByteArray := prog_3_method_9_code
def yX1_addToLine : MethodName := ⟨RX1, "addToLine", "(II)V"⟩
abbrev cX1_zerosInLine : ByteArray := prog_3_method_10_code
def yX1_zerosInLine : MethodName := ⟨RX1, "zerosInLine", "()I"⟩
abbrev cX1_alikeInLine : ByteArray := prog_3_method_11_code
def yX1_alikeInLine : MethodName := ⟨RX1, "alikeInLine", "(LSealedBox$Box;)I"⟩
def RX2 : String := "SealedBox$LieSearch"
def TX2 : u_T := fun k => match k with
  | 0 => ("SealedBox$LieSearch", "numbers", "LSealedBox$PrimeField;", true)
  | 1 => ("SealedBox$LieSearch", "ahead", "LSealedBox$Register;", true)
  | 2 => ("SealedBox$LieSearch", "trial", "LSealedBox$Register;", true)
  | _ => ("SealedBox$LieSearch", "mended", "[I", true)
def tyX2 : Nat → FieldType := fun k => match k with
  | 0 => .object "SealedBox$PrimeField"
  | 1 => .object "SealedBox$Register"
  | 2 => .object "SealedBox$Register"
  | _ => .array .int
abbrev wsX20 : List Cond := u_ws RX2 TX2 4
theorem nmX2 : ∀ a, a < 4 → ∀ b, b < 4 → a ≠ b → (TX2 a).2.1 ≠ (TX2 b).2.1 := by decide +kernel
theorem tyX2_ok : ∀ k, k < 4 → parseFieldDescriptor (TX2 k).2.2.1 = some (tyX2 k) := by decide +kernel
abbrev cX2_init : ByteArray := prog_4_method_1_code
def yX2_init : MethodName := ⟨RX2, "<init>", "(LSealedBox$PrimeField;)V"⟩
abbrev cX2_leastMending : ByteArray := prog_4_method_2_code
def yX2_leastMending : MethodName := ⟨RX2, "leastMending", "([III)I"⟩
abbrev cX2_leastNumberAt : ByteArray := prog_4_method_3_code
def yX2_leastNumberAt : MethodName := ⟨RX2, "leastNumberAt", "(III)I"⟩
abbrev cX2_staysWithin : ByteArray := prog_4_method_4_code
def yX2_staysWithin : MethodName := ⟨RX2, "staysWithin", "(III)Z"⟩
def RX3 : String := "SealedBox$Onward"
def TX3 : u_T := fun k => match k with
  | 0 => ("SealedBox$Onward", "numbers", "LSealedBox$PrimeField;", true)
  | 1 => ("SealedBox$Onward", "weights", "[I", true)
  | 2 => ("SealedBox$Onward", "rest", "[I", true)
  | 3 => ("SealedBox$Onward", "product", "[I", true)
  | _ => ("SealedBox$Onward", "length", "I", false)
def tyX3 : Nat → FieldType := fun k => match k with
  | 0 => .object "SealedBox$PrimeField"
  | 1 => .array .int
  | 2 => .array .int
  | 3 => .array .int
  | _ => .int
abbrev wsX30 : List Cond := u_ws RX3 TX3 5
theorem nmX3 : ∀ a, a < 5 → ∀ b, b < 5 → a ≠ b → (TX3 a).2.1 ≠ (TX3 b).2.1 := by decide +kernel
theorem tyX3_ok : ∀ k, k < 5 → parseFieldDescriptor (TX3 k).2.2.1 = some (tyX3 k) := by decide +kernel
abbrev cX3_init : ByteArray := prog_5_method_1_code
def yX3_init : MethodName := ⟨RX3, "<init>", "(LSealedBox$PrimeField;)V"⟩
abbrev cX3_numberAt : ByteArray := prog_5_method_2_code
def yX3_numberAt : MethodName := ⟨RX3, "numberAt", "(ILSealedBox$Register;[I)I"⟩
abbrev cX3_takeWeights : ByteArray := prog_5_method_3_code
def yX3_takeWeights : MethodName := ⟨RX3, "takeWeights", "(LSealedBox$Register;)V"⟩
abbrev cX3_raise : ByteArray := prog_5_method_4_code
def yX3_raise : MethodName := ⟨RX3, "raise", "(I)V"⟩
abbrev cX3_squareInto : ByteArray := prog_5_method_5_code
def yX3_squareInto : MethodName := ⟨RX3, "squareInto", "(I)V"⟩
abbrev cX3_reduce : ByteArray := prog_5_method_6_code
def yX3_reduce : MethodName := ⟨RX3, "reduce", "()V"⟩
def RX4 : String := "SealedBox$PrimeField"
def TX4 : u_T := fun k => match k with
  | 0 => ("SealedBox$PrimeField", "inverses", "[I", true)
  | _ => ("SealedBox$PrimeField", "p", "I", false)
def tyX4 : Nat → FieldType := fun k => match k with
  | 0 => .array .int
  | _ => .int
abbrev wsX40 : List Cond := u_ws RX4 TX4 2
theorem nmX4 : ∀ a, a < 2 → ∀ b, b < 2 → a ≠ b → (TX4 a).2.1 ≠ (TX4 b).2.1 := by decide +kernel
theorem tyX4_ok : ∀ k, k < 2 → parseFieldDescriptor (TX4 k).2.2.1 = some (tyX4 k) := by decide +kernel
abbrev cX4_init : ByteArray := prog_6_method_1_code
def yX4_init : MethodName := ⟨RX4, "<init>", "()V"⟩
abbrev cX4_become : ByteArray := prog_6_method_2_code
def yX4_become : MethodName := ⟨RX4, "become", "(I)Z"⟩
abbrev cX4_isPrime : ByteArray := prog_6_method_3_code
def yX4_isPrime : MethodName := ⟨RX4, "isPrime", "(I)Z"⟩
abbrev cX4_fillInverses : ByteArray := prog_6_method_4_code
def yX4_fillInverses : MethodName := ⟨RX4, "fillInverses", "()V"⟩
abbrev cX4_has : ByteArray := prog_6_method_5_code
def yX4_has : MethodName := ⟨RX4, "has", "(I)Z"⟩
abbrev cX4_times : ByteArray := prog_6_method_6_code
def yX4_times : MethodName := ⟨RX4, "times", "(II)I"⟩
abbrev cX4_plus : ByteArray := prog_6_method_7_code
def yX4_plus : MethodName := ⟨RX4, "plus", "(II)I"⟩
abbrev cX4_less : ByteArray := prog_6_method_8_code
def yX4_less : MethodName := ⟨RX4, "less", "(II)I"⟩
abbrev cX4_over : ByteArray := prog_6_method_9_code
def yX4_over : MethodName := ⟨RX4, "over", "(II)I"⟩
abbrev cX4_power : ByteArray := prog_6_method_10_code
def yX4_power : MethodName := ⟨RX4, "power", "(II)I"⟩
def RX5 : String := "SealedBox$Recovery"
def TX5 : u_T := fun k => match k with
  | 0 => ("SealedBox$Recovery", "numbers", "LSealedBox$PrimeField;", true)
  | 1 => ("SealedBox$Recovery", "register", "LSealedBox$Register;", true)
  | 2 => ("SealedBox$Recovery", "found", "LSealedBox$Box;", true)
  | 3 => ("SealedBox$Recovery", "answers", "[I", true)
  | 4 => ("SealedBox$Recovery", "keyNumbers", "[I", true)
  | 5 => ("SealedBox$Recovery", "keyExponents", "[I", true)
  | 6 => ("SealedBox$Recovery", "others", "[I", true)
  | _ => ("SealedBox$Recovery", "keys", "I", false)
def tyX5 : Nat → FieldType := fun k => match k with
  | 0 => .object "SealedBox$PrimeField"
  | 1 => .object "SealedBox$Register"
  | 2 => .object "SealedBox$Box"
  | 3 => .array .int
  | 4 => .array .int
  | 5 => .array .int
  | 6 => .array .int
  | _ => .int
abbrev wsX50 : List Cond := u_ws RX5 TX5 8
theorem nmX5 : ∀ a, a < 8 → ∀ b, b < 8 → a ≠ b → (TX5 a).2.1 ≠ (TX5 b).2.1 := by decide +kernel
theorem tyX5_ok : ∀ k, k < 8 → parseFieldDescriptor (TX5 k).2.2.1 = some (tyX5 k) := by decide +kernel
abbrev cX5_init : ByteArray := prog_7_method_1_code
def yX5_init : MethodName := ⟨RX5, "<init>", "(LSealedBox$PrimeField;LSealedBox$Bases;)V"⟩
abbrev cX5_recover : ByteArray := prog_7_method_2_code
def yX5_recover : MethodName := ⟨RX5, "recover", "(LSealedBox$Box;)Z"⟩
abbrev cX5_askPowers : ByteArray := prog_7_method_3_code
def yX5_askPowers : MethodName := ⟨RX5, "askPowers", "(LSealedBox$Box;)V"⟩
abbrev cX5_findKeys : ByteArray := prog_7_method_4_code
def yX5_findKeys : MethodName := ⟨RX5, "findKeys", "()Z"⟩
abbrev cX5_isRoot : ByteArray := prog_7_method_5_code
def yX5_isRoot : MethodName := ⟨RX5, "isRoot", "(I)Z"⟩
abbrev cX5_addKey : ByteArray := prog_7_method_6_code
def yX5_addKey : MethodName := ⟨RX5, "addKey", "(IIII)Z"⟩
abbrev cX5_keysDiffer : ByteArray := prog_7_method_7_code
def yX5_keysDiffer : MethodName := ⟨RX5, "keysDiffer", "()Z"⟩
abbrev cX5_coefficient : ByteArray := prog_7_method_8_code
def yX5_coefficient : MethodName := ⟨RX5, "coefficient", "(I)I"⟩
abbrev cX5_multiplyOthers : ByteArray := prog_7_method_9_code
def yX5_multiplyOthers : MethodName := ⟨RX5, "multiplyOthers", "(I)V"⟩
abbrev cX5_multiplyBy : ByteArray := prog_7_method_10_code
def yX5_multiplyBy : MethodName := ⟨RX5, "multiplyBy", "(I)V"⟩
abbrev cX5_lastAnswerFits : ByteArray := prog_7_method_11_code
def yX5_lastAnswerFits : MethodName := ⟨RX5, "lastAnswerFits", "()Z"⟩
def RX6 : String := "SealedBox$Register"
def TX6 : u_T := fun k => match k with
  | 0 => ("SealedBox$Register", "numbers", "LSealedBox$PrimeField;", true)
  | 1 => ("SealedBox$Register", "now", "[I", false)
  | 2 => ("SealedBox$Register", "former", "[I", false)
  | 3 => ("SealedBox$Register", "spare", "[I", false)
  | 4 => ("SealedBox$Register", "length", "I", false)
  | 5 => ("SealedBox$Register", "formerLength", "I", false)
  | 6 => ("SealedBox$Register", "formerError", "I", false)
  | _ => ("SealedBox$Register", "moved", "I", false)
def tyX6 : Nat → FieldType := fun k => match k with
  | 0 => .object "SealedBox$PrimeField"
  | 1 => .array .int
  | 2 => .array .int
  | 3 => .array .int
  | 4 => .int
  | 5 => .int
  | 6 => .int
  | _ => .int
abbrev wsX60 : List Cond := u_ws RX6 TX6 8
theorem nmX6 : ∀ a, a < 8 → ∀ b, b < 8 → a ≠ b → (TX6 a).2.1 ≠ (TX6 b).2.1 := by decide +kernel
theorem tyX6_ok : ∀ k, k < 8 → parseFieldDescriptor (TX6 k).2.2.1 = some (tyX6 k) := by decide +kernel
abbrev cX6_init : ByteArray := prog_8_method_1_code
def yX6_init : MethodName := ⟨RX6, "<init>", "(LSealedBox$PrimeField;)V"⟩
abbrev cX6_read : ByteArray := prog_8_method_2_code
def yX6_read : MethodName := ⟨RX6, "read", "([II)V"⟩
abbrev cX6_begin : ByteArray := prog_8_method_3_code
def yX6_begin : MethodName := ⟨RX6, "begin", "()V"⟩
abbrev cX6_copyOf : ByteArray := prog_8_method_4_code
def yX6_copyOf : MethodName := ⟨RX6, "copyOf", "(LSealedBox$Register;)V"⟩
abbrev cX6_take : ByteArray := prog_8_method_5_code
def yX6_take : MethodName := ⟨RX6, "take", "([II)V"⟩
abbrev cX6_errorAt : ByteArray := prog_8_method_6_code
def yX6_errorAt : MethodName := ⟨RX6, "errorAt", "([II)I"⟩
abbrev cX6_addFormer : ByteArray := prog_8_method_7_code
def yX6_addFormer : MethodName := ⟨RX6, "addFormer", "(I)V"⟩
abbrev cX6_weight : ByteArray := prog_8_method_8_code
def yX6_weight : MethodName := ⟨RX6, "weight", "(I)I"⟩
def RX7 : String := "SealedBox"
def TX7 : u_T := fun k => match k with
  | 0 => ("SealedBox", "numbers", "LSealedBox$PrimeField;", true)
  | 1 => ("SealedBox", "bases", "LSealedBox$Bases;", true)
  | 2 => ("SealedBox", "first", "LSealedBox$Box;", true)
  | 3 => ("SealedBox", "second", "LSealedBox$Box;", true)
  | 4 => ("SealedBox", "row", "[I", true)
  | 5 => ("SealedBox", "shortest", "LSealedBox$Register;", true)
  | 6 => ("SealedBox", "onward", "LSealedBox$Onward;", true)
  | 7 => ("SealedBox", "lies", "LSealedBox$LieSearch;", true)
  | 8 => ("SealedBox", "recovery", "LSealedBox$Recovery;", true)
  | 9 => ("SealedBox", "rowLength", "I", false)
  | 10 => ("SealedBox", "asks", "I", false)
  | _ => ("SealedBox", "traced", "J", false)
def tyX7 : Nat → FieldType := fun k => match k with
  | 0 => .object "SealedBox$PrimeField"
  | 1 => .object "SealedBox$Bases"
  | 2 => .object "SealedBox$Box"
  | 3 => .object "SealedBox$Box"
  | 4 => .array .int
  | 5 => .object "SealedBox$Register"
  | 6 => .object "SealedBox$Onward"
  | 7 => .object "SealedBox$LieSearch"
  | 8 => .object "SealedBox$Recovery"
  | 9 => .int
  | 10 => .int
  | _ => .long
abbrev wsX70 : List Cond := u_ws RX7 TX7 12
theorem nmX7 : ∀ a, a < 12 → ∀ b, b < 12 → a ≠ b → (TX7 a).2.1 ≠ (TX7 b).2.1 := by decide +kernel
theorem tyX7_ok : ∀ k, k < 12 → parseFieldDescriptor (TX7 k).2.2.1 = some (tyX7 k) := by decide +kernel
abbrev cX7_init : ByteArray := prog_1_method_1_code
def yX7_init : MethodName := ⟨RX7, "<init>", "()V"⟩
abbrev cX7_field : ByteArray := prog_1_method_2_code
def yX7_field : MethodName := ⟨RX7, "field", "(I)I"⟩
abbrev cX7_set : ByteArray := prog_1_method_3_code
def yX7_set : MethodName := ⟨RX7, "set", "(II)I"⟩
abbrev cX7_setShift : ByteArray := prog_1_method_4_code
def yX7_setShift : MethodName := ⟨RX7, "setShift", "(I)I"⟩
abbrev cX7_setScale : ByteArray := prog_1_method_5_code
def yX7_setScale : MethodName := ⟨RX7, "setScale", "(I)I"⟩
abbrev cX7_setKind : ByteArray := prog_1_method_6_code
def yX7_setKind : MethodName := ⟨RX7, "setKind", "(LSealedBox$Box;I)I"⟩
abbrev cX7_form : ByteArray := prog_1_method_7_code
def yX7_form : MethodName := ⟨RX7, "form", "(III)I"⟩
abbrev cX7_term : ByteArray := prog_1_method_8_code
def yX7_term : MethodName := ⟨RX7, "term", "(IIIII)I"⟩
abbrev cX7_empty : ByteArray := prog_1_method_9_code
def yX7_empty : MethodName := ⟨RX7, "empty", "(I)I"⟩
abbrev cX7_ask : ByteArray := prog_1_method_10_code
def yX7_ask : MethodName := ⟨RX7, "ask", "(IIII)I"⟩
abbrev cX7_say : ByteArray := prog_1_method_11_code
def yX7_say : MethodName := ⟨RX7, "say", "(I)I"⟩
abbrev cX7_change : ByteArray := prog_1_method_12_code
def yX7_change : MethodName := ⟨RX7, "change", "(II)I"⟩
abbrev cX7_clear : ByteArray := prog_1_method_13_code
def yX7_clear : MethodName := ⟨RX7, "clear", "()I"⟩
abbrev cX7_register : ByteArray := prog_1_method_14_code
def yX7_register : MethodName := ⟨RX7, "register", "(I)I"⟩
abbrev cX7_far : ByteArray := prog_1_method_15_code
def yX7_far : MethodName := ⟨RX7, "far", "(I)I"⟩
abbrev cX7_lie : ByteArray := prog_1_method_16_code
def yX7_lie : MethodName := ⟨RX7, "lie", "(I)I"⟩
abbrev cX7_got : ByteArray := prog_1_method_17_code
def yX7_got : MethodName := ⟨RX7, "got", "(III)I"⟩
abbrev cX7_right : ByteArray := prog_1_method_18_code
def yX7_right : MethodName := ⟨RX7, "right", "(IIII)I"⟩
abbrev cX7_zeros : ByteArray := prog_1_method_19_code
def yX7_zeros : MethodName := ⟨RX7, "zeros", "(I)I"⟩
abbrev cX7_meet : ByteArray := prog_1_method_20_code
def yX7_meet : MethodName := ⟨RX7, "meet", "()I"⟩
abbrev cX7_count : ByteArray := prog_1_method_21_code
def yX7_count : MethodName := ⟨RX7, "count", "(I)I"⟩
abbrev cX7_trace : ByteArray := prog_1_method_22_code
def yX7_trace : MethodName := ⟨RX7, "trace", "()J"⟩
abbrev cX7_isBox : ByteArray := prog_1_method_23_code
def yX7_isBox : MethodName := ⟨RX7, "isBox", "(I)Z"⟩
abbrev cX7_boxOf : ByteArray := prog_1_method_24_code
def yX7_boxOf : MethodName := ⟨RX7, "boxOf", "(I)LSealedBox$Box;"⟩
abbrev cX7_isKind : ByteArray := prog_1_method_25_code
def yX7_isKind : MethodName := ⟨RX7, "isKind", "(I)Z"⟩
abbrev cX7_isExponent : ByteArray := prog_1_method_26_code
def yX7_isExponent : MethodName := ⟨RX7, "isExponent", "(I)Z"⟩
abbrev cX7_arePoint : ByteArray := prog_1_method_27_code
def yX7_arePoint : MethodName := ⟨RX7, "arePoint", "(III)Z"⟩
def RX8 : String := "SealedBoxModel"
def TX8 : u_T := fun k => match k with
  | 0 => ("SealedBoxModel", "p", "I", false)
  | 1 => ("SealedBoxModel", "shift", "I", false)
  | 2 => ("SealedBoxModel", "scale", "I", false)
  | 3 => ("SealedBoxModel", "kind", "[I", true)
  | 4 => ("SealedBoxModel", "terms", "[I", true)
  | 5 => ("SealedBoxModel", "coefficient", "[I", true)
  | 6 => ("SealedBoxModel", "ofX", "[I", true)
  | 7 => ("SealedBoxModel", "ofY", "[I", true)
  | 8 => ("SealedBoxModel", "ofZ", "[I", true)
  | 9 => ("SealedBoxModel", "said", "I", false)
  | 10 => ("SealedBoxModel", "row", "[I", true)
  | 11 => ("SealedBoxModel", "asks", "I", false)
  | 12 => ("SealedBoxModel", "trace", "J", false)
  | 13 => ("SealedBoxModel", "look", "[I", true)
  | 14 => ("SealedBoxModel", "length", "I", false)
  | 15 => ("SealedBoxModel", "c", "[I", true)
  | 16 => ("SealedBoxModel", "former", "[I", true)
  | 17 => ("SealedBoxModel", "kept", "[I", true)
  | 18 => ("SealedBoxModel", "now", "[I", true)
  | 19 => ("SealedBoxModel", "base", "[I", true)
  | 20 => ("SealedBoxModel", "wide", "[I", true)
  | 21 => ("SealedBoxModel", "answers", "[I", true)
  | 22 => ("SealedBoxModel", "keys", "I", false)
  | 23 => ("SealedBoxModel", "keyX", "[I", true)
  | 24 => ("SealedBoxModel", "keyY", "[I", true)
  | 25 => ("SealedBoxModel", "keyZ", "[I", true)
  | 26 => ("SealedBoxModel", "keyNumber", "[I", true)
  | 27 => ("SealedBoxModel", "keyCoefficient", "[I", true)
  | _ => ("SealedBoxModel", "line", "[I", true)
def tyX8 : Nat → FieldType := fun k => match k with
  | 0 => .int
  | 1 => .int
  | 2 => .int
  | 3 => .array .int
  | 4 => .array .int
  | 5 => .array .int
  | 6 => .array .int
  | 7 => .array .int
  | 8 => .array .int
  | 9 => .int
  | 10 => .array .int
  | 11 => .int
  | 12 => .long
  | 13 => .array .int
  | 14 => .int
  | 15 => .array .int
  | 16 => .array .int
  | 17 => .array .int
  | 18 => .array .int
  | 19 => .array .int
  | 20 => .array .int
  | 21 => .array .int
  | 22 => .int
  | 23 => .array .int
  | 24 => .array .int
  | 25 => .array .int
  | 26 => .array .int
  | 27 => .array .int
  | _ => .array .int
abbrev wsX80 : List Cond := u_ws RX8 TX8 29
theorem nmX8 : ∀ a, a < 29 → ∀ b, b < 29 → a ≠ b → (TX8 a).2.1 ≠ (TX8 b).2.1 := by decide +kernel
theorem tyX8_ok : ∀ k, k < 29 → parseFieldDescriptor (TX8 k).2.2.1 = some (tyX8 k) := by decide +kernel
abbrev cX8_init : ByteArray := prog_10_method_1_code
def yX8_init : MethodName := ⟨RX8, "<init>", "()V"⟩
abbrev cX8_in : ByteArray := prog_10_method_3_code
def yX8_in : MethodName := ⟨RX8, "in", "(III)Z"⟩
abbrev cX8_isNumber : ByteArray := prog_10_method_4_code
def yX8_isNumber : MethodName := ⟨RX8, "isNumber", "(I)Z"⟩
abbrev cX8_isBox : ByteArray := prog_10_method_5_code
def yX8_isBox : MethodName := ⟨RX8, "isBox", "(I)Z"⟩
abbrev cX8_field : ByteArray := prog_10_method_6_code
def yX8_field : MethodName := ⟨RX8, "field", "(I)I"⟩
abbrev cX8_set : ByteArray := prog_10_method_7_code
def yX8_set : MethodName := ⟨RX8, "set", "(II)I"⟩
abbrev cX8_raised : ByteArray := prog_10_method_8_code
def yX8_raised : MethodName := ⟨RX8, "raised", "(II)I"⟩
abbrev cX8_formOf : ByteArray := prog_10_method_9_code
def yX8_formOf : MethodName := ⟨RX8, "formOf", "(III)I"⟩
abbrev cX8_form : ByteArray := prog_10_method_10_code
def yX8_form : MethodName := ⟨RX8, "form", "(III)I"⟩
abbrev cX8_term : ByteArray := prog_10_method_11_code
def yX8_term : MethodName := ⟨RX8, "term", "(IIIII)I"⟩
abbrev cX8_empty : ByteArray := prog_10_method_12_code
def yX8_empty : MethodName := ⟨RX8, "empty", "(I)I"⟩
abbrev cX8_answer : ByteArray := prog_10_method_13_code
def yX8_answer : MethodName := ⟨RX8, "answer", "(IIII)I"⟩
abbrev cX8_ask : ByteArray := prog_10_method_14_code
def yX8_ask : MethodName := ⟨RX8, "ask", "(IIII)I"⟩
abbrev cX8_say : ByteArray := prog_10_method_15_code
def yX8_say : MethodName := ⟨RX8, "say", "(I)I"⟩
abbrev cX8_change : ByteArray := prog_10_method_16_code
def yX8_change : MethodName := ⟨RX8, "change", "(II)I"⟩
abbrev cX8_clear : ByteArray := prog_10_method_17_code
def yX8_clear : MethodName := ⟨RX8, "clear", "()I"⟩
abbrev cX8_over : ByteArray := prog_10_method_18_code
def yX8_over : MethodName := ⟨RX8, "over", "(I)I"⟩
abbrev cX8_grow : ByteArray := prog_10_method_19_code
def yX8_grow : MethodName := ⟨RX8, "grow", "(II)V"⟩
abbrev cX8_take : ByteArray := prog_10_method_20_code
def yX8_take : MethodName := ⟨RX8, "take", "()V"⟩
abbrev cX8_g : ByteArray := prog_10_method_21_code
def yX8_g : MethodName := ⟨RX8, "g", "(I)I"⟩
abbrev cX8_register : ByteArray := prog_10_method_22_code
def yX8_register : MethodName := ⟨RX8, "register", "(I)I"⟩
abbrev cX8_product : ByteArray := prog_10_method_23_code
def yX8_product : MethodName := ⟨RX8, "product", "(Z)V"⟩
abbrev cX8_far : ByteArray := prog_10_method_24_code
def yX8_far : MethodName := ⟨RX8, "far", "(I)I"⟩
abbrev cX8_lie : ByteArray := prog_10_method_25_code
def yX8_lie : MethodName := ⟨RX8, "lie", "(I)I"⟩
abbrev cX8_isRoot : ByteArray := prog_10_method_26_code
def yX8_isRoot : MethodName := ⟨RX8, "isRoot", "(I)Z"⟩
abbrev cX8_told : ByteArray := prog_10_method_27_code
def yX8_told : MethodName := ⟨RX8, "told", "(I)I"⟩
abbrev cX8_solve : ByteArray := prog_10_method_28_code
def yX8_solve : MethodName := ⟨RX8, "solve", "()V"⟩
abbrev cX8_getBack : ByteArray := prog_10_method_29_code
def yX8_getBack : MethodName := ⟨RX8, "getBack", "(I)Z"⟩
abbrev cX8_got : ByteArray := prog_10_method_30_code
def yX8_got : MethodName := ⟨RX8, "got", "(III)I"⟩
abbrev cX8_right : ByteArray := prog_10_method_31_code
def yX8_right : MethodName := ⟨RX8, "right", "(IIII)I"⟩
abbrev cX8_zeros : ByteArray := prog_10_method_32_code
def yX8_zeros : MethodName := ⟨RX8, "zeros", "(I)I"⟩
abbrev cX8_meet : ByteArray := prog_10_method_33_code
def yX8_meet : MethodName := ⟨RX8, "meet", "()I"⟩
abbrev cX8_count : ByteArray := prog_10_method_34_code
def yX8_count : MethodName := ⟨RX8, "count", "(I)I"⟩
abbrev cX8_trace : ByteArray := prog_10_method_35_code
def yX8_trace : MethodName := ⟨RX8, "trace", "()J"⟩
def RJ9 : String := "java/lang/Math"
def TJ9 : u_T := fun k => match k with
  | _ => ("", "", "", false)
def tyJ9 : Nat → FieldType := fun k => match k with
  | _ => .int
abbrev wsJ90 : List Cond := u_ws RJ9 TJ9 0
theorem nmJ9 : ∀ a, a < 0 → ∀ b, b < 0 → a ≠ b → (TJ9 a).2.1 ≠ (TJ9 b).2.1 := by decide +kernel
theorem tyJ9_ok : ∀ k, k < 0 → parseFieldDescriptor (TJ9 k).2.2.1 = some (tyJ9 k) := by decide +kernel
abbrev cJ9_min_7cf53 : ByteArray := prog_11_method_69_code
def yJ9_min_7cf53 : MethodName := ⟨RJ9, "min", "(II)I"⟩
def RJ10 : String := "java/lang/System"
def TJ10 : u_T := fun k => match k with
  | _ => ("", "", "", false)
def tyJ10 : Nat → FieldType := fun k => match k with
  | _ => .int
abbrev wsJ100 : List Cond := u_ws RJ10 TJ10 0
theorem nmJ10 : ∀ a, a < 0 → ∀ b, b < 0 → a ≠ b → (TJ10 a).2.1 ≠ (TJ10 b).2.1 := by decide +kernel
theorem tyJ10_ok : ∀ k, k < 0 → parseFieldDescriptor (TJ10 k).2.2.1 = some (tyJ10 k) := by decide +kernel
def RL : String := "SealedBoxLaw"
abbrev cL_law : ByteArray := code
def yL_law : MethodName := ⟨RL, "law", "([I)Z"⟩
def wsX0_init : List Cond := .code yX0_init cX0_init 2 none :: ([.methodLink RX0 3 objectInit, .instanceMethod objectInit, .code objectInit ⟨#[0xb1]⟩ 1 none, .fieldLink RX0 9 "SealedBox$Bases" "shift" "I", .fieldLink RX0 15 "SealedBox$Bases" "scale" "I", .fieldLink RX0 18 "SealedBox$Bases" "numbers" "LSealedBox$PrimeField;"] ++ wsX00)
def wsX4_plus : List Cond := .code yX4_plus cX4_plus 3 (some .int) :: ([.fieldLink RX4 15 "SealedBox$PrimeField" "p" "I"] ++ wsX40)
def wsX4_power : List Cond := .code yX4_power cX4_power 5 (some .int) :: ([.fieldLink RX4 15 "SealedBox$PrimeField" "p" "I"] ++ wsX40)
def wsX0_shifted : List Cond := .code yX0_shifted cX0_shifted 3 (some .int) :: ([.fieldLink RX0 18 "SealedBox$Bases" "numbers" "LSealedBox$PrimeField;", .fieldLink RX0 9 "SealedBox$Bases" "shift" "I", .methodLink RX0 34 yX4_plus, .instanceMethod yX4_plus, .selects RX4 yX4_plus yX4_plus, .initialized RX4, .code yX4_plus cX4_plus 3 (some .int), .fieldLink RX4 15 "SealedBox$PrimeField" "p" "I", .methodLink RX0 29 yX4_power, .instanceMethod yX4_power, .selects RX4 yX4_power yX4_power, .code yX4_power cX4_power 5 (some .int)] ++ wsX00 ++ wsX40)
def wsX4_times : List Cond := .code yX4_times cX4_times 3 (some .int) :: ([.fieldLink RX4 15 "SealedBox$PrimeField" "p" "I"] ++ wsX40)
def wsX0_scaled : List Cond := .code yX0_scaled cX0_scaled 3 (some .int) :: ([.fieldLink RX0 18 "SealedBox$Bases" "numbers" "LSealedBox$PrimeField;", .fieldLink RX0 15 "SealedBox$Bases" "scale" "I", .methodLink RX0 26 yX0_shifted, .instanceMethod yX0_shifted, .selects RX0 yX0_shifted yX0_shifted, .initialized RX0, .code yX0_shifted cX0_shifted 3 (some .int), .fieldLink RX0 9 "SealedBox$Bases" "shift" "I", .methodLink RX0 34 yX4_plus, .instanceMethod yX4_plus, .selects RX4 yX4_plus yX4_plus, .initialized RX4, .code yX4_plus cX4_plus 3 (some .int), .fieldLink RX4 15 "SealedBox$PrimeField" "p" "I", .methodLink RX0 29 yX4_power, .instanceMethod yX4_power, .selects RX4 yX4_power yX4_power, .code yX4_power cX4_power 5 (some .int), .methodLink RX0 37 yX4_times, .instanceMethod yX4_times, .selects RX4 yX4_times yX4_times, .code yX4_times cX4_times 3 (some .int)] ++ wsX00 ++ wsX40)
def wsX0_letter_r1 : List Cond := [Cond.fieldLink RX0 18 "SealedBox$Bases" "numbers" "LSealedBox$PrimeField;", Cond.methodLink RX0 22 yX0_scaled, Cond.instanceMethod yX0_scaled, Cond.selects RX0 yX0_scaled yX0_scaled, Cond.initialized RX0, Cond.code yX0_scaled cX0_scaled 3 (some .int), Cond.fieldLink RX0 15 "SealedBox$Bases" "scale" "I", Cond.methodLink RX0 26 yX0_shifted, Cond.instanceMethod yX0_shifted, Cond.selects RX0 yX0_shifted yX0_shifted, Cond.code yX0_shifted cX0_shifted 3 (some .int), Cond.fieldLink RX0 9 "SealedBox$Bases" "shift" "I", Cond.methodLink RX0 34 yX4_plus, Cond.instanceMethod yX4_plus, Cond.selects RX4 yX4_plus yX4_plus, Cond.initialized RX4, Cond.code yX4_plus cX4_plus 3 (some .int), Cond.fieldLink RX4 15 "SealedBox$PrimeField" "p" "I", Cond.methodLink RX0 29 yX4_power, Cond.instanceMethod yX4_power, Cond.selects RX4 yX4_power yX4_power, Cond.code yX4_power cX4_power 5 (some .int), Cond.methodLink RX0 37 yX4_times, Cond.instanceMethod yX4_times]
def wsX0_letter_r2 : List Cond := [Cond.selects RX4 yX4_times yX4_times, Cond.code yX4_times cX4_times 3 (some .int)]
def wsX0_letter : List Cond := .code yX0_letter cX0_letter 4 (some .int) :: ((wsX0_letter_r1 ++ wsX0_letter_r2) ++ wsX00 ++ wsX40)
def wsX0_bodiesAsked : List Cond := .code yX0_bodiesAsked cX0_bodiesAsked 1 (some .int) :: ([])
def wsX1_init : List Cond := .code yX1_init cX1_init 3 none :: ([.methodLink RX1 3 objectInit, .instanceMethod objectInit, .code objectInit ⟨#[0xb1]⟩ 1 none, .arrayClass .int, .fieldLink RX1 11 "SealedBox$Box" "parts" "[I", .fieldLink RX1 15 "SealedBox$Box" "lineForms" "[I", .fieldLink RX1 18 "SealedBox$Box" "line" "[I", .fieldLink RX1 21 "SealedBox$Box" "kind" "I", .fieldLink RX1 25 "SealedBox$Box" "terms" "I", .fieldLink RX1 28 "SealedBox$Box" "numbers" "LSealedBox$PrimeField;", .fieldLink RX1 32 "SealedBox$Box" "bases" "LSealedBox$Bases;"] ++ wsX10)
def wsX1_drop : List Cond := .code yX1_drop cX1_drop 1 none :: ([.fieldLink RX1 25 "SealedBox$Box" "terms" "I"] ++ wsX10)
def wsX1_add : List Cond := .code yX1_add cX1_add 6 (some .boolean) :: ([.fieldLink RX1 25 "SealedBox$Box" "terms" "I", .fieldLink RX1 11 "SealedBox$Box" "parts" "[I"] ++ wsX10)
def wsX1_part : List Cond := .code yX1_part cX1_part 4 (some .int) :: ([.fieldLink RX1 11 "SealedBox$Box" "parts" "[I"] ++ wsX10)
def wsX1_ofTwoLetters_r1 : List Cond := [Cond.fieldLink RX1 28 "SealedBox$Box" "numbers" "LSealedBox$PrimeField;", Cond.fieldLink RX1 32 "SealedBox$Box" "bases" "LSealedBox$Bases;", Cond.fieldLink RX1 21 "SealedBox$Box" "kind" "I", Cond.methodLink RX1 40 yX1_part, Cond.instanceMethod yX1_part, Cond.selects RX1 yX1_part yX1_part, Cond.initialized RX1, Cond.code yX1_part cX1_part 4 (some .int), Cond.fieldLink RX1 11 "SealedBox$Box" "parts" "[I", Cond.methodLink RX1 44 yX0_letter, Cond.instanceMethod yX0_letter, Cond.selects RX0 yX0_letter yX0_letter, Cond.initialized RX0, Cond.code yX0_letter cX0_letter 4 (some .int), Cond.fieldLink RX0 18 "SealedBox$Bases" "numbers" "LSealedBox$PrimeField;", Cond.methodLink RX0 22 yX0_scaled, Cond.instanceMethod yX0_scaled, Cond.selects RX0 yX0_scaled yX0_scaled, Cond.code yX0_scaled cX0_scaled 3 (some .int), Cond.fieldLink RX0 15 "SealedBox$Bases" "scale" "I", Cond.methodLink RX0 26 yX0_shifted, Cond.instanceMethod yX0_shifted, Cond.selects RX0 yX0_shifted yX0_shifted, Cond.code yX0_shifted cX0_shifted 3 (some .int)]
def wsX1_ofTwoLetters_r2 : List Cond := [Cond.fieldLink RX0 9 "SealedBox$Bases" "shift" "I", Cond.methodLink RX0 34 yX4_plus, Cond.instanceMethod yX4_plus, Cond.selects RX4 yX4_plus yX4_plus, Cond.initialized RX4, Cond.code yX4_plus cX4_plus 3 (some .int), Cond.fieldLink RX4 15 "SealedBox$PrimeField" "p" "I", Cond.methodLink RX0 29 yX4_power, Cond.instanceMethod yX4_power, Cond.selects RX4 yX4_power yX4_power, Cond.code yX4_power cX4_power 5 (some .int), Cond.methodLink RX0 37 yX4_times, Cond.instanceMethod yX4_times, Cond.selects RX4 yX4_times yX4_times, Cond.code yX4_times cX4_times 3 (some .int), Cond.methodLink RX1 49 yX4_times]
def wsX1_ofTwoLetters : List Cond := .code yX1_ofTwoLetters cX1_ofTwoLetters 5 (some .int) :: ((wsX1_ofTwoLetters_r1 ++ wsX1_ofTwoLetters_r2) ++ wsX10 ++ wsX00 ++ wsX40)
def wsX1_answer_r1 : List Cond := [Cond.fieldLink RX1 25 "SealedBox$Box" "terms" "I", Cond.fieldLink RX1 28 "SealedBox$Box" "numbers" "LSealedBox$PrimeField;", Cond.fieldLink RX1 32 "SealedBox$Box" "bases" "LSealedBox$Bases;", Cond.fieldLink RX1 21 "SealedBox$Box" "kind" "I", Cond.methodLink RX1 36 yX1_ofTwoLetters, Cond.instanceMethod yX1_ofTwoLetters, Cond.selects RX1 yX1_ofTwoLetters yX1_ofTwoLetters, Cond.initialized RX1, Cond.code yX1_ofTwoLetters cX1_ofTwoLetters 5 (some .int), Cond.methodLink RX1 40 yX1_part, Cond.instanceMethod yX1_part, Cond.selects RX1 yX1_part yX1_part, Cond.code yX1_part cX1_part 4 (some .int), Cond.fieldLink RX1 11 "SealedBox$Box" "parts" "[I", Cond.methodLink RX1 44 yX0_letter, Cond.instanceMethod yX0_letter, Cond.selects RX0 yX0_letter yX0_letter, Cond.initialized RX0, Cond.code yX0_letter cX0_letter 4 (some .int), Cond.fieldLink RX0 18 "SealedBox$Bases" "numbers" "LSealedBox$PrimeField;", Cond.methodLink RX0 22 yX0_scaled, Cond.instanceMethod yX0_scaled, Cond.selects RX0 yX0_scaled yX0_scaled, Cond.code yX0_scaled cX0_scaled 3 (some .int)]
def wsX1_answer_r2 : List Cond := [Cond.fieldLink RX0 15 "SealedBox$Bases" "scale" "I", Cond.methodLink RX0 26 yX0_shifted, Cond.instanceMethod yX0_shifted, Cond.selects RX0 yX0_shifted yX0_shifted, Cond.code yX0_shifted cX0_shifted 3 (some .int), Cond.fieldLink RX0 9 "SealedBox$Bases" "shift" "I", Cond.methodLink RX0 34 yX4_plus, Cond.instanceMethod yX4_plus, Cond.selects RX4 yX4_plus yX4_plus, Cond.initialized RX4, Cond.code yX4_plus cX4_plus 3 (some .int), Cond.fieldLink RX4 15 "SealedBox$PrimeField" "p" "I", Cond.methodLink RX0 29 yX4_power, Cond.instanceMethod yX4_power, Cond.selects RX4 yX4_power yX4_power, Cond.code yX4_power cX4_power 5 (some .int), Cond.methodLink RX0 37 yX4_times, Cond.instanceMethod yX4_times, Cond.selects RX4 yX4_times yX4_times, Cond.code yX4_times cX4_times 3 (some .int), Cond.methodLink RX1 49 yX4_times]
def wsX1_answer : List Cond := .code yX1_answer cX1_answer 6 (some .int) :: ((wsX1_answer_r1 ++ wsX1_answer_r2) ++ wsX10 ++ wsX40 ++ wsX00)
def wsX1_readyLines_r1 : List Cond := [Cond.fieldLink RX1 28 "SealedBox$Box" "numbers" "LSealedBox$PrimeField;", Cond.fieldLink RX1 15 "SealedBox$Box" "lineForms" "[I", Cond.fieldLink RX1 32 "SealedBox$Box" "bases" "LSealedBox$Bases;", Cond.fieldLink RX1 21 "SealedBox$Box" "kind" "I", Cond.methodLink RX1 44 yX0_letter, Cond.instanceMethod yX0_letter, Cond.selects RX0 yX0_letter yX0_letter, Cond.initialized RX0, Cond.code yX0_letter cX0_letter 4 (some .int), Cond.fieldLink RX0 18 "SealedBox$Bases" "numbers" "LSealedBox$PrimeField;", Cond.methodLink RX0 22 yX0_scaled, Cond.instanceMethod yX0_scaled, Cond.selects RX0 yX0_scaled yX0_scaled, Cond.code yX0_scaled cX0_scaled 3 (some .int), Cond.fieldLink RX0 15 "SealedBox$Bases" "scale" "I", Cond.methodLink RX0 26 yX0_shifted, Cond.instanceMethod yX0_shifted, Cond.selects RX0 yX0_shifted yX0_shifted, Cond.code yX0_shifted cX0_shifted 3 (some .int), Cond.fieldLink RX0 9 "SealedBox$Bases" "shift" "I", Cond.methodLink RX0 34 yX4_plus, Cond.instanceMethod yX4_plus, Cond.selects RX4 yX4_plus yX4_plus, Cond.initialized RX4]
def wsX1_readyLines_r2 : List Cond := [Cond.code yX4_plus cX4_plus 3 (some .int), Cond.fieldLink RX4 15 "SealedBox$PrimeField" "p" "I", Cond.methodLink RX0 29 yX4_power, Cond.instanceMethod yX4_power, Cond.selects RX4 yX4_power yX4_power, Cond.code yX4_power cX4_power 5 (some .int), Cond.methodLink RX0 37 yX4_times, Cond.instanceMethod yX4_times, Cond.selects RX4 yX4_times yX4_times, Cond.code yX4_times cX4_times 3 (some .int)]
def wsX1_readyLines : List Cond := .code yX1_readyLines cX1_readyLines 3 none :: ((wsX1_readyLines_r1 ++ wsX1_readyLines_r2) ++ wsX10 ++ wsX40 ++ wsX00)
def wsX7_isExponent : List Cond := .code yX7_isExponent cX7_isExponent 1 (some .boolean) :: ([])
def wsX1_addToLine : List Cond := .code yX1_addToLine cX1_addToLine 5 none :: ([.fieldLink RX1 28 "SealedBox$Box" "numbers" "LSealedBox$PrimeField;", .fieldLink RX1 18 "SealedBox$Box" "line" "[I", .fieldLink RX1 15 "SealedBox$Box" "lineForms" "[I", .static yX7_isExponent, .initialized RX7, .code yX7_isExponent cX7_isExponent 1 (some .boolean)] ++ wsX10 ++ wsX40)
def wsX1_answerLine_r1 : List Cond := [Cond.fieldLink RX1 18 "SealedBox$Box" "line" "[I", Cond.fieldLink RX1 25 "SealedBox$Box" "terms" "I", Cond.fieldLink RX1 28 "SealedBox$Box" "numbers" "LSealedBox$PrimeField;", Cond.methodLink RX1 36 yX1_ofTwoLetters, Cond.instanceMethod yX1_ofTwoLetters, Cond.selects RX1 yX1_ofTwoLetters yX1_ofTwoLetters, Cond.initialized RX1, Cond.code yX1_ofTwoLetters cX1_ofTwoLetters 5 (some .int), Cond.fieldLink RX1 32 "SealedBox$Box" "bases" "LSealedBox$Bases;", Cond.fieldLink RX1 21 "SealedBox$Box" "kind" "I", Cond.methodLink RX1 40 yX1_part, Cond.instanceMethod yX1_part, Cond.selects RX1 yX1_part yX1_part, Cond.code yX1_part cX1_part 4 (some .int), Cond.fieldLink RX1 11 "SealedBox$Box" "parts" "[I", Cond.methodLink RX1 44 yX0_letter, Cond.instanceMethod yX0_letter, Cond.selects RX0 yX0_letter yX0_letter, Cond.initialized RX0, Cond.code yX0_letter cX0_letter 4 (some .int), Cond.fieldLink RX0 18 "SealedBox$Bases" "numbers" "LSealedBox$PrimeField;", Cond.methodLink RX0 22 yX0_scaled, Cond.instanceMethod yX0_scaled, Cond.selects RX0 yX0_scaled yX0_scaled]
def wsX1_answerLine_r2 : List Cond := [Cond.code yX0_scaled cX0_scaled 3 (some .int), Cond.fieldLink RX0 15 "SealedBox$Bases" "scale" "I", Cond.methodLink RX0 26 yX0_shifted, Cond.instanceMethod yX0_shifted, Cond.selects RX0 yX0_shifted yX0_shifted, Cond.code yX0_shifted cX0_shifted 3 (some .int), Cond.fieldLink RX0 9 "SealedBox$Bases" "shift" "I", Cond.methodLink RX0 34 yX4_plus, Cond.instanceMethod yX4_plus, Cond.selects RX4 yX4_plus yX4_plus, Cond.initialized RX4, Cond.code yX4_plus cX4_plus 3 (some .int), Cond.fieldLink RX4 15 "SealedBox$PrimeField" "p" "I", Cond.methodLink RX0 29 yX4_power, Cond.instanceMethod yX4_power, Cond.selects RX4 yX4_power yX4_power, Cond.code yX4_power cX4_power 5 (some .int), Cond.methodLink RX0 37 yX4_times, Cond.instanceMethod yX4_times, Cond.selects RX4 yX4_times yX4_times, Cond.code yX4_times cX4_times 3 (some .int), Cond.methodLink RX1 49 yX4_times, Cond.methodLink RX1 57 yX1_addToLine, Cond.instanceMethod yX1_addToLine]
def wsX1_answerLine_r3 : List Cond := [Cond.selects RX1 yX1_addToLine yX1_addToLine, Cond.code yX1_addToLine cX1_addToLine 5 none, Cond.fieldLink RX1 15 "SealedBox$Box" "lineForms" "[I", Cond.static yX7_isExponent, Cond.initialized RX7, Cond.code yX7_isExponent cX7_isExponent 1 (some .boolean)]
def wsX1_answerLine : List Cond := .code yX1_answerLine cX1_answerLine 4 none :: ((wsX1_answerLine_r1 ++ (wsX1_answerLine_r2 ++ wsX1_answerLine_r3)) ++ wsX10 ++ wsX40 ++ wsX00)
def wsX1_zerosInLine : List Cond := .code yX1_zerosInLine cX1_zerosInLine 3 (some .int) :: ([.fieldLink RX1 28 "SealedBox$Box" "numbers" "LSealedBox$PrimeField;", .fieldLink RX1 18 "SealedBox$Box" "line" "[I"] ++ wsX10 ++ wsX40)
def wsX1_alikeInLine : List Cond := .code yX1_alikeInLine cX1_alikeInLine 4 (some .int) :: ([.fieldLink RX1 28 "SealedBox$Box" "numbers" "LSealedBox$PrimeField;", .fieldLink RX1 18 "SealedBox$Box" "line" "[I"] ++ wsX10 ++ wsX40)
def wsX6_init : List Cond := .code yX6_init cX6_init 2 none :: ([.methodLink RX6 3 objectInit, .instanceMethod objectInit, .code objectInit ⟨#[0xb1]⟩ 1 none, .arrayClass .int, .fieldLink RX6 9 "SealedBox$Register" "now" "[I", .fieldLink RX6 15 "SealedBox$Register" "former" "[I", .fieldLink RX6 18 "SealedBox$Register" "spare" "[I", .fieldLink RX6 21 "SealedBox$Register" "length" "I", .fieldLink RX6 25 "SealedBox$Register" "formerLength" "I", .fieldLink RX6 28 "SealedBox$Register" "formerError" "I", .fieldLink RX6 31 "SealedBox$Register" "moved" "I", .fieldLink RX6 34 "SealedBox$Register" "numbers" "LSealedBox$PrimeField;"] ++ wsX60)
def wsX2_init : List Cond := .code yX2_init cX2_init 2 none :: ([.methodLink RX2 3 objectInit, .instanceMethod objectInit, .code objectInit ⟨#[0xb1]⟩ 1 none, .arrayClass .int, .fieldLink RX2 9 "SealedBox$LieSearch" "mended" "[I", .fieldLink RX2 15 "SealedBox$LieSearch" "numbers" "LSealedBox$PrimeField;", .classLink RX2 19 RX6, .instantiable RX6 8, .initialized RX6, .fieldLink RX2 24 "SealedBox$LieSearch" "ahead" "LSealedBox$Register;", .fieldLink RX2 28 "SealedBox$LieSearch" "trial" "LSealedBox$Register;", .methodLink RX2 21 yX6_init, .instanceMethod yX6_init, .code yX6_init cX6_init 2 none, .methodLink RX6 3 objectInit, .fieldLink RX6 9 "SealedBox$Register" "now" "[I", .fieldLink RX6 15 "SealedBox$Register" "former" "[I", .fieldLink RX6 18 "SealedBox$Register" "spare" "[I", .fieldLink RX6 21 "SealedBox$Register" "length" "I", .fieldLink RX6 25 "SealedBox$Register" "formerLength" "I", .fieldLink RX6 28 "SealedBox$Register" "formerError" "I", .fieldLink RX6 31 "SealedBox$Register" "moved" "I", .fieldLink RX6 34 "SealedBox$Register" "numbers" "LSealedBox$PrimeField;"] ++ wsX20 ++ wsX60)
def wsX6_begin : List Cond := .code yX6_begin cX6_begin 2 none :: ([.fieldLink RX6 9 "SealedBox$Register" "now" "[I", .fieldLink RX6 15 "SealedBox$Register" "former" "[I", .fieldLink RX6 21 "SealedBox$Register" "length" "I", .fieldLink RX6 25 "SealedBox$Register" "formerLength" "I", .fieldLink RX6 28 "SealedBox$Register" "formerError" "I", .fieldLink RX6 31 "SealedBox$Register" "moved" "I"] ++ wsX60)
def wsX6_copyOf : List Cond := .code yX6_copyOf cX6_copyOf 2 none :: ([.fieldLink RX6 9 "SealedBox$Register" "now" "[I", .methodLink RX6 45 arraycopyName, .native arraycopyName, .static arraycopyName, .initialized "java/lang/System", .fieldLink RX6 15 "SealedBox$Register" "former" "[I", .fieldLink RX6 21 "SealedBox$Register" "length" "I", .fieldLink RX6 25 "SealedBox$Register" "formerLength" "I", .fieldLink RX6 28 "SealedBox$Register" "formerError" "I", .fieldLink RX6 31 "SealedBox$Register" "moved" "I"] ++ wsX60)
def wsX6_errorAt : List Cond := .code yX6_errorAt cX6_errorAt 5 (some .int) :: ([.fieldLink RX6 21 "SealedBox$Register" "length" "I", .fieldLink RX6 9 "SealedBox$Register" "now" "[I", .fieldLink RX6 34 "SealedBox$Register" "numbers" "LSealedBox$PrimeField;"] ++ wsX60 ++ wsX40)
def wsX4_over : List Cond := .code yX4_over cX4_over 3 (some .int) :: ([.fieldLink RX4 15 "SealedBox$PrimeField" "p" "I", .fieldLink RX4 9 "SealedBox$PrimeField" "inverses" "[I"] ++ wsX40)
def wsX6_addFormer : List Cond := .code yX6_addFormer cX6_addFormer 3 none :: ([.fieldLink RX6 25 "SealedBox$Register" "formerLength" "I", .fieldLink RX6 31 "SealedBox$Register" "moved" "I", .fieldLink RX6 9 "SealedBox$Register" "now" "[I", .fieldLink RX6 15 "SealedBox$Register" "former" "[I", .fieldLink RX6 34 "SealedBox$Register" "numbers" "LSealedBox$PrimeField;"] ++ wsX60 ++ wsX40)
def wsX6_take_r1 : List Cond := [Cond.fieldLink RX6 31 "SealedBox$Register" "moved" "I", Cond.fieldLink RX6 34 "SealedBox$Register" "numbers" "LSealedBox$PrimeField;", Cond.fieldLink RX6 28 "SealedBox$Register" "formerError" "I", Cond.fieldLink RX6 21 "SealedBox$Register" "length" "I", Cond.fieldLink RX6 9 "SealedBox$Register" "now" "[I", Cond.fieldLink RX6 18 "SealedBox$Register" "spare" "[I", Cond.methodLink RX6 45 arraycopyName, Cond.native arraycopyName, Cond.static arraycopyName, Cond.initialized "java/lang/System", Cond.fieldLink RX6 15 "SealedBox$Register" "former" "[I", Cond.fieldLink RX6 25 "SealedBox$Register" "formerLength" "I", Cond.methodLink RX6 51 yX6_errorAt, Cond.instanceMethod yX6_errorAt, Cond.selects RX6 yX6_errorAt yX6_errorAt, Cond.initialized RX6, Cond.code yX6_errorAt cX6_errorAt 5 (some .int), Cond.methodLink RX6 60 yX4_over, Cond.instanceMethod yX4_over, Cond.selects RX4 yX4_over yX4_over, Cond.initialized RX4, Cond.code yX4_over cX4_over 3 (some .int), Cond.fieldLink RX4 15 "SealedBox$PrimeField" "p" "I", Cond.fieldLink RX4 9 "SealedBox$PrimeField" "inverses" "[I"]
def wsX6_take_r2 : List Cond := [Cond.methodLink RX6 64 yX6_addFormer, Cond.instanceMethod yX6_addFormer, Cond.selects RX6 yX6_addFormer yX6_addFormer, Cond.code yX6_addFormer cX6_addFormer 3 none]
def wsX6_take : List Cond := .code yX6_take cX6_take 6 none :: ((wsX6_take_r1 ++ wsX6_take_r2) ++ wsX60 ++ wsX40)
def wsX2_staysWithin_r1 : List Cond := [Cond.fieldLink RX2 28 "SealedBox$LieSearch" "trial" "LSealedBox$Register;", Cond.fieldLink RX2 24 "SealedBox$LieSearch" "ahead" "LSealedBox$Register;", Cond.fieldLink RX2 9 "SealedBox$LieSearch" "mended" "[I", Cond.methodLink RX2 61 yX6_copyOf, Cond.instanceMethod yX6_copyOf, Cond.selects RX6 yX6_copyOf yX6_copyOf, Cond.initialized RX6, Cond.code yX6_copyOf cX6_copyOf 2 none, Cond.fieldLink RX6 9 "SealedBox$Register" "now" "[I", Cond.methodLink RX6 45 arraycopyName, Cond.native arraycopyName, Cond.static arraycopyName, Cond.initialized "java/lang/System", Cond.fieldLink RX6 15 "SealedBox$Register" "former" "[I", Cond.fieldLink RX6 21 "SealedBox$Register" "length" "I", Cond.fieldLink RX6 25 "SealedBox$Register" "formerLength" "I", Cond.fieldLink RX6 28 "SealedBox$Register" "formerError" "I", Cond.fieldLink RX6 31 "SealedBox$Register" "moved" "I", Cond.methodLink RX2 48 yX6_take, Cond.instanceMethod yX6_take, Cond.selects RX6 yX6_take yX6_take, Cond.code yX6_take cX6_take 6 none, Cond.fieldLink RX6 34 "SealedBox$Register" "numbers" "LSealedBox$PrimeField;", Cond.fieldLink RX6 18 "SealedBox$Register" "spare" "[I"]
def wsX2_staysWithin_r2 : List Cond := [Cond.methodLink RX6 51 yX6_errorAt, Cond.instanceMethod yX6_errorAt, Cond.selects RX6 yX6_errorAt yX6_errorAt, Cond.code yX6_errorAt cX6_errorAt 5 (some .int), Cond.methodLink RX6 60 yX4_over, Cond.instanceMethod yX4_over, Cond.selects RX4 yX4_over yX4_over, Cond.initialized RX4, Cond.code yX4_over cX4_over 3 (some .int), Cond.fieldLink RX4 15 "SealedBox$PrimeField" "p" "I", Cond.fieldLink RX4 9 "SealedBox$PrimeField" "inverses" "[I", Cond.methodLink RX6 64 yX6_addFormer, Cond.instanceMethod yX6_addFormer, Cond.selects RX6 yX6_addFormer yX6_addFormer, Cond.code yX6_addFormer cX6_addFormer 3 none]
def wsX2_staysWithin : List Cond := .code yX2_staysWithin cX2_staysWithin 5 (some .boolean) :: ((wsX2_staysWithin_r1 ++ wsX2_staysWithin_r2) ++ wsX20 ++ wsX60 ++ wsX40)
def wsX2_leastNumberAt_r1 : List Cond := [Cond.fieldLink RX2 15 "SealedBox$LieSearch" "numbers" "LSealedBox$PrimeField;", Cond.fieldLink RX2 9 "SealedBox$LieSearch" "mended" "[I", Cond.methodLink RX2 57 yX2_staysWithin, Cond.instanceMethod yX2_staysWithin, Cond.selects RX2 yX2_staysWithin yX2_staysWithin, Cond.initialized RX2, Cond.code yX2_staysWithin cX2_staysWithin 5 (some .boolean), Cond.fieldLink RX2 28 "SealedBox$LieSearch" "trial" "LSealedBox$Register;", Cond.fieldLink RX2 24 "SealedBox$LieSearch" "ahead" "LSealedBox$Register;", Cond.methodLink RX2 61 yX6_copyOf, Cond.instanceMethod yX6_copyOf, Cond.selects RX6 yX6_copyOf yX6_copyOf, Cond.initialized RX6, Cond.code yX6_copyOf cX6_copyOf 2 none, Cond.fieldLink RX6 9 "SealedBox$Register" "now" "[I", Cond.methodLink RX6 45 arraycopyName, Cond.native arraycopyName, Cond.static arraycopyName, Cond.initialized "java/lang/System", Cond.fieldLink RX6 15 "SealedBox$Register" "former" "[I", Cond.fieldLink RX6 21 "SealedBox$Register" "length" "I", Cond.fieldLink RX6 25 "SealedBox$Register" "formerLength" "I", Cond.fieldLink RX6 28 "SealedBox$Register" "formerError" "I", Cond.fieldLink RX6 31 "SealedBox$Register" "moved" "I"]
def wsX2_leastNumberAt_r2 : List Cond := [Cond.methodLink RX2 48 yX6_take, Cond.instanceMethod yX6_take, Cond.selects RX6 yX6_take yX6_take, Cond.code yX6_take cX6_take 6 none, Cond.fieldLink RX6 34 "SealedBox$Register" "numbers" "LSealedBox$PrimeField;", Cond.fieldLink RX6 18 "SealedBox$Register" "spare" "[I", Cond.methodLink RX6 51 yX6_errorAt, Cond.instanceMethod yX6_errorAt, Cond.selects RX6 yX6_errorAt yX6_errorAt, Cond.code yX6_errorAt cX6_errorAt 5 (some .int), Cond.methodLink RX6 60 yX4_over, Cond.instanceMethod yX4_over, Cond.selects RX4 yX4_over yX4_over, Cond.initialized RX4, Cond.code yX4_over cX4_over 3 (some .int), Cond.fieldLink RX4 15 "SealedBox$PrimeField" "p" "I", Cond.fieldLink RX4 9 "SealedBox$PrimeField" "inverses" "[I", Cond.methodLink RX6 64 yX6_addFormer, Cond.instanceMethod yX6_addFormer, Cond.selects RX6 yX6_addFormer yX6_addFormer, Cond.code yX6_addFormer cX6_addFormer 3 none]
def wsX2_leastNumberAt : List Cond := .code yX2_leastNumberAt cX2_leastNumberAt 5 (some .int) :: ((wsX2_leastNumberAt_r1 ++ wsX2_leastNumberAt_r2) ++ wsX20 ++ wsX40 ++ wsX60)
def wsX2_leastMending_r1 : List Cond := [Cond.fieldLink RX2 9 "SealedBox$LieSearch" "mended" "[I", Cond.methodLink RX2 31 Lib.Math.min.name, Cond.static Lib.Math.min.name, Cond.initialized "java/lang/Math", Cond.code Lib.Math.min.name Lib.Math.min.code 2 (some .int), Cond.fieldLink RX2 24 "SealedBox$LieSearch" "ahead" "LSealedBox$Register;", Cond.methodLink RX2 37 yX6_begin, Cond.instanceMethod yX6_begin, Cond.selects RX6 yX6_begin yX6_begin, Cond.initialized RX6, Cond.code yX6_begin cX6_begin 2 none, Cond.fieldLink RX6 9 "SealedBox$Register" "now" "[I", Cond.fieldLink RX6 15 "SealedBox$Register" "former" "[I", Cond.fieldLink RX6 21 "SealedBox$Register" "length" "I", Cond.fieldLink RX6 25 "SealedBox$Register" "formerLength" "I", Cond.fieldLink RX6 28 "SealedBox$Register" "formerError" "I", Cond.fieldLink RX6 31 "SealedBox$Register" "moved" "I", Cond.methodLink RX2 44 yX2_leastNumberAt, Cond.instanceMethod yX2_leastNumberAt, Cond.selects RX2 yX2_leastNumberAt yX2_leastNumberAt, Cond.initialized RX2, Cond.code yX2_leastNumberAt cX2_leastNumberAt 5 (some .int), Cond.fieldLink RX2 15 "SealedBox$LieSearch" "numbers" "LSealedBox$PrimeField;", Cond.methodLink RX2 57 yX2_staysWithin]
def wsX2_leastMending_r2 : List Cond := [Cond.instanceMethod yX2_staysWithin, Cond.selects RX2 yX2_staysWithin yX2_staysWithin, Cond.code yX2_staysWithin cX2_staysWithin 5 (some .boolean), Cond.fieldLink RX2 28 "SealedBox$LieSearch" "trial" "LSealedBox$Register;", Cond.methodLink RX2 61 yX6_copyOf, Cond.instanceMethod yX6_copyOf, Cond.selects RX6 yX6_copyOf yX6_copyOf, Cond.code yX6_copyOf cX6_copyOf 2 none, Cond.methodLink RX6 45 arraycopyName, Cond.native arraycopyName, Cond.static arraycopyName, Cond.initialized "java/lang/System", Cond.methodLink RX2 48 yX6_take, Cond.instanceMethod yX6_take, Cond.selects RX6 yX6_take yX6_take, Cond.code yX6_take cX6_take 6 none, Cond.fieldLink RX6 34 "SealedBox$Register" "numbers" "LSealedBox$PrimeField;", Cond.fieldLink RX6 18 "SealedBox$Register" "spare" "[I", Cond.methodLink RX6 51 yX6_errorAt, Cond.instanceMethod yX6_errorAt, Cond.selects RX6 yX6_errorAt yX6_errorAt, Cond.code yX6_errorAt cX6_errorAt 5 (some .int), Cond.methodLink RX6 60 yX4_over, Cond.instanceMethod yX4_over]
def wsX2_leastMending_r3 : List Cond := [Cond.selects RX4 yX4_over yX4_over, Cond.initialized RX4, Cond.code yX4_over cX4_over 3 (some .int), Cond.fieldLink RX4 15 "SealedBox$PrimeField" "p" "I", Cond.fieldLink RX4 9 "SealedBox$PrimeField" "inverses" "[I", Cond.methodLink RX6 64 yX6_addFormer, Cond.instanceMethod yX6_addFormer, Cond.selects RX6 yX6_addFormer yX6_addFormer, Cond.code yX6_addFormer cX6_addFormer 3 none]
def wsX2_leastMending : List Cond := .code yX2_leastMending cX2_leastMending 7 (some .int) :: ((wsX2_leastMending_r1 ++ (wsX2_leastMending_r2 ++ wsX2_leastMending_r3)) ++ wsX20 ++ wsX60 ++ wsX40)
def wsX3_init : List Cond := .code yX3_init cX3_init 2 none :: ([.methodLink RX3 3 objectInit, .instanceMethod objectInit, .code objectInit ⟨#[0xb1]⟩ 1 none, .arrayClass .int, .fieldLink RX3 9 "SealedBox$Onward" "weights" "[I", .fieldLink RX3 15 "SealedBox$Onward" "rest" "[I", .fieldLink RX3 18 "SealedBox$Onward" "product" "[I", .fieldLink RX3 21 "SealedBox$Onward" "length" "I", .fieldLink RX3 25 "SealedBox$Onward" "numbers" "LSealedBox$PrimeField;"] ++ wsX30)
def wsX4_less : List Cond := .code yX4_less cX4_less 3 (some .int) :: ([.fieldLink RX4 15 "SealedBox$PrimeField" "p" "I"] ++ wsX40)
def wsX6_weight : List Cond := .code yX6_weight cX6_weight 2 (some .int) :: ([.fieldLink RX6 9 "SealedBox$Register" "now" "[I", .fieldLink RX6 34 "SealedBox$Register" "numbers" "LSealedBox$PrimeField;", .methodLink RX6 68 yX4_less, .instanceMethod yX4_less, .selects RX4 yX4_less yX4_less, .initialized RX4, .code yX4_less cX4_less 3 (some .int), .fieldLink RX4 15 "SealedBox$PrimeField" "p" "I"] ++ wsX60 ++ wsX40)
def wsX3_takeWeights : List Cond := .code yX3_takeWeights cX3_takeWeights 3 none :: ([.fieldLink RX3 21 "SealedBox$Onward" "length" "I", .fieldLink RX3 9 "SealedBox$Onward" "weights" "[I", .methodLink RX3 45 yX6_weight, .instanceMethod yX6_weight, .selects RX6 yX6_weight yX6_weight, .initialized RX6, .code yX6_weight cX6_weight 2 (some .int), .fieldLink RX6 9 "SealedBox$Register" "now" "[I", .fieldLink RX6 34 "SealedBox$Register" "numbers" "LSealedBox$PrimeField;", .methodLink RX6 68 yX4_less, .instanceMethod yX4_less, .selects RX4 yX4_less yX4_less, .initialized RX4, .code yX4_less cX4_less 3 (some .int), .fieldLink RX4 15 "SealedBox$PrimeField" "p" "I"] ++ wsX60 ++ wsX30 ++ wsX40)
def wsX3_squareInto : List Cond := .code yX3_squareInto cX3_squareInto 4 none :: ([.fieldLink RX3 18 "SealedBox$Onward" "product" "[I", .fieldLink RX3 21 "SealedBox$Onward" "length" "I", .fieldLink RX3 15 "SealedBox$Onward" "rest" "[I"] ++ wsX30)
def wsX3_reduce : List Cond := .code yX3_reduce cX3_reduce 4 none :: ([.fieldLink RX3 18 "SealedBox$Onward" "product" "[I", .fieldLink RX3 21 "SealedBox$Onward" "length" "I", .fieldLink RX3 25 "SealedBox$Onward" "numbers" "LSealedBox$PrimeField;", .fieldLink RX3 9 "SealedBox$Onward" "weights" "[I", .fieldLink RX3 15 "SealedBox$Onward" "rest" "[I"] ++ wsX30 ++ wsX40)
def wsX3_raise : List Cond := .code yX3_raise cX3_raise 3 none :: ([.fieldLink RX3 15 "SealedBox$Onward" "rest" "[I", .methodLink RX3 49 yX3_squareInto, .instanceMethod yX3_squareInto, .selects RX3 yX3_squareInto yX3_squareInto, .initialized RX3, .code yX3_squareInto cX3_squareInto 4 none, .fieldLink RX3 18 "SealedBox$Onward" "product" "[I", .fieldLink RX3 21 "SealedBox$Onward" "length" "I", .methodLink RX3 52 yX3_reduce, .instanceMethod yX3_reduce, .selects RX3 yX3_reduce yX3_reduce, .code yX3_reduce cX3_reduce 4 none, .fieldLink RX3 25 "SealedBox$Onward" "numbers" "LSealedBox$PrimeField;", .fieldLink RX3 9 "SealedBox$Onward" "weights" "[I"] ++ wsX30 ++ wsX40)
def wsX3_numberAt_r1 : List Cond := [Cond.fieldLink RX3 21 "SealedBox$Onward" "length" "I", Cond.fieldLink RX3 15 "SealedBox$Onward" "rest" "[I", Cond.fieldLink RX3 25 "SealedBox$Onward" "numbers" "LSealedBox$PrimeField;", Cond.methodLink RX3 32 yX3_takeWeights, Cond.instanceMethod yX3_takeWeights, Cond.selects RX3 yX3_takeWeights yX3_takeWeights, Cond.initialized RX3, Cond.code yX3_takeWeights cX3_takeWeights 3 none, Cond.fieldLink RX3 9 "SealedBox$Onward" "weights" "[I", Cond.methodLink RX3 45 yX6_weight, Cond.instanceMethod yX6_weight, Cond.selects RX6 yX6_weight yX6_weight, Cond.initialized RX6, Cond.code yX6_weight cX6_weight 2 (some .int), Cond.fieldLink RX6 9 "SealedBox$Register" "now" "[I", Cond.fieldLink RX6 34 "SealedBox$Register" "numbers" "LSealedBox$PrimeField;", Cond.methodLink RX6 68 yX4_less, Cond.instanceMethod yX4_less, Cond.selects RX4 yX4_less yX4_less, Cond.initialized RX4, Cond.code yX4_less cX4_less 3 (some .int), Cond.fieldLink RX4 15 "SealedBox$PrimeField" "p" "I", Cond.methodLink RX3 36 yX3_raise, Cond.instanceMethod yX3_raise]
def wsX3_numberAt_r2 : List Cond := [Cond.selects RX3 yX3_raise yX3_raise, Cond.code yX3_raise cX3_raise 3 none, Cond.methodLink RX3 49 yX3_squareInto, Cond.instanceMethod yX3_squareInto, Cond.selects RX3 yX3_squareInto yX3_squareInto, Cond.code yX3_squareInto cX3_squareInto 4 none, Cond.fieldLink RX3 18 "SealedBox$Onward" "product" "[I", Cond.methodLink RX3 52 yX3_reduce, Cond.instanceMethod yX3_reduce, Cond.selects RX3 yX3_reduce yX3_reduce, Cond.code yX3_reduce cX3_reduce 4 none]
def wsX3_numberAt : List Cond := .code yX3_numberAt cX3_numberAt 6 (some .int) :: ((wsX3_numberAt_r1 ++ wsX3_numberAt_r2) ++ wsX60 ++ wsX30 ++ wsX40)
def wsX4_fillInverses : List Cond := .code yX4_fillInverses cX4_fillInverses 2 none :: ([.fieldLink RX4 9 "SealedBox$PrimeField" "inverses" "[I", .fieldLink RX4 15 "SealedBox$PrimeField" "p" "I"] ++ wsX40)
def wsX4_init : List Cond := .code yX4_init cX4_init 1 none :: ([.methodLink RX4 3 objectInit, .instanceMethod objectInit, .code objectInit ⟨#[0xb1]⟩ 1 none, .arrayClass .int, .fieldLink RX4 9 "SealedBox$PrimeField" "inverses" "[I", .fieldLink RX4 15 "SealedBox$PrimeField" "p" "I", .methodLink RX4 19 yX4_fillInverses, .instanceMethod yX4_fillInverses, .selects RX4 yX4_fillInverses yX4_fillInverses, .initialized RX4, .code yX4_fillInverses cX4_fillInverses 2 none] ++ wsX40)
def wsX4_isPrime : List Cond := .code yX4_isPrime cX4_isPrime 2 (some .boolean) :: ([])
def wsX4_become : List Cond := .code yX4_become cX4_become 2 (some .boolean) :: ([.fieldLink RX4 15 "SealedBox$PrimeField" "p" "I", .methodLink RX4 22 yX4_isPrime, .static yX4_isPrime, .initialized RX4, .code yX4_isPrime cX4_isPrime 2 (some .boolean), .methodLink RX4 19 yX4_fillInverses, .instanceMethod yX4_fillInverses, .selects RX4 yX4_fillInverses yX4_fillInverses, .code yX4_fillInverses cX4_fillInverses 2 none, .fieldLink RX4 9 "SealedBox$PrimeField" "inverses" "[I"] ++ wsX40)
def wsX4_has : List Cond := .code yX4_has cX4_has 2 (some .boolean) :: ([.fieldLink RX4 15 "SealedBox$PrimeField" "p" "I"] ++ wsX40)
def wsX5_init_r1 : List Cond := [Cond.methodLink RX5 3 objectInit, Cond.instanceMethod objectInit, Cond.code objectInit ⟨#[0xb1]⟩ 1 none, Cond.arrayClass .int, Cond.fieldLink RX5 11 "SealedBox$Recovery" "answers" "[I", Cond.fieldLink RX5 15 "SealedBox$Recovery" "keyNumbers" "[I", Cond.fieldLink RX5 18 "SealedBox$Recovery" "keyExponents" "[I", Cond.fieldLink RX5 21 "SealedBox$Recovery" "others" "[I", Cond.fieldLink RX5 24 "SealedBox$Recovery" "keys" "I", Cond.fieldLink RX5 28 "SealedBox$Recovery" "numbers" "LSealedBox$PrimeField;", Cond.classLink RX5 32 RX6, Cond.instantiable RX6 8, Cond.initialized RX6, Cond.fieldLink RX5 37 "SealedBox$Recovery" "register" "LSealedBox$Register;", Cond.classLink RX5 41 RX1, Cond.instantiable RX1 7, Cond.initialized RX1, Cond.fieldLink RX5 46 "SealedBox$Recovery" "found" "LSealedBox$Box;", Cond.methodLink RX5 34 yX6_init, Cond.instanceMethod yX6_init, Cond.code yX6_init cX6_init 2 none, Cond.methodLink RX6 3 objectInit, Cond.fieldLink RX6 9 "SealedBox$Register" "now" "[I", Cond.fieldLink RX6 15 "SealedBox$Register" "former" "[I"]
def wsX5_init_r2 : List Cond := [Cond.fieldLink RX6 18 "SealedBox$Register" "spare" "[I", Cond.fieldLink RX6 21 "SealedBox$Register" "length" "I", Cond.fieldLink RX6 25 "SealedBox$Register" "formerLength" "I", Cond.fieldLink RX6 28 "SealedBox$Register" "formerError" "I", Cond.fieldLink RX6 31 "SealedBox$Register" "moved" "I", Cond.fieldLink RX6 34 "SealedBox$Register" "numbers" "LSealedBox$PrimeField;", Cond.methodLink RX5 43 yX1_init, Cond.instanceMethod yX1_init, Cond.code yX1_init cX1_init 3 none, Cond.methodLink RX1 3 objectInit, Cond.fieldLink RX1 11 "SealedBox$Box" "parts" "[I", Cond.fieldLink RX1 15 "SealedBox$Box" "lineForms" "[I", Cond.fieldLink RX1 18 "SealedBox$Box" "line" "[I", Cond.fieldLink RX1 21 "SealedBox$Box" "kind" "I", Cond.fieldLink RX1 25 "SealedBox$Box" "terms" "I", Cond.fieldLink RX1 28 "SealedBox$Box" "numbers" "LSealedBox$PrimeField;", Cond.fieldLink RX1 32 "SealedBox$Box" "bases" "LSealedBox$Bases;"]
def wsX5_init : List Cond := .code yX5_init cX5_init 3 none :: ((wsX5_init_r1 ++ wsX5_init_r2) ++ wsX50 ++ wsX60 ++ wsX10)
def wsX5_askPowers_r1 : List Cond := [Cond.fieldLink RX5 11 "SealedBox$Recovery" "answers" "[I", Cond.fieldLink RX5 28 "SealedBox$Recovery" "numbers" "LSealedBox$PrimeField;", Cond.methodLink RX5 82 yX1_answer, Cond.instanceMethod yX1_answer, Cond.selects RX1 yX1_answer yX1_answer, Cond.initialized RX1, Cond.code yX1_answer cX1_answer 6 (some .int), Cond.fieldLink RX1 25 "SealedBox$Box" "terms" "I", Cond.fieldLink RX1 28 "SealedBox$Box" "numbers" "LSealedBox$PrimeField;", Cond.fieldLink RX1 32 "SealedBox$Box" "bases" "LSealedBox$Bases;", Cond.fieldLink RX1 21 "SealedBox$Box" "kind" "I", Cond.methodLink RX1 36 yX1_ofTwoLetters, Cond.instanceMethod yX1_ofTwoLetters, Cond.selects RX1 yX1_ofTwoLetters yX1_ofTwoLetters, Cond.code yX1_ofTwoLetters cX1_ofTwoLetters 5 (some .int), Cond.methodLink RX1 40 yX1_part, Cond.instanceMethod yX1_part, Cond.selects RX1 yX1_part yX1_part, Cond.code yX1_part cX1_part 4 (some .int), Cond.fieldLink RX1 11 "SealedBox$Box" "parts" "[I", Cond.methodLink RX1 44 yX0_letter, Cond.instanceMethod yX0_letter, Cond.selects RX0 yX0_letter yX0_letter, Cond.initialized RX0]
def wsX5_askPowers_r2 : List Cond := [Cond.code yX0_letter cX0_letter 4 (some .int), Cond.fieldLink RX0 18 "SealedBox$Bases" "numbers" "LSealedBox$PrimeField;", Cond.methodLink RX0 22 yX0_scaled, Cond.instanceMethod yX0_scaled, Cond.selects RX0 yX0_scaled yX0_scaled, Cond.code yX0_scaled cX0_scaled 3 (some .int), Cond.fieldLink RX0 15 "SealedBox$Bases" "scale" "I", Cond.methodLink RX0 26 yX0_shifted, Cond.instanceMethod yX0_shifted, Cond.selects RX0 yX0_shifted yX0_shifted, Cond.code yX0_shifted cX0_shifted 3 (some .int), Cond.fieldLink RX0 9 "SealedBox$Bases" "shift" "I", Cond.methodLink RX0 34 yX4_plus, Cond.instanceMethod yX4_plus, Cond.selects RX4 yX4_plus yX4_plus, Cond.initialized RX4, Cond.code yX4_plus cX4_plus 3 (some .int), Cond.fieldLink RX4 15 "SealedBox$PrimeField" "p" "I", Cond.methodLink RX0 29 yX4_power, Cond.instanceMethod yX4_power, Cond.selects RX4 yX4_power yX4_power, Cond.code yX4_power cX4_power 5 (some .int), Cond.methodLink RX0 37 yX4_times, Cond.instanceMethod yX4_times]
def wsX5_askPowers_r3 : List Cond := [Cond.selects RX4 yX4_times yX4_times, Cond.code yX4_times cX4_times 3 (some .int), Cond.methodLink RX1 49 yX4_times, Cond.methodLink RX5 86 yX4_times]
def wsX5_askPowers : List Cond := .code yX5_askPowers cX5_askPowers 6 none :: ((wsX5_askPowers_r1 ++ (wsX5_askPowers_r2 ++ wsX5_askPowers_r3)) ++ wsX50 ++ wsX10 ++ wsX40 ++ wsX00)
def wsX6_read_r1 : List Cond := [Cond.methodLink RX6 38 yX6_begin, Cond.instanceMethod yX6_begin, Cond.selects RX6 yX6_begin yX6_begin, Cond.initialized RX6, Cond.code yX6_begin cX6_begin 2 none, Cond.fieldLink RX6 9 "SealedBox$Register" "now" "[I", Cond.fieldLink RX6 15 "SealedBox$Register" "former" "[I", Cond.fieldLink RX6 21 "SealedBox$Register" "length" "I", Cond.fieldLink RX6 25 "SealedBox$Register" "formerLength" "I", Cond.fieldLink RX6 28 "SealedBox$Register" "formerError" "I", Cond.fieldLink RX6 31 "SealedBox$Register" "moved" "I", Cond.methodLink RX6 41 yX6_take, Cond.instanceMethod yX6_take, Cond.selects RX6 yX6_take yX6_take, Cond.code yX6_take cX6_take 6 none, Cond.fieldLink RX6 34 "SealedBox$Register" "numbers" "LSealedBox$PrimeField;", Cond.fieldLink RX6 18 "SealedBox$Register" "spare" "[I", Cond.methodLink RX6 45 arraycopyName, Cond.native arraycopyName, Cond.static arraycopyName, Cond.initialized "java/lang/System", Cond.methodLink RX6 51 yX6_errorAt, Cond.instanceMethod yX6_errorAt, Cond.selects RX6 yX6_errorAt yX6_errorAt]
def wsX6_read_r2 : List Cond := [Cond.code yX6_errorAt cX6_errorAt 5 (some .int), Cond.methodLink RX6 60 yX4_over, Cond.instanceMethod yX4_over, Cond.selects RX4 yX4_over yX4_over, Cond.initialized RX4, Cond.code yX4_over cX4_over 3 (some .int), Cond.fieldLink RX4 15 "SealedBox$PrimeField" "p" "I", Cond.fieldLink RX4 9 "SealedBox$PrimeField" "inverses" "[I", Cond.methodLink RX6 64 yX6_addFormer, Cond.instanceMethod yX6_addFormer, Cond.selects RX6 yX6_addFormer yX6_addFormer, Cond.code yX6_addFormer cX6_addFormer 3 none]
def wsX6_read : List Cond := .code yX6_read cX6_read 4 none :: ((wsX6_read_r1 ++ wsX6_read_r2) ++ wsX60 ++ wsX40)
def wsX5_isRoot : List Cond := .code yX5_isRoot cX5_isRoot 4 (some .boolean) :: ([.fieldLink RX5 37 "SealedBox$Recovery" "register" "LSealedBox$Register;", .fieldLink RX5 28 "SealedBox$Recovery" "numbers" "LSealedBox$PrimeField;", .methodLink RX5 86 yX4_times, .instanceMethod yX4_times, .selects RX4 yX4_times yX4_times, .initialized RX4, .code yX4_times cX4_times 3 (some .int), .fieldLink RX4 15 "SealedBox$PrimeField" "p" "I", .methodLink RX5 99 yX6_weight, .instanceMethod yX6_weight, .selects RX6 yX6_weight yX6_weight, .initialized RX6, .code yX6_weight cX6_weight 2 (some .int), .fieldLink RX6 9 "SealedBox$Register" "now" "[I", .fieldLink RX6 34 "SealedBox$Register" "numbers" "LSealedBox$PrimeField;", .methodLink RX6 68 yX4_less, .instanceMethod yX4_less, .selects RX4 yX4_less yX4_less, .code yX4_less cX4_less 3 (some .int), .methodLink RX5 102 yX4_less] ++ wsX50 ++ wsX60 ++ wsX40)
def wsX5_addKey : List Cond := .code yX5_addKey cX5_addKey 5 (some .boolean) :: ([.fieldLink RX5 24 "SealedBox$Recovery" "keys" "I", .fieldLink RX5 37 "SealedBox$Recovery" "register" "LSealedBox$Register;", .fieldLink RX5 15 "SealedBox$Recovery" "keyNumbers" "[I", .fieldLink RX5 18 "SealedBox$Recovery" "keyExponents" "[I"] ++ wsX50 ++ wsX60)
def wsX5_findKeys_r1 : List Cond := [Cond.fieldLink RX5 24 "SealedBox$Recovery" "keys" "I", Cond.fieldLink RX5 28 "SealedBox$Recovery" "numbers" "LSealedBox$PrimeField;", Cond.fieldLink RX5 37 "SealedBox$Recovery" "register" "LSealedBox$Register;", Cond.methodLink RX5 92 yX5_isRoot, Cond.instanceMethod yX5_isRoot, Cond.selects RX5 yX5_isRoot yX5_isRoot, Cond.initialized RX5, Cond.code yX5_isRoot cX5_isRoot 4 (some .boolean), Cond.methodLink RX5 86 yX4_times, Cond.instanceMethod yX4_times, Cond.selects RX4 yX4_times yX4_times, Cond.initialized RX4, Cond.code yX4_times cX4_times 3 (some .int), Cond.fieldLink RX4 15 "SealedBox$PrimeField" "p" "I", Cond.methodLink RX5 99 yX6_weight, Cond.instanceMethod yX6_weight, Cond.selects RX6 yX6_weight yX6_weight, Cond.initialized RX6, Cond.code yX6_weight cX6_weight 2 (some .int), Cond.fieldLink RX6 9 "SealedBox$Register" "now" "[I", Cond.fieldLink RX6 34 "SealedBox$Register" "numbers" "LSealedBox$PrimeField;", Cond.methodLink RX6 68 yX4_less, Cond.instanceMethod yX4_less, Cond.selects RX4 yX4_less yX4_less]
def wsX5_findKeys_r2 : List Cond := [Cond.code yX4_less cX4_less 3 (some .int), Cond.methodLink RX5 102 yX4_less, Cond.methodLink RX5 96 yX5_addKey, Cond.instanceMethod yX5_addKey, Cond.selects RX5 yX5_addKey yX5_addKey, Cond.code yX5_addKey cX5_addKey 5 (some .boolean), Cond.fieldLink RX5 15 "SealedBox$Recovery" "keyNumbers" "[I", Cond.fieldLink RX5 18 "SealedBox$Recovery" "keyExponents" "[I"]
def wsX5_findKeys : List Cond := .code yX5_findKeys cX5_findKeys 7 (some .boolean) :: ((wsX5_findKeys_r1 ++ wsX5_findKeys_r2) ++ wsX50 ++ wsX60 ++ wsX40)
def wsX5_keysDiffer : List Cond := .code yX5_keysDiffer cX5_keysDiffer 3 (some .boolean) :: ([.fieldLink RX5 24 "SealedBox$Recovery" "keys" "I", .fieldLink RX5 15 "SealedBox$Recovery" "keyNumbers" "[I"] ++ wsX50)
def wsX5_multiplyBy : List Cond := .code yX5_multiplyBy cX5_multiplyBy 4 none :: ([.fieldLink RX5 21 "SealedBox$Recovery" "others" "[I", .fieldLink RX5 28 "SealedBox$Recovery" "numbers" "LSealedBox$PrimeField;", .methodLink RX5 86 yX4_times, .instanceMethod yX4_times, .selects RX4 yX4_times yX4_times, .initialized RX4, .code yX4_times cX4_times 3 (some .int), .fieldLink RX4 15 "SealedBox$PrimeField" "p" "I", .methodLink RX5 102 yX4_less, .instanceMethod yX4_less, .selects RX4 yX4_less yX4_less, .code yX4_less cX4_less 3 (some .int)] ++ wsX50 ++ wsX40)
def wsX5_multiplyOthers : List Cond := .code yX5_multiplyOthers cX5_multiplyOthers 3 none :: ([.fieldLink RX5 21 "SealedBox$Recovery" "others" "[I", .fieldLink RX5 24 "SealedBox$Recovery" "keys" "I", .fieldLink RX5 15 "SealedBox$Recovery" "keyNumbers" "[I", .methodLink RX5 118 yX5_multiplyBy, .instanceMethod yX5_multiplyBy, .selects RX5 yX5_multiplyBy yX5_multiplyBy, .initialized RX5, .code yX5_multiplyBy cX5_multiplyBy 4 none, .fieldLink RX5 28 "SealedBox$Recovery" "numbers" "LSealedBox$PrimeField;", .methodLink RX5 86 yX4_times, .instanceMethod yX4_times, .selects RX4 yX4_times yX4_times, .initialized RX4, .code yX4_times cX4_times 3 (some .int), .fieldLink RX4 15 "SealedBox$PrimeField" "p" "I", .methodLink RX5 102 yX4_less, .instanceMethod yX4_less, .selects RX4 yX4_less yX4_less, .code yX4_less cX4_less 3 (some .int)] ++ wsX50 ++ wsX40)
def wsX5_coefficient_r1 : List Cond := [Cond.fieldLink RX5 24 "SealedBox$Recovery" "keys" "I", Cond.fieldLink RX5 21 "SealedBox$Recovery" "others" "[I", Cond.fieldLink RX5 11 "SealedBox$Recovery" "answers" "[I", Cond.fieldLink RX5 28 "SealedBox$Recovery" "numbers" "LSealedBox$PrimeField;", Cond.fieldLink RX5 15 "SealedBox$Recovery" "keyNumbers" "[I", Cond.methodLink RX5 105 yX5_multiplyOthers, Cond.instanceMethod yX5_multiplyOthers, Cond.selects RX5 yX5_multiplyOthers yX5_multiplyOthers, Cond.initialized RX5, Cond.code yX5_multiplyOthers cX5_multiplyOthers 3 none, Cond.methodLink RX5 118 yX5_multiplyBy, Cond.instanceMethod yX5_multiplyBy, Cond.selects RX5 yX5_multiplyBy yX5_multiplyBy, Cond.code yX5_multiplyBy cX5_multiplyBy 4 none, Cond.methodLink RX5 86 yX4_times, Cond.instanceMethod yX4_times, Cond.selects RX4 yX4_times yX4_times, Cond.initialized RX4, Cond.code yX4_times cX4_times 3 (some .int), Cond.fieldLink RX4 15 "SealedBox$PrimeField" "p" "I", Cond.methodLink RX5 102 yX4_less, Cond.instanceMethod yX4_less, Cond.selects RX4 yX4_less yX4_less, Cond.code yX4_less cX4_less 3 (some .int)]
def wsX5_coefficient_r2 : List Cond := [Cond.methodLink RX5 109 yX4_plus, Cond.instanceMethod yX4_plus, Cond.selects RX4 yX4_plus yX4_plus, Cond.code yX4_plus cX4_plus 3 (some .int), Cond.methodLink RX5 115 yX4_over, Cond.instanceMethod yX4_over, Cond.selects RX4 yX4_over yX4_over, Cond.code yX4_over cX4_over 3 (some .int), Cond.fieldLink RX4 9 "SealedBox$PrimeField" "inverses" "[I"]
def wsX5_coefficient : List Cond := .code yX5_coefficient cX5_coefficient 5 (some .int) :: ((wsX5_coefficient_r1 ++ wsX5_coefficient_r2) ++ wsX50 ++ wsX40)
def wsX5_lastAnswerFits : List Cond := .code yX5_lastAnswerFits cX5_lastAnswerFits 3 (some .boolean) :: ([.fieldLink RX5 24 "SealedBox$Recovery" "keys" "I", .fieldLink RX5 28 "SealedBox$Recovery" "numbers" "LSealedBox$PrimeField;", .fieldLink RX5 46 "SealedBox$Recovery" "found" "LSealedBox$Box;", .fieldLink RX5 15 "SealedBox$Recovery" "keyNumbers" "[I", .fieldLink RX5 11 "SealedBox$Recovery" "answers" "[I", .methodLink RX5 121 yX1_part, .instanceMethod yX1_part, .selects RX1 yX1_part yX1_part, .initialized RX1, .code yX1_part cX1_part 4 (some .int), .fieldLink RX1 11 "SealedBox$Box" "parts" "[I", .methodLink RX5 124 yX4_power, .instanceMethod yX4_power, .selects RX4 yX4_power yX4_power, .initialized RX4, .code yX4_power cX4_power 5 (some .int), .fieldLink RX4 15 "SealedBox$PrimeField" "p" "I", .methodLink RX5 86 yX4_times, .instanceMethod yX4_times, .selects RX4 yX4_times yX4_times, .code yX4_times cX4_times 3 (some .int)] ++ wsX50 ++ wsX40 ++ wsX10)
def wsX5_recover_r1 : List Cond := [Cond.fieldLink RX5 46 "SealedBox$Recovery" "found" "LSealedBox$Box;", Cond.fieldLink RX5 37 "SealedBox$Recovery" "register" "LSealedBox$Register;", Cond.fieldLink RX5 11 "SealedBox$Recovery" "answers" "[I", Cond.fieldLink RX5 24 "SealedBox$Recovery" "keys" "I", Cond.fieldLink RX5 18 "SealedBox$Recovery" "keyExponents" "[I", Cond.methodLink RX5 50 yX1_drop, Cond.instanceMethod yX1_drop, Cond.selects RX1 yX1_drop yX1_drop, Cond.initialized RX1, Cond.code yX1_drop cX1_drop 1 none, Cond.fieldLink RX1 25 "SealedBox$Box" "terms" "I", Cond.methodLink RX5 53 yX5_askPowers, Cond.instanceMethod yX5_askPowers, Cond.selects RX5 yX5_askPowers yX5_askPowers, Cond.initialized RX5, Cond.code yX5_askPowers cX5_askPowers 6 none, Cond.fieldLink RX5 28 "SealedBox$Recovery" "numbers" "LSealedBox$PrimeField;", Cond.methodLink RX5 82 yX1_answer, Cond.instanceMethod yX1_answer, Cond.selects RX1 yX1_answer yX1_answer, Cond.code yX1_answer cX1_answer 6 (some .int), Cond.fieldLink RX1 28 "SealedBox$Box" "numbers" "LSealedBox$PrimeField;", Cond.fieldLink RX1 32 "SealedBox$Box" "bases" "LSealedBox$Bases;", Cond.fieldLink RX1 21 "SealedBox$Box" "kind" "I"]
def wsX5_recover_r2 : List Cond := [Cond.methodLink RX1 36 yX1_ofTwoLetters, Cond.instanceMethod yX1_ofTwoLetters, Cond.selects RX1 yX1_ofTwoLetters yX1_ofTwoLetters, Cond.code yX1_ofTwoLetters cX1_ofTwoLetters 5 (some .int), Cond.methodLink RX1 40 yX1_part, Cond.instanceMethod yX1_part, Cond.selects RX1 yX1_part yX1_part, Cond.code yX1_part cX1_part 4 (some .int), Cond.fieldLink RX1 11 "SealedBox$Box" "parts" "[I", Cond.methodLink RX1 44 yX0_letter, Cond.instanceMethod yX0_letter, Cond.selects RX0 yX0_letter yX0_letter, Cond.initialized RX0, Cond.code yX0_letter cX0_letter 4 (some .int), Cond.fieldLink RX0 18 "SealedBox$Bases" "numbers" "LSealedBox$PrimeField;", Cond.methodLink RX0 22 yX0_scaled, Cond.instanceMethod yX0_scaled, Cond.selects RX0 yX0_scaled yX0_scaled, Cond.code yX0_scaled cX0_scaled 3 (some .int), Cond.fieldLink RX0 15 "SealedBox$Bases" "scale" "I", Cond.methodLink RX0 26 yX0_shifted, Cond.instanceMethod yX0_shifted, Cond.selects RX0 yX0_shifted yX0_shifted, Cond.code yX0_shifted cX0_shifted 3 (some .int)]
def wsX5_recover_r3 : List Cond := [Cond.fieldLink RX0 9 "SealedBox$Bases" "shift" "I", Cond.methodLink RX0 34 yX4_plus, Cond.instanceMethod yX4_plus, Cond.selects RX4 yX4_plus yX4_plus, Cond.initialized RX4, Cond.code yX4_plus cX4_plus 3 (some .int), Cond.fieldLink RX4 15 "SealedBox$PrimeField" "p" "I", Cond.methodLink RX0 29 yX4_power, Cond.instanceMethod yX4_power, Cond.selects RX4 yX4_power yX4_power, Cond.code yX4_power cX4_power 5 (some .int), Cond.methodLink RX0 37 yX4_times, Cond.instanceMethod yX4_times, Cond.selects RX4 yX4_times yX4_times, Cond.code yX4_times cX4_times 3 (some .int), Cond.methodLink RX1 49 yX4_times, Cond.methodLink RX5 86 yX4_times, Cond.methodLink RX5 57 yX6_read, Cond.instanceMethod yX6_read, Cond.selects RX6 yX6_read yX6_read, Cond.initialized RX6, Cond.code yX6_read cX6_read 4 none, Cond.methodLink RX6 38 yX6_begin, Cond.instanceMethod yX6_begin]
def wsX5_recover_r4 : List Cond := [Cond.selects RX6 yX6_begin yX6_begin, Cond.code yX6_begin cX6_begin 2 none, Cond.fieldLink RX6 9 "SealedBox$Register" "now" "[I", Cond.fieldLink RX6 15 "SealedBox$Register" "former" "[I", Cond.fieldLink RX6 21 "SealedBox$Register" "length" "I", Cond.fieldLink RX6 25 "SealedBox$Register" "formerLength" "I", Cond.fieldLink RX6 28 "SealedBox$Register" "formerError" "I", Cond.fieldLink RX6 31 "SealedBox$Register" "moved" "I", Cond.methodLink RX6 41 yX6_take, Cond.instanceMethod yX6_take, Cond.selects RX6 yX6_take yX6_take, Cond.code yX6_take cX6_take 6 none, Cond.fieldLink RX6 34 "SealedBox$Register" "numbers" "LSealedBox$PrimeField;", Cond.fieldLink RX6 18 "SealedBox$Register" "spare" "[I", Cond.methodLink RX6 45 arraycopyName, Cond.native arraycopyName, Cond.static arraycopyName, Cond.initialized "java/lang/System", Cond.methodLink RX6 51 yX6_errorAt, Cond.instanceMethod yX6_errorAt, Cond.selects RX6 yX6_errorAt yX6_errorAt, Cond.code yX6_errorAt cX6_errorAt 5 (some .int), Cond.methodLink RX6 60 yX4_over, Cond.instanceMethod yX4_over]
def wsX5_recover_r5 : List Cond := [Cond.selects RX4 yX4_over yX4_over, Cond.code yX4_over cX4_over 3 (some .int), Cond.fieldLink RX4 9 "SealedBox$PrimeField" "inverses" "[I", Cond.methodLink RX6 64 yX6_addFormer, Cond.instanceMethod yX6_addFormer, Cond.selects RX6 yX6_addFormer yX6_addFormer, Cond.code yX6_addFormer cX6_addFormer 3 none, Cond.methodLink RX5 64 yX5_findKeys, Cond.instanceMethod yX5_findKeys, Cond.selects RX5 yX5_findKeys yX5_findKeys, Cond.code yX5_findKeys cX5_findKeys 7 (some .boolean), Cond.methodLink RX5 92 yX5_isRoot, Cond.instanceMethod yX5_isRoot, Cond.selects RX5 yX5_isRoot yX5_isRoot, Cond.code yX5_isRoot cX5_isRoot 4 (some .boolean), Cond.methodLink RX5 99 yX6_weight, Cond.instanceMethod yX6_weight, Cond.selects RX6 yX6_weight yX6_weight, Cond.code yX6_weight cX6_weight 2 (some .int), Cond.methodLink RX6 68 yX4_less, Cond.instanceMethod yX4_less, Cond.selects RX4 yX4_less yX4_less, Cond.code yX4_less cX4_less 3 (some .int), Cond.methodLink RX5 102 yX4_less]
def wsX5_recover_r6 : List Cond := [Cond.methodLink RX5 96 yX5_addKey, Cond.instanceMethod yX5_addKey, Cond.selects RX5 yX5_addKey yX5_addKey, Cond.code yX5_addKey cX5_addKey 5 (some .boolean), Cond.fieldLink RX5 15 "SealedBox$Recovery" "keyNumbers" "[I", Cond.methodLink RX5 68 yX5_keysDiffer, Cond.instanceMethod yX5_keysDiffer, Cond.selects RX5 yX5_keysDiffer yX5_keysDiffer, Cond.code yX5_keysDiffer cX5_keysDiffer 3 (some .boolean), Cond.methodLink RX5 71 yX5_coefficient, Cond.instanceMethod yX5_coefficient, Cond.selects RX5 yX5_coefficient yX5_coefficient, Cond.code yX5_coefficient cX5_coefficient 5 (some .int), Cond.fieldLink RX5 21 "SealedBox$Recovery" "others" "[I", Cond.methodLink RX5 105 yX5_multiplyOthers, Cond.instanceMethod yX5_multiplyOthers, Cond.selects RX5 yX5_multiplyOthers yX5_multiplyOthers, Cond.code yX5_multiplyOthers cX5_multiplyOthers 3 none, Cond.methodLink RX5 118 yX5_multiplyBy, Cond.instanceMethod yX5_multiplyBy, Cond.selects RX5 yX5_multiplyBy yX5_multiplyBy, Cond.code yX5_multiplyBy cX5_multiplyBy 4 none, Cond.methodLink RX5 109 yX4_plus, Cond.methodLink RX5 115 yX4_over]
def wsX5_recover_r7 : List Cond := [Cond.methodLink RX5 75 yX1_add, Cond.instanceMethod yX1_add, Cond.selects RX1 yX1_add yX1_add, Cond.code yX1_add cX1_add 6 (some .boolean), Cond.methodLink RX5 79 yX5_lastAnswerFits, Cond.instanceMethod yX5_lastAnswerFits, Cond.selects RX5 yX5_lastAnswerFits yX5_lastAnswerFits, Cond.code yX5_lastAnswerFits cX5_lastAnswerFits 3 (some .boolean), Cond.methodLink RX5 121 yX1_part, Cond.methodLink RX5 124 yX4_power]
def wsX5_recover : List Cond := .code yX5_recover cX5_recover 4 (some .boolean) :: ((wsX5_recover_r1 ++ (wsX5_recover_r2 ++ (wsX5_recover_r3 ++ (wsX5_recover_r4 ++ (wsX5_recover_r5 ++ (wsX5_recover_r6 ++ wsX5_recover_r7)))))) ++ wsX50 ++ wsX60 ++ wsX10 ++ wsX40 ++ wsX00)
def wsX7_init_r1 : List Cond := [Cond.methodLink RX7 1 objectInit, Cond.instanceMethod objectInit, Cond.code objectInit ⟨#[0xb1]⟩ 1 none, Cond.classLink RX7 7 RX4, Cond.instantiable RX4 2, Cond.initialized RX4, Cond.fieldLink RX7 10 "SealedBox" "numbers" "LSealedBox$PrimeField;", Cond.classLink RX7 16 RX0, Cond.instantiable RX0 3, Cond.initialized RX0, Cond.fieldLink RX7 21 "SealedBox" "bases" "LSealedBox$Bases;", Cond.classLink RX7 25 RX1, Cond.instantiable RX1 7, Cond.initialized RX1, Cond.fieldLink RX7 30 "SealedBox" "first" "LSealedBox$Box;", Cond.fieldLink RX7 34 "SealedBox" "second" "LSealedBox$Box;", Cond.arrayClass .int, Cond.fieldLink RX7 37 "SealedBox" "row" "[I", Cond.classLink RX7 41 RX6, Cond.instantiable RX6 8, Cond.initialized RX6, Cond.fieldLink RX7 44 "SealedBox" "shortest" "LSealedBox$Register;", Cond.classLink RX7 48 RX3, Cond.instantiable RX3 5]
def wsX7_init_r2 : List Cond := [Cond.initialized RX3, Cond.fieldLink RX7 51 "SealedBox" "onward" "LSealedBox$Onward;", Cond.classLink RX7 55 RX2, Cond.instantiable RX2 4, Cond.initialized RX2, Cond.fieldLink RX7 58 "SealedBox" "lies" "LSealedBox$LieSearch;", Cond.classLink RX7 62 RX5, Cond.instantiable RX5 8, Cond.initialized RX5, Cond.fieldLink RX7 65 "SealedBox" "recovery" "LSealedBox$Recovery;", Cond.fieldLink RX7 69 "SealedBox" "rowLength" "I", Cond.fieldLink RX7 73 "SealedBox" "asks" "I", Cond.fieldLink RX7 76 "SealedBox" "traced" "J", Cond.methodLink RX7 9 yX4_init, Cond.instanceMethod yX4_init, Cond.code yX4_init cX4_init 1 none, Cond.methodLink RX4 3 objectInit, Cond.fieldLink RX4 9 "SealedBox$PrimeField" "inverses" "[I", Cond.fieldLink RX4 15 "SealedBox$PrimeField" "p" "I", Cond.methodLink RX4 19 yX4_fillInverses, Cond.instanceMethod yX4_fillInverses, Cond.selects RX4 yX4_fillInverses yX4_fillInverses, Cond.code yX4_fillInverses cX4_fillInverses 2 none, Cond.methodLink RX7 18 yX0_init]
def wsX7_init_r3 : List Cond := [Cond.instanceMethod yX0_init, Cond.code yX0_init cX0_init 2 none, Cond.methodLink RX0 3 objectInit, Cond.fieldLink RX0 9 "SealedBox$Bases" "shift" "I", Cond.fieldLink RX0 15 "SealedBox$Bases" "scale" "I", Cond.fieldLink RX0 18 "SealedBox$Bases" "numbers" "LSealedBox$PrimeField;", Cond.methodLink RX7 27 yX1_init, Cond.instanceMethod yX1_init, Cond.code yX1_init cX1_init 3 none, Cond.methodLink RX1 3 objectInit, Cond.fieldLink RX1 11 "SealedBox$Box" "parts" "[I", Cond.fieldLink RX1 15 "SealedBox$Box" "lineForms" "[I", Cond.fieldLink RX1 18 "SealedBox$Box" "line" "[I", Cond.fieldLink RX1 21 "SealedBox$Box" "kind" "I", Cond.fieldLink RX1 25 "SealedBox$Box" "terms" "I", Cond.fieldLink RX1 28 "SealedBox$Box" "numbers" "LSealedBox$PrimeField;", Cond.fieldLink RX1 32 "SealedBox$Box" "bases" "LSealedBox$Bases;", Cond.methodLink RX7 43 yX6_init, Cond.instanceMethod yX6_init, Cond.code yX6_init cX6_init 2 none, Cond.methodLink RX6 3 objectInit, Cond.fieldLink RX6 9 "SealedBox$Register" "now" "[I", Cond.fieldLink RX6 15 "SealedBox$Register" "former" "[I", Cond.fieldLink RX6 18 "SealedBox$Register" "spare" "[I"]
def wsX7_init_r4 : List Cond := [Cond.fieldLink RX6 21 "SealedBox$Register" "length" "I", Cond.fieldLink RX6 25 "SealedBox$Register" "formerLength" "I", Cond.fieldLink RX6 28 "SealedBox$Register" "formerError" "I", Cond.fieldLink RX6 31 "SealedBox$Register" "moved" "I", Cond.fieldLink RX6 34 "SealedBox$Register" "numbers" "LSealedBox$PrimeField;", Cond.methodLink RX7 50 yX3_init, Cond.instanceMethod yX3_init, Cond.code yX3_init cX3_init 2 none, Cond.methodLink RX3 3 objectInit, Cond.fieldLink RX3 9 "SealedBox$Onward" "weights" "[I", Cond.fieldLink RX3 15 "SealedBox$Onward" "rest" "[I", Cond.fieldLink RX3 18 "SealedBox$Onward" "product" "[I", Cond.fieldLink RX3 21 "SealedBox$Onward" "length" "I", Cond.fieldLink RX3 25 "SealedBox$Onward" "numbers" "LSealedBox$PrimeField;", Cond.methodLink RX7 57 yX2_init, Cond.instanceMethod yX2_init, Cond.code yX2_init cX2_init 2 none, Cond.methodLink RX2 3 objectInit, Cond.fieldLink RX2 9 "SealedBox$LieSearch" "mended" "[I", Cond.fieldLink RX2 15 "SealedBox$LieSearch" "numbers" "LSealedBox$PrimeField;", Cond.classLink RX2 19 RX6, Cond.fieldLink RX2 24 "SealedBox$LieSearch" "ahead" "LSealedBox$Register;", Cond.fieldLink RX2 28 "SealedBox$LieSearch" "trial" "LSealedBox$Register;", Cond.methodLink RX2 21 yX6_init]
def wsX7_init_r5 : List Cond := [Cond.methodLink RX7 64 yX5_init, Cond.instanceMethod yX5_init, Cond.code yX5_init cX5_init 3 none, Cond.methodLink RX5 3 objectInit, Cond.fieldLink RX5 11 "SealedBox$Recovery" "answers" "[I", Cond.fieldLink RX5 15 "SealedBox$Recovery" "keyNumbers" "[I", Cond.fieldLink RX5 18 "SealedBox$Recovery" "keyExponents" "[I", Cond.fieldLink RX5 21 "SealedBox$Recovery" "others" "[I", Cond.fieldLink RX5 24 "SealedBox$Recovery" "keys" "I", Cond.fieldLink RX5 28 "SealedBox$Recovery" "numbers" "LSealedBox$PrimeField;", Cond.classLink RX5 32 RX6, Cond.fieldLink RX5 37 "SealedBox$Recovery" "register" "LSealedBox$Register;", Cond.classLink RX5 41 RX1, Cond.fieldLink RX5 46 "SealedBox$Recovery" "found" "LSealedBox$Box;", Cond.methodLink RX5 34 yX6_init, Cond.methodLink RX5 43 yX1_init]
def wsX7_init : List Cond := .code yX7_init cX7_init 1 none :: ((wsX7_init_r1 ++ (wsX7_init_r2 ++ (wsX7_init_r3 ++ (wsX7_init_r4 ++ wsX7_init_r5)))) ++ wsX40 ++ wsX70 ++ wsX00 ++ wsX10 ++ wsX60 ++ wsX30 ++ wsX20 ++ wsX50)
def wsX7_field : List Cond := .code yX7_field cX7_field 3 (some .int) :: ([.fieldLink RX7 10 "SealedBox" "numbers" "LSealedBox$PrimeField;", .fieldLink RX7 30 "SealedBox" "first" "LSealedBox$Box;", .fieldLink RX7 34 "SealedBox" "second" "LSealedBox$Box;", .fieldLink RX7 69 "SealedBox" "rowLength" "I", .methodLink RX7 83 yX4_become, .instanceMethod yX4_become, .selects RX4 yX4_become yX4_become, .initialized RX4, .code yX4_become cX4_become 2 (some .boolean), .fieldLink RX4 15 "SealedBox$PrimeField" "p" "I", .methodLink RX4 22 yX4_isPrime, .static yX4_isPrime, .code yX4_isPrime cX4_isPrime 2 (some .boolean), .methodLink RX4 19 yX4_fillInverses, .instanceMethod yX4_fillInverses, .selects RX4 yX4_fillInverses yX4_fillInverses, .code yX4_fillInverses cX4_fillInverses 2 none, .fieldLink RX4 9 "SealedBox$PrimeField" "inverses" "[I", .methodLink RX7 87 yX1_drop, .instanceMethod yX1_drop, .selects RX1 yX1_drop yX1_drop, .initialized RX1, .code yX1_drop cX1_drop 1 none, .fieldLink RX1 25 "SealedBox$Box" "terms" "I"] ++ wsX70 ++ wsX40 ++ wsX10)
def wsX7_setShift : List Cond := .code yX7_setShift cX7_setShift 3 (some .int) :: ([.fieldLink RX7 21 "SealedBox" "bases" "LSealedBox$Bases;"] ++ wsX70 ++ wsX00)
def wsX7_setScale : List Cond := .code yX7_setScale cX7_setScale 3 (some .int) :: ([.fieldLink RX7 21 "SealedBox" "bases" "LSealedBox$Bases;"] ++ wsX70 ++ wsX00)
def wsX7_isKind : List Cond := .code yX7_isKind cX7_isKind 1 (some .boolean) :: ([])
def wsX7_setKind : List Cond := .code yX7_setKind cX7_setKind 3 (some .int) :: ([.methodLink RX7 107 yX7_isKind, .static yX7_isKind, .initialized RX7, .code yX7_isKind cX7_isKind 1 (some .boolean)] ++ wsX10)
def wsX7_set : List Cond := .code yX7_set cX7_set 3 (some .int) :: ([.fieldLink RX7 30 "SealedBox" "first" "LSealedBox$Box;", .fieldLink RX7 34 "SealedBox" "second" "LSealedBox$Box;", .methodLink RX7 90 yX7_setShift, .instanceMethod yX7_setShift, .selects RX7 yX7_setShift yX7_setShift, .initialized RX7, .code yX7_setShift cX7_setShift 3 (some .int), .fieldLink RX7 21 "SealedBox" "bases" "LSealedBox$Bases;", .methodLink RX7 94 yX7_setScale, .instanceMethod yX7_setScale, .selects RX7 yX7_setScale yX7_setScale, .code yX7_setScale cX7_setScale 3 (some .int), .methodLink RX7 97 yX7_setKind, .static yX7_setKind, .code yX7_setKind cX7_setKind 3 (some .int), .methodLink RX7 107 yX7_isKind, .static yX7_isKind, .code yX7_isKind cX7_isKind 1 (some .boolean)] ++ wsX70 ++ wsX00 ++ wsX10)
def wsX7_form_r1 : List Cond := [Cond.fieldLink RX7 10 "SealedBox" "numbers" "LSealedBox$PrimeField;", Cond.fieldLink RX7 76 "SealedBox" "traced" "J", Cond.fieldLink RX7 21 "SealedBox" "bases" "LSealedBox$Bases;", Cond.methodLink RX7 107 yX7_isKind, Cond.static yX7_isKind, Cond.initialized RX7, Cond.code yX7_isKind cX7_isKind 1 (some .boolean), Cond.methodLink RX7 113 yX4_has, Cond.instanceMethod yX4_has, Cond.selects RX4 yX4_has yX4_has, Cond.initialized RX4, Cond.code yX4_has cX4_has 2 (some .boolean), Cond.fieldLink RX4 15 "SealedBox$PrimeField" "p" "I", Cond.methodLink RX7 116 yX7_isExponent, Cond.static yX7_isExponent, Cond.code yX7_isExponent cX7_isExponent 1 (some .boolean), Cond.methodLink RX7 119 yX0_bodiesAsked, Cond.static yX0_bodiesAsked, Cond.initialized RX0, Cond.code yX0_bodiesAsked cX0_bodiesAsked 1 (some .int), Cond.methodLink RX7 122 yX0_letter, Cond.instanceMethod yX0_letter, Cond.selects RX0 yX0_letter yX0_letter, Cond.code yX0_letter cX0_letter 4 (some .int)]
def wsX7_form_r2 : List Cond := [Cond.fieldLink RX0 18 "SealedBox$Bases" "numbers" "LSealedBox$PrimeField;", Cond.methodLink RX0 22 yX0_scaled, Cond.instanceMethod yX0_scaled, Cond.selects RX0 yX0_scaled yX0_scaled, Cond.code yX0_scaled cX0_scaled 3 (some .int), Cond.fieldLink RX0 15 "SealedBox$Bases" "scale" "I", Cond.methodLink RX0 26 yX0_shifted, Cond.instanceMethod yX0_shifted, Cond.selects RX0 yX0_shifted yX0_shifted, Cond.code yX0_shifted cX0_shifted 3 (some .int), Cond.fieldLink RX0 9 "SealedBox$Bases" "shift" "I", Cond.methodLink RX0 34 yX4_plus, Cond.instanceMethod yX4_plus, Cond.selects RX4 yX4_plus yX4_plus, Cond.code yX4_plus cX4_plus 3 (some .int), Cond.methodLink RX0 29 yX4_power, Cond.instanceMethod yX4_power, Cond.selects RX4 yX4_power yX4_power, Cond.code yX4_power cX4_power 5 (some .int), Cond.methodLink RX0 37 yX4_times, Cond.instanceMethod yX4_times, Cond.selects RX4 yX4_times yX4_times, Cond.code yX4_times cX4_times 3 (some .int)]
def wsX7_form : List Cond := .code yX7_form cX7_form 4 (some .int) :: ((wsX7_form_r1 ++ wsX7_form_r2) ++ wsX70 ++ wsX40 ++ wsX00)
def wsX7_isBox : List Cond := .code yX7_isBox cX7_isBox 1 (some .boolean) :: ([])
def wsX7_boxOf : List Cond := .code yX7_boxOf cX7_boxOf 2 (some (.object "SealedBox$Box")) :: ([.fieldLink RX7 30 "SealedBox" "first" "LSealedBox$Box;", .fieldLink RX7 34 "SealedBox" "second" "LSealedBox$Box;"] ++ wsX70)
def wsX7_term_r1 : List Cond := [Cond.fieldLink RX7 10 "SealedBox" "numbers" "LSealedBox$PrimeField;", Cond.methodLink RX7 126 yX7_isBox, Cond.static yX7_isBox, Cond.initialized RX7, Cond.code yX7_isBox cX7_isBox 1 (some .boolean), Cond.methodLink RX7 113 yX4_has, Cond.instanceMethod yX4_has, Cond.selects RX4 yX4_has yX4_has, Cond.initialized RX4, Cond.code yX4_has cX4_has 2 (some .boolean), Cond.fieldLink RX4 15 "SealedBox$PrimeField" "p" "I", Cond.methodLink RX7 116 yX7_isExponent, Cond.static yX7_isExponent, Cond.code yX7_isExponent cX7_isExponent 1 (some .boolean), Cond.methodLink RX7 129 yX7_boxOf, Cond.instanceMethod yX7_boxOf, Cond.selects RX7 yX7_boxOf yX7_boxOf, Cond.code yX7_boxOf cX7_boxOf 2 (some (.object "SealedBox$Box")), Cond.fieldLink RX7 30 "SealedBox" "first" "LSealedBox$Box;", Cond.fieldLink RX7 34 "SealedBox" "second" "LSealedBox$Box;", Cond.methodLink RX7 136 yX1_add, Cond.instanceMethod yX1_add, Cond.selects RX1 yX1_add yX1_add, Cond.initialized RX1]
def wsX7_term_r2 : List Cond := [Cond.code yX1_add cX1_add 6 (some .boolean), Cond.fieldLink RX1 25 "SealedBox$Box" "terms" "I", Cond.fieldLink RX1 11 "SealedBox$Box" "parts" "[I"]
def wsX7_term : List Cond := .code yX7_term cX7_term 8 (some .int) :: ((wsX7_term_r1 ++ wsX7_term_r2) ++ wsX70 ++ wsX10 ++ wsX40)
def wsX7_empty : List Cond := .code yX7_empty cX7_empty 4 (some .int) :: ([.methodLink RX7 126 yX7_isBox, .static yX7_isBox, .initialized RX7, .code yX7_isBox cX7_isBox 1 (some .boolean), .methodLink RX7 129 yX7_boxOf, .instanceMethod yX7_boxOf, .selects RX7 yX7_boxOf yX7_boxOf, .code yX7_boxOf cX7_boxOf 2 (some (.object "SealedBox$Box")), .fieldLink RX7 30 "SealedBox" "first" "LSealedBox$Box;", .fieldLink RX7 34 "SealedBox" "second" "LSealedBox$Box;", .methodLink RX7 87 yX1_drop, .instanceMethod yX1_drop, .selects RX1 yX1_drop yX1_drop, .initialized RX1, .code yX1_drop cX1_drop 1 none, .fieldLink RX1 25 "SealedBox$Box" "terms" "I"] ++ wsX10 ++ wsX70)
def wsX7_arePoint : List Cond := .code yX7_arePoint cX7_arePoint 4 (some .boolean) :: ([.fieldLink RX7 10 "SealedBox" "numbers" "LSealedBox$PrimeField;", .methodLink RX7 113 yX4_has, .instanceMethod yX4_has, .selects RX4 yX4_has yX4_has, .initialized RX4, .code yX4_has cX4_has 2 (some .boolean), .fieldLink RX4 15 "SealedBox$PrimeField" "p" "I"] ++ wsX70 ++ wsX40)
def wsX7_ask_r1 : List Cond := [Cond.fieldLink RX7 73 "SealedBox" "asks" "I", Cond.methodLink RX7 126 yX7_isBox, Cond.static yX7_isBox, Cond.initialized RX7, Cond.code yX7_isBox cX7_isBox 1 (some .boolean), Cond.methodLink RX7 140 yX7_arePoint, Cond.instanceMethod yX7_arePoint, Cond.selects RX7 yX7_arePoint yX7_arePoint, Cond.code yX7_arePoint cX7_arePoint 4 (some .boolean), Cond.fieldLink RX7 10 "SealedBox" "numbers" "LSealedBox$PrimeField;", Cond.methodLink RX7 113 yX4_has, Cond.instanceMethod yX4_has, Cond.selects RX4 yX4_has yX4_has, Cond.initialized RX4, Cond.code yX4_has cX4_has 2 (some .boolean), Cond.fieldLink RX4 15 "SealedBox$PrimeField" "p" "I", Cond.methodLink RX7 129 yX7_boxOf, Cond.instanceMethod yX7_boxOf, Cond.selects RX7 yX7_boxOf yX7_boxOf, Cond.code yX7_boxOf cX7_boxOf 2 (some (.object "SealedBox$Box")), Cond.fieldLink RX7 30 "SealedBox" "first" "LSealedBox$Box;", Cond.fieldLink RX7 34 "SealedBox" "second" "LSealedBox$Box;", Cond.methodLink RX7 144 yX1_answer, Cond.instanceMethod yX1_answer]
def wsX7_ask_r2 : List Cond := [Cond.selects RX1 yX1_answer yX1_answer, Cond.initialized RX1, Cond.code yX1_answer cX1_answer 6 (some .int), Cond.fieldLink RX1 25 "SealedBox$Box" "terms" "I", Cond.fieldLink RX1 28 "SealedBox$Box" "numbers" "LSealedBox$PrimeField;", Cond.fieldLink RX1 32 "SealedBox$Box" "bases" "LSealedBox$Bases;", Cond.fieldLink RX1 21 "SealedBox$Box" "kind" "I", Cond.methodLink RX1 36 yX1_ofTwoLetters, Cond.instanceMethod yX1_ofTwoLetters, Cond.selects RX1 yX1_ofTwoLetters yX1_ofTwoLetters, Cond.code yX1_ofTwoLetters cX1_ofTwoLetters 5 (some .int), Cond.methodLink RX1 40 yX1_part, Cond.instanceMethod yX1_part, Cond.selects RX1 yX1_part yX1_part, Cond.code yX1_part cX1_part 4 (some .int), Cond.fieldLink RX1 11 "SealedBox$Box" "parts" "[I", Cond.methodLink RX1 44 yX0_letter, Cond.instanceMethod yX0_letter, Cond.selects RX0 yX0_letter yX0_letter, Cond.initialized RX0, Cond.code yX0_letter cX0_letter 4 (some .int), Cond.fieldLink RX0 18 "SealedBox$Bases" "numbers" "LSealedBox$PrimeField;", Cond.methodLink RX0 22 yX0_scaled, Cond.instanceMethod yX0_scaled]
def wsX7_ask_r3 : List Cond := [Cond.selects RX0 yX0_scaled yX0_scaled, Cond.code yX0_scaled cX0_scaled 3 (some .int), Cond.fieldLink RX0 15 "SealedBox$Bases" "scale" "I", Cond.methodLink RX0 26 yX0_shifted, Cond.instanceMethod yX0_shifted, Cond.selects RX0 yX0_shifted yX0_shifted, Cond.code yX0_shifted cX0_shifted 3 (some .int), Cond.fieldLink RX0 9 "SealedBox$Bases" "shift" "I", Cond.methodLink RX0 34 yX4_plus, Cond.instanceMethod yX4_plus, Cond.selects RX4 yX4_plus yX4_plus, Cond.code yX4_plus cX4_plus 3 (some .int), Cond.methodLink RX0 29 yX4_power, Cond.instanceMethod yX4_power, Cond.selects RX4 yX4_power yX4_power, Cond.code yX4_power cX4_power 5 (some .int), Cond.methodLink RX0 37 yX4_times, Cond.instanceMethod yX4_times, Cond.selects RX4 yX4_times yX4_times, Cond.code yX4_times cX4_times 3 (some .int), Cond.methodLink RX1 49 yX4_times]
def wsX7_ask : List Cond := .code yX7_ask cX7_ask 5 (some .int) :: ((wsX7_ask_r1 ++ (wsX7_ask_r2 ++ wsX7_ask_r3)) ++ wsX70 ++ wsX40 ++ wsX10 ++ wsX00)
def wsX7_say : List Cond := .code yX7_say cX7_say 2 (some .int) :: ([.fieldLink RX7 10 "SealedBox" "numbers" "LSealedBox$PrimeField;", .fieldLink RX7 69 "SealedBox" "rowLength" "I", .fieldLink RX7 37 "SealedBox" "row" "[I", .methodLink RX7 113 yX4_has, .instanceMethod yX4_has, .selects RX4 yX4_has yX4_has, .initialized RX4, .code yX4_has cX4_has 2 (some .boolean), .fieldLink RX4 15 "SealedBox$PrimeField" "p" "I"] ++ wsX70 ++ wsX40)
def wsX7_change : List Cond := .code yX7_change cX7_change 4 (some .int) :: ([.fieldLink RX7 69 "SealedBox" "rowLength" "I", .fieldLink RX7 37 "SealedBox" "row" "[I", .fieldLink RX7 10 "SealedBox" "numbers" "LSealedBox$PrimeField;", .methodLink RX7 113 yX4_has, .instanceMethod yX4_has, .selects RX4 yX4_has yX4_has, .initialized RX4, .code yX4_has cX4_has 2 (some .boolean), .fieldLink RX4 15 "SealedBox$PrimeField" "p" "I"] ++ wsX70 ++ wsX40)
def wsX7_clear : List Cond := .code yX7_clear cX7_clear 2 (some .int) :: ([.fieldLink RX7 69 "SealedBox" "rowLength" "I"] ++ wsX70)
def wsX7_register_r1 : List Cond := [Cond.fieldLink RX7 44 "SealedBox" "shortest" "LSealedBox$Register;", Cond.fieldLink RX7 37 "SealedBox" "row" "[I", Cond.fieldLink RX7 69 "SealedBox" "rowLength" "I", Cond.methodLink RX7 147 yX6_read, Cond.instanceMethod yX6_read, Cond.selects RX6 yX6_read yX6_read, Cond.initialized RX6, Cond.code yX6_read cX6_read 4 none, Cond.methodLink RX6 38 yX6_begin, Cond.instanceMethod yX6_begin, Cond.selects RX6 yX6_begin yX6_begin, Cond.code yX6_begin cX6_begin 2 none, Cond.fieldLink RX6 9 "SealedBox$Register" "now" "[I", Cond.fieldLink RX6 15 "SealedBox$Register" "former" "[I", Cond.fieldLink RX6 21 "SealedBox$Register" "length" "I", Cond.fieldLink RX6 25 "SealedBox$Register" "formerLength" "I", Cond.fieldLink RX6 28 "SealedBox$Register" "formerError" "I", Cond.fieldLink RX6 31 "SealedBox$Register" "moved" "I", Cond.methodLink RX6 41 yX6_take, Cond.instanceMethod yX6_take, Cond.selects RX6 yX6_take yX6_take, Cond.code yX6_take cX6_take 6 none, Cond.fieldLink RX6 34 "SealedBox$Register" "numbers" "LSealedBox$PrimeField;", Cond.fieldLink RX6 18 "SealedBox$Register" "spare" "[I"]
def wsX7_register_r2 : List Cond := [Cond.methodLink RX6 45 arraycopyName, Cond.native arraycopyName, Cond.static arraycopyName, Cond.initialized "java/lang/System", Cond.methodLink RX6 51 yX6_errorAt, Cond.instanceMethod yX6_errorAt, Cond.selects RX6 yX6_errorAt yX6_errorAt, Cond.code yX6_errorAt cX6_errorAt 5 (some .int), Cond.methodLink RX6 60 yX4_over, Cond.instanceMethod yX4_over, Cond.selects RX4 yX4_over yX4_over, Cond.initialized RX4, Cond.code yX4_over cX4_over 3 (some .int), Cond.fieldLink RX4 15 "SealedBox$PrimeField" "p" "I", Cond.fieldLink RX4 9 "SealedBox$PrimeField" "inverses" "[I", Cond.methodLink RX6 64 yX6_addFormer, Cond.instanceMethod yX6_addFormer, Cond.selects RX6 yX6_addFormer yX6_addFormer, Cond.code yX6_addFormer cX6_addFormer 3 none, Cond.methodLink RX7 154 yX6_weight, Cond.instanceMethod yX6_weight, Cond.selects RX6 yX6_weight yX6_weight, Cond.code yX6_weight cX6_weight 2 (some .int), Cond.methodLink RX6 68 yX4_less]
def wsX7_register_r3 : List Cond := [Cond.instanceMethod yX4_less, Cond.selects RX4 yX4_less yX4_less, Cond.code yX4_less cX4_less 3 (some .int)]
def wsX7_register : List Cond := .code yX7_register cX7_register 2 (some .int) :: ((wsX7_register_r1 ++ (wsX7_register_r2 ++ wsX7_register_r3)) ++ wsX70 ++ wsX60 ++ wsX40)
def wsX7_far_r1 : List Cond := [Cond.constant RX7 157 (1000000000), Cond.fieldLink RX7 69 "SealedBox" "rowLength" "I", Cond.fieldLink RX7 37 "SealedBox" "row" "[I", Cond.fieldLink RX7 44 "SealedBox" "shortest" "LSealedBox$Register;", Cond.fieldLink RX7 51 "SealedBox" "onward" "LSealedBox$Onward;", Cond.methodLink RX7 147 yX6_read, Cond.instanceMethod yX6_read, Cond.selects RX6 yX6_read yX6_read, Cond.initialized RX6, Cond.code yX6_read cX6_read 4 none, Cond.methodLink RX6 38 yX6_begin, Cond.instanceMethod yX6_begin, Cond.selects RX6 yX6_begin yX6_begin, Cond.code yX6_begin cX6_begin 2 none, Cond.fieldLink RX6 9 "SealedBox$Register" "now" "[I", Cond.fieldLink RX6 15 "SealedBox$Register" "former" "[I", Cond.fieldLink RX6 21 "SealedBox$Register" "length" "I", Cond.fieldLink RX6 25 "SealedBox$Register" "formerLength" "I", Cond.fieldLink RX6 28 "SealedBox$Register" "formerError" "I", Cond.fieldLink RX6 31 "SealedBox$Register" "moved" "I", Cond.methodLink RX6 41 yX6_take, Cond.instanceMethod yX6_take, Cond.selects RX6 yX6_take yX6_take, Cond.code yX6_take cX6_take 6 none]
def wsX7_far_r2 : List Cond := [Cond.fieldLink RX6 34 "SealedBox$Register" "numbers" "LSealedBox$PrimeField;", Cond.fieldLink RX6 18 "SealedBox$Register" "spare" "[I", Cond.methodLink RX6 45 arraycopyName, Cond.native arraycopyName, Cond.static arraycopyName, Cond.initialized "java/lang/System", Cond.methodLink RX6 51 yX6_errorAt, Cond.instanceMethod yX6_errorAt, Cond.selects RX6 yX6_errorAt yX6_errorAt, Cond.code yX6_errorAt cX6_errorAt 5 (some .int), Cond.methodLink RX6 60 yX4_over, Cond.instanceMethod yX4_over, Cond.selects RX4 yX4_over yX4_over, Cond.initialized RX4, Cond.code yX4_over cX4_over 3 (some .int), Cond.fieldLink RX4 15 "SealedBox$PrimeField" "p" "I", Cond.fieldLink RX4 9 "SealedBox$PrimeField" "inverses" "[I", Cond.methodLink RX6 64 yX6_addFormer, Cond.instanceMethod yX6_addFormer, Cond.selects RX6 yX6_addFormer yX6_addFormer, Cond.code yX6_addFormer cX6_addFormer 3 none, Cond.methodLink RX7 158 yX3_numberAt, Cond.instanceMethod yX3_numberAt, Cond.selects RX3 yX3_numberAt yX3_numberAt]
def wsX7_far_r3 : List Cond := [Cond.initialized RX3, Cond.code yX3_numberAt cX3_numberAt 6 (some .int), Cond.fieldLink RX3 21 "SealedBox$Onward" "length" "I", Cond.fieldLink RX3 15 "SealedBox$Onward" "rest" "[I", Cond.fieldLink RX3 25 "SealedBox$Onward" "numbers" "LSealedBox$PrimeField;", Cond.methodLink RX3 32 yX3_takeWeights, Cond.instanceMethod yX3_takeWeights, Cond.selects RX3 yX3_takeWeights yX3_takeWeights, Cond.code yX3_takeWeights cX3_takeWeights 3 none, Cond.fieldLink RX3 9 "SealedBox$Onward" "weights" "[I", Cond.methodLink RX3 45 yX6_weight, Cond.instanceMethod yX6_weight, Cond.selects RX6 yX6_weight yX6_weight, Cond.code yX6_weight cX6_weight 2 (some .int), Cond.methodLink RX6 68 yX4_less, Cond.instanceMethod yX4_less, Cond.selects RX4 yX4_less yX4_less, Cond.code yX4_less cX4_less 3 (some .int), Cond.methodLink RX3 36 yX3_raise, Cond.instanceMethod yX3_raise, Cond.selects RX3 yX3_raise yX3_raise, Cond.code yX3_raise cX3_raise 3 none, Cond.methodLink RX3 49 yX3_squareInto, Cond.instanceMethod yX3_squareInto]
def wsX7_far_r4 : List Cond := [Cond.selects RX3 yX3_squareInto yX3_squareInto, Cond.code yX3_squareInto cX3_squareInto 4 none, Cond.fieldLink RX3 18 "SealedBox$Onward" "product" "[I", Cond.methodLink RX3 52 yX3_reduce, Cond.instanceMethod yX3_reduce, Cond.selects RX3 yX3_reduce yX3_reduce, Cond.code yX3_reduce cX3_reduce 4 none]
def wsX7_far : List Cond := .code yX7_far cX7_far 2 (some .int) :: ((wsX7_far_r1 ++ (wsX7_far_r2 ++ (wsX7_far_r3 ++ wsX7_far_r4))) ++ wsX70 ++ wsX60 ++ wsX40 ++ wsX30)
def wsX7_lie_r1 : List Cond := [Cond.fieldLink RX7 44 "SealedBox" "shortest" "LSealedBox$Register;", Cond.fieldLink RX7 37 "SealedBox" "row" "[I", Cond.fieldLink RX7 69 "SealedBox" "rowLength" "I", Cond.constant RX7 162 (999000), Cond.fieldLink RX7 58 "SealedBox" "lies" "LSealedBox$LieSearch;", Cond.methodLink RX7 147 yX6_read, Cond.instanceMethod yX6_read, Cond.selects RX6 yX6_read yX6_read, Cond.initialized RX6, Cond.code yX6_read cX6_read 4 none, Cond.methodLink RX6 38 yX6_begin, Cond.instanceMethod yX6_begin, Cond.selects RX6 yX6_begin yX6_begin, Cond.code yX6_begin cX6_begin 2 none, Cond.fieldLink RX6 9 "SealedBox$Register" "now" "[I", Cond.fieldLink RX6 15 "SealedBox$Register" "former" "[I", Cond.fieldLink RX6 21 "SealedBox$Register" "length" "I", Cond.fieldLink RX6 25 "SealedBox$Register" "formerLength" "I", Cond.fieldLink RX6 28 "SealedBox$Register" "formerError" "I", Cond.fieldLink RX6 31 "SealedBox$Register" "moved" "I", Cond.methodLink RX6 41 yX6_take, Cond.instanceMethod yX6_take, Cond.selects RX6 yX6_take yX6_take, Cond.code yX6_take cX6_take 6 none]
def wsX7_lie_r2 : List Cond := [Cond.fieldLink RX6 34 "SealedBox$Register" "numbers" "LSealedBox$PrimeField;", Cond.fieldLink RX6 18 "SealedBox$Register" "spare" "[I", Cond.methodLink RX6 45 arraycopyName, Cond.native arraycopyName, Cond.static arraycopyName, Cond.initialized "java/lang/System", Cond.methodLink RX6 51 yX6_errorAt, Cond.instanceMethod yX6_errorAt, Cond.selects RX6 yX6_errorAt yX6_errorAt, Cond.code yX6_errorAt cX6_errorAt 5 (some .int), Cond.methodLink RX6 60 yX4_over, Cond.instanceMethod yX4_over, Cond.selects RX4 yX4_over yX4_over, Cond.initialized RX4, Cond.code yX4_over cX4_over 3 (some .int), Cond.fieldLink RX4 15 "SealedBox$PrimeField" "p" "I", Cond.fieldLink RX4 9 "SealedBox$PrimeField" "inverses" "[I", Cond.methodLink RX6 64 yX6_addFormer, Cond.instanceMethod yX6_addFormer, Cond.selects RX6 yX6_addFormer yX6_addFormer, Cond.code yX6_addFormer cX6_addFormer 3 none, Cond.methodLink RX7 163 yX2_leastMending, Cond.instanceMethod yX2_leastMending, Cond.selects RX2 yX2_leastMending yX2_leastMending]
def wsX7_lie_r3 : List Cond := [Cond.initialized RX2, Cond.code yX2_leastMending cX2_leastMending 7 (some .int), Cond.fieldLink RX2 9 "SealedBox$LieSearch" "mended" "[I", Cond.methodLink RX2 31 Lib.Math.min.name, Cond.static Lib.Math.min.name, Cond.initialized "java/lang/Math", Cond.code Lib.Math.min.name Lib.Math.min.code 2 (some .int), Cond.fieldLink RX2 24 "SealedBox$LieSearch" "ahead" "LSealedBox$Register;", Cond.methodLink RX2 37 yX6_begin, Cond.methodLink RX2 44 yX2_leastNumberAt, Cond.instanceMethod yX2_leastNumberAt, Cond.selects RX2 yX2_leastNumberAt yX2_leastNumberAt, Cond.code yX2_leastNumberAt cX2_leastNumberAt 5 (some .int), Cond.fieldLink RX2 15 "SealedBox$LieSearch" "numbers" "LSealedBox$PrimeField;", Cond.methodLink RX2 57 yX2_staysWithin, Cond.instanceMethod yX2_staysWithin, Cond.selects RX2 yX2_staysWithin yX2_staysWithin, Cond.code yX2_staysWithin cX2_staysWithin 5 (some .boolean), Cond.fieldLink RX2 28 "SealedBox$LieSearch" "trial" "LSealedBox$Register;", Cond.methodLink RX2 61 yX6_copyOf, Cond.instanceMethod yX6_copyOf, Cond.selects RX6 yX6_copyOf yX6_copyOf, Cond.code yX6_copyOf cX6_copyOf 2 none, Cond.methodLink RX2 48 yX6_take]
def wsX7_lie : List Cond := .code yX7_lie cX7_lie 2 (some .int) :: ((wsX7_lie_r1 ++ (wsX7_lie_r2 ++ wsX7_lie_r3)) ++ wsX70 ++ wsX60 ++ wsX40 ++ wsX20)
def wsX7_got_r1 : List Cond := [Cond.fieldLink RX7 73 "SealedBox" "asks" "I", Cond.fieldLink RX7 65 "SealedBox" "recovery" "LSealedBox$Recovery;", Cond.methodLink RX7 126 yX7_isBox, Cond.static yX7_isBox, Cond.initialized RX7, Cond.code yX7_isBox cX7_isBox 1 (some .boolean), Cond.methodLink RX7 129 yX7_boxOf, Cond.instanceMethod yX7_boxOf, Cond.selects RX7 yX7_boxOf yX7_boxOf, Cond.code yX7_boxOf cX7_boxOf 2 (some (.object "SealedBox$Box")), Cond.fieldLink RX7 30 "SealedBox" "first" "LSealedBox$Box;", Cond.fieldLink RX7 34 "SealedBox" "second" "LSealedBox$Box;", Cond.methodLink RX7 167 yX5_recover, Cond.instanceMethod yX5_recover, Cond.selects RX5 yX5_recover yX5_recover, Cond.initialized RX5, Cond.code yX5_recover cX5_recover 4 (some .boolean), Cond.fieldLink RX5 46 "SealedBox$Recovery" "found" "LSealedBox$Box;", Cond.fieldLink RX5 37 "SealedBox$Recovery" "register" "LSealedBox$Register;", Cond.fieldLink RX5 11 "SealedBox$Recovery" "answers" "[I", Cond.fieldLink RX5 24 "SealedBox$Recovery" "keys" "I", Cond.fieldLink RX5 18 "SealedBox$Recovery" "keyExponents" "[I", Cond.methodLink RX5 50 yX1_drop, Cond.instanceMethod yX1_drop]
def wsX7_got_r2 : List Cond := [Cond.selects RX1 yX1_drop yX1_drop, Cond.initialized RX1, Cond.code yX1_drop cX1_drop 1 none, Cond.fieldLink RX1 25 "SealedBox$Box" "terms" "I", Cond.methodLink RX5 53 yX5_askPowers, Cond.instanceMethod yX5_askPowers, Cond.selects RX5 yX5_askPowers yX5_askPowers, Cond.code yX5_askPowers cX5_askPowers 6 none, Cond.fieldLink RX5 28 "SealedBox$Recovery" "numbers" "LSealedBox$PrimeField;", Cond.methodLink RX5 82 yX1_answer, Cond.instanceMethod yX1_answer, Cond.selects RX1 yX1_answer yX1_answer, Cond.code yX1_answer cX1_answer 6 (some .int), Cond.fieldLink RX1 28 "SealedBox$Box" "numbers" "LSealedBox$PrimeField;", Cond.fieldLink RX1 32 "SealedBox$Box" "bases" "LSealedBox$Bases;", Cond.fieldLink RX1 21 "SealedBox$Box" "kind" "I", Cond.methodLink RX1 36 yX1_ofTwoLetters, Cond.instanceMethod yX1_ofTwoLetters, Cond.selects RX1 yX1_ofTwoLetters yX1_ofTwoLetters, Cond.code yX1_ofTwoLetters cX1_ofTwoLetters 5 (some .int), Cond.methodLink RX1 40 yX1_part, Cond.instanceMethod yX1_part, Cond.selects RX1 yX1_part yX1_part, Cond.code yX1_part cX1_part 4 (some .int)]
def wsX7_got_r3 : List Cond := [Cond.fieldLink RX1 11 "SealedBox$Box" "parts" "[I", Cond.methodLink RX1 44 yX0_letter, Cond.instanceMethod yX0_letter, Cond.selects RX0 yX0_letter yX0_letter, Cond.initialized RX0, Cond.code yX0_letter cX0_letter 4 (some .int), Cond.fieldLink RX0 18 "SealedBox$Bases" "numbers" "LSealedBox$PrimeField;", Cond.methodLink RX0 22 yX0_scaled, Cond.instanceMethod yX0_scaled, Cond.selects RX0 yX0_scaled yX0_scaled, Cond.code yX0_scaled cX0_scaled 3 (some .int), Cond.fieldLink RX0 15 "SealedBox$Bases" "scale" "I", Cond.methodLink RX0 26 yX0_shifted, Cond.instanceMethod yX0_shifted, Cond.selects RX0 yX0_shifted yX0_shifted, Cond.code yX0_shifted cX0_shifted 3 (some .int), Cond.fieldLink RX0 9 "SealedBox$Bases" "shift" "I", Cond.methodLink RX0 34 yX4_plus, Cond.instanceMethod yX4_plus, Cond.selects RX4 yX4_plus yX4_plus, Cond.initialized RX4, Cond.code yX4_plus cX4_plus 3 (some .int), Cond.fieldLink RX4 15 "SealedBox$PrimeField" "p" "I", Cond.methodLink RX0 29 yX4_power]
def wsX7_got_r4 : List Cond := [Cond.instanceMethod yX4_power, Cond.selects RX4 yX4_power yX4_power, Cond.code yX4_power cX4_power 5 (some .int), Cond.methodLink RX0 37 yX4_times, Cond.instanceMethod yX4_times, Cond.selects RX4 yX4_times yX4_times, Cond.code yX4_times cX4_times 3 (some .int), Cond.methodLink RX1 49 yX4_times, Cond.methodLink RX5 86 yX4_times, Cond.methodLink RX5 57 yX6_read, Cond.instanceMethod yX6_read, Cond.selects RX6 yX6_read yX6_read, Cond.initialized RX6, Cond.code yX6_read cX6_read 4 none, Cond.methodLink RX6 38 yX6_begin, Cond.instanceMethod yX6_begin, Cond.selects RX6 yX6_begin yX6_begin, Cond.code yX6_begin cX6_begin 2 none, Cond.fieldLink RX6 9 "SealedBox$Register" "now" "[I", Cond.fieldLink RX6 15 "SealedBox$Register" "former" "[I", Cond.fieldLink RX6 21 "SealedBox$Register" "length" "I", Cond.fieldLink RX6 25 "SealedBox$Register" "formerLength" "I", Cond.fieldLink RX6 28 "SealedBox$Register" "formerError" "I", Cond.fieldLink RX6 31 "SealedBox$Register" "moved" "I"]
def wsX7_got_r5 : List Cond := [Cond.methodLink RX6 41 yX6_take, Cond.instanceMethod yX6_take, Cond.selects RX6 yX6_take yX6_take, Cond.code yX6_take cX6_take 6 none, Cond.fieldLink RX6 34 "SealedBox$Register" "numbers" "LSealedBox$PrimeField;", Cond.fieldLink RX6 18 "SealedBox$Register" "spare" "[I", Cond.methodLink RX6 45 arraycopyName, Cond.native arraycopyName, Cond.static arraycopyName, Cond.initialized "java/lang/System", Cond.methodLink RX6 51 yX6_errorAt, Cond.instanceMethod yX6_errorAt, Cond.selects RX6 yX6_errorAt yX6_errorAt, Cond.code yX6_errorAt cX6_errorAt 5 (some .int), Cond.methodLink RX6 60 yX4_over, Cond.instanceMethod yX4_over, Cond.selects RX4 yX4_over yX4_over, Cond.code yX4_over cX4_over 3 (some .int), Cond.fieldLink RX4 9 "SealedBox$PrimeField" "inverses" "[I", Cond.methodLink RX6 64 yX6_addFormer, Cond.instanceMethod yX6_addFormer, Cond.selects RX6 yX6_addFormer yX6_addFormer, Cond.code yX6_addFormer cX6_addFormer 3 none, Cond.methodLink RX5 64 yX5_findKeys]
def wsX7_got_r6 : List Cond := [Cond.instanceMethod yX5_findKeys, Cond.selects RX5 yX5_findKeys yX5_findKeys, Cond.code yX5_findKeys cX5_findKeys 7 (some .boolean), Cond.methodLink RX5 92 yX5_isRoot, Cond.instanceMethod yX5_isRoot, Cond.selects RX5 yX5_isRoot yX5_isRoot, Cond.code yX5_isRoot cX5_isRoot 4 (some .boolean), Cond.methodLink RX5 99 yX6_weight, Cond.instanceMethod yX6_weight, Cond.selects RX6 yX6_weight yX6_weight, Cond.code yX6_weight cX6_weight 2 (some .int), Cond.methodLink RX6 68 yX4_less, Cond.instanceMethod yX4_less, Cond.selects RX4 yX4_less yX4_less, Cond.code yX4_less cX4_less 3 (some .int), Cond.methodLink RX5 102 yX4_less, Cond.methodLink RX5 96 yX5_addKey, Cond.instanceMethod yX5_addKey, Cond.selects RX5 yX5_addKey yX5_addKey, Cond.code yX5_addKey cX5_addKey 5 (some .boolean), Cond.fieldLink RX5 15 "SealedBox$Recovery" "keyNumbers" "[I", Cond.methodLink RX5 68 yX5_keysDiffer, Cond.instanceMethod yX5_keysDiffer, Cond.selects RX5 yX5_keysDiffer yX5_keysDiffer]
def wsX7_got_r7 : List Cond := [Cond.code yX5_keysDiffer cX5_keysDiffer 3 (some .boolean), Cond.methodLink RX5 71 yX5_coefficient, Cond.instanceMethod yX5_coefficient, Cond.selects RX5 yX5_coefficient yX5_coefficient, Cond.code yX5_coefficient cX5_coefficient 5 (some .int), Cond.fieldLink RX5 21 "SealedBox$Recovery" "others" "[I", Cond.methodLink RX5 105 yX5_multiplyOthers, Cond.instanceMethod yX5_multiplyOthers, Cond.selects RX5 yX5_multiplyOthers yX5_multiplyOthers, Cond.code yX5_multiplyOthers cX5_multiplyOthers 3 none, Cond.methodLink RX5 118 yX5_multiplyBy, Cond.instanceMethod yX5_multiplyBy, Cond.selects RX5 yX5_multiplyBy yX5_multiplyBy, Cond.code yX5_multiplyBy cX5_multiplyBy 4 none, Cond.methodLink RX5 109 yX4_plus, Cond.methodLink RX5 115 yX4_over, Cond.methodLink RX5 75 yX1_add, Cond.instanceMethod yX1_add, Cond.selects RX1 yX1_add yX1_add, Cond.code yX1_add cX1_add 6 (some .boolean), Cond.methodLink RX5 79 yX5_lastAnswerFits, Cond.instanceMethod yX5_lastAnswerFits, Cond.selects RX5 yX5_lastAnswerFits yX5_lastAnswerFits, Cond.code yX5_lastAnswerFits cX5_lastAnswerFits 3 (some .boolean)]
def wsX7_got_r8 : List Cond := [Cond.methodLink RX5 121 yX1_part, Cond.methodLink RX5 124 yX4_power, Cond.methodLink RX7 174 yX1_part]
def wsX7_got : List Cond := .code yX7_got cX7_got 5 (some .int) :: ((wsX7_got_r1 ++ (wsX7_got_r2 ++ (wsX7_got_r3 ++ (wsX7_got_r4 ++ (wsX7_got_r5 ++ (wsX7_got_r6 ++ (wsX7_got_r7 ++ wsX7_got_r8))))))) ++ wsX70 ++ wsX50 ++ wsX10 ++ wsX60 ++ wsX40 ++ wsX00)
def wsX7_right_r1 : List Cond := [Cond.fieldLink RX7 73 "SealedBox" "asks" "I", Cond.fieldLink RX7 65 "SealedBox" "recovery" "LSealedBox$Recovery;", Cond.methodLink RX7 126 yX7_isBox, Cond.static yX7_isBox, Cond.initialized RX7, Cond.code yX7_isBox cX7_isBox 1 (some .boolean), Cond.methodLink RX7 140 yX7_arePoint, Cond.instanceMethod yX7_arePoint, Cond.selects RX7 yX7_arePoint yX7_arePoint, Cond.code yX7_arePoint cX7_arePoint 4 (some .boolean), Cond.fieldLink RX7 10 "SealedBox" "numbers" "LSealedBox$PrimeField;", Cond.methodLink RX7 113 yX4_has, Cond.instanceMethod yX4_has, Cond.selects RX4 yX4_has yX4_has, Cond.initialized RX4, Cond.code yX4_has cX4_has 2 (some .boolean), Cond.fieldLink RX4 15 "SealedBox$PrimeField" "p" "I", Cond.methodLink RX7 129 yX7_boxOf, Cond.instanceMethod yX7_boxOf, Cond.selects RX7 yX7_boxOf yX7_boxOf, Cond.code yX7_boxOf cX7_boxOf 2 (some (.object "SealedBox$Box")), Cond.fieldLink RX7 30 "SealedBox" "first" "LSealedBox$Box;", Cond.fieldLink RX7 34 "SealedBox" "second" "LSealedBox$Box;", Cond.methodLink RX7 167 yX5_recover]
def wsX7_right_r2 : List Cond := [Cond.instanceMethod yX5_recover, Cond.selects RX5 yX5_recover yX5_recover, Cond.initialized RX5, Cond.code yX5_recover cX5_recover 4 (some .boolean), Cond.fieldLink RX5 46 "SealedBox$Recovery" "found" "LSealedBox$Box;", Cond.fieldLink RX5 37 "SealedBox$Recovery" "register" "LSealedBox$Register;", Cond.fieldLink RX5 11 "SealedBox$Recovery" "answers" "[I", Cond.fieldLink RX5 24 "SealedBox$Recovery" "keys" "I", Cond.fieldLink RX5 18 "SealedBox$Recovery" "keyExponents" "[I", Cond.methodLink RX5 50 yX1_drop, Cond.instanceMethod yX1_drop, Cond.selects RX1 yX1_drop yX1_drop, Cond.initialized RX1, Cond.code yX1_drop cX1_drop 1 none, Cond.fieldLink RX1 25 "SealedBox$Box" "terms" "I", Cond.methodLink RX5 53 yX5_askPowers, Cond.instanceMethod yX5_askPowers, Cond.selects RX5 yX5_askPowers yX5_askPowers, Cond.code yX5_askPowers cX5_askPowers 6 none, Cond.fieldLink RX5 28 "SealedBox$Recovery" "numbers" "LSealedBox$PrimeField;", Cond.methodLink RX5 82 yX1_answer, Cond.instanceMethod yX1_answer, Cond.selects RX1 yX1_answer yX1_answer, Cond.code yX1_answer cX1_answer 6 (some .int)]
def wsX7_right_r3 : List Cond := [Cond.fieldLink RX1 28 "SealedBox$Box" "numbers" "LSealedBox$PrimeField;", Cond.fieldLink RX1 32 "SealedBox$Box" "bases" "LSealedBox$Bases;", Cond.fieldLink RX1 21 "SealedBox$Box" "kind" "I", Cond.methodLink RX1 36 yX1_ofTwoLetters, Cond.instanceMethod yX1_ofTwoLetters, Cond.selects RX1 yX1_ofTwoLetters yX1_ofTwoLetters, Cond.code yX1_ofTwoLetters cX1_ofTwoLetters 5 (some .int), Cond.methodLink RX1 40 yX1_part, Cond.instanceMethod yX1_part, Cond.selects RX1 yX1_part yX1_part, Cond.code yX1_part cX1_part 4 (some .int), Cond.fieldLink RX1 11 "SealedBox$Box" "parts" "[I", Cond.methodLink RX1 44 yX0_letter, Cond.instanceMethod yX0_letter, Cond.selects RX0 yX0_letter yX0_letter, Cond.initialized RX0, Cond.code yX0_letter cX0_letter 4 (some .int), Cond.fieldLink RX0 18 "SealedBox$Bases" "numbers" "LSealedBox$PrimeField;", Cond.methodLink RX0 22 yX0_scaled, Cond.instanceMethod yX0_scaled, Cond.selects RX0 yX0_scaled yX0_scaled, Cond.code yX0_scaled cX0_scaled 3 (some .int), Cond.fieldLink RX0 15 "SealedBox$Bases" "scale" "I", Cond.methodLink RX0 26 yX0_shifted]
def wsX7_right_r4 : List Cond := [Cond.instanceMethod yX0_shifted, Cond.selects RX0 yX0_shifted yX0_shifted, Cond.code yX0_shifted cX0_shifted 3 (some .int), Cond.fieldLink RX0 9 "SealedBox$Bases" "shift" "I", Cond.methodLink RX0 34 yX4_plus, Cond.instanceMethod yX4_plus, Cond.selects RX4 yX4_plus yX4_plus, Cond.code yX4_plus cX4_plus 3 (some .int), Cond.methodLink RX0 29 yX4_power, Cond.instanceMethod yX4_power, Cond.selects RX4 yX4_power yX4_power, Cond.code yX4_power cX4_power 5 (some .int), Cond.methodLink RX0 37 yX4_times, Cond.instanceMethod yX4_times, Cond.selects RX4 yX4_times yX4_times, Cond.code yX4_times cX4_times 3 (some .int), Cond.methodLink RX1 49 yX4_times, Cond.methodLink RX5 86 yX4_times, Cond.methodLink RX5 57 yX6_read, Cond.instanceMethod yX6_read, Cond.selects RX6 yX6_read yX6_read, Cond.initialized RX6, Cond.code yX6_read cX6_read 4 none, Cond.methodLink RX6 38 yX6_begin]
def wsX7_right_r5 : List Cond := [Cond.instanceMethod yX6_begin, Cond.selects RX6 yX6_begin yX6_begin, Cond.code yX6_begin cX6_begin 2 none, Cond.fieldLink RX6 9 "SealedBox$Register" "now" "[I", Cond.fieldLink RX6 15 "SealedBox$Register" "former" "[I", Cond.fieldLink RX6 21 "SealedBox$Register" "length" "I", Cond.fieldLink RX6 25 "SealedBox$Register" "formerLength" "I", Cond.fieldLink RX6 28 "SealedBox$Register" "formerError" "I", Cond.fieldLink RX6 31 "SealedBox$Register" "moved" "I", Cond.methodLink RX6 41 yX6_take, Cond.instanceMethod yX6_take, Cond.selects RX6 yX6_take yX6_take, Cond.code yX6_take cX6_take 6 none, Cond.fieldLink RX6 34 "SealedBox$Register" "numbers" "LSealedBox$PrimeField;", Cond.fieldLink RX6 18 "SealedBox$Register" "spare" "[I", Cond.methodLink RX6 45 arraycopyName, Cond.native arraycopyName, Cond.static arraycopyName, Cond.initialized "java/lang/System", Cond.methodLink RX6 51 yX6_errorAt, Cond.instanceMethod yX6_errorAt, Cond.selects RX6 yX6_errorAt yX6_errorAt, Cond.code yX6_errorAt cX6_errorAt 5 (some .int), Cond.methodLink RX6 60 yX4_over]
def wsX7_right_r6 : List Cond := [Cond.instanceMethod yX4_over, Cond.selects RX4 yX4_over yX4_over, Cond.code yX4_over cX4_over 3 (some .int), Cond.fieldLink RX4 9 "SealedBox$PrimeField" "inverses" "[I", Cond.methodLink RX6 64 yX6_addFormer, Cond.instanceMethod yX6_addFormer, Cond.selects RX6 yX6_addFormer yX6_addFormer, Cond.code yX6_addFormer cX6_addFormer 3 none, Cond.methodLink RX5 64 yX5_findKeys, Cond.instanceMethod yX5_findKeys, Cond.selects RX5 yX5_findKeys yX5_findKeys, Cond.code yX5_findKeys cX5_findKeys 7 (some .boolean), Cond.methodLink RX5 92 yX5_isRoot, Cond.instanceMethod yX5_isRoot, Cond.selects RX5 yX5_isRoot yX5_isRoot, Cond.code yX5_isRoot cX5_isRoot 4 (some .boolean), Cond.methodLink RX5 99 yX6_weight, Cond.instanceMethod yX6_weight, Cond.selects RX6 yX6_weight yX6_weight, Cond.code yX6_weight cX6_weight 2 (some .int), Cond.methodLink RX6 68 yX4_less, Cond.instanceMethod yX4_less, Cond.selects RX4 yX4_less yX4_less, Cond.code yX4_less cX4_less 3 (some .int)]
def wsX7_right_r7 : List Cond := [Cond.methodLink RX5 102 yX4_less, Cond.methodLink RX5 96 yX5_addKey, Cond.instanceMethod yX5_addKey, Cond.selects RX5 yX5_addKey yX5_addKey, Cond.code yX5_addKey cX5_addKey 5 (some .boolean), Cond.fieldLink RX5 15 "SealedBox$Recovery" "keyNumbers" "[I", Cond.methodLink RX5 68 yX5_keysDiffer, Cond.instanceMethod yX5_keysDiffer, Cond.selects RX5 yX5_keysDiffer yX5_keysDiffer, Cond.code yX5_keysDiffer cX5_keysDiffer 3 (some .boolean), Cond.methodLink RX5 71 yX5_coefficient, Cond.instanceMethod yX5_coefficient, Cond.selects RX5 yX5_coefficient yX5_coefficient, Cond.code yX5_coefficient cX5_coefficient 5 (some .int), Cond.fieldLink RX5 21 "SealedBox$Recovery" "others" "[I", Cond.methodLink RX5 105 yX5_multiplyOthers, Cond.instanceMethod yX5_multiplyOthers, Cond.selects RX5 yX5_multiplyOthers yX5_multiplyOthers, Cond.code yX5_multiplyOthers cX5_multiplyOthers 3 none, Cond.methodLink RX5 118 yX5_multiplyBy, Cond.instanceMethod yX5_multiplyBy, Cond.selects RX5 yX5_multiplyBy yX5_multiplyBy, Cond.code yX5_multiplyBy cX5_multiplyBy 4 none, Cond.methodLink RX5 109 yX4_plus]
def wsX7_right_r8 : List Cond := [Cond.methodLink RX5 115 yX4_over, Cond.methodLink RX5 75 yX1_add, Cond.instanceMethod yX1_add, Cond.selects RX1 yX1_add yX1_add, Cond.code yX1_add cX1_add 6 (some .boolean), Cond.methodLink RX5 79 yX5_lastAnswerFits, Cond.instanceMethod yX5_lastAnswerFits, Cond.selects RX5 yX5_lastAnswerFits yX5_lastAnswerFits, Cond.code yX5_lastAnswerFits cX5_lastAnswerFits 3 (some .boolean), Cond.methodLink RX5 121 yX1_part, Cond.methodLink RX5 124 yX4_power, Cond.methodLink RX7 144 yX1_answer]
def wsX7_right : List Cond := .code yX7_right cX7_right 6 (some .int) :: ((wsX7_right_r1 ++ (wsX7_right_r2 ++ (wsX7_right_r3 ++ (wsX7_right_r4 ++ (wsX7_right_r5 ++ (wsX7_right_r6 ++ (wsX7_right_r7 ++ wsX7_right_r8))))))) ++ wsX70 ++ wsX50 ++ wsX40 ++ wsX60 ++ wsX10 ++ wsX00)
def wsX7_zeros_r1 : List Cond := [Cond.fieldLink RX7 10 "SealedBox" "numbers" "LSealedBox$PrimeField;", Cond.methodLink RX7 126 yX7_isBox, Cond.static yX7_isBox, Cond.initialized RX7, Cond.code yX7_isBox cX7_isBox 1 (some .boolean), Cond.methodLink RX7 129 yX7_boxOf, Cond.instanceMethod yX7_boxOf, Cond.selects RX7 yX7_boxOf yX7_boxOf, Cond.code yX7_boxOf cX7_boxOf 2 (some (.object "SealedBox$Box")), Cond.fieldLink RX7 30 "SealedBox" "first" "LSealedBox$Box;", Cond.fieldLink RX7 34 "SealedBox" "second" "LSealedBox$Box;", Cond.methodLink RX7 178 yX1_readyLines, Cond.instanceMethod yX1_readyLines, Cond.selects RX1 yX1_readyLines yX1_readyLines, Cond.initialized RX1, Cond.code yX1_readyLines cX1_readyLines 3 none, Cond.fieldLink RX1 28 "SealedBox$Box" "numbers" "LSealedBox$PrimeField;", Cond.fieldLink RX1 15 "SealedBox$Box" "lineForms" "[I", Cond.fieldLink RX1 32 "SealedBox$Box" "bases" "LSealedBox$Bases;", Cond.fieldLink RX1 21 "SealedBox$Box" "kind" "I", Cond.methodLink RX1 44 yX0_letter, Cond.instanceMethod yX0_letter, Cond.selects RX0 yX0_letter yX0_letter, Cond.initialized RX0]
def wsX7_zeros_r2 : List Cond := [Cond.code yX0_letter cX0_letter 4 (some .int), Cond.fieldLink RX0 18 "SealedBox$Bases" "numbers" "LSealedBox$PrimeField;", Cond.methodLink RX0 22 yX0_scaled, Cond.instanceMethod yX0_scaled, Cond.selects RX0 yX0_scaled yX0_scaled, Cond.code yX0_scaled cX0_scaled 3 (some .int), Cond.fieldLink RX0 15 "SealedBox$Bases" "scale" "I", Cond.methodLink RX0 26 yX0_shifted, Cond.instanceMethod yX0_shifted, Cond.selects RX0 yX0_shifted yX0_shifted, Cond.code yX0_shifted cX0_shifted 3 (some .int), Cond.fieldLink RX0 9 "SealedBox$Bases" "shift" "I", Cond.methodLink RX0 34 yX4_plus, Cond.instanceMethod yX4_plus, Cond.selects RX4 yX4_plus yX4_plus, Cond.initialized RX4, Cond.code yX4_plus cX4_plus 3 (some .int), Cond.fieldLink RX4 15 "SealedBox$PrimeField" "p" "I", Cond.methodLink RX0 29 yX4_power, Cond.instanceMethod yX4_power, Cond.selects RX4 yX4_power yX4_power, Cond.code yX4_power cX4_power 5 (some .int), Cond.methodLink RX0 37 yX4_times, Cond.instanceMethod yX4_times]
def wsX7_zeros_r3 : List Cond := [Cond.selects RX4 yX4_times yX4_times, Cond.code yX4_times cX4_times 3 (some .int), Cond.methodLink RX7 181 yX1_answerLine, Cond.instanceMethod yX1_answerLine, Cond.selects RX1 yX1_answerLine yX1_answerLine, Cond.code yX1_answerLine cX1_answerLine 4 none, Cond.fieldLink RX1 18 "SealedBox$Box" "line" "[I", Cond.fieldLink RX1 25 "SealedBox$Box" "terms" "I", Cond.methodLink RX1 36 yX1_ofTwoLetters, Cond.instanceMethod yX1_ofTwoLetters, Cond.selects RX1 yX1_ofTwoLetters yX1_ofTwoLetters, Cond.code yX1_ofTwoLetters cX1_ofTwoLetters 5 (some .int), Cond.methodLink RX1 40 yX1_part, Cond.instanceMethod yX1_part, Cond.selects RX1 yX1_part yX1_part, Cond.code yX1_part cX1_part 4 (some .int), Cond.fieldLink RX1 11 "SealedBox$Box" "parts" "[I", Cond.methodLink RX1 49 yX4_times, Cond.methodLink RX1 57 yX1_addToLine, Cond.instanceMethod yX1_addToLine, Cond.selects RX1 yX1_addToLine yX1_addToLine, Cond.code yX1_addToLine cX1_addToLine 5 none, Cond.static yX7_isExponent, Cond.code yX7_isExponent cX7_isExponent 1 (some .boolean)]
def wsX7_zeros_r4 : List Cond := [Cond.methodLink RX7 185 yX1_zerosInLine, Cond.instanceMethod yX1_zerosInLine, Cond.selects RX1 yX1_zerosInLine yX1_zerosInLine, Cond.code yX1_zerosInLine cX1_zerosInLine 3 (some .int)]
def wsX7_zeros : List Cond := .code yX7_zeros cX7_zeros 6 (some .int) :: ((wsX7_zeros_r1 ++ (wsX7_zeros_r2 ++ (wsX7_zeros_r3 ++ wsX7_zeros_r4))) ++ wsX70 ++ wsX40 ++ wsX10 ++ wsX00)
def wsX7_meet_r1 : List Cond := [Cond.fieldLink RX7 10 "SealedBox" "numbers" "LSealedBox$PrimeField;", Cond.fieldLink RX7 30 "SealedBox" "first" "LSealedBox$Box;", Cond.fieldLink RX7 34 "SealedBox" "second" "LSealedBox$Box;", Cond.methodLink RX7 178 yX1_readyLines, Cond.instanceMethod yX1_readyLines, Cond.selects RX1 yX1_readyLines yX1_readyLines, Cond.initialized RX1, Cond.code yX1_readyLines cX1_readyLines 3 none, Cond.fieldLink RX1 28 "SealedBox$Box" "numbers" "LSealedBox$PrimeField;", Cond.fieldLink RX1 15 "SealedBox$Box" "lineForms" "[I", Cond.fieldLink RX1 32 "SealedBox$Box" "bases" "LSealedBox$Bases;", Cond.fieldLink RX1 21 "SealedBox$Box" "kind" "I", Cond.methodLink RX1 44 yX0_letter, Cond.instanceMethod yX0_letter, Cond.selects RX0 yX0_letter yX0_letter, Cond.initialized RX0, Cond.code yX0_letter cX0_letter 4 (some .int), Cond.fieldLink RX0 18 "SealedBox$Bases" "numbers" "LSealedBox$PrimeField;", Cond.methodLink RX0 22 yX0_scaled, Cond.instanceMethod yX0_scaled, Cond.selects RX0 yX0_scaled yX0_scaled, Cond.code yX0_scaled cX0_scaled 3 (some .int), Cond.fieldLink RX0 15 "SealedBox$Bases" "scale" "I", Cond.methodLink RX0 26 yX0_shifted]
def wsX7_meet_r2 : List Cond := [Cond.instanceMethod yX0_shifted, Cond.selects RX0 yX0_shifted yX0_shifted, Cond.code yX0_shifted cX0_shifted 3 (some .int), Cond.fieldLink RX0 9 "SealedBox$Bases" "shift" "I", Cond.methodLink RX0 34 yX4_plus, Cond.instanceMethod yX4_plus, Cond.selects RX4 yX4_plus yX4_plus, Cond.initialized RX4, Cond.code yX4_plus cX4_plus 3 (some .int), Cond.fieldLink RX4 15 "SealedBox$PrimeField" "p" "I", Cond.methodLink RX0 29 yX4_power, Cond.instanceMethod yX4_power, Cond.selects RX4 yX4_power yX4_power, Cond.code yX4_power cX4_power 5 (some .int), Cond.methodLink RX0 37 yX4_times, Cond.instanceMethod yX4_times, Cond.selects RX4 yX4_times yX4_times, Cond.code yX4_times cX4_times 3 (some .int), Cond.methodLink RX7 181 yX1_answerLine, Cond.instanceMethod yX1_answerLine, Cond.selects RX1 yX1_answerLine yX1_answerLine, Cond.code yX1_answerLine cX1_answerLine 4 none, Cond.fieldLink RX1 18 "SealedBox$Box" "line" "[I", Cond.fieldLink RX1 25 "SealedBox$Box" "terms" "I"]
def wsX7_meet_r3 : List Cond := [Cond.methodLink RX1 36 yX1_ofTwoLetters, Cond.instanceMethod yX1_ofTwoLetters, Cond.selects RX1 yX1_ofTwoLetters yX1_ofTwoLetters, Cond.code yX1_ofTwoLetters cX1_ofTwoLetters 5 (some .int), Cond.methodLink RX1 40 yX1_part, Cond.instanceMethod yX1_part, Cond.selects RX1 yX1_part yX1_part, Cond.code yX1_part cX1_part 4 (some .int), Cond.fieldLink RX1 11 "SealedBox$Box" "parts" "[I", Cond.methodLink RX1 49 yX4_times, Cond.methodLink RX1 57 yX1_addToLine, Cond.instanceMethod yX1_addToLine, Cond.selects RX1 yX1_addToLine yX1_addToLine, Cond.code yX1_addToLine cX1_addToLine 5 none, Cond.static yX7_isExponent, Cond.initialized RX7, Cond.code yX7_isExponent cX7_isExponent 1 (some .boolean), Cond.methodLink RX7 189 yX1_alikeInLine, Cond.instanceMethod yX1_alikeInLine, Cond.selects RX1 yX1_alikeInLine yX1_alikeInLine, Cond.code yX1_alikeInLine cX1_alikeInLine 4 (some .int)]
def wsX7_meet : List Cond := .code yX7_meet cX7_meet 4 (some .int) :: ((wsX7_meet_r1 ++ (wsX7_meet_r2 ++ wsX7_meet_r3)) ++ wsX70 ++ wsX40 ++ wsX10 ++ wsX00)
def wsX7_count : List Cond := .code yX7_count cX7_count 2 (some .int) :: ([.fieldLink RX7 10 "SealedBox" "numbers" "LSealedBox$PrimeField;", .fieldLink RX7 30 "SealedBox" "first" "LSealedBox$Box;", .fieldLink RX7 34 "SealedBox" "second" "LSealedBox$Box;", .fieldLink RX7 69 "SealedBox" "rowLength" "I", .fieldLink RX7 73 "SealedBox" "asks" "I"] ++ wsX70 ++ wsX40 ++ wsX10)
def wsX7_trace : List Cond := .code yX7_trace cX7_trace 1 (some .long) :: ([.fieldLink RX7 76 "SealedBox" "traced" "J"] ++ wsX70)
def wsX8_init_r1 : List Cond := [Cond.methodLink RX8 1 objectInit, Cond.instanceMethod objectInit, Cond.code objectInit ⟨#[0xb1]⟩ 1 none, Cond.fieldLink RX8 7 "SealedBoxModel" "p" "I", Cond.fieldLink RX8 13 "SealedBoxModel" "shift" "I", Cond.fieldLink RX8 16 "SealedBoxModel" "scale" "I", Cond.arrayClass .int, Cond.fieldLink RX8 19 "SealedBoxModel" "kind" "[I", Cond.fieldLink RX8 23 "SealedBoxModel" "terms" "[I", Cond.fieldLink RX8 26 "SealedBoxModel" "coefficient" "[I", Cond.fieldLink RX8 29 "SealedBoxModel" "ofX" "[I", Cond.fieldLink RX8 32 "SealedBoxModel" "ofY" "[I", Cond.fieldLink RX8 35 "SealedBoxModel" "ofZ" "[I", Cond.fieldLink RX8 38 "SealedBoxModel" "row" "[I", Cond.fieldLink RX8 41 "SealedBoxModel" "look" "[I", Cond.fieldLink RX8 44 "SealedBoxModel" "c" "[I", Cond.fieldLink RX8 47 "SealedBoxModel" "former" "[I", Cond.fieldLink RX8 50 "SealedBoxModel" "kept" "[I", Cond.fieldLink RX8 53 "SealedBoxModel" "now" "[I", Cond.fieldLink RX8 56 "SealedBoxModel" "base" "[I", Cond.fieldLink RX8 59 "SealedBoxModel" "wide" "[I", Cond.fieldLink RX8 62 "SealedBoxModel" "answers" "[I", Cond.fieldLink RX8 65 "SealedBoxModel" "keyX" "[I", Cond.fieldLink RX8 68 "SealedBoxModel" "keyY" "[I"]
def wsX8_init_r2 : List Cond := [Cond.fieldLink RX8 71 "SealedBoxModel" "keyZ" "[I", Cond.fieldLink RX8 74 "SealedBoxModel" "keyNumber" "[I", Cond.fieldLink RX8 77 "SealedBoxModel" "keyCoefficient" "[I", Cond.fieldLink RX8 80 "SealedBoxModel" "line" "[I", Cond.fieldLink RX8 83 "SealedBoxModel" "said" "I"]
def wsX8_init : List Cond := .code yX8_init cX8_init 1 none :: ((wsX8_init_r1 ++ wsX8_init_r2) ++ wsX80)
def wsX8_in : List Cond := .code yX8_in cX8_in 3 (some .boolean) :: ([])
def wsX8_isNumber : List Cond := .code yX8_isNumber cX8_isNumber 2 (some .boolean) :: ([.fieldLink RX8 7 "SealedBoxModel" "p" "I", .methodLink RX8 86 yX8_in, .static yX8_in, .initialized RX8, .code yX8_in cX8_in 3 (some .boolean)] ++ wsX80)
def wsX8_isBox : List Cond := .code yX8_isBox cX8_isBox 1 (some .boolean) :: ([.methodLink RX8 86 yX8_in, .static yX8_in, .initialized RX8, .code yX8_in cX8_in 3 (some .boolean)])
def wsX8_field : List Cond := .code yX8_field cX8_field 4 (some .int) :: ([.fieldLink RX8 7 "SealedBoxModel" "p" "I", .fieldLink RX8 23 "SealedBoxModel" "terms" "[I", .fieldLink RX8 83 "SealedBoxModel" "said" "I", .methodLink RX8 86 yX8_in, .static yX8_in, .initialized RX8, .code yX8_in cX8_in 3 (some .boolean)] ++ wsX80)
def wsX8_set : List Cond := .code yX8_set cX8_set 4 (some .int) :: ([.fieldLink RX8 13 "SealedBoxModel" "shift" "I", .fieldLink RX8 16 "SealedBoxModel" "scale" "I", .fieldLink RX8 19 "SealedBoxModel" "kind" "[I", .methodLink RX8 86 yX8_in, .static yX8_in, .initialized RX8, .code yX8_in cX8_in 3 (some .boolean)] ++ wsX80)
def wsX8_raised : List Cond := .code yX8_raised cX8_raised 5 (some .int) :: ([.fieldLink RX8 7 "SealedBoxModel" "p" "I"] ++ wsX80)
def wsX8_formOf : List Cond := .code yX8_formOf cX8_formOf 5 (some .int) :: ([.fieldLink RX8 13 "SealedBoxModel" "shift" "I", .fieldLink RX8 7 "SealedBoxModel" "p" "I", .fieldLink RX8 16 "SealedBoxModel" "scale" "I", .methodLink RX8 90 yX8_raised, .instanceMethod yX8_raised, .selects RX8 yX8_raised yX8_raised, .initialized RX8, .code yX8_raised cX8_raised 5 (some .int)] ++ wsX80)
def wsX8_form : List Cond := .code yX8_form cX8_form 4 (some .int) :: ([.fieldLink RX8 98 "SealedBoxModel" "trace" "J", .constantLong RX8 102 (11), .constantLong RX8 104 (111), .methodLink RX8 86 yX8_in, .static yX8_in, .initialized RX8, .code yX8_in cX8_in 3 (some .boolean), .methodLink RX8 94 yX8_isNumber, .instanceMethod yX8_isNumber, .selects RX8 yX8_isNumber yX8_isNumber, .code yX8_isNumber cX8_isNumber 2 (some .boolean), .fieldLink RX8 7 "SealedBoxModel" "p" "I", .methodLink RX8 106 yX8_formOf, .instanceMethod yX8_formOf, .selects RX8 yX8_formOf yX8_formOf, .code yX8_formOf cX8_formOf 5 (some .int), .fieldLink RX8 13 "SealedBoxModel" "shift" "I", .fieldLink RX8 16 "SealedBoxModel" "scale" "I", .methodLink RX8 90 yX8_raised, .instanceMethod yX8_raised, .selects RX8 yX8_raised yX8_raised, .code yX8_raised cX8_raised 5 (some .int)] ++ wsX80)
def wsX8_term : List Cond := .code yX8_term cX8_term 7 (some .int) :: ([.fieldLink RX8 7 "SealedBoxModel" "p" "I", .fieldLink RX8 23 "SealedBoxModel" "terms" "[I", .fieldLink RX8 26 "SealedBoxModel" "coefficient" "[I", .fieldLink RX8 29 "SealedBoxModel" "ofX" "[I", .fieldLink RX8 32 "SealedBoxModel" "ofY" "[I", .fieldLink RX8 35 "SealedBoxModel" "ofZ" "[I", .methodLink RX8 110 yX8_isBox, .static yX8_isBox, .initialized RX8, .code yX8_isBox cX8_isBox 1 (some .boolean), .methodLink RX8 86 yX8_in, .static yX8_in, .code yX8_in cX8_in 3 (some .boolean)] ++ wsX80)
def wsX8_empty : List Cond := .code yX8_empty cX8_empty 3 (some .int) :: ([.fieldLink RX8 23 "SealedBoxModel" "terms" "[I", .methodLink RX8 110 yX8_isBox, .static yX8_isBox, .initialized RX8, .code yX8_isBox cX8_isBox 1 (some .boolean), .methodLink RX8 86 yX8_in, .static yX8_in, .code yX8_in cX8_in 3 (some .boolean)] ++ wsX80)
def wsX8_answer : List Cond := .code yX8_answer cX8_answer 8 (some .int) :: ([.fieldLink RX8 23 "SealedBoxModel" "terms" "[I", .fieldLink RX8 26 "SealedBoxModel" "coefficient" "[I", .fieldLink RX8 19 "SealedBoxModel" "kind" "[I", .fieldLink RX8 29 "SealedBoxModel" "ofX" "[I", .fieldLink RX8 7 "SealedBoxModel" "p" "I", .fieldLink RX8 32 "SealedBoxModel" "ofY" "[I", .fieldLink RX8 35 "SealedBoxModel" "ofZ" "[I", .methodLink RX8 106 yX8_formOf, .instanceMethod yX8_formOf, .selects RX8 yX8_formOf yX8_formOf, .initialized RX8, .code yX8_formOf cX8_formOf 5 (some .int), .fieldLink RX8 13 "SealedBoxModel" "shift" "I", .fieldLink RX8 16 "SealedBoxModel" "scale" "I", .methodLink RX8 90 yX8_raised, .instanceMethod yX8_raised, .selects RX8 yX8_raised yX8_raised, .code yX8_raised cX8_raised 5 (some .int)] ++ wsX80)
def wsX8_ask_r1 : List Cond := [Cond.fieldLink RX8 113 "SealedBoxModel" "asks" "I", Cond.methodLink RX8 110 yX8_isBox, Cond.static yX8_isBox, Cond.initialized RX8, Cond.code yX8_isBox cX8_isBox 1 (some .boolean), Cond.methodLink RX8 86 yX8_in, Cond.static yX8_in, Cond.code yX8_in cX8_in 3 (some .boolean), Cond.methodLink RX8 94 yX8_isNumber, Cond.instanceMethod yX8_isNumber, Cond.selects RX8 yX8_isNumber yX8_isNumber, Cond.code yX8_isNumber cX8_isNumber 2 (some .boolean), Cond.fieldLink RX8 7 "SealedBoxModel" "p" "I", Cond.methodLink RX8 116 yX8_answer, Cond.instanceMethod yX8_answer, Cond.selects RX8 yX8_answer yX8_answer, Cond.code yX8_answer cX8_answer 8 (some .int), Cond.fieldLink RX8 23 "SealedBoxModel" "terms" "[I", Cond.fieldLink RX8 26 "SealedBoxModel" "coefficient" "[I", Cond.fieldLink RX8 19 "SealedBoxModel" "kind" "[I", Cond.fieldLink RX8 29 "SealedBoxModel" "ofX" "[I", Cond.fieldLink RX8 32 "SealedBoxModel" "ofY" "[I", Cond.fieldLink RX8 35 "SealedBoxModel" "ofZ" "[I", Cond.methodLink RX8 106 yX8_formOf]
def wsX8_ask_r2 : List Cond := [Cond.instanceMethod yX8_formOf, Cond.selects RX8 yX8_formOf yX8_formOf, Cond.code yX8_formOf cX8_formOf 5 (some .int), Cond.fieldLink RX8 13 "SealedBoxModel" "shift" "I", Cond.fieldLink RX8 16 "SealedBoxModel" "scale" "I", Cond.methodLink RX8 90 yX8_raised, Cond.instanceMethod yX8_raised, Cond.selects RX8 yX8_raised yX8_raised, Cond.code yX8_raised cX8_raised 5 (some .int)]
def wsX8_ask : List Cond := .code yX8_ask cX8_ask 5 (some .int) :: ((wsX8_ask_r1 ++ wsX8_ask_r2) ++ wsX80)
def wsX8_say : List Cond := .code yX8_say cX8_say 2 (some .int) :: ([.fieldLink RX8 83 "SealedBoxModel" "said" "I", .fieldLink RX8 38 "SealedBoxModel" "row" "[I", .methodLink RX8 94 yX8_isNumber, .instanceMethod yX8_isNumber, .selects RX8 yX8_isNumber yX8_isNumber, .initialized RX8, .code yX8_isNumber cX8_isNumber 2 (some .boolean), .fieldLink RX8 7 "SealedBoxModel" "p" "I", .methodLink RX8 86 yX8_in, .static yX8_in, .code yX8_in cX8_in 3 (some .boolean)] ++ wsX80)
def wsX8_change : List Cond := .code yX8_change cX8_change 4 (some .int) :: ([.fieldLink RX8 83 "SealedBoxModel" "said" "I", .fieldLink RX8 38 "SealedBoxModel" "row" "[I", .methodLink RX8 86 yX8_in, .static yX8_in, .initialized RX8, .code yX8_in cX8_in 3 (some .boolean), .methodLink RX8 94 yX8_isNumber, .instanceMethod yX8_isNumber, .selects RX8 yX8_isNumber yX8_isNumber, .code yX8_isNumber cX8_isNumber 2 (some .boolean), .fieldLink RX8 7 "SealedBoxModel" "p" "I"] ++ wsX80)
def wsX8_clear : List Cond := .code yX8_clear cX8_clear 2 (some .int) :: ([.fieldLink RX8 83 "SealedBoxModel" "said" "I"] ++ wsX80)
def wsX8_over : List Cond := .code yX8_over cX8_over 5 (some .int) :: ([.fieldLink RX8 7 "SealedBoxModel" "p" "I"] ++ wsX80)
def wsX8_grow : List Cond := .code yX8_grow cX8_grow 9 none :: ([.fieldLink RX8 44 "SealedBoxModel" "c" "[I", .fieldLink RX8 47 "SealedBoxModel" "former" "[I", .fieldLink RX8 120 "SealedBoxModel" "length" "I", .fieldLink RX8 41 "SealedBoxModel" "look" "[I", .fieldLink RX8 7 "SealedBoxModel" "p" "I", .fieldLink RX8 50 "SealedBoxModel" "kept" "[I", .methodLink RX8 123 yX8_over, .instanceMethod yX8_over, .selects RX8 yX8_over yX8_over, .initialized RX8, .code yX8_over cX8_over 5 (some .int)] ++ wsX80)
def wsX8_take : List Cond := .code yX8_take cX8_take 2 none :: ([.fieldLink RX8 83 "SealedBoxModel" "said" "I", .fieldLink RX8 41 "SealedBoxModel" "look" "[I", .fieldLink RX8 38 "SealedBoxModel" "row" "[I"] ++ wsX80)
def wsX8_g : List Cond := .code yX8_g cX8_g 2 (some .int) :: ([.fieldLink RX8 7 "SealedBoxModel" "p" "I", .fieldLink RX8 44 "SealedBoxModel" "c" "[I"] ++ wsX80)
def wsX8_register_r1 : List Cond := [Cond.fieldLink RX8 83 "SealedBoxModel" "said" "I", Cond.fieldLink RX8 120 "SealedBoxModel" "length" "I", Cond.methodLink RX8 127 yX8_take, Cond.instanceMethod yX8_take, Cond.selects RX8 yX8_take yX8_take, Cond.initialized RX8, Cond.code yX8_take cX8_take 2 none, Cond.fieldLink RX8 41 "SealedBoxModel" "look" "[I", Cond.fieldLink RX8 38 "SealedBoxModel" "row" "[I", Cond.methodLink RX8 130 yX8_grow, Cond.instanceMethod yX8_grow, Cond.selects RX8 yX8_grow yX8_grow, Cond.code yX8_grow cX8_grow 9 none, Cond.fieldLink RX8 44 "SealedBoxModel" "c" "[I", Cond.fieldLink RX8 47 "SealedBoxModel" "former" "[I", Cond.fieldLink RX8 7 "SealedBoxModel" "p" "I", Cond.fieldLink RX8 50 "SealedBoxModel" "kept" "[I", Cond.methodLink RX8 123 yX8_over, Cond.instanceMethod yX8_over, Cond.selects RX8 yX8_over yX8_over, Cond.code yX8_over cX8_over 5 (some .int), Cond.methodLink RX8 86 yX8_in, Cond.static yX8_in, Cond.code yX8_in cX8_in 3 (some .boolean)]
def wsX8_register_r2 : List Cond := [Cond.methodLink RX8 134 yX8_g, Cond.instanceMethod yX8_g, Cond.selects RX8 yX8_g yX8_g, Cond.code yX8_g cX8_g 2 (some .int)]
def wsX8_register : List Cond := .code yX8_register cX8_register 2 (some .int) :: ((wsX8_register_r1 ++ wsX8_register_r2) ++ wsX80)
def wsX8_product : List Cond := .code yX8_product cX8_product 4 none :: ([.fieldLink RX8 59 "SealedBoxModel" "wide" "[I", .fieldLink RX8 120 "SealedBoxModel" "length" "I", .fieldLink RX8 56 "SealedBoxModel" "base" "[I", .fieldLink RX8 53 "SealedBoxModel" "now" "[I", .fieldLink RX8 7 "SealedBoxModel" "p" "I", .methodLink RX8 134 yX8_g, .instanceMethod yX8_g, .selects RX8 yX8_g yX8_g, .initialized RX8, .code yX8_g cX8_g 2 (some .int), .fieldLink RX8 44 "SealedBoxModel" "c" "[I"] ++ wsX80)
def wsX8_far_r1 : List Cond := [Cond.constant RX8 137 (1000000000), Cond.fieldLink RX8 83 "SealedBoxModel" "said" "I", Cond.fieldLink RX8 38 "SealedBoxModel" "row" "[I", Cond.fieldLink RX8 120 "SealedBoxModel" "length" "I", Cond.fieldLink RX8 53 "SealedBoxModel" "now" "[I", Cond.fieldLink RX8 56 "SealedBoxModel" "base" "[I", Cond.fieldLink RX8 7 "SealedBoxModel" "p" "I", Cond.methodLink RX8 86 yX8_in, Cond.static yX8_in, Cond.initialized RX8, Cond.code yX8_in cX8_in 3 (some .boolean), Cond.methodLink RX8 127 yX8_take, Cond.instanceMethod yX8_take, Cond.selects RX8 yX8_take yX8_take, Cond.code yX8_take cX8_take 2 none, Cond.fieldLink RX8 41 "SealedBoxModel" "look" "[I", Cond.methodLink RX8 130 yX8_grow, Cond.instanceMethod yX8_grow, Cond.selects RX8 yX8_grow yX8_grow, Cond.code yX8_grow cX8_grow 9 none, Cond.fieldLink RX8 44 "SealedBoxModel" "c" "[I", Cond.fieldLink RX8 47 "SealedBoxModel" "former" "[I", Cond.fieldLink RX8 50 "SealedBoxModel" "kept" "[I", Cond.methodLink RX8 123 yX8_over]
def wsX8_far_r2 : List Cond := [Cond.instanceMethod yX8_over, Cond.selects RX8 yX8_over yX8_over, Cond.code yX8_over cX8_over 5 (some .int), Cond.methodLink RX8 134 yX8_g, Cond.instanceMethod yX8_g, Cond.selects RX8 yX8_g yX8_g, Cond.code yX8_g cX8_g 2 (some .int), Cond.methodLink RX8 138 yX8_product, Cond.instanceMethod yX8_product, Cond.selects RX8 yX8_product yX8_product, Cond.code yX8_product cX8_product 4 none, Cond.fieldLink RX8 59 "SealedBoxModel" "wide" "[I"]
def wsX8_far : List Cond := .code yX8_far cX8_far 4 (some .int) :: ((wsX8_far_r1 ++ wsX8_far_r2) ++ wsX80)
def wsX8_lie_r1 : List Cond := [Cond.fieldLink RX8 83 "SealedBoxModel" "said" "I", Cond.fieldLink RX8 120 "SealedBoxModel" "length" "I", Cond.constant RX8 142 (999000), Cond.fieldLink RX8 7 "SealedBoxModel" "p" "I", Cond.fieldLink RX8 41 "SealedBoxModel" "look" "[I", Cond.fieldLink RX8 38 "SealedBoxModel" "row" "[I", Cond.methodLink RX8 86 yX8_in, Cond.static yX8_in, Cond.initialized RX8, Cond.code yX8_in cX8_in 3 (some .boolean), Cond.methodLink RX8 127 yX8_take, Cond.instanceMethod yX8_take, Cond.selects RX8 yX8_take yX8_take, Cond.code yX8_take cX8_take 2 none, Cond.methodLink RX8 130 yX8_grow, Cond.instanceMethod yX8_grow, Cond.selects RX8 yX8_grow yX8_grow, Cond.code yX8_grow cX8_grow 9 none, Cond.fieldLink RX8 44 "SealedBoxModel" "c" "[I", Cond.fieldLink RX8 47 "SealedBoxModel" "former" "[I", Cond.fieldLink RX8 50 "SealedBoxModel" "kept" "[I", Cond.methodLink RX8 123 yX8_over, Cond.instanceMethod yX8_over, Cond.selects RX8 yX8_over yX8_over]
def wsX8_lie_r2 : List Cond := [Cond.code yX8_over cX8_over 5 (some .int)]
def wsX8_lie : List Cond := .code yX8_lie cX8_lie 4 (some .int) :: ((wsX8_lie_r1 ++ wsX8_lie_r2) ++ wsX80)
def wsX8_isRoot : List Cond := .code yX8_isRoot cX8_isRoot 4 (some .boolean) :: ([.fieldLink RX8 120 "SealedBoxModel" "length" "I", .fieldLink RX8 7 "SealedBoxModel" "p" "I", .methodLink RX8 134 yX8_g, .instanceMethod yX8_g, .selects RX8 yX8_g yX8_g, .initialized RX8, .code yX8_g cX8_g 2 (some .int), .fieldLink RX8 44 "SealedBoxModel" "c" "[I", .methodLink RX8 90 yX8_raised, .instanceMethod yX8_raised, .selects RX8 yX8_raised yX8_raised, .code yX8_raised cX8_raised 5 (some .int)] ++ wsX80)
def wsX8_told : List Cond := .code yX8_told cX8_told 4 (some .int) :: ([.fieldLink RX8 143 "SealedBoxModel" "keys" "I", .fieldLink RX8 77 "SealedBoxModel" "keyCoefficient" "[I", .fieldLink RX8 74 "SealedBoxModel" "keyNumber" "[I", .fieldLink RX8 7 "SealedBoxModel" "p" "I", .methodLink RX8 90 yX8_raised, .instanceMethod yX8_raised, .selects RX8 yX8_raised yX8_raised, .initialized RX8, .code yX8_raised cX8_raised 5 (some .int)] ++ wsX80)
def wsX8_solve : List Cond := .code yX8_solve cX8_solve 7 none :: ([.fieldLink RX8 143 "SealedBoxModel" "keys" "I", .fieldLink RX8 80 "SealedBoxModel" "line" "[I", .fieldLink RX8 74 "SealedBoxModel" "keyNumber" "[I", .fieldLink RX8 62 "SealedBoxModel" "answers" "[I", .fieldLink RX8 7 "SealedBoxModel" "p" "I", .fieldLink RX8 77 "SealedBoxModel" "keyCoefficient" "[I", .methodLink RX8 90 yX8_raised, .instanceMethod yX8_raised, .selects RX8 yX8_raised yX8_raised, .initialized RX8, .code yX8_raised cX8_raised 5 (some .int), .methodLink RX8 123 yX8_over, .instanceMethod yX8_over, .selects RX8 yX8_over yX8_over, .code yX8_over cX8_over 5 (some .int)] ++ wsX80)
def wsX8_getBack_r1 : List Cond := [Cond.fieldLink RX8 113 "SealedBoxModel" "asks" "I", Cond.fieldLink RX8 62 "SealedBoxModel" "answers" "[I", Cond.fieldLink RX8 7 "SealedBoxModel" "p" "I", Cond.fieldLink RX8 41 "SealedBoxModel" "look" "[I", Cond.fieldLink RX8 120 "SealedBoxModel" "length" "I", Cond.fieldLink RX8 143 "SealedBoxModel" "keys" "I", Cond.fieldLink RX8 74 "SealedBoxModel" "keyNumber" "[I", Cond.fieldLink RX8 65 "SealedBoxModel" "keyX" "[I", Cond.fieldLink RX8 68 "SealedBoxModel" "keyY" "[I", Cond.fieldLink RX8 71 "SealedBoxModel" "keyZ" "[I", Cond.methodLink RX8 90 yX8_raised, Cond.instanceMethod yX8_raised, Cond.selects RX8 yX8_raised yX8_raised, Cond.initialized RX8, Cond.code yX8_raised cX8_raised 5 (some .int), Cond.methodLink RX8 116 yX8_answer, Cond.instanceMethod yX8_answer, Cond.selects RX8 yX8_answer yX8_answer, Cond.code yX8_answer cX8_answer 8 (some .int), Cond.fieldLink RX8 23 "SealedBoxModel" "terms" "[I", Cond.fieldLink RX8 26 "SealedBoxModel" "coefficient" "[I", Cond.fieldLink RX8 19 "SealedBoxModel" "kind" "[I", Cond.fieldLink RX8 29 "SealedBoxModel" "ofX" "[I", Cond.fieldLink RX8 32 "SealedBoxModel" "ofY" "[I"]
def wsX8_getBack_r2 : List Cond := [Cond.fieldLink RX8 35 "SealedBoxModel" "ofZ" "[I", Cond.methodLink RX8 106 yX8_formOf, Cond.instanceMethod yX8_formOf, Cond.selects RX8 yX8_formOf yX8_formOf, Cond.code yX8_formOf cX8_formOf 5 (some .int), Cond.fieldLink RX8 13 "SealedBoxModel" "shift" "I", Cond.fieldLink RX8 16 "SealedBoxModel" "scale" "I", Cond.methodLink RX8 130 yX8_grow, Cond.instanceMethod yX8_grow, Cond.selects RX8 yX8_grow yX8_grow, Cond.code yX8_grow cX8_grow 9 none, Cond.fieldLink RX8 44 "SealedBoxModel" "c" "[I", Cond.fieldLink RX8 47 "SealedBoxModel" "former" "[I", Cond.fieldLink RX8 50 "SealedBoxModel" "kept" "[I", Cond.methodLink RX8 123 yX8_over, Cond.instanceMethod yX8_over, Cond.selects RX8 yX8_over yX8_over, Cond.code yX8_over cX8_over 5 (some .int), Cond.methodLink RX8 146 yX8_isRoot, Cond.instanceMethod yX8_isRoot, Cond.selects RX8 yX8_isRoot yX8_isRoot, Cond.code yX8_isRoot cX8_isRoot 4 (some .boolean), Cond.methodLink RX8 134 yX8_g, Cond.instanceMethod yX8_g]
def wsX8_getBack_r3 : List Cond := [Cond.selects RX8 yX8_g yX8_g, Cond.code yX8_g cX8_g 2 (some .int), Cond.methodLink RX8 149 yX8_solve, Cond.instanceMethod yX8_solve, Cond.selects RX8 yX8_solve yX8_solve, Cond.code yX8_solve cX8_solve 7 none, Cond.fieldLink RX8 80 "SealedBoxModel" "line" "[I", Cond.fieldLink RX8 77 "SealedBoxModel" "keyCoefficient" "[I", Cond.methodLink RX8 152 yX8_told, Cond.instanceMethod yX8_told, Cond.selects RX8 yX8_told yX8_told, Cond.code yX8_told cX8_told 4 (some .int)]
def wsX8_getBack : List Cond := .code yX8_getBack cX8_getBack 8 (some .boolean) :: ((wsX8_getBack_r1 ++ (wsX8_getBack_r2 ++ wsX8_getBack_r3)) ++ wsX80)
def wsX8_got_r1 : List Cond := [Cond.fieldLink RX8 143 "SealedBoxModel" "keys" "I", Cond.fieldLink RX8 77 "SealedBoxModel" "keyCoefficient" "[I", Cond.fieldLink RX8 65 "SealedBoxModel" "keyX" "[I", Cond.fieldLink RX8 68 "SealedBoxModel" "keyY" "[I", Cond.fieldLink RX8 71 "SealedBoxModel" "keyZ" "[I", Cond.methodLink RX8 110 yX8_isBox, Cond.static yX8_isBox, Cond.initialized RX8, Cond.code yX8_isBox cX8_isBox 1 (some .boolean), Cond.methodLink RX8 86 yX8_in, Cond.static yX8_in, Cond.code yX8_in cX8_in 3 (some .boolean), Cond.methodLink RX8 155 yX8_getBack, Cond.instanceMethod yX8_getBack, Cond.selects RX8 yX8_getBack yX8_getBack, Cond.code yX8_getBack cX8_getBack 8 (some .boolean), Cond.fieldLink RX8 113 "SealedBoxModel" "asks" "I", Cond.fieldLink RX8 62 "SealedBoxModel" "answers" "[I", Cond.fieldLink RX8 7 "SealedBoxModel" "p" "I", Cond.fieldLink RX8 41 "SealedBoxModel" "look" "[I", Cond.fieldLink RX8 120 "SealedBoxModel" "length" "I", Cond.fieldLink RX8 74 "SealedBoxModel" "keyNumber" "[I", Cond.methodLink RX8 90 yX8_raised, Cond.instanceMethod yX8_raised]
def wsX8_got_r2 : List Cond := [Cond.selects RX8 yX8_raised yX8_raised, Cond.code yX8_raised cX8_raised 5 (some .int), Cond.methodLink RX8 116 yX8_answer, Cond.instanceMethod yX8_answer, Cond.selects RX8 yX8_answer yX8_answer, Cond.code yX8_answer cX8_answer 8 (some .int), Cond.fieldLink RX8 23 "SealedBoxModel" "terms" "[I", Cond.fieldLink RX8 26 "SealedBoxModel" "coefficient" "[I", Cond.fieldLink RX8 19 "SealedBoxModel" "kind" "[I", Cond.fieldLink RX8 29 "SealedBoxModel" "ofX" "[I", Cond.fieldLink RX8 32 "SealedBoxModel" "ofY" "[I", Cond.fieldLink RX8 35 "SealedBoxModel" "ofZ" "[I", Cond.methodLink RX8 106 yX8_formOf, Cond.instanceMethod yX8_formOf, Cond.selects RX8 yX8_formOf yX8_formOf, Cond.code yX8_formOf cX8_formOf 5 (some .int), Cond.fieldLink RX8 13 "SealedBoxModel" "shift" "I", Cond.fieldLink RX8 16 "SealedBoxModel" "scale" "I", Cond.methodLink RX8 130 yX8_grow, Cond.instanceMethod yX8_grow, Cond.selects RX8 yX8_grow yX8_grow, Cond.code yX8_grow cX8_grow 9 none, Cond.fieldLink RX8 44 "SealedBoxModel" "c" "[I", Cond.fieldLink RX8 47 "SealedBoxModel" "former" "[I"]
def wsX8_got_r3 : List Cond := [Cond.fieldLink RX8 50 "SealedBoxModel" "kept" "[I", Cond.methodLink RX8 123 yX8_over, Cond.instanceMethod yX8_over, Cond.selects RX8 yX8_over yX8_over, Cond.code yX8_over cX8_over 5 (some .int), Cond.methodLink RX8 146 yX8_isRoot, Cond.instanceMethod yX8_isRoot, Cond.selects RX8 yX8_isRoot yX8_isRoot, Cond.code yX8_isRoot cX8_isRoot 4 (some .boolean), Cond.methodLink RX8 134 yX8_g, Cond.instanceMethod yX8_g, Cond.selects RX8 yX8_g yX8_g, Cond.code yX8_g cX8_g 2 (some .int), Cond.methodLink RX8 149 yX8_solve, Cond.instanceMethod yX8_solve, Cond.selects RX8 yX8_solve yX8_solve, Cond.code yX8_solve cX8_solve 7 none, Cond.fieldLink RX8 80 "SealedBoxModel" "line" "[I", Cond.methodLink RX8 152 yX8_told, Cond.instanceMethod yX8_told, Cond.selects RX8 yX8_told yX8_told, Cond.code yX8_told cX8_told 4 (some .int)]
def wsX8_got : List Cond := .code yX8_got cX8_got 4 (some .int) :: ((wsX8_got_r1 ++ (wsX8_got_r2 ++ wsX8_got_r3)) ++ wsX80)
def wsX8_right_r1 : List Cond := [Cond.fieldLink RX8 113 "SealedBoxModel" "asks" "I", Cond.fieldLink RX8 143 "SealedBoxModel" "keys" "I", Cond.fieldLink RX8 77 "SealedBoxModel" "keyCoefficient" "[I", Cond.fieldLink RX8 65 "SealedBoxModel" "keyX" "[I", Cond.fieldLink RX8 7 "SealedBoxModel" "p" "I", Cond.fieldLink RX8 68 "SealedBoxModel" "keyY" "[I", Cond.fieldLink RX8 71 "SealedBoxModel" "keyZ" "[I", Cond.methodLink RX8 110 yX8_isBox, Cond.static yX8_isBox, Cond.initialized RX8, Cond.code yX8_isBox cX8_isBox 1 (some .boolean), Cond.methodLink RX8 86 yX8_in, Cond.static yX8_in, Cond.code yX8_in cX8_in 3 (some .boolean), Cond.methodLink RX8 94 yX8_isNumber, Cond.instanceMethod yX8_isNumber, Cond.selects RX8 yX8_isNumber yX8_isNumber, Cond.code yX8_isNumber cX8_isNumber 2 (some .boolean), Cond.methodLink RX8 155 yX8_getBack, Cond.instanceMethod yX8_getBack, Cond.selects RX8 yX8_getBack yX8_getBack, Cond.code yX8_getBack cX8_getBack 8 (some .boolean), Cond.fieldLink RX8 62 "SealedBoxModel" "answers" "[I", Cond.fieldLink RX8 41 "SealedBoxModel" "look" "[I"]
def wsX8_right_r2 : List Cond := [Cond.fieldLink RX8 120 "SealedBoxModel" "length" "I", Cond.fieldLink RX8 74 "SealedBoxModel" "keyNumber" "[I", Cond.methodLink RX8 90 yX8_raised, Cond.instanceMethod yX8_raised, Cond.selects RX8 yX8_raised yX8_raised, Cond.code yX8_raised cX8_raised 5 (some .int), Cond.methodLink RX8 116 yX8_answer, Cond.instanceMethod yX8_answer, Cond.selects RX8 yX8_answer yX8_answer, Cond.code yX8_answer cX8_answer 8 (some .int), Cond.fieldLink RX8 23 "SealedBoxModel" "terms" "[I", Cond.fieldLink RX8 26 "SealedBoxModel" "coefficient" "[I", Cond.fieldLink RX8 19 "SealedBoxModel" "kind" "[I", Cond.fieldLink RX8 29 "SealedBoxModel" "ofX" "[I", Cond.fieldLink RX8 32 "SealedBoxModel" "ofY" "[I", Cond.fieldLink RX8 35 "SealedBoxModel" "ofZ" "[I", Cond.methodLink RX8 106 yX8_formOf, Cond.instanceMethod yX8_formOf, Cond.selects RX8 yX8_formOf yX8_formOf, Cond.code yX8_formOf cX8_formOf 5 (some .int), Cond.fieldLink RX8 13 "SealedBoxModel" "shift" "I", Cond.fieldLink RX8 16 "SealedBoxModel" "scale" "I", Cond.methodLink RX8 130 yX8_grow, Cond.instanceMethod yX8_grow]
def wsX8_right_r3 : List Cond := [Cond.selects RX8 yX8_grow yX8_grow, Cond.code yX8_grow cX8_grow 9 none, Cond.fieldLink RX8 44 "SealedBoxModel" "c" "[I", Cond.fieldLink RX8 47 "SealedBoxModel" "former" "[I", Cond.fieldLink RX8 50 "SealedBoxModel" "kept" "[I", Cond.methodLink RX8 123 yX8_over, Cond.instanceMethod yX8_over, Cond.selects RX8 yX8_over yX8_over, Cond.code yX8_over cX8_over 5 (some .int), Cond.methodLink RX8 146 yX8_isRoot, Cond.instanceMethod yX8_isRoot, Cond.selects RX8 yX8_isRoot yX8_isRoot, Cond.code yX8_isRoot cX8_isRoot 4 (some .boolean), Cond.methodLink RX8 134 yX8_g, Cond.instanceMethod yX8_g, Cond.selects RX8 yX8_g yX8_g, Cond.code yX8_g cX8_g 2 (some .int), Cond.methodLink RX8 149 yX8_solve, Cond.instanceMethod yX8_solve, Cond.selects RX8 yX8_solve yX8_solve, Cond.code yX8_solve cX8_solve 7 none, Cond.fieldLink RX8 80 "SealedBoxModel" "line" "[I", Cond.methodLink RX8 152 yX8_told, Cond.instanceMethod yX8_told]
def wsX8_right_r4 : List Cond := [Cond.selects RX8 yX8_told yX8_told, Cond.code yX8_told cX8_told 4 (some .int)]
def wsX8_right : List Cond := .code yX8_right cX8_right 9 (some .int) :: ((wsX8_right_r1 ++ (wsX8_right_r2 ++ (wsX8_right_r3 ++ wsX8_right_r4))) ++ wsX80)
def wsX8_zeros_r1 : List Cond := [Cond.fieldLink RX8 7 "SealedBoxModel" "p" "I", Cond.methodLink RX8 110 yX8_isBox, Cond.static yX8_isBox, Cond.initialized RX8, Cond.code yX8_isBox cX8_isBox 1 (some .boolean), Cond.methodLink RX8 86 yX8_in, Cond.static yX8_in, Cond.code yX8_in cX8_in 3 (some .boolean), Cond.methodLink RX8 116 yX8_answer, Cond.instanceMethod yX8_answer, Cond.selects RX8 yX8_answer yX8_answer, Cond.code yX8_answer cX8_answer 8 (some .int), Cond.fieldLink RX8 23 "SealedBoxModel" "terms" "[I", Cond.fieldLink RX8 26 "SealedBoxModel" "coefficient" "[I", Cond.fieldLink RX8 19 "SealedBoxModel" "kind" "[I", Cond.fieldLink RX8 29 "SealedBoxModel" "ofX" "[I", Cond.fieldLink RX8 32 "SealedBoxModel" "ofY" "[I", Cond.fieldLink RX8 35 "SealedBoxModel" "ofZ" "[I", Cond.methodLink RX8 106 yX8_formOf, Cond.instanceMethod yX8_formOf, Cond.selects RX8 yX8_formOf yX8_formOf, Cond.code yX8_formOf cX8_formOf 5 (some .int), Cond.fieldLink RX8 13 "SealedBoxModel" "shift" "I", Cond.fieldLink RX8 16 "SealedBoxModel" "scale" "I"]
def wsX8_zeros_r2 : List Cond := [Cond.methodLink RX8 90 yX8_raised, Cond.instanceMethod yX8_raised, Cond.selects RX8 yX8_raised yX8_raised, Cond.code yX8_raised cX8_raised 5 (some .int)]
def wsX8_zeros : List Cond := .code yX8_zeros cX8_zeros 4 (some .int) :: ((wsX8_zeros_r1 ++ wsX8_zeros_r2) ++ wsX80)
def wsX8_meet : List Cond := .code yX8_meet cX8_meet 3 (some .int) :: ([.fieldLink RX8 7 "SealedBoxModel" "p" "I", .methodLink RX8 116 yX8_answer, .instanceMethod yX8_answer, .selects RX8 yX8_answer yX8_answer, .initialized RX8, .code yX8_answer cX8_answer 8 (some .int), .fieldLink RX8 23 "SealedBoxModel" "terms" "[I", .fieldLink RX8 26 "SealedBoxModel" "coefficient" "[I", .fieldLink RX8 19 "SealedBoxModel" "kind" "[I", .fieldLink RX8 29 "SealedBoxModel" "ofX" "[I", .fieldLink RX8 32 "SealedBoxModel" "ofY" "[I", .fieldLink RX8 35 "SealedBoxModel" "ofZ" "[I", .methodLink RX8 106 yX8_formOf, .instanceMethod yX8_formOf, .selects RX8 yX8_formOf yX8_formOf, .code yX8_formOf cX8_formOf 5 (some .int), .fieldLink RX8 13 "SealedBoxModel" "shift" "I", .fieldLink RX8 16 "SealedBoxModel" "scale" "I", .methodLink RX8 90 yX8_raised, .instanceMethod yX8_raised, .selects RX8 yX8_raised yX8_raised, .code yX8_raised cX8_raised 5 (some .int)] ++ wsX80)
def wsX8_count : List Cond := .code yX8_count cX8_count 2 (some .int) :: ([.fieldLink RX8 7 "SealedBoxModel" "p" "I", .fieldLink RX8 23 "SealedBoxModel" "terms" "[I", .fieldLink RX8 83 "SealedBoxModel" "said" "I", .fieldLink RX8 113 "SealedBoxModel" "asks" "I"] ++ wsX80)
def wsX8_trace : List Cond := .code yX8_trace cX8_trace 1 (some .long) :: ([.fieldLink RX8 98 "SealedBoxModel" "trace" "J"] ++ wsX80)
def wsJ9_min_7cf53 : List Cond := .code yJ9_min_7cf53 cJ9_min_7cf53 2 (some .int) :: ([])
def wsL_law_r1 : List Cond := [Cond.classLink RL 7 RX7, Cond.instantiable RX7 12, Cond.initialized RX7, Cond.classLink RL 10 RX8, Cond.instantiable RX8 29, Cond.initialized RX8, Cond.methodLink RL 9 yX7_init, Cond.instanceMethod yX7_init, Cond.code yX7_init cX7_init 1 none, Cond.methodLink RX7 1 objectInit, Cond.instanceMethod objectInit, Cond.code objectInit ⟨#[0xb1]⟩ 1 none, Cond.classLink RX7 7 RX4, Cond.instantiable RX4 2, Cond.initialized RX4, Cond.fieldLink RX7 10 "SealedBox" "numbers" "LSealedBox$PrimeField;", Cond.classLink RX7 16 RX0, Cond.instantiable RX0 3, Cond.initialized RX0, Cond.fieldLink RX7 21 "SealedBox" "bases" "LSealedBox$Bases;", Cond.classLink RX7 25 RX1, Cond.instantiable RX1 7, Cond.initialized RX1, Cond.fieldLink RX7 30 "SealedBox" "first" "LSealedBox$Box;"]
def wsL_law_r2 : List Cond := [Cond.fieldLink RX7 34 "SealedBox" "second" "LSealedBox$Box;", Cond.arrayClass .int, Cond.fieldLink RX7 37 "SealedBox" "row" "[I", Cond.classLink RX7 41 RX6, Cond.instantiable RX6 8, Cond.initialized RX6, Cond.fieldLink RX7 44 "SealedBox" "shortest" "LSealedBox$Register;", Cond.classLink RX7 48 RX3, Cond.instantiable RX3 5, Cond.initialized RX3, Cond.fieldLink RX7 51 "SealedBox" "onward" "LSealedBox$Onward;", Cond.classLink RX7 55 RX2, Cond.instantiable RX2 4, Cond.initialized RX2, Cond.fieldLink RX7 58 "SealedBox" "lies" "LSealedBox$LieSearch;", Cond.classLink RX7 62 RX5, Cond.instantiable RX5 8, Cond.initialized RX5, Cond.fieldLink RX7 65 "SealedBox" "recovery" "LSealedBox$Recovery;", Cond.fieldLink RX7 69 "SealedBox" "rowLength" "I", Cond.fieldLink RX7 73 "SealedBox" "asks" "I", Cond.fieldLink RX7 76 "SealedBox" "traced" "J", Cond.methodLink RX7 9 yX4_init, Cond.instanceMethod yX4_init]
def wsL_law_r3 : List Cond := [Cond.code yX4_init cX4_init 1 none, Cond.methodLink RX4 3 objectInit, Cond.fieldLink RX4 9 "SealedBox$PrimeField" "inverses" "[I", Cond.fieldLink RX4 15 "SealedBox$PrimeField" "p" "I", Cond.methodLink RX4 19 yX4_fillInverses, Cond.instanceMethod yX4_fillInverses, Cond.selects RX4 yX4_fillInverses yX4_fillInverses, Cond.code yX4_fillInverses cX4_fillInverses 2 none, Cond.methodLink RX7 18 yX0_init, Cond.instanceMethod yX0_init, Cond.code yX0_init cX0_init 2 none, Cond.methodLink RX0 3 objectInit, Cond.fieldLink RX0 9 "SealedBox$Bases" "shift" "I", Cond.fieldLink RX0 15 "SealedBox$Bases" "scale" "I", Cond.fieldLink RX0 18 "SealedBox$Bases" "numbers" "LSealedBox$PrimeField;", Cond.methodLink RX7 27 yX1_init, Cond.instanceMethod yX1_init, Cond.code yX1_init cX1_init 3 none, Cond.methodLink RX1 3 objectInit, Cond.fieldLink RX1 11 "SealedBox$Box" "parts" "[I", Cond.fieldLink RX1 15 "SealedBox$Box" "lineForms" "[I", Cond.fieldLink RX1 18 "SealedBox$Box" "line" "[I", Cond.fieldLink RX1 21 "SealedBox$Box" "kind" "I", Cond.fieldLink RX1 25 "SealedBox$Box" "terms" "I"]
def wsL_law_r4 : List Cond := [Cond.fieldLink RX1 28 "SealedBox$Box" "numbers" "LSealedBox$PrimeField;", Cond.fieldLink RX1 32 "SealedBox$Box" "bases" "LSealedBox$Bases;", Cond.methodLink RX7 43 yX6_init, Cond.instanceMethod yX6_init, Cond.code yX6_init cX6_init 2 none, Cond.methodLink RX6 3 objectInit, Cond.fieldLink RX6 9 "SealedBox$Register" "now" "[I", Cond.fieldLink RX6 15 "SealedBox$Register" "former" "[I", Cond.fieldLink RX6 18 "SealedBox$Register" "spare" "[I", Cond.fieldLink RX6 21 "SealedBox$Register" "length" "I", Cond.fieldLink RX6 25 "SealedBox$Register" "formerLength" "I", Cond.fieldLink RX6 28 "SealedBox$Register" "formerError" "I", Cond.fieldLink RX6 31 "SealedBox$Register" "moved" "I", Cond.fieldLink RX6 34 "SealedBox$Register" "numbers" "LSealedBox$PrimeField;", Cond.methodLink RX7 50 yX3_init, Cond.instanceMethod yX3_init, Cond.code yX3_init cX3_init 2 none, Cond.methodLink RX3 3 objectInit, Cond.fieldLink RX3 9 "SealedBox$Onward" "weights" "[I", Cond.fieldLink RX3 15 "SealedBox$Onward" "rest" "[I", Cond.fieldLink RX3 18 "SealedBox$Onward" "product" "[I", Cond.fieldLink RX3 21 "SealedBox$Onward" "length" "I", Cond.fieldLink RX3 25 "SealedBox$Onward" "numbers" "LSealedBox$PrimeField;", Cond.methodLink RX7 57 yX2_init]
def wsL_law_r5 : List Cond := [Cond.instanceMethod yX2_init, Cond.code yX2_init cX2_init 2 none, Cond.methodLink RX2 3 objectInit, Cond.fieldLink RX2 9 "SealedBox$LieSearch" "mended" "[I", Cond.fieldLink RX2 15 "SealedBox$LieSearch" "numbers" "LSealedBox$PrimeField;", Cond.classLink RX2 19 RX6, Cond.fieldLink RX2 24 "SealedBox$LieSearch" "ahead" "LSealedBox$Register;", Cond.fieldLink RX2 28 "SealedBox$LieSearch" "trial" "LSealedBox$Register;", Cond.methodLink RX2 21 yX6_init, Cond.methodLink RX7 64 yX5_init, Cond.instanceMethod yX5_init, Cond.code yX5_init cX5_init 3 none, Cond.methodLink RX5 3 objectInit, Cond.fieldLink RX5 11 "SealedBox$Recovery" "answers" "[I", Cond.fieldLink RX5 15 "SealedBox$Recovery" "keyNumbers" "[I", Cond.fieldLink RX5 18 "SealedBox$Recovery" "keyExponents" "[I", Cond.fieldLink RX5 21 "SealedBox$Recovery" "others" "[I", Cond.fieldLink RX5 24 "SealedBox$Recovery" "keys" "I", Cond.fieldLink RX5 28 "SealedBox$Recovery" "numbers" "LSealedBox$PrimeField;", Cond.classLink RX5 32 RX6, Cond.fieldLink RX5 37 "SealedBox$Recovery" "register" "LSealedBox$Register;", Cond.classLink RX5 41 RX1, Cond.fieldLink RX5 46 "SealedBox$Recovery" "found" "LSealedBox$Box;", Cond.methodLink RX5 34 yX6_init]
def wsL_law_r6 : List Cond := [Cond.methodLink RX5 43 yX1_init, Cond.methodLink RL 12 yX8_init, Cond.instanceMethod yX8_init, Cond.code yX8_init cX8_init 1 none, Cond.methodLink RX8 1 objectInit, Cond.fieldLink RX8 7 "SealedBoxModel" "p" "I", Cond.fieldLink RX8 13 "SealedBoxModel" "shift" "I", Cond.fieldLink RX8 16 "SealedBoxModel" "scale" "I", Cond.fieldLink RX8 19 "SealedBoxModel" "kind" "[I", Cond.fieldLink RX8 23 "SealedBoxModel" "terms" "[I", Cond.fieldLink RX8 26 "SealedBoxModel" "coefficient" "[I", Cond.fieldLink RX8 29 "SealedBoxModel" "ofX" "[I", Cond.fieldLink RX8 32 "SealedBoxModel" "ofY" "[I", Cond.fieldLink RX8 35 "SealedBoxModel" "ofZ" "[I", Cond.fieldLink RX8 38 "SealedBoxModel" "row" "[I", Cond.fieldLink RX8 41 "SealedBoxModel" "look" "[I", Cond.fieldLink RX8 44 "SealedBoxModel" "c" "[I", Cond.fieldLink RX8 47 "SealedBoxModel" "former" "[I", Cond.fieldLink RX8 50 "SealedBoxModel" "kept" "[I", Cond.fieldLink RX8 53 "SealedBoxModel" "now" "[I", Cond.fieldLink RX8 56 "SealedBoxModel" "base" "[I", Cond.fieldLink RX8 59 "SealedBoxModel" "wide" "[I", Cond.fieldLink RX8 62 "SealedBoxModel" "answers" "[I", Cond.fieldLink RX8 65 "SealedBoxModel" "keyX" "[I"]
def wsL_law_r7 : List Cond := [Cond.fieldLink RX8 68 "SealedBoxModel" "keyY" "[I", Cond.fieldLink RX8 71 "SealedBoxModel" "keyZ" "[I", Cond.fieldLink RX8 74 "SealedBoxModel" "keyNumber" "[I", Cond.fieldLink RX8 77 "SealedBoxModel" "keyCoefficient" "[I", Cond.fieldLink RX8 80 "SealedBoxModel" "line" "[I", Cond.fieldLink RX8 83 "SealedBoxModel" "said" "I", Cond.methodLink RL 13 yX7_field, Cond.instanceMethod yX7_field, Cond.selects RX7 yX7_field yX7_field, Cond.code yX7_field cX7_field 3 (some .int), Cond.methodLink RX7 83 yX4_become, Cond.instanceMethod yX4_become, Cond.selects RX4 yX4_become yX4_become, Cond.code yX4_become cX4_become 2 (some .boolean), Cond.methodLink RX4 22 yX4_isPrime, Cond.static yX4_isPrime, Cond.code yX4_isPrime cX4_isPrime 2 (some .boolean), Cond.methodLink RX7 87 yX1_drop, Cond.instanceMethod yX1_drop, Cond.selects RX1 yX1_drop yX1_drop, Cond.code yX1_drop cX1_drop 1 none, Cond.methodLink RL 17 yX8_field, Cond.instanceMethod yX8_field, Cond.selects RX8 yX8_field yX8_field]
def wsL_law_r8 : List Cond := [Cond.code yX8_field cX8_field 4 (some .int), Cond.methodLink RX8 86 yX8_in, Cond.static yX8_in, Cond.code yX8_in cX8_in 3 (some .boolean), Cond.methodLink RL 18 yX7_set, Cond.instanceMethod yX7_set, Cond.selects RX7 yX7_set yX7_set, Cond.code yX7_set cX7_set 3 (some .int), Cond.methodLink RX7 90 yX7_setShift, Cond.instanceMethod yX7_setShift, Cond.selects RX7 yX7_setShift yX7_setShift, Cond.code yX7_setShift cX7_setShift 3 (some .int), Cond.methodLink RX7 94 yX7_setScale, Cond.instanceMethod yX7_setScale, Cond.selects RX7 yX7_setScale yX7_setScale, Cond.code yX7_setScale cX7_setScale 3 (some .int), Cond.methodLink RX7 97 yX7_setKind, Cond.static yX7_setKind, Cond.code yX7_setKind cX7_setKind 3 (some .int), Cond.methodLink RX7 107 yX7_isKind, Cond.static yX7_isKind, Cond.code yX7_isKind cX7_isKind 1 (some .boolean), Cond.methodLink RL 22 yX8_set, Cond.instanceMethod yX8_set]
def wsL_law_r9 : List Cond := [Cond.selects RX8 yX8_set yX8_set, Cond.code yX8_set cX8_set 4 (some .int), Cond.methodLink RL 23 yX7_form, Cond.instanceMethod yX7_form, Cond.selects RX7 yX7_form yX7_form, Cond.code yX7_form cX7_form 4 (some .int), Cond.methodLink RX7 113 yX4_has, Cond.instanceMethod yX4_has, Cond.selects RX4 yX4_has yX4_has, Cond.code yX4_has cX4_has 2 (some .boolean), Cond.methodLink RX7 116 yX7_isExponent, Cond.static yX7_isExponent, Cond.code yX7_isExponent cX7_isExponent 1 (some .boolean), Cond.methodLink RX7 119 yX0_bodiesAsked, Cond.static yX0_bodiesAsked, Cond.code yX0_bodiesAsked cX0_bodiesAsked 1 (some .int), Cond.methodLink RX7 122 yX0_letter, Cond.instanceMethod yX0_letter, Cond.selects RX0 yX0_letter yX0_letter, Cond.code yX0_letter cX0_letter 4 (some .int), Cond.methodLink RX0 22 yX0_scaled, Cond.instanceMethod yX0_scaled, Cond.selects RX0 yX0_scaled yX0_scaled, Cond.code yX0_scaled cX0_scaled 3 (some .int)]
def wsL_law_r10 : List Cond := [Cond.methodLink RX0 26 yX0_shifted, Cond.instanceMethod yX0_shifted, Cond.selects RX0 yX0_shifted yX0_shifted, Cond.code yX0_shifted cX0_shifted 3 (some .int), Cond.methodLink RX0 34 yX4_plus, Cond.instanceMethod yX4_plus, Cond.selects RX4 yX4_plus yX4_plus, Cond.code yX4_plus cX4_plus 3 (some .int), Cond.methodLink RX0 29 yX4_power, Cond.instanceMethod yX4_power, Cond.selects RX4 yX4_power yX4_power, Cond.code yX4_power cX4_power 5 (some .int), Cond.methodLink RX0 37 yX4_times, Cond.instanceMethod yX4_times, Cond.selects RX4 yX4_times yX4_times, Cond.code yX4_times cX4_times 3 (some .int), Cond.methodLink RL 27 yX8_form, Cond.instanceMethod yX8_form, Cond.selects RX8 yX8_form yX8_form, Cond.code yX8_form cX8_form 4 (some .int), Cond.fieldLink RX8 98 "SealedBoxModel" "trace" "J", Cond.constantLong RX8 102 (11), Cond.constantLong RX8 104 (111), Cond.methodLink RX8 94 yX8_isNumber]
def wsL_law_r11 : List Cond := [Cond.instanceMethod yX8_isNumber, Cond.selects RX8 yX8_isNumber yX8_isNumber, Cond.code yX8_isNumber cX8_isNumber 2 (some .boolean), Cond.methodLink RX8 106 yX8_formOf, Cond.instanceMethod yX8_formOf, Cond.selects RX8 yX8_formOf yX8_formOf, Cond.code yX8_formOf cX8_formOf 5 (some .int), Cond.methodLink RX8 90 yX8_raised, Cond.instanceMethod yX8_raised, Cond.selects RX8 yX8_raised yX8_raised, Cond.code yX8_raised cX8_raised 5 (some .int), Cond.methodLink RL 28 yX7_term, Cond.instanceMethod yX7_term, Cond.selects RX7 yX7_term yX7_term, Cond.code yX7_term cX7_term 8 (some .int), Cond.methodLink RX7 126 yX7_isBox, Cond.static yX7_isBox, Cond.code yX7_isBox cX7_isBox 1 (some .boolean), Cond.methodLink RX7 129 yX7_boxOf, Cond.instanceMethod yX7_boxOf, Cond.selects RX7 yX7_boxOf yX7_boxOf, Cond.code yX7_boxOf cX7_boxOf 2 (some (.object "SealedBox$Box")), Cond.methodLink RX7 136 yX1_add, Cond.instanceMethod yX1_add]
def wsL_law_r12 : List Cond := [Cond.selects RX1 yX1_add yX1_add, Cond.code yX1_add cX1_add 6 (some .boolean), Cond.methodLink RL 32 yX8_term, Cond.instanceMethod yX8_term, Cond.selects RX8 yX8_term yX8_term, Cond.code yX8_term cX8_term 7 (some .int), Cond.methodLink RX8 110 yX8_isBox, Cond.static yX8_isBox, Cond.code yX8_isBox cX8_isBox 1 (some .boolean), Cond.methodLink RL 33 yX7_empty, Cond.instanceMethod yX7_empty, Cond.selects RX7 yX7_empty yX7_empty, Cond.code yX7_empty cX7_empty 4 (some .int), Cond.methodLink RL 36 yX8_empty, Cond.instanceMethod yX8_empty, Cond.selects RX8 yX8_empty yX8_empty, Cond.code yX8_empty cX8_empty 3 (some .int), Cond.methodLink RL 37 yX7_ask, Cond.instanceMethod yX7_ask, Cond.selects RX7 yX7_ask yX7_ask, Cond.code yX7_ask cX7_ask 5 (some .int), Cond.methodLink RX7 140 yX7_arePoint, Cond.instanceMethod yX7_arePoint, Cond.selects RX7 yX7_arePoint yX7_arePoint]
def wsL_law_r13 : List Cond := [Cond.code yX7_arePoint cX7_arePoint 4 (some .boolean), Cond.methodLink RX7 144 yX1_answer, Cond.instanceMethod yX1_answer, Cond.selects RX1 yX1_answer yX1_answer, Cond.code yX1_answer cX1_answer 6 (some .int), Cond.methodLink RX1 36 yX1_ofTwoLetters, Cond.instanceMethod yX1_ofTwoLetters, Cond.selects RX1 yX1_ofTwoLetters yX1_ofTwoLetters, Cond.code yX1_ofTwoLetters cX1_ofTwoLetters 5 (some .int), Cond.methodLink RX1 40 yX1_part, Cond.instanceMethod yX1_part, Cond.selects RX1 yX1_part yX1_part, Cond.code yX1_part cX1_part 4 (some .int), Cond.methodLink RX1 44 yX0_letter, Cond.methodLink RX1 49 yX4_times, Cond.methodLink RL 41 yX8_ask, Cond.instanceMethod yX8_ask, Cond.selects RX8 yX8_ask yX8_ask, Cond.code yX8_ask cX8_ask 5 (some .int), Cond.fieldLink RX8 113 "SealedBoxModel" "asks" "I", Cond.methodLink RX8 116 yX8_answer, Cond.instanceMethod yX8_answer, Cond.selects RX8 yX8_answer yX8_answer, Cond.code yX8_answer cX8_answer 8 (some .int)]
def wsL_law_r14 : List Cond := [Cond.methodLink RL 42 yX7_say, Cond.instanceMethod yX7_say, Cond.selects RX7 yX7_say yX7_say, Cond.code yX7_say cX7_say 2 (some .int), Cond.methodLink RL 45 yX8_say, Cond.instanceMethod yX8_say, Cond.selects RX8 yX8_say yX8_say, Cond.code yX8_say cX8_say 2 (some .int), Cond.methodLink RL 46 yX7_change, Cond.instanceMethod yX7_change, Cond.selects RX7 yX7_change yX7_change, Cond.code yX7_change cX7_change 4 (some .int), Cond.methodLink RL 49 yX8_change, Cond.instanceMethod yX8_change, Cond.selects RX8 yX8_change yX8_change, Cond.code yX8_change cX8_change 4 (some .int), Cond.methodLink RL 50 yX7_clear, Cond.instanceMethod yX7_clear, Cond.selects RX7 yX7_clear yX7_clear, Cond.code yX7_clear cX7_clear 2 (some .int), Cond.methodLink RL 54 yX8_clear, Cond.instanceMethod yX8_clear, Cond.selects RX8 yX8_clear yX8_clear, Cond.code yX8_clear cX8_clear 2 (some .int)]
def wsL_law_r15 : List Cond := [Cond.methodLink RL 55 yX7_register, Cond.instanceMethod yX7_register, Cond.selects RX7 yX7_register yX7_register, Cond.code yX7_register cX7_register 2 (some .int), Cond.methodLink RX7 147 yX6_read, Cond.instanceMethod yX6_read, Cond.selects RX6 yX6_read yX6_read, Cond.code yX6_read cX6_read 4 none, Cond.methodLink RX6 38 yX6_begin, Cond.instanceMethod yX6_begin, Cond.selects RX6 yX6_begin yX6_begin, Cond.code yX6_begin cX6_begin 2 none, Cond.methodLink RX6 41 yX6_take, Cond.instanceMethod yX6_take, Cond.selects RX6 yX6_take yX6_take, Cond.code yX6_take cX6_take 6 none, Cond.methodLink RX6 45 arraycopyName, Cond.native arraycopyName, Cond.static arraycopyName, Cond.initialized "java/lang/System", Cond.methodLink RX6 51 yX6_errorAt, Cond.instanceMethod yX6_errorAt, Cond.selects RX6 yX6_errorAt yX6_errorAt, Cond.code yX6_errorAt cX6_errorAt 5 (some .int)]
def wsL_law_r16 : List Cond := [Cond.methodLink RX6 60 yX4_over, Cond.instanceMethod yX4_over, Cond.selects RX4 yX4_over yX4_over, Cond.code yX4_over cX4_over 3 (some .int), Cond.methodLink RX6 64 yX6_addFormer, Cond.instanceMethod yX6_addFormer, Cond.selects RX6 yX6_addFormer yX6_addFormer, Cond.code yX6_addFormer cX6_addFormer 3 none, Cond.methodLink RX7 154 yX6_weight, Cond.instanceMethod yX6_weight, Cond.selects RX6 yX6_weight yX6_weight, Cond.code yX6_weight cX6_weight 2 (some .int), Cond.methodLink RX6 68 yX4_less, Cond.instanceMethod yX4_less, Cond.selects RX4 yX4_less yX4_less, Cond.code yX4_less cX4_less 3 (some .int), Cond.methodLink RL 58 yX8_register, Cond.instanceMethod yX8_register, Cond.selects RX8 yX8_register yX8_register, Cond.code yX8_register cX8_register 2 (some .int), Cond.fieldLink RX8 120 "SealedBoxModel" "length" "I", Cond.methodLink RX8 127 yX8_take, Cond.instanceMethod yX8_take, Cond.selects RX8 yX8_take yX8_take]
def wsL_law_r17 : List Cond := [Cond.code yX8_take cX8_take 2 none, Cond.methodLink RX8 130 yX8_grow, Cond.instanceMethod yX8_grow, Cond.selects RX8 yX8_grow yX8_grow, Cond.code yX8_grow cX8_grow 9 none, Cond.methodLink RX8 123 yX8_over, Cond.instanceMethod yX8_over, Cond.selects RX8 yX8_over yX8_over, Cond.code yX8_over cX8_over 5 (some .int), Cond.methodLink RX8 134 yX8_g, Cond.instanceMethod yX8_g, Cond.selects RX8 yX8_g yX8_g, Cond.code yX8_g cX8_g 2 (some .int), Cond.methodLink RL 59 yX7_far, Cond.instanceMethod yX7_far, Cond.selects RX7 yX7_far yX7_far, Cond.code yX7_far cX7_far 2 (some .int), Cond.constant RX7 157 (1000000000), Cond.methodLink RX7 158 yX3_numberAt, Cond.instanceMethod yX3_numberAt, Cond.selects RX3 yX3_numberAt yX3_numberAt, Cond.code yX3_numberAt cX3_numberAt 6 (some .int), Cond.methodLink RX3 32 yX3_takeWeights, Cond.instanceMethod yX3_takeWeights]
def wsL_law_r18 : List Cond := [Cond.selects RX3 yX3_takeWeights yX3_takeWeights, Cond.code yX3_takeWeights cX3_takeWeights 3 none, Cond.methodLink RX3 45 yX6_weight, Cond.methodLink RX3 36 yX3_raise, Cond.instanceMethod yX3_raise, Cond.selects RX3 yX3_raise yX3_raise, Cond.code yX3_raise cX3_raise 3 none, Cond.methodLink RX3 49 yX3_squareInto, Cond.instanceMethod yX3_squareInto, Cond.selects RX3 yX3_squareInto yX3_squareInto, Cond.code yX3_squareInto cX3_squareInto 4 none, Cond.methodLink RX3 52 yX3_reduce, Cond.instanceMethod yX3_reduce, Cond.selects RX3 yX3_reduce yX3_reduce, Cond.code yX3_reduce cX3_reduce 4 none, Cond.methodLink RL 62 yX8_far, Cond.instanceMethod yX8_far, Cond.selects RX8 yX8_far yX8_far, Cond.code yX8_far cX8_far 4 (some .int), Cond.constant RX8 137 (1000000000), Cond.methodLink RX8 138 yX8_product, Cond.instanceMethod yX8_product, Cond.selects RX8 yX8_product yX8_product, Cond.code yX8_product cX8_product 4 none]
def wsL_law_r19 : List Cond := [Cond.methodLink RL 63 yX7_lie, Cond.instanceMethod yX7_lie, Cond.selects RX7 yX7_lie yX7_lie, Cond.code yX7_lie cX7_lie 2 (some .int), Cond.constant RX7 162 (999000), Cond.methodLink RX7 163 yX2_leastMending, Cond.instanceMethod yX2_leastMending, Cond.selects RX2 yX2_leastMending yX2_leastMending, Cond.code yX2_leastMending cX2_leastMending 7 (some .int), Cond.methodLink RX2 31 Lib.Math.min.name, Cond.static Lib.Math.min.name, Cond.initialized "java/lang/Math", Cond.code Lib.Math.min.name Lib.Math.min.code 2 (some .int), Cond.methodLink RX2 37 yX6_begin, Cond.methodLink RX2 44 yX2_leastNumberAt, Cond.instanceMethod yX2_leastNumberAt, Cond.selects RX2 yX2_leastNumberAt yX2_leastNumberAt, Cond.code yX2_leastNumberAt cX2_leastNumberAt 5 (some .int), Cond.methodLink RX2 57 yX2_staysWithin, Cond.instanceMethod yX2_staysWithin, Cond.selects RX2 yX2_staysWithin yX2_staysWithin, Cond.code yX2_staysWithin cX2_staysWithin 5 (some .boolean), Cond.methodLink RX2 61 yX6_copyOf, Cond.instanceMethod yX6_copyOf]
def wsL_law_r20 : List Cond := [Cond.selects RX6 yX6_copyOf yX6_copyOf, Cond.code yX6_copyOf cX6_copyOf 2 none, Cond.methodLink RX2 48 yX6_take, Cond.methodLink RL 66 yX8_lie, Cond.instanceMethod yX8_lie, Cond.selects RX8 yX8_lie yX8_lie, Cond.code yX8_lie cX8_lie 4 (some .int), Cond.constant RX8 142 (999000), Cond.methodLink RL 67 yX7_got, Cond.instanceMethod yX7_got, Cond.selects RX7 yX7_got yX7_got, Cond.code yX7_got cX7_got 5 (some .int), Cond.methodLink RX7 167 yX5_recover, Cond.instanceMethod yX5_recover, Cond.selects RX5 yX5_recover yX5_recover, Cond.code yX5_recover cX5_recover 4 (some .boolean), Cond.methodLink RX5 50 yX1_drop, Cond.methodLink RX5 53 yX5_askPowers, Cond.instanceMethod yX5_askPowers, Cond.selects RX5 yX5_askPowers yX5_askPowers, Cond.code yX5_askPowers cX5_askPowers 6 none, Cond.methodLink RX5 82 yX1_answer, Cond.methodLink RX5 86 yX4_times, Cond.methodLink RX5 57 yX6_read]
def wsL_law_r21 : List Cond := [Cond.methodLink RX5 64 yX5_findKeys, Cond.instanceMethod yX5_findKeys, Cond.selects RX5 yX5_findKeys yX5_findKeys, Cond.code yX5_findKeys cX5_findKeys 7 (some .boolean), Cond.methodLink RX5 92 yX5_isRoot, Cond.instanceMethod yX5_isRoot, Cond.selects RX5 yX5_isRoot yX5_isRoot, Cond.code yX5_isRoot cX5_isRoot 4 (some .boolean), Cond.methodLink RX5 99 yX6_weight, Cond.methodLink RX5 102 yX4_less, Cond.methodLink RX5 96 yX5_addKey, Cond.instanceMethod yX5_addKey, Cond.selects RX5 yX5_addKey yX5_addKey, Cond.code yX5_addKey cX5_addKey 5 (some .boolean), Cond.methodLink RX5 68 yX5_keysDiffer, Cond.instanceMethod yX5_keysDiffer, Cond.selects RX5 yX5_keysDiffer yX5_keysDiffer, Cond.code yX5_keysDiffer cX5_keysDiffer 3 (some .boolean), Cond.methodLink RX5 71 yX5_coefficient, Cond.instanceMethod yX5_coefficient, Cond.selects RX5 yX5_coefficient yX5_coefficient, Cond.code yX5_coefficient cX5_coefficient 5 (some .int), Cond.methodLink RX5 105 yX5_multiplyOthers, Cond.instanceMethod yX5_multiplyOthers]
def wsL_law_r22 : List Cond := [Cond.selects RX5 yX5_multiplyOthers yX5_multiplyOthers, Cond.code yX5_multiplyOthers cX5_multiplyOthers 3 none, Cond.methodLink RX5 118 yX5_multiplyBy, Cond.instanceMethod yX5_multiplyBy, Cond.selects RX5 yX5_multiplyBy yX5_multiplyBy, Cond.code yX5_multiplyBy cX5_multiplyBy 4 none, Cond.methodLink RX5 109 yX4_plus, Cond.methodLink RX5 115 yX4_over, Cond.methodLink RX5 75 yX1_add, Cond.methodLink RX5 79 yX5_lastAnswerFits, Cond.instanceMethod yX5_lastAnswerFits, Cond.selects RX5 yX5_lastAnswerFits yX5_lastAnswerFits, Cond.code yX5_lastAnswerFits cX5_lastAnswerFits 3 (some .boolean), Cond.methodLink RX5 121 yX1_part, Cond.methodLink RX5 124 yX4_power, Cond.methodLink RX7 174 yX1_part, Cond.methodLink RL 70 yX8_got, Cond.instanceMethod yX8_got, Cond.selects RX8 yX8_got yX8_got, Cond.code yX8_got cX8_got 4 (some .int), Cond.fieldLink RX8 143 "SealedBoxModel" "keys" "I", Cond.methodLink RX8 155 yX8_getBack, Cond.instanceMethod yX8_getBack, Cond.selects RX8 yX8_getBack yX8_getBack]
def wsL_law_r23 : List Cond := [Cond.code yX8_getBack cX8_getBack 8 (some .boolean), Cond.methodLink RX8 146 yX8_isRoot, Cond.instanceMethod yX8_isRoot, Cond.selects RX8 yX8_isRoot yX8_isRoot, Cond.code yX8_isRoot cX8_isRoot 4 (some .boolean), Cond.methodLink RX8 149 yX8_solve, Cond.instanceMethod yX8_solve, Cond.selects RX8 yX8_solve yX8_solve, Cond.code yX8_solve cX8_solve 7 none, Cond.methodLink RX8 152 yX8_told, Cond.instanceMethod yX8_told, Cond.selects RX8 yX8_told yX8_told, Cond.code yX8_told cX8_told 4 (some .int), Cond.methodLink RL 71 yX7_right, Cond.instanceMethod yX7_right, Cond.selects RX7 yX7_right yX7_right, Cond.code yX7_right cX7_right 6 (some .int), Cond.methodLink RL 74 yX8_right, Cond.instanceMethod yX8_right, Cond.selects RX8 yX8_right yX8_right, Cond.code yX8_right cX8_right 9 (some .int), Cond.methodLink RL 75 yX7_zeros, Cond.instanceMethod yX7_zeros, Cond.selects RX7 yX7_zeros yX7_zeros]
def wsL_law_r24 : List Cond := [Cond.code yX7_zeros cX7_zeros 6 (some .int), Cond.methodLink RX7 178 yX1_readyLines, Cond.instanceMethod yX1_readyLines, Cond.selects RX1 yX1_readyLines yX1_readyLines, Cond.code yX1_readyLines cX1_readyLines 3 none, Cond.methodLink RX7 181 yX1_answerLine, Cond.instanceMethod yX1_answerLine, Cond.selects RX1 yX1_answerLine yX1_answerLine, Cond.code yX1_answerLine cX1_answerLine 4 none, Cond.methodLink RX1 57 yX1_addToLine, Cond.instanceMethod yX1_addToLine, Cond.selects RX1 yX1_addToLine yX1_addToLine, Cond.code yX1_addToLine cX1_addToLine 5 none, Cond.methodLink RX7 185 yX1_zerosInLine, Cond.instanceMethod yX1_zerosInLine, Cond.selects RX1 yX1_zerosInLine yX1_zerosInLine, Cond.code yX1_zerosInLine cX1_zerosInLine 3 (some .int), Cond.methodLink RL 78 yX8_zeros, Cond.instanceMethod yX8_zeros, Cond.selects RX8 yX8_zeros yX8_zeros, Cond.code yX8_zeros cX8_zeros 4 (some .int), Cond.methodLink RL 79 yX7_meet, Cond.instanceMethod yX7_meet, Cond.selects RX7 yX7_meet yX7_meet]
def wsL_law_r25 : List Cond := [Cond.code yX7_meet cX7_meet 4 (some .int), Cond.methodLink RX7 189 yX1_alikeInLine, Cond.instanceMethod yX1_alikeInLine, Cond.selects RX1 yX1_alikeInLine yX1_alikeInLine, Cond.code yX1_alikeInLine cX1_alikeInLine 4 (some .int), Cond.methodLink RL 82 yX8_meet, Cond.instanceMethod yX8_meet, Cond.selects RX8 yX8_meet yX8_meet, Cond.code yX8_meet cX8_meet 3 (some .int), Cond.methodLink RL 83 yX7_count, Cond.instanceMethod yX7_count, Cond.selects RX7 yX7_count yX7_count, Cond.code yX7_count cX7_count 2 (some .int), Cond.methodLink RL 86 yX8_count, Cond.instanceMethod yX8_count, Cond.selects RX8 yX8_count yX8_count, Cond.code yX8_count cX8_count 2 (some .int), Cond.methodLink RL 87 yX7_trace, Cond.instanceMethod yX7_trace, Cond.selects RX7 yX7_trace yX7_trace, Cond.code yX7_trace cX7_trace 1 (some .long), Cond.methodLink RL 91 yX8_trace, Cond.instanceMethod yX8_trace, Cond.selects RX8 yX8_trace yX8_trace]
def wsL_law_r26 : List Cond := [Cond.code yX8_trace cX8_trace 1 (some .long)]
def wsL_law : List Cond := (wsL_law_r1 ++ (wsL_law_r2 ++ (wsL_law_r3 ++ (wsL_law_r4 ++ (wsL_law_r5 ++ (wsL_law_r6 ++ (wsL_law_r7 ++ (wsL_law_r8 ++ (wsL_law_r9 ++ (wsL_law_r10 ++ (wsL_law_r11 ++ (wsL_law_r12 ++ (wsL_law_r13 ++ (wsL_law_r14 ++ (wsL_law_r15 ++ (wsL_law_r16 ++ (wsL_law_r17 ++ (wsL_law_r18 ++ (wsL_law_r19 ++ (wsL_law_r20 ++ (wsL_law_r21 ++ (wsL_law_r22 ++ (wsL_law_r23 ++ (wsL_law_r24 ++ (wsL_law_r25 ++ wsL_law_r26))))))))))))))))))))))))) ++ wsX70 ++ wsX80 ++ wsX40 ++ wsX00 ++ wsX10 ++ wsX60 ++ wsX30 ++ wsX20 ++ wsX50 ++ ([] : List Cond)
abbrev vwCl : List vw_C := [(RX0, TX0, 3), (RX1, TX1, 7), (RX2, TX2, 4), (RX3, TX3, 5), (RX4, TX4, 2), (RX5, TX5, 8), (RX6, TX6, 8), (RX7, TX7, 12), (RX8, TX8, 29)]
end
section
theorem dX0_init_0 : decode cX0_init 0 = .ok (.aload_n 0, 1) := by decide +kernel
theorem dX0_init_1 : decode cX0_init 1 = .ok (.invokespecial 3, 3) := by decide +kernel
theorem dX0_init_4 : decode cX0_init 4 = .ok (.aload_n 0, 1) := by decide +kernel
theorem dX0_init_5 : decode cX0_init 5 = .ok (.iconst 1, 1) := by decide +kernel
theorem dX0_init_6 : decode cX0_init 6 = .ok (.putfield 9, 3) := by decide +kernel
theorem dX0_init_9 : decode cX0_init 9 = .ok (.aload_n 0, 1) := by decide +kernel
theorem dX0_init_10 : decode cX0_init 10 = .ok (.iconst 2, 1) := by decide +kernel
theorem dX0_init_11 : decode cX0_init 11 = .ok (.putfield 15, 3) := by decide +kernel
theorem dX0_init_14 : decode cX0_init 14 = .ok (.aload_n 0, 1) := by decide +kernel
theorem dX0_init_15 : decode cX0_init 15 = .ok (.aload_n 1, 1) := by decide +kernel
theorem dX0_init_16 : decode cX0_init 16 = .ok (.putfield 18, 3) := by decide +kernel
theorem dX0_init_19 : decode cX0_init 19 = .ok (.return_, 1) := by decide +kernel
set_option maxRecDepth 20000 in
theorem ggX0_letter_X0_scaled : GoodIn wsX0_letter wsX0_scaled := goodIn_r _ [6, 1, 7, 8, 9, 10, 5, 11, 12, 13, 14, 15, 16, 17, 18, 19, 20, 21, 22, 23, 24, 25, 26, 27, 28, 29, 30, 31] (by decide +kernel) (by decide +kernel)
set_option maxRecDepth 20000 in
theorem gX0_letter_X0_scaled : GoodIn wsX0_letter (wsV RX0 22 RX0 yX0_scaled wsX0_scaled) := goodIn_app (goodIn_of _ (by decide +kernel)) ggX0_letter_X0_scaled
set_option maxRecDepth 20000 in
theorem ggX0_letter_X0_shifted : GoodIn wsX0_letter wsX0_shifted := goodIn_r _ [11, 1, 12, 13, 14, 15, 16, 17, 18, 19, 20, 21, 22, 27, 28, 29, 30, 31] (by decide +kernel) (by decide +kernel)
set_option maxRecDepth 20000 in
theorem gX0_letter_X0_shifted : GoodIn wsX0_letter (wsV RX0 26 RX0 yX0_shifted wsX0_shifted) := goodIn_app (goodIn_of _ (by decide +kernel)) ggX0_letter_X0_shifted
set_option maxRecDepth 20000 in
theorem ggX0_letter_X4_power : GoodIn wsX0_letter wsX4_power := goodIn_r _ [22, 18, 30, 31] (by decide +kernel) (by decide +kernel)
set_option maxRecDepth 20000 in
theorem gX0_letter_X4_power : GoodIn wsX0_letter (wsV RX0 29 RX4 yX4_power wsX4_power) := goodIn_app (goodIn_of _ (by decide +kernel)) ggX0_letter_X4_power
theorem dX0_letter_0 : decode cX0_letter 0 = .ok (.iload_n 1, 1) := by decide +kernel
theorem dX0_letter_1 : decode cX0_letter 1 = .ok (.iconst 2, 1) := by decide +kernel
theorem dX0_letter_2 : decode cX0_letter 2 = .ok (.if_icmp .ne 10, 3) := by decide +kernel
theorem dX0_letter_5 : decode cX0_letter 5 = .ok (.aload_n 0, 1) := by decide +kernel
theorem dX0_letter_6 : decode cX0_letter 6 = .ok (.iload_n 2, 1) := by decide +kernel
theorem dX0_letter_7 : decode cX0_letter 7 = .ok (.iload_n 3, 1) := by decide +kernel
theorem dX0_letter_8 : decode cX0_letter 8 = .ok (.invokevirtual 22, 3) := by decide +kernel
theorem dX0_letter_11 : decode cX0_letter 11 = .ok (.ireturn, 1) := by decide +kernel
theorem dX0_letter_12 : decode cX0_letter 12 = .ok (.iload_n 1, 1) := by decide +kernel
theorem dX0_letter_13 : decode cX0_letter 13 = .ok (.iconst 1, 1) := by decide +kernel
theorem dX0_letter_14 : decode cX0_letter 14 = .ok (.if_icmp .ne 12, 3) := by decide +kernel
theorem dX0_letter_17 : decode cX0_letter 17 = .ok (.aload_n 0, 1) := by decide +kernel
theorem dX0_letter_18 : decode cX0_letter 18 = .ok (.iload_n 2, 1) := by decide +kernel
theorem dX0_letter_19 : decode cX0_letter 19 = .ok (.iload_n 3, 1) := by decide +kernel
theorem dX0_letter_20 : decode cX0_letter 20 = .ok (.invokevirtual 26, 3) := by decide +kernel
theorem dX0_letter_23 : decode cX0_letter 23 = .ok (.goto 12, 3) := by decide +kernel
theorem dX0_letter_26 : decode cX0_letter 26 = .ok (.aload_n 0, 1) := by decide +kernel
theorem dX0_letter_27 : decode cX0_letter 27 = .ok (.getfield 18, 3) := by decide +kernel
theorem dX0_letter_30 : decode cX0_letter 30 = .ok (.iload_n 2, 1) := by decide +kernel
theorem dX0_letter_31 : decode cX0_letter 31 = .ok (.iload_n 3, 1) := by decide +kernel
theorem dX0_letter_32 : decode cX0_letter 32 = .ok (.invokevirtual 29, 3) := by decide +kernel
theorem dX0_letter_35 : decode cX0_letter 35 = .ok (.ireturn, 1) := by decide +kernel
set_option maxRecDepth 20000 in
theorem ggX0_shifted_X4_plus : GoodIn wsX0_shifted wsX4_plus := goodIn_r _ [7, 8, 16, 17] (by decide +kernel) (by decide +kernel)
set_option maxRecDepth 20000 in
theorem gX0_shifted_X4_plus : GoodIn wsX0_shifted (wsV RX0 34 RX4 yX4_plus wsX4_plus) := goodIn_app (goodIn_of _ (by decide +kernel)) ggX0_shifted_X4_plus
set_option maxRecDepth 20000 in
theorem ggX0_shifted_X4_power : GoodIn wsX0_shifted wsX4_power := goodIn_r _ [12, 8, 16, 17] (by decide +kernel) (by decide +kernel)
set_option maxRecDepth 20000 in
theorem gX0_shifted_X4_power : GoodIn wsX0_shifted (wsV RX0 29 RX4 yX4_power wsX4_power) := goodIn_app (goodIn_of _ (by decide +kernel)) ggX0_shifted_X4_power
theorem dX0_shifted_0 : decode cX0_shifted 0 = .ok (.aload_n 0, 1) := by decide +kernel
theorem dX0_shifted_1 : decode cX0_shifted 1 = .ok (.getfield 18, 3) := by decide +kernel
theorem dX0_shifted_4 : decode cX0_shifted 4 = .ok (.aload_n 0, 1) := by decide +kernel
theorem dX0_shifted_5 : decode cX0_shifted 5 = .ok (.getfield 18, 3) := by decide +kernel
theorem dX0_shifted_8 : decode cX0_shifted 8 = .ok (.iload_n 1, 1) := by decide +kernel
theorem dX0_shifted_9 : decode cX0_shifted 9 = .ok (.aload_n 0, 1) := by decide +kernel
theorem dX0_shifted_10 : decode cX0_shifted 10 = .ok (.getfield 9, 3) := by decide +kernel
theorem dX0_shifted_13 : decode cX0_shifted 13 = .ok (.invokevirtual 34, 3) := by decide +kernel
theorem dX0_shifted_16 : decode cX0_shifted 16 = .ok (.iload_n 2, 1) := by decide +kernel
theorem dX0_shifted_17 : decode cX0_shifted 17 = .ok (.invokevirtual 29, 3) := by decide +kernel
theorem dX0_shifted_20 : decode cX0_shifted 20 = .ok (.ireturn, 1) := by decide +kernel
set_option maxRecDepth 20000 in
theorem ggX0_scaled_X0_shifted : GoodIn wsX0_scaled wsX0_shifted := goodIn_r _ [7, 1, 8, 9, 10, 11, 12, 13, 14, 15, 16, 17, 18, 23, 24, 25, 26, 27] (by decide +kernel) (by decide +kernel)
set_option maxRecDepth 20000 in
theorem gX0_scaled_X0_shifted : GoodIn wsX0_scaled (wsV RX0 26 RX0 yX0_shifted wsX0_shifted) := goodIn_app (goodIn_of _ (by decide +kernel)) ggX0_scaled_X0_shifted
set_option maxRecDepth 20000 in
theorem ggX0_scaled_X4_times : GoodIn wsX0_scaled wsX4_times := goodIn_r _ [22, 14, 26, 27] (by decide +kernel) (by decide +kernel)
set_option maxRecDepth 20000 in
theorem gX0_scaled_X4_times : GoodIn wsX0_scaled (wsV RX0 37 RX4 yX4_times wsX4_times) := goodIn_app (goodIn_of _ (by decide +kernel)) ggX0_scaled_X4_times
theorem dX0_scaled_0 : decode cX0_scaled 0 = .ok (.aload_n 0, 1) := by decide +kernel
theorem dX0_scaled_1 : decode cX0_scaled 1 = .ok (.getfield 18, 3) := by decide +kernel
theorem dX0_scaled_4 : decode cX0_scaled 4 = .ok (.aload_n 0, 1) := by decide +kernel
theorem dX0_scaled_5 : decode cX0_scaled 5 = .ok (.getfield 15, 3) := by decide +kernel
theorem dX0_scaled_8 : decode cX0_scaled 8 = .ok (.aload_n 0, 1) := by decide +kernel
theorem dX0_scaled_9 : decode cX0_scaled 9 = .ok (.iload_n 1, 1) := by decide +kernel
theorem dX0_scaled_10 : decode cX0_scaled 10 = .ok (.iload_n 2, 1) := by decide +kernel
theorem dX0_scaled_11 : decode cX0_scaled 11 = .ok (.invokevirtual 26, 3) := by decide +kernel
theorem dX0_scaled_14 : decode cX0_scaled 14 = .ok (.invokevirtual 37, 3) := by decide +kernel
theorem dX0_scaled_17 : decode cX0_scaled 17 = .ok (.ireturn, 1) := by decide +kernel
theorem dX0_bodiesAsked_0 : decode cX0_bodiesAsked 0 = .ok (.iload_n 0, 1) := by decide +kernel
theorem dX0_bodiesAsked_1 : decode cX0_bodiesAsked 1 = .ok (.iconst 2, 1) := by decide +kernel
theorem dX0_bodiesAsked_2 : decode cX0_bodiesAsked 2 = .ok (.if_icmp .ne 6, 3) := by decide +kernel
theorem dX0_bodiesAsked_5 : decode cX0_bodiesAsked 5 = .ok (.bipush 111, 2) := by decide +kernel
theorem dX0_bodiesAsked_7 : decode cX0_bodiesAsked 7 = .ok (.ireturn, 1) := by decide +kernel
theorem dX0_bodiesAsked_8 : decode cX0_bodiesAsked 8 = .ok (.iload_n 0, 1) := by decide +kernel
theorem dX0_bodiesAsked_9 : decode cX0_bodiesAsked 9 = .ok (.iconst 1, 1) := by decide +kernel
theorem dX0_bodiesAsked_10 : decode cX0_bodiesAsked 10 = .ok (.if_icmp .ne 8, 3) := by decide +kernel
theorem dX0_bodiesAsked_13 : decode cX0_bodiesAsked 13 = .ok (.bipush 11, 2) := by decide +kernel
theorem dX0_bodiesAsked_15 : decode cX0_bodiesAsked 15 = .ok (.goto 4, 3) := by decide +kernel
theorem dX0_bodiesAsked_18 : decode cX0_bodiesAsked 18 = .ok (.iconst 1, 1) := by decide +kernel
theorem dX0_bodiesAsked_19 : decode cX0_bodiesAsked 19 = .ok (.ireturn, 1) := by decide +kernel
end
section
theorem dX1_init_0 : decode cX1_init 0 = .ok (.aload_n 0, 1) := by decide +kernel
theorem dX1_init_1 : decode cX1_init 1 = .ok (.invokespecial 3, 3) := by decide +kernel
theorem dX1_init_4 : decode cX1_init 4 = .ok (.aload_n 0, 1) := by decide +kernel
theorem dX1_init_5 : decode cX1_init 5 = .ok (.bipush 16, 2) := by decide +kernel
theorem dX1_init_7 : decode cX1_init 7 = .ok (.newarray .int, 2) := by decide +kernel
theorem dX1_init_9 : decode cX1_init 9 = .ok (.putfield 11, 3) := by decide +kernel
theorem dX1_init_12 : decode cX1_init 12 = .ok (.aload_n 0, 1) := by decide +kernel
theorem dX1_init_13 : decode cX1_init 13 = .ok (.bipush 115, 2) := by decide +kernel
theorem dX1_init_15 : decode cX1_init 15 = .ok (.newarray .int, 2) := by decide +kernel
theorem dX1_init_17 : decode cX1_init 17 = .ok (.putfield 15, 3) := by decide +kernel
theorem dX1_init_20 : decode cX1_init 20 = .ok (.aload_n 0, 1) := by decide +kernel
theorem dX1_init_21 : decode cX1_init 21 = .ok (.bipush 23, 2) := by decide +kernel
theorem dX1_init_23 : decode cX1_init 23 = .ok (.newarray .int, 2) := by decide +kernel
theorem dX1_init_25 : decode cX1_init 25 = .ok (.putfield 18, 3) := by decide +kernel
theorem dX1_init_28 : decode cX1_init 28 = .ok (.aload_n 0, 1) := by decide +kernel
theorem dX1_init_29 : decode cX1_init 29 = .ok (.iconst 0, 1) := by decide +kernel
theorem dX1_init_30 : decode cX1_init 30 = .ok (.putfield 21, 3) := by decide +kernel
theorem dX1_init_33 : decode cX1_init 33 = .ok (.aload_n 0, 1) := by decide +kernel
theorem dX1_init_34 : decode cX1_init 34 = .ok (.iconst 0, 1) := by decide +kernel
theorem dX1_init_35 : decode cX1_init 35 = .ok (.putfield 25, 3) := by decide +kernel
theorem dX1_init_38 : decode cX1_init 38 = .ok (.aload_n 0, 1) := by decide +kernel
theorem dX1_init_39 : decode cX1_init 39 = .ok (.aload_n 1, 1) := by decide +kernel
theorem dX1_init_40 : decode cX1_init 40 = .ok (.putfield 28, 3) := by decide +kernel
theorem dX1_init_43 : decode cX1_init 43 = .ok (.aload_n 0, 1) := by decide +kernel
theorem dX1_init_44 : decode cX1_init 44 = .ok (.aload_n 2, 1) := by decide +kernel
theorem dX1_init_45 : decode cX1_init 45 = .ok (.putfield 32, 3) := by decide +kernel
theorem dX1_init_48 : decode cX1_init 48 = .ok (.return_, 1) := by decide +kernel
theorem dX1_drop_0 : decode cX1_drop 0 = .ok (.aload_n 0, 1) := by decide +kernel
theorem dX1_drop_1 : decode cX1_drop 1 = .ok (.iconst 0, 1) := by decide +kernel
theorem dX1_drop_2 : decode cX1_drop 2 = .ok (.putfield 25, 3) := by decide +kernel
theorem dX1_drop_5 : decode cX1_drop 5 = .ok (.return_, 1) := by decide +kernel
theorem dX1_add_0 : decode cX1_add 0 = .ok (.aload_n 0, 1) := by decide +kernel
theorem dX1_add_1 : decode cX1_add 1 = .ok (.getfield 25, 3) := by decide +kernel
theorem dX1_add_4 : decode cX1_add 4 = .ok (.iconst 4, 1) := by decide +kernel
theorem dX1_add_5 : decode cX1_add 5 = .ok (.if_icmp .lt 5, 3) := by decide +kernel
theorem dX1_add_8 : decode cX1_add 8 = .ok (.iconst 0, 1) := by decide +kernel
theorem dX1_add_9 : decode cX1_add 9 = .ok (.ireturn, 1) := by decide +kernel
theorem dX1_add_10 : decode cX1_add 10 = .ok (.aload_n 0, 1) := by decide +kernel
theorem dX1_add_11 : decode cX1_add 11 = .ok (.getfield 25, 3) := by decide +kernel
theorem dX1_add_14 : decode cX1_add 14 = .ok (.iconst 4, 1) := by decide +kernel
theorem dX1_add_15 : decode cX1_add 15 = .ok (.imul, 1) := by decide +kernel
theorem dX1_add_16 : decode cX1_add 16 = .ok (.istore 5, 2) := by decide +kernel
theorem dX1_add_18 : decode cX1_add 18 = .ok (.aload_n 0, 1) := by decide +kernel
theorem dX1_add_19 : decode cX1_add 19 = .ok (.getfield 11, 3) := by decide +kernel
theorem dX1_add_22 : decode cX1_add 22 = .ok (.iload 5, 2) := by decide +kernel
theorem dX1_add_24 : decode cX1_add 24 = .ok (.iconst 0, 1) := by decide +kernel
theorem dX1_add_25 : decode cX1_add 25 = .ok (.iadd, 1) := by decide +kernel
theorem dX1_add_26 : decode cX1_add 26 = .ok (.iload_n 1, 1) := by decide +kernel
theorem dX1_add_27 : decode cX1_add 27 = .ok (.iastore, 1) := by decide +kernel
theorem dX1_add_28 : decode cX1_add 28 = .ok (.aload_n 0, 1) := by decide +kernel
theorem dX1_add_29 : decode cX1_add 29 = .ok (.getfield 11, 3) := by decide +kernel
theorem dX1_add_32 : decode cX1_add 32 = .ok (.iload 5, 2) := by decide +kernel
theorem dX1_add_34 : decode cX1_add 34 = .ok (.iconst 1, 1) := by decide +kernel
theorem dX1_add_35 : decode cX1_add 35 = .ok (.iadd, 1) := by decide +kernel
theorem dX1_add_36 : decode cX1_add 36 = .ok (.iload_n 2, 1) := by decide +kernel
theorem dX1_add_37 : decode cX1_add 37 = .ok (.iastore, 1) := by decide +kernel
theorem dX1_add_38 : decode cX1_add 38 = .ok (.aload_n 0, 1) := by decide +kernel
theorem dX1_add_39 : decode cX1_add 39 = .ok (.getfield 11, 3) := by decide +kernel
theorem dX1_add_42 : decode cX1_add 42 = .ok (.iload 5, 2) := by decide +kernel
theorem dX1_add_44 : decode cX1_add 44 = .ok (.iconst 2, 1) := by decide +kernel
theorem dX1_add_45 : decode cX1_add 45 = .ok (.iadd, 1) := by decide +kernel
theorem dX1_add_46 : decode cX1_add 46 = .ok (.iload_n 3, 1) := by decide +kernel
theorem dX1_add_47 : decode cX1_add 47 = .ok (.iastore, 1) := by decide +kernel
theorem dX1_add_48 : decode cX1_add 48 = .ok (.aload_n 0, 1) := by decide +kernel
theorem dX1_add_49 : decode cX1_add 49 = .ok (.getfield 11, 3) := by decide +kernel
theorem dX1_add_52 : decode cX1_add 52 = .ok (.iload 5, 2) := by decide +kernel
theorem dX1_add_54 : decode cX1_add 54 = .ok (.iconst 3, 1) := by decide +kernel
theorem dX1_add_55 : decode cX1_add 55 = .ok (.iadd, 1) := by decide +kernel
theorem dX1_add_56 : decode cX1_add 56 = .ok (.iload 4, 2) := by decide +kernel
theorem dX1_add_58 : decode cX1_add 58 = .ok (.iastore, 1) := by decide +kernel
theorem dX1_add_59 : decode cX1_add 59 = .ok (.aload_n 0, 1) := by decide +kernel
theorem dX1_add_60 : decode cX1_add 60 = .ok (.dup, 1) := by decide +kernel
theorem dX1_add_61 : decode cX1_add 61 = .ok (.getfield 25, 3) := by decide +kernel
theorem dX1_add_64 : decode cX1_add 64 = .ok (.iconst 1, 1) := by decide +kernel
theorem dX1_add_65 : decode cX1_add 65 = .ok (.iadd, 1) := by decide +kernel
theorem dX1_add_66 : decode cX1_add 66 = .ok (.putfield 25, 3) := by decide +kernel
theorem dX1_add_69 : decode cX1_add 69 = .ok (.iconst 1, 1) := by decide +kernel
theorem dX1_add_70 : decode cX1_add 70 = .ok (.ireturn, 1) := by decide +kernel
theorem dX1_part_0 : decode cX1_part 0 = .ok (.iload_n 1, 1) := by decide +kernel
theorem dX1_part_1 : decode cX1_part 1 = .ok (.iconst 4, 1) := by decide +kernel
theorem dX1_part_2 : decode cX1_part 2 = .ok (.imul, 1) := by decide +kernel
theorem dX1_part_3 : decode cX1_part 3 = .ok (.iload_n 2, 1) := by decide +kernel
theorem dX1_part_4 : decode cX1_part 4 = .ok (.iadd, 1) := by decide +kernel
theorem dX1_part_5 : decode cX1_part 5 = .ok (.istore_n 3, 1) := by decide +kernel
theorem dX1_part_6 : decode cX1_part 6 = .ok (.iload_n 3, 1) := by decide +kernel
theorem dX1_part_7 : decode cX1_part 7 = .ok (.ifCond .lt 21, 3) := by decide +kernel
theorem dX1_part_10 : decode cX1_part 10 = .ok (.iload_n 3, 1) := by decide +kernel
theorem dX1_part_11 : decode cX1_part 11 = .ok (.aload_n 0, 1) := by decide +kernel
theorem dX1_part_12 : decode cX1_part 12 = .ok (.getfield 11, 3) := by decide +kernel
theorem dX1_part_15 : decode cX1_part 15 = .ok (.arraylength, 1) := by decide +kernel
theorem dX1_part_16 : decode cX1_part 16 = .ok (.if_icmp .ge 12, 3) := by decide +kernel
theorem dX1_part_19 : decode cX1_part 19 = .ok (.aload_n 0, 1) := by decide +kernel
theorem dX1_part_20 : decode cX1_part 20 = .ok (.getfield 11, 3) := by decide +kernel
theorem dX1_part_23 : decode cX1_part 23 = .ok (.iload_n 3, 1) := by decide +kernel
theorem dX1_part_24 : decode cX1_part 24 = .ok (.iaload, 1) := by decide +kernel
theorem dX1_part_25 : decode cX1_part 25 = .ok (.goto 4, 3) := by decide +kernel
theorem dX1_part_28 : decode cX1_part 28 = .ok (.iconst 0, 1) := by decide +kernel
theorem dX1_part_29 : decode cX1_part 29 = .ok (.ireturn, 1) := by decide +kernel
set_option maxRecDepth 20000 in
theorem ggX1_answer_X1_ofTwoLetters : GoodIn wsX1_answer wsX1_ofTwoLetters := goodIn_r _ [9, 2, 3, 4, 10, 11, 12, 8, 13, 14, 15, 16, 17, 18, 19, 20, 21, 22, 23, 24, 25, 26, 27, 28, 29, 30, 31, 32, 33, 34, 35, 36, 37, 38, 39, 40, 41, 42, 43, 44, 45, 46, 47, 48, 49, 50, 51, 52, 55, 56, 57, 53, 54] (by decide +kernel) (by decide +kernel)
set_option maxRecDepth 20000 in
theorem gX1_answer_X1_ofTwoLetters : GoodIn wsX1_answer (wsV RX1 36 RX1 yX1_ofTwoLetters wsX1_ofTwoLetters) := goodIn_app (goodIn_of _ (by decide +kernel)) ggX1_answer_X1_ofTwoLetters
set_option maxRecDepth 20000 in
theorem ggX1_answer_X1_part : GoodIn wsX1_answer wsX1_part := goodIn_r _ [13, 14, 46, 47, 48, 49, 50, 51, 52] (by decide +kernel) (by decide +kernel)
set_option maxRecDepth 20000 in
theorem gX1_answer_X1_part : GoodIn wsX1_answer (wsV RX1 40 RX1 yX1_part wsX1_part) := goodIn_app (goodIn_of _ (by decide +kernel)) ggX1_answer_X1_part
set_option maxRecDepth 20000 in
theorem ggX1_answer_X0_letter : GoodIn wsX1_answer wsX0_letter := goodIn_r _ [19, 20, 21, 22, 23, 18, 24, 25, 26, 27, 28, 29, 30, 31, 32, 33, 34, 35, 36, 37, 38, 39, 40, 41, 42, 43, 44, 55, 56, 57, 53, 54] (by decide +kernel) (by decide +kernel)
set_option maxRecDepth 20000 in
theorem gX1_answer_X0_letter : GoodIn wsX1_answer (wsV RX1 44 RX0 yX0_letter wsX0_letter) := goodIn_app (goodIn_of _ (by decide +kernel)) ggX1_answer_X0_letter
set_option maxRecDepth 20000 in
theorem ggX1_answer_X4_times : GoodIn wsX1_answer wsX4_times := goodIn_r _ [44, 36, 53, 54] (by decide +kernel) (by decide +kernel)
set_option maxRecDepth 20000 in
theorem gX1_answer_X4_times : GoodIn wsX1_answer (wsV RX1 49 RX4 yX4_times wsX4_times) := goodIn_app (goodIn_of _ (by decide +kernel)) ggX1_answer_X4_times
theorem dX1_answer_0 : decode cX1_answer 0 = .ok (.iconst 0, 1) := by decide +kernel
theorem dX1_answer_1 : decode cX1_answer 1 = .ok (.istore 4, 2) := by decide +kernel
theorem dX1_answer_3 : decode cX1_answer 3 = .ok (.iconst 0, 1) := by decide +kernel
theorem dX1_answer_4 : decode cX1_answer 4 = .ok (.istore 5, 2) := by decide +kernel
theorem dX1_answer_6 : decode cX1_answer 6 = .ok (.iload 5, 2) := by decide +kernel
theorem dX1_answer_8 : decode cX1_answer 8 = .ok (.aload_n 0, 1) := by decide +kernel
theorem dX1_answer_9 : decode cX1_answer 9 = .ok (.getfield 25, 3) := by decide +kernel
theorem dX1_answer_12 : decode cX1_answer 12 = .ok (.if_icmp .ge 48, 3) := by decide +kernel
theorem dX1_answer_15 : decode cX1_answer 15 = .ok (.iload 4, 2) := by decide +kernel
theorem dX1_answer_17 : decode cX1_answer 17 = .ok (.aload_n 0, 1) := by decide +kernel
theorem dX1_answer_18 : decode cX1_answer 18 = .ok (.getfield 28, 3) := by decide +kernel
theorem dX1_answer_21 : decode cX1_answer 21 = .ok (.aload_n 0, 1) := by decide +kernel
theorem dX1_answer_22 : decode cX1_answer 22 = .ok (.iload 5, 2) := by decide +kernel
theorem dX1_answer_24 : decode cX1_answer 24 = .ok (.iload_n 1, 1) := by decide +kernel
theorem dX1_answer_25 : decode cX1_answer 25 = .ok (.iload_n 2, 1) := by decide +kernel
theorem dX1_answer_26 : decode cX1_answer 26 = .ok (.invokevirtual 36, 3) := by decide +kernel
theorem dX1_answer_29 : decode cX1_answer 29 = .ok (.aload_n 0, 1) := by decide +kernel
theorem dX1_answer_30 : decode cX1_answer 30 = .ok (.getfield 32, 3) := by decide +kernel
theorem dX1_answer_33 : decode cX1_answer 33 = .ok (.aload_n 0, 1) := by decide +kernel
theorem dX1_answer_34 : decode cX1_answer 34 = .ok (.getfield 21, 3) := by decide +kernel
theorem dX1_answer_37 : decode cX1_answer 37 = .ok (.iload_n 3, 1) := by decide +kernel
theorem dX1_answer_38 : decode cX1_answer 38 = .ok (.aload_n 0, 1) := by decide +kernel
theorem dX1_answer_39 : decode cX1_answer 39 = .ok (.iload 5, 2) := by decide +kernel
theorem dX1_answer_41 : decode cX1_answer 41 = .ok (.iconst 3, 1) := by decide +kernel
theorem dX1_answer_42 : decode cX1_answer 42 = .ok (.invokevirtual 40, 3) := by decide +kernel
theorem dX1_answer_45 : decode cX1_answer 45 = .ok (.invokevirtual 44, 3) := by decide +kernel
theorem dX1_answer_48 : decode cX1_answer 48 = .ok (.invokevirtual 49, 3) := by decide +kernel
theorem dX1_answer_51 : decode cX1_answer 51 = .ok (.iadd, 1) := by decide +kernel
theorem dX1_answer_52 : decode cX1_answer 52 = .ok (.istore 4, 2) := by decide +kernel
theorem dX1_answer_54 : decode cX1_answer 54 = .ok (.iinc 5 1, 3) := by decide +kernel
theorem dX1_answer_57 : decode cX1_answer 57 = .ok (.goto (-51), 3) := by decide +kernel
theorem dX1_answer_60 : decode cX1_answer 60 = .ok (.iload 4, 2) := by decide +kernel
theorem dX1_answer_62 : decode cX1_answer 62 = .ok (.aload_n 0, 1) := by decide +kernel
theorem dX1_answer_63 : decode cX1_answer 63 = .ok (.getfield 28, 3) := by decide +kernel
theorem dX1_answer_66 : decode cX1_answer 66 = .ok (.getfield 54, 3) := by decide +kernel
theorem dX1_answer_69 : decode cX1_answer 69 = .ok (.irem, 1) := by decide +kernel
theorem dX1_answer_70 : decode cX1_answer 70 = .ok (.ireturn, 1) := by decide +kernel
set_option maxRecDepth 20000 in
theorem ggX1_ofTwoLetters_X1_part : GoodIn wsX1_ofTwoLetters wsX1_part := goodIn_r _ [8, 9, 41, 42, 43, 44, 45, 46, 47] (by decide +kernel) (by decide +kernel)
set_option maxRecDepth 20000 in
theorem gX1_ofTwoLetters_X1_part : GoodIn wsX1_ofTwoLetters (wsV RX1 40 RX1 yX1_part wsX1_part) := goodIn_app (goodIn_of _ (by decide +kernel)) ggX1_ofTwoLetters_X1_part
set_option maxRecDepth 20000 in
theorem ggX1_ofTwoLetters_X0_letter : GoodIn wsX1_ofTwoLetters wsX0_letter := goodIn_r _ [14, 15, 16, 17, 18, 13, 19, 20, 21, 22, 23, 24, 25, 26, 27, 28, 29, 30, 31, 32, 33, 34, 35, 36, 37, 38, 39, 48, 49, 50, 51, 52] (by decide +kernel) (by decide +kernel)
set_option maxRecDepth 20000 in
theorem gX1_ofTwoLetters_X0_letter : GoodIn wsX1_ofTwoLetters (wsV RX1 44 RX0 yX0_letter wsX0_letter) := goodIn_app (goodIn_of _ (by decide +kernel)) ggX1_ofTwoLetters_X0_letter
set_option maxRecDepth 20000 in
theorem ggX1_ofTwoLetters_X4_times : GoodIn wsX1_ofTwoLetters wsX4_times := goodIn_r _ [39, 31, 51, 52] (by decide +kernel) (by decide +kernel)
set_option maxRecDepth 20000 in
theorem gX1_ofTwoLetters_X4_times : GoodIn wsX1_ofTwoLetters (wsV RX1 49 RX4 yX4_times wsX4_times) := goodIn_app (goodIn_of _ (by decide +kernel)) ggX1_ofTwoLetters_X4_times
theorem dX1_ofTwoLetters_0 : decode cX1_ofTwoLetters 0 = .ok (.aload_n 0, 1) := by decide +kernel
theorem dX1_ofTwoLetters_1 : decode cX1_ofTwoLetters 1 = .ok (.getfield 28, 3) := by decide +kernel
theorem dX1_ofTwoLetters_4 : decode cX1_ofTwoLetters 4 = .ok (.aload_n 0, 1) := by decide +kernel
theorem dX1_ofTwoLetters_5 : decode cX1_ofTwoLetters 5 = .ok (.iload_n 1, 1) := by decide +kernel
theorem dX1_ofTwoLetters_6 : decode cX1_ofTwoLetters 6 = .ok (.iconst 0, 1) := by decide +kernel
theorem dX1_ofTwoLetters_7 : decode cX1_ofTwoLetters 7 = .ok (.invokevirtual 40, 3) := by decide +kernel
theorem dX1_ofTwoLetters_10 : decode cX1_ofTwoLetters 10 = .ok (.aload_n 0, 1) := by decide +kernel
theorem dX1_ofTwoLetters_11 : decode cX1_ofTwoLetters 11 = .ok (.getfield 32, 3) := by decide +kernel
theorem dX1_ofTwoLetters_14 : decode cX1_ofTwoLetters 14 = .ok (.aload_n 0, 1) := by decide +kernel
theorem dX1_ofTwoLetters_15 : decode cX1_ofTwoLetters 15 = .ok (.getfield 21, 3) := by decide +kernel
theorem dX1_ofTwoLetters_18 : decode cX1_ofTwoLetters 18 = .ok (.iload_n 2, 1) := by decide +kernel
theorem dX1_ofTwoLetters_19 : decode cX1_ofTwoLetters 19 = .ok (.aload_n 0, 1) := by decide +kernel
theorem dX1_ofTwoLetters_20 : decode cX1_ofTwoLetters 20 = .ok (.iload_n 1, 1) := by decide +kernel
theorem dX1_ofTwoLetters_21 : decode cX1_ofTwoLetters 21 = .ok (.iconst 1, 1) := by decide +kernel
theorem dX1_ofTwoLetters_22 : decode cX1_ofTwoLetters 22 = .ok (.invokevirtual 40, 3) := by decide +kernel
theorem dX1_ofTwoLetters_25 : decode cX1_ofTwoLetters 25 = .ok (.invokevirtual 44, 3) := by decide +kernel
theorem dX1_ofTwoLetters_28 : decode cX1_ofTwoLetters 28 = .ok (.invokevirtual 49, 3) := by decide +kernel
theorem dX1_ofTwoLetters_31 : decode cX1_ofTwoLetters 31 = .ok (.istore 4, 2) := by decide +kernel
theorem dX1_ofTwoLetters_33 : decode cX1_ofTwoLetters 33 = .ok (.aload_n 0, 1) := by decide +kernel
theorem dX1_ofTwoLetters_34 : decode cX1_ofTwoLetters 34 = .ok (.getfield 28, 3) := by decide +kernel
theorem dX1_ofTwoLetters_37 : decode cX1_ofTwoLetters 37 = .ok (.iload 4, 2) := by decide +kernel
theorem dX1_ofTwoLetters_39 : decode cX1_ofTwoLetters 39 = .ok (.aload_n 0, 1) := by decide +kernel
theorem dX1_ofTwoLetters_40 : decode cX1_ofTwoLetters 40 = .ok (.getfield 32, 3) := by decide +kernel
theorem dX1_ofTwoLetters_43 : decode cX1_ofTwoLetters 43 = .ok (.aload_n 0, 1) := by decide +kernel
theorem dX1_ofTwoLetters_44 : decode cX1_ofTwoLetters 44 = .ok (.getfield 21, 3) := by decide +kernel
theorem dX1_ofTwoLetters_47 : decode cX1_ofTwoLetters 47 = .ok (.iload_n 3, 1) := by decide +kernel
theorem dX1_ofTwoLetters_48 : decode cX1_ofTwoLetters 48 = .ok (.aload_n 0, 1) := by decide +kernel
theorem dX1_ofTwoLetters_49 : decode cX1_ofTwoLetters 49 = .ok (.iload_n 1, 1) := by decide +kernel
theorem dX1_ofTwoLetters_50 : decode cX1_ofTwoLetters 50 = .ok (.iconst 2, 1) := by decide +kernel
theorem dX1_ofTwoLetters_51 : decode cX1_ofTwoLetters 51 = .ok (.invokevirtual 40, 3) := by decide +kernel
theorem dX1_ofTwoLetters_54 : decode cX1_ofTwoLetters 54 = .ok (.invokevirtual 44, 3) := by decide +kernel
theorem dX1_ofTwoLetters_57 : decode cX1_ofTwoLetters 57 = .ok (.invokevirtual 49, 3) := by decide +kernel
theorem dX1_ofTwoLetters_60 : decode cX1_ofTwoLetters 60 = .ok (.ireturn, 1) := by decide +kernel
set_option maxRecDepth 20000 in
theorem ggX1_readyLines_X0_letter : GoodIn wsX1_readyLines wsX0_letter := goodIn_r _ [9, 10, 11, 12, 13, 8, 14, 15, 16, 17, 18, 19, 20, 21, 22, 23, 24, 25, 26, 27, 28, 29, 30, 31, 32, 33, 34, 44, 45, 46, 42, 43] (by decide +kernel) (by decide +kernel)
set_option maxRecDepth 20000 in
theorem gX1_readyLines_X0_letter : GoodIn wsX1_readyLines (wsV RX1 44 RX0 yX0_letter wsX0_letter) := goodIn_app (goodIn_of _ (by decide +kernel)) ggX1_readyLines_X0_letter
theorem dX1_readyLines_0 : decode cX1_readyLines 0 = .ok (.iconst 0, 1) := by decide +kernel
theorem dX1_readyLines_1 : decode cX1_readyLines 1 = .ok (.istore_n 1, 1) := by decide +kernel
theorem dX1_readyLines_2 : decode cX1_readyLines 2 = .ok (.iload_n 1, 1) := by decide +kernel
theorem dX1_readyLines_3 : decode cX1_readyLines 3 = .ok (.iconst 4, 1) := by decide +kernel
theorem dX1_readyLines_4 : decode cX1_readyLines 4 = .ok (.if_icmp .gt 58, 3) := by decide +kernel
theorem dX1_readyLines_7 : decode cX1_readyLines 7 = .ok (.iconst 0, 1) := by decide +kernel
theorem dX1_readyLines_8 : decode cX1_readyLines 8 = .ok (.istore_n 2, 1) := by decide +kernel
theorem dX1_readyLines_9 : decode cX1_readyLines 9 = .ok (.iload_n 2, 1) := by decide +kernel
theorem dX1_readyLines_10 : decode cX1_readyLines 10 = .ok (.aload_n 0, 1) := by decide +kernel
theorem dX1_readyLines_11 : decode cX1_readyLines 11 = .ok (.getfield 28, 3) := by decide +kernel
theorem dX1_readyLines_14 : decode cX1_readyLines 14 = .ok (.getfield 54, 3) := by decide +kernel
theorem dX1_readyLines_17 : decode cX1_readyLines 17 = .ok (.if_icmp .ge 39, 3) := by decide +kernel
theorem dX1_readyLines_20 : decode cX1_readyLines 20 = .ok (.iload_n 2, 1) := by decide +kernel
theorem dX1_readyLines_21 : decode cX1_readyLines 21 = .ok (.bipush 23, 2) := by decide +kernel
theorem dX1_readyLines_23 : decode cX1_readyLines 23 = .ok (.if_icmp .ge 33, 3) := by decide +kernel
theorem dX1_readyLines_26 : decode cX1_readyLines 26 = .ok (.aload_n 0, 1) := by decide +kernel
theorem dX1_readyLines_27 : decode cX1_readyLines 27 = .ok (.getfield 15, 3) := by decide +kernel
theorem dX1_readyLines_30 : decode cX1_readyLines 30 = .ok (.iload_n 1, 1) := by decide +kernel
theorem dX1_readyLines_31 : decode cX1_readyLines 31 = .ok (.bipush 23, 2) := by decide +kernel
theorem dX1_readyLines_33 : decode cX1_readyLines 33 = .ok (.imul, 1) := by decide +kernel
theorem dX1_readyLines_34 : decode cX1_readyLines 34 = .ok (.iload_n 2, 1) := by decide +kernel
theorem dX1_readyLines_35 : decode cX1_readyLines 35 = .ok (.iadd, 1) := by decide +kernel
theorem dX1_readyLines_36 : decode cX1_readyLines 36 = .ok (.aload_n 0, 1) := by decide +kernel
theorem dX1_readyLines_37 : decode cX1_readyLines 37 = .ok (.getfield 32, 3) := by decide +kernel
theorem dX1_readyLines_40 : decode cX1_readyLines 40 = .ok (.aload_n 0, 1) := by decide +kernel
theorem dX1_readyLines_41 : decode cX1_readyLines 41 = .ok (.getfield 21, 3) := by decide +kernel
theorem dX1_readyLines_44 : decode cX1_readyLines 44 = .ok (.iload_n 2, 1) := by decide +kernel
theorem dX1_readyLines_45 : decode cX1_readyLines 45 = .ok (.iload_n 1, 1) := by decide +kernel
theorem dX1_readyLines_46 : decode cX1_readyLines 46 = .ok (.invokevirtual 44, 3) := by decide +kernel
theorem dX1_readyLines_49 : decode cX1_readyLines 49 = .ok (.iastore, 1) := by decide +kernel
theorem dX1_readyLines_50 : decode cX1_readyLines 50 = .ok (.iinc 2 1, 3) := by decide +kernel
theorem dX1_readyLines_53 : decode cX1_readyLines 53 = .ok (.goto (-44), 3) := by decide +kernel
theorem dX1_readyLines_56 : decode cX1_readyLines 56 = .ok (.iinc 1 1, 3) := by decide +kernel
theorem dX1_readyLines_59 : decode cX1_readyLines 59 = .ok (.goto (-57), 3) := by decide +kernel
theorem dX1_readyLines_62 : decode cX1_readyLines 62 = .ok (.return_, 1) := by decide +kernel
set_option maxRecDepth 20000 in
theorem ggX1_answerLine_X1_ofTwoLetters : GoodIn wsX1_answerLine wsX1_ofTwoLetters := goodIn_r _ [8, 3, 9, 10, 11, 12, 13, 7, 14, 15, 16, 17, 18, 19, 20, 21, 22, 23, 24, 25, 26, 27, 28, 29, 30, 31, 32, 33, 34, 35, 36, 37, 38, 39, 40, 41, 42, 43, 44, 45, 46, 55, 56, 57, 58, 59, 60, 61, 64, 65, 66, 62, 63] (by decide +kernel) (by decide +kernel)
set_option maxRecDepth 20000 in
theorem gX1_answerLine_X1_ofTwoLetters : GoodIn wsX1_answerLine (wsV RX1 36 RX1 yX1_ofTwoLetters wsX1_ofTwoLetters) := goodIn_app (goodIn_of _ (by decide +kernel)) ggX1_answerLine_X1_ofTwoLetters
set_option maxRecDepth 20000 in
theorem ggX1_answerLine_X1_part : GoodIn wsX1_answerLine wsX1_part := goodIn_r _ [14, 15, 55, 56, 57, 58, 59, 60, 61] (by decide +kernel) (by decide +kernel)
set_option maxRecDepth 20000 in
theorem gX1_answerLine_X1_part : GoodIn wsX1_answerLine (wsV RX1 40 RX1 yX1_part wsX1_part) := goodIn_app (goodIn_of _ (by decide +kernel)) ggX1_answerLine_X1_part
set_option maxRecDepth 20000 in
theorem ggX1_answerLine_X1_addToLine : GoodIn wsX1_answerLine wsX1_addToLine := goodIn_r _ [50, 3, 1, 51, 52, 53, 54, 55, 56, 57, 58, 59, 60, 61, 62, 63] (by decide +kernel) (by decide +kernel)
set_option maxRecDepth 20000 in
theorem gX1_answerLine_X1_addToLine : GoodIn wsX1_answerLine (wsV RX1 57 RX1 yX1_addToLine wsX1_addToLine) := goodIn_app (goodIn_of _ (by decide +kernel)) ggX1_answerLine_X1_addToLine
theorem dX1_answerLine_0 : decode cX1_answerLine 0 = .ok (.iconst 0, 1) := by decide +kernel
theorem dX1_answerLine_1 : decode cX1_answerLine 1 = .ok (.istore_n 3, 1) := by decide +kernel
theorem dX1_answerLine_2 : decode cX1_answerLine 2 = .ok (.iload_n 3, 1) := by decide +kernel
theorem dX1_answerLine_3 : decode cX1_answerLine 3 = .ok (.aload_n 0, 1) := by decide +kernel
theorem dX1_answerLine_4 : decode cX1_answerLine 4 = .ok (.getfield 18, 3) := by decide +kernel
theorem dX1_answerLine_7 : decode cX1_answerLine 7 = .ok (.arraylength, 1) := by decide +kernel
theorem dX1_answerLine_8 : decode cX1_answerLine 8 = .ok (.if_icmp .ge 16, 3) := by decide +kernel
theorem dX1_answerLine_11 : decode cX1_answerLine 11 = .ok (.aload_n 0, 1) := by decide +kernel
theorem dX1_answerLine_12 : decode cX1_answerLine 12 = .ok (.getfield 18, 3) := by decide +kernel
theorem dX1_answerLine_15 : decode cX1_answerLine 15 = .ok (.iload_n 3, 1) := by decide +kernel
theorem dX1_answerLine_16 : decode cX1_answerLine 16 = .ok (.iconst 0, 1) := by decide +kernel
theorem dX1_answerLine_17 : decode cX1_answerLine 17 = .ok (.iastore, 1) := by decide +kernel
theorem dX1_answerLine_18 : decode cX1_answerLine 18 = .ok (.iinc 3 1, 3) := by decide +kernel
theorem dX1_answerLine_21 : decode cX1_answerLine 21 = .ok (.goto (-19), 3) := by decide +kernel
theorem dX1_answerLine_24 : decode cX1_answerLine 24 = .ok (.iconst 0, 1) := by decide +kernel
theorem dX1_answerLine_25 : decode cX1_answerLine 25 = .ok (.istore_n 3, 1) := by decide +kernel
theorem dX1_answerLine_26 : decode cX1_answerLine 26 = .ok (.iload_n 3, 1) := by decide +kernel
theorem dX1_answerLine_27 : decode cX1_answerLine 27 = .ok (.aload_n 0, 1) := by decide +kernel
theorem dX1_answerLine_28 : decode cX1_answerLine 28 = .ok (.getfield 25, 3) := by decide +kernel
theorem dX1_answerLine_31 : decode cX1_answerLine 31 = .ok (.if_icmp .ge 26, 3) := by decide +kernel
theorem dX1_answerLine_34 : decode cX1_answerLine 34 = .ok (.aload_n 0, 1) := by decide +kernel
theorem dX1_answerLine_35 : decode cX1_answerLine 35 = .ok (.aload_n 0, 1) := by decide +kernel
theorem dX1_answerLine_36 : decode cX1_answerLine 36 = .ok (.iload_n 3, 1) := by decide +kernel
theorem dX1_answerLine_37 : decode cX1_answerLine 37 = .ok (.iload_n 1, 1) := by decide +kernel
theorem dX1_answerLine_38 : decode cX1_answerLine 38 = .ok (.iload_n 2, 1) := by decide +kernel
theorem dX1_answerLine_39 : decode cX1_answerLine 39 = .ok (.invokevirtual 36, 3) := by decide +kernel
theorem dX1_answerLine_42 : decode cX1_answerLine 42 = .ok (.aload_n 0, 1) := by decide +kernel
theorem dX1_answerLine_43 : decode cX1_answerLine 43 = .ok (.iload_n 3, 1) := by decide +kernel
theorem dX1_answerLine_44 : decode cX1_answerLine 44 = .ok (.iconst 3, 1) := by decide +kernel
theorem dX1_answerLine_45 : decode cX1_answerLine 45 = .ok (.invokevirtual 40, 3) := by decide +kernel
theorem dX1_answerLine_48 : decode cX1_answerLine 48 = .ok (.invokevirtual 57, 3) := by decide +kernel
theorem dX1_answerLine_51 : decode cX1_answerLine 51 = .ok (.iinc 3 1, 3) := by decide +kernel
theorem dX1_answerLine_54 : decode cX1_answerLine 54 = .ok (.goto (-28), 3) := by decide +kernel
theorem dX1_answerLine_57 : decode cX1_answerLine 57 = .ok (.iconst 0, 1) := by decide +kernel
theorem dX1_answerLine_58 : decode cX1_answerLine 58 = .ok (.istore_n 3, 1) := by decide +kernel
theorem dX1_answerLine_59 : decode cX1_answerLine 59 = .ok (.iload_n 3, 1) := by decide +kernel
theorem dX1_answerLine_60 : decode cX1_answerLine 60 = .ok (.aload_n 0, 1) := by decide +kernel
theorem dX1_answerLine_61 : decode cX1_answerLine 61 = .ok (.getfield 18, 3) := by decide +kernel
theorem dX1_answerLine_64 : decode cX1_answerLine 64 = .ok (.arraylength, 1) := by decide +kernel
theorem dX1_answerLine_65 : decode cX1_answerLine 65 = .ok (.if_icmp .ge 29, 3) := by decide +kernel
theorem dX1_answerLine_68 : decode cX1_answerLine 68 = .ok (.aload_n 0, 1) := by decide +kernel
theorem dX1_answerLine_69 : decode cX1_answerLine 69 = .ok (.getfield 18, 3) := by decide +kernel
theorem dX1_answerLine_72 : decode cX1_answerLine 72 = .ok (.iload_n 3, 1) := by decide +kernel
theorem dX1_answerLine_73 : decode cX1_answerLine 73 = .ok (.aload_n 0, 1) := by decide +kernel
theorem dX1_answerLine_74 : decode cX1_answerLine 74 = .ok (.getfield 18, 3) := by decide +kernel
theorem dX1_answerLine_77 : decode cX1_answerLine 77 = .ok (.iload_n 3, 1) := by decide +kernel
theorem dX1_answerLine_78 : decode cX1_answerLine 78 = .ok (.iaload, 1) := by decide +kernel
theorem dX1_answerLine_79 : decode cX1_answerLine 79 = .ok (.aload_n 0, 1) := by decide +kernel
theorem dX1_answerLine_80 : decode cX1_answerLine 80 = .ok (.getfield 28, 3) := by decide +kernel
theorem dX1_answerLine_83 : decode cX1_answerLine 83 = .ok (.getfield 54, 3) := by decide +kernel
theorem dX1_answerLine_86 : decode cX1_answerLine 86 = .ok (.irem, 1) := by decide +kernel
theorem dX1_answerLine_87 : decode cX1_answerLine 87 = .ok (.iastore, 1) := by decide +kernel
theorem dX1_answerLine_88 : decode cX1_answerLine 88 = .ok (.iinc 3 1, 3) := by decide +kernel
theorem dX1_answerLine_91 : decode cX1_answerLine 91 = .ok (.goto (-32), 3) := by decide +kernel
theorem dX1_answerLine_94 : decode cX1_answerLine 94 = .ok (.return_, 1) := by decide +kernel
set_option maxRecDepth 20000 in
theorem ggX1_addToLine_X7_isExponent : GoodIn wsX1_addToLine wsX7_isExponent := goodIn_r _ [6] (by decide +kernel) (by decide +kernel)
set_option maxRecDepth 20000 in
theorem gX1_addToLine_X7_isExponent_n61 : GoodIn wsX1_addToLine (wsX7_isExponent) := ggX1_addToLine_X7_isExponent
theorem dX1_addToLine_0 : decode cX1_addToLine 0 = .ok (.iload_n 2, 1) := by decide +kernel
theorem dX1_addToLine_1 : decode cX1_addToLine 1 = .ok (.invokestatic 61, 3) := by decide +kernel
theorem dX1_addToLine_4 : decode cX1_addToLine 4 = .ok (.ifCond .ne 4, 3) := by decide +kernel
theorem dX1_addToLine_7 : decode cX1_addToLine 7 = .ok (.return_, 1) := by decide +kernel
theorem dX1_addToLine_8 : decode cX1_addToLine 8 = .ok (.iload_n 2, 1) := by decide +kernel
theorem dX1_addToLine_9 : decode cX1_addToLine 9 = .ok (.bipush 23, 2) := by decide +kernel
theorem dX1_addToLine_11 : decode cX1_addToLine 11 = .ok (.imul, 1) := by decide +kernel
theorem dX1_addToLine_12 : decode cX1_addToLine 12 = .ok (.istore_n 3, 1) := by decide +kernel
theorem dX1_addToLine_13 : decode cX1_addToLine 13 = .ok (.iconst 0, 1) := by decide +kernel
theorem dX1_addToLine_14 : decode cX1_addToLine 14 = .ok (.istore 4, 2) := by decide +kernel
theorem dX1_addToLine_16 : decode cX1_addToLine 16 = .ok (.iload 4, 2) := by decide +kernel
theorem dX1_addToLine_18 : decode cX1_addToLine 18 = .ok (.aload_n 0, 1) := by decide +kernel
theorem dX1_addToLine_19 : decode cX1_addToLine 19 = .ok (.getfield 28, 3) := by decide +kernel
theorem dX1_addToLine_22 : decode cX1_addToLine 22 = .ok (.getfield 54, 3) := by decide +kernel
theorem dX1_addToLine_25 : decode cX1_addToLine 25 = .ok (.if_icmp .ge 40, 3) := by decide +kernel
theorem dX1_addToLine_28 : decode cX1_addToLine 28 = .ok (.iload 4, 2) := by decide +kernel
theorem dX1_addToLine_30 : decode cX1_addToLine 30 = .ok (.aload_n 0, 1) := by decide +kernel
theorem dX1_addToLine_31 : decode cX1_addToLine 31 = .ok (.getfield 18, 3) := by decide +kernel
theorem dX1_addToLine_34 : decode cX1_addToLine 34 = .ok (.arraylength, 1) := by decide +kernel
theorem dX1_addToLine_35 : decode cX1_addToLine 35 = .ok (.if_icmp .ge 30, 3) := by decide +kernel
theorem dX1_addToLine_38 : decode cX1_addToLine 38 = .ok (.aload_n 0, 1) := by decide +kernel
theorem dX1_addToLine_39 : decode cX1_addToLine 39 = .ok (.getfield 18, 3) := by decide +kernel
theorem dX1_addToLine_42 : decode cX1_addToLine 42 = .ok (.iload 4, 2) := by decide +kernel
theorem dX1_addToLine_44 : decode cX1_addToLine 44 = .ok (.dup2, 1) := by decide +kernel
theorem dX1_addToLine_45 : decode cX1_addToLine 45 = .ok (.iaload, 1) := by decide +kernel
theorem dX1_addToLine_46 : decode cX1_addToLine 46 = .ok (.iload_n 1, 1) := by decide +kernel
theorem dX1_addToLine_47 : decode cX1_addToLine 47 = .ok (.aload_n 0, 1) := by decide +kernel
theorem dX1_addToLine_48 : decode cX1_addToLine 48 = .ok (.getfield 15, 3) := by decide +kernel
theorem dX1_addToLine_51 : decode cX1_addToLine 51 = .ok (.iload_n 3, 1) := by decide +kernel
theorem dX1_addToLine_52 : decode cX1_addToLine 52 = .ok (.iload 4, 2) := by decide +kernel
theorem dX1_addToLine_54 : decode cX1_addToLine 54 = .ok (.iadd, 1) := by decide +kernel
theorem dX1_addToLine_55 : decode cX1_addToLine 55 = .ok (.iaload, 1) := by decide +kernel
theorem dX1_addToLine_56 : decode cX1_addToLine 56 = .ok (.imul, 1) := by decide +kernel
theorem dX1_addToLine_57 : decode cX1_addToLine 57 = .ok (.iadd, 1) := by decide +kernel
theorem dX1_addToLine_58 : decode cX1_addToLine 58 = .ok (.iastore, 1) := by decide +kernel
theorem dX1_addToLine_59 : decode cX1_addToLine 59 = .ok (.iinc 4 1, 3) := by decide +kernel
theorem dX1_addToLine_62 : decode cX1_addToLine 62 = .ok (.goto (-46), 3) := by decide +kernel
theorem dX1_addToLine_65 : decode cX1_addToLine 65 = .ok (.return_, 1) := by decide +kernel
theorem dX1_zerosInLine_0 : decode cX1_zerosInLine 0 = .ok (.iconst 0, 1) := by decide +kernel
theorem dX1_zerosInLine_1 : decode cX1_zerosInLine 1 = .ok (.istore_n 1, 1) := by decide +kernel
theorem dX1_zerosInLine_2 : decode cX1_zerosInLine 2 = .ok (.iconst 0, 1) := by decide +kernel
theorem dX1_zerosInLine_3 : decode cX1_zerosInLine 3 = .ok (.istore_n 2, 1) := by decide +kernel
theorem dX1_zerosInLine_4 : decode cX1_zerosInLine 4 = .ok (.iload_n 2, 1) := by decide +kernel
theorem dX1_zerosInLine_5 : decode cX1_zerosInLine 5 = .ok (.aload_n 0, 1) := by decide +kernel
theorem dX1_zerosInLine_6 : decode cX1_zerosInLine 6 = .ok (.getfield 28, 3) := by decide +kernel
theorem dX1_zerosInLine_9 : decode cX1_zerosInLine 9 = .ok (.getfield 54, 3) := by decide +kernel
theorem dX1_zerosInLine_12 : decode cX1_zerosInLine 12 = .ok (.if_icmp .ge 35, 3) := by decide +kernel
theorem dX1_zerosInLine_15 : decode cX1_zerosInLine 15 = .ok (.iload_n 2, 1) := by decide +kernel
theorem dX1_zerosInLine_16 : decode cX1_zerosInLine 16 = .ok (.aload_n 0, 1) := by decide +kernel
theorem dX1_zerosInLine_17 : decode cX1_zerosInLine 17 = .ok (.getfield 18, 3) := by decide +kernel
theorem dX1_zerosInLine_20 : decode cX1_zerosInLine 20 = .ok (.arraylength, 1) := by decide +kernel
theorem dX1_zerosInLine_21 : decode cX1_zerosInLine 21 = .ok (.if_icmp .ge 26, 3) := by decide +kernel
theorem dX1_zerosInLine_24 : decode cX1_zerosInLine 24 = .ok (.iload_n 1, 1) := by decide +kernel
theorem dX1_zerosInLine_25 : decode cX1_zerosInLine 25 = .ok (.aload_n 0, 1) := by decide +kernel
theorem dX1_zerosInLine_26 : decode cX1_zerosInLine 26 = .ok (.getfield 18, 3) := by decide +kernel
theorem dX1_zerosInLine_29 : decode cX1_zerosInLine 29 = .ok (.iload_n 2, 1) := by decide +kernel
theorem dX1_zerosInLine_30 : decode cX1_zerosInLine 30 = .ok (.iaload, 1) := by decide +kernel
theorem dX1_zerosInLine_31 : decode cX1_zerosInLine 31 = .ok (.ifCond .ne 7, 3) := by decide +kernel
theorem dX1_zerosInLine_34 : decode cX1_zerosInLine 34 = .ok (.iconst 1, 1) := by decide +kernel
theorem dX1_zerosInLine_35 : decode cX1_zerosInLine 35 = .ok (.goto 4, 3) := by decide +kernel
theorem dX1_zerosInLine_38 : decode cX1_zerosInLine 38 = .ok (.iconst 0, 1) := by decide +kernel
theorem dX1_zerosInLine_39 : decode cX1_zerosInLine 39 = .ok (.iadd, 1) := by decide +kernel
theorem dX1_zerosInLine_40 : decode cX1_zerosInLine 40 = .ok (.istore_n 1, 1) := by decide +kernel
theorem dX1_zerosInLine_41 : decode cX1_zerosInLine 41 = .ok (.iinc 2 1, 3) := by decide +kernel
theorem dX1_zerosInLine_44 : decode cX1_zerosInLine 44 = .ok (.goto (-40), 3) := by decide +kernel
theorem dX1_zerosInLine_47 : decode cX1_zerosInLine 47 = .ok (.iload_n 1, 1) := by decide +kernel
theorem dX1_zerosInLine_48 : decode cX1_zerosInLine 48 = .ok (.ireturn, 1) := by decide +kernel
theorem dX1_alikeInLine_0 : decode cX1_alikeInLine 0 = .ok (.iconst 0, 1) := by decide +kernel
theorem dX1_alikeInLine_1 : decode cX1_alikeInLine 1 = .ok (.istore_n 2, 1) := by decide +kernel
theorem dX1_alikeInLine_2 : decode cX1_alikeInLine 2 = .ok (.iconst 0, 1) := by decide +kernel
theorem dX1_alikeInLine_3 : decode cX1_alikeInLine 3 = .ok (.istore_n 3, 1) := by decide +kernel
theorem dX1_alikeInLine_4 : decode cX1_alikeInLine 4 = .ok (.iload_n 3, 1) := by decide +kernel
theorem dX1_alikeInLine_5 : decode cX1_alikeInLine 5 = .ok (.aload_n 0, 1) := by decide +kernel
theorem dX1_alikeInLine_6 : decode cX1_alikeInLine 6 = .ok (.getfield 28, 3) := by decide +kernel
theorem dX1_alikeInLine_9 : decode cX1_alikeInLine 9 = .ok (.getfield 54, 3) := by decide +kernel
theorem dX1_alikeInLine_12 : decode cX1_alikeInLine 12 = .ok (.if_icmp .ge 41, 3) := by decide +kernel
theorem dX1_alikeInLine_15 : decode cX1_alikeInLine 15 = .ok (.iload_n 3, 1) := by decide +kernel
theorem dX1_alikeInLine_16 : decode cX1_alikeInLine 16 = .ok (.aload_n 0, 1) := by decide +kernel
theorem dX1_alikeInLine_17 : decode cX1_alikeInLine 17 = .ok (.getfield 18, 3) := by decide +kernel
theorem dX1_alikeInLine_20 : decode cX1_alikeInLine 20 = .ok (.arraylength, 1) := by decide +kernel
theorem dX1_alikeInLine_21 : decode cX1_alikeInLine 21 = .ok (.if_icmp .ge 32, 3) := by decide +kernel
theorem dX1_alikeInLine_24 : decode cX1_alikeInLine 24 = .ok (.iload_n 2, 1) := by decide +kernel
theorem dX1_alikeInLine_25 : decode cX1_alikeInLine 25 = .ok (.aload_n 0, 1) := by decide +kernel
theorem dX1_alikeInLine_26 : decode cX1_alikeInLine 26 = .ok (.getfield 18, 3) := by decide +kernel
theorem dX1_alikeInLine_29 : decode cX1_alikeInLine 29 = .ok (.iload_n 3, 1) := by decide +kernel
theorem dX1_alikeInLine_30 : decode cX1_alikeInLine 30 = .ok (.iaload, 1) := by decide +kernel
theorem dX1_alikeInLine_31 : decode cX1_alikeInLine 31 = .ok (.aload_n 1, 1) := by decide +kernel
theorem dX1_alikeInLine_32 : decode cX1_alikeInLine 32 = .ok (.getfield 18, 3) := by decide +kernel
theorem dX1_alikeInLine_35 : decode cX1_alikeInLine 35 = .ok (.iload_n 3, 1) := by decide +kernel
theorem dX1_alikeInLine_36 : decode cX1_alikeInLine 36 = .ok (.iaload, 1) := by decide +kernel
theorem dX1_alikeInLine_37 : decode cX1_alikeInLine 37 = .ok (.if_icmp .ne 7, 3) := by decide +kernel
theorem dX1_alikeInLine_40 : decode cX1_alikeInLine 40 = .ok (.iconst 1, 1) := by decide +kernel
theorem dX1_alikeInLine_41 : decode cX1_alikeInLine 41 = .ok (.goto 4, 3) := by decide +kernel
theorem dX1_alikeInLine_44 : decode cX1_alikeInLine 44 = .ok (.iconst 0, 1) := by decide +kernel
theorem dX1_alikeInLine_45 : decode cX1_alikeInLine 45 = .ok (.iadd, 1) := by decide +kernel
theorem dX1_alikeInLine_46 : decode cX1_alikeInLine 46 = .ok (.istore_n 2, 1) := by decide +kernel
theorem dX1_alikeInLine_47 : decode cX1_alikeInLine 47 = .ok (.iinc 3 1, 3) := by decide +kernel
theorem dX1_alikeInLine_50 : decode cX1_alikeInLine 50 = .ok (.goto (-46), 3) := by decide +kernel
theorem dX1_alikeInLine_53 : decode cX1_alikeInLine 53 = .ok (.iload_n 2, 1) := by decide +kernel
theorem dX1_alikeInLine_54 : decode cX1_alikeInLine 54 = .ok (.ireturn, 1) := by decide +kernel
end
section
set_option maxRecDepth 20000 in
theorem ggX2_init_X6_init : GoodIn wsX2_init wsX6_init := goodIn_r _ [14, 15, 2, 3, 4, 16, 17, 18, 19, 20, 21, 22, 23, 28, 29, 30, 31, 32, 33, 34, 35] (by decide +kernel) (by decide +kernel)
set_option maxRecDepth 20000 in
theorem gX2_init_X6_init : GoodIn wsX2_init (wsX6_init) := ggX2_init_X6_init
theorem dX2_init_0 : decode cX2_init 0 = .ok (.aload_n 0, 1) := by decide +kernel
theorem dX2_init_1 : decode cX2_init 1 = .ok (.invokespecial 3, 3) := by decide +kernel
theorem dX2_init_4 : decode cX2_init 4 = .ok (.aload_n 0, 1) := by decide +kernel
theorem dX2_init_5 : decode cX2_init 5 = .ok (.bipush 16, 2) := by decide +kernel
theorem dX2_init_7 : decode cX2_init 7 = .ok (.newarray .int, 2) := by decide +kernel
theorem dX2_init_9 : decode cX2_init 9 = .ok (.putfield 9, 3) := by decide +kernel
theorem dX2_init_12 : decode cX2_init 12 = .ok (.aload_n 0, 1) := by decide +kernel
theorem dX2_init_13 : decode cX2_init 13 = .ok (.aload_n 1, 1) := by decide +kernel
theorem dX2_init_14 : decode cX2_init 14 = .ok (.putfield 15, 3) := by decide +kernel
theorem dX2_init_17 : decode cX2_init 17 = .ok (.aload_n 0, 1) := by decide +kernel
theorem dX2_init_18 : decode cX2_init 18 = .ok (.new 19, 3) := by decide +kernel
theorem dX2_init_21 : decode cX2_init 21 = .ok (.dup, 1) := by decide +kernel
theorem dX2_init_22 : decode cX2_init 22 = .ok (.aload_n 1, 1) := by decide +kernel
theorem dX2_init_23 : decode cX2_init 23 = .ok (.invokespecial 21, 3) := by decide +kernel
theorem dX2_init_26 : decode cX2_init 26 = .ok (.putfield 24, 3) := by decide +kernel
theorem dX2_init_29 : decode cX2_init 29 = .ok (.aload_n 0, 1) := by decide +kernel
theorem dX2_init_30 : decode cX2_init 30 = .ok (.new 19, 3) := by decide +kernel
theorem dX2_init_33 : decode cX2_init 33 = .ok (.dup, 1) := by decide +kernel
theorem dX2_init_34 : decode cX2_init 34 = .ok (.aload_n 1, 1) := by decide +kernel
theorem dX2_init_35 : decode cX2_init 35 = .ok (.invokespecial 21, 3) := by decide +kernel
theorem dX2_init_38 : decode cX2_init 38 = .ok (.putfield 28, 3) := by decide +kernel
theorem dX2_init_41 : decode cX2_init 41 = .ok (.return_, 1) := by decide +kernel
set_option maxRecDepth 20000 in
theorem ggX2_leastMending_X6_begin : GoodIn wsX2_leastMending wsX6_begin := goodIn_r _ [11, 12, 13, 14, 15, 16, 17, 62, 63, 64, 65, 66, 67, 68, 69] (by decide +kernel) (by decide +kernel)
set_option maxRecDepth 20000 in
theorem gX2_leastMending_X6_begin : GoodIn wsX2_leastMending (wsV RX2 37 RX6 yX6_begin wsX6_begin) := goodIn_app (goodIn_of _ (by decide +kernel)) ggX2_leastMending_X6_begin
set_option maxRecDepth 20000 in
theorem ggX2_leastMending_X2_leastNumberAt : GoodIn wsX2_leastMending wsX2_leastNumberAt := goodIn_r _ [22, 23, 1, 24, 25, 26, 21, 27, 28, 6, 29, 30, 31, 10, 32, 12, 33, 34, 35, 36, 13, 14, 15, 16, 17, 37, 38, 39, 40, 41, 42, 43, 44, 45, 46, 47, 48, 49, 50, 51, 52, 53, 54, 55, 56, 57, 58, 59, 60, 61, 70, 71, 62, 63, 64, 65, 66, 67, 68, 69] (by decide +kernel) (by decide +kernel)
set_option maxRecDepth 20000 in
theorem gX2_leastMending_X2_leastNumberAt : GoodIn wsX2_leastMending (wsV RX2 44 RX2 yX2_leastNumberAt wsX2_leastNumberAt) := goodIn_app (goodIn_of _ (by decide +kernel)) ggX2_leastMending_X2_leastNumberAt
set_option maxRecDepth 20000 in
theorem ggX2_leastMending_X6_take : GoodIn wsX2_leastMending wsX6_take := goodIn_r _ [40, 17, 41, 16, 14, 12, 42, 33, 34, 35, 36, 13, 15, 43, 44, 45, 10, 46, 47, 48, 49, 50, 51, 52, 53, 54, 55, 56, 57, 62, 63, 64, 65, 66, 67, 68, 69, 70, 71] (by decide +kernel) (by decide +kernel)
set_option maxRecDepth 20000 in
theorem gX2_leastMending_X6_take : GoodIn wsX2_leastMending (wsV RX2 48 RX6 yX6_take wsX6_take) := goodIn_app (goodIn_of _ (by decide +kernel)) ggX2_leastMending_X6_take
theorem dX2_leastMending_0 : decode cX2_leastMending 0 = .ok (.iload_n 2, 1) := by decide +kernel
theorem dX2_leastMending_1 : decode cX2_leastMending 1 = .ok (.aload_n 1, 1) := by decide +kernel
theorem dX2_leastMending_2 : decode cX2_leastMending 2 = .ok (.arraylength, 1) := by decide +kernel
theorem dX2_leastMending_3 : decode cX2_leastMending 3 = .ok (.aload_n 0, 1) := by decide +kernel
theorem dX2_leastMending_4 : decode cX2_leastMending 4 = .ok (.getfield 9, 3) := by decide +kernel
theorem dX2_leastMending_7 : decode cX2_leastMending 7 = .ok (.arraylength, 1) := by decide +kernel
theorem dX2_leastMending_8 : decode cX2_leastMending 8 = .ok (.invokestatic 31, 3) := by decide +kernel
theorem dX2_leastMending_11 : decode cX2_leastMending 11 = .ok (.invokestatic 31, 3) := by decide +kernel
theorem dX2_leastMending_14 : decode cX2_leastMending 14 = .ok (.istore 4, 2) := by decide +kernel
theorem dX2_leastMending_16 : decode cX2_leastMending 16 = .ok (.iconst 0, 1) := by decide +kernel
theorem dX2_leastMending_17 : decode cX2_leastMending 17 = .ok (.istore 5, 2) := by decide +kernel
theorem dX2_leastMending_19 : decode cX2_leastMending 19 = .ok (.iload 5, 2) := by decide +kernel
theorem dX2_leastMending_21 : decode cX2_leastMending 21 = .ok (.iload 4, 2) := by decide +kernel
theorem dX2_leastMending_23 : decode cX2_leastMending 23 = .ok (.if_icmp .ge 20, 3) := by decide +kernel
theorem dX2_leastMending_26 : decode cX2_leastMending 26 = .ok (.aload_n 0, 1) := by decide +kernel
theorem dX2_leastMending_27 : decode cX2_leastMending 27 = .ok (.getfield 9, 3) := by decide +kernel
theorem dX2_leastMending_30 : decode cX2_leastMending 30 = .ok (.iload 5, 2) := by decide +kernel
theorem dX2_leastMending_32 : decode cX2_leastMending 32 = .ok (.aload_n 1, 1) := by decide +kernel
theorem dX2_leastMending_33 : decode cX2_leastMending 33 = .ok (.iload 5, 2) := by decide +kernel
theorem dX2_leastMending_35 : decode cX2_leastMending 35 = .ok (.iaload, 1) := by decide +kernel
theorem dX2_leastMending_36 : decode cX2_leastMending 36 = .ok (.iastore, 1) := by decide +kernel
theorem dX2_leastMending_37 : decode cX2_leastMending 37 = .ok (.iinc 5 1, 3) := by decide +kernel
theorem dX2_leastMending_40 : decode cX2_leastMending 40 = .ok (.goto (-21), 3) := by decide +kernel
theorem dX2_leastMending_43 : decode cX2_leastMending 43 = .ok (.aload_n 0, 1) := by decide +kernel
theorem dX2_leastMending_44 : decode cX2_leastMending 44 = .ok (.getfield 24, 3) := by decide +kernel
theorem dX2_leastMending_47 : decode cX2_leastMending 47 = .ok (.invokevirtual 37, 3) := by decide +kernel
theorem dX2_leastMending_50 : decode cX2_leastMending 50 = .ok (.iconst 0, 1) := by decide +kernel
theorem dX2_leastMending_51 : decode cX2_leastMending 51 = .ok (.istore 5, 2) := by decide +kernel
theorem dX2_leastMending_53 : decode cX2_leastMending 53 = .ok (.iload 5, 2) := by decide +kernel
theorem dX2_leastMending_55 : decode cX2_leastMending 55 = .ok (.iload 4, 2) := by decide +kernel
theorem dX2_leastMending_57 : decode cX2_leastMending 57 = .ok (.if_icmp .ge 70, 3) := by decide +kernel
theorem dX2_leastMending_60 : decode cX2_leastMending 60 = .ok (.aload_n 0, 1) := by decide +kernel
theorem dX2_leastMending_61 : decode cX2_leastMending 61 = .ok (.getfield 24, 3) := by decide +kernel
theorem dX2_leastMending_64 : decode cX2_leastMending 64 = .ok (.getfield 40, 3) := by decide +kernel
theorem dX2_leastMending_67 : decode cX2_leastMending 67 = .ok (.iload_n 3, 1) := by decide +kernel
theorem dX2_leastMending_68 : decode cX2_leastMending 68 = .ok (.if_icmp .gt 59, 3) := by decide +kernel
theorem dX2_leastMending_71 : decode cX2_leastMending 71 = .ok (.aload_n 0, 1) := by decide +kernel
theorem dX2_leastMending_72 : decode cX2_leastMending 72 = .ok (.iload 5, 2) := by decide +kernel
theorem dX2_leastMending_74 : decode cX2_leastMending 74 = .ok (.iload 4, 2) := by decide +kernel
theorem dX2_leastMending_76 : decode cX2_leastMending 76 = .ok (.iload_n 3, 1) := by decide +kernel
theorem dX2_leastMending_77 : decode cX2_leastMending 77 = .ok (.invokevirtual 44, 3) := by decide +kernel
theorem dX2_leastMending_80 : decode cX2_leastMending 80 = .ok (.istore 6, 2) := by decide +kernel
theorem dX2_leastMending_82 : decode cX2_leastMending 82 = .ok (.iload 6, 2) := by decide +kernel
theorem dX2_leastMending_84 : decode cX2_leastMending 84 = .ok (.ifCond .lt 13, 3) := by decide +kernel
theorem dX2_leastMending_87 : decode cX2_leastMending 87 = .ok (.iload 5, 2) := by decide +kernel
theorem dX2_leastMending_89 : decode cX2_leastMending 89 = .ok (.sipush 1000, 3) := by decide +kernel
theorem dX2_leastMending_92 : decode cX2_leastMending 92 = .ok (.imul, 1) := by decide +kernel
theorem dX2_leastMending_93 : decode cX2_leastMending 93 = .ok (.iload 6, 2) := by decide +kernel
theorem dX2_leastMending_95 : decode cX2_leastMending 95 = .ok (.iadd, 1) := by decide +kernel
theorem dX2_leastMending_96 : decode cX2_leastMending 96 = .ok (.ireturn, 1) := by decide +kernel
theorem dX2_leastMending_97 : decode cX2_leastMending 97 = .ok (.aload_n 0, 1) := by decide +kernel
theorem dX2_leastMending_98 : decode cX2_leastMending 98 = .ok (.getfield 9, 3) := by decide +kernel
theorem dX2_leastMending_101 : decode cX2_leastMending 101 = .ok (.iload 5, 2) := by decide +kernel
theorem dX2_leastMending_103 : decode cX2_leastMending 103 = .ok (.aload_n 1, 1) := by decide +kernel
theorem dX2_leastMending_104 : decode cX2_leastMending 104 = .ok (.iload 5, 2) := by decide +kernel
theorem dX2_leastMending_106 : decode cX2_leastMending 106 = .ok (.iaload, 1) := by decide +kernel
theorem dX2_leastMending_107 : decode cX2_leastMending 107 = .ok (.iastore, 1) := by decide +kernel
theorem dX2_leastMending_108 : decode cX2_leastMending 108 = .ok (.aload_n 0, 1) := by decide +kernel
theorem dX2_leastMending_109 : decode cX2_leastMending 109 = .ok (.getfield 24, 3) := by decide +kernel
theorem dX2_leastMending_112 : decode cX2_leastMending 112 = .ok (.aload_n 0, 1) := by decide +kernel
theorem dX2_leastMending_113 : decode cX2_leastMending 113 = .ok (.getfield 9, 3) := by decide +kernel
theorem dX2_leastMending_116 : decode cX2_leastMending 116 = .ok (.iload 5, 2) := by decide +kernel
theorem dX2_leastMending_118 : decode cX2_leastMending 118 = .ok (.invokevirtual 48, 3) := by decide +kernel
theorem dX2_leastMending_121 : decode cX2_leastMending 121 = .ok (.iinc 5 1, 3) := by decide +kernel
theorem dX2_leastMending_124 : decode cX2_leastMending 124 = .ok (.goto (-71), 3) := by decide +kernel
theorem dX2_leastMending_127 : decode cX2_leastMending 127 = .ok (.bipush (-9), 2) := by decide +kernel
theorem dX2_leastMending_129 : decode cX2_leastMending 129 = .ok (.ireturn, 1) := by decide +kernel
set_option maxRecDepth 20000 in
theorem ggX2_leastNumberAt_X2_staysWithin : GoodIn wsX2_leastNumberAt wsX2_staysWithin := goodIn_r _ [7, 8, 9, 2, 10, 11, 12, 13, 14, 15, 16, 17, 18, 19, 20, 21, 22, 23, 24, 25, 26, 27, 28, 29, 30, 31, 32, 33, 34, 35, 36, 37, 38, 39, 40, 41, 42, 43, 44, 45, 46, 47, 48, 49, 52, 53, 54, 55, 56, 57, 58, 59, 50, 51] (by decide +kernel) (by decide +kernel)
set_option maxRecDepth 20000 in
theorem gX2_leastNumberAt_X2_staysWithin : GoodIn wsX2_leastNumberAt (wsV RX2 57 RX2 yX2_staysWithin wsX2_staysWithin) := goodIn_app (goodIn_of _ (by decide +kernel)) ggX2_leastNumberAt_X2_staysWithin
theorem dX2_leastNumberAt_0 : decode cX2_leastNumberAt 0 = .ok (.iconst 0, 1) := by decide +kernel
theorem dX2_leastNumberAt_1 : decode cX2_leastNumberAt 1 = .ok (.istore 4, 2) := by decide +kernel
theorem dX2_leastNumberAt_3 : decode cX2_leastNumberAt 3 = .ok (.iload 4, 2) := by decide +kernel
theorem dX2_leastNumberAt_5 : decode cX2_leastNumberAt 5 = .ok (.aload_n 0, 1) := by decide +kernel
theorem dX2_leastNumberAt_6 : decode cX2_leastNumberAt 6 = .ok (.getfield 15, 3) := by decide +kernel
theorem dX2_leastNumberAt_9 : decode cX2_leastNumberAt 9 = .ok (.getfield 52, 3) := by decide +kernel
theorem dX2_leastNumberAt_12 : decode cX2_leastNumberAt 12 = .ok (.if_icmp .ge 30, 3) := by decide +kernel
theorem dX2_leastNumberAt_15 : decode cX2_leastNumberAt 15 = .ok (.aload_n 0, 1) := by decide +kernel
theorem dX2_leastNumberAt_16 : decode cX2_leastNumberAt 16 = .ok (.getfield 9, 3) := by decide +kernel
theorem dX2_leastNumberAt_19 : decode cX2_leastNumberAt 19 = .ok (.iload_n 1, 1) := by decide +kernel
theorem dX2_leastNumberAt_20 : decode cX2_leastNumberAt 20 = .ok (.iload 4, 2) := by decide +kernel
theorem dX2_leastNumberAt_22 : decode cX2_leastNumberAt 22 = .ok (.iastore, 1) := by decide +kernel
theorem dX2_leastNumberAt_23 : decode cX2_leastNumberAt 23 = .ok (.aload_n 0, 1) := by decide +kernel
theorem dX2_leastNumberAt_24 : decode cX2_leastNumberAt 24 = .ok (.iload_n 1, 1) := by decide +kernel
theorem dX2_leastNumberAt_25 : decode cX2_leastNumberAt 25 = .ok (.iload_n 2, 1) := by decide +kernel
theorem dX2_leastNumberAt_26 : decode cX2_leastNumberAt 26 = .ok (.iload_n 3, 1) := by decide +kernel
theorem dX2_leastNumberAt_27 : decode cX2_leastNumberAt 27 = .ok (.invokevirtual 57, 3) := by decide +kernel
theorem dX2_leastNumberAt_30 : decode cX2_leastNumberAt 30 = .ok (.ifCond .eq 6, 3) := by decide +kernel
theorem dX2_leastNumberAt_33 : decode cX2_leastNumberAt 33 = .ok (.iload 4, 2) := by decide +kernel
theorem dX2_leastNumberAt_35 : decode cX2_leastNumberAt 35 = .ok (.ireturn, 1) := by decide +kernel
theorem dX2_leastNumberAt_36 : decode cX2_leastNumberAt 36 = .ok (.iinc 4 1, 3) := by decide +kernel
theorem dX2_leastNumberAt_39 : decode cX2_leastNumberAt 39 = .ok (.goto (-36), 3) := by decide +kernel
theorem dX2_leastNumberAt_42 : decode cX2_leastNumberAt 42 = .ok (.iconst (-1), 1) := by decide +kernel
theorem dX2_leastNumberAt_43 : decode cX2_leastNumberAt 43 = .ok (.ireturn, 1) := by decide +kernel
set_option maxRecDepth 20000 in
theorem ggX2_staysWithin_X6_copyOf : GoodIn wsX2_staysWithin wsX6_copyOf := goodIn_r _ [8, 9, 10, 11, 12, 13, 14, 15, 16, 17, 18, 44, 45, 46, 47, 48, 49, 50, 51] (by decide +kernel) (by decide +kernel)
set_option maxRecDepth 20000 in
theorem gX2_staysWithin_X6_copyOf : GoodIn wsX2_staysWithin (wsV RX2 61 RX6 yX6_copyOf wsX6_copyOf) := goodIn_app (goodIn_of _ (by decide +kernel)) ggX2_staysWithin_X6_copyOf
set_option maxRecDepth 20000 in
theorem ggX2_staysWithin_X6_take : GoodIn wsX2_staysWithin wsX6_take := goodIn_r _ [22, 18, 23, 17, 15, 9, 24, 10, 11, 12, 13, 14, 16, 25, 26, 27, 7, 28, 29, 30, 31, 32, 33, 34, 35, 36, 37, 38, 39, 44, 45, 46, 47, 48, 49, 50, 51, 52, 53] (by decide +kernel) (by decide +kernel)
set_option maxRecDepth 20000 in
theorem gX2_staysWithin_X6_take : GoodIn wsX2_staysWithin (wsV RX2 48 RX6 yX6_take wsX6_take) := goodIn_app (goodIn_of _ (by decide +kernel)) ggX2_staysWithin_X6_take
theorem dX2_staysWithin_0 : decode cX2_staysWithin 0 = .ok (.aload_n 0, 1) := by decide +kernel
theorem dX2_staysWithin_1 : decode cX2_staysWithin 1 = .ok (.getfield 28, 3) := by decide +kernel
theorem dX2_staysWithin_4 : decode cX2_staysWithin 4 = .ok (.aload_n 0, 1) := by decide +kernel
theorem dX2_staysWithin_5 : decode cX2_staysWithin 5 = .ok (.getfield 24, 3) := by decide +kernel
theorem dX2_staysWithin_8 : decode cX2_staysWithin 8 = .ok (.invokevirtual 61, 3) := by decide +kernel
theorem dX2_staysWithin_11 : decode cX2_staysWithin 11 = .ok (.iload_n 1, 1) := by decide +kernel
theorem dX2_staysWithin_12 : decode cX2_staysWithin 12 = .ok (.istore 4, 2) := by decide +kernel
theorem dX2_staysWithin_14 : decode cX2_staysWithin 14 = .ok (.iload 4, 2) := by decide +kernel
theorem dX2_staysWithin_16 : decode cX2_staysWithin 16 = .ok (.iload_n 2, 1) := by decide +kernel
theorem dX2_staysWithin_17 : decode cX2_staysWithin 17 = .ok (.if_icmp .ge 33, 3) := by decide +kernel
theorem dX2_staysWithin_20 : decode cX2_staysWithin 20 = .ok (.aload_n 0, 1) := by decide +kernel
theorem dX2_staysWithin_21 : decode cX2_staysWithin 21 = .ok (.getfield 28, 3) := by decide +kernel
theorem dX2_staysWithin_24 : decode cX2_staysWithin 24 = .ok (.getfield 40, 3) := by decide +kernel
theorem dX2_staysWithin_27 : decode cX2_staysWithin 27 = .ok (.iload_n 3, 1) := by decide +kernel
theorem dX2_staysWithin_28 : decode cX2_staysWithin 28 = .ok (.if_icmp .gt 22, 3) := by decide +kernel
theorem dX2_staysWithin_31 : decode cX2_staysWithin 31 = .ok (.aload_n 0, 1) := by decide +kernel
theorem dX2_staysWithin_32 : decode cX2_staysWithin 32 = .ok (.getfield 28, 3) := by decide +kernel
theorem dX2_staysWithin_35 : decode cX2_staysWithin 35 = .ok (.aload_n 0, 1) := by decide +kernel
theorem dX2_staysWithin_36 : decode cX2_staysWithin 36 = .ok (.getfield 9, 3) := by decide +kernel
theorem dX2_staysWithin_39 : decode cX2_staysWithin 39 = .ok (.iload 4, 2) := by decide +kernel
theorem dX2_staysWithin_41 : decode cX2_staysWithin 41 = .ok (.invokevirtual 48, 3) := by decide +kernel
theorem dX2_staysWithin_44 : decode cX2_staysWithin 44 = .ok (.iinc 4 1, 3) := by decide +kernel
theorem dX2_staysWithin_47 : decode cX2_staysWithin 47 = .ok (.goto (-33), 3) := by decide +kernel
theorem dX2_staysWithin_50 : decode cX2_staysWithin 50 = .ok (.aload_n 0, 1) := by decide +kernel
theorem dX2_staysWithin_51 : decode cX2_staysWithin 51 = .ok (.getfield 28, 3) := by decide +kernel
theorem dX2_staysWithin_54 : decode cX2_staysWithin 54 = .ok (.getfield 40, 3) := by decide +kernel
theorem dX2_staysWithin_57 : decode cX2_staysWithin 57 = .ok (.iload_n 3, 1) := by decide +kernel
theorem dX2_staysWithin_58 : decode cX2_staysWithin 58 = .ok (.if_icmp .gt 7, 3) := by decide +kernel
theorem dX2_staysWithin_61 : decode cX2_staysWithin 61 = .ok (.iconst 1, 1) := by decide +kernel
theorem dX2_staysWithin_62 : decode cX2_staysWithin 62 = .ok (.goto 4, 3) := by decide +kernel
theorem dX2_staysWithin_65 : decode cX2_staysWithin 65 = .ok (.iconst 0, 1) := by decide +kernel
theorem dX2_staysWithin_66 : decode cX2_staysWithin 66 = .ok (.ireturn, 1) := by decide +kernel
end
section
theorem dX3_init_0 : decode cX3_init 0 = .ok (.aload_n 0, 1) := by decide +kernel
theorem dX3_init_1 : decode cX3_init 1 = .ok (.invokespecial 3, 3) := by decide +kernel
theorem dX3_init_4 : decode cX3_init 4 = .ok (.aload_n 0, 1) := by decide +kernel
theorem dX3_init_5 : decode cX3_init 5 = .ok (.bipush 17, 2) := by decide +kernel
theorem dX3_init_7 : decode cX3_init 7 = .ok (.newarray .int, 2) := by decide +kernel
theorem dX3_init_9 : decode cX3_init 9 = .ok (.putfield 9, 3) := by decide +kernel
theorem dX3_init_12 : decode cX3_init 12 = .ok (.aload_n 0, 1) := by decide +kernel
theorem dX3_init_13 : decode cX3_init 13 = .ok (.bipush 16, 2) := by decide +kernel
theorem dX3_init_15 : decode cX3_init 15 = .ok (.newarray .int, 2) := by decide +kernel
theorem dX3_init_17 : decode cX3_init 17 = .ok (.putfield 15, 3) := by decide +kernel
theorem dX3_init_20 : decode cX3_init 20 = .ok (.aload_n 0, 1) := by decide +kernel
theorem dX3_init_21 : decode cX3_init 21 = .ok (.bipush 32, 2) := by decide +kernel
theorem dX3_init_23 : decode cX3_init 23 = .ok (.newarray .int, 2) := by decide +kernel
theorem dX3_init_25 : decode cX3_init 25 = .ok (.putfield 18, 3) := by decide +kernel
theorem dX3_init_28 : decode cX3_init 28 = .ok (.aload_n 0, 1) := by decide +kernel
theorem dX3_init_29 : decode cX3_init 29 = .ok (.iconst 0, 1) := by decide +kernel
theorem dX3_init_30 : decode cX3_init 30 = .ok (.putfield 21, 3) := by decide +kernel
theorem dX3_init_33 : decode cX3_init 33 = .ok (.aload_n 0, 1) := by decide +kernel
theorem dX3_init_34 : decode cX3_init 34 = .ok (.aload_n 1, 1) := by decide +kernel
theorem dX3_init_35 : decode cX3_init 35 = .ok (.putfield 25, 3) := by decide +kernel
theorem dX3_init_38 : decode cX3_init 38 = .ok (.return_, 1) := by decide +kernel
set_option maxRecDepth 20000 in
theorem ggX3_numberAt_X3_takeWeights : GoodIn wsX3_numberAt wsX3_takeWeights := goodIn_r _ [8, 1, 9, 10, 11, 12, 13, 14, 15, 16, 17, 18, 19, 20, 21, 22, 36, 37, 38, 39, 40, 41, 42, 43, 44, 45, 46, 47, 48, 49, 50] (by decide +kernel) (by decide +kernel)
set_option maxRecDepth 20000 in
theorem gX3_numberAt_X3_takeWeights : GoodIn wsX3_numberAt (wsV RX3 32 RX3 yX3_takeWeights wsX3_takeWeights) := goodIn_app (goodIn_of _ (by decide +kernel)) ggX3_numberAt_X3_takeWeights
set_option maxRecDepth 20000 in
theorem ggX3_numberAt_X3_raise : GoodIn wsX3_numberAt wsX3_raise := goodIn_r _ [26, 2, 27, 28, 29, 7, 30, 31, 1, 32, 33, 34, 35, 3, 9, 44, 45, 46, 47, 48, 49, 50] (by decide +kernel) (by decide +kernel)
set_option maxRecDepth 20000 in
theorem gX3_numberAt_X3_raise : GoodIn wsX3_numberAt (wsV RX3 36 RX3 yX3_raise wsX3_raise) := goodIn_app (goodIn_of _ (by decide +kernel)) ggX3_numberAt_X3_raise
theorem dX3_numberAt_0 : decode cX3_numberAt 0 = .ok (.aload_n 2, 1) := by decide +kernel
theorem dX3_numberAt_1 : decode cX3_numberAt 1 = .ok (.getfield 29, 3) := by decide +kernel
theorem dX3_numberAt_4 : decode cX3_numberAt 4 = .ok (.iconst 1, 1) := by decide +kernel
theorem dX3_numberAt_5 : decode cX3_numberAt 5 = .ok (.if_icmp .lt 12, 3) := by decide +kernel
theorem dX3_numberAt_8 : decode cX3_numberAt 8 = .ok (.aload_n 2, 1) := by decide +kernel
theorem dX3_numberAt_9 : decode cX3_numberAt 9 = .ok (.getfield 29, 3) := by decide +kernel
theorem dX3_numberAt_12 : decode cX3_numberAt 12 = .ok (.bipush 16, 2) := by decide +kernel
theorem dX3_numberAt_14 : decode cX3_numberAt 14 = .ok (.if_icmp .le 5, 3) := by decide +kernel
theorem dX3_numberAt_17 : decode cX3_numberAt 17 = .ok (.iconst 0, 1) := by decide +kernel
theorem dX3_numberAt_18 : decode cX3_numberAt 18 = .ok (.ireturn, 1) := by decide +kernel
theorem dX3_numberAt_19 : decode cX3_numberAt 19 = .ok (.aload_n 0, 1) := by decide +kernel
theorem dX3_numberAt_20 : decode cX3_numberAt 20 = .ok (.aload_n 2, 1) := by decide +kernel
theorem dX3_numberAt_21 : decode cX3_numberAt 21 = .ok (.invokevirtual 32, 3) := by decide +kernel
theorem dX3_numberAt_24 : decode cX3_numberAt 24 = .ok (.aload_n 0, 1) := by decide +kernel
theorem dX3_numberAt_25 : decode cX3_numberAt 25 = .ok (.iload_n 1, 1) := by decide +kernel
theorem dX3_numberAt_26 : decode cX3_numberAt 26 = .ok (.invokevirtual 36, 3) := by decide +kernel
theorem dX3_numberAt_29 : decode cX3_numberAt 29 = .ok (.iconst 0, 1) := by decide +kernel
theorem dX3_numberAt_30 : decode cX3_numberAt 30 = .ok (.istore 4, 2) := by decide +kernel
theorem dX3_numberAt_32 : decode cX3_numberAt 32 = .ok (.iconst 0, 1) := by decide +kernel
theorem dX3_numberAt_33 : decode cX3_numberAt 33 = .ok (.istore 5, 2) := by decide +kernel
theorem dX3_numberAt_35 : decode cX3_numberAt 35 = .ok (.iload 5, 2) := by decide +kernel
theorem dX3_numberAt_37 : decode cX3_numberAt 37 = .ok (.aload_n 0, 1) := by decide +kernel
theorem dX3_numberAt_38 : decode cX3_numberAt 38 = .ok (.getfield 21, 3) := by decide +kernel
theorem dX3_numberAt_41 : decode cX3_numberAt 41 = .ok (.if_icmp .ge 33, 3) := by decide +kernel
theorem dX3_numberAt_44 : decode cX3_numberAt 44 = .ok (.iload 5, 2) := by decide +kernel
theorem dX3_numberAt_46 : decode cX3_numberAt 46 = .ok (.aload_n 3, 1) := by decide +kernel
theorem dX3_numberAt_47 : decode cX3_numberAt 47 = .ok (.arraylength, 1) := by decide +kernel
theorem dX3_numberAt_48 : decode cX3_numberAt 48 = .ok (.if_icmp .ge 26, 3) := by decide +kernel
theorem dX3_numberAt_51 : decode cX3_numberAt 51 = .ok (.iload 4, 2) := by decide +kernel
theorem dX3_numberAt_53 : decode cX3_numberAt 53 = .ok (.aload_n 0, 1) := by decide +kernel
theorem dX3_numberAt_54 : decode cX3_numberAt 54 = .ok (.getfield 15, 3) := by decide +kernel
theorem dX3_numberAt_57 : decode cX3_numberAt 57 = .ok (.iload 5, 2) := by decide +kernel
theorem dX3_numberAt_59 : decode cX3_numberAt 59 = .ok (.iaload, 1) := by decide +kernel
theorem dX3_numberAt_60 : decode cX3_numberAt 60 = .ok (.aload_n 3, 1) := by decide +kernel
theorem dX3_numberAt_61 : decode cX3_numberAt 61 = .ok (.iload 5, 2) := by decide +kernel
theorem dX3_numberAt_63 : decode cX3_numberAt 63 = .ok (.iaload, 1) := by decide +kernel
theorem dX3_numberAt_64 : decode cX3_numberAt 64 = .ok (.imul, 1) := by decide +kernel
theorem dX3_numberAt_65 : decode cX3_numberAt 65 = .ok (.iadd, 1) := by decide +kernel
theorem dX3_numberAt_66 : decode cX3_numberAt 66 = .ok (.istore 4, 2) := by decide +kernel
theorem dX3_numberAt_68 : decode cX3_numberAt 68 = .ok (.iinc 5 1, 3) := by decide +kernel
theorem dX3_numberAt_71 : decode cX3_numberAt 71 = .ok (.goto (-36), 3) := by decide +kernel
theorem dX3_numberAt_74 : decode cX3_numberAt 74 = .ok (.iload 4, 2) := by decide +kernel
theorem dX3_numberAt_76 : decode cX3_numberAt 76 = .ok (.aload_n 0, 1) := by decide +kernel
theorem dX3_numberAt_77 : decode cX3_numberAt 77 = .ok (.getfield 25, 3) := by decide +kernel
theorem dX3_numberAt_80 : decode cX3_numberAt 80 = .ok (.getfield 40, 3) := by decide +kernel
theorem dX3_numberAt_83 : decode cX3_numberAt 83 = .ok (.irem, 1) := by decide +kernel
theorem dX3_numberAt_84 : decode cX3_numberAt 84 = .ok (.ireturn, 1) := by decide +kernel
set_option maxRecDepth 20000 in
theorem ggX3_takeWeights_X6_weight : GoodIn wsX3_takeWeights wsX6_weight := goodIn_r _ [7, 8, 9, 10, 11, 12, 13, 14, 15, 16, 17, 18, 19, 20, 21, 22, 23, 29, 30] (by decide +kernel) (by decide +kernel)
set_option maxRecDepth 20000 in
theorem gX3_takeWeights_X6_weight : GoodIn wsX3_takeWeights (wsV RX3 45 RX6 yX6_weight wsX6_weight) := goodIn_app (goodIn_of _ (by decide +kernel)) ggX3_takeWeights_X6_weight
theorem dX3_takeWeights_0 : decode cX3_takeWeights 0 = .ok (.aload_n 0, 1) := by decide +kernel
theorem dX3_takeWeights_1 : decode cX3_takeWeights 1 = .ok (.aload_n 1, 1) := by decide +kernel
theorem dX3_takeWeights_2 : decode cX3_takeWeights 2 = .ok (.getfield 29, 3) := by decide +kernel
theorem dX3_takeWeights_5 : decode cX3_takeWeights 5 = .ok (.putfield 21, 3) := by decide +kernel
theorem dX3_takeWeights_8 : decode cX3_takeWeights 8 = .ok (.iconst 1, 1) := by decide +kernel
theorem dX3_takeWeights_9 : decode cX3_takeWeights 9 = .ok (.istore_n 2, 1) := by decide +kernel
theorem dX3_takeWeights_10 : decode cX3_takeWeights 10 = .ok (.iload_n 2, 1) := by decide +kernel
theorem dX3_takeWeights_11 : decode cX3_takeWeights 11 = .ok (.aload_n 0, 1) := by decide +kernel
theorem dX3_takeWeights_12 : decode cX3_takeWeights 12 = .ok (.getfield 21, 3) := by decide +kernel
theorem dX3_takeWeights_15 : decode cX3_takeWeights 15 = .ok (.if_icmp .gt 20, 3) := by decide +kernel
theorem dX3_takeWeights_18 : decode cX3_takeWeights 18 = .ok (.aload_n 0, 1) := by decide +kernel
theorem dX3_takeWeights_19 : decode cX3_takeWeights 19 = .ok (.getfield 9, 3) := by decide +kernel
theorem dX3_takeWeights_22 : decode cX3_takeWeights 22 = .ok (.iload_n 2, 1) := by decide +kernel
theorem dX3_takeWeights_23 : decode cX3_takeWeights 23 = .ok (.aload_n 1, 1) := by decide +kernel
theorem dX3_takeWeights_24 : decode cX3_takeWeights 24 = .ok (.iload_n 2, 1) := by decide +kernel
theorem dX3_takeWeights_25 : decode cX3_takeWeights 25 = .ok (.invokevirtual 45, 3) := by decide +kernel
theorem dX3_takeWeights_28 : decode cX3_takeWeights 28 = .ok (.iastore, 1) := by decide +kernel
theorem dX3_takeWeights_29 : decode cX3_takeWeights 29 = .ok (.iinc 2 1, 3) := by decide +kernel
theorem dX3_takeWeights_32 : decode cX3_takeWeights 32 = .ok (.goto (-22), 3) := by decide +kernel
theorem dX3_takeWeights_35 : decode cX3_takeWeights 35 = .ok (.return_, 1) := by decide +kernel
set_option maxRecDepth 20000 in
theorem ggX3_raise_X3_squareInto : GoodIn wsX3_raise wsX3_squareInto := goodIn_r _ [6, 7, 8, 1, 15, 16, 17, 18, 19] (by decide +kernel) (by decide +kernel)
set_option maxRecDepth 20000 in
theorem gX3_raise_X3_squareInto : GoodIn wsX3_raise (wsV RX3 49 RX3 yX3_squareInto wsX3_squareInto) := goodIn_app (goodIn_of _ (by decide +kernel)) ggX3_raise_X3_squareInto
set_option maxRecDepth 20000 in
theorem ggX3_raise_X3_reduce : GoodIn wsX3_raise wsX3_reduce := goodIn_r _ [12, 7, 8, 13, 14, 1, 15, 16, 17, 18, 19, 20, 21] (by decide +kernel) (by decide +kernel)
set_option maxRecDepth 20000 in
theorem gX3_raise_X3_reduce : GoodIn wsX3_raise (wsV RX3 52 RX3 yX3_reduce wsX3_reduce) := goodIn_app (goodIn_of _ (by decide +kernel)) ggX3_raise_X3_reduce
theorem dX3_raise_0 : decode cX3_raise 0 = .ok (.iconst 0, 1) := by decide +kernel
theorem dX3_raise_1 : decode cX3_raise 1 = .ok (.istore_n 2, 1) := by decide +kernel
theorem dX3_raise_2 : decode cX3_raise 2 = .ok (.iload_n 2, 1) := by decide +kernel
theorem dX3_raise_3 : decode cX3_raise 3 = .ok (.aload_n 0, 1) := by decide +kernel
theorem dX3_raise_4 : decode cX3_raise 4 = .ok (.getfield 15, 3) := by decide +kernel
theorem dX3_raise_7 : decode cX3_raise 7 = .ok (.arraylength, 1) := by decide +kernel
theorem dX3_raise_8 : decode cX3_raise 8 = .ok (.if_icmp .ge 16, 3) := by decide +kernel
theorem dX3_raise_11 : decode cX3_raise 11 = .ok (.aload_n 0, 1) := by decide +kernel
theorem dX3_raise_12 : decode cX3_raise 12 = .ok (.getfield 15, 3) := by decide +kernel
theorem dX3_raise_15 : decode cX3_raise 15 = .ok (.iload_n 2, 1) := by decide +kernel
theorem dX3_raise_16 : decode cX3_raise 16 = .ok (.iconst 0, 1) := by decide +kernel
theorem dX3_raise_17 : decode cX3_raise 17 = .ok (.iastore, 1) := by decide +kernel
theorem dX3_raise_18 : decode cX3_raise 18 = .ok (.iinc 2 1, 3) := by decide +kernel
theorem dX3_raise_21 : decode cX3_raise 21 = .ok (.goto (-19), 3) := by decide +kernel
theorem dX3_raise_24 : decode cX3_raise 24 = .ok (.aload_n 0, 1) := by decide +kernel
theorem dX3_raise_25 : decode cX3_raise 25 = .ok (.getfield 15, 3) := by decide +kernel
theorem dX3_raise_28 : decode cX3_raise 28 = .ok (.iconst 0, 1) := by decide +kernel
theorem dX3_raise_29 : decode cX3_raise 29 = .ok (.iconst 1, 1) := by decide +kernel
theorem dX3_raise_30 : decode cX3_raise 30 = .ok (.iastore, 1) := by decide +kernel
theorem dX3_raise_31 : decode cX3_raise 31 = .ok (.bipush 29, 2) := by decide +kernel
theorem dX3_raise_33 : decode cX3_raise 33 = .ok (.istore_n 2, 1) := by decide +kernel
theorem dX3_raise_34 : decode cX3_raise 34 = .ok (.iload_n 2, 1) := by decide +kernel
theorem dX3_raise_35 : decode cX3_raise 35 = .ok (.ifCond .lt 22, 3) := by decide +kernel
theorem dX3_raise_38 : decode cX3_raise 38 = .ok (.aload_n 0, 1) := by decide +kernel
theorem dX3_raise_39 : decode cX3_raise 39 = .ok (.iload_n 1, 1) := by decide +kernel
theorem dX3_raise_40 : decode cX3_raise 40 = .ok (.iload_n 2, 1) := by decide +kernel
theorem dX3_raise_41 : decode cX3_raise 41 = .ok (.ishr, 1) := by decide +kernel
theorem dX3_raise_42 : decode cX3_raise 42 = .ok (.iconst 1, 1) := by decide +kernel
theorem dX3_raise_43 : decode cX3_raise 43 = .ok (.iand, 1) := by decide +kernel
theorem dX3_raise_44 : decode cX3_raise 44 = .ok (.invokevirtual 49, 3) := by decide +kernel
theorem dX3_raise_47 : decode cX3_raise 47 = .ok (.aload_n 0, 1) := by decide +kernel
theorem dX3_raise_48 : decode cX3_raise 48 = .ok (.invokevirtual 52, 3) := by decide +kernel
theorem dX3_raise_51 : decode cX3_raise 51 = .ok (.iinc 2 (-1), 3) := by decide +kernel
theorem dX3_raise_54 : decode cX3_raise 54 = .ok (.goto (-20), 3) := by decide +kernel
theorem dX3_raise_57 : decode cX3_raise 57 = .ok (.return_, 1) := by decide +kernel
theorem dX3_squareInto_0 : decode cX3_squareInto 0 = .ok (.iconst 0, 1) := by decide +kernel
theorem dX3_squareInto_1 : decode cX3_squareInto 1 = .ok (.istore_n 2, 1) := by decide +kernel
theorem dX3_squareInto_2 : decode cX3_squareInto 2 = .ok (.iload_n 2, 1) := by decide +kernel
theorem dX3_squareInto_3 : decode cX3_squareInto 3 = .ok (.aload_n 0, 1) := by decide +kernel
theorem dX3_squareInto_4 : decode cX3_squareInto 4 = .ok (.getfield 18, 3) := by decide +kernel
theorem dX3_squareInto_7 : decode cX3_squareInto 7 = .ok (.arraylength, 1) := by decide +kernel
theorem dX3_squareInto_8 : decode cX3_squareInto 8 = .ok (.if_icmp .ge 16, 3) := by decide +kernel
theorem dX3_squareInto_11 : decode cX3_squareInto 11 = .ok (.aload_n 0, 1) := by decide +kernel
theorem dX3_squareInto_12 : decode cX3_squareInto 12 = .ok (.getfield 18, 3) := by decide +kernel
theorem dX3_squareInto_15 : decode cX3_squareInto 15 = .ok (.iload_n 2, 1) := by decide +kernel
theorem dX3_squareInto_16 : decode cX3_squareInto 16 = .ok (.iconst 0, 1) := by decide +kernel
theorem dX3_squareInto_17 : decode cX3_squareInto 17 = .ok (.iastore, 1) := by decide +kernel
theorem dX3_squareInto_18 : decode cX3_squareInto 18 = .ok (.iinc 2 1, 3) := by decide +kernel
theorem dX3_squareInto_21 : decode cX3_squareInto 21 = .ok (.goto (-19), 3) := by decide +kernel
theorem dX3_squareInto_24 : decode cX3_squareInto 24 = .ok (.iconst 0, 1) := by decide +kernel
theorem dX3_squareInto_25 : decode cX3_squareInto 25 = .ok (.istore_n 2, 1) := by decide +kernel
theorem dX3_squareInto_26 : decode cX3_squareInto 26 = .ok (.iload_n 2, 1) := by decide +kernel
theorem dX3_squareInto_27 : decode cX3_squareInto 27 = .ok (.aload_n 0, 1) := by decide +kernel
theorem dX3_squareInto_28 : decode cX3_squareInto 28 = .ok (.getfield 21, 3) := by decide +kernel
theorem dX3_squareInto_31 : decode cX3_squareInto 31 = .ok (.if_icmp .ge 51, 3) := by decide +kernel
theorem dX3_squareInto_34 : decode cX3_squareInto 34 = .ok (.iconst 0, 1) := by decide +kernel
theorem dX3_squareInto_35 : decode cX3_squareInto 35 = .ok (.istore_n 3, 1) := by decide +kernel
theorem dX3_squareInto_36 : decode cX3_squareInto 36 = .ok (.iload_n 3, 1) := by decide +kernel
theorem dX3_squareInto_37 : decode cX3_squareInto 37 = .ok (.aload_n 0, 1) := by decide +kernel
theorem dX3_squareInto_38 : decode cX3_squareInto 38 = .ok (.getfield 21, 3) := by decide +kernel
theorem dX3_squareInto_41 : decode cX3_squareInto 41 = .ok (.if_icmp .ge 35, 3) := by decide +kernel
theorem dX3_squareInto_44 : decode cX3_squareInto 44 = .ok (.aload_n 0, 1) := by decide +kernel
theorem dX3_squareInto_45 : decode cX3_squareInto 45 = .ok (.getfield 18, 3) := by decide +kernel
theorem dX3_squareInto_48 : decode cX3_squareInto 48 = .ok (.iload_n 2, 1) := by decide +kernel
theorem dX3_squareInto_49 : decode cX3_squareInto 49 = .ok (.iload_n 3, 1) := by decide +kernel
theorem dX3_squareInto_50 : decode cX3_squareInto 50 = .ok (.iadd, 1) := by decide +kernel
theorem dX3_squareInto_51 : decode cX3_squareInto 51 = .ok (.iload_n 1, 1) := by decide +kernel
theorem dX3_squareInto_52 : decode cX3_squareInto 52 = .ok (.iadd, 1) := by decide +kernel
theorem dX3_squareInto_53 : decode cX3_squareInto 53 = .ok (.dup2, 1) := by decide +kernel
theorem dX3_squareInto_54 : decode cX3_squareInto 54 = .ok (.iaload, 1) := by decide +kernel
theorem dX3_squareInto_55 : decode cX3_squareInto 55 = .ok (.aload_n 0, 1) := by decide +kernel
theorem dX3_squareInto_56 : decode cX3_squareInto 56 = .ok (.getfield 15, 3) := by decide +kernel
theorem dX3_squareInto_59 : decode cX3_squareInto 59 = .ok (.iload_n 2, 1) := by decide +kernel
theorem dX3_squareInto_60 : decode cX3_squareInto 60 = .ok (.iaload, 1) := by decide +kernel
theorem dX3_squareInto_61 : decode cX3_squareInto 61 = .ok (.aload_n 0, 1) := by decide +kernel
theorem dX3_squareInto_62 : decode cX3_squareInto 62 = .ok (.getfield 15, 3) := by decide +kernel
theorem dX3_squareInto_65 : decode cX3_squareInto 65 = .ok (.iload_n 3, 1) := by decide +kernel
theorem dX3_squareInto_66 : decode cX3_squareInto 66 = .ok (.iaload, 1) := by decide +kernel
theorem dX3_squareInto_67 : decode cX3_squareInto 67 = .ok (.imul, 1) := by decide +kernel
theorem dX3_squareInto_68 : decode cX3_squareInto 68 = .ok (.iadd, 1) := by decide +kernel
theorem dX3_squareInto_69 : decode cX3_squareInto 69 = .ok (.iastore, 1) := by decide +kernel
theorem dX3_squareInto_70 : decode cX3_squareInto 70 = .ok (.iinc 3 1, 3) := by decide +kernel
theorem dX3_squareInto_73 : decode cX3_squareInto 73 = .ok (.goto (-37), 3) := by decide +kernel
theorem dX3_squareInto_76 : decode cX3_squareInto 76 = .ok (.iinc 2 1, 3) := by decide +kernel
theorem dX3_squareInto_79 : decode cX3_squareInto 79 = .ok (.goto (-53), 3) := by decide +kernel
theorem dX3_squareInto_82 : decode cX3_squareInto 82 = .ok (.return_, 1) := by decide +kernel
theorem dX3_reduce_0 : decode cX3_reduce 0 = .ok (.aload_n 0, 1) := by decide +kernel
theorem dX3_reduce_1 : decode cX3_reduce 1 = .ok (.getfield 18, 3) := by decide +kernel
theorem dX3_reduce_4 : decode cX3_reduce 4 = .ok (.arraylength, 1) := by decide +kernel
theorem dX3_reduce_5 : decode cX3_reduce 5 = .ok (.iconst 1, 1) := by decide +kernel
theorem dX3_reduce_6 : decode cX3_reduce 6 = .ok (.isub, 1) := by decide +kernel
theorem dX3_reduce_7 : decode cX3_reduce 7 = .ok (.istore_n 1, 1) := by decide +kernel
theorem dX3_reduce_8 : decode cX3_reduce 8 = .ok (.iload_n 1, 1) := by decide +kernel
theorem dX3_reduce_9 : decode cX3_reduce 9 = .ok (.aload_n 0, 1) := by decide +kernel
theorem dX3_reduce_10 : decode cX3_reduce 10 = .ok (.getfield 21, 3) := by decide +kernel
theorem dX3_reduce_13 : decode cX3_reduce 13 = .ok (.if_icmp .lt 77, 3) := by decide +kernel
theorem dX3_reduce_16 : decode cX3_reduce 16 = .ok (.aload_n 0, 1) := by decide +kernel
theorem dX3_reduce_17 : decode cX3_reduce 17 = .ok (.getfield 18, 3) := by decide +kernel
theorem dX3_reduce_20 : decode cX3_reduce 20 = .ok (.iload_n 1, 1) := by decide +kernel
theorem dX3_reduce_21 : decode cX3_reduce 21 = .ok (.iaload, 1) := by decide +kernel
theorem dX3_reduce_22 : decode cX3_reduce 22 = .ok (.aload_n 0, 1) := by decide +kernel
theorem dX3_reduce_23 : decode cX3_reduce 23 = .ok (.getfield 25, 3) := by decide +kernel
theorem dX3_reduce_26 : decode cX3_reduce 26 = .ok (.getfield 40, 3) := by decide +kernel
theorem dX3_reduce_29 : decode cX3_reduce 29 = .ok (.irem, 1) := by decide +kernel
theorem dX3_reduce_30 : decode cX3_reduce 30 = .ok (.istore_n 2, 1) := by decide +kernel
theorem dX3_reduce_31 : decode cX3_reduce 31 = .ok (.iconst 1, 1) := by decide +kernel
theorem dX3_reduce_32 : decode cX3_reduce 32 = .ok (.istore_n 3, 1) := by decide +kernel
theorem dX3_reduce_33 : decode cX3_reduce 33 = .ok (.iload_n 3, 1) := by decide +kernel
theorem dX3_reduce_34 : decode cX3_reduce 34 = .ok (.aload_n 0, 1) := by decide +kernel
theorem dX3_reduce_35 : decode cX3_reduce 35 = .ok (.getfield 21, 3) := by decide +kernel
theorem dX3_reduce_38 : decode cX3_reduce 38 = .ok (.if_icmp .gt 46, 3) := by decide +kernel
theorem dX3_reduce_41 : decode cX3_reduce 41 = .ok (.iload_n 2, 1) := by decide +kernel
theorem dX3_reduce_42 : decode cX3_reduce 42 = .ok (.ifCond .eq 42, 3) := by decide +kernel
theorem dX3_reduce_45 : decode cX3_reduce 45 = .ok (.aload_n 0, 1) := by decide +kernel
theorem dX3_reduce_46 : decode cX3_reduce 46 = .ok (.getfield 18, 3) := by decide +kernel
theorem dX3_reduce_49 : decode cX3_reduce 49 = .ok (.iload_n 1, 1) := by decide +kernel
theorem dX3_reduce_50 : decode cX3_reduce 50 = .ok (.iload_n 3, 1) := by decide +kernel
theorem dX3_reduce_51 : decode cX3_reduce 51 = .ok (.isub, 1) := by decide +kernel
theorem dX3_reduce_52 : decode cX3_reduce 52 = .ok (.aload_n 0, 1) := by decide +kernel
theorem dX3_reduce_53 : decode cX3_reduce 53 = .ok (.getfield 18, 3) := by decide +kernel
theorem dX3_reduce_56 : decode cX3_reduce 56 = .ok (.iload_n 1, 1) := by decide +kernel
theorem dX3_reduce_57 : decode cX3_reduce 57 = .ok (.iload_n 3, 1) := by decide +kernel
theorem dX3_reduce_58 : decode cX3_reduce 58 = .ok (.isub, 1) := by decide +kernel
theorem dX3_reduce_59 : decode cX3_reduce 59 = .ok (.iaload, 1) := by decide +kernel
theorem dX3_reduce_60 : decode cX3_reduce 60 = .ok (.iload_n 2, 1) := by decide +kernel
theorem dX3_reduce_61 : decode cX3_reduce 61 = .ok (.aload_n 0, 1) := by decide +kernel
theorem dX3_reduce_62 : decode cX3_reduce 62 = .ok (.getfield 9, 3) := by decide +kernel
theorem dX3_reduce_65 : decode cX3_reduce 65 = .ok (.iload_n 3, 1) := by decide +kernel
theorem dX3_reduce_66 : decode cX3_reduce 66 = .ok (.iaload, 1) := by decide +kernel
theorem dX3_reduce_67 : decode cX3_reduce 67 = .ok (.imul, 1) := by decide +kernel
theorem dX3_reduce_68 : decode cX3_reduce 68 = .ok (.iadd, 1) := by decide +kernel
theorem dX3_reduce_69 : decode cX3_reduce 69 = .ok (.aload_n 0, 1) := by decide +kernel
theorem dX3_reduce_70 : decode cX3_reduce 70 = .ok (.getfield 25, 3) := by decide +kernel
theorem dX3_reduce_73 : decode cX3_reduce 73 = .ok (.getfield 40, 3) := by decide +kernel
theorem dX3_reduce_76 : decode cX3_reduce 76 = .ok (.irem, 1) := by decide +kernel
theorem dX3_reduce_77 : decode cX3_reduce 77 = .ok (.iastore, 1) := by decide +kernel
theorem dX3_reduce_78 : decode cX3_reduce 78 = .ok (.iinc 3 1, 3) := by decide +kernel
theorem dX3_reduce_81 : decode cX3_reduce 81 = .ok (.goto (-48), 3) := by decide +kernel
theorem dX3_reduce_84 : decode cX3_reduce 84 = .ok (.iinc 1 (-1), 3) := by decide +kernel
theorem dX3_reduce_87 : decode cX3_reduce 87 = .ok (.goto (-79), 3) := by decide +kernel
theorem dX3_reduce_90 : decode cX3_reduce 90 = .ok (.iconst 0, 1) := by decide +kernel
theorem dX3_reduce_91 : decode cX3_reduce 91 = .ok (.istore_n 1, 1) := by decide +kernel
theorem dX3_reduce_92 : decode cX3_reduce 92 = .ok (.iload_n 1, 1) := by decide +kernel
theorem dX3_reduce_93 : decode cX3_reduce 93 = .ok (.aload_n 0, 1) := by decide +kernel
theorem dX3_reduce_94 : decode cX3_reduce 94 = .ok (.getfield 21, 3) := by decide +kernel
theorem dX3_reduce_97 : decode cX3_reduce 97 = .ok (.if_icmp .ge 29, 3) := by decide +kernel
theorem dX3_reduce_100 : decode cX3_reduce 100 = .ok (.aload_n 0, 1) := by decide +kernel
theorem dX3_reduce_101 : decode cX3_reduce 101 = .ok (.getfield 15, 3) := by decide +kernel
theorem dX3_reduce_104 : decode cX3_reduce 104 = .ok (.iload_n 1, 1) := by decide +kernel
theorem dX3_reduce_105 : decode cX3_reduce 105 = .ok (.aload_n 0, 1) := by decide +kernel
theorem dX3_reduce_106 : decode cX3_reduce 106 = .ok (.getfield 18, 3) := by decide +kernel
theorem dX3_reduce_109 : decode cX3_reduce 109 = .ok (.iload_n 1, 1) := by decide +kernel
theorem dX3_reduce_110 : decode cX3_reduce 110 = .ok (.iaload, 1) := by decide +kernel
theorem dX3_reduce_111 : decode cX3_reduce 111 = .ok (.aload_n 0, 1) := by decide +kernel
theorem dX3_reduce_112 : decode cX3_reduce 112 = .ok (.getfield 25, 3) := by decide +kernel
theorem dX3_reduce_115 : decode cX3_reduce 115 = .ok (.getfield 40, 3) := by decide +kernel
theorem dX3_reduce_118 : decode cX3_reduce 118 = .ok (.irem, 1) := by decide +kernel
theorem dX3_reduce_119 : decode cX3_reduce 119 = .ok (.iastore, 1) := by decide +kernel
theorem dX3_reduce_120 : decode cX3_reduce 120 = .ok (.iinc 1 1, 3) := by decide +kernel
theorem dX3_reduce_123 : decode cX3_reduce 123 = .ok (.goto (-31), 3) := by decide +kernel
theorem dX3_reduce_126 : decode cX3_reduce 126 = .ok (.return_, 1) := by decide +kernel
end
section
set_option maxRecDepth 20000 in
theorem ggX4_init_X4_fillInverses : GoodIn wsX4_init wsX4_fillInverses := goodIn_r _ [11, 5, 6, 12, 13] (by decide +kernel) (by decide +kernel)
set_option maxRecDepth 20000 in
theorem gX4_init_X4_fillInverses : GoodIn wsX4_init (wsV RX4 19 RX4 yX4_fillInverses wsX4_fillInverses) := goodIn_app (goodIn_of _ (by decide +kernel)) ggX4_init_X4_fillInverses
theorem dX4_init_0 : decode cX4_init 0 = .ok (.aload_n 0, 1) := by decide +kernel
theorem dX4_init_1 : decode cX4_init 1 = .ok (.invokespecial 3, 3) := by decide +kernel
theorem dX4_init_4 : decode cX4_init 4 = .ok (.aload_n 0, 1) := by decide +kernel
theorem dX4_init_5 : decode cX4_init 5 = .ok (.sipush 997, 3) := by decide +kernel
theorem dX4_init_8 : decode cX4_init 8 = .ok (.newarray .int, 2) := by decide +kernel
theorem dX4_init_10 : decode cX4_init 10 = .ok (.putfield 9, 3) := by decide +kernel
theorem dX4_init_13 : decode cX4_init 13 = .ok (.aload_n 0, 1) := by decide +kernel
theorem dX4_init_14 : decode cX4_init 14 = .ok (.bipush 101, 2) := by decide +kernel
theorem dX4_init_16 : decode cX4_init 16 = .ok (.putfield 15, 3) := by decide +kernel
theorem dX4_init_19 : decode cX4_init 19 = .ok (.aload_n 0, 1) := by decide +kernel
theorem dX4_init_20 : decode cX4_init 20 = .ok (.invokevirtual 19, 3) := by decide +kernel
theorem dX4_init_23 : decode cX4_init 23 = .ok (.return_, 1) := by decide +kernel
set_option maxRecDepth 20000 in
theorem ggX4_become_X4_isPrime : GoodIn wsX4_become wsX4_isPrime := goodIn_r _ [5] (by decide +kernel) (by decide +kernel)
set_option maxRecDepth 20000 in
theorem gX4_become_X4_isPrime : GoodIn wsX4_become (va_wsS RX4 22 yX4_isPrime wsX4_isPrime) := goodIn_app (goodIn_of _ (by decide +kernel)) ggX4_become_X4_isPrime
set_option maxRecDepth 20000 in
theorem ggX4_become_X4_fillInverses : GoodIn wsX4_become wsX4_fillInverses := goodIn_r _ [9, 10, 1, 11, 12] (by decide +kernel) (by decide +kernel)
set_option maxRecDepth 20000 in
theorem gX4_become_X4_fillInverses : GoodIn wsX4_become (wsV RX4 19 RX4 yX4_fillInverses wsX4_fillInverses) := goodIn_app (goodIn_of _ (by decide +kernel)) ggX4_become_X4_fillInverses
theorem dX4_become_0 : decode cX4_become 0 = .ok (.iload_n 1, 1) := by decide +kernel
theorem dX4_become_1 : decode cX4_become 1 = .ok (.iconst 5, 1) := by decide +kernel
theorem dX4_become_2 : decode cX4_become 2 = .ok (.if_icmp .lt 17, 3) := by decide +kernel
theorem dX4_become_5 : decode cX4_become 5 = .ok (.iload_n 1, 1) := by decide +kernel
theorem dX4_become_6 : decode cX4_become 6 = .ok (.sipush 997, 3) := by decide +kernel
theorem dX4_become_9 : decode cX4_become 9 = .ok (.if_icmp .gt 10, 3) := by decide +kernel
theorem dX4_become_12 : decode cX4_become 12 = .ok (.iload_n 1, 1) := by decide +kernel
theorem dX4_become_13 : decode cX4_become 13 = .ok (.invokestatic 22, 3) := by decide +kernel
theorem dX4_become_16 : decode cX4_become 16 = .ok (.ifCond .ne 5, 3) := by decide +kernel
theorem dX4_become_19 : decode cX4_become 19 = .ok (.iconst 0, 1) := by decide +kernel
theorem dX4_become_20 : decode cX4_become 20 = .ok (.ireturn, 1) := by decide +kernel
theorem dX4_become_21 : decode cX4_become 21 = .ok (.aload_n 0, 1) := by decide +kernel
theorem dX4_become_22 : decode cX4_become 22 = .ok (.iload_n 1, 1) := by decide +kernel
theorem dX4_become_23 : decode cX4_become 23 = .ok (.putfield 15, 3) := by decide +kernel
theorem dX4_become_26 : decode cX4_become 26 = .ok (.aload_n 0, 1) := by decide +kernel
theorem dX4_become_27 : decode cX4_become 27 = .ok (.invokevirtual 19, 3) := by decide +kernel
theorem dX4_become_30 : decode cX4_become 30 = .ok (.iconst 1, 1) := by decide +kernel
theorem dX4_become_31 : decode cX4_become 31 = .ok (.ireturn, 1) := by decide +kernel
theorem dX4_isPrime_0 : decode cX4_isPrime 0 = .ok (.iconst 2, 1) := by decide +kernel
theorem dX4_isPrime_1 : decode cX4_isPrime 1 = .ok (.istore_n 1, 1) := by decide +kernel
theorem dX4_isPrime_2 : decode cX4_isPrime 2 = .ok (.iload_n 1, 1) := by decide +kernel
theorem dX4_isPrime_3 : decode cX4_isPrime 3 = .ok (.iload_n 1, 1) := by decide +kernel
theorem dX4_isPrime_4 : decode cX4_isPrime 4 = .ok (.imul, 1) := by decide +kernel
theorem dX4_isPrime_5 : decode cX4_isPrime 5 = .ok (.iload_n 0, 1) := by decide +kernel
theorem dX4_isPrime_6 : decode cX4_isPrime 6 = .ok (.if_icmp .gt 17, 3) := by decide +kernel
theorem dX4_isPrime_9 : decode cX4_isPrime 9 = .ok (.iload_n 0, 1) := by decide +kernel
theorem dX4_isPrime_10 : decode cX4_isPrime 10 = .ok (.iload_n 1, 1) := by decide +kernel
theorem dX4_isPrime_11 : decode cX4_isPrime 11 = .ok (.irem, 1) := by decide +kernel
theorem dX4_isPrime_12 : decode cX4_isPrime 12 = .ok (.ifCond .ne 5, 3) := by decide +kernel
theorem dX4_isPrime_15 : decode cX4_isPrime 15 = .ok (.iconst 0, 1) := by decide +kernel
theorem dX4_isPrime_16 : decode cX4_isPrime 16 = .ok (.ireturn, 1) := by decide +kernel
theorem dX4_isPrime_17 : decode cX4_isPrime 17 = .ok (.iinc 1 1, 3) := by decide +kernel
theorem dX4_isPrime_20 : decode cX4_isPrime 20 = .ok (.goto (-18), 3) := by decide +kernel
theorem dX4_isPrime_23 : decode cX4_isPrime 23 = .ok (.iload_n 0, 1) := by decide +kernel
theorem dX4_isPrime_24 : decode cX4_isPrime 24 = .ok (.iconst 1, 1) := by decide +kernel
theorem dX4_isPrime_25 : decode cX4_isPrime 25 = .ok (.if_icmp .le 7, 3) := by decide +kernel
theorem dX4_isPrime_28 : decode cX4_isPrime 28 = .ok (.iconst 1, 1) := by decide +kernel
theorem dX4_isPrime_29 : decode cX4_isPrime 29 = .ok (.goto 4, 3) := by decide +kernel
theorem dX4_isPrime_32 : decode cX4_isPrime 32 = .ok (.iconst 0, 1) := by decide +kernel
theorem dX4_isPrime_33 : decode cX4_isPrime 33 = .ok (.ireturn, 1) := by decide +kernel
theorem dX4_fillInverses_0 : decode cX4_fillInverses 0 = .ok (.aload_n 0, 1) := by decide +kernel
theorem dX4_fillInverses_1 : decode cX4_fillInverses 1 = .ok (.getfield 9, 3) := by decide +kernel
theorem dX4_fillInverses_4 : decode cX4_fillInverses 4 = .ok (.iconst 1, 1) := by decide +kernel
theorem dX4_fillInverses_5 : decode cX4_fillInverses 5 = .ok (.iconst 1, 1) := by decide +kernel
theorem dX4_fillInverses_6 : decode cX4_fillInverses 6 = .ok (.iastore, 1) := by decide +kernel
theorem dX4_fillInverses_7 : decode cX4_fillInverses 7 = .ok (.iconst 2, 1) := by decide +kernel
theorem dX4_fillInverses_8 : decode cX4_fillInverses 8 = .ok (.istore_n 1, 1) := by decide +kernel
theorem dX4_fillInverses_9 : decode cX4_fillInverses 9 = .ok (.iload_n 1, 1) := by decide +kernel
theorem dX4_fillInverses_10 : decode cX4_fillInverses 10 = .ok (.aload_n 0, 1) := by decide +kernel
theorem dX4_fillInverses_11 : decode cX4_fillInverses 11 = .ok (.getfield 15, 3) := by decide +kernel
theorem dX4_fillInverses_14 : decode cX4_fillInverses 14 = .ok (.if_icmp .ge 52, 3) := by decide +kernel
theorem dX4_fillInverses_17 : decode cX4_fillInverses 17 = .ok (.iload_n 1, 1) := by decide +kernel
theorem dX4_fillInverses_18 : decode cX4_fillInverses 18 = .ok (.aload_n 0, 1) := by decide +kernel
theorem dX4_fillInverses_19 : decode cX4_fillInverses 19 = .ok (.getfield 9, 3) := by decide +kernel
theorem dX4_fillInverses_22 : decode cX4_fillInverses 22 = .ok (.arraylength, 1) := by decide +kernel
theorem dX4_fillInverses_23 : decode cX4_fillInverses 23 = .ok (.if_icmp .ge 43, 3) := by decide +kernel
theorem dX4_fillInverses_26 : decode cX4_fillInverses 26 = .ok (.aload_n 0, 1) := by decide +kernel
theorem dX4_fillInverses_27 : decode cX4_fillInverses 27 = .ok (.getfield 9, 3) := by decide +kernel
theorem dX4_fillInverses_30 : decode cX4_fillInverses 30 = .ok (.iload_n 1, 1) := by decide +kernel
theorem dX4_fillInverses_31 : decode cX4_fillInverses 31 = .ok (.aload_n 0, 1) := by decide +kernel
theorem dX4_fillInverses_32 : decode cX4_fillInverses 32 = .ok (.getfield 15, 3) := by decide +kernel
theorem dX4_fillInverses_35 : decode cX4_fillInverses 35 = .ok (.aload_n 0, 1) := by decide +kernel
theorem dX4_fillInverses_36 : decode cX4_fillInverses 36 = .ok (.getfield 15, 3) := by decide +kernel
theorem dX4_fillInverses_39 : decode cX4_fillInverses 39 = .ok (.iload_n 1, 1) := by decide +kernel
theorem dX4_fillInverses_40 : decode cX4_fillInverses 40 = .ok (.idiv, 1) := by decide +kernel
theorem dX4_fillInverses_41 : decode cX4_fillInverses 41 = .ok (.isub, 1) := by decide +kernel
theorem dX4_fillInverses_42 : decode cX4_fillInverses 42 = .ok (.aload_n 0, 1) := by decide +kernel
theorem dX4_fillInverses_43 : decode cX4_fillInverses 43 = .ok (.getfield 9, 3) := by decide +kernel
theorem dX4_fillInverses_46 : decode cX4_fillInverses 46 = .ok (.aload_n 0, 1) := by decide +kernel
theorem dX4_fillInverses_47 : decode cX4_fillInverses 47 = .ok (.getfield 15, 3) := by decide +kernel
theorem dX4_fillInverses_50 : decode cX4_fillInverses 50 = .ok (.iload_n 1, 1) := by decide +kernel
theorem dX4_fillInverses_51 : decode cX4_fillInverses 51 = .ok (.irem, 1) := by decide +kernel
theorem dX4_fillInverses_52 : decode cX4_fillInverses 52 = .ok (.iaload, 1) := by decide +kernel
theorem dX4_fillInverses_53 : decode cX4_fillInverses 53 = .ok (.imul, 1) := by decide +kernel
theorem dX4_fillInverses_54 : decode cX4_fillInverses 54 = .ok (.aload_n 0, 1) := by decide +kernel
theorem dX4_fillInverses_55 : decode cX4_fillInverses 55 = .ok (.getfield 15, 3) := by decide +kernel
theorem dX4_fillInverses_58 : decode cX4_fillInverses 58 = .ok (.irem, 1) := by decide +kernel
theorem dX4_fillInverses_59 : decode cX4_fillInverses 59 = .ok (.iastore, 1) := by decide +kernel
theorem dX4_fillInverses_60 : decode cX4_fillInverses 60 = .ok (.iinc 1 1, 3) := by decide +kernel
theorem dX4_fillInverses_63 : decode cX4_fillInverses 63 = .ok (.goto (-54), 3) := by decide +kernel
theorem dX4_fillInverses_66 : decode cX4_fillInverses 66 = .ok (.return_, 1) := by decide +kernel
theorem dX4_has_0 : decode cX4_has 0 = .ok (.iload_n 1, 1) := by decide +kernel
theorem dX4_has_1 : decode cX4_has 1 = .ok (.ifCond .lt 15, 3) := by decide +kernel
theorem dX4_has_4 : decode cX4_has 4 = .ok (.iload_n 1, 1) := by decide +kernel
theorem dX4_has_5 : decode cX4_has 5 = .ok (.aload_n 0, 1) := by decide +kernel
theorem dX4_has_6 : decode cX4_has 6 = .ok (.getfield 15, 3) := by decide +kernel
theorem dX4_has_9 : decode cX4_has 9 = .ok (.if_icmp .ge 7, 3) := by decide +kernel
theorem dX4_has_12 : decode cX4_has 12 = .ok (.iconst 1, 1) := by decide +kernel
theorem dX4_has_13 : decode cX4_has 13 = .ok (.goto 4, 3) := by decide +kernel
theorem dX4_has_16 : decode cX4_has 16 = .ok (.iconst 0, 1) := by decide +kernel
theorem dX4_has_17 : decode cX4_has 17 = .ok (.ireturn, 1) := by decide +kernel
theorem dX4_times_0 : decode cX4_times 0 = .ok (.iload_n 1, 1) := by decide +kernel
theorem dX4_times_1 : decode cX4_times 1 = .ok (.iload_n 2, 1) := by decide +kernel
theorem dX4_times_2 : decode cX4_times 2 = .ok (.imul, 1) := by decide +kernel
theorem dX4_times_3 : decode cX4_times 3 = .ok (.aload_n 0, 1) := by decide +kernel
theorem dX4_times_4 : decode cX4_times 4 = .ok (.getfield 15, 3) := by decide +kernel
theorem dX4_times_7 : decode cX4_times 7 = .ok (.irem, 1) := by decide +kernel
theorem dX4_times_8 : decode cX4_times 8 = .ok (.ireturn, 1) := by decide +kernel
theorem dX4_plus_0 : decode cX4_plus 0 = .ok (.iload_n 1, 1) := by decide +kernel
theorem dX4_plus_1 : decode cX4_plus 1 = .ok (.iload_n 2, 1) := by decide +kernel
theorem dX4_plus_2 : decode cX4_plus 2 = .ok (.iadd, 1) := by decide +kernel
theorem dX4_plus_3 : decode cX4_plus 3 = .ok (.aload_n 0, 1) := by decide +kernel
theorem dX4_plus_4 : decode cX4_plus 4 = .ok (.getfield 15, 3) := by decide +kernel
theorem dX4_plus_7 : decode cX4_plus 7 = .ok (.irem, 1) := by decide +kernel
theorem dX4_plus_8 : decode cX4_plus 8 = .ok (.ireturn, 1) := by decide +kernel
theorem dX4_less_0 : decode cX4_less 0 = .ok (.iload_n 1, 1) := by decide +kernel
theorem dX4_less_1 : decode cX4_less 1 = .ok (.aload_n 0, 1) := by decide +kernel
theorem dX4_less_2 : decode cX4_less 2 = .ok (.getfield 15, 3) := by decide +kernel
theorem dX4_less_5 : decode cX4_less 5 = .ok (.iadd, 1) := by decide +kernel
theorem dX4_less_6 : decode cX4_less 6 = .ok (.iload_n 2, 1) := by decide +kernel
theorem dX4_less_7 : decode cX4_less 7 = .ok (.isub, 1) := by decide +kernel
theorem dX4_less_8 : decode cX4_less 8 = .ok (.aload_n 0, 1) := by decide +kernel
theorem dX4_less_9 : decode cX4_less 9 = .ok (.getfield 15, 3) := by decide +kernel
theorem dX4_less_12 : decode cX4_less 12 = .ok (.irem, 1) := by decide +kernel
theorem dX4_less_13 : decode cX4_less 13 = .ok (.ireturn, 1) := by decide +kernel
theorem dX4_over_0 : decode cX4_over 0 = .ok (.iload_n 2, 1) := by decide +kernel
theorem dX4_over_1 : decode cX4_over 1 = .ok (.ifCond .le 36, 3) := by decide +kernel
theorem dX4_over_4 : decode cX4_over 4 = .ok (.iload_n 2, 1) := by decide +kernel
theorem dX4_over_5 : decode cX4_over 5 = .ok (.aload_n 0, 1) := by decide +kernel
theorem dX4_over_6 : decode cX4_over 6 = .ok (.getfield 15, 3) := by decide +kernel
theorem dX4_over_9 : decode cX4_over 9 = .ok (.if_icmp .ge 28, 3) := by decide +kernel
theorem dX4_over_12 : decode cX4_over 12 = .ok (.iload_n 2, 1) := by decide +kernel
theorem dX4_over_13 : decode cX4_over 13 = .ok (.aload_n 0, 1) := by decide +kernel
theorem dX4_over_14 : decode cX4_over 14 = .ok (.getfield 9, 3) := by decide +kernel
theorem dX4_over_17 : decode cX4_over 17 = .ok (.arraylength, 1) := by decide +kernel
theorem dX4_over_18 : decode cX4_over 18 = .ok (.if_icmp .ge 19, 3) := by decide +kernel
theorem dX4_over_21 : decode cX4_over 21 = .ok (.iload_n 1, 1) := by decide +kernel
theorem dX4_over_22 : decode cX4_over 22 = .ok (.aload_n 0, 1) := by decide +kernel
theorem dX4_over_23 : decode cX4_over 23 = .ok (.getfield 9, 3) := by decide +kernel
theorem dX4_over_26 : decode cX4_over 26 = .ok (.iload_n 2, 1) := by decide +kernel
theorem dX4_over_27 : decode cX4_over 27 = .ok (.iaload, 1) := by decide +kernel
theorem dX4_over_28 : decode cX4_over 28 = .ok (.imul, 1) := by decide +kernel
theorem dX4_over_29 : decode cX4_over 29 = .ok (.aload_n 0, 1) := by decide +kernel
theorem dX4_over_30 : decode cX4_over 30 = .ok (.getfield 15, 3) := by decide +kernel
theorem dX4_over_33 : decode cX4_over 33 = .ok (.irem, 1) := by decide +kernel
theorem dX4_over_34 : decode cX4_over 34 = .ok (.goto 4, 3) := by decide +kernel
theorem dX4_over_37 : decode cX4_over 37 = .ok (.iconst 0, 1) := by decide +kernel
theorem dX4_over_38 : decode cX4_over 38 = .ok (.ireturn, 1) := by decide +kernel
theorem dX4_power_0 : decode cX4_power 0 = .ok (.iconst 1, 1) := by decide +kernel
theorem dX4_power_1 : decode cX4_power 1 = .ok (.istore_n 3, 1) := by decide +kernel
theorem dX4_power_2 : decode cX4_power 2 = .ok (.iconst 0, 1) := by decide +kernel
theorem dX4_power_3 : decode cX4_power 3 = .ok (.istore 4, 2) := by decide +kernel
theorem dX4_power_5 : decode cX4_power 5 = .ok (.iload 4, 2) := by decide +kernel
theorem dX4_power_7 : decode cX4_power 7 = .ok (.iload_n 2, 1) := by decide +kernel
theorem dX4_power_8 : decode cX4_power 8 = .ok (.if_icmp .ge 18, 3) := by decide +kernel
theorem dX4_power_11 : decode cX4_power 11 = .ok (.iload_n 3, 1) := by decide +kernel
theorem dX4_power_12 : decode cX4_power 12 = .ok (.iload_n 1, 1) := by decide +kernel
theorem dX4_power_13 : decode cX4_power 13 = .ok (.imul, 1) := by decide +kernel
theorem dX4_power_14 : decode cX4_power 14 = .ok (.aload_n 0, 1) := by decide +kernel
theorem dX4_power_15 : decode cX4_power 15 = .ok (.getfield 15, 3) := by decide +kernel
theorem dX4_power_18 : decode cX4_power 18 = .ok (.irem, 1) := by decide +kernel
theorem dX4_power_19 : decode cX4_power 19 = .ok (.istore_n 3, 1) := by decide +kernel
theorem dX4_power_20 : decode cX4_power 20 = .ok (.iinc 4 1, 3) := by decide +kernel
theorem dX4_power_23 : decode cX4_power 23 = .ok (.goto (-18), 3) := by decide +kernel
theorem dX4_power_26 : decode cX4_power 26 = .ok (.iload_n 3, 1) := by decide +kernel
theorem dX4_power_27 : decode cX4_power 27 = .ok (.ireturn, 1) := by decide +kernel
end
section
set_option maxRecDepth 20000 in
theorem ggX5_init_X6_init : GoodIn wsX5_init wsX6_init := goodIn_r _ [21, 22, 2, 3, 4, 23, 24, 25, 26, 27, 28, 29, 30, 50, 51, 52, 53, 54, 55, 56, 57] (by decide +kernel) (by decide +kernel)
set_option maxRecDepth 20000 in
theorem gX5_init_X6_init : GoodIn wsX5_init (wsX6_init) := ggX5_init_X6_init
set_option maxRecDepth 20000 in
theorem ggX5_init_X1_init : GoodIn wsX5_init wsX1_init := goodIn_r _ [33, 34, 2, 3, 4, 35, 36, 37, 38, 39, 40, 41, 58, 59, 60, 61, 62, 63, 64] (by decide +kernel) (by decide +kernel)
set_option maxRecDepth 20000 in
theorem gX5_init_X1_init : GoodIn wsX5_init (wsX1_init) := ggX5_init_X1_init
theorem dX5_init_0 : decode cX5_init 0 = .ok (.aload_n 0, 1) := by decide +kernel
theorem dX5_init_1 : decode cX5_init 1 = .ok (.invokespecial 3, 3) := by decide +kernel
theorem dX5_init_4 : decode cX5_init 4 = .ok (.aload_n 0, 1) := by decide +kernel
theorem dX5_init_5 : decode cX5_init 5 = .ok (.bipush 9, 2) := by decide +kernel
theorem dX5_init_7 : decode cX5_init 7 = .ok (.newarray .int, 2) := by decide +kernel
theorem dX5_init_9 : decode cX5_init 9 = .ok (.putfield 11, 3) := by decide +kernel
theorem dX5_init_12 : decode cX5_init 12 = .ok (.aload_n 0, 1) := by decide +kernel
theorem dX5_init_13 : decode cX5_init 13 = .ok (.iconst 4, 1) := by decide +kernel
theorem dX5_init_14 : decode cX5_init 14 = .ok (.newarray .int, 2) := by decide +kernel
theorem dX5_init_16 : decode cX5_init 16 = .ok (.putfield 15, 3) := by decide +kernel
theorem dX5_init_19 : decode cX5_init 19 = .ok (.aload_n 0, 1) := by decide +kernel
theorem dX5_init_20 : decode cX5_init 20 = .ok (.bipush 12, 2) := by decide +kernel
theorem dX5_init_22 : decode cX5_init 22 = .ok (.newarray .int, 2) := by decide +kernel
theorem dX5_init_24 : decode cX5_init 24 = .ok (.putfield 18, 3) := by decide +kernel
theorem dX5_init_27 : decode cX5_init 27 = .ok (.aload_n 0, 1) := by decide +kernel
theorem dX5_init_28 : decode cX5_init 28 = .ok (.iconst 5, 1) := by decide +kernel
theorem dX5_init_29 : decode cX5_init 29 = .ok (.newarray .int, 2) := by decide +kernel
theorem dX5_init_31 : decode cX5_init 31 = .ok (.putfield 21, 3) := by decide +kernel
theorem dX5_init_34 : decode cX5_init 34 = .ok (.aload_n 0, 1) := by decide +kernel
theorem dX5_init_35 : decode cX5_init 35 = .ok (.iconst 0, 1) := by decide +kernel
theorem dX5_init_36 : decode cX5_init 36 = .ok (.putfield 24, 3) := by decide +kernel
theorem dX5_init_39 : decode cX5_init 39 = .ok (.aload_n 0, 1) := by decide +kernel
theorem dX5_init_40 : decode cX5_init 40 = .ok (.aload_n 1, 1) := by decide +kernel
theorem dX5_init_41 : decode cX5_init 41 = .ok (.putfield 28, 3) := by decide +kernel
theorem dX5_init_44 : decode cX5_init 44 = .ok (.aload_n 0, 1) := by decide +kernel
theorem dX5_init_45 : decode cX5_init 45 = .ok (.new 32, 3) := by decide +kernel
theorem dX5_init_48 : decode cX5_init 48 = .ok (.dup, 1) := by decide +kernel
theorem dX5_init_49 : decode cX5_init 49 = .ok (.aload_n 1, 1) := by decide +kernel
theorem dX5_init_50 : decode cX5_init 50 = .ok (.invokespecial 34, 3) := by decide +kernel
theorem dX5_init_53 : decode cX5_init 53 = .ok (.putfield 37, 3) := by decide +kernel
theorem dX5_init_56 : decode cX5_init 56 = .ok (.aload_n 0, 1) := by decide +kernel
theorem dX5_init_57 : decode cX5_init 57 = .ok (.new 41, 3) := by decide +kernel
theorem dX5_init_60 : decode cX5_init 60 = .ok (.dup, 1) := by decide +kernel
theorem dX5_init_61 : decode cX5_init 61 = .ok (.aload_n 1, 1) := by decide +kernel
theorem dX5_init_62 : decode cX5_init 62 = .ok (.aload_n 2, 1) := by decide +kernel
theorem dX5_init_63 : decode cX5_init 63 = .ok (.invokespecial 43, 3) := by decide +kernel
theorem dX5_init_66 : decode cX5_init 66 = .ok (.putfield 46, 3) := by decide +kernel
theorem dX5_init_69 : decode cX5_init 69 = .ok (.return_, 1) := by decide +kernel
set_option maxRecDepth 20000 in
theorem ggX5_recover_X1_drop : GoodIn wsX5_recover wsX1_drop := goodIn_r _ [10, 11, 171, 172, 173, 174, 175, 176, 177] (by decide +kernel) (by decide +kernel)
set_option maxRecDepth 20000 in
theorem gX5_recover_X1_drop : GoodIn wsX5_recover (wsV RX5 50 RX1 yX1_drop wsX1_drop) := goodIn_app (goodIn_of _ (by decide +kernel)) ggX5_recover_X1_drop
set_option maxRecDepth 20000 in
theorem ggX5_recover_X5_askPowers : GoodIn wsX5_recover wsX5_askPowers := goodIn_r _ [16, 3, 17, 18, 19, 20, 9, 21, 11, 22, 23, 24, 25, 26, 27, 28, 29, 30, 31, 32, 33, 34, 35, 36, 37, 38, 39, 40, 41, 42, 43, 44, 45, 46, 47, 48, 49, 50, 51, 52, 53, 54, 55, 56, 57, 58, 59, 60, 61, 62, 63, 64, 65, 155, 156, 157, 158, 159, 160, 161, 162, 171, 172, 173, 174, 175, 176, 177, 178, 179, 180, 181, 182] (by decide +kernel) (by decide +kernel)
set_option maxRecDepth 20000 in
theorem gX5_recover_X5_askPowers : GoodIn wsX5_recover (wsV RX5 53 RX5 yX5_askPowers wsX5_askPowers) := goodIn_app (goodIn_of _ (by decide +kernel)) ggX5_recover_X5_askPowers
set_option maxRecDepth 20000 in
theorem ggX5_recover_X6_read : GoodIn wsX5_recover wsX6_read := goodIn_r _ [70, 71, 72, 73, 69, 74, 75, 76, 77, 78, 79, 80, 81, 82, 83, 84, 85, 86, 87, 88, 89, 90, 91, 92, 93, 94, 95, 96, 97, 53, 98, 55, 99, 100, 101, 102, 103, 163, 164, 165, 166, 167, 168, 169, 170, 178, 179] (by decide +kernel) (by decide +kernel)
set_option maxRecDepth 20000 in
theorem gX5_recover_X6_read : GoodIn wsX5_recover (wsV RX5 57 RX6 yX6_read wsX6_read) := goodIn_app (goodIn_of _ (by decide +kernel)) ggX5_recover_X6_read
set_option maxRecDepth 20000 in
theorem ggX5_recover_X5_findKeys : GoodIn wsX5_recover wsX5_findKeys := goodIn_r _ [107, 4, 17, 2, 108, 109, 110, 15, 111, 65, 61, 62, 53, 63, 55, 112, 113, 114, 69, 115, 75, 85, 116, 117, 118, 119, 120, 121, 122, 123, 124, 125, 5, 155, 156, 157, 158, 159, 160, 161, 162, 163, 164, 165, 166, 167, 168, 169, 170, 178, 179] (by decide +kernel) (by decide +kernel)
set_option maxRecDepth 20000 in
theorem gX5_recover_X5_findKeys : GoodIn wsX5_recover (wsV RX5 64 RX5 yX5_findKeys wsX5_findKeys) := goodIn_app (goodIn_of _ (by decide +kernel)) ggX5_recover_X5_findKeys
set_option maxRecDepth 20000 in
theorem ggX5_recover_X5_keysDiffer : GoodIn wsX5_recover wsX5_keysDiffer := goodIn_r _ [129, 4, 125, 155, 156, 157, 158, 159, 160, 161, 162] (by decide +kernel) (by decide +kernel)
set_option maxRecDepth 20000 in
theorem gX5_recover_X5_keysDiffer : GoodIn wsX5_recover (wsV RX5 68 RX5 yX5_keysDiffer wsX5_keysDiffer) := goodIn_app (goodIn_of _ (by decide +kernel)) ggX5_recover_X5_keysDiffer
set_option maxRecDepth 20000 in
theorem ggX5_recover_X5_coefficient : GoodIn wsX5_recover wsX5_coefficient := goodIn_r _ [133, 4, 134, 3, 17, 125, 135, 136, 137, 15, 138, 139, 140, 141, 142, 65, 61, 62, 53, 63, 55, 120, 117, 118, 119, 143, 51, 52, 54, 144, 96, 97, 98, 99, 155, 156, 157, 158, 159, 160, 161, 162, 178, 179] (by decide +kernel) (by decide +kernel)
set_option maxRecDepth 20000 in
theorem gX5_recover_X5_coefficient : GoodIn wsX5_recover (wsV RX5 71 RX5 yX5_coefficient wsX5_coefficient) := goodIn_app (goodIn_of _ (by decide +kernel)) ggX5_recover_X5_coefficient
set_option maxRecDepth 20000 in
theorem ggX5_recover_X1_add : GoodIn wsX5_recover wsX1_add := goodIn_r _ [148, 11, 33, 171, 172, 173, 174, 175, 176, 177] (by decide +kernel) (by decide +kernel)
set_option maxRecDepth 20000 in
theorem gX5_recover_X1_add : GoodIn wsX5_recover (wsV RX5 75 RX1 yX1_add wsX1_add) := goodIn_app (goodIn_of _ (by decide +kernel)) ggX5_recover_X1_add
set_option maxRecDepth 20000 in
theorem ggX5_recover_X5_lastAnswerFits : GoodIn wsX5_recover wsX5_lastAnswerFits := goodIn_r _ [152, 4, 17, 1, 125, 3, 153, 30, 31, 9, 32, 33, 154, 57, 58, 53, 59, 55, 65, 61, 62, 63, 155, 156, 157, 158, 159, 160, 161, 162, 178, 179, 171, 172, 173, 174, 175, 176, 177] (by decide +kernel) (by decide +kernel)
set_option maxRecDepth 20000 in
theorem gX5_recover_X5_lastAnswerFits : GoodIn wsX5_recover (wsV RX5 79 RX5 yX5_lastAnswerFits wsX5_lastAnswerFits) := goodIn_app (goodIn_of _ (by decide +kernel)) ggX5_recover_X5_lastAnswerFits
theorem dX5_recover_0 : decode cX5_recover 0 = .ok (.aload_n 0, 1) := by decide +kernel
theorem dX5_recover_1 : decode cX5_recover 1 = .ok (.getfield 46, 3) := by decide +kernel
theorem dX5_recover_4 : decode cX5_recover 4 = .ok (.invokevirtual 50, 3) := by decide +kernel
theorem dX5_recover_7 : decode cX5_recover 7 = .ok (.aload_n 0, 1) := by decide +kernel
theorem dX5_recover_8 : decode cX5_recover 8 = .ok (.aload_n 1, 1) := by decide +kernel
theorem dX5_recover_9 : decode cX5_recover 9 = .ok (.invokevirtual 53, 3) := by decide +kernel
theorem dX5_recover_12 : decode cX5_recover 12 = .ok (.aload_n 0, 1) := by decide +kernel
theorem dX5_recover_13 : decode cX5_recover 13 = .ok (.getfield 37, 3) := by decide +kernel
theorem dX5_recover_16 : decode cX5_recover 16 = .ok (.aload_n 0, 1) := by decide +kernel
theorem dX5_recover_17 : decode cX5_recover 17 = .ok (.getfield 11, 3) := by decide +kernel
theorem dX5_recover_20 : decode cX5_recover 20 = .ok (.bipush 8, 2) := by decide +kernel
theorem dX5_recover_22 : decode cX5_recover 22 = .ok (.invokevirtual 57, 3) := by decide +kernel
theorem dX5_recover_25 : decode cX5_recover 25 = .ok (.aload_n 0, 1) := by decide +kernel
theorem dX5_recover_26 : decode cX5_recover 26 = .ok (.getfield 37, 3) := by decide +kernel
theorem dX5_recover_29 : decode cX5_recover 29 = .ok (.getfield 61, 3) := by decide +kernel
theorem dX5_recover_32 : decode cX5_recover 32 = .ok (.iconst 4, 1) := by decide +kernel
theorem dX5_recover_33 : decode cX5_recover 33 = .ok (.if_icmp .gt 17, 3) := by decide +kernel
theorem dX5_recover_36 : decode cX5_recover 36 = .ok (.aload_n 0, 1) := by decide +kernel
theorem dX5_recover_37 : decode cX5_recover 37 = .ok (.invokevirtual 64, 3) := by decide +kernel
theorem dX5_recover_40 : decode cX5_recover 40 = .ok (.ifCond .eq 10, 3) := by decide +kernel
theorem dX5_recover_43 : decode cX5_recover 43 = .ok (.aload_n 0, 1) := by decide +kernel
theorem dX5_recover_44 : decode cX5_recover 44 = .ok (.invokevirtual 68, 3) := by decide +kernel
theorem dX5_recover_47 : decode cX5_recover 47 = .ok (.ifCond .ne 5, 3) := by decide +kernel
theorem dX5_recover_50 : decode cX5_recover 50 = .ok (.iconst 0, 1) := by decide +kernel
theorem dX5_recover_51 : decode cX5_recover 51 = .ok (.ireturn, 1) := by decide +kernel
theorem dX5_recover_52 : decode cX5_recover 52 = .ok (.iconst 0, 1) := by decide +kernel
theorem dX5_recover_53 : decode cX5_recover 53 = .ok (.istore_n 2, 1) := by decide +kernel
theorem dX5_recover_54 : decode cX5_recover 54 = .ok (.iload_n 2, 1) := by decide +kernel
theorem dX5_recover_55 : decode cX5_recover 55 = .ok (.aload_n 0, 1) := by decide +kernel
theorem dX5_recover_56 : decode cX5_recover 56 = .ok (.getfield 24, 3) := by decide +kernel
theorem dX5_recover_59 : decode cX5_recover 59 = .ok (.if_icmp .ge 48, 3) := by decide +kernel
theorem dX5_recover_62 : decode cX5_recover 62 = .ok (.iload_n 2, 1) := by decide +kernel
theorem dX5_recover_63 : decode cX5_recover 63 = .ok (.iconst 3, 1) := by decide +kernel
theorem dX5_recover_64 : decode cX5_recover 64 = .ok (.imul, 1) := by decide +kernel
theorem dX5_recover_65 : decode cX5_recover 65 = .ok (.istore_n 3, 1) := by decide +kernel
theorem dX5_recover_66 : decode cX5_recover 66 = .ok (.aload_n 0, 1) := by decide +kernel
theorem dX5_recover_67 : decode cX5_recover 67 = .ok (.getfield 46, 3) := by decide +kernel
theorem dX5_recover_70 : decode cX5_recover 70 = .ok (.aload_n 0, 1) := by decide +kernel
theorem dX5_recover_71 : decode cX5_recover 71 = .ok (.iload_n 2, 1) := by decide +kernel
theorem dX5_recover_72 : decode cX5_recover 72 = .ok (.invokevirtual 71, 3) := by decide +kernel
theorem dX5_recover_75 : decode cX5_recover 75 = .ok (.aload_n 0, 1) := by decide +kernel
theorem dX5_recover_76 : decode cX5_recover 76 = .ok (.getfield 18, 3) := by decide +kernel
theorem dX5_recover_79 : decode cX5_recover 79 = .ok (.iload_n 3, 1) := by decide +kernel
theorem dX5_recover_80 : decode cX5_recover 80 = .ok (.iaload, 1) := by decide +kernel
theorem dX5_recover_81 : decode cX5_recover 81 = .ok (.aload_n 0, 1) := by decide +kernel
theorem dX5_recover_82 : decode cX5_recover 82 = .ok (.getfield 18, 3) := by decide +kernel
theorem dX5_recover_85 : decode cX5_recover 85 = .ok (.iload_n 3, 1) := by decide +kernel
theorem dX5_recover_86 : decode cX5_recover 86 = .ok (.iconst 1, 1) := by decide +kernel
theorem dX5_recover_87 : decode cX5_recover 87 = .ok (.iadd, 1) := by decide +kernel
theorem dX5_recover_88 : decode cX5_recover 88 = .ok (.iaload, 1) := by decide +kernel
theorem dX5_recover_89 : decode cX5_recover 89 = .ok (.aload_n 0, 1) := by decide +kernel
theorem dX5_recover_90 : decode cX5_recover 90 = .ok (.getfield 18, 3) := by decide +kernel
theorem dX5_recover_93 : decode cX5_recover 93 = .ok (.iload_n 3, 1) := by decide +kernel
theorem dX5_recover_94 : decode cX5_recover 94 = .ok (.iconst 2, 1) := by decide +kernel
theorem dX5_recover_95 : decode cX5_recover 95 = .ok (.iadd, 1) := by decide +kernel
theorem dX5_recover_96 : decode cX5_recover 96 = .ok (.iaload, 1) := by decide +kernel
theorem dX5_recover_97 : decode cX5_recover 97 = .ok (.invokevirtual 75, 3) := by decide +kernel
theorem dX5_recover_100 : decode cX5_recover 100 = .ok (.pop, 1) := by decide +kernel
theorem dX5_recover_101 : decode cX5_recover 101 = .ok (.iinc 2 1, 3) := by decide +kernel
theorem dX5_recover_104 : decode cX5_recover 104 = .ok (.goto (-50), 3) := by decide +kernel
theorem dX5_recover_107 : decode cX5_recover 107 = .ok (.aload_n 0, 1) := by decide +kernel
theorem dX5_recover_108 : decode cX5_recover 108 = .ok (.invokevirtual 79, 3) := by decide +kernel
theorem dX5_recover_111 : decode cX5_recover 111 = .ok (.ireturn, 1) := by decide +kernel
set_option maxRecDepth 20000 in
theorem ggX5_askPowers_X1_answer : GoodIn wsX5_askPowers wsX1_answer := goodIn_r _ [7, 8, 9, 10, 11, 12, 13, 14, 6, 15, 16, 17, 18, 19, 20, 21, 22, 23, 24, 25, 26, 27, 28, 29, 30, 31, 32, 33, 34, 35, 36, 37, 38, 39, 40, 41, 42, 43, 44, 45, 46, 47, 48, 49, 50, 51, 61, 62, 63, 64, 65, 66, 67, 68, 69, 70, 71, 72] (by decide +kernel) (by decide +kernel)
set_option maxRecDepth 20000 in
theorem gX5_askPowers_X1_answer : GoodIn wsX5_askPowers (wsV RX5 82 RX1 yX1_answer wsX1_answer) := goodIn_app (goodIn_of _ (by decide +kernel)) ggX5_askPowers_X1_answer
set_option maxRecDepth 20000 in
theorem ggX5_askPowers_X4_times : GoodIn wsX5_askPowers wsX4_times := goodIn_r _ [50, 42, 68, 69] (by decide +kernel) (by decide +kernel)
set_option maxRecDepth 20000 in
theorem gX5_askPowers_X4_times : GoodIn wsX5_askPowers (wsV RX5 86 RX4 yX4_times wsX4_times) := goodIn_app (goodIn_of _ (by decide +kernel)) ggX5_askPowers_X4_times
theorem dX5_askPowers_0 : decode cX5_askPowers 0 = .ok (.iconst 1, 1) := by decide +kernel
theorem dX5_askPowers_1 : decode cX5_askPowers 1 = .ok (.istore_n 2, 1) := by decide +kernel
theorem dX5_askPowers_2 : decode cX5_askPowers 2 = .ok (.iconst 1, 1) := by decide +kernel
theorem dX5_askPowers_3 : decode cX5_askPowers 3 = .ok (.istore_n 3, 1) := by decide +kernel
theorem dX5_askPowers_4 : decode cX5_askPowers 4 = .ok (.iconst 1, 1) := by decide +kernel
theorem dX5_askPowers_5 : decode cX5_askPowers 5 = .ok (.istore 4, 2) := by decide +kernel
theorem dX5_askPowers_7 : decode cX5_askPowers 7 = .ok (.iconst 0, 1) := by decide +kernel
theorem dX5_askPowers_8 : decode cX5_askPowers 8 = .ok (.istore 5, 2) := by decide +kernel
theorem dX5_askPowers_10 : decode cX5_askPowers 10 = .ok (.iload 5, 2) := by decide +kernel
theorem dX5_askPowers_12 : decode cX5_askPowers 12 = .ok (.aload_n 0, 1) := by decide +kernel
theorem dX5_askPowers_13 : decode cX5_askPowers 13 = .ok (.getfield 11, 3) := by decide +kernel
theorem dX5_askPowers_16 : decode cX5_askPowers 16 = .ok (.arraylength, 1) := by decide +kernel
theorem dX5_askPowers_17 : decode cX5_askPowers 17 = .ok (.if_icmp .ge 56, 3) := by decide +kernel
theorem dX5_askPowers_20 : decode cX5_askPowers 20 = .ok (.aload_n 0, 1) := by decide +kernel
theorem dX5_askPowers_21 : decode cX5_askPowers 21 = .ok (.getfield 11, 3) := by decide +kernel
theorem dX5_askPowers_24 : decode cX5_askPowers 24 = .ok (.iload 5, 2) := by decide +kernel
theorem dX5_askPowers_26 : decode cX5_askPowers 26 = .ok (.aload_n 1, 1) := by decide +kernel
theorem dX5_askPowers_27 : decode cX5_askPowers 27 = .ok (.iload_n 2, 1) := by decide +kernel
theorem dX5_askPowers_28 : decode cX5_askPowers 28 = .ok (.iload_n 3, 1) := by decide +kernel
theorem dX5_askPowers_29 : decode cX5_askPowers 29 = .ok (.iload 4, 2) := by decide +kernel
theorem dX5_askPowers_31 : decode cX5_askPowers 31 = .ok (.invokevirtual 82, 3) := by decide +kernel
theorem dX5_askPowers_34 : decode cX5_askPowers 34 = .ok (.iastore, 1) := by decide +kernel
theorem dX5_askPowers_35 : decode cX5_askPowers 35 = .ok (.aload_n 0, 1) := by decide +kernel
theorem dX5_askPowers_36 : decode cX5_askPowers 36 = .ok (.getfield 28, 3) := by decide +kernel
theorem dX5_askPowers_39 : decode cX5_askPowers 39 = .ok (.iload_n 2, 1) := by decide +kernel
theorem dX5_askPowers_40 : decode cX5_askPowers 40 = .ok (.iconst 2, 1) := by decide +kernel
theorem dX5_askPowers_41 : decode cX5_askPowers 41 = .ok (.invokevirtual 86, 3) := by decide +kernel
theorem dX5_askPowers_44 : decode cX5_askPowers 44 = .ok (.istore_n 2, 1) := by decide +kernel
theorem dX5_askPowers_45 : decode cX5_askPowers 45 = .ok (.aload_n 0, 1) := by decide +kernel
theorem dX5_askPowers_46 : decode cX5_askPowers 46 = .ok (.getfield 28, 3) := by decide +kernel
theorem dX5_askPowers_49 : decode cX5_askPowers 49 = .ok (.iload_n 3, 1) := by decide +kernel
theorem dX5_askPowers_50 : decode cX5_askPowers 50 = .ok (.iconst 3, 1) := by decide +kernel
theorem dX5_askPowers_51 : decode cX5_askPowers 51 = .ok (.invokevirtual 86, 3) := by decide +kernel
theorem dX5_askPowers_54 : decode cX5_askPowers 54 = .ok (.istore_n 3, 1) := by decide +kernel
theorem dX5_askPowers_55 : decode cX5_askPowers 55 = .ok (.aload_n 0, 1) := by decide +kernel
theorem dX5_askPowers_56 : decode cX5_askPowers 56 = .ok (.getfield 28, 3) := by decide +kernel
theorem dX5_askPowers_59 : decode cX5_askPowers 59 = .ok (.iload 4, 2) := by decide +kernel
theorem dX5_askPowers_61 : decode cX5_askPowers 61 = .ok (.iconst 5, 1) := by decide +kernel
theorem dX5_askPowers_62 : decode cX5_askPowers 62 = .ok (.invokevirtual 86, 3) := by decide +kernel
theorem dX5_askPowers_65 : decode cX5_askPowers 65 = .ok (.istore 4, 2) := by decide +kernel
theorem dX5_askPowers_67 : decode cX5_askPowers 67 = .ok (.iinc 5 1, 3) := by decide +kernel
theorem dX5_askPowers_70 : decode cX5_askPowers 70 = .ok (.goto (-60), 3) := by decide +kernel
theorem dX5_askPowers_73 : decode cX5_askPowers 73 = .ok (.return_, 1) := by decide +kernel
set_option maxRecDepth 20000 in
theorem ggX5_findKeys_X5_isRoot : GoodIn wsX5_findKeys wsX5_isRoot := goodIn_r _ [8, 3, 2, 9, 10, 11, 12, 13, 14, 15, 16, 17, 18, 19, 20, 21, 22, 23, 24, 25, 26, 33, 34, 35, 36, 37, 38, 39, 40, 41, 42, 43, 44, 45, 46, 47, 48, 49, 50] (by decide +kernel) (by decide +kernel)
set_option maxRecDepth 20000 in
theorem gX5_findKeys_X5_isRoot : GoodIn wsX5_findKeys (wsV RX5 92 RX5 yX5_isRoot wsX5_isRoot) := goodIn_app (goodIn_of _ (by decide +kernel)) ggX5_findKeys_X5_isRoot
set_option maxRecDepth 20000 in
theorem ggX5_findKeys_X5_addKey : GoodIn wsX5_findKeys wsX5_addKey := goodIn_r _ [30, 1, 3, 31, 32, 33, 34, 35, 36, 37, 38, 39, 40, 41, 42, 43, 44, 45, 46, 47, 48] (by decide +kernel) (by decide +kernel)
set_option maxRecDepth 20000 in
theorem gX5_findKeys_X5_addKey : GoodIn wsX5_findKeys (wsV RX5 96 RX5 yX5_addKey wsX5_addKey) := goodIn_app (goodIn_of _ (by decide +kernel)) ggX5_findKeys_X5_addKey
set_option maxRecDepth 20000 in
theorem ggX5_findKeys_X4_times : GoodIn wsX5_findKeys wsX4_times := goodIn_r _ [13, 14, 49, 50] (by decide +kernel) (by decide +kernel)
set_option maxRecDepth 20000 in
theorem gX5_findKeys_X4_times : GoodIn wsX5_findKeys (wsV RX5 86 RX4 yX4_times wsX4_times) := goodIn_app (goodIn_of _ (by decide +kernel)) ggX5_findKeys_X4_times
theorem dX5_findKeys_0 : decode cX5_findKeys 0 = .ok (.aload_n 0, 1) := by decide +kernel
theorem dX5_findKeys_1 : decode cX5_findKeys 1 = .ok (.iconst 0, 1) := by decide +kernel
theorem dX5_findKeys_2 : decode cX5_findKeys 2 = .ok (.putfield 24, 3) := by decide +kernel
theorem dX5_findKeys_5 : decode cX5_findKeys 5 = .ok (.iconst 1, 1) := by decide +kernel
theorem dX5_findKeys_6 : decode cX5_findKeys 6 = .ok (.istore_n 1, 1) := by decide +kernel
theorem dX5_findKeys_7 : decode cX5_findKeys 7 = .ok (.iconst 0, 1) := by decide +kernel
theorem dX5_findKeys_8 : decode cX5_findKeys 8 = .ok (.istore_n 2, 1) := by decide +kernel
theorem dX5_findKeys_9 : decode cX5_findKeys 9 = .ok (.iload_n 2, 1) := by decide +kernel
theorem dX5_findKeys_10 : decode cX5_findKeys 10 = .ok (.iconst 4, 1) := by decide +kernel
theorem dX5_findKeys_11 : decode cX5_findKeys 11 = .ok (.if_icmp .gt 101, 3) := by decide +kernel
theorem dX5_findKeys_14 : decode cX5_findKeys 14 = .ok (.iload_n 1, 1) := by decide +kernel
theorem dX5_findKeys_15 : decode cX5_findKeys 15 = .ok (.istore_n 3, 1) := by decide +kernel
theorem dX5_findKeys_16 : decode cX5_findKeys 16 = .ok (.iconst 0, 1) := by decide +kernel
theorem dX5_findKeys_17 : decode cX5_findKeys 17 = .ok (.istore 4, 2) := by decide +kernel
theorem dX5_findKeys_19 : decode cX5_findKeys 19 = .ok (.iload 4, 2) := by decide +kernel
theorem dX5_findKeys_21 : decode cX5_findKeys 21 = .ok (.iconst 4, 1) := by decide +kernel
theorem dX5_findKeys_22 : decode cX5_findKeys 22 = .ok (.if_icmp .gt 74, 3) := by decide +kernel
theorem dX5_findKeys_25 : decode cX5_findKeys 25 = .ok (.iload_n 3, 1) := by decide +kernel
theorem dX5_findKeys_26 : decode cX5_findKeys 26 = .ok (.istore 5, 2) := by decide +kernel
theorem dX5_findKeys_28 : decode cX5_findKeys 28 = .ok (.iconst 0, 1) := by decide +kernel
theorem dX5_findKeys_29 : decode cX5_findKeys 29 = .ok (.istore 6, 2) := by decide +kernel
theorem dX5_findKeys_31 : decode cX5_findKeys 31 = .ok (.iload 6, 2) := by decide +kernel
theorem dX5_findKeys_33 : decode cX5_findKeys 33 = .ok (.iconst 4, 1) := by decide +kernel
theorem dX5_findKeys_34 : decode cX5_findKeys 34 = .ok (.if_icmp .gt 46, 3) := by decide +kernel
theorem dX5_findKeys_37 : decode cX5_findKeys 37 = .ok (.aload_n 0, 1) := by decide +kernel
theorem dX5_findKeys_38 : decode cX5_findKeys 38 = .ok (.iload 5, 2) := by decide +kernel
theorem dX5_findKeys_40 : decode cX5_findKeys 40 = .ok (.invokevirtual 92, 3) := by decide +kernel
theorem dX5_findKeys_43 : decode cX5_findKeys 43 = .ok (.ifCond .eq 19, 3) := by decide +kernel
theorem dX5_findKeys_46 : decode cX5_findKeys 46 = .ok (.aload_n 0, 1) := by decide +kernel
theorem dX5_findKeys_47 : decode cX5_findKeys 47 = .ok (.iload 5, 2) := by decide +kernel
theorem dX5_findKeys_49 : decode cX5_findKeys 49 = .ok (.iload_n 2, 1) := by decide +kernel
theorem dX5_findKeys_50 : decode cX5_findKeys 50 = .ok (.iload 4, 2) := by decide +kernel
theorem dX5_findKeys_52 : decode cX5_findKeys 52 = .ok (.iload 6, 2) := by decide +kernel
theorem dX5_findKeys_54 : decode cX5_findKeys 54 = .ok (.invokevirtual 96, 3) := by decide +kernel
theorem dX5_findKeys_57 : decode cX5_findKeys 57 = .ok (.ifCond .ne 5, 3) := by decide +kernel
theorem dX5_findKeys_60 : decode cX5_findKeys 60 = .ok (.iconst 0, 1) := by decide +kernel
theorem dX5_findKeys_61 : decode cX5_findKeys 61 = .ok (.ireturn, 1) := by decide +kernel
theorem dX5_findKeys_62 : decode cX5_findKeys 62 = .ok (.aload_n 0, 1) := by decide +kernel
theorem dX5_findKeys_63 : decode cX5_findKeys 63 = .ok (.getfield 28, 3) := by decide +kernel
theorem dX5_findKeys_66 : decode cX5_findKeys 66 = .ok (.iload 5, 2) := by decide +kernel
theorem dX5_findKeys_68 : decode cX5_findKeys 68 = .ok (.iconst 5, 1) := by decide +kernel
theorem dX5_findKeys_69 : decode cX5_findKeys 69 = .ok (.invokevirtual 86, 3) := by decide +kernel
theorem dX5_findKeys_72 : decode cX5_findKeys 72 = .ok (.istore 5, 2) := by decide +kernel
theorem dX5_findKeys_74 : decode cX5_findKeys 74 = .ok (.iinc 6 1, 3) := by decide +kernel
theorem dX5_findKeys_77 : decode cX5_findKeys 77 = .ok (.goto (-46), 3) := by decide +kernel
theorem dX5_findKeys_80 : decode cX5_findKeys 80 = .ok (.aload_n 0, 1) := by decide +kernel
theorem dX5_findKeys_81 : decode cX5_findKeys 81 = .ok (.getfield 28, 3) := by decide +kernel
theorem dX5_findKeys_84 : decode cX5_findKeys 84 = .ok (.iload_n 3, 1) := by decide +kernel
theorem dX5_findKeys_85 : decode cX5_findKeys 85 = .ok (.iconst 3, 1) := by decide +kernel
theorem dX5_findKeys_86 : decode cX5_findKeys 86 = .ok (.invokevirtual 86, 3) := by decide +kernel
theorem dX5_findKeys_89 : decode cX5_findKeys 89 = .ok (.istore_n 3, 1) := by decide +kernel
theorem dX5_findKeys_90 : decode cX5_findKeys 90 = .ok (.iinc 4 1, 3) := by decide +kernel
theorem dX5_findKeys_93 : decode cX5_findKeys 93 = .ok (.goto (-74), 3) := by decide +kernel
theorem dX5_findKeys_96 : decode cX5_findKeys 96 = .ok (.aload_n 0, 1) := by decide +kernel
theorem dX5_findKeys_97 : decode cX5_findKeys 97 = .ok (.getfield 28, 3) := by decide +kernel
theorem dX5_findKeys_100 : decode cX5_findKeys 100 = .ok (.iload_n 1, 1) := by decide +kernel
theorem dX5_findKeys_101 : decode cX5_findKeys 101 = .ok (.iconst 2, 1) := by decide +kernel
theorem dX5_findKeys_102 : decode cX5_findKeys 102 = .ok (.invokevirtual 86, 3) := by decide +kernel
theorem dX5_findKeys_105 : decode cX5_findKeys 105 = .ok (.istore_n 1, 1) := by decide +kernel
theorem dX5_findKeys_106 : decode cX5_findKeys 106 = .ok (.iinc 2 1, 3) := by decide +kernel
theorem dX5_findKeys_109 : decode cX5_findKeys 109 = .ok (.goto (-100), 3) := by decide +kernel
theorem dX5_findKeys_112 : decode cX5_findKeys 112 = .ok (.aload_n 0, 1) := by decide +kernel
theorem dX5_findKeys_113 : decode cX5_findKeys 113 = .ok (.getfield 24, 3) := by decide +kernel
theorem dX5_findKeys_116 : decode cX5_findKeys 116 = .ok (.aload_n 0, 1) := by decide +kernel
theorem dX5_findKeys_117 : decode cX5_findKeys 117 = .ok (.getfield 37, 3) := by decide +kernel
theorem dX5_findKeys_120 : decode cX5_findKeys 120 = .ok (.getfield 61, 3) := by decide +kernel
theorem dX5_findKeys_123 : decode cX5_findKeys 123 = .ok (.if_icmp .ne 7, 3) := by decide +kernel
theorem dX5_findKeys_126 : decode cX5_findKeys 126 = .ok (.iconst 1, 1) := by decide +kernel
theorem dX5_findKeys_127 : decode cX5_findKeys 127 = .ok (.goto 4, 3) := by decide +kernel
theorem dX5_findKeys_130 : decode cX5_findKeys 130 = .ok (.iconst 0, 1) := by decide +kernel
theorem dX5_findKeys_131 : decode cX5_findKeys 131 = .ok (.ireturn, 1) := by decide +kernel
set_option maxRecDepth 20000 in
theorem ggX5_isRoot_X4_times : GoodIn wsX5_isRoot wsX4_times := goodIn_r _ [7, 8, 37, 38] (by decide +kernel) (by decide +kernel)
set_option maxRecDepth 20000 in
theorem gX5_isRoot_X4_times : GoodIn wsX5_isRoot (wsV RX5 86 RX4 yX4_times wsX4_times) := goodIn_app (goodIn_of _ (by decide +kernel)) ggX5_isRoot_X4_times
set_option maxRecDepth 20000 in
theorem ggX5_isRoot_X6_weight : GoodIn wsX5_isRoot wsX6_weight := goodIn_r _ [13, 14, 15, 16, 17, 18, 6, 19, 8, 29, 30, 31, 32, 33, 34, 35, 36, 37, 38] (by decide +kernel) (by decide +kernel)
set_option maxRecDepth 20000 in
theorem gX5_isRoot_X6_weight : GoodIn wsX5_isRoot (wsV RX5 99 RX6 yX6_weight wsX6_weight) := goodIn_app (goodIn_of _ (by decide +kernel)) ggX5_isRoot_X6_weight
set_option maxRecDepth 20000 in
theorem ggX5_isRoot_X4_less : GoodIn wsX5_isRoot wsX4_less := goodIn_r _ [19, 8, 37, 38] (by decide +kernel) (by decide +kernel)
set_option maxRecDepth 20000 in
theorem gX5_isRoot_X4_less : GoodIn wsX5_isRoot (wsV RX5 102 RX4 yX4_less wsX4_less) := goodIn_app (goodIn_of _ (by decide +kernel)) ggX5_isRoot_X4_less
theorem dX5_isRoot_0 : decode cX5_isRoot 0 = .ok (.iconst 1, 1) := by decide +kernel
theorem dX5_isRoot_1 : decode cX5_isRoot 1 = .ok (.istore_n 2, 1) := by decide +kernel
theorem dX5_isRoot_2 : decode cX5_isRoot 2 = .ok (.iconst 1, 1) := by decide +kernel
theorem dX5_isRoot_3 : decode cX5_isRoot 3 = .ok (.istore_n 3, 1) := by decide +kernel
theorem dX5_isRoot_4 : decode cX5_isRoot 4 = .ok (.iload_n 3, 1) := by decide +kernel
theorem dX5_isRoot_5 : decode cX5_isRoot 5 = .ok (.aload_n 0, 1) := by decide +kernel
theorem dX5_isRoot_6 : decode cX5_isRoot 6 = .ok (.getfield 37, 3) := by decide +kernel
theorem dX5_isRoot_9 : decode cX5_isRoot 9 = .ok (.getfield 61, 3) := by decide +kernel
theorem dX5_isRoot_12 : decode cX5_isRoot 12 = .ok (.if_icmp .gt 34, 3) := by decide +kernel
theorem dX5_isRoot_15 : decode cX5_isRoot 15 = .ok (.aload_n 0, 1) := by decide +kernel
theorem dX5_isRoot_16 : decode cX5_isRoot 16 = .ok (.getfield 28, 3) := by decide +kernel
theorem dX5_isRoot_19 : decode cX5_isRoot 19 = .ok (.aload_n 0, 1) := by decide +kernel
theorem dX5_isRoot_20 : decode cX5_isRoot 20 = .ok (.getfield 28, 3) := by decide +kernel
theorem dX5_isRoot_23 : decode cX5_isRoot 23 = .ok (.iload_n 2, 1) := by decide +kernel
theorem dX5_isRoot_24 : decode cX5_isRoot 24 = .ok (.iload_n 1, 1) := by decide +kernel
theorem dX5_isRoot_25 : decode cX5_isRoot 25 = .ok (.invokevirtual 86, 3) := by decide +kernel
theorem dX5_isRoot_28 : decode cX5_isRoot 28 = .ok (.aload_n 0, 1) := by decide +kernel
theorem dX5_isRoot_29 : decode cX5_isRoot 29 = .ok (.getfield 37, 3) := by decide +kernel
theorem dX5_isRoot_32 : decode cX5_isRoot 32 = .ok (.iload_n 3, 1) := by decide +kernel
theorem dX5_isRoot_33 : decode cX5_isRoot 33 = .ok (.invokevirtual 99, 3) := by decide +kernel
theorem dX5_isRoot_36 : decode cX5_isRoot 36 = .ok (.invokevirtual 102, 3) := by decide +kernel
theorem dX5_isRoot_39 : decode cX5_isRoot 39 = .ok (.istore_n 2, 1) := by decide +kernel
theorem dX5_isRoot_40 : decode cX5_isRoot 40 = .ok (.iinc 3 1, 3) := by decide +kernel
theorem dX5_isRoot_43 : decode cX5_isRoot 43 = .ok (.goto (-39), 3) := by decide +kernel
theorem dX5_isRoot_46 : decode cX5_isRoot 46 = .ok (.iload_n 2, 1) := by decide +kernel
theorem dX5_isRoot_47 : decode cX5_isRoot 47 = .ok (.ifCond .ne 7, 3) := by decide +kernel
theorem dX5_isRoot_50 : decode cX5_isRoot 50 = .ok (.iconst 1, 1) := by decide +kernel
theorem dX5_isRoot_51 : decode cX5_isRoot 51 = .ok (.goto 4, 3) := by decide +kernel
theorem dX5_isRoot_54 : decode cX5_isRoot 54 = .ok (.iconst 0, 1) := by decide +kernel
theorem dX5_isRoot_55 : decode cX5_isRoot 55 = .ok (.ireturn, 1) := by decide +kernel
theorem dX5_addKey_0 : decode cX5_addKey 0 = .ok (.aload_n 0, 1) := by decide +kernel
theorem dX5_addKey_1 : decode cX5_addKey 1 = .ok (.getfield 24, 3) := by decide +kernel
theorem dX5_addKey_4 : decode cX5_addKey 4 = .ok (.aload_n 0, 1) := by decide +kernel
theorem dX5_addKey_5 : decode cX5_addKey 5 = .ok (.getfield 37, 3) := by decide +kernel
theorem dX5_addKey_8 : decode cX5_addKey 8 = .ok (.getfield 61, 3) := by decide +kernel
theorem dX5_addKey_11 : decode cX5_addKey 11 = .ok (.if_icmp .ge 11, 3) := by decide +kernel
theorem dX5_addKey_14 : decode cX5_addKey 14 = .ok (.aload_n 0, 1) := by decide +kernel
theorem dX5_addKey_15 : decode cX5_addKey 15 = .ok (.getfield 24, 3) := by decide +kernel
theorem dX5_addKey_18 : decode cX5_addKey 18 = .ok (.iconst 4, 1) := by decide +kernel
theorem dX5_addKey_19 : decode cX5_addKey 19 = .ok (.if_icmp .lt 5, 3) := by decide +kernel
theorem dX5_addKey_22 : decode cX5_addKey 22 = .ok (.iconst 0, 1) := by decide +kernel
theorem dX5_addKey_23 : decode cX5_addKey 23 = .ok (.ireturn, 1) := by decide +kernel
theorem dX5_addKey_24 : decode cX5_addKey 24 = .ok (.aload_n 0, 1) := by decide +kernel
theorem dX5_addKey_25 : decode cX5_addKey 25 = .ok (.getfield 15, 3) := by decide +kernel
theorem dX5_addKey_28 : decode cX5_addKey 28 = .ok (.aload_n 0, 1) := by decide +kernel
theorem dX5_addKey_29 : decode cX5_addKey 29 = .ok (.getfield 24, 3) := by decide +kernel
theorem dX5_addKey_32 : decode cX5_addKey 32 = .ok (.iload_n 1, 1) := by decide +kernel
theorem dX5_addKey_33 : decode cX5_addKey 33 = .ok (.iastore, 1) := by decide +kernel
theorem dX5_addKey_34 : decode cX5_addKey 34 = .ok (.aload_n 0, 1) := by decide +kernel
theorem dX5_addKey_35 : decode cX5_addKey 35 = .ok (.getfield 18, 3) := by decide +kernel
theorem dX5_addKey_38 : decode cX5_addKey 38 = .ok (.aload_n 0, 1) := by decide +kernel
theorem dX5_addKey_39 : decode cX5_addKey 39 = .ok (.getfield 24, 3) := by decide +kernel
theorem dX5_addKey_42 : decode cX5_addKey 42 = .ok (.iconst 3, 1) := by decide +kernel
theorem dX5_addKey_43 : decode cX5_addKey 43 = .ok (.imul, 1) := by decide +kernel
theorem dX5_addKey_44 : decode cX5_addKey 44 = .ok (.iload_n 2, 1) := by decide +kernel
theorem dX5_addKey_45 : decode cX5_addKey 45 = .ok (.iastore, 1) := by decide +kernel
theorem dX5_addKey_46 : decode cX5_addKey 46 = .ok (.aload_n 0, 1) := by decide +kernel
theorem dX5_addKey_47 : decode cX5_addKey 47 = .ok (.getfield 18, 3) := by decide +kernel
theorem dX5_addKey_50 : decode cX5_addKey 50 = .ok (.aload_n 0, 1) := by decide +kernel
theorem dX5_addKey_51 : decode cX5_addKey 51 = .ok (.getfield 24, 3) := by decide +kernel
theorem dX5_addKey_54 : decode cX5_addKey 54 = .ok (.iconst 3, 1) := by decide +kernel
theorem dX5_addKey_55 : decode cX5_addKey 55 = .ok (.imul, 1) := by decide +kernel
theorem dX5_addKey_56 : decode cX5_addKey 56 = .ok (.iconst 1, 1) := by decide +kernel
theorem dX5_addKey_57 : decode cX5_addKey 57 = .ok (.iadd, 1) := by decide +kernel
theorem dX5_addKey_58 : decode cX5_addKey 58 = .ok (.iload_n 3, 1) := by decide +kernel
theorem dX5_addKey_59 : decode cX5_addKey 59 = .ok (.iastore, 1) := by decide +kernel
theorem dX5_addKey_60 : decode cX5_addKey 60 = .ok (.aload_n 0, 1) := by decide +kernel
theorem dX5_addKey_61 : decode cX5_addKey 61 = .ok (.getfield 18, 3) := by decide +kernel
theorem dX5_addKey_64 : decode cX5_addKey 64 = .ok (.aload_n 0, 1) := by decide +kernel
theorem dX5_addKey_65 : decode cX5_addKey 65 = .ok (.getfield 24, 3) := by decide +kernel
theorem dX5_addKey_68 : decode cX5_addKey 68 = .ok (.iconst 3, 1) := by decide +kernel
theorem dX5_addKey_69 : decode cX5_addKey 69 = .ok (.imul, 1) := by decide +kernel
theorem dX5_addKey_70 : decode cX5_addKey 70 = .ok (.iconst 2, 1) := by decide +kernel
theorem dX5_addKey_71 : decode cX5_addKey 71 = .ok (.iadd, 1) := by decide +kernel
theorem dX5_addKey_72 : decode cX5_addKey 72 = .ok (.iload 4, 2) := by decide +kernel
theorem dX5_addKey_74 : decode cX5_addKey 74 = .ok (.iastore, 1) := by decide +kernel
theorem dX5_addKey_75 : decode cX5_addKey 75 = .ok (.aload_n 0, 1) := by decide +kernel
theorem dX5_addKey_76 : decode cX5_addKey 76 = .ok (.dup, 1) := by decide +kernel
theorem dX5_addKey_77 : decode cX5_addKey 77 = .ok (.getfield 24, 3) := by decide +kernel
theorem dX5_addKey_80 : decode cX5_addKey 80 = .ok (.iconst 1, 1) := by decide +kernel
theorem dX5_addKey_81 : decode cX5_addKey 81 = .ok (.iadd, 1) := by decide +kernel
theorem dX5_addKey_82 : decode cX5_addKey 82 = .ok (.putfield 24, 3) := by decide +kernel
theorem dX5_addKey_85 : decode cX5_addKey 85 = .ok (.iconst 1, 1) := by decide +kernel
theorem dX5_addKey_86 : decode cX5_addKey 86 = .ok (.ireturn, 1) := by decide +kernel
theorem dX5_keysDiffer_0 : decode cX5_keysDiffer 0 = .ok (.iconst 0, 1) := by decide +kernel
theorem dX5_keysDiffer_1 : decode cX5_keysDiffer 1 = .ok (.istore_n 1, 1) := by decide +kernel
theorem dX5_keysDiffer_2 : decode cX5_keysDiffer 2 = .ok (.iload_n 1, 1) := by decide +kernel
theorem dX5_keysDiffer_3 : decode cX5_keysDiffer 3 = .ok (.aload_n 0, 1) := by decide +kernel
theorem dX5_keysDiffer_4 : decode cX5_keysDiffer 4 = .ok (.getfield 24, 3) := by decide +kernel
theorem dX5_keysDiffer_7 : decode cX5_keysDiffer 7 = .ok (.if_icmp .ge 39, 3) := by decide +kernel
theorem dX5_keysDiffer_10 : decode cX5_keysDiffer 10 = .ok (.iconst 0, 1) := by decide +kernel
theorem dX5_keysDiffer_11 : decode cX5_keysDiffer 11 = .ok (.istore_n 2, 1) := by decide +kernel
theorem dX5_keysDiffer_12 : decode cX5_keysDiffer 12 = .ok (.iload_n 2, 1) := by decide +kernel
theorem dX5_keysDiffer_13 : decode cX5_keysDiffer 13 = .ok (.iload_n 1, 1) := by decide +kernel
theorem dX5_keysDiffer_14 : decode cX5_keysDiffer 14 = .ok (.if_icmp .ge 26, 3) := by decide +kernel
theorem dX5_keysDiffer_17 : decode cX5_keysDiffer 17 = .ok (.aload_n 0, 1) := by decide +kernel
theorem dX5_keysDiffer_18 : decode cX5_keysDiffer 18 = .ok (.getfield 15, 3) := by decide +kernel
theorem dX5_keysDiffer_21 : decode cX5_keysDiffer 21 = .ok (.iload_n 1, 1) := by decide +kernel
theorem dX5_keysDiffer_22 : decode cX5_keysDiffer 22 = .ok (.iaload, 1) := by decide +kernel
theorem dX5_keysDiffer_23 : decode cX5_keysDiffer 23 = .ok (.aload_n 0, 1) := by decide +kernel
theorem dX5_keysDiffer_24 : decode cX5_keysDiffer 24 = .ok (.getfield 15, 3) := by decide +kernel
theorem dX5_keysDiffer_27 : decode cX5_keysDiffer 27 = .ok (.iload_n 2, 1) := by decide +kernel
theorem dX5_keysDiffer_28 : decode cX5_keysDiffer 28 = .ok (.iaload, 1) := by decide +kernel
theorem dX5_keysDiffer_29 : decode cX5_keysDiffer 29 = .ok (.if_icmp .ne 5, 3) := by decide +kernel
theorem dX5_keysDiffer_32 : decode cX5_keysDiffer 32 = .ok (.iconst 0, 1) := by decide +kernel
theorem dX5_keysDiffer_33 : decode cX5_keysDiffer 33 = .ok (.ireturn, 1) := by decide +kernel
theorem dX5_keysDiffer_34 : decode cX5_keysDiffer 34 = .ok (.iinc 2 1, 3) := by decide +kernel
theorem dX5_keysDiffer_37 : decode cX5_keysDiffer 37 = .ok (.goto (-25), 3) := by decide +kernel
theorem dX5_keysDiffer_40 : decode cX5_keysDiffer 40 = .ok (.iinc 1 1, 3) := by decide +kernel
theorem dX5_keysDiffer_43 : decode cX5_keysDiffer 43 = .ok (.goto (-41), 3) := by decide +kernel
theorem dX5_keysDiffer_46 : decode cX5_keysDiffer 46 = .ok (.iconst 1, 1) := by decide +kernel
theorem dX5_keysDiffer_47 : decode cX5_keysDiffer 47 = .ok (.ireturn, 1) := by decide +kernel
set_option maxRecDepth 20000 in
theorem ggX5_coefficient_X5_multiplyOthers : GoodIn wsX5_coefficient wsX5_multiplyOthers := goodIn_r _ [10, 2, 1, 5, 11, 12, 13, 9, 14, 4, 15, 16, 17, 18, 19, 20, 21, 22, 23, 24, 34, 35, 36, 37, 38, 39, 40, 41, 42, 43] (by decide +kernel) (by decide +kernel)
set_option maxRecDepth 20000 in
theorem gX5_coefficient_X5_multiplyOthers : GoodIn wsX5_coefficient (wsV RX5 105 RX5 yX5_multiplyOthers wsX5_multiplyOthers) := goodIn_app (goodIn_of _ (by decide +kernel)) ggX5_coefficient_X5_multiplyOthers
set_option maxRecDepth 20000 in
theorem ggX5_coefficient_X4_times : GoodIn wsX5_coefficient wsX4_times := goodIn_r _ [19, 20, 42, 43] (by decide +kernel) (by decide +kernel)
set_option maxRecDepth 20000 in
theorem gX5_coefficient_X4_times : GoodIn wsX5_coefficient (wsV RX5 86 RX4 yX4_times wsX4_times) := goodIn_app (goodIn_of _ (by decide +kernel)) ggX5_coefficient_X4_times
set_option maxRecDepth 20000 in
theorem ggX5_coefficient_X4_plus : GoodIn wsX5_coefficient wsX4_plus := goodIn_r _ [28, 20, 42, 43] (by decide +kernel) (by decide +kernel)
set_option maxRecDepth 20000 in
theorem gX5_coefficient_X4_plus : GoodIn wsX5_coefficient (wsV RX5 109 RX4 yX4_plus wsX4_plus) := goodIn_app (goodIn_of _ (by decide +kernel)) ggX5_coefficient_X4_plus
set_option maxRecDepth 20000 in
theorem ggX5_coefficient_X4_over : GoodIn wsX5_coefficient wsX4_over := goodIn_r _ [32, 20, 33, 42, 43] (by decide +kernel) (by decide +kernel)
set_option maxRecDepth 20000 in
theorem gX5_coefficient_X4_over : GoodIn wsX5_coefficient (wsV RX5 115 RX4 yX4_over wsX4_over) := goodIn_app (goodIn_of _ (by decide +kernel)) ggX5_coefficient_X4_over
theorem dX5_coefficient_0 : decode cX5_coefficient 0 = .ok (.aload_n 0, 1) := by decide +kernel
theorem dX5_coefficient_1 : decode cX5_coefficient 1 = .ok (.iload_n 1, 1) := by decide +kernel
theorem dX5_coefficient_2 : decode cX5_coefficient 2 = .ok (.invokevirtual 105, 3) := by decide +kernel
theorem dX5_coefficient_5 : decode cX5_coefficient 5 = .ok (.iconst 0, 1) := by decide +kernel
theorem dX5_coefficient_6 : decode cX5_coefficient 6 = .ok (.istore_n 2, 1) := by decide +kernel
theorem dX5_coefficient_7 : decode cX5_coefficient 7 = .ok (.iconst 0, 1) := by decide +kernel
theorem dX5_coefficient_8 : decode cX5_coefficient 8 = .ok (.istore_n 3, 1) := by decide +kernel
theorem dX5_coefficient_9 : decode cX5_coefficient 9 = .ok (.aload_n 0, 1) := by decide +kernel
theorem dX5_coefficient_10 : decode cX5_coefficient 10 = .ok (.getfield 24, 3) := by decide +kernel
theorem dX5_coefficient_13 : decode cX5_coefficient 13 = .ok (.iconst 1, 1) := by decide +kernel
theorem dX5_coefficient_14 : decode cX5_coefficient 14 = .ok (.isub, 1) := by decide +kernel
theorem dX5_coefficient_15 : decode cX5_coefficient 15 = .ok (.istore 4, 2) := by decide +kernel
theorem dX5_coefficient_17 : decode cX5_coefficient 17 = .ok (.iload 4, 2) := by decide +kernel
theorem dX5_coefficient_19 : decode cX5_coefficient 19 = .ok (.ifCond .lt 56, 3) := by decide +kernel
theorem dX5_coefficient_22 : decode cX5_coefficient 22 = .ok (.iload_n 2, 1) := by decide +kernel
theorem dX5_coefficient_23 : decode cX5_coefficient 23 = .ok (.aload_n 0, 1) := by decide +kernel
theorem dX5_coefficient_24 : decode cX5_coefficient 24 = .ok (.getfield 21, 3) := by decide +kernel
theorem dX5_coefficient_27 : decode cX5_coefficient 27 = .ok (.iload 4, 2) := by decide +kernel
theorem dX5_coefficient_29 : decode cX5_coefficient 29 = .ok (.iaload, 1) := by decide +kernel
theorem dX5_coefficient_30 : decode cX5_coefficient 30 = .ok (.aload_n 0, 1) := by decide +kernel
theorem dX5_coefficient_31 : decode cX5_coefficient 31 = .ok (.getfield 11, 3) := by decide +kernel
theorem dX5_coefficient_34 : decode cX5_coefficient 34 = .ok (.iload 4, 2) := by decide +kernel
theorem dX5_coefficient_36 : decode cX5_coefficient 36 = .ok (.iaload, 1) := by decide +kernel
theorem dX5_coefficient_37 : decode cX5_coefficient 37 = .ok (.imul, 1) := by decide +kernel
theorem dX5_coefficient_38 : decode cX5_coefficient 38 = .ok (.iadd, 1) := by decide +kernel
theorem dX5_coefficient_39 : decode cX5_coefficient 39 = .ok (.istore_n 2, 1) := by decide +kernel
theorem dX5_coefficient_40 : decode cX5_coefficient 40 = .ok (.aload_n 0, 1) := by decide +kernel
theorem dX5_coefficient_41 : decode cX5_coefficient 41 = .ok (.getfield 28, 3) := by decide +kernel
theorem dX5_coefficient_44 : decode cX5_coefficient 44 = .ok (.aload_n 0, 1) := by decide +kernel
theorem dX5_coefficient_45 : decode cX5_coefficient 45 = .ok (.getfield 28, 3) := by decide +kernel
theorem dX5_coefficient_48 : decode cX5_coefficient 48 = .ok (.iload_n 3, 1) := by decide +kernel
theorem dX5_coefficient_49 : decode cX5_coefficient 49 = .ok (.aload_n 0, 1) := by decide +kernel
theorem dX5_coefficient_50 : decode cX5_coefficient 50 = .ok (.getfield 15, 3) := by decide +kernel
theorem dX5_coefficient_53 : decode cX5_coefficient 53 = .ok (.iload_n 1, 1) := by decide +kernel
theorem dX5_coefficient_54 : decode cX5_coefficient 54 = .ok (.iaload, 1) := by decide +kernel
theorem dX5_coefficient_55 : decode cX5_coefficient 55 = .ok (.invokevirtual 86, 3) := by decide +kernel
theorem dX5_coefficient_58 : decode cX5_coefficient 58 = .ok (.aload_n 0, 1) := by decide +kernel
theorem dX5_coefficient_59 : decode cX5_coefficient 59 = .ok (.getfield 21, 3) := by decide +kernel
theorem dX5_coefficient_62 : decode cX5_coefficient 62 = .ok (.iload 4, 2) := by decide +kernel
theorem dX5_coefficient_64 : decode cX5_coefficient 64 = .ok (.iaload, 1) := by decide +kernel
theorem dX5_coefficient_65 : decode cX5_coefficient 65 = .ok (.invokevirtual 109, 3) := by decide +kernel
theorem dX5_coefficient_68 : decode cX5_coefficient 68 = .ok (.istore_n 3, 1) := by decide +kernel
theorem dX5_coefficient_69 : decode cX5_coefficient 69 = .ok (.iinc 4 (-1), 3) := by decide +kernel
theorem dX5_coefficient_72 : decode cX5_coefficient 72 = .ok (.goto (-55), 3) := by decide +kernel
theorem dX5_coefficient_75 : decode cX5_coefficient 75 = .ok (.aload_n 0, 1) := by decide +kernel
theorem dX5_coefficient_76 : decode cX5_coefficient 76 = .ok (.getfield 28, 3) := by decide +kernel
theorem dX5_coefficient_79 : decode cX5_coefficient 79 = .ok (.iload_n 2, 1) := by decide +kernel
theorem dX5_coefficient_80 : decode cX5_coefficient 80 = .ok (.aload_n 0, 1) := by decide +kernel
theorem dX5_coefficient_81 : decode cX5_coefficient 81 = .ok (.getfield 28, 3) := by decide +kernel
theorem dX5_coefficient_84 : decode cX5_coefficient 84 = .ok (.getfield 112, 3) := by decide +kernel
theorem dX5_coefficient_87 : decode cX5_coefficient 87 = .ok (.irem, 1) := by decide +kernel
theorem dX5_coefficient_88 : decode cX5_coefficient 88 = .ok (.iload_n 3, 1) := by decide +kernel
theorem dX5_coefficient_89 : decode cX5_coefficient 89 = .ok (.invokevirtual 115, 3) := by decide +kernel
theorem dX5_coefficient_92 : decode cX5_coefficient 92 = .ok (.ireturn, 1) := by decide +kernel
set_option maxRecDepth 20000 in
theorem ggX5_multiplyOthers_X5_multiplyBy : GoodIn wsX5_multiplyOthers wsX5_multiplyBy := goodIn_r _ [8, 1, 9, 10, 11, 12, 13, 14, 15, 16, 17, 18, 19, 20, 21, 22, 23, 24, 25, 26, 27, 28, 29] (by decide +kernel) (by decide +kernel)
set_option maxRecDepth 20000 in
theorem gX5_multiplyOthers_X5_multiplyBy : GoodIn wsX5_multiplyOthers (wsV RX5 118 RX5 yX5_multiplyBy wsX5_multiplyBy) := goodIn_app (goodIn_of _ (by decide +kernel)) ggX5_multiplyOthers_X5_multiplyBy
theorem dX5_multiplyOthers_0 : decode cX5_multiplyOthers 0 = .ok (.iconst 0, 1) := by decide +kernel
theorem dX5_multiplyOthers_1 : decode cX5_multiplyOthers 1 = .ok (.istore_n 2, 1) := by decide +kernel
theorem dX5_multiplyOthers_2 : decode cX5_multiplyOthers 2 = .ok (.iload_n 2, 1) := by decide +kernel
theorem dX5_multiplyOthers_3 : decode cX5_multiplyOthers 3 = .ok (.aload_n 0, 1) := by decide +kernel
theorem dX5_multiplyOthers_4 : decode cX5_multiplyOthers 4 = .ok (.getfield 21, 3) := by decide +kernel
theorem dX5_multiplyOthers_7 : decode cX5_multiplyOthers 7 = .ok (.arraylength, 1) := by decide +kernel
theorem dX5_multiplyOthers_8 : decode cX5_multiplyOthers 8 = .ok (.if_icmp .ge 16, 3) := by decide +kernel
theorem dX5_multiplyOthers_11 : decode cX5_multiplyOthers 11 = .ok (.aload_n 0, 1) := by decide +kernel
theorem dX5_multiplyOthers_12 : decode cX5_multiplyOthers 12 = .ok (.getfield 21, 3) := by decide +kernel
theorem dX5_multiplyOthers_15 : decode cX5_multiplyOthers 15 = .ok (.iload_n 2, 1) := by decide +kernel
theorem dX5_multiplyOthers_16 : decode cX5_multiplyOthers 16 = .ok (.iconst 0, 1) := by decide +kernel
theorem dX5_multiplyOthers_17 : decode cX5_multiplyOthers 17 = .ok (.iastore, 1) := by decide +kernel
theorem dX5_multiplyOthers_18 : decode cX5_multiplyOthers 18 = .ok (.iinc 2 1, 3) := by decide +kernel
theorem dX5_multiplyOthers_21 : decode cX5_multiplyOthers 21 = .ok (.goto (-19), 3) := by decide +kernel
theorem dX5_multiplyOthers_24 : decode cX5_multiplyOthers 24 = .ok (.aload_n 0, 1) := by decide +kernel
theorem dX5_multiplyOthers_25 : decode cX5_multiplyOthers 25 = .ok (.getfield 21, 3) := by decide +kernel
theorem dX5_multiplyOthers_28 : decode cX5_multiplyOthers 28 = .ok (.iconst 0, 1) := by decide +kernel
theorem dX5_multiplyOthers_29 : decode cX5_multiplyOthers 29 = .ok (.iconst 1, 1) := by decide +kernel
theorem dX5_multiplyOthers_30 : decode cX5_multiplyOthers 30 = .ok (.iastore, 1) := by decide +kernel
theorem dX5_multiplyOthers_31 : decode cX5_multiplyOthers 31 = .ok (.iconst 0, 1) := by decide +kernel
theorem dX5_multiplyOthers_32 : decode cX5_multiplyOthers 32 = .ok (.istore_n 2, 1) := by decide +kernel
theorem dX5_multiplyOthers_33 : decode cX5_multiplyOthers 33 = .ok (.iload_n 2, 1) := by decide +kernel
theorem dX5_multiplyOthers_34 : decode cX5_multiplyOthers 34 = .ok (.aload_n 0, 1) := by decide +kernel
theorem dX5_multiplyOthers_35 : decode cX5_multiplyOthers 35 = .ok (.getfield 24, 3) := by decide +kernel
theorem dX5_multiplyOthers_38 : decode cX5_multiplyOthers 38 = .ok (.if_icmp .ge 24, 3) := by decide +kernel
theorem dX5_multiplyOthers_41 : decode cX5_multiplyOthers 41 = .ok (.iload_n 2, 1) := by decide +kernel
theorem dX5_multiplyOthers_42 : decode cX5_multiplyOthers 42 = .ok (.iload_n 1, 1) := by decide +kernel
theorem dX5_multiplyOthers_43 : decode cX5_multiplyOthers 43 = .ok (.if_icmp .eq 13, 3) := by decide +kernel
theorem dX5_multiplyOthers_46 : decode cX5_multiplyOthers 46 = .ok (.aload_n 0, 1) := by decide +kernel
theorem dX5_multiplyOthers_47 : decode cX5_multiplyOthers 47 = .ok (.aload_n 0, 1) := by decide +kernel
theorem dX5_multiplyOthers_48 : decode cX5_multiplyOthers 48 = .ok (.getfield 15, 3) := by decide +kernel
theorem dX5_multiplyOthers_51 : decode cX5_multiplyOthers 51 = .ok (.iload_n 2, 1) := by decide +kernel
theorem dX5_multiplyOthers_52 : decode cX5_multiplyOthers 52 = .ok (.iaload, 1) := by decide +kernel
theorem dX5_multiplyOthers_53 : decode cX5_multiplyOthers 53 = .ok (.invokevirtual 118, 3) := by decide +kernel
theorem dX5_multiplyOthers_56 : decode cX5_multiplyOthers 56 = .ok (.iinc 2 1, 3) := by decide +kernel
theorem dX5_multiplyOthers_59 : decode cX5_multiplyOthers 59 = .ok (.goto (-26), 3) := by decide +kernel
theorem dX5_multiplyOthers_62 : decode cX5_multiplyOthers 62 = .ok (.return_, 1) := by decide +kernel
set_option maxRecDepth 20000 in
theorem ggX5_multiplyBy_X4_times : GoodIn wsX5_multiplyBy wsX4_times := goodIn_r _ [7, 8, 21, 22] (by decide +kernel) (by decide +kernel)
set_option maxRecDepth 20000 in
theorem gX5_multiplyBy_X4_times : GoodIn wsX5_multiplyBy (wsV RX5 86 RX4 yX4_times wsX4_times) := goodIn_app (goodIn_of _ (by decide +kernel)) ggX5_multiplyBy_X4_times
set_option maxRecDepth 20000 in
theorem ggX5_multiplyBy_X4_less : GoodIn wsX5_multiplyBy wsX4_less := goodIn_r _ [12, 8, 21, 22] (by decide +kernel) (by decide +kernel)
set_option maxRecDepth 20000 in
theorem gX5_multiplyBy_X4_less : GoodIn wsX5_multiplyBy (wsV RX5 102 RX4 yX4_less wsX4_less) := goodIn_app (goodIn_of _ (by decide +kernel)) ggX5_multiplyBy_X4_less
theorem dX5_multiplyBy_0 : decode cX5_multiplyBy 0 = .ok (.aload_n 0, 1) := by decide +kernel
theorem dX5_multiplyBy_1 : decode cX5_multiplyBy 1 = .ok (.getfield 21, 3) := by decide +kernel
theorem dX5_multiplyBy_4 : decode cX5_multiplyBy 4 = .ok (.arraylength, 1) := by decide +kernel
theorem dX5_multiplyBy_5 : decode cX5_multiplyBy 5 = .ok (.iconst 1, 1) := by decide +kernel
theorem dX5_multiplyBy_6 : decode cX5_multiplyBy 6 = .ok (.isub, 1) := by decide +kernel
theorem dX5_multiplyBy_7 : decode cX5_multiplyBy 7 = .ok (.istore_n 2, 1) := by decide +kernel
theorem dX5_multiplyBy_8 : decode cX5_multiplyBy 8 = .ok (.iload_n 2, 1) := by decide +kernel
theorem dX5_multiplyBy_9 : decode cX5_multiplyBy 9 = .ok (.ifCond .lt 54, 3) := by decide +kernel
theorem dX5_multiplyBy_12 : decode cX5_multiplyBy 12 = .ok (.iload_n 2, 1) := by decide +kernel
theorem dX5_multiplyBy_13 : decode cX5_multiplyBy 13 = .ok (.ifCond .le 14, 3) := by decide +kernel
theorem dX5_multiplyBy_16 : decode cX5_multiplyBy 16 = .ok (.aload_n 0, 1) := by decide +kernel
theorem dX5_multiplyBy_17 : decode cX5_multiplyBy 17 = .ok (.getfield 21, 3) := by decide +kernel
theorem dX5_multiplyBy_20 : decode cX5_multiplyBy 20 = .ok (.iload_n 2, 1) := by decide +kernel
theorem dX5_multiplyBy_21 : decode cX5_multiplyBy 21 = .ok (.iconst 1, 1) := by decide +kernel
theorem dX5_multiplyBy_22 : decode cX5_multiplyBy 22 = .ok (.isub, 1) := by decide +kernel
theorem dX5_multiplyBy_23 : decode cX5_multiplyBy 23 = .ok (.iaload, 1) := by decide +kernel
theorem dX5_multiplyBy_24 : decode cX5_multiplyBy 24 = .ok (.goto 4, 3) := by decide +kernel
theorem dX5_multiplyBy_27 : decode cX5_multiplyBy 27 = .ok (.iconst 0, 1) := by decide +kernel
theorem dX5_multiplyBy_28 : decode cX5_multiplyBy 28 = .ok (.istore_n 3, 1) := by decide +kernel
theorem dX5_multiplyBy_29 : decode cX5_multiplyBy 29 = .ok (.aload_n 0, 1) := by decide +kernel
theorem dX5_multiplyBy_30 : decode cX5_multiplyBy 30 = .ok (.getfield 21, 3) := by decide +kernel
theorem dX5_multiplyBy_33 : decode cX5_multiplyBy 33 = .ok (.iload_n 2, 1) := by decide +kernel
theorem dX5_multiplyBy_34 : decode cX5_multiplyBy 34 = .ok (.aload_n 0, 1) := by decide +kernel
theorem dX5_multiplyBy_35 : decode cX5_multiplyBy 35 = .ok (.getfield 28, 3) := by decide +kernel
theorem dX5_multiplyBy_38 : decode cX5_multiplyBy 38 = .ok (.iload_n 3, 1) := by decide +kernel
theorem dX5_multiplyBy_39 : decode cX5_multiplyBy 39 = .ok (.aload_n 0, 1) := by decide +kernel
theorem dX5_multiplyBy_40 : decode cX5_multiplyBy 40 = .ok (.getfield 28, 3) := by decide +kernel
theorem dX5_multiplyBy_43 : decode cX5_multiplyBy 43 = .ok (.aload_n 0, 1) := by decide +kernel
theorem dX5_multiplyBy_44 : decode cX5_multiplyBy 44 = .ok (.getfield 21, 3) := by decide +kernel
theorem dX5_multiplyBy_47 : decode cX5_multiplyBy 47 = .ok (.iload_n 2, 1) := by decide +kernel
theorem dX5_multiplyBy_48 : decode cX5_multiplyBy 48 = .ok (.iaload, 1) := by decide +kernel
theorem dX5_multiplyBy_49 : decode cX5_multiplyBy 49 = .ok (.iload_n 1, 1) := by decide +kernel
theorem dX5_multiplyBy_50 : decode cX5_multiplyBy 50 = .ok (.invokevirtual 86, 3) := by decide +kernel
theorem dX5_multiplyBy_53 : decode cX5_multiplyBy 53 = .ok (.invokevirtual 102, 3) := by decide +kernel
theorem dX5_multiplyBy_56 : decode cX5_multiplyBy 56 = .ok (.iastore, 1) := by decide +kernel
theorem dX5_multiplyBy_57 : decode cX5_multiplyBy 57 = .ok (.iinc 2 (-1), 3) := by decide +kernel
theorem dX5_multiplyBy_60 : decode cX5_multiplyBy 60 = .ok (.goto (-52), 3) := by decide +kernel
theorem dX5_multiplyBy_63 : decode cX5_multiplyBy 63 = .ok (.return_, 1) := by decide +kernel
set_option maxRecDepth 20000 in
theorem ggX5_lastAnswerFits_X1_part : GoodIn wsX5_lastAnswerFits wsX1_part := goodIn_r _ [10, 11, 32, 33, 34, 35, 36, 37, 38] (by decide +kernel) (by decide +kernel)
set_option maxRecDepth 20000 in
theorem gX5_lastAnswerFits_X1_part : GoodIn wsX5_lastAnswerFits (wsV RX5 121 RX1 yX1_part wsX1_part) := goodIn_app (goodIn_of _ (by decide +kernel)) ggX5_lastAnswerFits_X1_part
set_option maxRecDepth 20000 in
theorem ggX5_lastAnswerFits_X4_power : GoodIn wsX5_lastAnswerFits wsX4_power := goodIn_r _ [16, 17, 30, 31] (by decide +kernel) (by decide +kernel)
set_option maxRecDepth 20000 in
theorem gX5_lastAnswerFits_X4_power : GoodIn wsX5_lastAnswerFits (wsV RX5 124 RX4 yX4_power wsX4_power) := goodIn_app (goodIn_of _ (by decide +kernel)) ggX5_lastAnswerFits_X4_power
set_option maxRecDepth 20000 in
theorem ggX5_lastAnswerFits_X4_times : GoodIn wsX5_lastAnswerFits wsX4_times := goodIn_r _ [21, 17, 30, 31] (by decide +kernel) (by decide +kernel)
set_option maxRecDepth 20000 in
theorem gX5_lastAnswerFits_X4_times : GoodIn wsX5_lastAnswerFits (wsV RX5 86 RX4 yX4_times wsX4_times) := goodIn_app (goodIn_of _ (by decide +kernel)) ggX5_lastAnswerFits_X4_times
theorem dX5_lastAnswerFits_0 : decode cX5_lastAnswerFits 0 = .ok (.iconst 0, 1) := by decide +kernel
theorem dX5_lastAnswerFits_1 : decode cX5_lastAnswerFits 1 = .ok (.istore_n 1, 1) := by decide +kernel
theorem dX5_lastAnswerFits_2 : decode cX5_lastAnswerFits 2 = .ok (.iconst 0, 1) := by decide +kernel
theorem dX5_lastAnswerFits_3 : decode cX5_lastAnswerFits 3 = .ok (.istore_n 2, 1) := by decide +kernel
theorem dX5_lastAnswerFits_4 : decode cX5_lastAnswerFits 4 = .ok (.iload_n 2, 1) := by decide +kernel
theorem dX5_lastAnswerFits_5 : decode cX5_lastAnswerFits 5 = .ok (.aload_n 0, 1) := by decide +kernel
theorem dX5_lastAnswerFits_6 : decode cX5_lastAnswerFits 6 = .ok (.getfield 24, 3) := by decide +kernel
theorem dX5_lastAnswerFits_9 : decode cX5_lastAnswerFits 9 = .ok (.if_icmp .ge 43, 3) := by decide +kernel
theorem dX5_lastAnswerFits_12 : decode cX5_lastAnswerFits 12 = .ok (.iload_n 1, 1) := by decide +kernel
theorem dX5_lastAnswerFits_13 : decode cX5_lastAnswerFits 13 = .ok (.aload_n 0, 1) := by decide +kernel
theorem dX5_lastAnswerFits_14 : decode cX5_lastAnswerFits 14 = .ok (.getfield 28, 3) := by decide +kernel
theorem dX5_lastAnswerFits_17 : decode cX5_lastAnswerFits 17 = .ok (.aload_n 0, 1) := by decide +kernel
theorem dX5_lastAnswerFits_18 : decode cX5_lastAnswerFits 18 = .ok (.getfield 46, 3) := by decide +kernel
theorem dX5_lastAnswerFits_21 : decode cX5_lastAnswerFits 21 = .ok (.iload_n 2, 1) := by decide +kernel
theorem dX5_lastAnswerFits_22 : decode cX5_lastAnswerFits 22 = .ok (.iconst 0, 1) := by decide +kernel
theorem dX5_lastAnswerFits_23 : decode cX5_lastAnswerFits 23 = .ok (.invokevirtual 121, 3) := by decide +kernel
theorem dX5_lastAnswerFits_26 : decode cX5_lastAnswerFits 26 = .ok (.aload_n 0, 1) := by decide +kernel
theorem dX5_lastAnswerFits_27 : decode cX5_lastAnswerFits 27 = .ok (.getfield 28, 3) := by decide +kernel
theorem dX5_lastAnswerFits_30 : decode cX5_lastAnswerFits 30 = .ok (.aload_n 0, 1) := by decide +kernel
theorem dX5_lastAnswerFits_31 : decode cX5_lastAnswerFits 31 = .ok (.getfield 15, 3) := by decide +kernel
theorem dX5_lastAnswerFits_34 : decode cX5_lastAnswerFits 34 = .ok (.iload_n 2, 1) := by decide +kernel
theorem dX5_lastAnswerFits_35 : decode cX5_lastAnswerFits 35 = .ok (.iaload, 1) := by decide +kernel
theorem dX5_lastAnswerFits_36 : decode cX5_lastAnswerFits 36 = .ok (.bipush 8, 2) := by decide +kernel
theorem dX5_lastAnswerFits_38 : decode cX5_lastAnswerFits 38 = .ok (.invokevirtual 124, 3) := by decide +kernel
theorem dX5_lastAnswerFits_41 : decode cX5_lastAnswerFits 41 = .ok (.invokevirtual 86, 3) := by decide +kernel
theorem dX5_lastAnswerFits_44 : decode cX5_lastAnswerFits 44 = .ok (.iadd, 1) := by decide +kernel
theorem dX5_lastAnswerFits_45 : decode cX5_lastAnswerFits 45 = .ok (.istore_n 1, 1) := by decide +kernel
theorem dX5_lastAnswerFits_46 : decode cX5_lastAnswerFits 46 = .ok (.iinc 2 1, 3) := by decide +kernel
theorem dX5_lastAnswerFits_49 : decode cX5_lastAnswerFits 49 = .ok (.goto (-45), 3) := by decide +kernel
theorem dX5_lastAnswerFits_52 : decode cX5_lastAnswerFits 52 = .ok (.iload_n 1, 1) := by decide +kernel
theorem dX5_lastAnswerFits_53 : decode cX5_lastAnswerFits 53 = .ok (.aload_n 0, 1) := by decide +kernel
theorem dX5_lastAnswerFits_54 : decode cX5_lastAnswerFits 54 = .ok (.getfield 28, 3) := by decide +kernel
theorem dX5_lastAnswerFits_57 : decode cX5_lastAnswerFits 57 = .ok (.getfield 112, 3) := by decide +kernel
theorem dX5_lastAnswerFits_60 : decode cX5_lastAnswerFits 60 = .ok (.irem, 1) := by decide +kernel
theorem dX5_lastAnswerFits_61 : decode cX5_lastAnswerFits 61 = .ok (.aload_n 0, 1) := by decide +kernel
theorem dX5_lastAnswerFits_62 : decode cX5_lastAnswerFits 62 = .ok (.getfield 11, 3) := by decide +kernel
theorem dX5_lastAnswerFits_65 : decode cX5_lastAnswerFits 65 = .ok (.bipush 8, 2) := by decide +kernel
theorem dX5_lastAnswerFits_67 : decode cX5_lastAnswerFits 67 = .ok (.iaload, 1) := by decide +kernel
theorem dX5_lastAnswerFits_68 : decode cX5_lastAnswerFits 68 = .ok (.if_icmp .ne 7, 3) := by decide +kernel
theorem dX5_lastAnswerFits_71 : decode cX5_lastAnswerFits 71 = .ok (.iconst 1, 1) := by decide +kernel
theorem dX5_lastAnswerFits_72 : decode cX5_lastAnswerFits 72 = .ok (.goto 4, 3) := by decide +kernel
theorem dX5_lastAnswerFits_75 : decode cX5_lastAnswerFits 75 = .ok (.iconst 0, 1) := by decide +kernel
theorem dX5_lastAnswerFits_76 : decode cX5_lastAnswerFits 76 = .ok (.ireturn, 1) := by decide +kernel
end
section
theorem dX6_init_0 : decode cX6_init 0 = .ok (.aload_n 0, 1) := by decide +kernel
theorem dX6_init_1 : decode cX6_init 1 = .ok (.invokespecial 3, 3) := by decide +kernel
theorem dX6_init_4 : decode cX6_init 4 = .ok (.aload_n 0, 1) := by decide +kernel
theorem dX6_init_5 : decode cX6_init 5 = .ok (.bipush 17, 2) := by decide +kernel
theorem dX6_init_7 : decode cX6_init 7 = .ok (.newarray .int, 2) := by decide +kernel
theorem dX6_init_9 : decode cX6_init 9 = .ok (.putfield 9, 3) := by decide +kernel
theorem dX6_init_12 : decode cX6_init 12 = .ok (.aload_n 0, 1) := by decide +kernel
theorem dX6_init_13 : decode cX6_init 13 = .ok (.bipush 17, 2) := by decide +kernel
theorem dX6_init_15 : decode cX6_init 15 = .ok (.newarray .int, 2) := by decide +kernel
theorem dX6_init_17 : decode cX6_init 17 = .ok (.putfield 15, 3) := by decide +kernel
theorem dX6_init_20 : decode cX6_init 20 = .ok (.aload_n 0, 1) := by decide +kernel
theorem dX6_init_21 : decode cX6_init 21 = .ok (.bipush 17, 2) := by decide +kernel
theorem dX6_init_23 : decode cX6_init 23 = .ok (.newarray .int, 2) := by decide +kernel
theorem dX6_init_25 : decode cX6_init 25 = .ok (.putfield 18, 3) := by decide +kernel
theorem dX6_init_28 : decode cX6_init 28 = .ok (.aload_n 0, 1) := by decide +kernel
theorem dX6_init_29 : decode cX6_init 29 = .ok (.iconst 0, 1) := by decide +kernel
theorem dX6_init_30 : decode cX6_init 30 = .ok (.putfield 21, 3) := by decide +kernel
theorem dX6_init_33 : decode cX6_init 33 = .ok (.aload_n 0, 1) := by decide +kernel
theorem dX6_init_34 : decode cX6_init 34 = .ok (.iconst 0, 1) := by decide +kernel
theorem dX6_init_35 : decode cX6_init 35 = .ok (.putfield 25, 3) := by decide +kernel
theorem dX6_init_38 : decode cX6_init 38 = .ok (.aload_n 0, 1) := by decide +kernel
theorem dX6_init_39 : decode cX6_init 39 = .ok (.iconst 1, 1) := by decide +kernel
theorem dX6_init_40 : decode cX6_init 40 = .ok (.putfield 28, 3) := by decide +kernel
theorem dX6_init_43 : decode cX6_init 43 = .ok (.aload_n 0, 1) := by decide +kernel
theorem dX6_init_44 : decode cX6_init 44 = .ok (.iconst 1, 1) := by decide +kernel
theorem dX6_init_45 : decode cX6_init 45 = .ok (.putfield 31, 3) := by decide +kernel
theorem dX6_init_48 : decode cX6_init 48 = .ok (.aload_n 0, 1) := by decide +kernel
theorem dX6_init_49 : decode cX6_init 49 = .ok (.aload_n 1, 1) := by decide +kernel
theorem dX6_init_50 : decode cX6_init 50 = .ok (.putfield 34, 3) := by decide +kernel
theorem dX6_init_53 : decode cX6_init 53 = .ok (.return_, 1) := by decide +kernel
set_option maxRecDepth 20000 in
theorem ggX6_read_X6_begin : GoodIn wsX6_read wsX6_begin := goodIn_r _ [5, 6, 7, 8, 9, 10, 11, 37, 38, 39, 40, 41, 42, 43, 44] (by decide +kernel) (by decide +kernel)
set_option maxRecDepth 20000 in
theorem gX6_read_X6_begin : GoodIn wsX6_read (wsV RX6 38 RX6 yX6_begin wsX6_begin) := goodIn_app (goodIn_of _ (by decide +kernel)) ggX6_read_X6_begin
set_option maxRecDepth 20000 in
theorem ggX6_read_X6_take : GoodIn wsX6_read wsX6_take := goodIn_r _ [15, 11, 16, 10, 8, 6, 17, 18, 19, 20, 21, 7, 9, 22, 23, 24, 4, 25, 26, 27, 28, 29, 30, 31, 32, 33, 34, 35, 36, 37, 38, 39, 40, 41, 42, 43, 44, 45, 46] (by decide +kernel) (by decide +kernel)
set_option maxRecDepth 20000 in
theorem gX6_read_X6_take : GoodIn wsX6_read (wsV RX6 41 RX6 yX6_take wsX6_take) := goodIn_app (goodIn_of _ (by decide +kernel)) ggX6_read_X6_take
theorem dX6_read_0 : decode cX6_read 0 = .ok (.aload_n 0, 1) := by decide +kernel
theorem dX6_read_1 : decode cX6_read 1 = .ok (.invokevirtual 38, 3) := by decide +kernel
theorem dX6_read_4 : decode cX6_read 4 = .ok (.iconst 0, 1) := by decide +kernel
theorem dX6_read_5 : decode cX6_read 5 = .ok (.istore_n 3, 1) := by decide +kernel
theorem dX6_read_6 : decode cX6_read 6 = .ok (.iload_n 3, 1) := by decide +kernel
theorem dX6_read_7 : decode cX6_read 7 = .ok (.iload_n 2, 1) := by decide +kernel
theorem dX6_read_8 : decode cX6_read 8 = .ok (.if_icmp .ge 21, 3) := by decide +kernel
theorem dX6_read_11 : decode cX6_read 11 = .ok (.iload_n 3, 1) := by decide +kernel
theorem dX6_read_12 : decode cX6_read 12 = .ok (.aload_n 1, 1) := by decide +kernel
theorem dX6_read_13 : decode cX6_read 13 = .ok (.arraylength, 1) := by decide +kernel
theorem dX6_read_14 : decode cX6_read 14 = .ok (.if_icmp .ge 15, 3) := by decide +kernel
theorem dX6_read_17 : decode cX6_read 17 = .ok (.aload_n 0, 1) := by decide +kernel
theorem dX6_read_18 : decode cX6_read 18 = .ok (.aload_n 1, 1) := by decide +kernel
theorem dX6_read_19 : decode cX6_read 19 = .ok (.iload_n 3, 1) := by decide +kernel
theorem dX6_read_20 : decode cX6_read 20 = .ok (.invokevirtual 41, 3) := by decide +kernel
theorem dX6_read_23 : decode cX6_read 23 = .ok (.iinc 3 1, 3) := by decide +kernel
theorem dX6_read_26 : decode cX6_read 26 = .ok (.goto (-20), 3) := by decide +kernel
theorem dX6_read_29 : decode cX6_read 29 = .ok (.return_, 1) := by decide +kernel
theorem dX6_begin_0 : decode cX6_begin 0 = .ok (.iconst 0, 1) := by decide +kernel
theorem dX6_begin_1 : decode cX6_begin 1 = .ok (.istore_n 1, 1) := by decide +kernel
theorem dX6_begin_2 : decode cX6_begin 2 = .ok (.iload_n 1, 1) := by decide +kernel
theorem dX6_begin_3 : decode cX6_begin 3 = .ok (.aload_n 0, 1) := by decide +kernel
theorem dX6_begin_4 : decode cX6_begin 4 = .ok (.getfield 9, 3) := by decide +kernel
theorem dX6_begin_7 : decode cX6_begin 7 = .ok (.arraylength, 1) := by decide +kernel
theorem dX6_begin_8 : decode cX6_begin 8 = .ok (.if_icmp .ge 23, 3) := by decide +kernel
theorem dX6_begin_11 : decode cX6_begin 11 = .ok (.aload_n 0, 1) := by decide +kernel
theorem dX6_begin_12 : decode cX6_begin 12 = .ok (.getfield 9, 3) := by decide +kernel
theorem dX6_begin_15 : decode cX6_begin 15 = .ok (.iload_n 1, 1) := by decide +kernel
theorem dX6_begin_16 : decode cX6_begin 16 = .ok (.iconst 0, 1) := by decide +kernel
theorem dX6_begin_17 : decode cX6_begin 17 = .ok (.iastore, 1) := by decide +kernel
theorem dX6_begin_18 : decode cX6_begin 18 = .ok (.aload_n 0, 1) := by decide +kernel
theorem dX6_begin_19 : decode cX6_begin 19 = .ok (.getfield 15, 3) := by decide +kernel
theorem dX6_begin_22 : decode cX6_begin 22 = .ok (.iload_n 1, 1) := by decide +kernel
theorem dX6_begin_23 : decode cX6_begin 23 = .ok (.iconst 0, 1) := by decide +kernel
theorem dX6_begin_24 : decode cX6_begin 24 = .ok (.iastore, 1) := by decide +kernel
theorem dX6_begin_25 : decode cX6_begin 25 = .ok (.iinc 1 1, 3) := by decide +kernel
theorem dX6_begin_28 : decode cX6_begin 28 = .ok (.goto (-26), 3) := by decide +kernel
theorem dX6_begin_31 : decode cX6_begin 31 = .ok (.aload_n 0, 1) := by decide +kernel
theorem dX6_begin_32 : decode cX6_begin 32 = .ok (.getfield 9, 3) := by decide +kernel
theorem dX6_begin_35 : decode cX6_begin 35 = .ok (.iconst 0, 1) := by decide +kernel
theorem dX6_begin_36 : decode cX6_begin 36 = .ok (.iconst 1, 1) := by decide +kernel
theorem dX6_begin_37 : decode cX6_begin 37 = .ok (.iastore, 1) := by decide +kernel
theorem dX6_begin_38 : decode cX6_begin 38 = .ok (.aload_n 0, 1) := by decide +kernel
theorem dX6_begin_39 : decode cX6_begin 39 = .ok (.getfield 15, 3) := by decide +kernel
theorem dX6_begin_42 : decode cX6_begin 42 = .ok (.iconst 0, 1) := by decide +kernel
theorem dX6_begin_43 : decode cX6_begin 43 = .ok (.iconst 1, 1) := by decide +kernel
theorem dX6_begin_44 : decode cX6_begin 44 = .ok (.iastore, 1) := by decide +kernel
theorem dX6_begin_45 : decode cX6_begin 45 = .ok (.aload_n 0, 1) := by decide +kernel
theorem dX6_begin_46 : decode cX6_begin 46 = .ok (.iconst 0, 1) := by decide +kernel
theorem dX6_begin_47 : decode cX6_begin 47 = .ok (.putfield 21, 3) := by decide +kernel
theorem dX6_begin_50 : decode cX6_begin 50 = .ok (.aload_n 0, 1) := by decide +kernel
theorem dX6_begin_51 : decode cX6_begin 51 = .ok (.iconst 0, 1) := by decide +kernel
theorem dX6_begin_52 : decode cX6_begin 52 = .ok (.putfield 25, 3) := by decide +kernel
theorem dX6_begin_55 : decode cX6_begin 55 = .ok (.aload_n 0, 1) := by decide +kernel
theorem dX6_begin_56 : decode cX6_begin 56 = .ok (.iconst 1, 1) := by decide +kernel
theorem dX6_begin_57 : decode cX6_begin 57 = .ok (.putfield 28, 3) := by decide +kernel
theorem dX6_begin_60 : decode cX6_begin 60 = .ok (.aload_n 0, 1) := by decide +kernel
theorem dX6_begin_61 : decode cX6_begin 61 = .ok (.iconst 1, 1) := by decide +kernel
theorem dX6_begin_62 : decode cX6_begin 62 = .ok (.putfield 31, 3) := by decide +kernel
theorem dX6_begin_65 : decode cX6_begin 65 = .ok (.return_, 1) := by decide +kernel
theorem dX6_copyOf_0 : decode cX6_copyOf 0 = .ok (.aload_n 1, 1) := by decide +kernel
theorem dX6_copyOf_1 : decode cX6_copyOf 1 = .ok (.getfield 9, 3) := by decide +kernel
theorem dX6_copyOf_4 : decode cX6_copyOf 4 = .ok (.iconst 0, 1) := by decide +kernel
theorem dX6_copyOf_5 : decode cX6_copyOf 5 = .ok (.aload_n 0, 1) := by decide +kernel
theorem dX6_copyOf_6 : decode cX6_copyOf 6 = .ok (.getfield 9, 3) := by decide +kernel
theorem dX6_copyOf_9 : decode cX6_copyOf 9 = .ok (.iconst 0, 1) := by decide +kernel
theorem dX6_copyOf_10 : decode cX6_copyOf 10 = .ok (.aload_n 0, 1) := by decide +kernel
theorem dX6_copyOf_11 : decode cX6_copyOf 11 = .ok (.getfield 9, 3) := by decide +kernel
theorem dX6_copyOf_14 : decode cX6_copyOf 14 = .ok (.arraylength, 1) := by decide +kernel
theorem dX6_copyOf_15 : decode cX6_copyOf 15 = .ok (.invokestatic 45, 3) := by decide +kernel
theorem dX6_copyOf_18 : decode cX6_copyOf 18 = .ok (.aload_n 1, 1) := by decide +kernel
theorem dX6_copyOf_19 : decode cX6_copyOf 19 = .ok (.getfield 15, 3) := by decide +kernel
theorem dX6_copyOf_22 : decode cX6_copyOf 22 = .ok (.iconst 0, 1) := by decide +kernel
theorem dX6_copyOf_23 : decode cX6_copyOf 23 = .ok (.aload_n 0, 1) := by decide +kernel
theorem dX6_copyOf_24 : decode cX6_copyOf 24 = .ok (.getfield 15, 3) := by decide +kernel
theorem dX6_copyOf_27 : decode cX6_copyOf 27 = .ok (.iconst 0, 1) := by decide +kernel
theorem dX6_copyOf_28 : decode cX6_copyOf 28 = .ok (.aload_n 0, 1) := by decide +kernel
theorem dX6_copyOf_29 : decode cX6_copyOf 29 = .ok (.getfield 15, 3) := by decide +kernel
theorem dX6_copyOf_32 : decode cX6_copyOf 32 = .ok (.arraylength, 1) := by decide +kernel
theorem dX6_copyOf_33 : decode cX6_copyOf 33 = .ok (.invokestatic 45, 3) := by decide +kernel
theorem dX6_copyOf_36 : decode cX6_copyOf 36 = .ok (.aload_n 0, 1) := by decide +kernel
theorem dX6_copyOf_37 : decode cX6_copyOf 37 = .ok (.aload_n 1, 1) := by decide +kernel
theorem dX6_copyOf_38 : decode cX6_copyOf 38 = .ok (.getfield 21, 3) := by decide +kernel
theorem dX6_copyOf_41 : decode cX6_copyOf 41 = .ok (.putfield 21, 3) := by decide +kernel
theorem dX6_copyOf_44 : decode cX6_copyOf 44 = .ok (.aload_n 0, 1) := by decide +kernel
theorem dX6_copyOf_45 : decode cX6_copyOf 45 = .ok (.aload_n 1, 1) := by decide +kernel
theorem dX6_copyOf_46 : decode cX6_copyOf 46 = .ok (.getfield 25, 3) := by decide +kernel
theorem dX6_copyOf_49 : decode cX6_copyOf 49 = .ok (.putfield 25, 3) := by decide +kernel
theorem dX6_copyOf_52 : decode cX6_copyOf 52 = .ok (.aload_n 0, 1) := by decide +kernel
theorem dX6_copyOf_53 : decode cX6_copyOf 53 = .ok (.aload_n 1, 1) := by decide +kernel
theorem dX6_copyOf_54 : decode cX6_copyOf 54 = .ok (.getfield 28, 3) := by decide +kernel
theorem dX6_copyOf_57 : decode cX6_copyOf 57 = .ok (.putfield 28, 3) := by decide +kernel
theorem dX6_copyOf_60 : decode cX6_copyOf 60 = .ok (.aload_n 0, 1) := by decide +kernel
theorem dX6_copyOf_61 : decode cX6_copyOf 61 = .ok (.aload_n 1, 1) := by decide +kernel
theorem dX6_copyOf_62 : decode cX6_copyOf 62 = .ok (.getfield 31, 3) := by decide +kernel
theorem dX6_copyOf_65 : decode cX6_copyOf 65 = .ok (.putfield 31, 3) := by decide +kernel
theorem dX6_copyOf_68 : decode cX6_copyOf 68 = .ok (.return_, 1) := by decide +kernel
set_option maxRecDepth 20000 in
theorem ggX6_take_X6_errorAt : GoodIn wsX6_take wsX6_errorAt := goodIn_r _ [17, 4, 5, 2, 29, 30, 31, 32, 33, 34, 35, 36, 37, 38] (by decide +kernel) (by decide +kernel)
set_option maxRecDepth 20000 in
theorem gX6_take_X6_errorAt : GoodIn wsX6_take (wsV RX6 51 RX6 yX6_errorAt wsX6_errorAt) := goodIn_app (goodIn_of _ (by decide +kernel)) ggX6_take_X6_errorAt
set_option maxRecDepth 20000 in
theorem ggX6_take_X4_over : GoodIn wsX6_take wsX4_over := goodIn_r _ [22, 23, 24, 37, 38] (by decide +kernel) (by decide +kernel)
set_option maxRecDepth 20000 in
theorem gX6_take_X4_over : GoodIn wsX6_take (wsV RX6 60 RX4 yX4_over wsX4_over) := goodIn_app (goodIn_of _ (by decide +kernel)) ggX6_take_X4_over
set_option maxRecDepth 20000 in
theorem ggX6_take_X6_addFormer : GoodIn wsX6_take wsX6_addFormer := goodIn_r _ [28, 12, 1, 5, 11, 2, 29, 30, 31, 32, 33, 34, 35, 36, 37, 38] (by decide +kernel) (by decide +kernel)
set_option maxRecDepth 20000 in
theorem gX6_take_X6_addFormer : GoodIn wsX6_take (wsV RX6 64 RX6 yX6_addFormer wsX6_addFormer) := goodIn_app (goodIn_of _ (by decide +kernel)) ggX6_take_X6_addFormer
theorem dX6_take_0 : decode cX6_take 0 = .ok (.aload_n 0, 1) := by decide +kernel
theorem dX6_take_1 : decode cX6_take 1 = .ok (.aload_n 1, 1) := by decide +kernel
theorem dX6_take_2 : decode cX6_take 2 = .ok (.iload_n 2, 1) := by decide +kernel
theorem dX6_take_3 : decode cX6_take 3 = .ok (.invokevirtual 51, 3) := by decide +kernel
theorem dX6_take_6 : decode cX6_take 6 = .ok (.istore_n 3, 1) := by decide +kernel
theorem dX6_take_7 : decode cX6_take 7 = .ok (.iload_n 3, 1) := by decide +kernel
theorem dX6_take_8 : decode cX6_take 8 = .ok (.ifCond .ne 14, 3) := by decide +kernel
theorem dX6_take_11 : decode cX6_take 11 = .ok (.aload_n 0, 1) := by decide +kernel
theorem dX6_take_12 : decode cX6_take 12 = .ok (.dup, 1) := by decide +kernel
theorem dX6_take_13 : decode cX6_take 13 = .ok (.getfield 31, 3) := by decide +kernel
theorem dX6_take_16 : decode cX6_take 16 = .ok (.iconst 1, 1) := by decide +kernel
theorem dX6_take_17 : decode cX6_take 17 = .ok (.iadd, 1) := by decide +kernel
theorem dX6_take_18 : decode cX6_take 18 = .ok (.putfield 31, 3) := by decide +kernel
theorem dX6_take_21 : decode cX6_take 21 = .ok (.return_, 1) := by decide +kernel
theorem dX6_take_22 : decode cX6_take 22 = .ok (.aload_n 0, 1) := by decide +kernel
theorem dX6_take_23 : decode cX6_take 23 = .ok (.getfield 34, 3) := by decide +kernel
theorem dX6_take_26 : decode cX6_take 26 = .ok (.getfield 55, 3) := by decide +kernel
theorem dX6_take_29 : decode cX6_take 29 = .ok (.aload_n 0, 1) := by decide +kernel
theorem dX6_take_30 : decode cX6_take 30 = .ok (.getfield 34, 3) := by decide +kernel
theorem dX6_take_33 : decode cX6_take 33 = .ok (.iload_n 3, 1) := by decide +kernel
theorem dX6_take_34 : decode cX6_take 34 = .ok (.aload_n 0, 1) := by decide +kernel
theorem dX6_take_35 : decode cX6_take 35 = .ok (.getfield 28, 3) := by decide +kernel
theorem dX6_take_38 : decode cX6_take 38 = .ok (.invokevirtual 60, 3) := by decide +kernel
theorem dX6_take_41 : decode cX6_take 41 = .ok (.isub, 1) := by decide +kernel
theorem dX6_take_42 : decode cX6_take 42 = .ok (.istore 4, 2) := by decide +kernel
theorem dX6_take_44 : decode cX6_take 44 = .ok (.iconst 2, 1) := by decide +kernel
theorem dX6_take_45 : decode cX6_take 45 = .ok (.aload_n 0, 1) := by decide +kernel
theorem dX6_take_46 : decode cX6_take 46 = .ok (.getfield 21, 3) := by decide +kernel
theorem dX6_take_49 : decode cX6_take 49 = .ok (.imul, 1) := by decide +kernel
theorem dX6_take_50 : decode cX6_take 50 = .ok (.iload_n 2, 1) := by decide +kernel
theorem dX6_take_51 : decode cX6_take 51 = .ok (.if_icmp .le 20, 3) := by decide +kernel
theorem dX6_take_54 : decode cX6_take 54 = .ok (.aload_n 0, 1) := by decide +kernel
theorem dX6_take_55 : decode cX6_take 55 = .ok (.iload 4, 2) := by decide +kernel
theorem dX6_take_57 : decode cX6_take 57 = .ok (.invokevirtual 64, 3) := by decide +kernel
theorem dX6_take_60 : decode cX6_take 60 = .ok (.aload_n 0, 1) := by decide +kernel
theorem dX6_take_61 : decode cX6_take 61 = .ok (.dup, 1) := by decide +kernel
theorem dX6_take_62 : decode cX6_take 62 = .ok (.getfield 31, 3) := by decide +kernel
theorem dX6_take_65 : decode cX6_take 65 = .ok (.iconst 1, 1) := by decide +kernel
theorem dX6_take_66 : decode cX6_take 66 = .ok (.iadd, 1) := by decide +kernel
theorem dX6_take_67 : decode cX6_take 67 = .ok (.putfield 31, 3) := by decide +kernel
theorem dX6_take_70 : decode cX6_take 70 = .ok (.return_, 1) := by decide +kernel
theorem dX6_take_71 : decode cX6_take 71 = .ok (.aload_n 0, 1) := by decide +kernel
theorem dX6_take_72 : decode cX6_take 72 = .ok (.getfield 9, 3) := by decide +kernel
theorem dX6_take_75 : decode cX6_take 75 = .ok (.iconst 0, 1) := by decide +kernel
theorem dX6_take_76 : decode cX6_take 76 = .ok (.aload_n 0, 1) := by decide +kernel
theorem dX6_take_77 : decode cX6_take 77 = .ok (.getfield 18, 3) := by decide +kernel
theorem dX6_take_80 : decode cX6_take 80 = .ok (.iconst 0, 1) := by decide +kernel
theorem dX6_take_81 : decode cX6_take 81 = .ok (.aload_n 0, 1) := by decide +kernel
theorem dX6_take_82 : decode cX6_take 82 = .ok (.getfield 9, 3) := by decide +kernel
theorem dX6_take_85 : decode cX6_take 85 = .ok (.arraylength, 1) := by decide +kernel
theorem dX6_take_86 : decode cX6_take 86 = .ok (.invokestatic 45, 3) := by decide +kernel
theorem dX6_take_89 : decode cX6_take 89 = .ok (.aload_n 0, 1) := by decide +kernel
theorem dX6_take_90 : decode cX6_take 90 = .ok (.iload 4, 2) := by decide +kernel
theorem dX6_take_92 : decode cX6_take 92 = .ok (.invokevirtual 64, 3) := by decide +kernel
theorem dX6_take_95 : decode cX6_take 95 = .ok (.aload_n 0, 1) := by decide +kernel
theorem dX6_take_96 : decode cX6_take 96 = .ok (.getfield 15, 3) := by decide +kernel
theorem dX6_take_99 : decode cX6_take 99 = .ok (.astore 5, 2) := by decide +kernel
theorem dX6_take_101 : decode cX6_take 101 = .ok (.aload_n 0, 1) := by decide +kernel
theorem dX6_take_102 : decode cX6_take 102 = .ok (.aload_n 0, 1) := by decide +kernel
theorem dX6_take_103 : decode cX6_take 103 = .ok (.getfield 18, 3) := by decide +kernel
theorem dX6_take_106 : decode cX6_take 106 = .ok (.putfield 15, 3) := by decide +kernel
theorem dX6_take_109 : decode cX6_take 109 = .ok (.aload_n 0, 1) := by decide +kernel
theorem dX6_take_110 : decode cX6_take 110 = .ok (.aload 5, 2) := by decide +kernel
theorem dX6_take_112 : decode cX6_take 112 = .ok (.putfield 18, 3) := by decide +kernel
theorem dX6_take_115 : decode cX6_take 115 = .ok (.aload_n 0, 1) := by decide +kernel
theorem dX6_take_116 : decode cX6_take 116 = .ok (.aload_n 0, 1) := by decide +kernel
theorem dX6_take_117 : decode cX6_take 117 = .ok (.getfield 21, 3) := by decide +kernel
theorem dX6_take_120 : decode cX6_take 120 = .ok (.putfield 25, 3) := by decide +kernel
theorem dX6_take_123 : decode cX6_take 123 = .ok (.aload_n 0, 1) := by decide +kernel
theorem dX6_take_124 : decode cX6_take 124 = .ok (.iload_n 3, 1) := by decide +kernel
theorem dX6_take_125 : decode cX6_take 125 = .ok (.putfield 28, 3) := by decide +kernel
theorem dX6_take_128 : decode cX6_take 128 = .ok (.aload_n 0, 1) := by decide +kernel
theorem dX6_take_129 : decode cX6_take 129 = .ok (.iconst 1, 1) := by decide +kernel
theorem dX6_take_130 : decode cX6_take 130 = .ok (.putfield 31, 3) := by decide +kernel
theorem dX6_take_133 : decode cX6_take 133 = .ok (.aload_n 0, 1) := by decide +kernel
theorem dX6_take_134 : decode cX6_take 134 = .ok (.iload_n 2, 1) := by decide +kernel
theorem dX6_take_135 : decode cX6_take 135 = .ok (.iconst 1, 1) := by decide +kernel
theorem dX6_take_136 : decode cX6_take 136 = .ok (.iadd, 1) := by decide +kernel
theorem dX6_take_137 : decode cX6_take 137 = .ok (.aload_n 0, 1) := by decide +kernel
theorem dX6_take_138 : decode cX6_take 138 = .ok (.getfield 21, 3) := by decide +kernel
theorem dX6_take_141 : decode cX6_take 141 = .ok (.isub, 1) := by decide +kernel
theorem dX6_take_142 : decode cX6_take 142 = .ok (.putfield 21, 3) := by decide +kernel
theorem dX6_take_145 : decode cX6_take 145 = .ok (.return_, 1) := by decide +kernel
theorem dX6_errorAt_0 : decode cX6_errorAt 0 = .ok (.iload_n 2, 1) := by decide +kernel
theorem dX6_errorAt_1 : decode cX6_errorAt 1 = .ok (.ifCond .lt 9, 3) := by decide +kernel
theorem dX6_errorAt_4 : decode cX6_errorAt 4 = .ok (.iload_n 2, 1) := by decide +kernel
theorem dX6_errorAt_5 : decode cX6_errorAt 5 = .ok (.aload_n 1, 1) := by decide +kernel
theorem dX6_errorAt_6 : decode cX6_errorAt 6 = .ok (.arraylength, 1) := by decide +kernel
theorem dX6_errorAt_7 : decode cX6_errorAt 7 = .ok (.if_icmp .lt 5, 3) := by decide +kernel
theorem dX6_errorAt_10 : decode cX6_errorAt 10 = .ok (.iconst 0, 1) := by decide +kernel
theorem dX6_errorAt_11 : decode cX6_errorAt 11 = .ok (.ireturn, 1) := by decide +kernel
theorem dX6_errorAt_12 : decode cX6_errorAt 12 = .ok (.iconst 0, 1) := by decide +kernel
theorem dX6_errorAt_13 : decode cX6_errorAt 13 = .ok (.istore_n 3, 1) := by decide +kernel
theorem dX6_errorAt_14 : decode cX6_errorAt 14 = .ok (.iconst 0, 1) := by decide +kernel
theorem dX6_errorAt_15 : decode cX6_errorAt 15 = .ok (.istore 4, 2) := by decide +kernel
theorem dX6_errorAt_17 : decode cX6_errorAt 17 = .ok (.iload 4, 2) := by decide +kernel
theorem dX6_errorAt_19 : decode cX6_errorAt 19 = .ok (.aload_n 0, 1) := by decide +kernel
theorem dX6_errorAt_20 : decode cX6_errorAt 20 = .ok (.getfield 21, 3) := by decide +kernel
theorem dX6_errorAt_23 : decode cX6_errorAt 23 = .ok (.if_icmp .gt 42, 3) := by decide +kernel
theorem dX6_errorAt_26 : decode cX6_errorAt 26 = .ok (.iload 4, 2) := by decide +kernel
theorem dX6_errorAt_28 : decode cX6_errorAt 28 = .ok (.iload_n 2, 1) := by decide +kernel
theorem dX6_errorAt_29 : decode cX6_errorAt 29 = .ok (.if_icmp .gt 36, 3) := by decide +kernel
theorem dX6_errorAt_32 : decode cX6_errorAt 32 = .ok (.iload 4, 2) := by decide +kernel
theorem dX6_errorAt_34 : decode cX6_errorAt 34 = .ok (.aload_n 0, 1) := by decide +kernel
theorem dX6_errorAt_35 : decode cX6_errorAt 35 = .ok (.getfield 9, 3) := by decide +kernel
theorem dX6_errorAt_38 : decode cX6_errorAt 38 = .ok (.arraylength, 1) := by decide +kernel
theorem dX6_errorAt_39 : decode cX6_errorAt 39 = .ok (.if_icmp .ge 26, 3) := by decide +kernel
theorem dX6_errorAt_42 : decode cX6_errorAt 42 = .ok (.iload_n 3, 1) := by decide +kernel
theorem dX6_errorAt_43 : decode cX6_errorAt 43 = .ok (.aload_n 0, 1) := by decide +kernel
theorem dX6_errorAt_44 : decode cX6_errorAt 44 = .ok (.getfield 9, 3) := by decide +kernel
theorem dX6_errorAt_47 : decode cX6_errorAt 47 = .ok (.iload 4, 2) := by decide +kernel
theorem dX6_errorAt_49 : decode cX6_errorAt 49 = .ok (.iaload, 1) := by decide +kernel
theorem dX6_errorAt_50 : decode cX6_errorAt 50 = .ok (.aload_n 1, 1) := by decide +kernel
theorem dX6_errorAt_51 : decode cX6_errorAt 51 = .ok (.iload_n 2, 1) := by decide +kernel
theorem dX6_errorAt_52 : decode cX6_errorAt 52 = .ok (.iload 4, 2) := by decide +kernel
theorem dX6_errorAt_54 : decode cX6_errorAt 54 = .ok (.isub, 1) := by decide +kernel
theorem dX6_errorAt_55 : decode cX6_errorAt 55 = .ok (.iaload, 1) := by decide +kernel
theorem dX6_errorAt_56 : decode cX6_errorAt 56 = .ok (.imul, 1) := by decide +kernel
theorem dX6_errorAt_57 : decode cX6_errorAt 57 = .ok (.iadd, 1) := by decide +kernel
theorem dX6_errorAt_58 : decode cX6_errorAt 58 = .ok (.istore_n 3, 1) := by decide +kernel
theorem dX6_errorAt_59 : decode cX6_errorAt 59 = .ok (.iinc 4 1, 3) := by decide +kernel
theorem dX6_errorAt_62 : decode cX6_errorAt 62 = .ok (.goto (-45), 3) := by decide +kernel
theorem dX6_errorAt_65 : decode cX6_errorAt 65 = .ok (.iload_n 3, 1) := by decide +kernel
theorem dX6_errorAt_66 : decode cX6_errorAt 66 = .ok (.aload_n 0, 1) := by decide +kernel
theorem dX6_errorAt_67 : decode cX6_errorAt 67 = .ok (.getfield 34, 3) := by decide +kernel
theorem dX6_errorAt_70 : decode cX6_errorAt 70 = .ok (.getfield 55, 3) := by decide +kernel
theorem dX6_errorAt_73 : decode cX6_errorAt 73 = .ok (.irem, 1) := by decide +kernel
theorem dX6_errorAt_74 : decode cX6_errorAt 74 = .ok (.ireturn, 1) := by decide +kernel
theorem dX6_addFormer_0 : decode cX6_addFormer 0 = .ok (.iconst 0, 1) := by decide +kernel
theorem dX6_addFormer_1 : decode cX6_addFormer 1 = .ok (.istore_n 2, 1) := by decide +kernel
theorem dX6_addFormer_2 : decode cX6_addFormer 2 = .ok (.iload_n 2, 1) := by decide +kernel
theorem dX6_addFormer_3 : decode cX6_addFormer 3 = .ok (.aload_n 0, 1) := by decide +kernel
theorem dX6_addFormer_4 : decode cX6_addFormer 4 = .ok (.getfield 25, 3) := by decide +kernel
theorem dX6_addFormer_7 : decode cX6_addFormer 7 = .ok (.if_icmp .gt 62, 3) := by decide +kernel
theorem dX6_addFormer_10 : decode cX6_addFormer 10 = .ok (.iload_n 2, 1) := by decide +kernel
theorem dX6_addFormer_11 : decode cX6_addFormer 11 = .ok (.aload_n 0, 1) := by decide +kernel
theorem dX6_addFormer_12 : decode cX6_addFormer 12 = .ok (.getfield 31, 3) := by decide +kernel
theorem dX6_addFormer_15 : decode cX6_addFormer 15 = .ok (.iadd, 1) := by decide +kernel
theorem dX6_addFormer_16 : decode cX6_addFormer 16 = .ok (.aload_n 0, 1) := by decide +kernel
theorem dX6_addFormer_17 : decode cX6_addFormer 17 = .ok (.getfield 9, 3) := by decide +kernel
theorem dX6_addFormer_20 : decode cX6_addFormer 20 = .ok (.arraylength, 1) := by decide +kernel
theorem dX6_addFormer_21 : decode cX6_addFormer 21 = .ok (.if_icmp .ge 48, 3) := by decide +kernel
theorem dX6_addFormer_24 : decode cX6_addFormer 24 = .ok (.aload_n 0, 1) := by decide +kernel
theorem dX6_addFormer_25 : decode cX6_addFormer 25 = .ok (.getfield 9, 3) := by decide +kernel
theorem dX6_addFormer_28 : decode cX6_addFormer 28 = .ok (.iload_n 2, 1) := by decide +kernel
theorem dX6_addFormer_29 : decode cX6_addFormer 29 = .ok (.aload_n 0, 1) := by decide +kernel
theorem dX6_addFormer_30 : decode cX6_addFormer 30 = .ok (.getfield 31, 3) := by decide +kernel
theorem dX6_addFormer_33 : decode cX6_addFormer 33 = .ok (.iadd, 1) := by decide +kernel
theorem dX6_addFormer_34 : decode cX6_addFormer 34 = .ok (.aload_n 0, 1) := by decide +kernel
theorem dX6_addFormer_35 : decode cX6_addFormer 35 = .ok (.getfield 9, 3) := by decide +kernel
theorem dX6_addFormer_38 : decode cX6_addFormer 38 = .ok (.iload_n 2, 1) := by decide +kernel
theorem dX6_addFormer_39 : decode cX6_addFormer 39 = .ok (.aload_n 0, 1) := by decide +kernel
theorem dX6_addFormer_40 : decode cX6_addFormer 40 = .ok (.getfield 31, 3) := by decide +kernel
theorem dX6_addFormer_43 : decode cX6_addFormer 43 = .ok (.iadd, 1) := by decide +kernel
theorem dX6_addFormer_44 : decode cX6_addFormer 44 = .ok (.iaload, 1) := by decide +kernel
theorem dX6_addFormer_45 : decode cX6_addFormer 45 = .ok (.iload_n 1, 1) := by decide +kernel
theorem dX6_addFormer_46 : decode cX6_addFormer 46 = .ok (.aload_n 0, 1) := by decide +kernel
theorem dX6_addFormer_47 : decode cX6_addFormer 47 = .ok (.getfield 15, 3) := by decide +kernel
theorem dX6_addFormer_50 : decode cX6_addFormer 50 = .ok (.iload_n 2, 1) := by decide +kernel
theorem dX6_addFormer_51 : decode cX6_addFormer 51 = .ok (.iaload, 1) := by decide +kernel
theorem dX6_addFormer_52 : decode cX6_addFormer 52 = .ok (.imul, 1) := by decide +kernel
theorem dX6_addFormer_53 : decode cX6_addFormer 53 = .ok (.iadd, 1) := by decide +kernel
theorem dX6_addFormer_54 : decode cX6_addFormer 54 = .ok (.aload_n 0, 1) := by decide +kernel
theorem dX6_addFormer_55 : decode cX6_addFormer 55 = .ok (.getfield 34, 3) := by decide +kernel
theorem dX6_addFormer_58 : decode cX6_addFormer 58 = .ok (.getfield 55, 3) := by decide +kernel
theorem dX6_addFormer_61 : decode cX6_addFormer 61 = .ok (.irem, 1) := by decide +kernel
theorem dX6_addFormer_62 : decode cX6_addFormer 62 = .ok (.iastore, 1) := by decide +kernel
theorem dX6_addFormer_63 : decode cX6_addFormer 63 = .ok (.iinc 2 1, 3) := by decide +kernel
theorem dX6_addFormer_66 : decode cX6_addFormer 66 = .ok (.goto (-64), 3) := by decide +kernel
theorem dX6_addFormer_69 : decode cX6_addFormer 69 = .ok (.return_, 1) := by decide +kernel
set_option maxRecDepth 20000 in
theorem ggX6_weight_X4_less : GoodIn wsX6_weight wsX4_less := goodIn_r _ [7, 8, 17, 18] (by decide +kernel) (by decide +kernel)
set_option maxRecDepth 20000 in
theorem gX6_weight_X4_less : GoodIn wsX6_weight (wsV RX6 68 RX4 yX4_less wsX4_less) := goodIn_app (goodIn_of _ (by decide +kernel)) ggX6_weight_X4_less
theorem dX6_weight_0 : decode cX6_weight 0 = .ok (.iload_n 1, 1) := by decide +kernel
theorem dX6_weight_1 : decode cX6_weight 1 = .ok (.iconst 1, 1) := by decide +kernel
theorem dX6_weight_2 : decode cX6_weight 2 = .ok (.if_icmp .lt 29, 3) := by decide +kernel
theorem dX6_weight_5 : decode cX6_weight 5 = .ok (.iload_n 1, 1) := by decide +kernel
theorem dX6_weight_6 : decode cX6_weight 6 = .ok (.aload_n 0, 1) := by decide +kernel
theorem dX6_weight_7 : decode cX6_weight 7 = .ok (.getfield 9, 3) := by decide +kernel
theorem dX6_weight_10 : decode cX6_weight 10 = .ok (.arraylength, 1) := by decide +kernel
theorem dX6_weight_11 : decode cX6_weight 11 = .ok (.if_icmp .ge 20, 3) := by decide +kernel
theorem dX6_weight_14 : decode cX6_weight 14 = .ok (.aload_n 0, 1) := by decide +kernel
theorem dX6_weight_15 : decode cX6_weight 15 = .ok (.getfield 34, 3) := by decide +kernel
theorem dX6_weight_18 : decode cX6_weight 18 = .ok (.iconst 0, 1) := by decide +kernel
theorem dX6_weight_19 : decode cX6_weight 19 = .ok (.aload_n 0, 1) := by decide +kernel
theorem dX6_weight_20 : decode cX6_weight 20 = .ok (.getfield 9, 3) := by decide +kernel
theorem dX6_weight_23 : decode cX6_weight 23 = .ok (.iload_n 1, 1) := by decide +kernel
theorem dX6_weight_24 : decode cX6_weight 24 = .ok (.iaload, 1) := by decide +kernel
theorem dX6_weight_25 : decode cX6_weight 25 = .ok (.invokevirtual 68, 3) := by decide +kernel
theorem dX6_weight_28 : decode cX6_weight 28 = .ok (.goto 4, 3) := by decide +kernel
theorem dX6_weight_31 : decode cX6_weight 31 = .ok (.iconst 0, 1) := by decide +kernel
theorem dX6_weight_32 : decode cX6_weight 32 = .ok (.ireturn, 1) := by decide +kernel
end
section
set_option maxRecDepth 20000 in
theorem ggX7_init_X4_init : GoodIn wsX7_init wsX4_init := goodIn_r _ [40, 41, 2, 3, 17, 42, 43, 44, 45, 46, 6, 47, 113, 114] (by decide +kernel) (by decide +kernel)
set_option maxRecDepth 20000 in
theorem gX7_init_X4_init : GoodIn wsX7_init (wsX4_init) := ggX7_init_X4_init
set_option maxRecDepth 20000 in
theorem ggX7_init_X0_init : GoodIn wsX7_init wsX0_init := goodIn_r _ [50, 51, 2, 3, 52, 53, 54, 127, 128, 129] (by decide +kernel) (by decide +kernel)
set_option maxRecDepth 20000 in
theorem gX7_init_X0_init : GoodIn wsX7_init (wsX0_init) := ggX7_init_X0_init
set_option maxRecDepth 20000 in
theorem ggX7_init_X1_init : GoodIn wsX7_init wsX1_init := goodIn_r _ [57, 58, 2, 3, 17, 59, 60, 61, 62, 63, 64, 65, 130, 131, 132, 133, 134, 135, 136] (by decide +kernel) (by decide +kernel)
set_option maxRecDepth 20000 in
theorem gX7_init_X1_init : GoodIn wsX7_init (wsX1_init) := ggX7_init_X1_init
set_option maxRecDepth 20000 in
theorem ggX7_init_X6_init : GoodIn wsX7_init wsX6_init := goodIn_r _ [68, 69, 2, 3, 17, 70, 71, 72, 73, 74, 75, 76, 77, 137, 138, 139, 140, 141, 142, 143, 144] (by decide +kernel) (by decide +kernel)
set_option maxRecDepth 20000 in
theorem gX7_init_X6_init : GoodIn wsX7_init (wsX6_init) := ggX7_init_X6_init
set_option maxRecDepth 20000 in
theorem ggX7_init_X3_init : GoodIn wsX7_init wsX3_init := goodIn_r _ [80, 81, 2, 3, 17, 82, 83, 84, 85, 86, 145, 146, 147, 148, 149] (by decide +kernel) (by decide +kernel)
set_option maxRecDepth 20000 in
theorem gX7_init_X3_init : GoodIn wsX7_init (wsX3_init) := ggX7_init_X3_init
set_option maxRecDepth 20000 in
theorem ggX7_init_X2_init : GoodIn wsX7_init wsX2_init := goodIn_r _ [89, 90, 2, 3, 17, 91, 92, 93, 20, 21, 94, 95, 96, 67, 68, 69, 70, 71, 72, 73, 74, 75, 76, 77, 150, 151, 152, 153, 137, 138, 139, 140, 141, 142, 143, 144] (by decide +kernel) (by decide +kernel)
set_option maxRecDepth 20000 in
theorem gX7_init_X2_init : GoodIn wsX7_init (wsX2_init) := ggX7_init_X2_init
set_option maxRecDepth 20000 in
theorem ggX7_init_X5_init : GoodIn wsX7_init wsX5_init := goodIn_r _ [99, 100, 2, 3, 17, 101, 102, 103, 104, 105, 106, 107, 20, 21, 108, 109, 13, 14, 110, 111, 67, 68, 69, 70, 71, 72, 73, 74, 75, 76, 77, 112, 56, 57, 58, 59, 60, 61, 62, 63, 64, 65, 154, 155, 156, 157, 158, 159, 160, 161, 137, 138, 139, 140, 141, 142, 143, 144, 130, 131, 132, 133, 134, 135, 136] (by decide +kernel) (by decide +kernel)
set_option maxRecDepth 20000 in
theorem gX7_init_X5_init : GoodIn wsX7_init (wsX5_init) := ggX7_init_X5_init
theorem dX7_init_0 : decode cX7_init 0 = .ok (.aload_n 0, 1) := by decide +kernel
theorem dX7_init_1 : decode cX7_init 1 = .ok (.invokespecial 1, 3) := by decide +kernel
theorem dX7_init_4 : decode cX7_init 4 = .ok (.aload_n 0, 1) := by decide +kernel
theorem dX7_init_5 : decode cX7_init 5 = .ok (.new 7, 3) := by decide +kernel
theorem dX7_init_8 : decode cX7_init 8 = .ok (.dup, 1) := by decide +kernel
theorem dX7_init_9 : decode cX7_init 9 = .ok (.invokespecial 9, 3) := by decide +kernel
theorem dX7_init_12 : decode cX7_init 12 = .ok (.putfield 10, 3) := by decide +kernel
theorem dX7_init_15 : decode cX7_init 15 = .ok (.aload_n 0, 1) := by decide +kernel
theorem dX7_init_16 : decode cX7_init 16 = .ok (.new 16, 3) := by decide +kernel
theorem dX7_init_19 : decode cX7_init 19 = .ok (.dup, 1) := by decide +kernel
theorem dX7_init_20 : decode cX7_init 20 = .ok (.aload_n 0, 1) := by decide +kernel
theorem dX7_init_21 : decode cX7_init 21 = .ok (.getfield 10, 3) := by decide +kernel
theorem dX7_init_24 : decode cX7_init 24 = .ok (.invokespecial 18, 3) := by decide +kernel
theorem dX7_init_27 : decode cX7_init 27 = .ok (.putfield 21, 3) := by decide +kernel
theorem dX7_init_30 : decode cX7_init 30 = .ok (.aload_n 0, 1) := by decide +kernel
theorem dX7_init_31 : decode cX7_init 31 = .ok (.new 25, 3) := by decide +kernel
theorem dX7_init_34 : decode cX7_init 34 = .ok (.dup, 1) := by decide +kernel
theorem dX7_init_35 : decode cX7_init 35 = .ok (.aload_n 0, 1) := by decide +kernel
theorem dX7_init_36 : decode cX7_init 36 = .ok (.getfield 10, 3) := by decide +kernel
theorem dX7_init_39 : decode cX7_init 39 = .ok (.aload_n 0, 1) := by decide +kernel
theorem dX7_init_40 : decode cX7_init 40 = .ok (.getfield 21, 3) := by decide +kernel
theorem dX7_init_43 : decode cX7_init 43 = .ok (.invokespecial 27, 3) := by decide +kernel
theorem dX7_init_46 : decode cX7_init 46 = .ok (.putfield 30, 3) := by decide +kernel
theorem dX7_init_49 : decode cX7_init 49 = .ok (.aload_n 0, 1) := by decide +kernel
theorem dX7_init_50 : decode cX7_init 50 = .ok (.new 25, 3) := by decide +kernel
theorem dX7_init_53 : decode cX7_init 53 = .ok (.dup, 1) := by decide +kernel
theorem dX7_init_54 : decode cX7_init 54 = .ok (.aload_n 0, 1) := by decide +kernel
theorem dX7_init_55 : decode cX7_init 55 = .ok (.getfield 10, 3) := by decide +kernel
theorem dX7_init_58 : decode cX7_init 58 = .ok (.aload_n 0, 1) := by decide +kernel
theorem dX7_init_59 : decode cX7_init 59 = .ok (.getfield 21, 3) := by decide +kernel
theorem dX7_init_62 : decode cX7_init 62 = .ok (.invokespecial 27, 3) := by decide +kernel
theorem dX7_init_65 : decode cX7_init 65 = .ok (.putfield 34, 3) := by decide +kernel
theorem dX7_init_68 : decode cX7_init 68 = .ok (.aload_n 0, 1) := by decide +kernel
theorem dX7_init_69 : decode cX7_init 69 = .ok (.bipush 16, 2) := by decide +kernel
theorem dX7_init_71 : decode cX7_init 71 = .ok (.newarray .int, 2) := by decide +kernel
theorem dX7_init_73 : decode cX7_init 73 = .ok (.putfield 37, 3) := by decide +kernel
theorem dX7_init_76 : decode cX7_init 76 = .ok (.aload_n 0, 1) := by decide +kernel
theorem dX7_init_77 : decode cX7_init 77 = .ok (.new 41, 3) := by decide +kernel
theorem dX7_init_80 : decode cX7_init 80 = .ok (.dup, 1) := by decide +kernel
theorem dX7_init_81 : decode cX7_init 81 = .ok (.aload_n 0, 1) := by decide +kernel
theorem dX7_init_82 : decode cX7_init 82 = .ok (.getfield 10, 3) := by decide +kernel
theorem dX7_init_85 : decode cX7_init 85 = .ok (.invokespecial 43, 3) := by decide +kernel
theorem dX7_init_88 : decode cX7_init 88 = .ok (.putfield 44, 3) := by decide +kernel
theorem dX7_init_91 : decode cX7_init 91 = .ok (.aload_n 0, 1) := by decide +kernel
theorem dX7_init_92 : decode cX7_init 92 = .ok (.new 48, 3) := by decide +kernel
theorem dX7_init_95 : decode cX7_init 95 = .ok (.dup, 1) := by decide +kernel
theorem dX7_init_96 : decode cX7_init 96 = .ok (.aload_n 0, 1) := by decide +kernel
theorem dX7_init_97 : decode cX7_init 97 = .ok (.getfield 10, 3) := by decide +kernel
theorem dX7_init_100 : decode cX7_init 100 = .ok (.invokespecial 50, 3) := by decide +kernel
theorem dX7_init_103 : decode cX7_init 103 = .ok (.putfield 51, 3) := by decide +kernel
theorem dX7_init_106 : decode cX7_init 106 = .ok (.aload_n 0, 1) := by decide +kernel
theorem dX7_init_107 : decode cX7_init 107 = .ok (.new 55, 3) := by decide +kernel
theorem dX7_init_110 : decode cX7_init 110 = .ok (.dup, 1) := by decide +kernel
theorem dX7_init_111 : decode cX7_init 111 = .ok (.aload_n 0, 1) := by decide +kernel
theorem dX7_init_112 : decode cX7_init 112 = .ok (.getfield 10, 3) := by decide +kernel
theorem dX7_init_115 : decode cX7_init 115 = .ok (.invokespecial 57, 3) := by decide +kernel
theorem dX7_init_118 : decode cX7_init 118 = .ok (.putfield 58, 3) := by decide +kernel
theorem dX7_init_121 : decode cX7_init 121 = .ok (.aload_n 0, 1) := by decide +kernel
theorem dX7_init_122 : decode cX7_init 122 = .ok (.new 62, 3) := by decide +kernel
theorem dX7_init_125 : decode cX7_init 125 = .ok (.dup, 1) := by decide +kernel
theorem dX7_init_126 : decode cX7_init 126 = .ok (.aload_n 0, 1) := by decide +kernel
theorem dX7_init_127 : decode cX7_init 127 = .ok (.getfield 10, 3) := by decide +kernel
theorem dX7_init_130 : decode cX7_init 130 = .ok (.aload_n 0, 1) := by decide +kernel
theorem dX7_init_131 : decode cX7_init 131 = .ok (.getfield 21, 3) := by decide +kernel
theorem dX7_init_134 : decode cX7_init 134 = .ok (.invokespecial 64, 3) := by decide +kernel
theorem dX7_init_137 : decode cX7_init 137 = .ok (.putfield 65, 3) := by decide +kernel
theorem dX7_init_140 : decode cX7_init 140 = .ok (.aload_n 0, 1) := by decide +kernel
theorem dX7_init_141 : decode cX7_init 141 = .ok (.iconst 0, 1) := by decide +kernel
theorem dX7_init_142 : decode cX7_init 142 = .ok (.putfield 69, 3) := by decide +kernel
theorem dX7_init_145 : decode cX7_init 145 = .ok (.aload_n 0, 1) := by decide +kernel
theorem dX7_init_146 : decode cX7_init 146 = .ok (.iconst 0, 1) := by decide +kernel
theorem dX7_init_147 : decode cX7_init 147 = .ok (.putfield 73, 3) := by decide +kernel
theorem dX7_init_150 : decode cX7_init 150 = .ok (.aload_n 0, 1) := by decide +kernel
theorem dX7_init_151 : decode cX7_init 151 = .ok (.lconst 0, 1) := by decide +kernel
theorem dX7_init_152 : decode cX7_init 152 = .ok (.putfield 76, 3) := by decide +kernel
theorem dX7_init_155 : decode cX7_init 155 = .ok (.return_, 1) := by decide +kernel
set_option maxRecDepth 20000 in
theorem ggX7_field_X4_become : GoodIn wsX7_field wsX4_become := goodIn_r _ [9, 10, 11, 12, 8, 13, 14, 15, 16, 17, 18, 37, 38] (by decide +kernel) (by decide +kernel)
set_option maxRecDepth 20000 in
theorem gX7_field_X4_become : GoodIn wsX7_field (wsV RX7 83 RX4 yX4_become wsX4_become) := goodIn_app (goodIn_of _ (by decide +kernel)) ggX7_field_X4_become
set_option maxRecDepth 20000 in
theorem ggX7_field_X1_drop : GoodIn wsX7_field wsX1_drop := goodIn_r _ [23, 24, 39, 40, 41, 42, 43, 44, 45] (by decide +kernel) (by decide +kernel)
set_option maxRecDepth 20000 in
theorem gX7_field_X1_drop : GoodIn wsX7_field (wsV RX7 87 RX1 yX1_drop wsX1_drop) := goodIn_app (goodIn_of _ (by decide +kernel)) ggX7_field_X1_drop
theorem dX7_field_0 : decode cX7_field 0 = .ok (.aload_n 0, 1) := by decide +kernel
theorem dX7_field_1 : decode cX7_field 1 = .ok (.getfield 10, 3) := by decide +kernel
theorem dX7_field_4 : decode cX7_field 4 = .ok (.getfield 80, 3) := by decide +kernel
theorem dX7_field_7 : decode cX7_field 7 = .ok (.istore_n 2, 1) := by decide +kernel
theorem dX7_field_8 : decode cX7_field 8 = .ok (.aload_n 0, 1) := by decide +kernel
theorem dX7_field_9 : decode cX7_field 9 = .ok (.getfield 10, 3) := by decide +kernel
theorem dX7_field_12 : decode cX7_field 12 = .ok (.iload_n 1, 1) := by decide +kernel
theorem dX7_field_13 : decode cX7_field 13 = .ok (.invokevirtual 83, 3) := by decide +kernel
theorem dX7_field_16 : decode cX7_field 16 = .ok (.ifCond .ne 5, 3) := by decide +kernel
theorem dX7_field_19 : decode cX7_field 19 = .ok (.iconst (-1), 1) := by decide +kernel
theorem dX7_field_20 : decode cX7_field 20 = .ok (.ireturn, 1) := by decide +kernel
theorem dX7_field_21 : decode cX7_field 21 = .ok (.aload_n 0, 1) := by decide +kernel
theorem dX7_field_22 : decode cX7_field 22 = .ok (.getfield 30, 3) := by decide +kernel
theorem dX7_field_25 : decode cX7_field 25 = .ok (.invokevirtual 87, 3) := by decide +kernel
theorem dX7_field_28 : decode cX7_field 28 = .ok (.aload_n 0, 1) := by decide +kernel
theorem dX7_field_29 : decode cX7_field 29 = .ok (.getfield 34, 3) := by decide +kernel
theorem dX7_field_32 : decode cX7_field 32 = .ok (.invokevirtual 87, 3) := by decide +kernel
theorem dX7_field_35 : decode cX7_field 35 = .ok (.aload_n 0, 1) := by decide +kernel
theorem dX7_field_36 : decode cX7_field 36 = .ok (.iconst 0, 1) := by decide +kernel
theorem dX7_field_37 : decode cX7_field 37 = .ok (.putfield 69, 3) := by decide +kernel
theorem dX7_field_40 : decode cX7_field 40 = .ok (.iload_n 2, 1) := by decide +kernel
theorem dX7_field_41 : decode cX7_field 41 = .ok (.ireturn, 1) := by decide +kernel
set_option maxRecDepth 20000 in
theorem ggX7_set_X7_setShift : GoodIn wsX7_set wsX7_setShift := goodIn_r _ [7, 8, 19, 20, 21, 22, 23, 24, 25, 26, 27, 28, 29, 30, 31, 32, 33] (by decide +kernel) (by decide +kernel)
set_option maxRecDepth 20000 in
theorem gX7_set_X7_setShift : GoodIn wsX7_set (wsV RX7 90 RX7 yX7_setShift wsX7_setShift) := goodIn_app (goodIn_of _ (by decide +kernel)) ggX7_set_X7_setShift
set_option maxRecDepth 20000 in
theorem ggX7_set_X7_setScale : GoodIn wsX7_set wsX7_setScale := goodIn_r _ [12, 8, 19, 20, 21, 22, 23, 24, 25, 26, 27, 28, 29, 30, 31, 32, 33] (by decide +kernel) (by decide +kernel)
set_option maxRecDepth 20000 in
theorem gX7_set_X7_setScale : GoodIn wsX7_set (wsV RX7 94 RX7 yX7_setScale wsX7_setScale) := goodIn_app (goodIn_of _ (by decide +kernel)) ggX7_set_X7_setScale
set_option maxRecDepth 20000 in
theorem ggX7_set_X7_setKind : GoodIn wsX7_set wsX7_setKind := goodIn_r _ [15, 16, 17, 6, 18, 34, 35, 36, 37, 38, 39, 40] (by decide +kernel) (by decide +kernel)
set_option maxRecDepth 20000 in
theorem gX7_set_X7_setKind : GoodIn wsX7_set (va_wsS RX7 97 yX7_setKind wsX7_setKind) := goodIn_app (goodIn_of _ (by decide +kernel)) ggX7_set_X7_setKind
theorem dX7_set_0 : decode cX7_set 0 = .ok (.iload_n 1, 1) := by decide +kernel
theorem dX7_set_1 : decode cX7_set 1 = .ok (.tableswitch 61 0 3 #[31, 37, 43, 52], 31) := by decide +kernel
theorem dX7_set_32 : decode cX7_set 32 = .ok (.aload_n 0, 1) := by decide +kernel
theorem dX7_set_33 : decode cX7_set 33 = .ok (.iload_n 2, 1) := by decide +kernel
theorem dX7_set_34 : decode cX7_set 34 = .ok (.invokevirtual 90, 3) := by decide +kernel
theorem dX7_set_37 : decode cX7_set 37 = .ok (.ireturn, 1) := by decide +kernel
theorem dX7_set_38 : decode cX7_set 38 = .ok (.aload_n 0, 1) := by decide +kernel
theorem dX7_set_39 : decode cX7_set 39 = .ok (.iload_n 2, 1) := by decide +kernel
theorem dX7_set_40 : decode cX7_set 40 = .ok (.invokevirtual 94, 3) := by decide +kernel
theorem dX7_set_43 : decode cX7_set 43 = .ok (.ireturn, 1) := by decide +kernel
theorem dX7_set_44 : decode cX7_set 44 = .ok (.aload_n 0, 1) := by decide +kernel
theorem dX7_set_45 : decode cX7_set 45 = .ok (.getfield 30, 3) := by decide +kernel
theorem dX7_set_48 : decode cX7_set 48 = .ok (.iload_n 2, 1) := by decide +kernel
theorem dX7_set_49 : decode cX7_set 49 = .ok (.invokestatic 97, 3) := by decide +kernel
theorem dX7_set_52 : decode cX7_set 52 = .ok (.ireturn, 1) := by decide +kernel
theorem dX7_set_53 : decode cX7_set 53 = .ok (.aload_n 0, 1) := by decide +kernel
theorem dX7_set_54 : decode cX7_set 54 = .ok (.getfield 34, 3) := by decide +kernel
theorem dX7_set_57 : decode cX7_set 57 = .ok (.iload_n 2, 1) := by decide +kernel
theorem dX7_set_58 : decode cX7_set 58 = .ok (.invokestatic 97, 3) := by decide +kernel
theorem dX7_set_61 : decode cX7_set 61 = .ok (.ireturn, 1) := by decide +kernel
theorem dX7_set_62 : decode cX7_set 62 = .ok (.iconst (-1), 1) := by decide +kernel
theorem dX7_set_63 : decode cX7_set 63 = .ok (.ireturn, 1) := by decide +kernel
theorem dX7_setShift_0 : decode cX7_setShift 0 = .ok (.iload_n 1, 1) := by decide +kernel
theorem dX7_setShift_1 : decode cX7_setShift 1 = .ok (.ifCond .lt 10, 3) := by decide +kernel
theorem dX7_setShift_4 : decode cX7_setShift 4 = .ok (.iload_n 1, 1) := by decide +kernel
theorem dX7_setShift_5 : decode cX7_setShift 5 = .ok (.sipush 996, 3) := by decide +kernel
theorem dX7_setShift_8 : decode cX7_setShift 8 = .ok (.if_icmp .le 5, 3) := by decide +kernel
theorem dX7_setShift_11 : decode cX7_setShift 11 = .ok (.iconst (-1), 1) := by decide +kernel
theorem dX7_setShift_12 : decode cX7_setShift 12 = .ok (.ireturn, 1) := by decide +kernel
theorem dX7_setShift_13 : decode cX7_setShift 13 = .ok (.aload_n 0, 1) := by decide +kernel
theorem dX7_setShift_14 : decode cX7_setShift 14 = .ok (.getfield 21, 3) := by decide +kernel
theorem dX7_setShift_17 : decode cX7_setShift 17 = .ok (.getfield 101, 3) := by decide +kernel
theorem dX7_setShift_20 : decode cX7_setShift 20 = .ok (.istore_n 2, 1) := by decide +kernel
theorem dX7_setShift_21 : decode cX7_setShift 21 = .ok (.aload_n 0, 1) := by decide +kernel
theorem dX7_setShift_22 : decode cX7_setShift 22 = .ok (.getfield 21, 3) := by decide +kernel
theorem dX7_setShift_25 : decode cX7_setShift 25 = .ok (.iload_n 1, 1) := by decide +kernel
theorem dX7_setShift_26 : decode cX7_setShift 26 = .ok (.putfield 101, 3) := by decide +kernel
theorem dX7_setShift_29 : decode cX7_setShift 29 = .ok (.iload_n 2, 1) := by decide +kernel
theorem dX7_setShift_30 : decode cX7_setShift 30 = .ok (.ireturn, 1) := by decide +kernel
theorem dX7_setScale_0 : decode cX7_setScale 0 = .ok (.iload_n 1, 1) := by decide +kernel
theorem dX7_setScale_1 : decode cX7_setScale 1 = .ok (.iconst 1, 1) := by decide +kernel
theorem dX7_setScale_2 : decode cX7_setScale 2 = .ok (.if_icmp .lt 10, 3) := by decide +kernel
theorem dX7_setScale_5 : decode cX7_setScale 5 = .ok (.iload_n 1, 1) := by decide +kernel
theorem dX7_setScale_6 : decode cX7_setScale 6 = .ok (.sipush 996, 3) := by decide +kernel
theorem dX7_setScale_9 : decode cX7_setScale 9 = .ok (.if_icmp .le 5, 3) := by decide +kernel
theorem dX7_setScale_12 : decode cX7_setScale 12 = .ok (.iconst (-1), 1) := by decide +kernel
theorem dX7_setScale_13 : decode cX7_setScale 13 = .ok (.ireturn, 1) := by decide +kernel
theorem dX7_setScale_14 : decode cX7_setScale 14 = .ok (.aload_n 0, 1) := by decide +kernel
theorem dX7_setScale_15 : decode cX7_setScale 15 = .ok (.getfield 21, 3) := by decide +kernel
theorem dX7_setScale_18 : decode cX7_setScale 18 = .ok (.getfield 104, 3) := by decide +kernel
theorem dX7_setScale_21 : decode cX7_setScale 21 = .ok (.istore_n 2, 1) := by decide +kernel
theorem dX7_setScale_22 : decode cX7_setScale 22 = .ok (.aload_n 0, 1) := by decide +kernel
theorem dX7_setScale_23 : decode cX7_setScale 23 = .ok (.getfield 21, 3) := by decide +kernel
theorem dX7_setScale_26 : decode cX7_setScale 26 = .ok (.iload_n 1, 1) := by decide +kernel
theorem dX7_setScale_27 : decode cX7_setScale 27 = .ok (.putfield 104, 3) := by decide +kernel
theorem dX7_setScale_30 : decode cX7_setScale 30 = .ok (.iload_n 2, 1) := by decide +kernel
theorem dX7_setScale_31 : decode cX7_setScale 31 = .ok (.ireturn, 1) := by decide +kernel
set_option maxRecDepth 20000 in
theorem ggX7_setKind_X7_isKind : GoodIn wsX7_setKind wsX7_isKind := goodIn_r _ [4] (by decide +kernel) (by decide +kernel)
set_option maxRecDepth 20000 in
theorem gX7_setKind_X7_isKind : GoodIn wsX7_setKind (va_wsS RX7 107 yX7_isKind wsX7_isKind) := goodIn_app (goodIn_of _ (by decide +kernel)) ggX7_setKind_X7_isKind
theorem dX7_setKind_0 : decode cX7_setKind 0 = .ok (.iload_n 1, 1) := by decide +kernel
theorem dX7_setKind_1 : decode cX7_setKind 1 = .ok (.invokestatic 107, 3) := by decide +kernel
theorem dX7_setKind_4 : decode cX7_setKind 4 = .ok (.ifCond .ne 5, 3) := by decide +kernel
theorem dX7_setKind_7 : decode cX7_setKind 7 = .ok (.iconst (-1), 1) := by decide +kernel
theorem dX7_setKind_8 : decode cX7_setKind 8 = .ok (.ireturn, 1) := by decide +kernel
theorem dX7_setKind_9 : decode cX7_setKind 9 = .ok (.aload_n 0, 1) := by decide +kernel
theorem dX7_setKind_10 : decode cX7_setKind 10 = .ok (.getfield 110, 3) := by decide +kernel
theorem dX7_setKind_13 : decode cX7_setKind 13 = .ok (.istore_n 2, 1) := by decide +kernel
theorem dX7_setKind_14 : decode cX7_setKind 14 = .ok (.aload_n 0, 1) := by decide +kernel
theorem dX7_setKind_15 : decode cX7_setKind 15 = .ok (.iload_n 1, 1) := by decide +kernel
theorem dX7_setKind_16 : decode cX7_setKind 16 = .ok (.putfield 110, 3) := by decide +kernel
theorem dX7_setKind_19 : decode cX7_setKind 19 = .ok (.iload_n 2, 1) := by decide +kernel
theorem dX7_setKind_20 : decode cX7_setKind 20 = .ok (.ireturn, 1) := by decide +kernel
set_option maxRecDepth 20000 in
theorem ggX7_form_X7_isKind : GoodIn wsX7_form wsX7_isKind := goodIn_r _ [7] (by decide +kernel) (by decide +kernel)
set_option maxRecDepth 20000 in
theorem gX7_form_X7_isKind : GoodIn wsX7_form (va_wsS RX7 107 yX7_isKind wsX7_isKind) := goodIn_app (goodIn_of _ (by decide +kernel)) ggX7_form_X7_isKind
set_option maxRecDepth 20000 in
theorem ggX7_form_X4_has : GoodIn wsX7_form wsX4_has := goodIn_r _ [12, 13, 60, 61] (by decide +kernel) (by decide +kernel)
set_option maxRecDepth 20000 in
theorem gX7_form_X4_has : GoodIn wsX7_form (wsV RX7 113 RX4 yX4_has wsX4_has) := goodIn_app (goodIn_of _ (by decide +kernel)) ggX7_form_X4_has
set_option maxRecDepth 20000 in
theorem ggX7_form_X7_isExponent : GoodIn wsX7_form wsX7_isExponent := goodIn_r _ [16] (by decide +kernel) (by decide +kernel)
set_option maxRecDepth 20000 in
theorem gX7_form_X7_isExponent : GoodIn wsX7_form (va_wsS RX7 116 yX7_isExponent wsX7_isExponent) := goodIn_app (goodIn_of _ (by decide +kernel)) ggX7_form_X7_isExponent
set_option maxRecDepth 20000 in
theorem ggX7_form_X0_bodiesAsked : GoodIn wsX7_form wsX0_bodiesAsked := goodIn_r _ [20] (by decide +kernel) (by decide +kernel)
set_option maxRecDepth 20000 in
theorem gX7_form_X0_bodiesAsked : GoodIn wsX7_form (va_wsS RX7 119 yX0_bodiesAsked wsX0_bodiesAsked) := goodIn_app (goodIn_of _ (by decide +kernel)) ggX7_form_X0_bodiesAsked
set_option maxRecDepth 20000 in
theorem ggX7_form_X0_letter : GoodIn wsX7_form wsX0_letter := goodIn_r _ [24, 25, 26, 27, 28, 19, 29, 30, 31, 32, 33, 34, 35, 36, 37, 38, 11, 39, 13, 40, 41, 42, 43, 44, 45, 46, 47, 62, 63, 64, 60, 61] (by decide +kernel) (by decide +kernel)
set_option maxRecDepth 20000 in
theorem gX7_form_X0_letter : GoodIn wsX7_form (wsV RX7 122 RX0 yX0_letter wsX0_letter) := goodIn_app (goodIn_of _ (by decide +kernel)) ggX7_form_X0_letter
theorem dX7_form_0 : decode cX7_form 0 = .ok (.iload_n 1, 1) := by decide +kernel
theorem dX7_form_1 : decode cX7_form 1 = .ok (.invokestatic 107, 3) := by decide +kernel
theorem dX7_form_4 : decode cX7_form 4 = .ok (.ifCond .eq 21, 3) := by decide +kernel
theorem dX7_form_7 : decode cX7_form 7 = .ok (.aload_n 0, 1) := by decide +kernel
theorem dX7_form_8 : decode cX7_form 8 = .ok (.getfield 10, 3) := by decide +kernel
theorem dX7_form_11 : decode cX7_form 11 = .ok (.iload_n 2, 1) := by decide +kernel
theorem dX7_form_12 : decode cX7_form 12 = .ok (.invokevirtual 113, 3) := by decide +kernel
theorem dX7_form_15 : decode cX7_form 15 = .ok (.ifCond .eq 10, 3) := by decide +kernel
theorem dX7_form_18 : decode cX7_form 18 = .ok (.iload_n 3, 1) := by decide +kernel
theorem dX7_form_19 : decode cX7_form 19 = .ok (.invokestatic 116, 3) := by decide +kernel
theorem dX7_form_22 : decode cX7_form 22 = .ok (.ifCond .ne 5, 3) := by decide +kernel
theorem dX7_form_25 : decode cX7_form 25 = .ok (.iconst (-1), 1) := by decide +kernel
theorem dX7_form_26 : decode cX7_form 26 = .ok (.ireturn, 1) := by decide +kernel
theorem dX7_form_27 : decode cX7_form 27 = .ok (.aload_n 0, 1) := by decide +kernel
theorem dX7_form_28 : decode cX7_form 28 = .ok (.dup, 1) := by decide +kernel
theorem dX7_form_29 : decode cX7_form 29 = .ok (.getfield 76, 3) := by decide +kernel
theorem dX7_form_32 : decode cX7_form 32 = .ok (.iload_n 1, 1) := by decide +kernel
theorem dX7_form_33 : decode cX7_form 33 = .ok (.invokestatic 119, 3) := by decide +kernel
theorem dX7_form_36 : decode cX7_form 36 = .ok (.i2l, 1) := by decide +kernel
theorem dX7_form_37 : decode cX7_form 37 = .ok (.ladd, 1) := by decide +kernel
theorem dX7_form_38 : decode cX7_form 38 = .ok (.putfield 76, 3) := by decide +kernel
theorem dX7_form_41 : decode cX7_form 41 = .ok (.aload_n 0, 1) := by decide +kernel
theorem dX7_form_42 : decode cX7_form 42 = .ok (.getfield 21, 3) := by decide +kernel
theorem dX7_form_45 : decode cX7_form 45 = .ok (.iload_n 1, 1) := by decide +kernel
theorem dX7_form_46 : decode cX7_form 46 = .ok (.iload_n 2, 1) := by decide +kernel
theorem dX7_form_47 : decode cX7_form 47 = .ok (.iload_n 3, 1) := by decide +kernel
theorem dX7_form_48 : decode cX7_form 48 = .ok (.invokevirtual 122, 3) := by decide +kernel
theorem dX7_form_51 : decode cX7_form 51 = .ok (.ireturn, 1) := by decide +kernel
set_option maxRecDepth 20000 in
theorem ggX7_term_X7_isBox : GoodIn wsX7_term wsX7_isBox := goodIn_r _ [5] (by decide +kernel) (by decide +kernel)
set_option maxRecDepth 20000 in
theorem gX7_term_X7_isBox : GoodIn wsX7_term (va_wsS RX7 126 yX7_isBox wsX7_isBox) := goodIn_app (goodIn_of _ (by decide +kernel)) ggX7_term_X7_isBox
set_option maxRecDepth 20000 in
theorem ggX7_term_X4_has : GoodIn wsX7_term wsX4_has := goodIn_r _ [10, 11, 47, 48] (by decide +kernel) (by decide +kernel)
set_option maxRecDepth 20000 in
theorem gX7_term_X4_has : GoodIn wsX7_term (wsV RX7 113 RX4 yX4_has wsX4_has) := goodIn_app (goodIn_of _ (by decide +kernel)) ggX7_term_X4_has
set_option maxRecDepth 20000 in
theorem ggX7_term_X7_isExponent : GoodIn wsX7_term wsX7_isExponent := goodIn_r _ [14] (by decide +kernel) (by decide +kernel)
set_option maxRecDepth 20000 in
theorem gX7_term_X7_isExponent : GoodIn wsX7_term (va_wsS RX7 116 yX7_isExponent wsX7_isExponent) := goodIn_app (goodIn_of _ (by decide +kernel)) ggX7_term_X7_isExponent
set_option maxRecDepth 20000 in
theorem ggX7_term_X7_boxOf : GoodIn wsX7_term wsX7_boxOf := goodIn_r _ [18, 19, 20, 28, 29, 30, 31, 32, 33, 34, 35, 36, 37, 38, 39] (by decide +kernel) (by decide +kernel)
set_option maxRecDepth 20000 in
theorem gX7_term_X7_boxOf : GoodIn wsX7_term (wsV RX7 129 RX7 yX7_boxOf wsX7_boxOf) := goodIn_app (goodIn_of _ (by decide +kernel)) ggX7_term_X7_boxOf
set_option maxRecDepth 20000 in
theorem ggX7_term_X1_add : GoodIn wsX7_term wsX1_add := goodIn_r _ [25, 26, 27, 40, 41, 42, 43, 44, 45, 46] (by decide +kernel) (by decide +kernel)
set_option maxRecDepth 20000 in
theorem gX7_term_X1_add : GoodIn wsX7_term (wsV RX7 136 RX1 yX1_add wsX1_add) := goodIn_app (goodIn_of _ (by decide +kernel)) ggX7_term_X1_add
theorem dX7_term_0 : decode cX7_term 0 = .ok (.iload_n 1, 1) := by decide +kernel
theorem dX7_term_1 : decode cX7_term 1 = .ok (.invokestatic 126, 3) := by decide +kernel
theorem dX7_term_4 : decode cX7_term 4 = .ok (.ifCond .eq 18, 3) := by decide +kernel
theorem dX7_term_7 : decode cX7_term 7 = .ok (.iload_n 2, 1) := by decide +kernel
theorem dX7_term_8 : decode cX7_term 8 = .ok (.ifCond .eq 14, 3) := by decide +kernel
theorem dX7_term_11 : decode cX7_term 11 = .ok (.aload_n 0, 1) := by decide +kernel
theorem dX7_term_12 : decode cX7_term 12 = .ok (.getfield 10, 3) := by decide +kernel
theorem dX7_term_15 : decode cX7_term 15 = .ok (.iload_n 2, 1) := by decide +kernel
theorem dX7_term_16 : decode cX7_term 16 = .ok (.invokevirtual 113, 3) := by decide +kernel
theorem dX7_term_19 : decode cX7_term 19 = .ok (.ifCond .ne 5, 3) := by decide +kernel
theorem dX7_term_22 : decode cX7_term 22 = .ok (.iconst (-1), 1) := by decide +kernel
theorem dX7_term_23 : decode cX7_term 23 = .ok (.ireturn, 1) := by decide +kernel
theorem dX7_term_24 : decode cX7_term 24 = .ok (.iload_n 3, 1) := by decide +kernel
theorem dX7_term_25 : decode cX7_term 25 = .ok (.invokestatic 116, 3) := by decide +kernel
theorem dX7_term_28 : decode cX7_term 28 = .ok (.ifCond .eq 19, 3) := by decide +kernel
theorem dX7_term_31 : decode cX7_term 31 = .ok (.iload 4, 2) := by decide +kernel
theorem dX7_term_33 : decode cX7_term 33 = .ok (.invokestatic 116, 3) := by decide +kernel
theorem dX7_term_36 : decode cX7_term 36 = .ok (.ifCond .eq 11, 3) := by decide +kernel
theorem dX7_term_39 : decode cX7_term 39 = .ok (.iload 5, 2) := by decide +kernel
theorem dX7_term_41 : decode cX7_term 41 = .ok (.invokestatic 116, 3) := by decide +kernel
theorem dX7_term_44 : decode cX7_term 44 = .ok (.ifCond .ne 5, 3) := by decide +kernel
theorem dX7_term_47 : decode cX7_term 47 = .ok (.iconst (-1), 1) := by decide +kernel
theorem dX7_term_48 : decode cX7_term 48 = .ok (.ireturn, 1) := by decide +kernel
theorem dX7_term_49 : decode cX7_term 49 = .ok (.aload_n 0, 1) := by decide +kernel
theorem dX7_term_50 : decode cX7_term 50 = .ok (.iload_n 1, 1) := by decide +kernel
theorem dX7_term_51 : decode cX7_term 51 = .ok (.invokevirtual 129, 3) := by decide +kernel
theorem dX7_term_54 : decode cX7_term 54 = .ok (.astore 6, 2) := by decide +kernel
theorem dX7_term_56 : decode cX7_term 56 = .ok (.aload 6, 2) := by decide +kernel
theorem dX7_term_58 : decode cX7_term 58 = .ok (.getfield 133, 3) := by decide +kernel
theorem dX7_term_61 : decode cX7_term 61 = .ok (.istore 7, 2) := by decide +kernel
theorem dX7_term_63 : decode cX7_term 63 = .ok (.aload 6, 2) := by decide +kernel
theorem dX7_term_65 : decode cX7_term 65 = .ok (.iload_n 2, 1) := by decide +kernel
theorem dX7_term_66 : decode cX7_term 66 = .ok (.iload_n 3, 1) := by decide +kernel
theorem dX7_term_67 : decode cX7_term 67 = .ok (.iload 4, 2) := by decide +kernel
theorem dX7_term_69 : decode cX7_term 69 = .ok (.iload 5, 2) := by decide +kernel
theorem dX7_term_71 : decode cX7_term 71 = .ok (.invokevirtual 136, 3) := by decide +kernel
theorem dX7_term_74 : decode cX7_term 74 = .ok (.ifCond .eq 8, 3) := by decide +kernel
theorem dX7_term_77 : decode cX7_term 77 = .ok (.iload 7, 2) := by decide +kernel
theorem dX7_term_79 : decode cX7_term 79 = .ok (.goto 5, 3) := by decide +kernel
theorem dX7_term_82 : decode cX7_term 82 = .ok (.bipush (-3), 2) := by decide +kernel
theorem dX7_term_84 : decode cX7_term 84 = .ok (.ireturn, 1) := by decide +kernel
set_option maxRecDepth 20000 in
theorem ggX7_empty_X7_isBox : GoodIn wsX7_empty wsX7_isBox := goodIn_r _ [4] (by decide +kernel) (by decide +kernel)
set_option maxRecDepth 20000 in
theorem gX7_empty_X7_isBox : GoodIn wsX7_empty (va_wsS RX7 126 yX7_isBox wsX7_isBox) := goodIn_app (goodIn_of _ (by decide +kernel)) ggX7_empty_X7_isBox
set_option maxRecDepth 20000 in
theorem ggX7_empty_X7_boxOf : GoodIn wsX7_empty wsX7_boxOf := goodIn_r _ [8, 9, 10, 24, 25, 26, 27, 28, 29, 30, 31, 32, 33, 34, 35] (by decide +kernel) (by decide +kernel)
set_option maxRecDepth 20000 in
theorem gX7_empty_X7_boxOf : GoodIn wsX7_empty (wsV RX7 129 RX7 yX7_boxOf wsX7_boxOf) := goodIn_app (goodIn_of _ (by decide +kernel)) ggX7_empty_X7_boxOf
set_option maxRecDepth 20000 in
theorem ggX7_empty_X1_drop : GoodIn wsX7_empty wsX1_drop := goodIn_r _ [15, 16, 17, 18, 19, 20, 21, 22, 23] (by decide +kernel) (by decide +kernel)
set_option maxRecDepth 20000 in
theorem gX7_empty_X1_drop : GoodIn wsX7_empty (wsV RX7 87 RX1 yX1_drop wsX1_drop) := goodIn_app (goodIn_of _ (by decide +kernel)) ggX7_empty_X1_drop
theorem dX7_empty_0 : decode cX7_empty 0 = .ok (.iload_n 1, 1) := by decide +kernel
theorem dX7_empty_1 : decode cX7_empty 1 = .ok (.invokestatic 126, 3) := by decide +kernel
theorem dX7_empty_4 : decode cX7_empty 4 = .ok (.ifCond .ne 5, 3) := by decide +kernel
theorem dX7_empty_7 : decode cX7_empty 7 = .ok (.iconst (-1), 1) := by decide +kernel
theorem dX7_empty_8 : decode cX7_empty 8 = .ok (.ireturn, 1) := by decide +kernel
theorem dX7_empty_9 : decode cX7_empty 9 = .ok (.aload_n 0, 1) := by decide +kernel
theorem dX7_empty_10 : decode cX7_empty 10 = .ok (.iload_n 1, 1) := by decide +kernel
theorem dX7_empty_11 : decode cX7_empty 11 = .ok (.invokevirtual 129, 3) := by decide +kernel
theorem dX7_empty_14 : decode cX7_empty 14 = .ok (.astore_n 2, 1) := by decide +kernel
theorem dX7_empty_15 : decode cX7_empty 15 = .ok (.aload_n 2, 1) := by decide +kernel
theorem dX7_empty_16 : decode cX7_empty 16 = .ok (.getfield 133, 3) := by decide +kernel
theorem dX7_empty_19 : decode cX7_empty 19 = .ok (.istore_n 3, 1) := by decide +kernel
theorem dX7_empty_20 : decode cX7_empty 20 = .ok (.aload_n 2, 1) := by decide +kernel
theorem dX7_empty_21 : decode cX7_empty 21 = .ok (.invokevirtual 87, 3) := by decide +kernel
theorem dX7_empty_24 : decode cX7_empty 24 = .ok (.iload_n 3, 1) := by decide +kernel
theorem dX7_empty_25 : decode cX7_empty 25 = .ok (.ireturn, 1) := by decide +kernel
set_option maxRecDepth 20000 in
theorem ggX7_ask_X7_isBox : GoodIn wsX7_ask wsX7_isBox := goodIn_r _ [5] (by decide +kernel) (by decide +kernel)
set_option maxRecDepth 20000 in
theorem gX7_ask_X7_isBox : GoodIn wsX7_ask (va_wsS RX7 126 yX7_isBox wsX7_isBox) := goodIn_app (goodIn_of _ (by decide +kernel)) ggX7_ask_X7_isBox
set_option maxRecDepth 20000 in
theorem ggX7_ask_X7_arePoint : GoodIn wsX7_ask wsX7_arePoint := goodIn_r _ [9, 10, 11, 12, 13, 14, 15, 16, 70, 71, 72, 73, 74, 75, 76, 77, 78, 79, 80, 81, 82, 83] (by decide +kernel) (by decide +kernel)
set_option maxRecDepth 20000 in
theorem gX7_ask_X7_arePoint : GoodIn wsX7_ask (wsV RX7 140 RX7 yX7_arePoint wsX7_arePoint) := goodIn_app (goodIn_of _ (by decide +kernel)) ggX7_ask_X7_arePoint
set_option maxRecDepth 20000 in
theorem ggX7_ask_X7_boxOf : GoodIn wsX7_ask wsX7_boxOf := goodIn_r _ [20, 21, 22, 70, 71, 72, 73, 74, 75, 76, 77, 78, 79, 80, 81] (by decide +kernel) (by decide +kernel)
set_option maxRecDepth 20000 in
theorem gX7_ask_X7_boxOf : GoodIn wsX7_ask (wsV RX7 129 RX7 yX7_boxOf wsX7_boxOf) := goodIn_app (goodIn_of _ (by decide +kernel)) ggX7_ask_X7_boxOf
set_option maxRecDepth 20000 in
theorem ggX7_ask_X1_answer : GoodIn wsX7_ask wsX1_answer := goodIn_r _ [27, 28, 29, 30, 31, 32, 33, 34, 26, 35, 36, 37, 38, 39, 40, 41, 42, 43, 44, 45, 46, 47, 48, 49, 50, 51, 52, 53, 54, 55, 56, 57, 58, 59, 14, 60, 16, 61, 62, 63, 64, 65, 66, 67, 68, 69, 84, 85, 86, 87, 88, 89, 90, 82, 83, 91, 92, 93] (by decide +kernel) (by decide +kernel)
set_option maxRecDepth 20000 in
theorem gX7_ask_X1_answer : GoodIn wsX7_ask (wsV RX7 144 RX1 yX1_answer wsX1_answer) := goodIn_app (goodIn_of _ (by decide +kernel)) ggX7_ask_X1_answer
theorem dX7_ask_0 : decode cX7_ask 0 = .ok (.iload_n 1, 1) := by decide +kernel
theorem dX7_ask_1 : decode cX7_ask 1 = .ok (.invokestatic 126, 3) := by decide +kernel
theorem dX7_ask_4 : decode cX7_ask 4 = .ok (.ifCond .eq 14, 3) := by decide +kernel
theorem dX7_ask_7 : decode cX7_ask 7 = .ok (.aload_n 0, 1) := by decide +kernel
theorem dX7_ask_8 : decode cX7_ask 8 = .ok (.iload_n 2, 1) := by decide +kernel
theorem dX7_ask_9 : decode cX7_ask 9 = .ok (.iload_n 3, 1) := by decide +kernel
theorem dX7_ask_10 : decode cX7_ask 10 = .ok (.iload 4, 2) := by decide +kernel
theorem dX7_ask_12 : decode cX7_ask 12 = .ok (.invokevirtual 140, 3) := by decide +kernel
theorem dX7_ask_15 : decode cX7_ask 15 = .ok (.ifCond .ne 5, 3) := by decide +kernel
theorem dX7_ask_18 : decode cX7_ask 18 = .ok (.iconst (-1), 1) := by decide +kernel
theorem dX7_ask_19 : decode cX7_ask 19 = .ok (.ireturn, 1) := by decide +kernel
theorem dX7_ask_20 : decode cX7_ask 20 = .ok (.aload_n 0, 1) := by decide +kernel
theorem dX7_ask_21 : decode cX7_ask 21 = .ok (.dup, 1) := by decide +kernel
theorem dX7_ask_22 : decode cX7_ask 22 = .ok (.getfield 73, 3) := by decide +kernel
theorem dX7_ask_25 : decode cX7_ask 25 = .ok (.iconst 1, 1) := by decide +kernel
theorem dX7_ask_26 : decode cX7_ask 26 = .ok (.iadd, 1) := by decide +kernel
theorem dX7_ask_27 : decode cX7_ask 27 = .ok (.putfield 73, 3) := by decide +kernel
theorem dX7_ask_30 : decode cX7_ask 30 = .ok (.aload_n 0, 1) := by decide +kernel
theorem dX7_ask_31 : decode cX7_ask 31 = .ok (.iload_n 1, 1) := by decide +kernel
theorem dX7_ask_32 : decode cX7_ask 32 = .ok (.invokevirtual 129, 3) := by decide +kernel
theorem dX7_ask_35 : decode cX7_ask 35 = .ok (.iload_n 2, 1) := by decide +kernel
theorem dX7_ask_36 : decode cX7_ask 36 = .ok (.iload_n 3, 1) := by decide +kernel
theorem dX7_ask_37 : decode cX7_ask 37 = .ok (.iload 4, 2) := by decide +kernel
theorem dX7_ask_39 : decode cX7_ask 39 = .ok (.invokevirtual 144, 3) := by decide +kernel
theorem dX7_ask_42 : decode cX7_ask 42 = .ok (.ireturn, 1) := by decide +kernel
set_option maxRecDepth 20000 in
theorem ggX7_say_X4_has : GoodIn wsX7_say wsX4_has := goodIn_r _ [8, 9, 22, 23] (by decide +kernel) (by decide +kernel)
set_option maxRecDepth 20000 in
theorem gX7_say_X4_has : GoodIn wsX7_say (wsV RX7 113 RX4 yX4_has wsX4_has) := goodIn_app (goodIn_of _ (by decide +kernel)) ggX7_say_X4_has
theorem dX7_say_0 : decode cX7_say 0 = .ok (.aload_n 0, 1) := by decide +kernel
theorem dX7_say_1 : decode cX7_say 1 = .ok (.getfield 10, 3) := by decide +kernel
theorem dX7_say_4 : decode cX7_say 4 = .ok (.iload_n 1, 1) := by decide +kernel
theorem dX7_say_5 : decode cX7_say 5 = .ok (.invokevirtual 113, 3) := by decide +kernel
theorem dX7_say_8 : decode cX7_say 8 = .ok (.ifCond .ne 5, 3) := by decide +kernel
theorem dX7_say_11 : decode cX7_say 11 = .ok (.iconst (-1), 1) := by decide +kernel
theorem dX7_say_12 : decode cX7_say 12 = .ok (.ireturn, 1) := by decide +kernel
theorem dX7_say_13 : decode cX7_say 13 = .ok (.aload_n 0, 1) := by decide +kernel
theorem dX7_say_14 : decode cX7_say 14 = .ok (.getfield 69, 3) := by decide +kernel
theorem dX7_say_17 : decode cX7_say 17 = .ok (.aload_n 0, 1) := by decide +kernel
theorem dX7_say_18 : decode cX7_say 18 = .ok (.getfield 37, 3) := by decide +kernel
theorem dX7_say_21 : decode cX7_say 21 = .ok (.arraylength, 1) := by decide +kernel
theorem dX7_say_22 : decode cX7_say 22 = .ok (.if_icmp .lt 6, 3) := by decide +kernel
theorem dX7_say_25 : decode cX7_say 25 = .ok (.bipush (-3), 2) := by decide +kernel
theorem dX7_say_27 : decode cX7_say 27 = .ok (.ireturn, 1) := by decide +kernel
theorem dX7_say_28 : decode cX7_say 28 = .ok (.aload_n 0, 1) := by decide +kernel
theorem dX7_say_29 : decode cX7_say 29 = .ok (.getfield 37, 3) := by decide +kernel
theorem dX7_say_32 : decode cX7_say 32 = .ok (.aload_n 0, 1) := by decide +kernel
theorem dX7_say_33 : decode cX7_say 33 = .ok (.getfield 69, 3) := by decide +kernel
theorem dX7_say_36 : decode cX7_say 36 = .ok (.iload_n 1, 1) := by decide +kernel
theorem dX7_say_37 : decode cX7_say 37 = .ok (.iastore, 1) := by decide +kernel
theorem dX7_say_38 : decode cX7_say 38 = .ok (.aload_n 0, 1) := by decide +kernel
theorem dX7_say_39 : decode cX7_say 39 = .ok (.dup, 1) := by decide +kernel
theorem dX7_say_40 : decode cX7_say 40 = .ok (.getfield 69, 3) := by decide +kernel
theorem dX7_say_43 : decode cX7_say 43 = .ok (.iconst 1, 1) := by decide +kernel
theorem dX7_say_44 : decode cX7_say 44 = .ok (.iadd, 1) := by decide +kernel
theorem dX7_say_45 : decode cX7_say 45 = .ok (.putfield 69, 3) := by decide +kernel
theorem dX7_say_48 : decode cX7_say 48 = .ok (.aload_n 0, 1) := by decide +kernel
theorem dX7_say_49 : decode cX7_say 49 = .ok (.getfield 69, 3) := by decide +kernel
theorem dX7_say_52 : decode cX7_say 52 = .ok (.ireturn, 1) := by decide +kernel
set_option maxRecDepth 20000 in
theorem ggX7_change_X4_has : GoodIn wsX7_change wsX4_has := goodIn_r _ [8, 9, 22, 23] (by decide +kernel) (by decide +kernel)
set_option maxRecDepth 20000 in
theorem gX7_change_X4_has : GoodIn wsX7_change (wsV RX7 113 RX4 yX4_has wsX4_has) := goodIn_app (goodIn_of _ (by decide +kernel)) ggX7_change_X4_has
theorem dX7_change_0 : decode cX7_change 0 = .ok (.iload_n 1, 1) := by decide +kernel
theorem dX7_change_1 : decode cX7_change 1 = .ok (.ifCond .lt 31, 3) := by decide +kernel
theorem dX7_change_4 : decode cX7_change 4 = .ok (.iload_n 1, 1) := by decide +kernel
theorem dX7_change_5 : decode cX7_change 5 = .ok (.aload_n 0, 1) := by decide +kernel
theorem dX7_change_6 : decode cX7_change 6 = .ok (.getfield 69, 3) := by decide +kernel
theorem dX7_change_9 : decode cX7_change 9 = .ok (.if_icmp .ge 23, 3) := by decide +kernel
theorem dX7_change_12 : decode cX7_change 12 = .ok (.iload_n 1, 1) := by decide +kernel
theorem dX7_change_13 : decode cX7_change 13 = .ok (.aload_n 0, 1) := by decide +kernel
theorem dX7_change_14 : decode cX7_change 14 = .ok (.getfield 37, 3) := by decide +kernel
theorem dX7_change_17 : decode cX7_change 17 = .ok (.arraylength, 1) := by decide +kernel
theorem dX7_change_18 : decode cX7_change 18 = .ok (.if_icmp .ge 14, 3) := by decide +kernel
theorem dX7_change_21 : decode cX7_change 21 = .ok (.aload_n 0, 1) := by decide +kernel
theorem dX7_change_22 : decode cX7_change 22 = .ok (.getfield 10, 3) := by decide +kernel
theorem dX7_change_25 : decode cX7_change 25 = .ok (.iload_n 2, 1) := by decide +kernel
theorem dX7_change_26 : decode cX7_change 26 = .ok (.invokevirtual 113, 3) := by decide +kernel
theorem dX7_change_29 : decode cX7_change 29 = .ok (.ifCond .ne 5, 3) := by decide +kernel
theorem dX7_change_32 : decode cX7_change 32 = .ok (.iconst (-1), 1) := by decide +kernel
theorem dX7_change_33 : decode cX7_change 33 = .ok (.ireturn, 1) := by decide +kernel
theorem dX7_change_34 : decode cX7_change 34 = .ok (.aload_n 0, 1) := by decide +kernel
theorem dX7_change_35 : decode cX7_change 35 = .ok (.getfield 37, 3) := by decide +kernel
theorem dX7_change_38 : decode cX7_change 38 = .ok (.iload_n 1, 1) := by decide +kernel
theorem dX7_change_39 : decode cX7_change 39 = .ok (.iaload, 1) := by decide +kernel
theorem dX7_change_40 : decode cX7_change 40 = .ok (.istore_n 3, 1) := by decide +kernel
theorem dX7_change_41 : decode cX7_change 41 = .ok (.aload_n 0, 1) := by decide +kernel
theorem dX7_change_42 : decode cX7_change 42 = .ok (.getfield 37, 3) := by decide +kernel
theorem dX7_change_45 : decode cX7_change 45 = .ok (.iload_n 1, 1) := by decide +kernel
theorem dX7_change_46 : decode cX7_change 46 = .ok (.iload_n 2, 1) := by decide +kernel
theorem dX7_change_47 : decode cX7_change 47 = .ok (.iastore, 1) := by decide +kernel
theorem dX7_change_48 : decode cX7_change 48 = .ok (.iload_n 3, 1) := by decide +kernel
theorem dX7_change_49 : decode cX7_change 49 = .ok (.ireturn, 1) := by decide +kernel
theorem dX7_clear_0 : decode cX7_clear 0 = .ok (.aload_n 0, 1) := by decide +kernel
theorem dX7_clear_1 : decode cX7_clear 1 = .ok (.getfield 69, 3) := by decide +kernel
theorem dX7_clear_4 : decode cX7_clear 4 = .ok (.istore_n 1, 1) := by decide +kernel
theorem dX7_clear_5 : decode cX7_clear 5 = .ok (.aload_n 0, 1) := by decide +kernel
theorem dX7_clear_6 : decode cX7_clear 6 = .ok (.iconst 0, 1) := by decide +kernel
theorem dX7_clear_7 : decode cX7_clear 7 = .ok (.putfield 69, 3) := by decide +kernel
theorem dX7_clear_10 : decode cX7_clear 10 = .ok (.iload_n 1, 1) := by decide +kernel
theorem dX7_clear_11 : decode cX7_clear 11 = .ok (.ireturn, 1) := by decide +kernel
set_option maxRecDepth 20000 in
theorem ggX7_register_X6_read : GoodIn wsX7_register wsX6_read := goodIn_r _ [8, 9, 10, 11, 7, 12, 13, 14, 15, 16, 17, 18, 19, 20, 21, 22, 23, 24, 25, 26, 27, 28, 29, 30, 31, 32, 33, 34, 35, 36, 37, 38, 39, 40, 41, 42, 43, 64, 65, 66, 67, 68, 69, 70, 71, 72, 73] (by decide +kernel) (by decide +kernel)
set_option maxRecDepth 20000 in
theorem gX7_register_X6_read : GoodIn wsX7_register (wsV RX7 147 RX6 yX6_read wsX6_read) := goodIn_app (goodIn_of _ (by decide +kernel)) ggX7_register_X6_read
set_option maxRecDepth 20000 in
theorem ggX7_register_X6_weight : GoodIn wsX7_register wsX6_weight := goodIn_r _ [47, 13, 23, 48, 49, 50, 36, 51, 38, 64, 65, 66, 67, 68, 69, 70, 71, 72, 73] (by decide +kernel) (by decide +kernel)
set_option maxRecDepth 20000 in
theorem gX7_register_X6_weight : GoodIn wsX7_register (wsV RX7 154 RX6 yX6_weight wsX6_weight) := goodIn_app (goodIn_of _ (by decide +kernel)) ggX7_register_X6_weight
theorem dX7_register_0 : decode cX7_register 0 = .ok (.aload_n 0, 1) := by decide +kernel
theorem dX7_register_1 : decode cX7_register 1 = .ok (.getfield 44, 3) := by decide +kernel
theorem dX7_register_4 : decode cX7_register 4 = .ok (.aload_n 0, 1) := by decide +kernel
theorem dX7_register_5 : decode cX7_register 5 = .ok (.getfield 37, 3) := by decide +kernel
theorem dX7_register_8 : decode cX7_register 8 = .ok (.aload_n 0, 1) := by decide +kernel
theorem dX7_register_9 : decode cX7_register 9 = .ok (.getfield 69, 3) := by decide +kernel
theorem dX7_register_12 : decode cX7_register 12 = .ok (.invokevirtual 147, 3) := by decide +kernel
theorem dX7_register_15 : decode cX7_register 15 = .ok (.iload_n 1, 1) := by decide +kernel
theorem dX7_register_16 : decode cX7_register 16 = .ok (.ifCond .lt 14, 3) := by decide +kernel
theorem dX7_register_19 : decode cX7_register 19 = .ok (.iload_n 1, 1) := by decide +kernel
theorem dX7_register_20 : decode cX7_register 20 = .ok (.aload_n 0, 1) := by decide +kernel
theorem dX7_register_21 : decode cX7_register 21 = .ok (.getfield 44, 3) := by decide +kernel
theorem dX7_register_24 : decode cX7_register 24 = .ok (.getfield 151, 3) := by decide +kernel
theorem dX7_register_27 : decode cX7_register 27 = .ok (.if_icmp .le 5, 3) := by decide +kernel
theorem dX7_register_30 : decode cX7_register 30 = .ok (.iconst (-1), 1) := by decide +kernel
theorem dX7_register_31 : decode cX7_register 31 = .ok (.ireturn, 1) := by decide +kernel
theorem dX7_register_32 : decode cX7_register 32 = .ok (.iload_n 1, 1) := by decide +kernel
theorem dX7_register_33 : decode cX7_register 33 = .ok (.ifCond .ne 13, 3) := by decide +kernel
theorem dX7_register_36 : decode cX7_register 36 = .ok (.aload_n 0, 1) := by decide +kernel
theorem dX7_register_37 : decode cX7_register 37 = .ok (.getfield 44, 3) := by decide +kernel
theorem dX7_register_40 : decode cX7_register 40 = .ok (.getfield 151, 3) := by decide +kernel
theorem dX7_register_43 : decode cX7_register 43 = .ok (.goto 11, 3) := by decide +kernel
theorem dX7_register_46 : decode cX7_register 46 = .ok (.aload_n 0, 1) := by decide +kernel
theorem dX7_register_47 : decode cX7_register 47 = .ok (.getfield 44, 3) := by decide +kernel
theorem dX7_register_50 : decode cX7_register 50 = .ok (.iload_n 1, 1) := by decide +kernel
theorem dX7_register_51 : decode cX7_register 51 = .ok (.invokevirtual 154, 3) := by decide +kernel
theorem dX7_register_54 : decode cX7_register 54 = .ok (.ireturn, 1) := by decide +kernel
set_option maxRecDepth 20000 in
theorem ggX7_far_X6_read : GoodIn wsX7_far wsX6_read := goodIn_r _ [10, 11, 12, 13, 9, 14, 15, 16, 17, 18, 19, 20, 21, 22, 23, 24, 25, 26, 27, 28, 29, 30, 31, 32, 33, 34, 35, 36, 37, 38, 39, 40, 41, 42, 43, 44, 45, 92, 93, 94, 95, 96, 97, 98, 99, 100, 101] (by decide +kernel) (by decide +kernel)
set_option maxRecDepth 20000 in
theorem gX7_far_X6_read : GoodIn wsX7_far (wsV RX7 147 RX6 yX6_read wsX6_read) := goodIn_app (goodIn_of _ (by decide +kernel)) ggX7_far_X6_read
set_option maxRecDepth 20000 in
theorem ggX7_far_X3_numberAt : GoodIn wsX7_far wsX3_numberAt := goodIn_r _ [50, 51, 52, 53, 54, 55, 56, 49, 57, 58, 59, 60, 61, 9, 62, 15, 25, 63, 64, 65, 38, 66, 40, 67, 68, 69, 70, 71, 72, 73, 74, 75, 76, 77, 78, 79, 92, 93, 94, 95, 96, 97, 98, 99, 102, 103, 104, 105, 106, 100, 101] (by decide +kernel) (by decide +kernel)
set_option maxRecDepth 20000 in
theorem gX7_far_X3_numberAt : GoodIn wsX7_far (wsV RX7 158 RX3 yX3_numberAt wsX3_numberAt) := goodIn_app (goodIn_of _ (by decide +kernel)) ggX7_far_X3_numberAt
theorem dX7_far_0 : decode cX7_far 0 = .ok (.iload_n 1, 1) := by decide +kernel
theorem dX7_far_1 : decode cX7_far 1 = .ok (.ifCond .lt 9, 3) := by decide +kernel
theorem dX7_far_4 : decode cX7_far 4 = .ok (.iload_n 1, 1) := by decide +kernel
theorem dX7_far_5 : decode cX7_far 5 = .ok (.ldc 157, 2) := by decide +kernel
theorem dX7_far_7 : decode cX7_far 7 = .ok (.if_icmp .le 5, 3) := by decide +kernel
theorem dX7_far_10 : decode cX7_far 10 = .ok (.iconst (-1), 1) := by decide +kernel
theorem dX7_far_11 : decode cX7_far 11 = .ok (.ireturn, 1) := by decide +kernel
theorem dX7_far_12 : decode cX7_far 12 = .ok (.iload_n 1, 1) := by decide +kernel
theorem dX7_far_13 : decode cX7_far 13 = .ok (.aload_n 0, 1) := by decide +kernel
theorem dX7_far_14 : decode cX7_far 14 = .ok (.getfield 69, 3) := by decide +kernel
theorem dX7_far_17 : decode cX7_far 17 = .ok (.if_icmp .ge 19, 3) := by decide +kernel
theorem dX7_far_20 : decode cX7_far 20 = .ok (.iload_n 1, 1) := by decide +kernel
theorem dX7_far_21 : decode cX7_far 21 = .ok (.aload_n 0, 1) := by decide +kernel
theorem dX7_far_22 : decode cX7_far 22 = .ok (.getfield 37, 3) := by decide +kernel
theorem dX7_far_25 : decode cX7_far 25 = .ok (.arraylength, 1) := by decide +kernel
theorem dX7_far_26 : decode cX7_far 26 = .ok (.if_icmp .ge 10, 3) := by decide +kernel
theorem dX7_far_29 : decode cX7_far 29 = .ok (.aload_n 0, 1) := by decide +kernel
theorem dX7_far_30 : decode cX7_far 30 = .ok (.getfield 37, 3) := by decide +kernel
theorem dX7_far_33 : decode cX7_far 33 = .ok (.iload_n 1, 1) := by decide +kernel
theorem dX7_far_34 : decode cX7_far 34 = .ok (.iaload, 1) := by decide +kernel
theorem dX7_far_35 : decode cX7_far 35 = .ok (.ireturn, 1) := by decide +kernel
theorem dX7_far_36 : decode cX7_far 36 = .ok (.aload_n 0, 1) := by decide +kernel
theorem dX7_far_37 : decode cX7_far 37 = .ok (.getfield 44, 3) := by decide +kernel
theorem dX7_far_40 : decode cX7_far 40 = .ok (.aload_n 0, 1) := by decide +kernel
theorem dX7_far_41 : decode cX7_far 41 = .ok (.getfield 37, 3) := by decide +kernel
theorem dX7_far_44 : decode cX7_far 44 = .ok (.aload_n 0, 1) := by decide +kernel
theorem dX7_far_45 : decode cX7_far 45 = .ok (.getfield 69, 3) := by decide +kernel
theorem dX7_far_48 : decode cX7_far 48 = .ok (.invokevirtual 147, 3) := by decide +kernel
theorem dX7_far_51 : decode cX7_far 51 = .ok (.aload_n 0, 1) := by decide +kernel
theorem dX7_far_52 : decode cX7_far 52 = .ok (.getfield 51, 3) := by decide +kernel
theorem dX7_far_55 : decode cX7_far 55 = .ok (.iload_n 1, 1) := by decide +kernel
theorem dX7_far_56 : decode cX7_far 56 = .ok (.aload_n 0, 1) := by decide +kernel
theorem dX7_far_57 : decode cX7_far 57 = .ok (.getfield 44, 3) := by decide +kernel
theorem dX7_far_60 : decode cX7_far 60 = .ok (.aload_n 0, 1) := by decide +kernel
theorem dX7_far_61 : decode cX7_far 61 = .ok (.getfield 37, 3) := by decide +kernel
theorem dX7_far_64 : decode cX7_far 64 = .ok (.invokevirtual 158, 3) := by decide +kernel
theorem dX7_far_67 : decode cX7_far 67 = .ok (.ireturn, 1) := by decide +kernel
set_option maxRecDepth 20000 in
theorem ggX7_lie_X6_read : GoodIn wsX7_lie wsX6_read := goodIn_r _ [10, 11, 12, 13, 9, 14, 15, 16, 17, 18, 19, 20, 21, 22, 23, 24, 25, 26, 27, 28, 29, 30, 31, 32, 33, 34, 35, 36, 37, 38, 39, 40, 41, 42, 43, 44, 45, 85, 86, 87, 88, 89, 90, 91, 92, 93, 94] (by decide +kernel) (by decide +kernel)
set_option maxRecDepth 20000 in
theorem gX7_lie_X6_read : GoodIn wsX7_lie (wsV RX7 147 RX6 yX6_read wsX6_read) := goodIn_app (goodIn_of _ (by decide +kernel)) ggX7_lie_X6_read
set_option maxRecDepth 20000 in
theorem ggX7_lie_X2_leastMending : GoodIn wsX7_lie wsX2_leastMending := goodIn_r _ [50, 51, 52, 53, 54, 55, 56, 57, 12, 13, 9, 14, 15, 16, 17, 18, 19, 20, 58, 59, 60, 49, 61, 62, 63, 64, 65, 66, 67, 68, 69, 70, 71, 27, 28, 29, 30, 72, 22, 23, 24, 25, 26, 31, 32, 33, 34, 35, 36, 37, 38, 39, 40, 41, 42, 43, 44, 45, 95, 96, 97, 98, 85, 86, 87, 88, 89, 90, 91, 92, 93, 94] (by decide +kernel) (by decide +kernel)
set_option maxRecDepth 20000 in
theorem gX7_lie_X2_leastMending : GoodIn wsX7_lie (wsV RX7 163 RX2 yX2_leastMending wsX2_leastMending) := goodIn_app (goodIn_of _ (by decide +kernel)) ggX7_lie_X2_leastMending
theorem dX7_lie_0 : decode cX7_lie 0 = .ok (.iload_n 1, 1) := by decide +kernel
theorem dX7_lie_1 : decode cX7_lie 1 = .ok (.ifCond .lt 9, 3) := by decide +kernel
theorem dX7_lie_4 : decode cX7_lie 4 = .ok (.iload_n 1, 1) := by decide +kernel
theorem dX7_lie_5 : decode cX7_lie 5 = .ok (.bipush 7, 2) := by decide +kernel
theorem dX7_lie_7 : decode cX7_lie 7 = .ok (.if_icmp .le 5, 3) := by decide +kernel
theorem dX7_lie_10 : decode cX7_lie 10 = .ok (.iconst (-1), 1) := by decide +kernel
theorem dX7_lie_11 : decode cX7_lie 11 = .ok (.ireturn, 1) := by decide +kernel
theorem dX7_lie_12 : decode cX7_lie 12 = .ok (.aload_n 0, 1) := by decide +kernel
theorem dX7_lie_13 : decode cX7_lie 13 = .ok (.getfield 44, 3) := by decide +kernel
theorem dX7_lie_16 : decode cX7_lie 16 = .ok (.aload_n 0, 1) := by decide +kernel
theorem dX7_lie_17 : decode cX7_lie 17 = .ok (.getfield 37, 3) := by decide +kernel
theorem dX7_lie_20 : decode cX7_lie 20 = .ok (.aload_n 0, 1) := by decide +kernel
theorem dX7_lie_21 : decode cX7_lie 21 = .ok (.getfield 69, 3) := by decide +kernel
theorem dX7_lie_24 : decode cX7_lie 24 = .ok (.invokevirtual 147, 3) := by decide +kernel
theorem dX7_lie_27 : decode cX7_lie 27 = .ok (.aload_n 0, 1) := by decide +kernel
theorem dX7_lie_28 : decode cX7_lie 28 = .ok (.getfield 44, 3) := by decide +kernel
theorem dX7_lie_31 : decode cX7_lie 31 = .ok (.getfield 151, 3) := by decide +kernel
theorem dX7_lie_34 : decode cX7_lie 34 = .ok (.iload_n 1, 1) := by decide +kernel
theorem dX7_lie_35 : decode cX7_lie 35 = .ok (.if_icmp .gt 8, 3) := by decide +kernel
theorem dX7_lie_38 : decode cX7_lie 38 = .ok (.ldc 162, 2) := by decide +kernel
theorem dX7_lie_40 : decode cX7_lie 40 = .ok (.goto 19, 3) := by decide +kernel
theorem dX7_lie_43 : decode cX7_lie 43 = .ok (.aload_n 0, 1) := by decide +kernel
theorem dX7_lie_44 : decode cX7_lie 44 = .ok (.getfield 58, 3) := by decide +kernel
theorem dX7_lie_47 : decode cX7_lie 47 = .ok (.aload_n 0, 1) := by decide +kernel
theorem dX7_lie_48 : decode cX7_lie 48 = .ok (.getfield 37, 3) := by decide +kernel
theorem dX7_lie_51 : decode cX7_lie 51 = .ok (.aload_n 0, 1) := by decide +kernel
theorem dX7_lie_52 : decode cX7_lie 52 = .ok (.getfield 69, 3) := by decide +kernel
theorem dX7_lie_55 : decode cX7_lie 55 = .ok (.iload_n 1, 1) := by decide +kernel
theorem dX7_lie_56 : decode cX7_lie 56 = .ok (.invokevirtual 163, 3) := by decide +kernel
theorem dX7_lie_59 : decode cX7_lie 59 = .ok (.ireturn, 1) := by decide +kernel
set_option maxRecDepth 20000 in
theorem ggX7_got_X7_isBox : GoodIn wsX7_got wsX7_isBox := goodIn_r _ [6] (by decide +kernel) (by decide +kernel)
set_option maxRecDepth 20000 in
theorem gX7_got_X7_isBox : GoodIn wsX7_got (va_wsS RX7 126 yX7_isBox wsX7_isBox) := goodIn_app (goodIn_of _ (by decide +kernel)) ggX7_got_X7_isBox
set_option maxRecDepth 20000 in
theorem ggX7_got_X7_boxOf : GoodIn wsX7_got wsX7_boxOf := goodIn_r _ [10, 11, 12, 172, 173, 174, 175, 176, 177, 178, 179, 180, 181, 182, 183] (by decide +kernel) (by decide +kernel)
set_option maxRecDepth 20000 in
theorem gX7_got_X7_boxOf : GoodIn wsX7_got (wsV RX7 129 RX7 yX7_boxOf wsX7_boxOf) := goodIn_app (goodIn_of _ (by decide +kernel)) ggX7_got_X7_boxOf
set_option maxRecDepth 20000 in
theorem ggX7_got_X5_recover : GoodIn wsX7_got wsX5_recover := goodIn_r _ [17, 18, 19, 20, 21, 22, 23, 24, 25, 26, 27, 28, 29, 30, 31, 16, 32, 33, 34, 35, 36, 37, 38, 39, 40, 41, 42, 43, 44, 45, 46, 47, 48, 49, 50, 51, 52, 53, 54, 55, 56, 57, 58, 59, 60, 61, 62, 63, 64, 65, 66, 67, 68, 69, 70, 71, 72, 73, 74, 75, 76, 77, 78, 79, 80, 81, 82, 83, 84, 85, 86, 87, 88, 89, 90, 91, 92, 93, 94, 95, 96, 97, 98, 99, 100, 101, 102, 103, 104, 105, 106, 107, 108, 109, 110, 111, 112, 113, 114, 115, 116, 117, 118, 119, 120, 121, 122, 123, 124, 125, 126, 127, 128, 129, 130, 131, 132, 133, 134, 135, 136, 137, 138, 139, 140, 141, 142, 143, 144, 145, 146, 147, 148, 149, 150, 151, 152, 153, 154, 155, 156, 157, 158, 159, 160, 161, 162, 163, 164, 165, 166, 167, 168, 169, 170, 184, 185, 186, 187, 188, 189, 190, 191, 199, 200, 201, 202, 203, 204, 205, 206, 192, 193, 194, 195, 196, 197, 198, 207, 208, 209, 210, 211] (by decide +kernel) (by decide +kernel)
set_option maxRecDepth 20000 in
theorem gX7_got_X5_recover : GoodIn wsX7_got (wsV RX7 167 RX5 yX5_recover wsX5_recover) := goodIn_app (goodIn_of _ (by decide +kernel)) ggX7_got_X5_recover
set_option maxRecDepth 20000 in
theorem ggX7_got_X1_part : GoodIn wsX7_got wsX1_part := goodIn_r _ [48, 49, 192, 193, 194, 195, 196, 197, 198] (by decide +kernel) (by decide +kernel)
set_option maxRecDepth 20000 in
theorem gX7_got_X1_part : GoodIn wsX7_got (wsV RX7 174 RX1 yX1_part wsX1_part) := goodIn_app (goodIn_of _ (by decide +kernel)) ggX7_got_X1_part
theorem dX7_got_0 : decode cX7_got 0 = .ok (.iload_n 1, 1) := by decide +kernel
theorem dX7_got_1 : decode cX7_got 1 = .ok (.invokestatic 126, 3) := by decide +kernel
theorem dX7_got_4 : decode cX7_got 4 = .ok (.ifCond .eq 12, 3) := by decide +kernel
theorem dX7_got_7 : decode cX7_got 7 = .ok (.iload_n 2, 1) := by decide +kernel
theorem dX7_got_8 : decode cX7_got 8 = .ok (.ifCond .lt 8, 3) := by decide +kernel
theorem dX7_got_11 : decode cX7_got 11 = .ok (.iload_n 2, 1) := by decide +kernel
theorem dX7_got_12 : decode cX7_got 12 = .ok (.iconst 4, 1) := by decide +kernel
theorem dX7_got_13 : decode cX7_got 13 = .ok (.if_icmp .le 5, 3) := by decide +kernel
theorem dX7_got_16 : decode cX7_got 16 = .ok (.iconst (-1), 1) := by decide +kernel
theorem dX7_got_17 : decode cX7_got 17 = .ok (.ireturn, 1) := by decide +kernel
theorem dX7_got_18 : decode cX7_got 18 = .ok (.aload_n 0, 1) := by decide +kernel
theorem dX7_got_19 : decode cX7_got 19 = .ok (.dup, 1) := by decide +kernel
theorem dX7_got_20 : decode cX7_got 20 = .ok (.getfield 73, 3) := by decide +kernel
theorem dX7_got_23 : decode cX7_got 23 = .ok (.bipush 9, 2) := by decide +kernel
theorem dX7_got_25 : decode cX7_got 25 = .ok (.iadd, 1) := by decide +kernel
theorem dX7_got_26 : decode cX7_got 26 = .ok (.putfield 73, 3) := by decide +kernel
theorem dX7_got_29 : decode cX7_got 29 = .ok (.aload_n 0, 1) := by decide +kernel
theorem dX7_got_30 : decode cX7_got 30 = .ok (.getfield 65, 3) := by decide +kernel
theorem dX7_got_33 : decode cX7_got 33 = .ok (.aload_n 0, 1) := by decide +kernel
theorem dX7_got_34 : decode cX7_got 34 = .ok (.iload_n 1, 1) := by decide +kernel
theorem dX7_got_35 : decode cX7_got 35 = .ok (.invokevirtual 129, 3) := by decide +kernel
theorem dX7_got_38 : decode cX7_got 38 = .ok (.invokevirtual 167, 3) := by decide +kernel
theorem dX7_got_41 : decode cX7_got 41 = .ok (.ifCond .ne 6, 3) := by decide +kernel
theorem dX7_got_44 : decode cX7_got 44 = .ok (.bipush (-2), 2) := by decide +kernel
theorem dX7_got_46 : decode cX7_got 46 = .ok (.ireturn, 1) := by decide +kernel
theorem dX7_got_47 : decode cX7_got 47 = .ok (.aload_n 0, 1) := by decide +kernel
theorem dX7_got_48 : decode cX7_got 48 = .ok (.getfield 65, 3) := by decide +kernel
theorem dX7_got_51 : decode cX7_got 51 = .ok (.getfield 171, 3) := by decide +kernel
theorem dX7_got_54 : decode cX7_got 54 = .ok (.astore 4, 2) := by decide +kernel
theorem dX7_got_56 : decode cX7_got 56 = .ok (.iload_n 2, 1) := by decide +kernel
theorem dX7_got_57 : decode cX7_got 57 = .ok (.ifCond .ne 9, 3) := by decide +kernel
theorem dX7_got_60 : decode cX7_got 60 = .ok (.aload 4, 2) := by decide +kernel
theorem dX7_got_62 : decode cX7_got 62 = .ok (.getfield 133, 3) := by decide +kernel
theorem dX7_got_65 : decode cX7_got 65 = .ok (.ireturn, 1) := by decide +kernel
theorem dX7_got_66 : decode cX7_got 66 = .ok (.iload_n 3, 1) := by decide +kernel
theorem dX7_got_67 : decode cX7_got 67 = .ok (.ifCond .lt 12, 3) := by decide +kernel
theorem dX7_got_70 : decode cX7_got 70 = .ok (.iload_n 3, 1) := by decide +kernel
theorem dX7_got_71 : decode cX7_got 71 = .ok (.aload 4, 2) := by decide +kernel
theorem dX7_got_73 : decode cX7_got 73 = .ok (.getfield 133, 3) := by decide +kernel
theorem dX7_got_76 : decode cX7_got 76 = .ok (.if_icmp .lt 7, 3) := by decide +kernel
theorem dX7_got_79 : decode cX7_got 79 = .ok (.iconst (-1), 1) := by decide +kernel
theorem dX7_got_80 : decode cX7_got 80 = .ok (.goto 12, 3) := by decide +kernel
theorem dX7_got_83 : decode cX7_got 83 = .ok (.aload 4, 2) := by decide +kernel
theorem dX7_got_85 : decode cX7_got 85 = .ok (.iload_n 3, 1) := by decide +kernel
theorem dX7_got_86 : decode cX7_got 86 = .ok (.iload_n 2, 1) := by decide +kernel
theorem dX7_got_87 : decode cX7_got 87 = .ok (.iconst 1, 1) := by decide +kernel
theorem dX7_got_88 : decode cX7_got 88 = .ok (.isub, 1) := by decide +kernel
theorem dX7_got_89 : decode cX7_got 89 = .ok (.invokevirtual 174, 3) := by decide +kernel
theorem dX7_got_92 : decode cX7_got 92 = .ok (.ireturn, 1) := by decide +kernel
set_option maxRecDepth 20000 in
theorem ggX7_right_X7_isBox : GoodIn wsX7_right wsX7_isBox := goodIn_r _ [6] (by decide +kernel) (by decide +kernel)
set_option maxRecDepth 20000 in
theorem gX7_right_X7_isBox : GoodIn wsX7_right (va_wsS RX7 126 yX7_isBox wsX7_isBox) := goodIn_app (goodIn_of _ (by decide +kernel)) ggX7_right_X7_isBox
set_option maxRecDepth 20000 in
theorem ggX7_right_X7_arePoint : GoodIn wsX7_right wsX7_arePoint := goodIn_r _ [10, 11, 12, 13, 14, 15, 16, 17, 181, 182, 183, 184, 185, 186, 187, 188, 189, 190, 191, 192, 201, 202] (by decide +kernel) (by decide +kernel)
set_option maxRecDepth 20000 in
theorem gX7_right_X7_arePoint : GoodIn wsX7_right (wsV RX7 140 RX7 yX7_arePoint wsX7_arePoint) := goodIn_app (goodIn_of _ (by decide +kernel)) ggX7_right_X7_arePoint
set_option maxRecDepth 20000 in
theorem ggX7_right_X7_boxOf : GoodIn wsX7_right wsX7_boxOf := goodIn_r _ [21, 22, 23, 181, 182, 183, 184, 185, 186, 187, 188, 189, 190, 191, 192] (by decide +kernel) (by decide +kernel)
set_option maxRecDepth 20000 in
theorem gX7_right_X7_boxOf : GoodIn wsX7_right (wsV RX7 129 RX7 yX7_boxOf wsX7_boxOf) := goodIn_app (goodIn_of _ (by decide +kernel)) ggX7_right_X7_boxOf
set_option maxRecDepth 20000 in
theorem ggX7_right_X5_recover : GoodIn wsX7_right wsX5_recover := goodIn_r _ [28, 29, 30, 31, 32, 33, 34, 35, 36, 37, 38, 39, 40, 41, 42, 27, 43, 44, 45, 46, 47, 48, 49, 50, 51, 52, 53, 54, 55, 56, 57, 58, 59, 60, 61, 62, 63, 64, 65, 66, 67, 68, 69, 70, 71, 72, 73, 74, 75, 76, 77, 78, 79, 15, 80, 17, 81, 82, 83, 84, 85, 86, 87, 88, 89, 90, 91, 92, 93, 94, 95, 96, 97, 98, 99, 100, 101, 102, 103, 104, 105, 106, 107, 108, 109, 110, 111, 112, 113, 114, 115, 116, 117, 118, 119, 120, 121, 122, 123, 124, 125, 126, 127, 128, 129, 130, 131, 132, 133, 134, 135, 136, 137, 138, 139, 140, 141, 142, 143, 144, 145, 146, 147, 148, 149, 150, 151, 152, 153, 154, 155, 156, 157, 158, 159, 160, 161, 162, 163, 164, 165, 166, 167, 168, 169, 170, 171, 172, 173, 174, 175, 176, 177, 178, 179, 193, 194, 195, 196, 197, 198, 199, 200, 203, 204, 205, 206, 207, 208, 209, 210, 211, 212, 213, 214, 215, 216, 217, 201, 202, 218, 219, 220] (by decide +kernel) (by decide +kernel)
set_option maxRecDepth 20000 in
theorem gX7_right_X5_recover : GoodIn wsX7_right (wsV RX7 167 RX5 yX5_recover wsX5_recover) := goodIn_app (goodIn_of _ (by decide +kernel)) ggX7_right_X5_recover
set_option maxRecDepth 20000 in
theorem ggX7_right_X1_answer : GoodIn wsX7_right wsX1_answer := goodIn_r _ [48, 39, 49, 50, 51, 52, 53, 54, 37, 55, 56, 57, 58, 59, 60, 61, 62, 63, 64, 65, 66, 67, 68, 69, 70, 71, 72, 73, 74, 75, 76, 77, 78, 79, 15, 80, 17, 81, 82, 83, 84, 85, 86, 87, 88, 89, 211, 212, 213, 214, 215, 216, 217, 201, 202, 218, 219, 220] (by decide +kernel) (by decide +kernel)
set_option maxRecDepth 20000 in
theorem gX7_right_X1_answer : GoodIn wsX7_right (wsV RX7 144 RX1 yX1_answer wsX1_answer) := goodIn_app (goodIn_of _ (by decide +kernel)) ggX7_right_X1_answer
theorem dX7_right_0 : decode cX7_right 0 = .ok (.iload_n 1, 1) := by decide +kernel
theorem dX7_right_1 : decode cX7_right 1 = .ok (.invokestatic 126, 3) := by decide +kernel
theorem dX7_right_4 : decode cX7_right 4 = .ok (.ifCond .eq 14, 3) := by decide +kernel
theorem dX7_right_7 : decode cX7_right 7 = .ok (.aload_n 0, 1) := by decide +kernel
theorem dX7_right_8 : decode cX7_right 8 = .ok (.iload_n 2, 1) := by decide +kernel
theorem dX7_right_9 : decode cX7_right 9 = .ok (.iload_n 3, 1) := by decide +kernel
theorem dX7_right_10 : decode cX7_right 10 = .ok (.iload 4, 2) := by decide +kernel
theorem dX7_right_12 : decode cX7_right 12 = .ok (.invokevirtual 140, 3) := by decide +kernel
theorem dX7_right_15 : decode cX7_right 15 = .ok (.ifCond .ne 5, 3) := by decide +kernel
theorem dX7_right_18 : decode cX7_right 18 = .ok (.iconst (-1), 1) := by decide +kernel
theorem dX7_right_19 : decode cX7_right 19 = .ok (.ireturn, 1) := by decide +kernel
theorem dX7_right_20 : decode cX7_right 20 = .ok (.aload_n 0, 1) := by decide +kernel
theorem dX7_right_21 : decode cX7_right 21 = .ok (.dup, 1) := by decide +kernel
theorem dX7_right_22 : decode cX7_right 22 = .ok (.getfield 73, 3) := by decide +kernel
theorem dX7_right_25 : decode cX7_right 25 = .ok (.bipush 10, 2) := by decide +kernel
theorem dX7_right_27 : decode cX7_right 27 = .ok (.iadd, 1) := by decide +kernel
theorem dX7_right_28 : decode cX7_right 28 = .ok (.putfield 73, 3) := by decide +kernel
theorem dX7_right_31 : decode cX7_right 31 = .ok (.aload_n 0, 1) := by decide +kernel
theorem dX7_right_32 : decode cX7_right 32 = .ok (.iload_n 1, 1) := by decide +kernel
theorem dX7_right_33 : decode cX7_right 33 = .ok (.invokevirtual 129, 3) := by decide +kernel
theorem dX7_right_36 : decode cX7_right 36 = .ok (.astore 5, 2) := by decide +kernel
theorem dX7_right_38 : decode cX7_right 38 = .ok (.aload_n 0, 1) := by decide +kernel
theorem dX7_right_39 : decode cX7_right 39 = .ok (.getfield 65, 3) := by decide +kernel
theorem dX7_right_42 : decode cX7_right 42 = .ok (.aload 5, 2) := by decide +kernel
theorem dX7_right_44 : decode cX7_right 44 = .ok (.invokevirtual 167, 3) := by decide +kernel
theorem dX7_right_47 : decode cX7_right 47 = .ok (.ifCond .ne 6, 3) := by decide +kernel
theorem dX7_right_50 : decode cX7_right 50 = .ok (.bipush (-2), 2) := by decide +kernel
theorem dX7_right_52 : decode cX7_right 52 = .ok (.ireturn, 1) := by decide +kernel
theorem dX7_right_53 : decode cX7_right 53 = .ok (.aload_n 0, 1) := by decide +kernel
theorem dX7_right_54 : decode cX7_right 54 = .ok (.getfield 65, 3) := by decide +kernel
theorem dX7_right_57 : decode cX7_right 57 = .ok (.getfield 171, 3) := by decide +kernel
theorem dX7_right_60 : decode cX7_right 60 = .ok (.iload_n 2, 1) := by decide +kernel
theorem dX7_right_61 : decode cX7_right 61 = .ok (.iload_n 3, 1) := by decide +kernel
theorem dX7_right_62 : decode cX7_right 62 = .ok (.iload 4, 2) := by decide +kernel
theorem dX7_right_64 : decode cX7_right 64 = .ok (.invokevirtual 144, 3) := by decide +kernel
theorem dX7_right_67 : decode cX7_right 67 = .ok (.aload 5, 2) := by decide +kernel
theorem dX7_right_69 : decode cX7_right 69 = .ok (.iload_n 2, 1) := by decide +kernel
theorem dX7_right_70 : decode cX7_right 70 = .ok (.iload_n 3, 1) := by decide +kernel
theorem dX7_right_71 : decode cX7_right 71 = .ok (.iload 4, 2) := by decide +kernel
theorem dX7_right_73 : decode cX7_right 73 = .ok (.invokevirtual 144, 3) := by decide +kernel
theorem dX7_right_76 : decode cX7_right 76 = .ok (.if_icmp .ne 7, 3) := by decide +kernel
theorem dX7_right_79 : decode cX7_right 79 = .ok (.iconst 1, 1) := by decide +kernel
theorem dX7_right_80 : decode cX7_right 80 = .ok (.goto 4, 3) := by decide +kernel
theorem dX7_right_83 : decode cX7_right 83 = .ok (.iconst 0, 1) := by decide +kernel
theorem dX7_right_84 : decode cX7_right 84 = .ok (.ireturn, 1) := by decide +kernel
set_option maxRecDepth 20000 in
theorem ggX7_zeros_X7_isBox : GoodIn wsX7_zeros wsX7_isBox := goodIn_r _ [5] (by decide +kernel) (by decide +kernel)
set_option maxRecDepth 20000 in
theorem gX7_zeros_X7_isBox : GoodIn wsX7_zeros (va_wsS RX7 126 yX7_isBox wsX7_isBox) := goodIn_app (goodIn_of _ (by decide +kernel)) ggX7_zeros_X7_isBox
set_option maxRecDepth 20000 in
theorem ggX7_zeros_X7_boxOf : GoodIn wsX7_zeros wsX7_boxOf := goodIn_r _ [9, 10, 11, 77, 78, 79, 80, 81, 82, 83, 84, 85, 86, 87, 88] (by decide +kernel) (by decide +kernel)
set_option maxRecDepth 20000 in
theorem gX7_zeros_X7_boxOf : GoodIn wsX7_zeros (wsV RX7 129 RX7 yX7_boxOf wsX7_boxOf) := goodIn_app (goodIn_of _ (by decide +kernel)) ggX7_zeros_X7_boxOf
set_option maxRecDepth 20000 in
theorem ggX7_zeros_X1_readyLines : GoodIn wsX7_zeros wsX1_readyLines := goodIn_r _ [16, 17, 18, 19, 20, 21, 22, 23, 24, 25, 26, 27, 28, 29, 30, 31, 32, 33, 34, 35, 36, 37, 38, 39, 40, 41, 42, 43, 44, 45, 46, 47, 48, 49, 50, 91, 92, 93, 94, 95, 96, 97, 89, 90, 98, 99, 100] (by decide +kernel) (by decide +kernel)
set_option maxRecDepth 20000 in
theorem gX7_zeros_X1_readyLines : GoodIn wsX7_zeros (wsV RX7 178 RX1 yX1_readyLines wsX1_readyLines) := goodIn_app (goodIn_of _ (by decide +kernel)) ggX7_zeros_X1_readyLines
set_option maxRecDepth 20000 in
theorem ggX7_zeros_X1_answerLine : GoodIn wsX7_zeros wsX1_answerLine := goodIn_r _ [54, 55, 56, 17, 57, 58, 59, 15, 60, 19, 20, 61, 62, 63, 64, 65, 21, 22, 23, 24, 25, 26, 27, 28, 29, 30, 31, 32, 33, 34, 35, 36, 37, 38, 39, 40, 41, 42, 43, 44, 45, 46, 47, 48, 49, 50, 66, 67, 68, 69, 70, 18, 71, 4, 72, 91, 92, 93, 94, 95, 96, 97, 89, 90, 98, 99, 100] (by decide +kernel) (by decide +kernel)
set_option maxRecDepth 20000 in
theorem gX7_zeros_X1_answerLine : GoodIn wsX7_zeros (wsV RX7 181 RX1 yX1_answerLine wsX1_answerLine) := goodIn_app (goodIn_of _ (by decide +kernel)) ggX7_zeros_X1_answerLine
set_option maxRecDepth 20000 in
theorem ggX7_zeros_X1_zerosInLine : GoodIn wsX7_zeros wsX1_zerosInLine := goodIn_r _ [76, 17, 55, 91, 92, 93, 94, 95, 96, 97, 89, 90] (by decide +kernel) (by decide +kernel)
set_option maxRecDepth 20000 in
theorem gX7_zeros_X1_zerosInLine : GoodIn wsX7_zeros (wsV RX7 185 RX1 yX1_zerosInLine wsX1_zerosInLine) := goodIn_app (goodIn_of _ (by decide +kernel)) ggX7_zeros_X1_zerosInLine
theorem dX7_zeros_0 : decode cX7_zeros 0 = .ok (.iload_n 1, 1) := by decide +kernel
theorem dX7_zeros_1 : decode cX7_zeros 1 = .ok (.invokestatic 126, 3) := by decide +kernel
theorem dX7_zeros_4 : decode cX7_zeros 4 = .ok (.ifCond .ne 5, 3) := by decide +kernel
theorem dX7_zeros_7 : decode cX7_zeros 7 = .ok (.iconst (-1), 1) := by decide +kernel
theorem dX7_zeros_8 : decode cX7_zeros 8 = .ok (.ireturn, 1) := by decide +kernel
theorem dX7_zeros_9 : decode cX7_zeros 9 = .ok (.aload_n 0, 1) := by decide +kernel
theorem dX7_zeros_10 : decode cX7_zeros 10 = .ok (.getfield 10, 3) := by decide +kernel
theorem dX7_zeros_13 : decode cX7_zeros 13 = .ok (.getfield 80, 3) := by decide +kernel
theorem dX7_zeros_16 : decode cX7_zeros 16 = .ok (.bipush 23, 2) := by decide +kernel
theorem dX7_zeros_18 : decode cX7_zeros 18 = .ok (.if_icmp .le 6, 3) := by decide +kernel
theorem dX7_zeros_21 : decode cX7_zeros 21 = .ok (.bipush (-2), 2) := by decide +kernel
theorem dX7_zeros_23 : decode cX7_zeros 23 = .ok (.ireturn, 1) := by decide +kernel
theorem dX7_zeros_24 : decode cX7_zeros 24 = .ok (.aload_n 0, 1) := by decide +kernel
theorem dX7_zeros_25 : decode cX7_zeros 25 = .ok (.iload_n 1, 1) := by decide +kernel
theorem dX7_zeros_26 : decode cX7_zeros 26 = .ok (.invokevirtual 129, 3) := by decide +kernel
theorem dX7_zeros_29 : decode cX7_zeros 29 = .ok (.astore_n 2, 1) := by decide +kernel
theorem dX7_zeros_30 : decode cX7_zeros 30 = .ok (.aload_n 2, 1) := by decide +kernel
theorem dX7_zeros_31 : decode cX7_zeros 31 = .ok (.invokevirtual 178, 3) := by decide +kernel
theorem dX7_zeros_34 : decode cX7_zeros 34 = .ok (.iconst 0, 1) := by decide +kernel
theorem dX7_zeros_35 : decode cX7_zeros 35 = .ok (.istore_n 3, 1) := by decide +kernel
theorem dX7_zeros_36 : decode cX7_zeros 36 = .ok (.iconst 0, 1) := by decide +kernel
theorem dX7_zeros_37 : decode cX7_zeros 37 = .ok (.istore 4, 2) := by decide +kernel
theorem dX7_zeros_39 : decode cX7_zeros 39 = .ok (.iload 4, 2) := by decide +kernel
theorem dX7_zeros_41 : decode cX7_zeros 41 = .ok (.aload_n 0, 1) := by decide +kernel
theorem dX7_zeros_42 : decode cX7_zeros 42 = .ok (.getfield 10, 3) := by decide +kernel
theorem dX7_zeros_45 : decode cX7_zeros 45 = .ok (.getfield 80, 3) := by decide +kernel
theorem dX7_zeros_48 : decode cX7_zeros 48 = .ok (.if_icmp .ge 45, 3) := by decide +kernel
theorem dX7_zeros_51 : decode cX7_zeros 51 = .ok (.iconst 0, 1) := by decide +kernel
theorem dX7_zeros_52 : decode cX7_zeros 52 = .ok (.istore 5, 2) := by decide +kernel
theorem dX7_zeros_54 : decode cX7_zeros 54 = .ok (.iload 5, 2) := by decide +kernel
theorem dX7_zeros_56 : decode cX7_zeros 56 = .ok (.aload_n 0, 1) := by decide +kernel
theorem dX7_zeros_57 : decode cX7_zeros 57 = .ok (.getfield 10, 3) := by decide +kernel
theorem dX7_zeros_60 : decode cX7_zeros 60 = .ok (.getfield 80, 3) := by decide +kernel
theorem dX7_zeros_63 : decode cX7_zeros 63 = .ok (.if_icmp .ge 24, 3) := by decide +kernel
theorem dX7_zeros_66 : decode cX7_zeros 66 = .ok (.aload_n 2, 1) := by decide +kernel
theorem dX7_zeros_67 : decode cX7_zeros 67 = .ok (.iload 4, 2) := by decide +kernel
theorem dX7_zeros_69 : decode cX7_zeros 69 = .ok (.iload 5, 2) := by decide +kernel
theorem dX7_zeros_71 : decode cX7_zeros 71 = .ok (.invokevirtual 181, 3) := by decide +kernel
theorem dX7_zeros_74 : decode cX7_zeros 74 = .ok (.iload_n 3, 1) := by decide +kernel
theorem dX7_zeros_75 : decode cX7_zeros 75 = .ok (.aload_n 2, 1) := by decide +kernel
theorem dX7_zeros_76 : decode cX7_zeros 76 = .ok (.invokevirtual 185, 3) := by decide +kernel
theorem dX7_zeros_79 : decode cX7_zeros 79 = .ok (.iadd, 1) := by decide +kernel
theorem dX7_zeros_80 : decode cX7_zeros 80 = .ok (.istore_n 3, 1) := by decide +kernel
theorem dX7_zeros_81 : decode cX7_zeros 81 = .ok (.iinc 5 1, 3) := by decide +kernel
theorem dX7_zeros_84 : decode cX7_zeros 84 = .ok (.goto (-30), 3) := by decide +kernel
theorem dX7_zeros_87 : decode cX7_zeros 87 = .ok (.iinc 4 1, 3) := by decide +kernel
theorem dX7_zeros_90 : decode cX7_zeros 90 = .ok (.goto (-51), 3) := by decide +kernel
theorem dX7_zeros_93 : decode cX7_zeros 93 = .ok (.iload_n 3, 1) := by decide +kernel
theorem dX7_zeros_94 : decode cX7_zeros 94 = .ok (.ireturn, 1) := by decide +kernel
set_option maxRecDepth 20000 in
theorem ggX7_meet_X1_readyLines : GoodIn wsX7_meet wsX1_readyLines := goodIn_r _ [8, 9, 10, 11, 12, 13, 14, 15, 16, 17, 18, 19, 20, 21, 22, 23, 24, 25, 26, 27, 28, 29, 30, 31, 32, 33, 34, 35, 36, 37, 38, 39, 40, 41, 42, 84, 85, 86, 87, 88, 89, 90, 82, 83, 91, 92, 93] (by decide +kernel) (by decide +kernel)
set_option maxRecDepth 20000 in
theorem gX7_meet_X1_readyLines : GoodIn wsX7_meet (wsV RX7 178 RX1 yX1_readyLines wsX1_readyLines) := goodIn_app (goodIn_of _ (by decide +kernel)) ggX7_meet_X1_readyLines
set_option maxRecDepth 20000 in
theorem ggX7_meet_X1_answerLine : GoodIn wsX7_meet wsX1_answerLine := goodIn_r _ [46, 47, 48, 9, 49, 50, 51, 7, 52, 11, 12, 53, 54, 55, 56, 57, 13, 14, 15, 16, 17, 18, 19, 20, 21, 22, 23, 24, 25, 26, 27, 28, 29, 30, 31, 32, 33, 34, 35, 36, 37, 38, 39, 40, 41, 42, 58, 59, 60, 61, 62, 10, 63, 64, 65, 84, 85, 86, 87, 88, 89, 90, 82, 83, 91, 92, 93] (by decide +kernel) (by decide +kernel)
set_option maxRecDepth 20000 in
theorem gX7_meet_X1_answerLine : GoodIn wsX7_meet (wsV RX7 181 RX1 yX1_answerLine wsX1_answerLine) := goodIn_app (goodIn_of _ (by decide +kernel)) ggX7_meet_X1_answerLine
set_option maxRecDepth 20000 in
theorem ggX7_meet_X1_alikeInLine : GoodIn wsX7_meet wsX1_alikeInLine := goodIn_r _ [69, 9, 47, 84, 85, 86, 87, 88, 89, 90, 82, 83] (by decide +kernel) (by decide +kernel)
set_option maxRecDepth 20000 in
theorem gX7_meet_X1_alikeInLine : GoodIn wsX7_meet (wsV RX7 189 RX1 yX1_alikeInLine wsX1_alikeInLine) := goodIn_app (goodIn_of _ (by decide +kernel)) ggX7_meet_X1_alikeInLine
theorem dX7_meet_0 : decode cX7_meet 0 = .ok (.aload_n 0, 1) := by decide +kernel
theorem dX7_meet_1 : decode cX7_meet 1 = .ok (.getfield 10, 3) := by decide +kernel
theorem dX7_meet_4 : decode cX7_meet 4 = .ok (.getfield 80, 3) := by decide +kernel
theorem dX7_meet_7 : decode cX7_meet 7 = .ok (.bipush 23, 2) := by decide +kernel
theorem dX7_meet_9 : decode cX7_meet 9 = .ok (.if_icmp .le 6, 3) := by decide +kernel
theorem dX7_meet_12 : decode cX7_meet 12 = .ok (.bipush (-2), 2) := by decide +kernel
theorem dX7_meet_14 : decode cX7_meet 14 = .ok (.ireturn, 1) := by decide +kernel
theorem dX7_meet_15 : decode cX7_meet 15 = .ok (.aload_n 0, 1) := by decide +kernel
theorem dX7_meet_16 : decode cX7_meet 16 = .ok (.getfield 30, 3) := by decide +kernel
theorem dX7_meet_19 : decode cX7_meet 19 = .ok (.invokevirtual 178, 3) := by decide +kernel
theorem dX7_meet_22 : decode cX7_meet 22 = .ok (.aload_n 0, 1) := by decide +kernel
theorem dX7_meet_23 : decode cX7_meet 23 = .ok (.getfield 34, 3) := by decide +kernel
theorem dX7_meet_26 : decode cX7_meet 26 = .ok (.invokevirtual 178, 3) := by decide +kernel
theorem dX7_meet_29 : decode cX7_meet 29 = .ok (.iconst 0, 1) := by decide +kernel
theorem dX7_meet_30 : decode cX7_meet 30 = .ok (.istore_n 1, 1) := by decide +kernel
theorem dX7_meet_31 : decode cX7_meet 31 = .ok (.iconst 0, 1) := by decide +kernel
theorem dX7_meet_32 : decode cX7_meet 32 = .ok (.istore_n 2, 1) := by decide +kernel
theorem dX7_meet_33 : decode cX7_meet 33 = .ok (.iload_n 2, 1) := by decide +kernel
theorem dX7_meet_34 : decode cX7_meet 34 = .ok (.aload_n 0, 1) := by decide +kernel
theorem dX7_meet_35 : decode cX7_meet 35 = .ok (.getfield 10, 3) := by decide +kernel
theorem dX7_meet_38 : decode cX7_meet 38 = .ok (.getfield 80, 3) := by decide +kernel
theorem dX7_meet_41 : decode cX7_meet 41 = .ok (.if_icmp .ge 60, 3) := by decide +kernel
theorem dX7_meet_44 : decode cX7_meet 44 = .ok (.iconst 0, 1) := by decide +kernel
theorem dX7_meet_45 : decode cX7_meet 45 = .ok (.istore_n 3, 1) := by decide +kernel
theorem dX7_meet_46 : decode cX7_meet 46 = .ok (.iload_n 3, 1) := by decide +kernel
theorem dX7_meet_47 : decode cX7_meet 47 = .ok (.aload_n 0, 1) := by decide +kernel
theorem dX7_meet_48 : decode cX7_meet 48 = .ok (.getfield 10, 3) := by decide +kernel
theorem dX7_meet_51 : decode cX7_meet 51 = .ok (.getfield 80, 3) := by decide +kernel
theorem dX7_meet_54 : decode cX7_meet 54 = .ok (.if_icmp .ge 41, 3) := by decide +kernel
theorem dX7_meet_57 : decode cX7_meet 57 = .ok (.aload_n 0, 1) := by decide +kernel
theorem dX7_meet_58 : decode cX7_meet 58 = .ok (.getfield 30, 3) := by decide +kernel
theorem dX7_meet_61 : decode cX7_meet 61 = .ok (.iload_n 2, 1) := by decide +kernel
theorem dX7_meet_62 : decode cX7_meet 62 = .ok (.iload_n 3, 1) := by decide +kernel
theorem dX7_meet_63 : decode cX7_meet 63 = .ok (.invokevirtual 181, 3) := by decide +kernel
theorem dX7_meet_66 : decode cX7_meet 66 = .ok (.aload_n 0, 1) := by decide +kernel
theorem dX7_meet_67 : decode cX7_meet 67 = .ok (.getfield 34, 3) := by decide +kernel
theorem dX7_meet_70 : decode cX7_meet 70 = .ok (.iload_n 2, 1) := by decide +kernel
theorem dX7_meet_71 : decode cX7_meet 71 = .ok (.iload_n 3, 1) := by decide +kernel
theorem dX7_meet_72 : decode cX7_meet 72 = .ok (.invokevirtual 181, 3) := by decide +kernel
theorem dX7_meet_75 : decode cX7_meet 75 = .ok (.iload_n 1, 1) := by decide +kernel
theorem dX7_meet_76 : decode cX7_meet 76 = .ok (.aload_n 0, 1) := by decide +kernel
theorem dX7_meet_77 : decode cX7_meet 77 = .ok (.getfield 30, 3) := by decide +kernel
theorem dX7_meet_80 : decode cX7_meet 80 = .ok (.aload_n 0, 1) := by decide +kernel
theorem dX7_meet_81 : decode cX7_meet 81 = .ok (.getfield 34, 3) := by decide +kernel
theorem dX7_meet_84 : decode cX7_meet 84 = .ok (.invokevirtual 189, 3) := by decide +kernel
theorem dX7_meet_87 : decode cX7_meet 87 = .ok (.iadd, 1) := by decide +kernel
theorem dX7_meet_88 : decode cX7_meet 88 = .ok (.istore_n 1, 1) := by decide +kernel
theorem dX7_meet_89 : decode cX7_meet 89 = .ok (.iinc 3 1, 3) := by decide +kernel
theorem dX7_meet_92 : decode cX7_meet 92 = .ok (.goto (-46), 3) := by decide +kernel
theorem dX7_meet_95 : decode cX7_meet 95 = .ok (.iinc 2 1, 3) := by decide +kernel
theorem dX7_meet_98 : decode cX7_meet 98 = .ok (.goto (-65), 3) := by decide +kernel
theorem dX7_meet_101 : decode cX7_meet 101 = .ok (.iload_n 1, 1) := by decide +kernel
theorem dX7_meet_102 : decode cX7_meet 102 = .ok (.ireturn, 1) := by decide +kernel
theorem dX7_count_0 : decode cX7_count 0 = .ok (.iload_n 1, 1) := by decide +kernel
theorem dX7_count_1 : decode cX7_count 1 = .ok (.tableswitch 69 0 4 #[35, 43, 51, 59, 64], 35) := by decide +kernel
theorem dX7_count_36 : decode cX7_count 36 = .ok (.aload_n 0, 1) := by decide +kernel
theorem dX7_count_37 : decode cX7_count 37 = .ok (.getfield 10, 3) := by decide +kernel
theorem dX7_count_40 : decode cX7_count 40 = .ok (.getfield 80, 3) := by decide +kernel
theorem dX7_count_43 : decode cX7_count 43 = .ok (.ireturn, 1) := by decide +kernel
theorem dX7_count_44 : decode cX7_count 44 = .ok (.aload_n 0, 1) := by decide +kernel
theorem dX7_count_45 : decode cX7_count 45 = .ok (.getfield 30, 3) := by decide +kernel
theorem dX7_count_48 : decode cX7_count 48 = .ok (.getfield 133, 3) := by decide +kernel
theorem dX7_count_51 : decode cX7_count 51 = .ok (.ireturn, 1) := by decide +kernel
theorem dX7_count_52 : decode cX7_count 52 = .ok (.aload_n 0, 1) := by decide +kernel
theorem dX7_count_53 : decode cX7_count 53 = .ok (.getfield 34, 3) := by decide +kernel
theorem dX7_count_56 : decode cX7_count 56 = .ok (.getfield 133, 3) := by decide +kernel
theorem dX7_count_59 : decode cX7_count 59 = .ok (.ireturn, 1) := by decide +kernel
theorem dX7_count_60 : decode cX7_count 60 = .ok (.aload_n 0, 1) := by decide +kernel
theorem dX7_count_61 : decode cX7_count 61 = .ok (.getfield 69, 3) := by decide +kernel
theorem dX7_count_64 : decode cX7_count 64 = .ok (.ireturn, 1) := by decide +kernel
theorem dX7_count_65 : decode cX7_count 65 = .ok (.aload_n 0, 1) := by decide +kernel
theorem dX7_count_66 : decode cX7_count 66 = .ok (.getfield 73, 3) := by decide +kernel
theorem dX7_count_69 : decode cX7_count 69 = .ok (.ireturn, 1) := by decide +kernel
theorem dX7_count_70 : decode cX7_count 70 = .ok (.iconst (-1), 1) := by decide +kernel
theorem dX7_count_71 : decode cX7_count 71 = .ok (.ireturn, 1) := by decide +kernel
theorem dX7_trace_0 : decode cX7_trace 0 = .ok (.aload_n 0, 1) := by decide +kernel
theorem dX7_trace_1 : decode cX7_trace 1 = .ok (.getfield 76, 3) := by decide +kernel
theorem dX7_trace_4 : decode cX7_trace 4 = .ok (.lreturn, 1) := by decide +kernel
theorem dX7_isBox_0 : decode cX7_isBox 0 = .ok (.iload_n 0, 1) := by decide +kernel
theorem dX7_isBox_1 : decode cX7_isBox 1 = .ok (.ifCond .eq 8, 3) := by decide +kernel
theorem dX7_isBox_4 : decode cX7_isBox 4 = .ok (.iload_n 0, 1) := by decide +kernel
theorem dX7_isBox_5 : decode cX7_isBox 5 = .ok (.iconst 1, 1) := by decide +kernel
theorem dX7_isBox_6 : decode cX7_isBox 6 = .ok (.if_icmp .ne 7, 3) := by decide +kernel
theorem dX7_isBox_9 : decode cX7_isBox 9 = .ok (.iconst 1, 1) := by decide +kernel
theorem dX7_isBox_10 : decode cX7_isBox 10 = .ok (.goto 4, 3) := by decide +kernel
theorem dX7_isBox_13 : decode cX7_isBox 13 = .ok (.iconst 0, 1) := by decide +kernel
theorem dX7_isBox_14 : decode cX7_isBox 14 = .ok (.ireturn, 1) := by decide +kernel
theorem dX7_boxOf_0 : decode cX7_boxOf 0 = .ok (.iload_n 1, 1) := by decide +kernel
theorem dX7_boxOf_1 : decode cX7_boxOf 1 = .ok (.ifCond .ne 10, 3) := by decide +kernel
theorem dX7_boxOf_4 : decode cX7_boxOf 4 = .ok (.aload_n 0, 1) := by decide +kernel
theorem dX7_boxOf_5 : decode cX7_boxOf 5 = .ok (.getfield 30, 3) := by decide +kernel
theorem dX7_boxOf_8 : decode cX7_boxOf 8 = .ok (.goto 7, 3) := by decide +kernel
theorem dX7_boxOf_11 : decode cX7_boxOf 11 = .ok (.aload_n 0, 1) := by decide +kernel
theorem dX7_boxOf_12 : decode cX7_boxOf 12 = .ok (.getfield 34, 3) := by decide +kernel
theorem dX7_boxOf_15 : decode cX7_boxOf 15 = .ok (.areturn, 1) := by decide +kernel
theorem dX7_isKind_0 : decode cX7_isKind 0 = .ok (.iload_n 0, 1) := by decide +kernel
theorem dX7_isKind_1 : decode cX7_isKind 1 = .ok (.ifCond .lt 12, 3) := by decide +kernel
theorem dX7_isKind_4 : decode cX7_isKind 4 = .ok (.iload_n 0, 1) := by decide +kernel
theorem dX7_isKind_5 : decode cX7_isKind 5 = .ok (.iconst 2, 1) := by decide +kernel
theorem dX7_isKind_6 : decode cX7_isKind 6 = .ok (.if_icmp .gt 7, 3) := by decide +kernel
theorem dX7_isKind_9 : decode cX7_isKind 9 = .ok (.iconst 1, 1) := by decide +kernel
theorem dX7_isKind_10 : decode cX7_isKind 10 = .ok (.goto 4, 3) := by decide +kernel
theorem dX7_isKind_13 : decode cX7_isKind 13 = .ok (.iconst 0, 1) := by decide +kernel
theorem dX7_isKind_14 : decode cX7_isKind 14 = .ok (.ireturn, 1) := by decide +kernel
theorem dX7_isExponent_0 : decode cX7_isExponent 0 = .ok (.iload_n 0, 1) := by decide +kernel
theorem dX7_isExponent_1 : decode cX7_isExponent 1 = .ok (.ifCond .lt 12, 3) := by decide +kernel
theorem dX7_isExponent_4 : decode cX7_isExponent 4 = .ok (.iload_n 0, 1) := by decide +kernel
theorem dX7_isExponent_5 : decode cX7_isExponent 5 = .ok (.iconst 4, 1) := by decide +kernel
theorem dX7_isExponent_6 : decode cX7_isExponent 6 = .ok (.if_icmp .gt 7, 3) := by decide +kernel
theorem dX7_isExponent_9 : decode cX7_isExponent 9 = .ok (.iconst 1, 1) := by decide +kernel
theorem dX7_isExponent_10 : decode cX7_isExponent 10 = .ok (.goto 4, 3) := by decide +kernel
theorem dX7_isExponent_13 : decode cX7_isExponent 13 = .ok (.iconst 0, 1) := by decide +kernel
theorem dX7_isExponent_14 : decode cX7_isExponent 14 = .ok (.ireturn, 1) := by decide +kernel
set_option maxRecDepth 20000 in
theorem ggX7_arePoint_X4_has : GoodIn wsX7_arePoint wsX4_has := goodIn_r _ [6, 7, 20, 21] (by decide +kernel) (by decide +kernel)
set_option maxRecDepth 20000 in
theorem gX7_arePoint_X4_has : GoodIn wsX7_arePoint (wsV RX7 113 RX4 yX4_has wsX4_has) := goodIn_app (goodIn_of _ (by decide +kernel)) ggX7_arePoint_X4_has
theorem dX7_arePoint_0 : decode cX7_arePoint 0 = .ok (.aload_n 0, 1) := by decide +kernel
theorem dX7_arePoint_1 : decode cX7_arePoint 1 = .ok (.getfield 10, 3) := by decide +kernel
theorem dX7_arePoint_4 : decode cX7_arePoint 4 = .ok (.iload_n 1, 1) := by decide +kernel
theorem dX7_arePoint_5 : decode cX7_arePoint 5 = .ok (.invokevirtual 113, 3) := by decide +kernel
theorem dX7_arePoint_8 : decode cX7_arePoint 8 = .ok (.ifCond .eq 29, 3) := by decide +kernel
theorem dX7_arePoint_11 : decode cX7_arePoint 11 = .ok (.aload_n 0, 1) := by decide +kernel
theorem dX7_arePoint_12 : decode cX7_arePoint 12 = .ok (.getfield 10, 3) := by decide +kernel
theorem dX7_arePoint_15 : decode cX7_arePoint 15 = .ok (.iload_n 2, 1) := by decide +kernel
theorem dX7_arePoint_16 : decode cX7_arePoint 16 = .ok (.invokevirtual 113, 3) := by decide +kernel
theorem dX7_arePoint_19 : decode cX7_arePoint 19 = .ok (.ifCond .eq 18, 3) := by decide +kernel
theorem dX7_arePoint_22 : decode cX7_arePoint 22 = .ok (.aload_n 0, 1) := by decide +kernel
theorem dX7_arePoint_23 : decode cX7_arePoint 23 = .ok (.getfield 10, 3) := by decide +kernel
theorem dX7_arePoint_26 : decode cX7_arePoint 26 = .ok (.iload_n 3, 1) := by decide +kernel
theorem dX7_arePoint_27 : decode cX7_arePoint 27 = .ok (.invokevirtual 113, 3) := by decide +kernel
theorem dX7_arePoint_30 : decode cX7_arePoint 30 = .ok (.ifCond .eq 7, 3) := by decide +kernel
theorem dX7_arePoint_33 : decode cX7_arePoint 33 = .ok (.iconst 1, 1) := by decide +kernel
theorem dX7_arePoint_34 : decode cX7_arePoint 34 = .ok (.goto 4, 3) := by decide +kernel
theorem dX7_arePoint_37 : decode cX7_arePoint 37 = .ok (.iconst 0, 1) := by decide +kernel
theorem dX7_arePoint_38 : decode cX7_arePoint 38 = .ok (.ireturn, 1) := by decide +kernel
end
section
theorem dX8_init_0 : decode cX8_init 0 = .ok (.aload_n 0, 1) := by decide +kernel
theorem dX8_init_1 : decode cX8_init 1 = .ok (.invokespecial 1, 3) := by decide +kernel
theorem dX8_init_4 : decode cX8_init 4 = .ok (.aload_n 0, 1) := by decide +kernel
theorem dX8_init_5 : decode cX8_init 5 = .ok (.bipush 101, 2) := by decide +kernel
theorem dX8_init_7 : decode cX8_init 7 = .ok (.putfield 7, 3) := by decide +kernel
theorem dX8_init_10 : decode cX8_init 10 = .ok (.aload_n 0, 1) := by decide +kernel
theorem dX8_init_11 : decode cX8_init 11 = .ok (.iconst 1, 1) := by decide +kernel
theorem dX8_init_12 : decode cX8_init 12 = .ok (.putfield 13, 3) := by decide +kernel
theorem dX8_init_15 : decode cX8_init 15 = .ok (.aload_n 0, 1) := by decide +kernel
theorem dX8_init_16 : decode cX8_init 16 = .ok (.iconst 2, 1) := by decide +kernel
theorem dX8_init_17 : decode cX8_init 17 = .ok (.putfield 16, 3) := by decide +kernel
theorem dX8_init_20 : decode cX8_init 20 = .ok (.aload_n 0, 1) := by decide +kernel
theorem dX8_init_21 : decode cX8_init 21 = .ok (.iconst 2, 1) := by decide +kernel
theorem dX8_init_22 : decode cX8_init 22 = .ok (.newarray .int, 2) := by decide +kernel
theorem dX8_init_24 : decode cX8_init 24 = .ok (.putfield 19, 3) := by decide +kernel
theorem dX8_init_27 : decode cX8_init 27 = .ok (.aload_n 0, 1) := by decide +kernel
theorem dX8_init_28 : decode cX8_init 28 = .ok (.iconst 2, 1) := by decide +kernel
theorem dX8_init_29 : decode cX8_init 29 = .ok (.newarray .int, 2) := by decide +kernel
theorem dX8_init_31 : decode cX8_init 31 = .ok (.putfield 23, 3) := by decide +kernel
theorem dX8_init_34 : decode cX8_init 34 = .ok (.aload_n 0, 1) := by decide +kernel
theorem dX8_init_35 : decode cX8_init 35 = .ok (.bipush 8, 2) := by decide +kernel
theorem dX8_init_37 : decode cX8_init 37 = .ok (.newarray .int, 2) := by decide +kernel
theorem dX8_init_39 : decode cX8_init 39 = .ok (.putfield 26, 3) := by decide +kernel
theorem dX8_init_42 : decode cX8_init 42 = .ok (.aload_n 0, 1) := by decide +kernel
theorem dX8_init_43 : decode cX8_init 43 = .ok (.bipush 8, 2) := by decide +kernel
theorem dX8_init_45 : decode cX8_init 45 = .ok (.newarray .int, 2) := by decide +kernel
theorem dX8_init_47 : decode cX8_init 47 = .ok (.putfield 29, 3) := by decide +kernel
theorem dX8_init_50 : decode cX8_init 50 = .ok (.aload_n 0, 1) := by decide +kernel
theorem dX8_init_51 : decode cX8_init 51 = .ok (.bipush 8, 2) := by decide +kernel
theorem dX8_init_53 : decode cX8_init 53 = .ok (.newarray .int, 2) := by decide +kernel
theorem dX8_init_55 : decode cX8_init 55 = .ok (.putfield 32, 3) := by decide +kernel
theorem dX8_init_58 : decode cX8_init 58 = .ok (.aload_n 0, 1) := by decide +kernel
theorem dX8_init_59 : decode cX8_init 59 = .ok (.bipush 8, 2) := by decide +kernel
theorem dX8_init_61 : decode cX8_init 61 = .ok (.newarray .int, 2) := by decide +kernel
theorem dX8_init_63 : decode cX8_init 63 = .ok (.putfield 35, 3) := by decide +kernel
theorem dX8_init_66 : decode cX8_init 66 = .ok (.aload_n 0, 1) := by decide +kernel
theorem dX8_init_67 : decode cX8_init 67 = .ok (.bipush 16, 2) := by decide +kernel
theorem dX8_init_69 : decode cX8_init 69 = .ok (.newarray .int, 2) := by decide +kernel
theorem dX8_init_71 : decode cX8_init 71 = .ok (.putfield 38, 3) := by decide +kernel
theorem dX8_init_74 : decode cX8_init 74 = .ok (.aload_n 0, 1) := by decide +kernel
theorem dX8_init_75 : decode cX8_init 75 = .ok (.bipush 16, 2) := by decide +kernel
theorem dX8_init_77 : decode cX8_init 77 = .ok (.newarray .int, 2) := by decide +kernel
theorem dX8_init_79 : decode cX8_init 79 = .ok (.putfield 41, 3) := by decide +kernel
theorem dX8_init_82 : decode cX8_init 82 = .ok (.aload_n 0, 1) := by decide +kernel
theorem dX8_init_83 : decode cX8_init 83 = .ok (.bipush 40, 2) := by decide +kernel
theorem dX8_init_85 : decode cX8_init 85 = .ok (.newarray .int, 2) := by decide +kernel
theorem dX8_init_87 : decode cX8_init 87 = .ok (.putfield 44, 3) := by decide +kernel
theorem dX8_init_90 : decode cX8_init 90 = .ok (.aload_n 0, 1) := by decide +kernel
theorem dX8_init_91 : decode cX8_init 91 = .ok (.bipush 40, 2) := by decide +kernel
theorem dX8_init_93 : decode cX8_init 93 = .ok (.newarray .int, 2) := by decide +kernel
theorem dX8_init_95 : decode cX8_init 95 = .ok (.putfield 47, 3) := by decide +kernel
theorem dX8_init_98 : decode cX8_init 98 = .ok (.aload_n 0, 1) := by decide +kernel
theorem dX8_init_99 : decode cX8_init 99 = .ok (.bipush 40, 2) := by decide +kernel
theorem dX8_init_101 : decode cX8_init 101 = .ok (.newarray .int, 2) := by decide +kernel
theorem dX8_init_103 : decode cX8_init 103 = .ok (.putfield 50, 3) := by decide +kernel
theorem dX8_init_106 : decode cX8_init 106 = .ok (.aload_n 0, 1) := by decide +kernel
theorem dX8_init_107 : decode cX8_init 107 = .ok (.bipush 16, 2) := by decide +kernel
theorem dX8_init_109 : decode cX8_init 109 = .ok (.newarray .int, 2) := by decide +kernel
theorem dX8_init_111 : decode cX8_init 111 = .ok (.putfield 53, 3) := by decide +kernel
theorem dX8_init_114 : decode cX8_init 114 = .ok (.aload_n 0, 1) := by decide +kernel
theorem dX8_init_115 : decode cX8_init 115 = .ok (.bipush 16, 2) := by decide +kernel
theorem dX8_init_117 : decode cX8_init 117 = .ok (.newarray .int, 2) := by decide +kernel
theorem dX8_init_119 : decode cX8_init 119 = .ok (.putfield 56, 3) := by decide +kernel
theorem dX8_init_122 : decode cX8_init 122 = .ok (.aload_n 0, 1) := by decide +kernel
theorem dX8_init_123 : decode cX8_init 123 = .ok (.bipush 40, 2) := by decide +kernel
theorem dX8_init_125 : decode cX8_init 125 = .ok (.newarray .int, 2) := by decide +kernel
theorem dX8_init_127 : decode cX8_init 127 = .ok (.putfield 59, 3) := by decide +kernel
theorem dX8_init_130 : decode cX8_init 130 = .ok (.aload_n 0, 1) := by decide +kernel
theorem dX8_init_131 : decode cX8_init 131 = .ok (.bipush 9, 2) := by decide +kernel
theorem dX8_init_133 : decode cX8_init 133 = .ok (.newarray .int, 2) := by decide +kernel
theorem dX8_init_135 : decode cX8_init 135 = .ok (.putfield 62, 3) := by decide +kernel
theorem dX8_init_138 : decode cX8_init 138 = .ok (.aload_n 0, 1) := by decide +kernel
theorem dX8_init_139 : decode cX8_init 139 = .ok (.iconst 5, 1) := by decide +kernel
theorem dX8_init_140 : decode cX8_init 140 = .ok (.newarray .int, 2) := by decide +kernel
theorem dX8_init_142 : decode cX8_init 142 = .ok (.putfield 65, 3) := by decide +kernel
theorem dX8_init_145 : decode cX8_init 145 = .ok (.aload_n 0, 1) := by decide +kernel
theorem dX8_init_146 : decode cX8_init 146 = .ok (.iconst 5, 1) := by decide +kernel
theorem dX8_init_147 : decode cX8_init 147 = .ok (.newarray .int, 2) := by decide +kernel
theorem dX8_init_149 : decode cX8_init 149 = .ok (.putfield 68, 3) := by decide +kernel
theorem dX8_init_152 : decode cX8_init 152 = .ok (.aload_n 0, 1) := by decide +kernel
theorem dX8_init_153 : decode cX8_init 153 = .ok (.iconst 5, 1) := by decide +kernel
theorem dX8_init_154 : decode cX8_init 154 = .ok (.newarray .int, 2) := by decide +kernel
theorem dX8_init_156 : decode cX8_init 156 = .ok (.putfield 71, 3) := by decide +kernel
theorem dX8_init_159 : decode cX8_init 159 = .ok (.aload_n 0, 1) := by decide +kernel
theorem dX8_init_160 : decode cX8_init 160 = .ok (.iconst 5, 1) := by decide +kernel
theorem dX8_init_161 : decode cX8_init 161 = .ok (.newarray .int, 2) := by decide +kernel
theorem dX8_init_163 : decode cX8_init 163 = .ok (.putfield 74, 3) := by decide +kernel
theorem dX8_init_166 : decode cX8_init 166 = .ok (.aload_n 0, 1) := by decide +kernel
theorem dX8_init_167 : decode cX8_init 167 = .ok (.iconst 5, 1) := by decide +kernel
theorem dX8_init_168 : decode cX8_init 168 = .ok (.newarray .int, 2) := by decide +kernel
theorem dX8_init_170 : decode cX8_init 170 = .ok (.putfield 77, 3) := by decide +kernel
theorem dX8_init_173 : decode cX8_init 173 = .ok (.aload_n 0, 1) := by decide +kernel
theorem dX8_init_174 : decode cX8_init 174 = .ok (.bipush 20, 2) := by decide +kernel
theorem dX8_init_176 : decode cX8_init 176 = .ok (.newarray .int, 2) := by decide +kernel
theorem dX8_init_178 : decode cX8_init 178 = .ok (.putfield 80, 3) := by decide +kernel
theorem dX8_init_181 : decode cX8_init 181 = .ok (.aload_n 0, 1) := by decide +kernel
theorem dX8_init_182 : decode cX8_init 182 = .ok (.iconst 0, 1) := by decide +kernel
theorem dX8_init_183 : decode cX8_init 183 = .ok (.putfield 83, 3) := by decide +kernel
theorem dX8_init_186 : decode cX8_init 186 = .ok (.return_, 1) := by decide +kernel
theorem dX8_in_0 : decode cX8_in 0 = .ok (.iload_n 0, 1) := by decide +kernel
theorem dX8_in_1 : decode cX8_in 1 = .ok (.iload_n 1, 1) := by decide +kernel
theorem dX8_in_2 : decode cX8_in 2 = .ok (.if_icmp .lt 12, 3) := by decide +kernel
theorem dX8_in_5 : decode cX8_in 5 = .ok (.iload_n 0, 1) := by decide +kernel
theorem dX8_in_6 : decode cX8_in 6 = .ok (.iload_n 2, 1) := by decide +kernel
theorem dX8_in_7 : decode cX8_in 7 = .ok (.if_icmp .gt 7, 3) := by decide +kernel
theorem dX8_in_10 : decode cX8_in 10 = .ok (.iconst 1, 1) := by decide +kernel
theorem dX8_in_11 : decode cX8_in 11 = .ok (.goto 4, 3) := by decide +kernel
theorem dX8_in_14 : decode cX8_in 14 = .ok (.iconst 0, 1) := by decide +kernel
theorem dX8_in_15 : decode cX8_in 15 = .ok (.ireturn, 1) := by decide +kernel
set_option maxRecDepth 20000 in
theorem ggX8_isNumber_X8_in : GoodIn wsX8_isNumber wsX8_in := goodIn_r _ [5] (by decide +kernel) (by decide +kernel)
set_option maxRecDepth 20000 in
theorem gX8_isNumber_X8_in : GoodIn wsX8_isNumber (va_wsS RX8 86 yX8_in wsX8_in) := goodIn_app (goodIn_of _ (by decide +kernel)) ggX8_isNumber_X8_in
theorem dX8_isNumber_0 : decode cX8_isNumber 0 = .ok (.iload_n 1, 1) := by decide +kernel
theorem dX8_isNumber_1 : decode cX8_isNumber 1 = .ok (.iconst 0, 1) := by decide +kernel
theorem dX8_isNumber_2 : decode cX8_isNumber 2 = .ok (.aload_n 0, 1) := by decide +kernel
theorem dX8_isNumber_3 : decode cX8_isNumber 3 = .ok (.getfield 7, 3) := by decide +kernel
theorem dX8_isNumber_6 : decode cX8_isNumber 6 = .ok (.iconst 1, 1) := by decide +kernel
theorem dX8_isNumber_7 : decode cX8_isNumber 7 = .ok (.isub, 1) := by decide +kernel
theorem dX8_isNumber_8 : decode cX8_isNumber 8 = .ok (.invokestatic 86, 3) := by decide +kernel
theorem dX8_isNumber_11 : decode cX8_isNumber 11 = .ok (.ireturn, 1) := by decide +kernel
set_option maxRecDepth 20000 in
theorem ggX8_isBox_X8_in : GoodIn wsX8_isBox wsX8_in := goodIn_r _ [4] (by decide +kernel) (by decide +kernel)
set_option maxRecDepth 20000 in
theorem gX8_isBox_X8_in : GoodIn wsX8_isBox (va_wsS RX8 86 yX8_in wsX8_in) := goodIn_app (goodIn_of _ (by decide +kernel)) ggX8_isBox_X8_in
theorem dX8_isBox_0 : decode cX8_isBox 0 = .ok (.iload_n 0, 1) := by decide +kernel
theorem dX8_isBox_1 : decode cX8_isBox 1 = .ok (.iconst 0, 1) := by decide +kernel
theorem dX8_isBox_2 : decode cX8_isBox 2 = .ok (.iconst 1, 1) := by decide +kernel
theorem dX8_isBox_3 : decode cX8_isBox 3 = .ok (.invokestatic 86, 3) := by decide +kernel
theorem dX8_isBox_6 : decode cX8_isBox 6 = .ok (.ireturn, 1) := by decide +kernel
set_option maxRecDepth 20000 in
theorem ggX8_field_X8_in : GoodIn wsX8_field wsX8_in := goodIn_r _ [7] (by decide +kernel) (by decide +kernel)
set_option maxRecDepth 20000 in
theorem gX8_field_X8_in : GoodIn wsX8_field (va_wsS RX8 86 yX8_in wsX8_in) := goodIn_app (goodIn_of _ (by decide +kernel)) ggX8_field_X8_in
theorem dX8_field_0 : decode cX8_field 0 = .ok (.iload_n 1, 1) := by decide +kernel
theorem dX8_field_1 : decode cX8_field 1 = .ok (.iconst 5, 1) := by decide +kernel
theorem dX8_field_2 : decode cX8_field 2 = .ok (.sipush 997, 3) := by decide +kernel
theorem dX8_field_5 : decode cX8_field 5 = .ok (.invokestatic 86, 3) := by decide +kernel
theorem dX8_field_8 : decode cX8_field 8 = .ok (.istore_n 2, 1) := by decide +kernel
theorem dX8_field_9 : decode cX8_field 9 = .ok (.iconst 2, 1) := by decide +kernel
theorem dX8_field_10 : decode cX8_field 10 = .ok (.istore_n 3, 1) := by decide +kernel
theorem dX8_field_11 : decode cX8_field 11 = .ok (.iload_n 2, 1) := by decide +kernel
theorem dX8_field_12 : decode cX8_field 12 = .ok (.ifCond .eq 28, 3) := by decide +kernel
theorem dX8_field_15 : decode cX8_field 15 = .ok (.iload_n 3, 1) := by decide +kernel
theorem dX8_field_16 : decode cX8_field 16 = .ok (.iload_n 3, 1) := by decide +kernel
theorem dX8_field_17 : decode cX8_field 17 = .ok (.imul, 1) := by decide +kernel
theorem dX8_field_18 : decode cX8_field 18 = .ok (.iload_n 1, 1) := by decide +kernel
theorem dX8_field_19 : decode cX8_field 19 = .ok (.if_icmp .gt 21, 3) := by decide +kernel
theorem dX8_field_22 : decode cX8_field 22 = .ok (.iload_n 1, 1) := by decide +kernel
theorem dX8_field_23 : decode cX8_field 23 = .ok (.iload_n 3, 1) := by decide +kernel
theorem dX8_field_24 : decode cX8_field 24 = .ok (.irem, 1) := by decide +kernel
theorem dX8_field_25 : decode cX8_field 25 = .ok (.ifCond .eq 7, 3) := by decide +kernel
theorem dX8_field_28 : decode cX8_field 28 = .ok (.iconst 1, 1) := by decide +kernel
theorem dX8_field_29 : decode cX8_field 29 = .ok (.goto 4, 3) := by decide +kernel
theorem dX8_field_32 : decode cX8_field 32 = .ok (.iconst 0, 1) := by decide +kernel
theorem dX8_field_33 : decode cX8_field 33 = .ok (.istore_n 2, 1) := by decide +kernel
theorem dX8_field_34 : decode cX8_field 34 = .ok (.iinc 3 1, 3) := by decide +kernel
theorem dX8_field_37 : decode cX8_field 37 = .ok (.goto (-26), 3) := by decide +kernel
theorem dX8_field_40 : decode cX8_field 40 = .ok (.iload_n 2, 1) := by decide +kernel
theorem dX8_field_41 : decode cX8_field 41 = .ok (.ifCond .ne 5, 3) := by decide +kernel
theorem dX8_field_44 : decode cX8_field 44 = .ok (.iconst (-1), 1) := by decide +kernel
theorem dX8_field_45 : decode cX8_field 45 = .ok (.ireturn, 1) := by decide +kernel
theorem dX8_field_46 : decode cX8_field 46 = .ok (.aload_n 0, 1) := by decide +kernel
theorem dX8_field_47 : decode cX8_field 47 = .ok (.getfield 7, 3) := by decide +kernel
theorem dX8_field_50 : decode cX8_field 50 = .ok (.istore_n 3, 1) := by decide +kernel
theorem dX8_field_51 : decode cX8_field 51 = .ok (.aload_n 0, 1) := by decide +kernel
theorem dX8_field_52 : decode cX8_field 52 = .ok (.iload_n 1, 1) := by decide +kernel
theorem dX8_field_53 : decode cX8_field 53 = .ok (.putfield 7, 3) := by decide +kernel
theorem dX8_field_56 : decode cX8_field 56 = .ok (.aload_n 0, 1) := by decide +kernel
theorem dX8_field_57 : decode cX8_field 57 = .ok (.getfield 23, 3) := by decide +kernel
theorem dX8_field_60 : decode cX8_field 60 = .ok (.iconst 0, 1) := by decide +kernel
theorem dX8_field_61 : decode cX8_field 61 = .ok (.iconst 0, 1) := by decide +kernel
theorem dX8_field_62 : decode cX8_field 62 = .ok (.iastore, 1) := by decide +kernel
theorem dX8_field_63 : decode cX8_field 63 = .ok (.aload_n 0, 1) := by decide +kernel
theorem dX8_field_64 : decode cX8_field 64 = .ok (.getfield 23, 3) := by decide +kernel
theorem dX8_field_67 : decode cX8_field 67 = .ok (.iconst 1, 1) := by decide +kernel
theorem dX8_field_68 : decode cX8_field 68 = .ok (.iconst 0, 1) := by decide +kernel
theorem dX8_field_69 : decode cX8_field 69 = .ok (.iastore, 1) := by decide +kernel
theorem dX8_field_70 : decode cX8_field 70 = .ok (.aload_n 0, 1) := by decide +kernel
theorem dX8_field_71 : decode cX8_field 71 = .ok (.iconst 0, 1) := by decide +kernel
theorem dX8_field_72 : decode cX8_field 72 = .ok (.putfield 83, 3) := by decide +kernel
theorem dX8_field_75 : decode cX8_field 75 = .ok (.iload_n 3, 1) := by decide +kernel
theorem dX8_field_76 : decode cX8_field 76 = .ok (.ireturn, 1) := by decide +kernel
set_option maxRecDepth 20000 in
theorem ggX8_set_X8_in : GoodIn wsX8_set wsX8_in := goodIn_r _ [7] (by decide +kernel) (by decide +kernel)
set_option maxRecDepth 20000 in
theorem gX8_set_X8_in : GoodIn wsX8_set (va_wsS RX8 86 yX8_in wsX8_in) := goodIn_app (goodIn_of _ (by decide +kernel)) ggX8_set_X8_in
theorem dX8_set_0 : decode cX8_set 0 = .ok (.iconst (-1), 1) := by decide +kernel
theorem dX8_set_1 : decode cX8_set 1 = .ok (.istore_n 3, 1) := by decide +kernel
theorem dX8_set_2 : decode cX8_set 2 = .ok (.iload_n 1, 1) := by decide +kernel
theorem dX8_set_3 : decode cX8_set 3 = .ok (.ifCond .ne 27, 3) := by decide +kernel
theorem dX8_set_6 : decode cX8_set 6 = .ok (.iload_n 2, 1) := by decide +kernel
theorem dX8_set_7 : decode cX8_set 7 = .ok (.iconst 0, 1) := by decide +kernel
theorem dX8_set_8 : decode cX8_set 8 = .ok (.sipush 996, 3) := by decide +kernel
theorem dX8_set_11 : decode cX8_set 11 = .ok (.invokestatic 86, 3) := by decide +kernel
theorem dX8_set_14 : decode cX8_set 14 = .ok (.ifCond .eq 16, 3) := by decide +kernel
theorem dX8_set_17 : decode cX8_set 17 = .ok (.aload_n 0, 1) := by decide +kernel
theorem dX8_set_18 : decode cX8_set 18 = .ok (.getfield 13, 3) := by decide +kernel
theorem dX8_set_21 : decode cX8_set 21 = .ok (.istore_n 3, 1) := by decide +kernel
theorem dX8_set_22 : decode cX8_set 22 = .ok (.aload_n 0, 1) := by decide +kernel
theorem dX8_set_23 : decode cX8_set 23 = .ok (.iload_n 2, 1) := by decide +kernel
theorem dX8_set_24 : decode cX8_set 24 = .ok (.putfield 13, 3) := by decide +kernel
theorem dX8_set_27 : decode cX8_set 27 = .ok (.goto 68, 3) := by decide +kernel
theorem dX8_set_30 : decode cX8_set 30 = .ok (.iload_n 1, 1) := by decide +kernel
theorem dX8_set_31 : decode cX8_set 31 = .ok (.iconst 1, 1) := by decide +kernel
theorem dX8_set_32 : decode cX8_set 32 = .ok (.if_icmp .ne 27, 3) := by decide +kernel
theorem dX8_set_35 : decode cX8_set 35 = .ok (.iload_n 2, 1) := by decide +kernel
theorem dX8_set_36 : decode cX8_set 36 = .ok (.iconst 1, 1) := by decide +kernel
theorem dX8_set_37 : decode cX8_set 37 = .ok (.sipush 996, 3) := by decide +kernel
theorem dX8_set_40 : decode cX8_set 40 = .ok (.invokestatic 86, 3) := by decide +kernel
theorem dX8_set_43 : decode cX8_set 43 = .ok (.ifCond .eq 16, 3) := by decide +kernel
theorem dX8_set_46 : decode cX8_set 46 = .ok (.aload_n 0, 1) := by decide +kernel
theorem dX8_set_47 : decode cX8_set 47 = .ok (.getfield 16, 3) := by decide +kernel
theorem dX8_set_50 : decode cX8_set 50 = .ok (.istore_n 3, 1) := by decide +kernel
theorem dX8_set_51 : decode cX8_set 51 = .ok (.aload_n 0, 1) := by decide +kernel
theorem dX8_set_52 : decode cX8_set 52 = .ok (.iload_n 2, 1) := by decide +kernel
theorem dX8_set_53 : decode cX8_set 53 = .ok (.putfield 16, 3) := by decide +kernel
theorem dX8_set_56 : decode cX8_set 56 = .ok (.goto 39, 3) := by decide +kernel
theorem dX8_set_59 : decode cX8_set 59 = .ok (.iload_n 1, 1) := by decide +kernel
theorem dX8_set_60 : decode cX8_set 60 = .ok (.iconst 2, 1) := by decide +kernel
theorem dX8_set_61 : decode cX8_set 61 = .ok (.iconst 3, 1) := by decide +kernel
theorem dX8_set_62 : decode cX8_set 62 = .ok (.invokestatic 86, 3) := by decide +kernel
theorem dX8_set_65 : decode cX8_set 65 = .ok (.ifCond .eq 30, 3) := by decide +kernel
theorem dX8_set_68 : decode cX8_set 68 = .ok (.iload_n 2, 1) := by decide +kernel
theorem dX8_set_69 : decode cX8_set 69 = .ok (.iconst 0, 1) := by decide +kernel
theorem dX8_set_70 : decode cX8_set 70 = .ok (.iconst 2, 1) := by decide +kernel
theorem dX8_set_71 : decode cX8_set 71 = .ok (.invokestatic 86, 3) := by decide +kernel
theorem dX8_set_74 : decode cX8_set 74 = .ok (.ifCond .eq 21, 3) := by decide +kernel
theorem dX8_set_77 : decode cX8_set 77 = .ok (.aload_n 0, 1) := by decide +kernel
theorem dX8_set_78 : decode cX8_set 78 = .ok (.getfield 19, 3) := by decide +kernel
theorem dX8_set_81 : decode cX8_set 81 = .ok (.iload_n 1, 1) := by decide +kernel
theorem dX8_set_82 : decode cX8_set 82 = .ok (.iconst 2, 1) := by decide +kernel
theorem dX8_set_83 : decode cX8_set 83 = .ok (.isub, 1) := by decide +kernel
theorem dX8_set_84 : decode cX8_set 84 = .ok (.iaload, 1) := by decide +kernel
theorem dX8_set_85 : decode cX8_set 85 = .ok (.istore_n 3, 1) := by decide +kernel
theorem dX8_set_86 : decode cX8_set 86 = .ok (.aload_n 0, 1) := by decide +kernel
theorem dX8_set_87 : decode cX8_set 87 = .ok (.getfield 19, 3) := by decide +kernel
theorem dX8_set_90 : decode cX8_set 90 = .ok (.iload_n 1, 1) := by decide +kernel
theorem dX8_set_91 : decode cX8_set 91 = .ok (.iconst 2, 1) := by decide +kernel
theorem dX8_set_92 : decode cX8_set 92 = .ok (.isub, 1) := by decide +kernel
theorem dX8_set_93 : decode cX8_set 93 = .ok (.iload_n 2, 1) := by decide +kernel
theorem dX8_set_94 : decode cX8_set 94 = .ok (.iastore, 1) := by decide +kernel
theorem dX8_set_95 : decode cX8_set 95 = .ok (.iload_n 3, 1) := by decide +kernel
theorem dX8_set_96 : decode cX8_set 96 = .ok (.ireturn, 1) := by decide +kernel
theorem dX8_raised_0 : decode cX8_raised 0 = .ok (.iconst 1, 1) := by decide +kernel
theorem dX8_raised_1 : decode cX8_raised 1 = .ok (.istore_n 3, 1) := by decide +kernel
theorem dX8_raised_2 : decode cX8_raised 2 = .ok (.iconst 0, 1) := by decide +kernel
theorem dX8_raised_3 : decode cX8_raised 3 = .ok (.istore 4, 2) := by decide +kernel
theorem dX8_raised_5 : decode cX8_raised 5 = .ok (.iload 4, 2) := by decide +kernel
theorem dX8_raised_7 : decode cX8_raised 7 = .ok (.iload_n 2, 1) := by decide +kernel
theorem dX8_raised_8 : decode cX8_raised 8 = .ok (.if_icmp .ge 18, 3) := by decide +kernel
theorem dX8_raised_11 : decode cX8_raised 11 = .ok (.iload_n 3, 1) := by decide +kernel
theorem dX8_raised_12 : decode cX8_raised 12 = .ok (.iload_n 1, 1) := by decide +kernel
theorem dX8_raised_13 : decode cX8_raised 13 = .ok (.imul, 1) := by decide +kernel
theorem dX8_raised_14 : decode cX8_raised 14 = .ok (.aload_n 0, 1) := by decide +kernel
theorem dX8_raised_15 : decode cX8_raised 15 = .ok (.getfield 7, 3) := by decide +kernel
theorem dX8_raised_18 : decode cX8_raised 18 = .ok (.irem, 1) := by decide +kernel
theorem dX8_raised_19 : decode cX8_raised 19 = .ok (.istore_n 3, 1) := by decide +kernel
theorem dX8_raised_20 : decode cX8_raised 20 = .ok (.iinc 4 1, 3) := by decide +kernel
theorem dX8_raised_23 : decode cX8_raised 23 = .ok (.goto (-18), 3) := by decide +kernel
theorem dX8_raised_26 : decode cX8_raised 26 = .ok (.iload_n 3, 1) := by decide +kernel
theorem dX8_raised_27 : decode cX8_raised 27 = .ok (.ireturn, 1) := by decide +kernel
set_option maxRecDepth 20000 in
theorem ggX8_formOf_X8_raised : GoodIn wsX8_formOf wsX8_raised := goodIn_r _ [8, 2, 9, 10, 11, 12, 13, 14, 15, 16, 17, 18, 19, 20, 21, 22, 23, 24, 25, 26, 27, 28, 29, 30, 31, 32, 33, 34, 35, 36, 37] (by decide +kernel) (by decide +kernel)
set_option maxRecDepth 20000 in
theorem gX8_formOf_X8_raised : GoodIn wsX8_formOf (wsV RX8 90 RX8 yX8_raised wsX8_raised) := goodIn_app (goodIn_of _ (by decide +kernel)) ggX8_formOf_X8_raised
theorem dX8_formOf_0 : decode cX8_formOf 0 = .ok (.aload_n 0, 1) := by decide +kernel
theorem dX8_formOf_1 : decode cX8_formOf 1 = .ok (.iload_n 1, 1) := by decide +kernel
theorem dX8_formOf_2 : decode cX8_formOf 2 = .ok (.ifCond .ne 7, 3) := by decide +kernel
theorem dX8_formOf_5 : decode cX8_formOf 5 = .ok (.iload_n 2, 1) := by decide +kernel
theorem dX8_formOf_6 : decode cX8_formOf 6 = .ok (.goto 14, 3) := by decide +kernel
theorem dX8_formOf_9 : decode cX8_formOf 9 = .ok (.iload_n 2, 1) := by decide +kernel
theorem dX8_formOf_10 : decode cX8_formOf 10 = .ok (.aload_n 0, 1) := by decide +kernel
theorem dX8_formOf_11 : decode cX8_formOf 11 = .ok (.getfield 13, 3) := by decide +kernel
theorem dX8_formOf_14 : decode cX8_formOf 14 = .ok (.iadd, 1) := by decide +kernel
theorem dX8_formOf_15 : decode cX8_formOf 15 = .ok (.aload_n 0, 1) := by decide +kernel
theorem dX8_formOf_16 : decode cX8_formOf 16 = .ok (.getfield 7, 3) := by decide +kernel
theorem dX8_formOf_19 : decode cX8_formOf 19 = .ok (.irem, 1) := by decide +kernel
theorem dX8_formOf_20 : decode cX8_formOf 20 = .ok (.iload_n 3, 1) := by decide +kernel
theorem dX8_formOf_21 : decode cX8_formOf 21 = .ok (.invokevirtual 90, 3) := by decide +kernel
theorem dX8_formOf_24 : decode cX8_formOf 24 = .ok (.istore 4, 2) := by decide +kernel
theorem dX8_formOf_26 : decode cX8_formOf 26 = .ok (.iload_n 1, 1) := by decide +kernel
theorem dX8_formOf_27 : decode cX8_formOf 27 = .ok (.iconst 2, 1) := by decide +kernel
theorem dX8_formOf_28 : decode cX8_formOf 28 = .ok (.if_icmp .ne 23, 3) := by decide +kernel
theorem dX8_formOf_31 : decode cX8_formOf 31 = .ok (.aload_n 0, 1) := by decide +kernel
theorem dX8_formOf_32 : decode cX8_formOf 32 = .ok (.getfield 16, 3) := by decide +kernel
theorem dX8_formOf_35 : decode cX8_formOf 35 = .ok (.aload_n 0, 1) := by decide +kernel
theorem dX8_formOf_36 : decode cX8_formOf 36 = .ok (.getfield 7, 3) := by decide +kernel
theorem dX8_formOf_39 : decode cX8_formOf 39 = .ok (.irem, 1) := by decide +kernel
theorem dX8_formOf_40 : decode cX8_formOf 40 = .ok (.iload 4, 2) := by decide +kernel
theorem dX8_formOf_42 : decode cX8_formOf 42 = .ok (.imul, 1) := by decide +kernel
theorem dX8_formOf_43 : decode cX8_formOf 43 = .ok (.aload_n 0, 1) := by decide +kernel
theorem dX8_formOf_44 : decode cX8_formOf 44 = .ok (.getfield 7, 3) := by decide +kernel
theorem dX8_formOf_47 : decode cX8_formOf 47 = .ok (.irem, 1) := by decide +kernel
theorem dX8_formOf_48 : decode cX8_formOf 48 = .ok (.goto 5, 3) := by decide +kernel
theorem dX8_formOf_51 : decode cX8_formOf 51 = .ok (.iload 4, 2) := by decide +kernel
theorem dX8_formOf_53 : decode cX8_formOf 53 = .ok (.ireturn, 1) := by decide +kernel
set_option maxRecDepth 20000 in
theorem ggX8_form_X8_in : GoodIn wsX8_form wsX8_in := goodIn_r _ [7] (by decide +kernel) (by decide +kernel)
set_option maxRecDepth 20000 in
theorem gX8_form_X8_in : GoodIn wsX8_form (va_wsS RX8 86 yX8_in wsX8_in) := goodIn_app (goodIn_of _ (by decide +kernel)) ggX8_form_X8_in
set_option maxRecDepth 20000 in
theorem ggX8_form_X8_isNumber : GoodIn wsX8_form wsX8_isNumber := goodIn_r _ [11, 12, 4, 5, 6, 7, 23, 24, 25, 26, 27, 28, 29, 30, 31, 32, 33, 34, 35, 36, 37, 38, 39, 40, 41, 42, 43, 44, 45, 46, 47, 48, 49, 50, 51] (by decide +kernel) (by decide +kernel)
set_option maxRecDepth 20000 in
theorem gX8_form_X8_isNumber : GoodIn wsX8_form (wsV RX8 94 RX8 yX8_isNumber wsX8_isNumber) := goodIn_app (goodIn_of _ (by decide +kernel)) ggX8_form_X8_isNumber
set_option maxRecDepth 20000 in
theorem ggX8_form_X8_formOf : GoodIn wsX8_form wsX8_formOf := goodIn_r _ [16, 17, 12, 18, 19, 20, 21, 6, 22, 23, 24, 25, 26, 27, 28, 29, 30, 31, 32, 33, 34, 35, 36, 37, 38, 39, 40, 41, 42, 43, 44, 45, 46, 47, 48, 49, 50, 51] (by decide +kernel) (by decide +kernel)
set_option maxRecDepth 20000 in
theorem gX8_form_X8_formOf : GoodIn wsX8_form (wsV RX8 106 RX8 yX8_formOf wsX8_formOf) := goodIn_app (goodIn_of _ (by decide +kernel)) ggX8_form_X8_formOf
theorem dX8_form_0 : decode cX8_form 0 = .ok (.iload_n 1, 1) := by decide +kernel
theorem dX8_form_1 : decode cX8_form 1 = .ok (.iconst 0, 1) := by decide +kernel
theorem dX8_form_2 : decode cX8_form 2 = .ok (.iconst 2, 1) := by decide +kernel
theorem dX8_form_3 : decode cX8_form 3 = .ok (.invokestatic 86, 3) := by decide +kernel
theorem dX8_form_6 : decode cX8_form 6 = .ok (.ifCond .eq 20, 3) := by decide +kernel
theorem dX8_form_9 : decode cX8_form 9 = .ok (.aload_n 0, 1) := by decide +kernel
theorem dX8_form_10 : decode cX8_form 10 = .ok (.iload_n 2, 1) := by decide +kernel
theorem dX8_form_11 : decode cX8_form 11 = .ok (.invokevirtual 94, 3) := by decide +kernel
theorem dX8_form_14 : decode cX8_form 14 = .ok (.ifCond .eq 12, 3) := by decide +kernel
theorem dX8_form_17 : decode cX8_form 17 = .ok (.iload_n 3, 1) := by decide +kernel
theorem dX8_form_18 : decode cX8_form 18 = .ok (.iconst 0, 1) := by decide +kernel
theorem dX8_form_19 : decode cX8_form 19 = .ok (.iconst 4, 1) := by decide +kernel
theorem dX8_form_20 : decode cX8_form 20 = .ok (.invokestatic 86, 3) := by decide +kernel
theorem dX8_form_23 : decode cX8_form 23 = .ok (.ifCond .ne 5, 3) := by decide +kernel
theorem dX8_form_26 : decode cX8_form 26 = .ok (.iconst (-1), 1) := by decide +kernel
theorem dX8_form_27 : decode cX8_form 27 = .ok (.ireturn, 1) := by decide +kernel
theorem dX8_form_28 : decode cX8_form 28 = .ok (.aload_n 0, 1) := by decide +kernel
theorem dX8_form_29 : decode cX8_form 29 = .ok (.dup, 1) := by decide +kernel
theorem dX8_form_30 : decode cX8_form 30 = .ok (.getfield 98, 3) := by decide +kernel
theorem dX8_form_33 : decode cX8_form 33 = .ok (.iload_n 1, 1) := by decide +kernel
theorem dX8_form_34 : decode cX8_form 34 = .ok (.ifCond .ne 7, 3) := by decide +kernel
theorem dX8_form_37 : decode cX8_form 37 = .ok (.lconst 1, 1) := by decide +kernel
theorem dX8_form_38 : decode cX8_form 38 = .ok (.goto 17, 3) := by decide +kernel
theorem dX8_form_41 : decode cX8_form 41 = .ok (.iload_n 1, 1) := by decide +kernel
theorem dX8_form_42 : decode cX8_form 42 = .ok (.iconst 1, 1) := by decide +kernel
theorem dX8_form_43 : decode cX8_form 43 = .ok (.if_icmp .ne 9, 3) := by decide +kernel
theorem dX8_form_46 : decode cX8_form 46 = .ok (.ldc2_w 102, 3) := by decide +kernel
theorem dX8_form_49 : decode cX8_form 49 = .ok (.goto 6, 3) := by decide +kernel
theorem dX8_form_52 : decode cX8_form 52 = .ok (.ldc2_w 104, 3) := by decide +kernel
theorem dX8_form_55 : decode cX8_form 55 = .ok (.ladd, 1) := by decide +kernel
theorem dX8_form_56 : decode cX8_form 56 = .ok (.putfield 98, 3) := by decide +kernel
theorem dX8_form_59 : decode cX8_form 59 = .ok (.aload_n 0, 1) := by decide +kernel
theorem dX8_form_60 : decode cX8_form 60 = .ok (.iload_n 1, 1) := by decide +kernel
theorem dX8_form_61 : decode cX8_form 61 = .ok (.iload_n 2, 1) := by decide +kernel
theorem dX8_form_62 : decode cX8_form 62 = .ok (.iload_n 3, 1) := by decide +kernel
theorem dX8_form_63 : decode cX8_form 63 = .ok (.invokevirtual 106, 3) := by decide +kernel
theorem dX8_form_66 : decode cX8_form 66 = .ok (.ireturn, 1) := by decide +kernel
set_option maxRecDepth 20000 in
theorem ggX8_term_X8_isBox : GoodIn wsX8_term wsX8_isBox := goodIn_r _ [10, 11, 12, 9, 13] (by decide +kernel) (by decide +kernel)
set_option maxRecDepth 20000 in
theorem gX8_term_X8_isBox : GoodIn wsX8_term (va_wsS RX8 110 yX8_isBox wsX8_isBox) := goodIn_app (goodIn_of _ (by decide +kernel)) ggX8_term_X8_isBox
set_option maxRecDepth 20000 in
theorem ggX8_term_X8_in : GoodIn wsX8_term wsX8_in := goodIn_r _ [13] (by decide +kernel) (by decide +kernel)
set_option maxRecDepth 20000 in
theorem gX8_term_X8_in : GoodIn wsX8_term (va_wsS RX8 86 yX8_in wsX8_in) := goodIn_app (goodIn_of _ (by decide +kernel)) ggX8_term_X8_in
theorem dX8_term_0 : decode cX8_term 0 = .ok (.iload_n 1, 1) := by decide +kernel
theorem dX8_term_1 : decode cX8_term 1 = .ok (.invokestatic 110, 3) := by decide +kernel
theorem dX8_term_4 : decode cX8_term 4 = .ok (.ifCond .eq 46, 3) := by decide +kernel
theorem dX8_term_7 : decode cX8_term 7 = .ok (.iload_n 2, 1) := by decide +kernel
theorem dX8_term_8 : decode cX8_term 8 = .ok (.iconst 1, 1) := by decide +kernel
theorem dX8_term_9 : decode cX8_term 9 = .ok (.aload_n 0, 1) := by decide +kernel
theorem dX8_term_10 : decode cX8_term 10 = .ok (.getfield 7, 3) := by decide +kernel
theorem dX8_term_13 : decode cX8_term 13 = .ok (.iconst 1, 1) := by decide +kernel
theorem dX8_term_14 : decode cX8_term 14 = .ok (.isub, 1) := by decide +kernel
theorem dX8_term_15 : decode cX8_term 15 = .ok (.invokestatic 86, 3) := by decide +kernel
theorem dX8_term_18 : decode cX8_term 18 = .ok (.ifCond .eq 32, 3) := by decide +kernel
theorem dX8_term_21 : decode cX8_term 21 = .ok (.iload_n 3, 1) := by decide +kernel
theorem dX8_term_22 : decode cX8_term 22 = .ok (.iconst 0, 1) := by decide +kernel
theorem dX8_term_23 : decode cX8_term 23 = .ok (.iconst 4, 1) := by decide +kernel
theorem dX8_term_24 : decode cX8_term 24 = .ok (.invokestatic 86, 3) := by decide +kernel
theorem dX8_term_27 : decode cX8_term 27 = .ok (.ifCond .eq 23, 3) := by decide +kernel
theorem dX8_term_30 : decode cX8_term 30 = .ok (.iload 4, 2) := by decide +kernel
theorem dX8_term_32 : decode cX8_term 32 = .ok (.iconst 0, 1) := by decide +kernel
theorem dX8_term_33 : decode cX8_term 33 = .ok (.iconst 4, 1) := by decide +kernel
theorem dX8_term_34 : decode cX8_term 34 = .ok (.invokestatic 86, 3) := by decide +kernel
theorem dX8_term_37 : decode cX8_term 37 = .ok (.ifCond .eq 13, 3) := by decide +kernel
theorem dX8_term_40 : decode cX8_term 40 = .ok (.iload 5, 2) := by decide +kernel
theorem dX8_term_42 : decode cX8_term 42 = .ok (.iconst 0, 1) := by decide +kernel
theorem dX8_term_43 : decode cX8_term 43 = .ok (.iconst 4, 1) := by decide +kernel
theorem dX8_term_44 : decode cX8_term 44 = .ok (.invokestatic 86, 3) := by decide +kernel
theorem dX8_term_47 : decode cX8_term 47 = .ok (.ifCond .ne 5, 3) := by decide +kernel
theorem dX8_term_50 : decode cX8_term 50 = .ok (.iconst (-1), 1) := by decide +kernel
theorem dX8_term_51 : decode cX8_term 51 = .ok (.ireturn, 1) := by decide +kernel
theorem dX8_term_52 : decode cX8_term 52 = .ok (.aload_n 0, 1) := by decide +kernel
theorem dX8_term_53 : decode cX8_term 53 = .ok (.getfield 23, 3) := by decide +kernel
theorem dX8_term_56 : decode cX8_term 56 = .ok (.iload_n 1, 1) := by decide +kernel
theorem dX8_term_57 : decode cX8_term 57 = .ok (.iaload, 1) := by decide +kernel
theorem dX8_term_58 : decode cX8_term 58 = .ok (.iconst 4, 1) := by decide +kernel
theorem dX8_term_59 : decode cX8_term 59 = .ok (.if_icmp .ne 6, 3) := by decide +kernel
theorem dX8_term_62 : decode cX8_term 62 = .ok (.bipush (-3), 2) := by decide +kernel
theorem dX8_term_64 : decode cX8_term 64 = .ok (.ireturn, 1) := by decide +kernel
theorem dX8_term_65 : decode cX8_term 65 = .ok (.iconst 4, 1) := by decide +kernel
theorem dX8_term_66 : decode cX8_term 66 = .ok (.iload_n 1, 1) := by decide +kernel
theorem dX8_term_67 : decode cX8_term 67 = .ok (.imul, 1) := by decide +kernel
theorem dX8_term_68 : decode cX8_term 68 = .ok (.aload_n 0, 1) := by decide +kernel
theorem dX8_term_69 : decode cX8_term 69 = .ok (.getfield 23, 3) := by decide +kernel
theorem dX8_term_72 : decode cX8_term 72 = .ok (.iload_n 1, 1) := by decide +kernel
theorem dX8_term_73 : decode cX8_term 73 = .ok (.iaload, 1) := by decide +kernel
theorem dX8_term_74 : decode cX8_term 74 = .ok (.iadd, 1) := by decide +kernel
theorem dX8_term_75 : decode cX8_term 75 = .ok (.istore 6, 2) := by decide +kernel
theorem dX8_term_77 : decode cX8_term 77 = .ok (.aload_n 0, 1) := by decide +kernel
theorem dX8_term_78 : decode cX8_term 78 = .ok (.getfield 26, 3) := by decide +kernel
theorem dX8_term_81 : decode cX8_term 81 = .ok (.iload 6, 2) := by decide +kernel
theorem dX8_term_83 : decode cX8_term 83 = .ok (.iload_n 2, 1) := by decide +kernel
theorem dX8_term_84 : decode cX8_term 84 = .ok (.iastore, 1) := by decide +kernel
theorem dX8_term_85 : decode cX8_term 85 = .ok (.aload_n 0, 1) := by decide +kernel
theorem dX8_term_86 : decode cX8_term 86 = .ok (.getfield 29, 3) := by decide +kernel
theorem dX8_term_89 : decode cX8_term 89 = .ok (.iload 6, 2) := by decide +kernel
theorem dX8_term_91 : decode cX8_term 91 = .ok (.iload_n 3, 1) := by decide +kernel
theorem dX8_term_92 : decode cX8_term 92 = .ok (.iastore, 1) := by decide +kernel
theorem dX8_term_93 : decode cX8_term 93 = .ok (.aload_n 0, 1) := by decide +kernel
theorem dX8_term_94 : decode cX8_term 94 = .ok (.getfield 32, 3) := by decide +kernel
theorem dX8_term_97 : decode cX8_term 97 = .ok (.iload 6, 2) := by decide +kernel
theorem dX8_term_99 : decode cX8_term 99 = .ok (.iload 4, 2) := by decide +kernel
theorem dX8_term_101 : decode cX8_term 101 = .ok (.iastore, 1) := by decide +kernel
theorem dX8_term_102 : decode cX8_term 102 = .ok (.aload_n 0, 1) := by decide +kernel
theorem dX8_term_103 : decode cX8_term 103 = .ok (.getfield 35, 3) := by decide +kernel
theorem dX8_term_106 : decode cX8_term 106 = .ok (.iload 6, 2) := by decide +kernel
theorem dX8_term_108 : decode cX8_term 108 = .ok (.iload 5, 2) := by decide +kernel
theorem dX8_term_110 : decode cX8_term 110 = .ok (.iastore, 1) := by decide +kernel
theorem dX8_term_111 : decode cX8_term 111 = .ok (.aload_n 0, 1) := by decide +kernel
theorem dX8_term_112 : decode cX8_term 112 = .ok (.getfield 23, 3) := by decide +kernel
theorem dX8_term_115 : decode cX8_term 115 = .ok (.iload_n 1, 1) := by decide +kernel
theorem dX8_term_116 : decode cX8_term 116 = .ok (.dup2, 1) := by decide +kernel
theorem dX8_term_117 : decode cX8_term 117 = .ok (.iaload, 1) := by decide +kernel
theorem dX8_term_118 : decode cX8_term 118 = .ok (.iconst 1, 1) := by decide +kernel
theorem dX8_term_119 : decode cX8_term 119 = .ok (.iadd, 1) := by decide +kernel
theorem dX8_term_120 : decode cX8_term 120 = .ok (.iastore, 1) := by decide +kernel
theorem dX8_term_121 : decode cX8_term 121 = .ok (.aload_n 0, 1) := by decide +kernel
theorem dX8_term_122 : decode cX8_term 122 = .ok (.getfield 23, 3) := by decide +kernel
theorem dX8_term_125 : decode cX8_term 125 = .ok (.iload_n 1, 1) := by decide +kernel
theorem dX8_term_126 : decode cX8_term 126 = .ok (.iaload, 1) := by decide +kernel
theorem dX8_term_127 : decode cX8_term 127 = .ok (.iconst 1, 1) := by decide +kernel
theorem dX8_term_128 : decode cX8_term 128 = .ok (.isub, 1) := by decide +kernel
theorem dX8_term_129 : decode cX8_term 129 = .ok (.ireturn, 1) := by decide +kernel
set_option maxRecDepth 20000 in
theorem ggX8_empty_X8_isBox : GoodIn wsX8_empty wsX8_isBox := goodIn_r _ [5, 6, 7, 4, 8] (by decide +kernel) (by decide +kernel)
set_option maxRecDepth 20000 in
theorem gX8_empty_X8_isBox : GoodIn wsX8_empty (va_wsS RX8 110 yX8_isBox wsX8_isBox) := goodIn_app (goodIn_of _ (by decide +kernel)) ggX8_empty_X8_isBox
theorem dX8_empty_0 : decode cX8_empty 0 = .ok (.iload_n 1, 1) := by decide +kernel
theorem dX8_empty_1 : decode cX8_empty 1 = .ok (.invokestatic 110, 3) := by decide +kernel
theorem dX8_empty_4 : decode cX8_empty 4 = .ok (.ifCond .ne 5, 3) := by decide +kernel
theorem dX8_empty_7 : decode cX8_empty 7 = .ok (.iconst (-1), 1) := by decide +kernel
theorem dX8_empty_8 : decode cX8_empty 8 = .ok (.ireturn, 1) := by decide +kernel
theorem dX8_empty_9 : decode cX8_empty 9 = .ok (.aload_n 0, 1) := by decide +kernel
theorem dX8_empty_10 : decode cX8_empty 10 = .ok (.getfield 23, 3) := by decide +kernel
theorem dX8_empty_13 : decode cX8_empty 13 = .ok (.iload_n 1, 1) := by decide +kernel
theorem dX8_empty_14 : decode cX8_empty 14 = .ok (.iaload, 1) := by decide +kernel
theorem dX8_empty_15 : decode cX8_empty 15 = .ok (.istore_n 2, 1) := by decide +kernel
theorem dX8_empty_16 : decode cX8_empty 16 = .ok (.aload_n 0, 1) := by decide +kernel
theorem dX8_empty_17 : decode cX8_empty 17 = .ok (.getfield 23, 3) := by decide +kernel
theorem dX8_empty_20 : decode cX8_empty 20 = .ok (.iload_n 1, 1) := by decide +kernel
theorem dX8_empty_21 : decode cX8_empty 21 = .ok (.iconst 0, 1) := by decide +kernel
theorem dX8_empty_22 : decode cX8_empty 22 = .ok (.iastore, 1) := by decide +kernel
theorem dX8_empty_23 : decode cX8_empty 23 = .ok (.iload_n 2, 1) := by decide +kernel
theorem dX8_empty_24 : decode cX8_empty 24 = .ok (.ireturn, 1) := by decide +kernel
set_option maxRecDepth 20000 in
theorem ggX8_answer_X8_formOf : GoodIn wsX8_answer wsX8_formOf := goodIn_r _ [12, 13, 5, 14, 15, 16, 17, 11, 18, 19, 20, 21, 22, 23, 24, 25, 26, 27, 28, 29, 30, 31, 32, 33, 34, 35, 36, 37, 38, 39, 40, 41, 42, 43, 44, 45, 46, 47] (by decide +kernel) (by decide +kernel)
set_option maxRecDepth 20000 in
theorem gX8_answer_X8_formOf : GoodIn wsX8_answer (wsV RX8 106 RX8 yX8_formOf wsX8_formOf) := goodIn_app (goodIn_of _ (by decide +kernel)) ggX8_answer_X8_formOf
theorem dX8_answer_0 : decode cX8_answer 0 = .ok (.iconst 0, 1) := by decide +kernel
theorem dX8_answer_1 : decode cX8_answer 1 = .ok (.istore 5, 2) := by decide +kernel
theorem dX8_answer_3 : decode cX8_answer 3 = .ok (.iconst 4, 1) := by decide +kernel
theorem dX8_answer_4 : decode cX8_answer 4 = .ok (.iload_n 1, 1) := by decide +kernel
theorem dX8_answer_5 : decode cX8_answer 5 = .ok (.imul, 1) := by decide +kernel
theorem dX8_answer_6 : decode cX8_answer 6 = .ok (.istore 6, 2) := by decide +kernel
theorem dX8_answer_8 : decode cX8_answer 8 = .ok (.iload 6, 2) := by decide +kernel
theorem dX8_answer_10 : decode cX8_answer 10 = .ok (.iconst 4, 1) := by decide +kernel
theorem dX8_answer_11 : decode cX8_answer 11 = .ok (.iload_n 1, 1) := by decide +kernel
theorem dX8_answer_12 : decode cX8_answer 12 = .ok (.imul, 1) := by decide +kernel
theorem dX8_answer_13 : decode cX8_answer 13 = .ok (.aload_n 0, 1) := by decide +kernel
theorem dX8_answer_14 : decode cX8_answer 14 = .ok (.getfield 23, 3) := by decide +kernel
theorem dX8_answer_17 : decode cX8_answer 17 = .ok (.iload_n 1, 1) := by decide +kernel
theorem dX8_answer_18 : decode cX8_answer 18 = .ok (.iaload, 1) := by decide +kernel
theorem dX8_answer_19 : decode cX8_answer 19 = .ok (.iadd, 1) := by decide +kernel
theorem dX8_answer_20 : decode cX8_answer 20 = .ok (.if_icmp .ge 102, 3) := by decide +kernel
theorem dX8_answer_23 : decode cX8_answer 23 = .ok (.aload_n 0, 1) := by decide +kernel
theorem dX8_answer_24 : decode cX8_answer 24 = .ok (.getfield 26, 3) := by decide +kernel
theorem dX8_answer_27 : decode cX8_answer 27 = .ok (.iload 6, 2) := by decide +kernel
theorem dX8_answer_29 : decode cX8_answer 29 = .ok (.iaload, 1) := by decide +kernel
theorem dX8_answer_30 : decode cX8_answer 30 = .ok (.aload_n 0, 1) := by decide +kernel
theorem dX8_answer_31 : decode cX8_answer 31 = .ok (.aload_n 0, 1) := by decide +kernel
theorem dX8_answer_32 : decode cX8_answer 32 = .ok (.getfield 19, 3) := by decide +kernel
theorem dX8_answer_35 : decode cX8_answer 35 = .ok (.iload_n 1, 1) := by decide +kernel
theorem dX8_answer_36 : decode cX8_answer 36 = .ok (.iaload, 1) := by decide +kernel
theorem dX8_answer_37 : decode cX8_answer 37 = .ok (.iload_n 2, 1) := by decide +kernel
theorem dX8_answer_38 : decode cX8_answer 38 = .ok (.aload_n 0, 1) := by decide +kernel
theorem dX8_answer_39 : decode cX8_answer 39 = .ok (.getfield 29, 3) := by decide +kernel
theorem dX8_answer_42 : decode cX8_answer 42 = .ok (.iload 6, 2) := by decide +kernel
theorem dX8_answer_44 : decode cX8_answer 44 = .ok (.iaload, 1) := by decide +kernel
theorem dX8_answer_45 : decode cX8_answer 45 = .ok (.invokevirtual 106, 3) := by decide +kernel
theorem dX8_answer_48 : decode cX8_answer 48 = .ok (.imul, 1) := by decide +kernel
theorem dX8_answer_49 : decode cX8_answer 49 = .ok (.aload_n 0, 1) := by decide +kernel
theorem dX8_answer_50 : decode cX8_answer 50 = .ok (.getfield 7, 3) := by decide +kernel
theorem dX8_answer_53 : decode cX8_answer 53 = .ok (.irem, 1) := by decide +kernel
theorem dX8_answer_54 : decode cX8_answer 54 = .ok (.istore 7, 2) := by decide +kernel
theorem dX8_answer_56 : decode cX8_answer 56 = .ok (.iload 7, 2) := by decide +kernel
theorem dX8_answer_58 : decode cX8_answer 58 = .ok (.aload_n 0, 1) := by decide +kernel
theorem dX8_answer_59 : decode cX8_answer 59 = .ok (.aload_n 0, 1) := by decide +kernel
theorem dX8_answer_60 : decode cX8_answer 60 = .ok (.getfield 19, 3) := by decide +kernel
theorem dX8_answer_63 : decode cX8_answer 63 = .ok (.iload_n 1, 1) := by decide +kernel
theorem dX8_answer_64 : decode cX8_answer 64 = .ok (.iaload, 1) := by decide +kernel
theorem dX8_answer_65 : decode cX8_answer 65 = .ok (.iload_n 3, 1) := by decide +kernel
theorem dX8_answer_66 : decode cX8_answer 66 = .ok (.aload_n 0, 1) := by decide +kernel
theorem dX8_answer_67 : decode cX8_answer 67 = .ok (.getfield 32, 3) := by decide +kernel
theorem dX8_answer_70 : decode cX8_answer 70 = .ok (.iload 6, 2) := by decide +kernel
theorem dX8_answer_72 : decode cX8_answer 72 = .ok (.iaload, 1) := by decide +kernel
theorem dX8_answer_73 : decode cX8_answer 73 = .ok (.invokevirtual 106, 3) := by decide +kernel
theorem dX8_answer_76 : decode cX8_answer 76 = .ok (.imul, 1) := by decide +kernel
theorem dX8_answer_77 : decode cX8_answer 77 = .ok (.aload_n 0, 1) := by decide +kernel
theorem dX8_answer_78 : decode cX8_answer 78 = .ok (.getfield 7, 3) := by decide +kernel
theorem dX8_answer_81 : decode cX8_answer 81 = .ok (.irem, 1) := by decide +kernel
theorem dX8_answer_82 : decode cX8_answer 82 = .ok (.istore 7, 2) := by decide +kernel
theorem dX8_answer_84 : decode cX8_answer 84 = .ok (.iload 5, 2) := by decide +kernel
theorem dX8_answer_86 : decode cX8_answer 86 = .ok (.iload 7, 2) := by decide +kernel
theorem dX8_answer_88 : decode cX8_answer 88 = .ok (.aload_n 0, 1) := by decide +kernel
theorem dX8_answer_89 : decode cX8_answer 89 = .ok (.aload_n 0, 1) := by decide +kernel
theorem dX8_answer_90 : decode cX8_answer 90 = .ok (.getfield 19, 3) := by decide +kernel
theorem dX8_answer_93 : decode cX8_answer 93 = .ok (.iload_n 1, 1) := by decide +kernel
theorem dX8_answer_94 : decode cX8_answer 94 = .ok (.iaload, 1) := by decide +kernel
theorem dX8_answer_95 : decode cX8_answer 95 = .ok (.iload 4, 2) := by decide +kernel
theorem dX8_answer_97 : decode cX8_answer 97 = .ok (.aload_n 0, 1) := by decide +kernel
theorem dX8_answer_98 : decode cX8_answer 98 = .ok (.getfield 35, 3) := by decide +kernel
theorem dX8_answer_101 : decode cX8_answer 101 = .ok (.iload 6, 2) := by decide +kernel
theorem dX8_answer_103 : decode cX8_answer 103 = .ok (.iaload, 1) := by decide +kernel
theorem dX8_answer_104 : decode cX8_answer 104 = .ok (.invokevirtual 106, 3) := by decide +kernel
theorem dX8_answer_107 : decode cX8_answer 107 = .ok (.imul, 1) := by decide +kernel
theorem dX8_answer_108 : decode cX8_answer 108 = .ok (.iadd, 1) := by decide +kernel
theorem dX8_answer_109 : decode cX8_answer 109 = .ok (.aload_n 0, 1) := by decide +kernel
theorem dX8_answer_110 : decode cX8_answer 110 = .ok (.getfield 7, 3) := by decide +kernel
theorem dX8_answer_113 : decode cX8_answer 113 = .ok (.irem, 1) := by decide +kernel
theorem dX8_answer_114 : decode cX8_answer 114 = .ok (.istore 5, 2) := by decide +kernel
theorem dX8_answer_116 : decode cX8_answer 116 = .ok (.iinc 6 1, 3) := by decide +kernel
theorem dX8_answer_119 : decode cX8_answer 119 = .ok (.goto (-111), 3) := by decide +kernel
theorem dX8_answer_122 : decode cX8_answer 122 = .ok (.iload 5, 2) := by decide +kernel
theorem dX8_answer_124 : decode cX8_answer 124 = .ok (.ireturn, 1) := by decide +kernel
set_option maxRecDepth 20000 in
theorem ggX8_ask_X8_isBox : GoodIn wsX8_ask wsX8_isBox := goodIn_r _ [5, 6, 7, 4, 8] (by decide +kernel) (by decide +kernel)
set_option maxRecDepth 20000 in
theorem gX8_ask_X8_isBox : GoodIn wsX8_ask (va_wsS RX8 110 yX8_isBox wsX8_isBox) := goodIn_app (goodIn_of _ (by decide +kernel)) ggX8_ask_X8_isBox
set_option maxRecDepth 20000 in
theorem ggX8_ask_X8_isNumber : GoodIn wsX8_ask wsX8_isNumber := goodIn_r _ [12, 13, 6, 7, 4, 8, 34, 35, 36, 37, 38, 39, 40, 41, 42, 43, 44, 45, 46, 47, 48, 49, 50, 51, 52, 53, 54, 55, 56, 57, 58, 59, 60, 61, 62] (by decide +kernel) (by decide +kernel)
set_option maxRecDepth 20000 in
theorem gX8_ask_X8_isNumber : GoodIn wsX8_ask (wsV RX8 94 RX8 yX8_isNumber wsX8_isNumber) := goodIn_app (goodIn_of _ (by decide +kernel)) ggX8_ask_X8_isNumber
set_option maxRecDepth 20000 in
theorem ggX8_ask_X8_answer : GoodIn wsX8_ask wsX8_answer := goodIn_r _ [17, 18, 19, 20, 21, 13, 22, 23, 24, 25, 26, 4, 27, 28, 29, 30, 31, 32, 33, 34, 35, 36, 37, 38, 39, 40, 41, 42, 43, 44, 45, 46, 47, 48, 49, 50, 51, 52, 53, 54, 55, 56, 57, 58, 59, 60, 61, 62] (by decide +kernel) (by decide +kernel)
set_option maxRecDepth 20000 in
theorem gX8_ask_X8_answer : GoodIn wsX8_ask (wsV RX8 116 RX8 yX8_answer wsX8_answer) := goodIn_app (goodIn_of _ (by decide +kernel)) ggX8_ask_X8_answer
theorem dX8_ask_0 : decode cX8_ask 0 = .ok (.iload_n 1, 1) := by decide +kernel
theorem dX8_ask_1 : decode cX8_ask 1 = .ok (.invokestatic 110, 3) := by decide +kernel
theorem dX8_ask_4 : decode cX8_ask 4 = .ok (.ifCond .eq 28, 3) := by decide +kernel
theorem dX8_ask_7 : decode cX8_ask 7 = .ok (.aload_n 0, 1) := by decide +kernel
theorem dX8_ask_8 : decode cX8_ask 8 = .ok (.iload_n 2, 1) := by decide +kernel
theorem dX8_ask_9 : decode cX8_ask 9 = .ok (.invokevirtual 94, 3) := by decide +kernel
theorem dX8_ask_12 : decode cX8_ask 12 = .ok (.ifCond .eq 20, 3) := by decide +kernel
theorem dX8_ask_15 : decode cX8_ask 15 = .ok (.aload_n 0, 1) := by decide +kernel
theorem dX8_ask_16 : decode cX8_ask 16 = .ok (.iload_n 3, 1) := by decide +kernel
theorem dX8_ask_17 : decode cX8_ask 17 = .ok (.invokevirtual 94, 3) := by decide +kernel
theorem dX8_ask_20 : decode cX8_ask 20 = .ok (.ifCond .eq 12, 3) := by decide +kernel
theorem dX8_ask_23 : decode cX8_ask 23 = .ok (.aload_n 0, 1) := by decide +kernel
theorem dX8_ask_24 : decode cX8_ask 24 = .ok (.iload 4, 2) := by decide +kernel
theorem dX8_ask_26 : decode cX8_ask 26 = .ok (.invokevirtual 94, 3) := by decide +kernel
theorem dX8_ask_29 : decode cX8_ask 29 = .ok (.ifCond .ne 5, 3) := by decide +kernel
theorem dX8_ask_32 : decode cX8_ask 32 = .ok (.iconst (-1), 1) := by decide +kernel
theorem dX8_ask_33 : decode cX8_ask 33 = .ok (.ireturn, 1) := by decide +kernel
theorem dX8_ask_34 : decode cX8_ask 34 = .ok (.aload_n 0, 1) := by decide +kernel
theorem dX8_ask_35 : decode cX8_ask 35 = .ok (.dup, 1) := by decide +kernel
theorem dX8_ask_36 : decode cX8_ask 36 = .ok (.getfield 113, 3) := by decide +kernel
theorem dX8_ask_39 : decode cX8_ask 39 = .ok (.iconst 1, 1) := by decide +kernel
theorem dX8_ask_40 : decode cX8_ask 40 = .ok (.iadd, 1) := by decide +kernel
theorem dX8_ask_41 : decode cX8_ask 41 = .ok (.putfield 113, 3) := by decide +kernel
theorem dX8_ask_44 : decode cX8_ask 44 = .ok (.aload_n 0, 1) := by decide +kernel
theorem dX8_ask_45 : decode cX8_ask 45 = .ok (.iload_n 1, 1) := by decide +kernel
theorem dX8_ask_46 : decode cX8_ask 46 = .ok (.iload_n 2, 1) := by decide +kernel
theorem dX8_ask_47 : decode cX8_ask 47 = .ok (.iload_n 3, 1) := by decide +kernel
theorem dX8_ask_48 : decode cX8_ask 48 = .ok (.iload 4, 2) := by decide +kernel
theorem dX8_ask_50 : decode cX8_ask 50 = .ok (.invokevirtual 116, 3) := by decide +kernel
theorem dX8_ask_53 : decode cX8_ask 53 = .ok (.ireturn, 1) := by decide +kernel
set_option maxRecDepth 20000 in
theorem ggX8_say_X8_isNumber : GoodIn wsX8_say wsX8_isNumber := goodIn_r _ [7, 8, 9, 10, 6, 11, 12, 13, 14, 15, 16, 17, 18, 19, 20, 21, 22, 23, 24, 25, 26, 27, 28, 29, 30, 31, 32, 33, 34, 35, 36, 37, 38, 39, 40] (by decide +kernel) (by decide +kernel)
set_option maxRecDepth 20000 in
theorem gX8_say_X8_isNumber : GoodIn wsX8_say (wsV RX8 94 RX8 yX8_isNumber wsX8_isNumber) := goodIn_app (goodIn_of _ (by decide +kernel)) ggX8_say_X8_isNumber
theorem dX8_say_0 : decode cX8_say 0 = .ok (.aload_n 0, 1) := by decide +kernel
theorem dX8_say_1 : decode cX8_say 1 = .ok (.iload_n 1, 1) := by decide +kernel
theorem dX8_say_2 : decode cX8_say 2 = .ok (.invokevirtual 94, 3) := by decide +kernel
theorem dX8_say_5 : decode cX8_say 5 = .ok (.ifCond .ne 5, 3) := by decide +kernel
theorem dX8_say_8 : decode cX8_say 8 = .ok (.iconst (-1), 1) := by decide +kernel
theorem dX8_say_9 : decode cX8_say 9 = .ok (.ireturn, 1) := by decide +kernel
theorem dX8_say_10 : decode cX8_say 10 = .ok (.aload_n 0, 1) := by decide +kernel
theorem dX8_say_11 : decode cX8_say 11 = .ok (.getfield 83, 3) := by decide +kernel
theorem dX8_say_14 : decode cX8_say 14 = .ok (.bipush 16, 2) := by decide +kernel
theorem dX8_say_16 : decode cX8_say 16 = .ok (.if_icmp .ne 6, 3) := by decide +kernel
theorem dX8_say_19 : decode cX8_say 19 = .ok (.bipush (-3), 2) := by decide +kernel
theorem dX8_say_21 : decode cX8_say 21 = .ok (.ireturn, 1) := by decide +kernel
theorem dX8_say_22 : decode cX8_say 22 = .ok (.aload_n 0, 1) := by decide +kernel
theorem dX8_say_23 : decode cX8_say 23 = .ok (.getfield 38, 3) := by decide +kernel
theorem dX8_say_26 : decode cX8_say 26 = .ok (.aload_n 0, 1) := by decide +kernel
theorem dX8_say_27 : decode cX8_say 27 = .ok (.getfield 83, 3) := by decide +kernel
theorem dX8_say_30 : decode cX8_say 30 = .ok (.iload_n 1, 1) := by decide +kernel
theorem dX8_say_31 : decode cX8_say 31 = .ok (.iastore, 1) := by decide +kernel
theorem dX8_say_32 : decode cX8_say 32 = .ok (.aload_n 0, 1) := by decide +kernel
theorem dX8_say_33 : decode cX8_say 33 = .ok (.dup, 1) := by decide +kernel
theorem dX8_say_34 : decode cX8_say 34 = .ok (.getfield 83, 3) := by decide +kernel
theorem dX8_say_37 : decode cX8_say 37 = .ok (.iconst 1, 1) := by decide +kernel
theorem dX8_say_38 : decode cX8_say 38 = .ok (.iadd, 1) := by decide +kernel
theorem dX8_say_39 : decode cX8_say 39 = .ok (.putfield 83, 3) := by decide +kernel
theorem dX8_say_42 : decode cX8_say 42 = .ok (.aload_n 0, 1) := by decide +kernel
theorem dX8_say_43 : decode cX8_say 43 = .ok (.getfield 83, 3) := by decide +kernel
theorem dX8_say_46 : decode cX8_say 46 = .ok (.ireturn, 1) := by decide +kernel
set_option maxRecDepth 20000 in
theorem ggX8_change_X8_in : GoodIn wsX8_change wsX8_in := goodIn_r _ [6] (by decide +kernel) (by decide +kernel)
set_option maxRecDepth 20000 in
theorem gX8_change_X8_in : GoodIn wsX8_change (va_wsS RX8 86 yX8_in wsX8_in) := goodIn_app (goodIn_of _ (by decide +kernel)) ggX8_change_X8_in
set_option maxRecDepth 20000 in
theorem ggX8_change_X8_isNumber : GoodIn wsX8_change wsX8_isNumber := goodIn_r _ [10, 11, 3, 4, 5, 6, 12, 13, 14, 15, 16, 17, 18, 19, 20, 21, 22, 23, 24, 25, 26, 27, 28, 29, 30, 31, 32, 33, 34, 35, 36, 37, 38, 39, 40] (by decide +kernel) (by decide +kernel)
set_option maxRecDepth 20000 in
theorem gX8_change_X8_isNumber : GoodIn wsX8_change (wsV RX8 94 RX8 yX8_isNumber wsX8_isNumber) := goodIn_app (goodIn_of _ (by decide +kernel)) ggX8_change_X8_isNumber
theorem dX8_change_0 : decode cX8_change 0 = .ok (.iload_n 1, 1) := by decide +kernel
theorem dX8_change_1 : decode cX8_change 1 = .ok (.iconst 0, 1) := by decide +kernel
theorem dX8_change_2 : decode cX8_change 2 = .ok (.aload_n 0, 1) := by decide +kernel
theorem dX8_change_3 : decode cX8_change 3 = .ok (.getfield 83, 3) := by decide +kernel
theorem dX8_change_6 : decode cX8_change 6 = .ok (.iconst 1, 1) := by decide +kernel
theorem dX8_change_7 : decode cX8_change 7 = .ok (.isub, 1) := by decide +kernel
theorem dX8_change_8 : decode cX8_change 8 = .ok (.invokestatic 86, 3) := by decide +kernel
theorem dX8_change_11 : decode cX8_change 11 = .ok (.ifCond .eq 11, 3) := by decide +kernel
theorem dX8_change_14 : decode cX8_change 14 = .ok (.aload_n 0, 1) := by decide +kernel
theorem dX8_change_15 : decode cX8_change 15 = .ok (.iload_n 2, 1) := by decide +kernel
theorem dX8_change_16 : decode cX8_change 16 = .ok (.invokevirtual 94, 3) := by decide +kernel
theorem dX8_change_19 : decode cX8_change 19 = .ok (.ifCond .ne 5, 3) := by decide +kernel
theorem dX8_change_22 : decode cX8_change 22 = .ok (.iconst (-1), 1) := by decide +kernel
theorem dX8_change_23 : decode cX8_change 23 = .ok (.ireturn, 1) := by decide +kernel
theorem dX8_change_24 : decode cX8_change 24 = .ok (.aload_n 0, 1) := by decide +kernel
theorem dX8_change_25 : decode cX8_change 25 = .ok (.getfield 38, 3) := by decide +kernel
theorem dX8_change_28 : decode cX8_change 28 = .ok (.iload_n 1, 1) := by decide +kernel
theorem dX8_change_29 : decode cX8_change 29 = .ok (.iaload, 1) := by decide +kernel
theorem dX8_change_30 : decode cX8_change 30 = .ok (.istore_n 3, 1) := by decide +kernel
theorem dX8_change_31 : decode cX8_change 31 = .ok (.aload_n 0, 1) := by decide +kernel
theorem dX8_change_32 : decode cX8_change 32 = .ok (.getfield 38, 3) := by decide +kernel
theorem dX8_change_35 : decode cX8_change 35 = .ok (.iload_n 1, 1) := by decide +kernel
theorem dX8_change_36 : decode cX8_change 36 = .ok (.iload_n 2, 1) := by decide +kernel
theorem dX8_change_37 : decode cX8_change 37 = .ok (.iastore, 1) := by decide +kernel
theorem dX8_change_38 : decode cX8_change 38 = .ok (.iload_n 3, 1) := by decide +kernel
theorem dX8_change_39 : decode cX8_change 39 = .ok (.ireturn, 1) := by decide +kernel
theorem dX8_clear_0 : decode cX8_clear 0 = .ok (.aload_n 0, 1) := by decide +kernel
theorem dX8_clear_1 : decode cX8_clear 1 = .ok (.getfield 83, 3) := by decide +kernel
theorem dX8_clear_4 : decode cX8_clear 4 = .ok (.istore_n 1, 1) := by decide +kernel
theorem dX8_clear_5 : decode cX8_clear 5 = .ok (.aload_n 0, 1) := by decide +kernel
theorem dX8_clear_6 : decode cX8_clear 6 = .ok (.iconst 0, 1) := by decide +kernel
theorem dX8_clear_7 : decode cX8_clear 7 = .ok (.putfield 83, 3) := by decide +kernel
theorem dX8_clear_10 : decode cX8_clear 10 = .ok (.iload_n 1, 1) := by decide +kernel
theorem dX8_clear_11 : decode cX8_clear 11 = .ok (.ireturn, 1) := by decide +kernel
theorem dX8_over_0 : decode cX8_over 0 = .ok (.iconst 1, 1) := by decide +kernel
theorem dX8_over_1 : decode cX8_over 1 = .ok (.istore_n 2, 1) := by decide +kernel
theorem dX8_over_2 : decode cX8_over 2 = .ok (.iload_n 1, 1) := by decide +kernel
theorem dX8_over_3 : decode cX8_over 3 = .ok (.istore_n 3, 1) := by decide +kernel
theorem dX8_over_4 : decode cX8_over 4 = .ok (.aload_n 0, 1) := by decide +kernel
theorem dX8_over_5 : decode cX8_over 5 = .ok (.getfield 7, 3) := by decide +kernel
theorem dX8_over_8 : decode cX8_over 8 = .ok (.iconst 2, 1) := by decide +kernel
theorem dX8_over_9 : decode cX8_over 9 = .ok (.isub, 1) := by decide +kernel
theorem dX8_over_10 : decode cX8_over 10 = .ok (.istore 4, 2) := by decide +kernel
theorem dX8_over_12 : decode cX8_over 12 = .ok (.iload 4, 2) := by decide +kernel
theorem dX8_over_14 : decode cX8_over 14 = .ok (.ifCond .le 42, 3) := by decide +kernel
theorem dX8_over_17 : decode cX8_over 17 = .ok (.iload 4, 2) := by decide +kernel
theorem dX8_over_19 : decode cX8_over 19 = .ok (.iconst 1, 1) := by decide +kernel
theorem dX8_over_20 : decode cX8_over 20 = .ok (.iand, 1) := by decide +kernel
theorem dX8_over_21 : decode cX8_over 21 = .ok (.iconst 1, 1) := by decide +kernel
theorem dX8_over_22 : decode cX8_over 22 = .ok (.if_icmp .ne 14, 3) := by decide +kernel
theorem dX8_over_25 : decode cX8_over 25 = .ok (.iload_n 2, 1) := by decide +kernel
theorem dX8_over_26 : decode cX8_over 26 = .ok (.iload_n 3, 1) := by decide +kernel
theorem dX8_over_27 : decode cX8_over 27 = .ok (.imul, 1) := by decide +kernel
theorem dX8_over_28 : decode cX8_over 28 = .ok (.aload_n 0, 1) := by decide +kernel
theorem dX8_over_29 : decode cX8_over 29 = .ok (.getfield 7, 3) := by decide +kernel
theorem dX8_over_32 : decode cX8_over 32 = .ok (.irem, 1) := by decide +kernel
theorem dX8_over_33 : decode cX8_over 33 = .ok (.goto 4, 3) := by decide +kernel
theorem dX8_over_36 : decode cX8_over 36 = .ok (.iload_n 2, 1) := by decide +kernel
theorem dX8_over_37 : decode cX8_over 37 = .ok (.istore_n 2, 1) := by decide +kernel
theorem dX8_over_38 : decode cX8_over 38 = .ok (.iload_n 3, 1) := by decide +kernel
theorem dX8_over_39 : decode cX8_over 39 = .ok (.iload_n 3, 1) := by decide +kernel
theorem dX8_over_40 : decode cX8_over 40 = .ok (.imul, 1) := by decide +kernel
theorem dX8_over_41 : decode cX8_over 41 = .ok (.aload_n 0, 1) := by decide +kernel
theorem dX8_over_42 : decode cX8_over 42 = .ok (.getfield 7, 3) := by decide +kernel
theorem dX8_over_45 : decode cX8_over 45 = .ok (.irem, 1) := by decide +kernel
theorem dX8_over_46 : decode cX8_over 46 = .ok (.istore_n 3, 1) := by decide +kernel
theorem dX8_over_47 : decode cX8_over 47 = .ok (.iload 4, 2) := by decide +kernel
theorem dX8_over_49 : decode cX8_over 49 = .ok (.iconst 1, 1) := by decide +kernel
theorem dX8_over_50 : decode cX8_over 50 = .ok (.ishr, 1) := by decide +kernel
theorem dX8_over_51 : decode cX8_over 51 = .ok (.istore 4, 2) := by decide +kernel
theorem dX8_over_53 : decode cX8_over 53 = .ok (.goto (-41), 3) := by decide +kernel
theorem dX8_over_56 : decode cX8_over 56 = .ok (.iload_n 2, 1) := by decide +kernel
theorem dX8_over_57 : decode cX8_over 57 = .ok (.ireturn, 1) := by decide +kernel
set_option maxRecDepth 20000 in
theorem ggX8_grow_X8_over : GoodIn wsX8_grow wsX8_over := goodIn_r _ [11, 5, 12, 13, 14, 15, 16, 17, 18, 19, 20, 21, 22, 23, 24, 25, 26, 27, 28, 29, 30, 31, 32, 33, 34, 35, 36, 37, 38, 39, 40] (by decide +kernel) (by decide +kernel)
set_option maxRecDepth 20000 in
theorem gX8_grow_X8_over : GoodIn wsX8_grow (wsV RX8 123 RX8 yX8_over wsX8_over) := goodIn_app (goodIn_of _ (by decide +kernel)) ggX8_grow_X8_over
theorem dX8_grow_0 : decode cX8_grow 0 = .ok (.iconst 0, 1) := by decide +kernel
theorem dX8_grow_1 : decode cX8_grow 1 = .ok (.istore_n 3, 1) := by decide +kernel
theorem dX8_grow_2 : decode cX8_grow 2 = .ok (.iload_n 3, 1) := by decide +kernel
theorem dX8_grow_3 : decode cX8_grow 3 = .ok (.bipush 40, 2) := by decide +kernel
theorem dX8_grow_5 : decode cX8_grow 5 = .ok (.if_icmp .ge 36, 3) := by decide +kernel
theorem dX8_grow_8 : decode cX8_grow 8 = .ok (.aload_n 0, 1) := by decide +kernel
theorem dX8_grow_9 : decode cX8_grow 9 = .ok (.getfield 44, 3) := by decide +kernel
theorem dX8_grow_12 : decode cX8_grow 12 = .ok (.iload_n 3, 1) := by decide +kernel
theorem dX8_grow_13 : decode cX8_grow 13 = .ok (.iload_n 3, 1) := by decide +kernel
theorem dX8_grow_14 : decode cX8_grow 14 = .ok (.ifCond .ne 7, 3) := by decide +kernel
theorem dX8_grow_17 : decode cX8_grow 17 = .ok (.iconst 1, 1) := by decide +kernel
theorem dX8_grow_18 : decode cX8_grow 18 = .ok (.goto 4, 3) := by decide +kernel
theorem dX8_grow_21 : decode cX8_grow 21 = .ok (.iconst 0, 1) := by decide +kernel
theorem dX8_grow_22 : decode cX8_grow 22 = .ok (.iastore, 1) := by decide +kernel
theorem dX8_grow_23 : decode cX8_grow 23 = .ok (.aload_n 0, 1) := by decide +kernel
theorem dX8_grow_24 : decode cX8_grow 24 = .ok (.getfield 47, 3) := by decide +kernel
theorem dX8_grow_27 : decode cX8_grow 27 = .ok (.iload_n 3, 1) := by decide +kernel
theorem dX8_grow_28 : decode cX8_grow 28 = .ok (.aload_n 0, 1) := by decide +kernel
theorem dX8_grow_29 : decode cX8_grow 29 = .ok (.getfield 44, 3) := by decide +kernel
theorem dX8_grow_32 : decode cX8_grow 32 = .ok (.iload_n 3, 1) := by decide +kernel
theorem dX8_grow_33 : decode cX8_grow 33 = .ok (.iaload, 1) := by decide +kernel
theorem dX8_grow_34 : decode cX8_grow 34 = .ok (.iastore, 1) := by decide +kernel
theorem dX8_grow_35 : decode cX8_grow 35 = .ok (.iinc 3 1, 3) := by decide +kernel
theorem dX8_grow_38 : decode cX8_grow 38 = .ok (.goto (-36), 3) := by decide +kernel
theorem dX8_grow_41 : decode cX8_grow 41 = .ok (.aload_n 0, 1) := by decide +kernel
theorem dX8_grow_42 : decode cX8_grow 42 = .ok (.iconst 0, 1) := by decide +kernel
theorem dX8_grow_43 : decode cX8_grow 43 = .ok (.putfield 120, 3) := by decide +kernel
theorem dX8_grow_46 : decode cX8_grow 46 = .ok (.iconst 1, 1) := by decide +kernel
theorem dX8_grow_47 : decode cX8_grow 47 = .ok (.istore_n 3, 1) := by decide +kernel
theorem dX8_grow_48 : decode cX8_grow 48 = .ok (.iconst 1, 1) := by decide +kernel
theorem dX8_grow_49 : decode cX8_grow 49 = .ok (.istore 4, 2) := by decide +kernel
theorem dX8_grow_51 : decode cX8_grow 51 = .ok (.iconst 0, 1) := by decide +kernel
theorem dX8_grow_52 : decode cX8_grow 52 = .ok (.istore 5, 2) := by decide +kernel
theorem dX8_grow_54 : decode cX8_grow 54 = .ok (.iload 5, 2) := by decide +kernel
theorem dX8_grow_56 : decode cX8_grow 56 = .ok (.iload_n 1, 1) := by decide +kernel
theorem dX8_grow_57 : decode cX8_grow 57 = .ok (.if_icmp .ge 248, 3) := by decide +kernel
theorem dX8_grow_60 : decode cX8_grow 60 = .ok (.aload_n 0, 1) := by decide +kernel
theorem dX8_grow_61 : decode cX8_grow 61 = .ok (.getfield 120, 3) := by decide +kernel
theorem dX8_grow_64 : decode cX8_grow 64 = .ok (.iload_n 2, 1) := by decide +kernel
theorem dX8_grow_65 : decode cX8_grow 65 = .ok (.if_icmp .gt 240, 3) := by decide +kernel
theorem dX8_grow_68 : decode cX8_grow 68 = .ok (.iconst 0, 1) := by decide +kernel
theorem dX8_grow_69 : decode cX8_grow 69 = .ok (.istore 6, 2) := by decide +kernel
theorem dX8_grow_71 : decode cX8_grow 71 = .ok (.iconst 0, 1) := by decide +kernel
theorem dX8_grow_72 : decode cX8_grow 72 = .ok (.istore 7, 2) := by decide +kernel
theorem dX8_grow_74 : decode cX8_grow 74 = .ok (.iload 7, 2) := by decide +kernel
theorem dX8_grow_76 : decode cX8_grow 76 = .ok (.aload_n 0, 1) := by decide +kernel
theorem dX8_grow_77 : decode cX8_grow 77 = .ok (.getfield 120, 3) := by decide +kernel
theorem dX8_grow_80 : decode cX8_grow 80 = .ok (.if_icmp .gt 37, 3) := by decide +kernel
theorem dX8_grow_83 : decode cX8_grow 83 = .ok (.iload 6, 2) := by decide +kernel
theorem dX8_grow_85 : decode cX8_grow 85 = .ok (.aload_n 0, 1) := by decide +kernel
theorem dX8_grow_86 : decode cX8_grow 86 = .ok (.getfield 44, 3) := by decide +kernel
theorem dX8_grow_89 : decode cX8_grow 89 = .ok (.iload 7, 2) := by decide +kernel
theorem dX8_grow_91 : decode cX8_grow 91 = .ok (.iaload, 1) := by decide +kernel
theorem dX8_grow_92 : decode cX8_grow 92 = .ok (.aload_n 0, 1) := by decide +kernel
theorem dX8_grow_93 : decode cX8_grow 93 = .ok (.getfield 41, 3) := by decide +kernel
theorem dX8_grow_96 : decode cX8_grow 96 = .ok (.iload 5, 2) := by decide +kernel
theorem dX8_grow_98 : decode cX8_grow 98 = .ok (.iload 7, 2) := by decide +kernel
theorem dX8_grow_100 : decode cX8_grow 100 = .ok (.isub, 1) := by decide +kernel
theorem dX8_grow_101 : decode cX8_grow 101 = .ok (.iaload, 1) := by decide +kernel
theorem dX8_grow_102 : decode cX8_grow 102 = .ok (.imul, 1) := by decide +kernel
theorem dX8_grow_103 : decode cX8_grow 103 = .ok (.iadd, 1) := by decide +kernel
theorem dX8_grow_104 : decode cX8_grow 104 = .ok (.aload_n 0, 1) := by decide +kernel
theorem dX8_grow_105 : decode cX8_grow 105 = .ok (.getfield 7, 3) := by decide +kernel
theorem dX8_grow_108 : decode cX8_grow 108 = .ok (.irem, 1) := by decide +kernel
theorem dX8_grow_109 : decode cX8_grow 109 = .ok (.istore 6, 2) := by decide +kernel
theorem dX8_grow_111 : decode cX8_grow 111 = .ok (.iinc 7 1, 3) := by decide +kernel
theorem dX8_grow_114 : decode cX8_grow 114 = .ok (.goto (-40), 3) := by decide +kernel
theorem dX8_grow_117 : decode cX8_grow 117 = .ok (.iload 6, 2) := by decide +kernel
theorem dX8_grow_119 : decode cX8_grow 119 = .ok (.ifCond .ne 9, 3) := by decide +kernel
theorem dX8_grow_122 : decode cX8_grow 122 = .ok (.iinc 4 1, 3) := by decide +kernel
theorem dX8_grow_125 : decode cX8_grow 125 = .ok (.goto 174, 3) := by decide +kernel
theorem dX8_grow_128 : decode cX8_grow 128 = .ok (.iload 6, 2) := by decide +kernel
theorem dX8_grow_130 : decode cX8_grow 130 = .ok (.aload_n 0, 1) := by decide +kernel
theorem dX8_grow_131 : decode cX8_grow 131 = .ok (.iload_n 3, 1) := by decide +kernel
theorem dX8_grow_132 : decode cX8_grow 132 = .ok (.invokevirtual 123, 3) := by decide +kernel
theorem dX8_grow_135 : decode cX8_grow 135 = .ok (.imul, 1) := by decide +kernel
theorem dX8_grow_136 : decode cX8_grow 136 = .ok (.aload_n 0, 1) := by decide +kernel
theorem dX8_grow_137 : decode cX8_grow 137 = .ok (.getfield 7, 3) := by decide +kernel
theorem dX8_grow_140 : decode cX8_grow 140 = .ok (.irem, 1) := by decide +kernel
theorem dX8_grow_141 : decode cX8_grow 141 = .ok (.istore 7, 2) := by decide +kernel
theorem dX8_grow_143 : decode cX8_grow 143 = .ok (.iconst 0, 1) := by decide +kernel
theorem dX8_grow_144 : decode cX8_grow 144 = .ok (.istore 8, 2) := by decide +kernel
theorem dX8_grow_146 : decode cX8_grow 146 = .ok (.iload 8, 2) := by decide +kernel
theorem dX8_grow_148 : decode cX8_grow 148 = .ok (.bipush 40, 2) := by decide +kernel
theorem dX8_grow_150 : decode cX8_grow 150 = .ok (.if_icmp .ge 23, 3) := by decide +kernel
theorem dX8_grow_153 : decode cX8_grow 153 = .ok (.aload_n 0, 1) := by decide +kernel
theorem dX8_grow_154 : decode cX8_grow 154 = .ok (.getfield 50, 3) := by decide +kernel
theorem dX8_grow_157 : decode cX8_grow 157 = .ok (.iload 8, 2) := by decide +kernel
theorem dX8_grow_159 : decode cX8_grow 159 = .ok (.aload_n 0, 1) := by decide +kernel
theorem dX8_grow_160 : decode cX8_grow 160 = .ok (.getfield 44, 3) := by decide +kernel
theorem dX8_grow_163 : decode cX8_grow 163 = .ok (.iload 8, 2) := by decide +kernel
theorem dX8_grow_165 : decode cX8_grow 165 = .ok (.iaload, 1) := by decide +kernel
theorem dX8_grow_166 : decode cX8_grow 166 = .ok (.iastore, 1) := by decide +kernel
theorem dX8_grow_167 : decode cX8_grow 167 = .ok (.iinc 8 1, 3) := by decide +kernel
theorem dX8_grow_170 : decode cX8_grow 170 = .ok (.goto (-24), 3) := by decide +kernel
theorem dX8_grow_173 : decode cX8_grow 173 = .ok (.iconst 0, 1) := by decide +kernel
theorem dX8_grow_174 : decode cX8_grow 174 = .ok (.istore 8, 2) := by decide +kernel
theorem dX8_grow_176 : decode cX8_grow 176 = .ok (.iload 8, 2) := by decide +kernel
theorem dX8_grow_178 : decode cX8_grow 178 = .ok (.iload 4, 2) := by decide +kernel
theorem dX8_grow_180 : decode cX8_grow 180 = .ok (.iadd, 1) := by decide +kernel
theorem dX8_grow_181 : decode cX8_grow 181 = .ok (.bipush 40, 2) := by decide +kernel
theorem dX8_grow_183 : decode cX8_grow 183 = .ok (.if_icmp .ge 50, 3) := by decide +kernel
theorem dX8_grow_186 : decode cX8_grow 186 = .ok (.aload_n 0, 1) := by decide +kernel
theorem dX8_grow_187 : decode cX8_grow 187 = .ok (.getfield 44, 3) := by decide +kernel
theorem dX8_grow_190 : decode cX8_grow 190 = .ok (.iload 8, 2) := by decide +kernel
theorem dX8_grow_192 : decode cX8_grow 192 = .ok (.iload 4, 2) := by decide +kernel
theorem dX8_grow_194 : decode cX8_grow 194 = .ok (.iadd, 1) := by decide +kernel
theorem dX8_grow_195 : decode cX8_grow 195 = .ok (.aload_n 0, 1) := by decide +kernel
theorem dX8_grow_196 : decode cX8_grow 196 = .ok (.getfield 44, 3) := by decide +kernel
theorem dX8_grow_199 : decode cX8_grow 199 = .ok (.iload 8, 2) := by decide +kernel
theorem dX8_grow_201 : decode cX8_grow 201 = .ok (.iload 4, 2) := by decide +kernel
theorem dX8_grow_203 : decode cX8_grow 203 = .ok (.iadd, 1) := by decide +kernel
theorem dX8_grow_204 : decode cX8_grow 204 = .ok (.iaload, 1) := by decide +kernel
theorem dX8_grow_205 : decode cX8_grow 205 = .ok (.aload_n 0, 1) := by decide +kernel
theorem dX8_grow_206 : decode cX8_grow 206 = .ok (.getfield 7, 3) := by decide +kernel
theorem dX8_grow_209 : decode cX8_grow 209 = .ok (.iload 7, 2) := by decide +kernel
theorem dX8_grow_211 : decode cX8_grow 211 = .ok (.isub, 1) := by decide +kernel
theorem dX8_grow_212 : decode cX8_grow 212 = .ok (.aload_n 0, 1) := by decide +kernel
theorem dX8_grow_213 : decode cX8_grow 213 = .ok (.getfield 47, 3) := by decide +kernel
theorem dX8_grow_216 : decode cX8_grow 216 = .ok (.iload 8, 2) := by decide +kernel
theorem dX8_grow_218 : decode cX8_grow 218 = .ok (.iaload, 1) := by decide +kernel
theorem dX8_grow_219 : decode cX8_grow 219 = .ok (.imul, 1) := by decide +kernel
theorem dX8_grow_220 : decode cX8_grow 220 = .ok (.iadd, 1) := by decide +kernel
theorem dX8_grow_221 : decode cX8_grow 221 = .ok (.aload_n 0, 1) := by decide +kernel
theorem dX8_grow_222 : decode cX8_grow 222 = .ok (.getfield 7, 3) := by decide +kernel
theorem dX8_grow_225 : decode cX8_grow 225 = .ok (.irem, 1) := by decide +kernel
theorem dX8_grow_226 : decode cX8_grow 226 = .ok (.iastore, 1) := by decide +kernel
theorem dX8_grow_227 : decode cX8_grow 227 = .ok (.iinc 8 1, 3) := by decide +kernel
theorem dX8_grow_230 : decode cX8_grow 230 = .ok (.goto (-54), 3) := by decide +kernel
theorem dX8_grow_233 : decode cX8_grow 233 = .ok (.iconst 2, 1) := by decide +kernel
theorem dX8_grow_234 : decode cX8_grow 234 = .ok (.aload_n 0, 1) := by decide +kernel
theorem dX8_grow_235 : decode cX8_grow 235 = .ok (.getfield 120, 3) := by decide +kernel
theorem dX8_grow_238 : decode cX8_grow 238 = .ok (.imul, 1) := by decide +kernel
theorem dX8_grow_239 : decode cX8_grow 239 = .ok (.iload 5, 2) := by decide +kernel
theorem dX8_grow_241 : decode cX8_grow 241 = .ok (.if_icmp .gt 55, 3) := by decide +kernel
theorem dX8_grow_244 : decode cX8_grow 244 = .ok (.iconst 0, 1) := by decide +kernel
theorem dX8_grow_245 : decode cX8_grow 245 = .ok (.istore 8, 2) := by decide +kernel
theorem dX8_grow_247 : decode cX8_grow 247 = .ok (.iload 8, 2) := by decide +kernel
theorem dX8_grow_249 : decode cX8_grow 249 = .ok (.bipush 40, 2) := by decide +kernel
theorem dX8_grow_251 : decode cX8_grow 251 = .ok (.if_icmp .ge 23, 3) := by decide +kernel
theorem dX8_grow_254 : decode cX8_grow 254 = .ok (.aload_n 0, 1) := by decide +kernel
theorem dX8_grow_255 : decode cX8_grow 255 = .ok (.getfield 47, 3) := by decide +kernel
theorem dX8_grow_258 : decode cX8_grow 258 = .ok (.iload 8, 2) := by decide +kernel
theorem dX8_grow_260 : decode cX8_grow 260 = .ok (.aload_n 0, 1) := by decide +kernel
theorem dX8_grow_261 : decode cX8_grow 261 = .ok (.getfield 50, 3) := by decide +kernel
theorem dX8_grow_264 : decode cX8_grow 264 = .ok (.iload 8, 2) := by decide +kernel
theorem dX8_grow_266 : decode cX8_grow 266 = .ok (.iaload, 1) := by decide +kernel
theorem dX8_grow_267 : decode cX8_grow 267 = .ok (.iastore, 1) := by decide +kernel
theorem dX8_grow_268 : decode cX8_grow 268 = .ok (.iinc 8 1, 3) := by decide +kernel
theorem dX8_grow_271 : decode cX8_grow 271 = .ok (.goto (-24), 3) := by decide +kernel
theorem dX8_grow_274 : decode cX8_grow 274 = .ok (.iload 6, 2) := by decide +kernel
theorem dX8_grow_276 : decode cX8_grow 276 = .ok (.istore_n 3, 1) := by decide +kernel
theorem dX8_grow_277 : decode cX8_grow 277 = .ok (.iconst 1, 1) := by decide +kernel
theorem dX8_grow_278 : decode cX8_grow 278 = .ok (.istore 4, 2) := by decide +kernel
theorem dX8_grow_280 : decode cX8_grow 280 = .ok (.aload_n 0, 1) := by decide +kernel
theorem dX8_grow_281 : decode cX8_grow 281 = .ok (.iload 5, 2) := by decide +kernel
theorem dX8_grow_283 : decode cX8_grow 283 = .ok (.iconst 1, 1) := by decide +kernel
theorem dX8_grow_284 : decode cX8_grow 284 = .ok (.iadd, 1) := by decide +kernel
theorem dX8_grow_285 : decode cX8_grow 285 = .ok (.aload_n 0, 1) := by decide +kernel
theorem dX8_grow_286 : decode cX8_grow 286 = .ok (.getfield 120, 3) := by decide +kernel
theorem dX8_grow_289 : decode cX8_grow 289 = .ok (.isub, 1) := by decide +kernel
theorem dX8_grow_290 : decode cX8_grow 290 = .ok (.putfield 120, 3) := by decide +kernel
theorem dX8_grow_293 : decode cX8_grow 293 = .ok (.goto 6, 3) := by decide +kernel
theorem dX8_grow_296 : decode cX8_grow 296 = .ok (.iinc 4 1, 3) := by decide +kernel
theorem dX8_grow_299 : decode cX8_grow 299 = .ok (.iinc 5 1, 3) := by decide +kernel
theorem dX8_grow_302 : decode cX8_grow 302 = .ok (.goto (-248), 3) := by decide +kernel
theorem dX8_grow_305 : decode cX8_grow 305 = .ok (.return_, 1) := by decide +kernel
theorem dX8_take_0 : decode cX8_take 0 = .ok (.iconst 0, 1) := by decide +kernel
theorem dX8_take_1 : decode cX8_take 1 = .ok (.istore_n 1, 1) := by decide +kernel
theorem dX8_take_2 : decode cX8_take 2 = .ok (.iload_n 1, 1) := by decide +kernel
theorem dX8_take_3 : decode cX8_take 3 = .ok (.aload_n 0, 1) := by decide +kernel
theorem dX8_take_4 : decode cX8_take 4 = .ok (.getfield 83, 3) := by decide +kernel
theorem dX8_take_7 : decode cX8_take 7 = .ok (.if_icmp .ge 21, 3) := by decide +kernel
theorem dX8_take_10 : decode cX8_take 10 = .ok (.aload_n 0, 1) := by decide +kernel
theorem dX8_take_11 : decode cX8_take 11 = .ok (.getfield 41, 3) := by decide +kernel
theorem dX8_take_14 : decode cX8_take 14 = .ok (.iload_n 1, 1) := by decide +kernel
theorem dX8_take_15 : decode cX8_take 15 = .ok (.aload_n 0, 1) := by decide +kernel
theorem dX8_take_16 : decode cX8_take 16 = .ok (.getfield 38, 3) := by decide +kernel
theorem dX8_take_19 : decode cX8_take 19 = .ok (.iload_n 1, 1) := by decide +kernel
theorem dX8_take_20 : decode cX8_take 20 = .ok (.iaload, 1) := by decide +kernel
theorem dX8_take_21 : decode cX8_take 21 = .ok (.iastore, 1) := by decide +kernel
theorem dX8_take_22 : decode cX8_take 22 = .ok (.iinc 1 1, 3) := by decide +kernel
theorem dX8_take_25 : decode cX8_take 25 = .ok (.goto (-23), 3) := by decide +kernel
theorem dX8_take_28 : decode cX8_take 28 = .ok (.return_, 1) := by decide +kernel
theorem dX8_g_0 : decode cX8_g 0 = .ok (.aload_n 0, 1) := by decide +kernel
theorem dX8_g_1 : decode cX8_g 1 = .ok (.getfield 7, 3) := by decide +kernel
theorem dX8_g_4 : decode cX8_g 4 = .ok (.aload_n 0, 1) := by decide +kernel
theorem dX8_g_5 : decode cX8_g 5 = .ok (.getfield 44, 3) := by decide +kernel
theorem dX8_g_8 : decode cX8_g 8 = .ok (.iload_n 1, 1) := by decide +kernel
theorem dX8_g_9 : decode cX8_g 9 = .ok (.iaload, 1) := by decide +kernel
theorem dX8_g_10 : decode cX8_g 10 = .ok (.isub, 1) := by decide +kernel
theorem dX8_g_11 : decode cX8_g 11 = .ok (.aload_n 0, 1) := by decide +kernel
theorem dX8_g_12 : decode cX8_g 12 = .ok (.getfield 7, 3) := by decide +kernel
theorem dX8_g_15 : decode cX8_g 15 = .ok (.irem, 1) := by decide +kernel
theorem dX8_g_16 : decode cX8_g 16 = .ok (.ireturn, 1) := by decide +kernel
set_option maxRecDepth 20000 in
theorem ggX8_register_X8_take : GoodIn wsX8_register wsX8_take := goodIn_r _ [7, 1, 8, 9, 29, 30, 31, 32, 33, 34, 35, 36, 37, 38, 39, 40, 41, 42, 43, 44, 45, 46, 47, 48, 49, 50, 51, 52, 53, 54, 55, 56, 57] (by decide +kernel) (by decide +kernel)
set_option maxRecDepth 20000 in
theorem gX8_register_X8_take : GoodIn wsX8_register (wsV RX8 127 RX8 yX8_take wsX8_take) := goodIn_app (goodIn_of _ (by decide +kernel)) ggX8_register_X8_take
set_option maxRecDepth 20000 in
theorem ggX8_register_X8_grow : GoodIn wsX8_register wsX8_grow := goodIn_r _ [13, 14, 15, 2, 8, 16, 17, 18, 19, 20, 6, 21, 29, 30, 31, 32, 33, 34, 35, 36, 37, 38, 39, 40, 41, 42, 43, 44, 45, 46, 47, 48, 49, 50, 51, 52, 53, 54, 55, 56, 57] (by decide +kernel) (by decide +kernel)
set_option maxRecDepth 20000 in
theorem gX8_register_X8_grow : GoodIn wsX8_register (wsV RX8 130 RX8 yX8_grow wsX8_grow) := goodIn_app (goodIn_of _ (by decide +kernel)) ggX8_register_X8_grow
set_option maxRecDepth 20000 in
theorem ggX8_register_X8_in : GoodIn wsX8_register wsX8_in := goodIn_r _ [24] (by decide +kernel) (by decide +kernel)
set_option maxRecDepth 20000 in
theorem gX8_register_X8_in : GoodIn wsX8_register (va_wsS RX8 86 yX8_in wsX8_in) := goodIn_app (goodIn_of _ (by decide +kernel)) ggX8_register_X8_in
set_option maxRecDepth 20000 in
theorem ggX8_register_X8_g : GoodIn wsX8_register wsX8_g := goodIn_r _ [28, 16, 14, 29, 30, 31, 32, 33, 34, 35, 36, 37, 38, 39, 40, 41, 42, 43, 44, 45, 46, 47, 48, 49, 50, 51, 52, 53, 54, 55, 56, 57] (by decide +kernel) (by decide +kernel)
set_option maxRecDepth 20000 in
theorem gX8_register_X8_g : GoodIn wsX8_register (wsV RX8 134 RX8 yX8_g wsX8_g) := goodIn_app (goodIn_of _ (by decide +kernel)) ggX8_register_X8_g
theorem dX8_register_0 : decode cX8_register 0 = .ok (.aload_n 0, 1) := by decide +kernel
theorem dX8_register_1 : decode cX8_register 1 = .ok (.invokevirtual 127, 3) := by decide +kernel
theorem dX8_register_4 : decode cX8_register 4 = .ok (.aload_n 0, 1) := by decide +kernel
theorem dX8_register_5 : decode cX8_register 5 = .ok (.aload_n 0, 1) := by decide +kernel
theorem dX8_register_6 : decode cX8_register 6 = .ok (.getfield 83, 3) := by decide +kernel
theorem dX8_register_9 : decode cX8_register 9 = .ok (.bipush 16, 2) := by decide +kernel
theorem dX8_register_11 : decode cX8_register 11 = .ok (.invokevirtual 130, 3) := by decide +kernel
theorem dX8_register_14 : decode cX8_register 14 = .ok (.iload_n 1, 1) := by decide +kernel
theorem dX8_register_15 : decode cX8_register 15 = .ok (.ifCond .ne 10, 3) := by decide +kernel
theorem dX8_register_18 : decode cX8_register 18 = .ok (.aload_n 0, 1) := by decide +kernel
theorem dX8_register_19 : decode cX8_register 19 = .ok (.getfield 120, 3) := by decide +kernel
theorem dX8_register_22 : decode cX8_register 22 = .ok (.goto 24, 3) := by decide +kernel
theorem dX8_register_25 : decode cX8_register 25 = .ok (.iload_n 1, 1) := by decide +kernel
theorem dX8_register_26 : decode cX8_register 26 = .ok (.iconst 1, 1) := by decide +kernel
theorem dX8_register_27 : decode cX8_register 27 = .ok (.aload_n 0, 1) := by decide +kernel
theorem dX8_register_28 : decode cX8_register 28 = .ok (.getfield 120, 3) := by decide +kernel
theorem dX8_register_31 : decode cX8_register 31 = .ok (.invokestatic 86, 3) := by decide +kernel
theorem dX8_register_34 : decode cX8_register 34 = .ok (.ifCond .eq 11, 3) := by decide +kernel
theorem dX8_register_37 : decode cX8_register 37 = .ok (.aload_n 0, 1) := by decide +kernel
theorem dX8_register_38 : decode cX8_register 38 = .ok (.iload_n 1, 1) := by decide +kernel
theorem dX8_register_39 : decode cX8_register 39 = .ok (.invokevirtual 134, 3) := by decide +kernel
theorem dX8_register_42 : decode cX8_register 42 = .ok (.goto 4, 3) := by decide +kernel
theorem dX8_register_45 : decode cX8_register 45 = .ok (.iconst (-1), 1) := by decide +kernel
theorem dX8_register_46 : decode cX8_register 46 = .ok (.ireturn, 1) := by decide +kernel
set_option maxRecDepth 20000 in
theorem ggX8_product_X8_g : GoodIn wsX8_product wsX8_g := goodIn_r _ [10, 5, 11, 12, 13, 14, 15, 16, 17, 18, 19, 20, 21, 22, 23, 24, 25, 26, 27, 28, 29, 30, 31, 32, 33, 34, 35, 36, 37, 38, 39, 40] (by decide +kernel) (by decide +kernel)
set_option maxRecDepth 20000 in
theorem gX8_product_X8_g : GoodIn wsX8_product (wsV RX8 134 RX8 yX8_g wsX8_g) := goodIn_app (goodIn_of _ (by decide +kernel)) ggX8_product_X8_g
theorem dX8_product_0 : decode cX8_product 0 = .ok (.iconst 0, 1) := by decide +kernel
theorem dX8_product_1 : decode cX8_product 1 = .ok (.istore_n 2, 1) := by decide +kernel
theorem dX8_product_2 : decode cX8_product 2 = .ok (.iload_n 2, 1) := by decide +kernel
theorem dX8_product_3 : decode cX8_product 3 = .ok (.bipush 40, 2) := by decide +kernel
theorem dX8_product_5 : decode cX8_product 5 = .ok (.if_icmp .ge 16, 3) := by decide +kernel
theorem dX8_product_8 : decode cX8_product 8 = .ok (.aload_n 0, 1) := by decide +kernel
theorem dX8_product_9 : decode cX8_product 9 = .ok (.getfield 59, 3) := by decide +kernel
theorem dX8_product_12 : decode cX8_product 12 = .ok (.iload_n 2, 1) := by decide +kernel
theorem dX8_product_13 : decode cX8_product 13 = .ok (.iconst 0, 1) := by decide +kernel
theorem dX8_product_14 : decode cX8_product 14 = .ok (.iastore, 1) := by decide +kernel
theorem dX8_product_15 : decode cX8_product 15 = .ok (.iinc 2 1, 3) := by decide +kernel
theorem dX8_product_18 : decode cX8_product 18 = .ok (.goto (-16), 3) := by decide +kernel
theorem dX8_product_21 : decode cX8_product 21 = .ok (.iconst 0, 1) := by decide +kernel
theorem dX8_product_22 : decode cX8_product 22 = .ok (.istore_n 2, 1) := by decide +kernel
theorem dX8_product_23 : decode cX8_product 23 = .ok (.iload_n 2, 1) := by decide +kernel
theorem dX8_product_24 : decode cX8_product 24 = .ok (.aload_n 0, 1) := by decide +kernel
theorem dX8_product_25 : decode cX8_product 25 = .ok (.getfield 120, 3) := by decide +kernel
theorem dX8_product_28 : decode cX8_product 28 = .ok (.if_icmp .ge 73, 3) := by decide +kernel
theorem dX8_product_31 : decode cX8_product 31 = .ok (.iconst 0, 1) := by decide +kernel
theorem dX8_product_32 : decode cX8_product 32 = .ok (.istore_n 3, 1) := by decide +kernel
theorem dX8_product_33 : decode cX8_product 33 = .ok (.iload_n 3, 1) := by decide +kernel
theorem dX8_product_34 : decode cX8_product 34 = .ok (.aload_n 0, 1) := by decide +kernel
theorem dX8_product_35 : decode cX8_product 35 = .ok (.getfield 120, 3) := by decide +kernel
theorem dX8_product_38 : decode cX8_product 38 = .ok (.if_icmp .ge 57, 3) := by decide +kernel
theorem dX8_product_41 : decode cX8_product 41 = .ok (.aload_n 0, 1) := by decide +kernel
theorem dX8_product_42 : decode cX8_product 42 = .ok (.getfield 59, 3) := by decide +kernel
theorem dX8_product_45 : decode cX8_product 45 = .ok (.iload_n 2, 1) := by decide +kernel
theorem dX8_product_46 : decode cX8_product 46 = .ok (.iload_n 3, 1) := by decide +kernel
theorem dX8_product_47 : decode cX8_product 47 = .ok (.iadd, 1) := by decide +kernel
theorem dX8_product_48 : decode cX8_product 48 = .ok (.aload_n 0, 1) := by decide +kernel
theorem dX8_product_49 : decode cX8_product 49 = .ok (.getfield 59, 3) := by decide +kernel
theorem dX8_product_52 : decode cX8_product 52 = .ok (.iload_n 2, 1) := by decide +kernel
theorem dX8_product_53 : decode cX8_product 53 = .ok (.iload_n 3, 1) := by decide +kernel
theorem dX8_product_54 : decode cX8_product 54 = .ok (.iadd, 1) := by decide +kernel
theorem dX8_product_55 : decode cX8_product 55 = .ok (.iaload, 1) := by decide +kernel
theorem dX8_product_56 : decode cX8_product 56 = .ok (.iload_n 1, 1) := by decide +kernel
theorem dX8_product_57 : decode cX8_product 57 = .ok (.ifCond .eq 12, 3) := by decide +kernel
theorem dX8_product_60 : decode cX8_product 60 = .ok (.aload_n 0, 1) := by decide +kernel
theorem dX8_product_61 : decode cX8_product 61 = .ok (.getfield 56, 3) := by decide +kernel
theorem dX8_product_64 : decode cX8_product 64 = .ok (.iload_n 2, 1) := by decide +kernel
theorem dX8_product_65 : decode cX8_product 65 = .ok (.iaload, 1) := by decide +kernel
theorem dX8_product_66 : decode cX8_product 66 = .ok (.goto 9, 3) := by decide +kernel
theorem dX8_product_69 : decode cX8_product 69 = .ok (.aload_n 0, 1) := by decide +kernel
theorem dX8_product_70 : decode cX8_product 70 = .ok (.getfield 53, 3) := by decide +kernel
theorem dX8_product_73 : decode cX8_product 73 = .ok (.iload_n 2, 1) := by decide +kernel
theorem dX8_product_74 : decode cX8_product 74 = .ok (.iaload, 1) := by decide +kernel
theorem dX8_product_75 : decode cX8_product 75 = .ok (.aload_n 0, 1) := by decide +kernel
theorem dX8_product_76 : decode cX8_product 76 = .ok (.getfield 56, 3) := by decide +kernel
theorem dX8_product_79 : decode cX8_product 79 = .ok (.iload_n 3, 1) := by decide +kernel
theorem dX8_product_80 : decode cX8_product 80 = .ok (.iaload, 1) := by decide +kernel
theorem dX8_product_81 : decode cX8_product 81 = .ok (.imul, 1) := by decide +kernel
theorem dX8_product_82 : decode cX8_product 82 = .ok (.iadd, 1) := by decide +kernel
theorem dX8_product_83 : decode cX8_product 83 = .ok (.aload_n 0, 1) := by decide +kernel
theorem dX8_product_84 : decode cX8_product 84 = .ok (.getfield 7, 3) := by decide +kernel
theorem dX8_product_87 : decode cX8_product 87 = .ok (.irem, 1) := by decide +kernel
theorem dX8_product_88 : decode cX8_product 88 = .ok (.iastore, 1) := by decide +kernel
theorem dX8_product_89 : decode cX8_product 89 = .ok (.iinc 3 1, 3) := by decide +kernel
theorem dX8_product_92 : decode cX8_product 92 = .ok (.goto (-59), 3) := by decide +kernel
theorem dX8_product_95 : decode cX8_product 95 = .ok (.iinc 2 1, 3) := by decide +kernel
theorem dX8_product_98 : decode cX8_product 98 = .ok (.goto (-75), 3) := by decide +kernel
theorem dX8_product_101 : decode cX8_product 101 = .ok (.iconst 2, 1) := by decide +kernel
theorem dX8_product_102 : decode cX8_product 102 = .ok (.aload_n 0, 1) := by decide +kernel
theorem dX8_product_103 : decode cX8_product 103 = .ok (.getfield 120, 3) := by decide +kernel
theorem dX8_product_106 : decode cX8_product 106 = .ok (.imul, 1) := by decide +kernel
theorem dX8_product_107 : decode cX8_product 107 = .ok (.iconst 2, 1) := by decide +kernel
theorem dX8_product_108 : decode cX8_product 108 = .ok (.isub, 1) := by decide +kernel
theorem dX8_product_109 : decode cX8_product 109 = .ok (.istore_n 2, 1) := by decide +kernel
theorem dX8_product_110 : decode cX8_product 110 = .ok (.iload_n 2, 1) := by decide +kernel
theorem dX8_product_111 : decode cX8_product 111 = .ok (.aload_n 0, 1) := by decide +kernel
theorem dX8_product_112 : decode cX8_product 112 = .ok (.getfield 120, 3) := by decide +kernel
theorem dX8_product_115 : decode cX8_product 115 = .ok (.if_icmp .lt 66, 3) := by decide +kernel
theorem dX8_product_118 : decode cX8_product 118 = .ok (.iconst 1, 1) := by decide +kernel
theorem dX8_product_119 : decode cX8_product 119 = .ok (.istore_n 3, 1) := by decide +kernel
theorem dX8_product_120 : decode cX8_product 120 = .ok (.iload_n 3, 1) := by decide +kernel
theorem dX8_product_121 : decode cX8_product 121 = .ok (.aload_n 0, 1) := by decide +kernel
theorem dX8_product_122 : decode cX8_product 122 = .ok (.getfield 120, 3) := by decide +kernel
theorem dX8_product_125 : decode cX8_product 125 = .ok (.if_icmp .gt 43, 3) := by decide +kernel
theorem dX8_product_128 : decode cX8_product 128 = .ok (.aload_n 0, 1) := by decide +kernel
theorem dX8_product_129 : decode cX8_product 129 = .ok (.getfield 59, 3) := by decide +kernel
theorem dX8_product_132 : decode cX8_product 132 = .ok (.iload_n 2, 1) := by decide +kernel
theorem dX8_product_133 : decode cX8_product 133 = .ok (.iload_n 3, 1) := by decide +kernel
theorem dX8_product_134 : decode cX8_product 134 = .ok (.isub, 1) := by decide +kernel
theorem dX8_product_135 : decode cX8_product 135 = .ok (.aload_n 0, 1) := by decide +kernel
theorem dX8_product_136 : decode cX8_product 136 = .ok (.getfield 59, 3) := by decide +kernel
theorem dX8_product_139 : decode cX8_product 139 = .ok (.iload_n 2, 1) := by decide +kernel
theorem dX8_product_140 : decode cX8_product 140 = .ok (.iload_n 3, 1) := by decide +kernel
theorem dX8_product_141 : decode cX8_product 141 = .ok (.isub, 1) := by decide +kernel
theorem dX8_product_142 : decode cX8_product 142 = .ok (.iaload, 1) := by decide +kernel
theorem dX8_product_143 : decode cX8_product 143 = .ok (.aload_n 0, 1) := by decide +kernel
theorem dX8_product_144 : decode cX8_product 144 = .ok (.getfield 59, 3) := by decide +kernel
theorem dX8_product_147 : decode cX8_product 147 = .ok (.iload_n 2, 1) := by decide +kernel
theorem dX8_product_148 : decode cX8_product 148 = .ok (.iaload, 1) := by decide +kernel
theorem dX8_product_149 : decode cX8_product 149 = .ok (.aload_n 0, 1) := by decide +kernel
theorem dX8_product_150 : decode cX8_product 150 = .ok (.iload_n 3, 1) := by decide +kernel
theorem dX8_product_151 : decode cX8_product 151 = .ok (.invokevirtual 134, 3) := by decide +kernel
theorem dX8_product_154 : decode cX8_product 154 = .ok (.imul, 1) := by decide +kernel
theorem dX8_product_155 : decode cX8_product 155 = .ok (.iadd, 1) := by decide +kernel
theorem dX8_product_156 : decode cX8_product 156 = .ok (.aload_n 0, 1) := by decide +kernel
theorem dX8_product_157 : decode cX8_product 157 = .ok (.getfield 7, 3) := by decide +kernel
theorem dX8_product_160 : decode cX8_product 160 = .ok (.irem, 1) := by decide +kernel
theorem dX8_product_161 : decode cX8_product 161 = .ok (.iastore, 1) := by decide +kernel
theorem dX8_product_162 : decode cX8_product 162 = .ok (.iinc 3 1, 3) := by decide +kernel
theorem dX8_product_165 : decode cX8_product 165 = .ok (.goto (-45), 3) := by decide +kernel
theorem dX8_product_168 : decode cX8_product 168 = .ok (.aload_n 0, 1) := by decide +kernel
theorem dX8_product_169 : decode cX8_product 169 = .ok (.getfield 59, 3) := by decide +kernel
theorem dX8_product_172 : decode cX8_product 172 = .ok (.iload_n 2, 1) := by decide +kernel
theorem dX8_product_173 : decode cX8_product 173 = .ok (.iconst 0, 1) := by decide +kernel
theorem dX8_product_174 : decode cX8_product 174 = .ok (.iastore, 1) := by decide +kernel
theorem dX8_product_175 : decode cX8_product 175 = .ok (.iinc 2 (-1), 3) := by decide +kernel
theorem dX8_product_178 : decode cX8_product 178 = .ok (.goto (-68), 3) := by decide +kernel
theorem dX8_product_181 : decode cX8_product 181 = .ok (.iconst 0, 1) := by decide +kernel
theorem dX8_product_182 : decode cX8_product 182 = .ok (.istore_n 2, 1) := by decide +kernel
theorem dX8_product_183 : decode cX8_product 183 = .ok (.iload_n 2, 1) := by decide +kernel
theorem dX8_product_184 : decode cX8_product 184 = .ok (.aload_n 0, 1) := by decide +kernel
theorem dX8_product_185 : decode cX8_product 185 = .ok (.getfield 120, 3) := by decide +kernel
theorem dX8_product_188 : decode cX8_product 188 = .ok (.if_icmp .ge 40, 3) := by decide +kernel
theorem dX8_product_191 : decode cX8_product 191 = .ok (.iload_n 1, 1) := by decide +kernel
theorem dX8_product_192 : decode cX8_product 192 = .ok (.ifCond .eq 18, 3) := by decide +kernel
theorem dX8_product_195 : decode cX8_product 195 = .ok (.aload_n 0, 1) := by decide +kernel
theorem dX8_product_196 : decode cX8_product 196 = .ok (.getfield 56, 3) := by decide +kernel
theorem dX8_product_199 : decode cX8_product 199 = .ok (.iload_n 2, 1) := by decide +kernel
theorem dX8_product_200 : decode cX8_product 200 = .ok (.aload_n 0, 1) := by decide +kernel
theorem dX8_product_201 : decode cX8_product 201 = .ok (.getfield 59, 3) := by decide +kernel
theorem dX8_product_204 : decode cX8_product 204 = .ok (.iload_n 2, 1) := by decide +kernel
theorem dX8_product_205 : decode cX8_product 205 = .ok (.iaload, 1) := by decide +kernel
theorem dX8_product_206 : decode cX8_product 206 = .ok (.iastore, 1) := by decide +kernel
theorem dX8_product_207 : decode cX8_product 207 = .ok (.goto 15, 3) := by decide +kernel
theorem dX8_product_210 : decode cX8_product 210 = .ok (.aload_n 0, 1) := by decide +kernel
theorem dX8_product_211 : decode cX8_product 211 = .ok (.getfield 53, 3) := by decide +kernel
theorem dX8_product_214 : decode cX8_product 214 = .ok (.iload_n 2, 1) := by decide +kernel
theorem dX8_product_215 : decode cX8_product 215 = .ok (.aload_n 0, 1) := by decide +kernel
theorem dX8_product_216 : decode cX8_product 216 = .ok (.getfield 59, 3) := by decide +kernel
theorem dX8_product_219 : decode cX8_product 219 = .ok (.iload_n 2, 1) := by decide +kernel
theorem dX8_product_220 : decode cX8_product 220 = .ok (.iaload, 1) := by decide +kernel
theorem dX8_product_221 : decode cX8_product 221 = .ok (.iastore, 1) := by decide +kernel
theorem dX8_product_222 : decode cX8_product 222 = .ok (.iinc 2 1, 3) := by decide +kernel
theorem dX8_product_225 : decode cX8_product 225 = .ok (.goto (-42), 3) := by decide +kernel
theorem dX8_product_228 : decode cX8_product 228 = .ok (.return_, 1) := by decide +kernel
set_option maxRecDepth 20000 in
theorem ggX8_far_X8_in : GoodIn wsX8_far wsX8_in := goodIn_r _ [11] (by decide +kernel) (by decide +kernel)
set_option maxRecDepth 20000 in
theorem gX8_far_X8_in : GoodIn wsX8_far (va_wsS RX8 86 yX8_in wsX8_in) := goodIn_app (goodIn_of _ (by decide +kernel)) ggX8_far_X8_in
set_option maxRecDepth 20000 in
theorem ggX8_far_X8_take : GoodIn wsX8_far wsX8_take := goodIn_r _ [15, 2, 16, 3, 37, 38, 39, 40, 41, 42, 43, 44, 45, 46, 47, 48, 49, 50, 51, 52, 53, 54, 55, 56, 57, 58, 59, 60, 61, 62, 63, 64, 65] (by decide +kernel) (by decide +kernel)
set_option maxRecDepth 20000 in
theorem gX8_far_X8_take : GoodIn wsX8_far (wsV RX8 127 RX8 yX8_take wsX8_take) := goodIn_app (goodIn_of _ (by decide +kernel)) ggX8_far_X8_take
set_option maxRecDepth 20000 in
theorem ggX8_far_X8_grow : GoodIn wsX8_far wsX8_grow := goodIn_r _ [20, 21, 22, 4, 16, 7, 23, 24, 25, 26, 10, 27, 37, 38, 39, 40, 41, 42, 43, 44, 45, 46, 47, 48, 49, 50, 51, 52, 53, 54, 55, 56, 57, 58, 59, 60, 61, 62, 63, 64, 65] (by decide +kernel) (by decide +kernel)
set_option maxRecDepth 20000 in
theorem gX8_far_X8_grow : GoodIn wsX8_far (wsV RX8 130 RX8 yX8_grow wsX8_grow) := goodIn_app (goodIn_of _ (by decide +kernel)) ggX8_far_X8_grow
set_option maxRecDepth 20000 in
theorem ggX8_far_X8_g : GoodIn wsX8_far wsX8_g := goodIn_r _ [31, 7, 21, 37, 38, 39, 40, 41, 42, 43, 44, 45, 46, 47, 48, 49, 50, 51, 52, 53, 54, 55, 56, 57, 58, 59, 60, 61, 62, 63, 64, 65] (by decide +kernel) (by decide +kernel)
set_option maxRecDepth 20000 in
theorem gX8_far_X8_g : GoodIn wsX8_far (wsV RX8 134 RX8 yX8_g wsX8_g) := goodIn_app (goodIn_of _ (by decide +kernel)) ggX8_far_X8_g
set_option maxRecDepth 20000 in
theorem ggX8_far_X8_product : GoodIn wsX8_far wsX8_product := goodIn_r _ [35, 36, 4, 6, 5, 7, 28, 29, 30, 10, 31, 21, 37, 38, 39, 40, 41, 42, 43, 44, 45, 46, 47, 48, 49, 50, 51, 52, 53, 54, 55, 56, 57, 58, 59, 60, 61, 62, 63, 64, 65] (by decide +kernel) (by decide +kernel)
set_option maxRecDepth 20000 in
theorem gX8_far_X8_product : GoodIn wsX8_far (wsV RX8 138 RX8 yX8_product wsX8_product) := goodIn_app (goodIn_of _ (by decide +kernel)) ggX8_far_X8_product
theorem dX8_far_0 : decode cX8_far 0 = .ok (.iload_n 1, 1) := by decide +kernel
theorem dX8_far_1 : decode cX8_far 1 = .ok (.iconst 0, 1) := by decide +kernel
theorem dX8_far_2 : decode cX8_far 2 = .ok (.ldc 137, 2) := by decide +kernel
theorem dX8_far_4 : decode cX8_far 4 = .ok (.invokestatic 86, 3) := by decide +kernel
theorem dX8_far_7 : decode cX8_far 7 = .ok (.ifCond .ne 5, 3) := by decide +kernel
theorem dX8_far_10 : decode cX8_far 10 = .ok (.iconst (-1), 1) := by decide +kernel
theorem dX8_far_11 : decode cX8_far 11 = .ok (.ireturn, 1) := by decide +kernel
theorem dX8_far_12 : decode cX8_far 12 = .ok (.iload_n 1, 1) := by decide +kernel
theorem dX8_far_13 : decode cX8_far 13 = .ok (.aload_n 0, 1) := by decide +kernel
theorem dX8_far_14 : decode cX8_far 14 = .ok (.getfield 83, 3) := by decide +kernel
end
section
theorem dX8_far_17 : decode cX8_far 17 = .ok (.if_icmp .ge 10, 3) := by decide +kernel
theorem dX8_far_20 : decode cX8_far 20 = .ok (.aload_n 0, 1) := by decide +kernel
theorem dX8_far_21 : decode cX8_far 21 = .ok (.getfield 38, 3) := by decide +kernel
theorem dX8_far_24 : decode cX8_far 24 = .ok (.iload_n 1, 1) := by decide +kernel
theorem dX8_far_25 : decode cX8_far 25 = .ok (.iaload, 1) := by decide +kernel
theorem dX8_far_26 : decode cX8_far 26 = .ok (.ireturn, 1) := by decide +kernel
theorem dX8_far_27 : decode cX8_far 27 = .ok (.aload_n 0, 1) := by decide +kernel
theorem dX8_far_28 : decode cX8_far 28 = .ok (.invokevirtual 127, 3) := by decide +kernel
theorem dX8_far_31 : decode cX8_far 31 = .ok (.aload_n 0, 1) := by decide +kernel
theorem dX8_far_32 : decode cX8_far 32 = .ok (.aload_n 0, 1) := by decide +kernel
theorem dX8_far_33 : decode cX8_far 33 = .ok (.getfield 83, 3) := by decide +kernel
theorem dX8_far_36 : decode cX8_far 36 = .ok (.bipush 16, 2) := by decide +kernel
theorem dX8_far_38 : decode cX8_far 38 = .ok (.invokevirtual 130, 3) := by decide +kernel
theorem dX8_far_41 : decode cX8_far 41 = .ok (.aload_n 0, 1) := by decide +kernel
theorem dX8_far_42 : decode cX8_far 42 = .ok (.getfield 120, 3) := by decide +kernel
theorem dX8_far_45 : decode cX8_far 45 = .ok (.ifCond .ne 5, 3) := by decide +kernel
theorem dX8_far_48 : decode cX8_far 48 = .ok (.iconst 0, 1) := by decide +kernel
theorem dX8_far_49 : decode cX8_far 49 = .ok (.ireturn, 1) := by decide +kernel
theorem dX8_far_50 : decode cX8_far 50 = .ok (.iconst 0, 1) := by decide +kernel
theorem dX8_far_51 : decode cX8_far 51 = .ok (.istore_n 2, 1) := by decide +kernel
theorem dX8_far_52 : decode cX8_far 52 = .ok (.iload_n 2, 1) := by decide +kernel
theorem dX8_far_53 : decode cX8_far 53 = .ok (.aload_n 0, 1) := by decide +kernel
theorem dX8_far_54 : decode cX8_far 54 = .ok (.getfield 120, 3) := by decide +kernel
theorem dX8_far_57 : decode cX8_far 57 = .ok (.if_icmp .ge 40, 3) := by decide +kernel
theorem dX8_far_60 : decode cX8_far 60 = .ok (.aload_n 0, 1) := by decide +kernel
theorem dX8_far_61 : decode cX8_far 61 = .ok (.getfield 53, 3) := by decide +kernel
theorem dX8_far_64 : decode cX8_far 64 = .ok (.iload_n 2, 1) := by decide +kernel
theorem dX8_far_65 : decode cX8_far 65 = .ok (.iload_n 2, 1) := by decide +kernel
theorem dX8_far_66 : decode cX8_far 66 = .ok (.ifCond .ne 7, 3) := by decide +kernel
theorem dX8_far_69 : decode cX8_far 69 = .ok (.iconst 1, 1) := by decide +kernel
theorem dX8_far_70 : decode cX8_far 70 = .ok (.goto 4, 3) := by decide +kernel
theorem dX8_far_73 : decode cX8_far 73 = .ok (.iconst 0, 1) := by decide +kernel
theorem dX8_far_74 : decode cX8_far 74 = .ok (.iastore, 1) := by decide +kernel
theorem dX8_far_75 : decode cX8_far 75 = .ok (.aload_n 0, 1) := by decide +kernel
theorem dX8_far_76 : decode cX8_far 76 = .ok (.getfield 56, 3) := by decide +kernel
theorem dX8_far_79 : decode cX8_far 79 = .ok (.iload_n 2, 1) := by decide +kernel
theorem dX8_far_80 : decode cX8_far 80 = .ok (.iload_n 2, 1) := by decide +kernel
theorem dX8_far_81 : decode cX8_far 81 = .ok (.iconst 1, 1) := by decide +kernel
theorem dX8_far_82 : decode cX8_far 82 = .ok (.if_icmp .ne 7, 3) := by decide +kernel
theorem dX8_far_85 : decode cX8_far 85 = .ok (.iconst 1, 1) := by decide +kernel
theorem dX8_far_86 : decode cX8_far 86 = .ok (.goto 4, 3) := by decide +kernel
theorem dX8_far_89 : decode cX8_far 89 = .ok (.iconst 0, 1) := by decide +kernel
theorem dX8_far_90 : decode cX8_far 90 = .ok (.iastore, 1) := by decide +kernel
theorem dX8_far_91 : decode cX8_far 91 = .ok (.iinc 2 1, 3) := by decide +kernel
theorem dX8_far_94 : decode cX8_far 94 = .ok (.goto (-42), 3) := by decide +kernel
theorem dX8_far_97 : decode cX8_far 97 = .ok (.aload_n 0, 1) := by decide +kernel
theorem dX8_far_98 : decode cX8_far 98 = .ok (.getfield 120, 3) := by decide +kernel
theorem dX8_far_101 : decode cX8_far 101 = .ok (.iconst 1, 1) := by decide +kernel
theorem dX8_far_102 : decode cX8_far 102 = .ok (.if_icmp .ne 14, 3) := by decide +kernel
theorem dX8_far_105 : decode cX8_far 105 = .ok (.aload_n 0, 1) := by decide +kernel
theorem dX8_far_106 : decode cX8_far 106 = .ok (.getfield 56, 3) := by decide +kernel
theorem dX8_far_109 : decode cX8_far 109 = .ok (.iconst 0, 1) := by decide +kernel
theorem dX8_far_110 : decode cX8_far 110 = .ok (.aload_n 0, 1) := by decide +kernel
theorem dX8_far_111 : decode cX8_far 111 = .ok (.iconst 1, 1) := by decide +kernel
theorem dX8_far_112 : decode cX8_far 112 = .ok (.invokevirtual 134, 3) := by decide +kernel
theorem dX8_far_115 : decode cX8_far 115 = .ok (.iastore, 1) := by decide +kernel
theorem dX8_far_116 : decode cX8_far 116 = .ok (.iload_n 1, 1) := by decide +kernel
theorem dX8_far_117 : decode cX8_far 117 = .ok (.istore_n 2, 1) := by decide +kernel
theorem dX8_far_118 : decode cX8_far 118 = .ok (.iload_n 2, 1) := by decide +kernel
theorem dX8_far_119 : decode cX8_far 119 = .ok (.ifCond .le 27, 3) := by decide +kernel
theorem dX8_far_122 : decode cX8_far 122 = .ok (.iload_n 2, 1) := by decide +kernel
theorem dX8_far_123 : decode cX8_far 123 = .ok (.iconst 1, 1) := by decide +kernel
theorem dX8_far_124 : decode cX8_far 124 = .ok (.iand, 1) := by decide +kernel
theorem dX8_far_125 : decode cX8_far 125 = .ok (.iconst 1, 1) := by decide +kernel
theorem dX8_far_126 : decode cX8_far 126 = .ok (.if_icmp .ne 8, 3) := by decide +kernel
theorem dX8_far_129 : decode cX8_far 129 = .ok (.aload_n 0, 1) := by decide +kernel
theorem dX8_far_130 : decode cX8_far 130 = .ok (.iconst 0, 1) := by decide +kernel
theorem dX8_far_131 : decode cX8_far 131 = .ok (.invokevirtual 138, 3) := by decide +kernel
theorem dX8_far_134 : decode cX8_far 134 = .ok (.aload_n 0, 1) := by decide +kernel
theorem dX8_far_135 : decode cX8_far 135 = .ok (.iconst 1, 1) := by decide +kernel
theorem dX8_far_136 : decode cX8_far 136 = .ok (.invokevirtual 138, 3) := by decide +kernel
theorem dX8_far_139 : decode cX8_far 139 = .ok (.iload_n 2, 1) := by decide +kernel
theorem dX8_far_140 : decode cX8_far 140 = .ok (.iconst 1, 1) := by decide +kernel
theorem dX8_far_141 : decode cX8_far 141 = .ok (.ishr, 1) := by decide +kernel
theorem dX8_far_142 : decode cX8_far 142 = .ok (.istore_n 2, 1) := by decide +kernel
theorem dX8_far_143 : decode cX8_far 143 = .ok (.goto (-25), 3) := by decide +kernel
theorem dX8_far_146 : decode cX8_far 146 = .ok (.iconst 0, 1) := by decide +kernel
theorem dX8_far_147 : decode cX8_far 147 = .ok (.istore_n 2, 1) := by decide +kernel
theorem dX8_far_148 : decode cX8_far 148 = .ok (.iconst 0, 1) := by decide +kernel
theorem dX8_far_149 : decode cX8_far 149 = .ok (.istore_n 3, 1) := by decide +kernel
theorem dX8_far_150 : decode cX8_far 150 = .ok (.iload_n 3, 1) := by decide +kernel
theorem dX8_far_151 : decode cX8_far 151 = .ok (.aload_n 0, 1) := by decide +kernel
theorem dX8_far_152 : decode cX8_far 152 = .ok (.getfield 120, 3) := by decide +kernel
theorem dX8_far_155 : decode cX8_far 155 = .ok (.if_icmp .ge 30, 3) := by decide +kernel
theorem dX8_far_158 : decode cX8_far 158 = .ok (.iload_n 2, 1) := by decide +kernel
theorem dX8_far_159 : decode cX8_far 159 = .ok (.aload_n 0, 1) := by decide +kernel
theorem dX8_far_160 : decode cX8_far 160 = .ok (.getfield 53, 3) := by decide +kernel
theorem dX8_far_163 : decode cX8_far 163 = .ok (.iload_n 3, 1) := by decide +kernel
theorem dX8_far_164 : decode cX8_far 164 = .ok (.iaload, 1) := by decide +kernel
theorem dX8_far_165 : decode cX8_far 165 = .ok (.aload_n 0, 1) := by decide +kernel
theorem dX8_far_166 : decode cX8_far 166 = .ok (.getfield 38, 3) := by decide +kernel
theorem dX8_far_169 : decode cX8_far 169 = .ok (.iload_n 3, 1) := by decide +kernel
theorem dX8_far_170 : decode cX8_far 170 = .ok (.iaload, 1) := by decide +kernel
theorem dX8_far_171 : decode cX8_far 171 = .ok (.imul, 1) := by decide +kernel
theorem dX8_far_172 : decode cX8_far 172 = .ok (.iadd, 1) := by decide +kernel
theorem dX8_far_173 : decode cX8_far 173 = .ok (.aload_n 0, 1) := by decide +kernel
theorem dX8_far_174 : decode cX8_far 174 = .ok (.getfield 7, 3) := by decide +kernel
theorem dX8_far_177 : decode cX8_far 177 = .ok (.irem, 1) := by decide +kernel
theorem dX8_far_178 : decode cX8_far 178 = .ok (.istore_n 2, 1) := by decide +kernel
theorem dX8_far_179 : decode cX8_far 179 = .ok (.iinc 3 1, 3) := by decide +kernel
theorem dX8_far_182 : decode cX8_far 182 = .ok (.goto (-32), 3) := by decide +kernel
theorem dX8_far_185 : decode cX8_far 185 = .ok (.iload_n 2, 1) := by decide +kernel
theorem dX8_far_186 : decode cX8_far 186 = .ok (.ireturn, 1) := by decide +kernel
set_option maxRecDepth 20000 in
theorem ggX8_lie_X8_in : GoodIn wsX8_lie wsX8_in := goodIn_r _ [10] (by decide +kernel) (by decide +kernel)
set_option maxRecDepth 20000 in
theorem gX8_lie_X8_in : GoodIn wsX8_lie (va_wsS RX8 86 yX8_in wsX8_in) := goodIn_app (goodIn_of _ (by decide +kernel)) ggX8_lie_X8_in
set_option maxRecDepth 20000 in
theorem ggX8_lie_X8_take : GoodIn wsX8_lie wsX8_take := goodIn_r _ [14, 1, 5, 6, 26, 27, 28, 29, 30, 31, 32, 33, 34, 35, 36, 37, 38, 39, 40, 41, 42, 43, 44, 45, 46, 47, 48, 49, 50, 51, 52, 53, 54] (by decide +kernel) (by decide +kernel)
set_option maxRecDepth 20000 in
theorem gX8_lie_X8_take : GoodIn wsX8_lie (wsV RX8 127 RX8 yX8_take wsX8_take) := goodIn_app (goodIn_of _ (by decide +kernel)) ggX8_lie_X8_take
set_option maxRecDepth 20000 in
theorem ggX8_lie_X8_grow : GoodIn wsX8_lie wsX8_grow := goodIn_r _ [18, 19, 20, 2, 5, 4, 21, 22, 23, 24, 9, 25, 26, 27, 28, 29, 30, 31, 32, 33, 34, 35, 36, 37, 38, 39, 40, 41, 42, 43, 44, 45, 46, 47, 48, 49, 50, 51, 52, 53, 54] (by decide +kernel) (by decide +kernel)
set_option maxRecDepth 20000 in
theorem gX8_lie_X8_grow : GoodIn wsX8_lie (wsV RX8 130 RX8 yX8_grow wsX8_grow) := goodIn_app (goodIn_of _ (by decide +kernel)) ggX8_lie_X8_grow
theorem dX8_lie_0 : decode cX8_lie 0 = .ok (.iload_n 1, 1) := by decide +kernel
theorem dX8_lie_1 : decode cX8_lie 1 = .ok (.iconst 0, 1) := by decide +kernel
theorem dX8_lie_2 : decode cX8_lie 2 = .ok (.bipush 7, 2) := by decide +kernel
theorem dX8_lie_4 : decode cX8_lie 4 = .ok (.invokestatic 86, 3) := by decide +kernel
theorem dX8_lie_7 : decode cX8_lie 7 = .ok (.ifCond .ne 5, 3) := by decide +kernel
theorem dX8_lie_10 : decode cX8_lie 10 = .ok (.iconst (-1), 1) := by decide +kernel
theorem dX8_lie_11 : decode cX8_lie 11 = .ok (.ireturn, 1) := by decide +kernel
theorem dX8_lie_12 : decode cX8_lie 12 = .ok (.aload_n 0, 1) := by decide +kernel
theorem dX8_lie_13 : decode cX8_lie 13 = .ok (.invokevirtual 127, 3) := by decide +kernel
theorem dX8_lie_16 : decode cX8_lie 16 = .ok (.aload_n 0, 1) := by decide +kernel
theorem dX8_lie_17 : decode cX8_lie 17 = .ok (.aload_n 0, 1) := by decide +kernel
theorem dX8_lie_18 : decode cX8_lie 18 = .ok (.getfield 83, 3) := by decide +kernel
theorem dX8_lie_21 : decode cX8_lie 21 = .ok (.iload_n 1, 1) := by decide +kernel
theorem dX8_lie_22 : decode cX8_lie 22 = .ok (.invokevirtual 130, 3) := by decide +kernel
theorem dX8_lie_25 : decode cX8_lie 25 = .ok (.aload_n 0, 1) := by decide +kernel
theorem dX8_lie_26 : decode cX8_lie 26 = .ok (.getfield 120, 3) := by decide +kernel
theorem dX8_lie_29 : decode cX8_lie 29 = .ok (.iload_n 1, 1) := by decide +kernel
theorem dX8_lie_30 : decode cX8_lie 30 = .ok (.if_icmp .gt 6, 3) := by decide +kernel
theorem dX8_lie_33 : decode cX8_lie 33 = .ok (.ldc 142, 2) := by decide +kernel
theorem dX8_lie_35 : decode cX8_lie 35 = .ok (.ireturn, 1) := by decide +kernel
theorem dX8_lie_36 : decode cX8_lie 36 = .ok (.iconst 0, 1) := by decide +kernel
theorem dX8_lie_37 : decode cX8_lie 37 = .ok (.istore_n 2, 1) := by decide +kernel
theorem dX8_lie_38 : decode cX8_lie 38 = .ok (.iload_n 2, 1) := by decide +kernel
theorem dX8_lie_39 : decode cX8_lie 39 = .ok (.aload_n 0, 1) := by decide +kernel
theorem dX8_lie_40 : decode cX8_lie 40 = .ok (.getfield 83, 3) := by decide +kernel
theorem dX8_lie_43 : decode cX8_lie 43 = .ok (.if_icmp .ge 69, 3) := by decide +kernel
theorem dX8_lie_46 : decode cX8_lie 46 = .ok (.iconst 0, 1) := by decide +kernel
theorem dX8_lie_47 : decode cX8_lie 47 = .ok (.istore_n 3, 1) := by decide +kernel
theorem dX8_lie_48 : decode cX8_lie 48 = .ok (.iload_n 3, 1) := by decide +kernel
theorem dX8_lie_49 : decode cX8_lie 49 = .ok (.aload_n 0, 1) := by decide +kernel
theorem dX8_lie_50 : decode cX8_lie 50 = .ok (.getfield 7, 3) := by decide +kernel
theorem dX8_lie_53 : decode cX8_lie 53 = .ok (.if_icmp .ge 41, 3) := by decide +kernel
theorem dX8_lie_56 : decode cX8_lie 56 = .ok (.aload_n 0, 1) := by decide +kernel
theorem dX8_lie_57 : decode cX8_lie 57 = .ok (.getfield 41, 3) := by decide +kernel
theorem dX8_lie_60 : decode cX8_lie 60 = .ok (.iload_n 2, 1) := by decide +kernel
theorem dX8_lie_61 : decode cX8_lie 61 = .ok (.iload_n 3, 1) := by decide +kernel
theorem dX8_lie_62 : decode cX8_lie 62 = .ok (.iastore, 1) := by decide +kernel
theorem dX8_lie_63 : decode cX8_lie 63 = .ok (.aload_n 0, 1) := by decide +kernel
theorem dX8_lie_64 : decode cX8_lie 64 = .ok (.aload_n 0, 1) := by decide +kernel
theorem dX8_lie_65 : decode cX8_lie 65 = .ok (.getfield 83, 3) := by decide +kernel
theorem dX8_lie_68 : decode cX8_lie 68 = .ok (.iload_n 1, 1) := by decide +kernel
theorem dX8_lie_69 : decode cX8_lie 69 = .ok (.invokevirtual 130, 3) := by decide +kernel
theorem dX8_lie_72 : decode cX8_lie 72 = .ok (.aload_n 0, 1) := by decide +kernel
theorem dX8_lie_73 : decode cX8_lie 73 = .ok (.getfield 120, 3) := by decide +kernel
theorem dX8_lie_76 : decode cX8_lie 76 = .ok (.iload_n 1, 1) := by decide +kernel
theorem dX8_lie_77 : decode cX8_lie 77 = .ok (.if_icmp .gt 11, 3) := by decide +kernel
theorem dX8_lie_80 : decode cX8_lie 80 = .ok (.sipush 1000, 3) := by decide +kernel
theorem dX8_lie_83 : decode cX8_lie 83 = .ok (.iload_n 2, 1) := by decide +kernel
theorem dX8_lie_84 : decode cX8_lie 84 = .ok (.imul, 1) := by decide +kernel
theorem dX8_lie_85 : decode cX8_lie 85 = .ok (.iload_n 3, 1) := by decide +kernel
theorem dX8_lie_86 : decode cX8_lie 86 = .ok (.iadd, 1) := by decide +kernel
theorem dX8_lie_87 : decode cX8_lie 87 = .ok (.ireturn, 1) := by decide +kernel
theorem dX8_lie_88 : decode cX8_lie 88 = .ok (.iinc 3 1, 3) := by decide +kernel
theorem dX8_lie_91 : decode cX8_lie 91 = .ok (.goto (-43), 3) := by decide +kernel
theorem dX8_lie_94 : decode cX8_lie 94 = .ok (.aload_n 0, 1) := by decide +kernel
theorem dX8_lie_95 : decode cX8_lie 95 = .ok (.getfield 41, 3) := by decide +kernel
theorem dX8_lie_98 : decode cX8_lie 98 = .ok (.iload_n 2, 1) := by decide +kernel
theorem dX8_lie_99 : decode cX8_lie 99 = .ok (.aload_n 0, 1) := by decide +kernel
theorem dX8_lie_100 : decode cX8_lie 100 = .ok (.getfield 38, 3) := by decide +kernel
theorem dX8_lie_103 : decode cX8_lie 103 = .ok (.iload_n 2, 1) := by decide +kernel
theorem dX8_lie_104 : decode cX8_lie 104 = .ok (.iaload, 1) := by decide +kernel
theorem dX8_lie_105 : decode cX8_lie 105 = .ok (.iastore, 1) := by decide +kernel
theorem dX8_lie_106 : decode cX8_lie 106 = .ok (.iinc 2 1, 3) := by decide +kernel
theorem dX8_lie_109 : decode cX8_lie 109 = .ok (.goto (-71), 3) := by decide +kernel
theorem dX8_lie_112 : decode cX8_lie 112 = .ok (.bipush (-9), 2) := by decide +kernel
theorem dX8_lie_114 : decode cX8_lie 114 = .ok (.ireturn, 1) := by decide +kernel
set_option maxRecDepth 20000 in
theorem ggX8_isRoot_X8_g : GoodIn wsX8_isRoot wsX8_g := goodIn_r _ [7, 2, 8, 13, 14, 15, 16, 17, 18, 19, 20, 21, 22, 23, 24, 25, 26, 27, 28, 29, 30, 31, 32, 33, 34, 35, 36, 37, 38, 39, 40, 41] (by decide +kernel) (by decide +kernel)
set_option maxRecDepth 20000 in
theorem gX8_isRoot_X8_g : GoodIn wsX8_isRoot (wsV RX8 134 RX8 yX8_g wsX8_g) := goodIn_app (goodIn_of _ (by decide +kernel)) ggX8_isRoot_X8_g
set_option maxRecDepth 20000 in
theorem ggX8_isRoot_X8_raised : GoodIn wsX8_isRoot wsX8_raised := goodIn_r _ [12, 2, 13, 14, 15, 16, 17, 18, 19, 20, 21, 22, 23, 24, 25, 26, 27, 28, 29, 30, 31, 32, 33, 34, 35, 36, 37, 38, 39, 40, 41] (by decide +kernel) (by decide +kernel)
set_option maxRecDepth 20000 in
theorem gX8_isRoot_X8_raised : GoodIn wsX8_isRoot (wsV RX8 90 RX8 yX8_raised wsX8_raised) := goodIn_app (goodIn_of _ (by decide +kernel)) ggX8_isRoot_X8_raised
theorem dX8_isRoot_0 : decode cX8_isRoot 0 = .ok (.iconst 0, 1) := by decide +kernel
theorem dX8_isRoot_1 : decode cX8_isRoot 1 = .ok (.istore_n 2, 1) := by decide +kernel
theorem dX8_isRoot_2 : decode cX8_isRoot 2 = .ok (.iconst 1, 1) := by decide +kernel
theorem dX8_isRoot_3 : decode cX8_isRoot 3 = .ok (.istore_n 3, 1) := by decide +kernel
theorem dX8_isRoot_4 : decode cX8_isRoot 4 = .ok (.iload_n 3, 1) := by decide +kernel
theorem dX8_isRoot_5 : decode cX8_isRoot 5 = .ok (.aload_n 0, 1) := by decide +kernel
theorem dX8_isRoot_6 : decode cX8_isRoot 6 = .ok (.getfield 120, 3) := by decide +kernel
theorem dX8_isRoot_9 : decode cX8_isRoot 9 = .ok (.if_icmp .gt 34, 3) := by decide +kernel
theorem dX8_isRoot_12 : decode cX8_isRoot 12 = .ok (.iload_n 2, 1) := by decide +kernel
theorem dX8_isRoot_13 : decode cX8_isRoot 13 = .ok (.aload_n 0, 1) := by decide +kernel
theorem dX8_isRoot_14 : decode cX8_isRoot 14 = .ok (.iload_n 3, 1) := by decide +kernel
theorem dX8_isRoot_15 : decode cX8_isRoot 15 = .ok (.invokevirtual 134, 3) := by decide +kernel
theorem dX8_isRoot_18 : decode cX8_isRoot 18 = .ok (.aload_n 0, 1) := by decide +kernel
theorem dX8_isRoot_19 : decode cX8_isRoot 19 = .ok (.iload_n 1, 1) := by decide +kernel
theorem dX8_isRoot_20 : decode cX8_isRoot 20 = .ok (.aload_n 0, 1) := by decide +kernel
theorem dX8_isRoot_21 : decode cX8_isRoot 21 = .ok (.getfield 120, 3) := by decide +kernel
theorem dX8_isRoot_24 : decode cX8_isRoot 24 = .ok (.iload_n 3, 1) := by decide +kernel
theorem dX8_isRoot_25 : decode cX8_isRoot 25 = .ok (.isub, 1) := by decide +kernel
theorem dX8_isRoot_26 : decode cX8_isRoot 26 = .ok (.invokevirtual 90, 3) := by decide +kernel
theorem dX8_isRoot_29 : decode cX8_isRoot 29 = .ok (.imul, 1) := by decide +kernel
theorem dX8_isRoot_30 : decode cX8_isRoot 30 = .ok (.iadd, 1) := by decide +kernel
theorem dX8_isRoot_31 : decode cX8_isRoot 31 = .ok (.aload_n 0, 1) := by decide +kernel
theorem dX8_isRoot_32 : decode cX8_isRoot 32 = .ok (.getfield 7, 3) := by decide +kernel
theorem dX8_isRoot_35 : decode cX8_isRoot 35 = .ok (.irem, 1) := by decide +kernel
theorem dX8_isRoot_36 : decode cX8_isRoot 36 = .ok (.istore_n 2, 1) := by decide +kernel
theorem dX8_isRoot_37 : decode cX8_isRoot 37 = .ok (.iinc 3 1, 3) := by decide +kernel
theorem dX8_isRoot_40 : decode cX8_isRoot 40 = .ok (.goto (-36), 3) := by decide +kernel
theorem dX8_isRoot_43 : decode cX8_isRoot 43 = .ok (.iload_n 2, 1) := by decide +kernel
theorem dX8_isRoot_44 : decode cX8_isRoot 44 = .ok (.aload_n 0, 1) := by decide +kernel
theorem dX8_isRoot_45 : decode cX8_isRoot 45 = .ok (.iload_n 1, 1) := by decide +kernel
theorem dX8_isRoot_46 : decode cX8_isRoot 46 = .ok (.aload_n 0, 1) := by decide +kernel
theorem dX8_isRoot_47 : decode cX8_isRoot 47 = .ok (.getfield 120, 3) := by decide +kernel
theorem dX8_isRoot_50 : decode cX8_isRoot 50 = .ok (.invokevirtual 90, 3) := by decide +kernel
theorem dX8_isRoot_53 : decode cX8_isRoot 53 = .ok (.if_icmp .ne 7, 3) := by decide +kernel
theorem dX8_isRoot_56 : decode cX8_isRoot 56 = .ok (.iconst 1, 1) := by decide +kernel
theorem dX8_isRoot_57 : decode cX8_isRoot 57 = .ok (.goto 4, 3) := by decide +kernel
theorem dX8_isRoot_60 : decode cX8_isRoot 60 = .ok (.iconst 0, 1) := by decide +kernel
theorem dX8_isRoot_61 : decode cX8_isRoot 61 = .ok (.ireturn, 1) := by decide +kernel
set_option maxRecDepth 20000 in
theorem ggX8_told_X8_raised : GoodIn wsX8_told wsX8_raised := goodIn_r _ [9, 4, 10, 11, 12, 13, 14, 15, 16, 17, 18, 19, 20, 21, 22, 23, 24, 25, 26, 27, 28, 29, 30, 31, 32, 33, 34, 35, 36, 37, 38] (by decide +kernel) (by decide +kernel)
set_option maxRecDepth 20000 in
theorem gX8_told_X8_raised : GoodIn wsX8_told (wsV RX8 90 RX8 yX8_raised wsX8_raised) := goodIn_app (goodIn_of _ (by decide +kernel)) ggX8_told_X8_raised
theorem dX8_told_0 : decode cX8_told 0 = .ok (.iconst 0, 1) := by decide +kernel
theorem dX8_told_1 : decode cX8_told 1 = .ok (.istore_n 2, 1) := by decide +kernel
theorem dX8_told_2 : decode cX8_told 2 = .ok (.iconst 0, 1) := by decide +kernel
theorem dX8_told_3 : decode cX8_told 3 = .ok (.istore_n 3, 1) := by decide +kernel
theorem dX8_told_4 : decode cX8_told 4 = .ok (.iload_n 3, 1) := by decide +kernel
theorem dX8_told_5 : decode cX8_told 5 = .ok (.aload_n 0, 1) := by decide +kernel
theorem dX8_told_6 : decode cX8_told 6 = .ok (.getfield 143, 3) := by decide +kernel
theorem dX8_told_9 : decode cX8_told 9 = .ok (.if_icmp .ge 35, 3) := by decide +kernel
theorem dX8_told_12 : decode cX8_told 12 = .ok (.iload_n 2, 1) := by decide +kernel
theorem dX8_told_13 : decode cX8_told 13 = .ok (.aload_n 0, 1) := by decide +kernel
theorem dX8_told_14 : decode cX8_told 14 = .ok (.getfield 77, 3) := by decide +kernel
theorem dX8_told_17 : decode cX8_told 17 = .ok (.iload_n 3, 1) := by decide +kernel
theorem dX8_told_18 : decode cX8_told 18 = .ok (.iaload, 1) := by decide +kernel
theorem dX8_told_19 : decode cX8_told 19 = .ok (.aload_n 0, 1) := by decide +kernel
theorem dX8_told_20 : decode cX8_told 20 = .ok (.aload_n 0, 1) := by decide +kernel
theorem dX8_told_21 : decode cX8_told 21 = .ok (.getfield 74, 3) := by decide +kernel
theorem dX8_told_24 : decode cX8_told 24 = .ok (.iload_n 3, 1) := by decide +kernel
theorem dX8_told_25 : decode cX8_told 25 = .ok (.iaload, 1) := by decide +kernel
theorem dX8_told_26 : decode cX8_told 26 = .ok (.iload_n 1, 1) := by decide +kernel
theorem dX8_told_27 : decode cX8_told 27 = .ok (.invokevirtual 90, 3) := by decide +kernel
theorem dX8_told_30 : decode cX8_told 30 = .ok (.imul, 1) := by decide +kernel
theorem dX8_told_31 : decode cX8_told 31 = .ok (.iadd, 1) := by decide +kernel
theorem dX8_told_32 : decode cX8_told 32 = .ok (.aload_n 0, 1) := by decide +kernel
theorem dX8_told_33 : decode cX8_told 33 = .ok (.getfield 7, 3) := by decide +kernel
theorem dX8_told_36 : decode cX8_told 36 = .ok (.irem, 1) := by decide +kernel
theorem dX8_told_37 : decode cX8_told 37 = .ok (.istore_n 2, 1) := by decide +kernel
theorem dX8_told_38 : decode cX8_told 38 = .ok (.iinc 3 1, 3) := by decide +kernel
theorem dX8_told_41 : decode cX8_told 41 = .ok (.goto (-37), 3) := by decide +kernel
theorem dX8_told_44 : decode cX8_told 44 = .ok (.iload_n 2, 1) := by decide +kernel
theorem dX8_told_45 : decode cX8_told 45 = .ok (.ireturn, 1) := by decide +kernel
set_option maxRecDepth 20000 in
theorem ggX8_solve_X8_raised : GoodIn wsX8_solve wsX8_raised := goodIn_r _ [11, 5, 16, 17, 18, 19, 20, 21, 22, 23, 24, 25, 26, 27, 28, 29, 30, 31, 32, 33, 34, 35, 36, 37, 38, 39, 40, 41, 42, 43, 44] (by decide +kernel) (by decide +kernel)
set_option maxRecDepth 20000 in
theorem gX8_solve_X8_raised : GoodIn wsX8_solve (wsV RX8 90 RX8 yX8_raised wsX8_raised) := goodIn_app (goodIn_of _ (by decide +kernel)) ggX8_solve_X8_raised
set_option maxRecDepth 20000 in
theorem ggX8_solve_X8_over : GoodIn wsX8_solve wsX8_over := goodIn_r _ [15, 5, 16, 17, 18, 19, 20, 21, 22, 23, 24, 25, 26, 27, 28, 29, 30, 31, 32, 33, 34, 35, 36, 37, 38, 39, 40, 41, 42, 43, 44] (by decide +kernel) (by decide +kernel)
set_option maxRecDepth 20000 in
theorem gX8_solve_X8_over : GoodIn wsX8_solve (wsV RX8 123 RX8 yX8_over wsX8_over) := goodIn_app (goodIn_of _ (by decide +kernel)) ggX8_solve_X8_over
theorem dX8_solve_0 : decode cX8_solve 0 = .ok (.iconst 0, 1) := by decide +kernel
theorem dX8_solve_1 : decode cX8_solve 1 = .ok (.istore_n 1, 1) := by decide +kernel
theorem dX8_solve_2 : decode cX8_solve 2 = .ok (.iload_n 1, 1) := by decide +kernel
theorem dX8_solve_3 : decode cX8_solve 3 = .ok (.aload_n 0, 1) := by decide +kernel
theorem dX8_solve_4 : decode cX8_solve 4 = .ok (.getfield 143, 3) := by decide +kernel
theorem dX8_solve_7 : decode cX8_solve 7 = .ok (.if_icmp .ge 62, 3) := by decide +kernel
theorem dX8_solve_10 : decode cX8_solve 10 = .ok (.iconst 0, 1) := by decide +kernel
theorem dX8_solve_11 : decode cX8_solve 11 = .ok (.istore_n 2, 1) := by decide +kernel
theorem dX8_solve_12 : decode cX8_solve 12 = .ok (.iload_n 2, 1) := by decide +kernel
theorem dX8_solve_13 : decode cX8_solve 13 = .ok (.aload_n 0, 1) := by decide +kernel
theorem dX8_solve_14 : decode cX8_solve 14 = .ok (.getfield 143, 3) := by decide +kernel
theorem dX8_solve_17 : decode cX8_solve 17 = .ok (.if_icmp .ge 30, 3) := by decide +kernel
theorem dX8_solve_20 : decode cX8_solve 20 = .ok (.aload_n 0, 1) := by decide +kernel
theorem dX8_solve_21 : decode cX8_solve 21 = .ok (.getfield 80, 3) := by decide +kernel
theorem dX8_solve_24 : decode cX8_solve 24 = .ok (.iconst 5, 1) := by decide +kernel
theorem dX8_solve_25 : decode cX8_solve 25 = .ok (.iload_n 1, 1) := by decide +kernel
theorem dX8_solve_26 : decode cX8_solve 26 = .ok (.imul, 1) := by decide +kernel
theorem dX8_solve_27 : decode cX8_solve 27 = .ok (.iload_n 2, 1) := by decide +kernel
theorem dX8_solve_28 : decode cX8_solve 28 = .ok (.iadd, 1) := by decide +kernel
theorem dX8_solve_29 : decode cX8_solve 29 = .ok (.aload_n 0, 1) := by decide +kernel
theorem dX8_solve_30 : decode cX8_solve 30 = .ok (.aload_n 0, 1) := by decide +kernel
theorem dX8_solve_31 : decode cX8_solve 31 = .ok (.getfield 74, 3) := by decide +kernel
theorem dX8_solve_34 : decode cX8_solve 34 = .ok (.iload_n 2, 1) := by decide +kernel
theorem dX8_solve_35 : decode cX8_solve 35 = .ok (.iaload, 1) := by decide +kernel
theorem dX8_solve_36 : decode cX8_solve 36 = .ok (.iload_n 1, 1) := by decide +kernel
theorem dX8_solve_37 : decode cX8_solve 37 = .ok (.invokevirtual 90, 3) := by decide +kernel
theorem dX8_solve_40 : decode cX8_solve 40 = .ok (.iastore, 1) := by decide +kernel
theorem dX8_solve_41 : decode cX8_solve 41 = .ok (.iinc 2 1, 3) := by decide +kernel
theorem dX8_solve_44 : decode cX8_solve 44 = .ok (.goto (-32), 3) := by decide +kernel
theorem dX8_solve_47 : decode cX8_solve 47 = .ok (.aload_n 0, 1) := by decide +kernel
theorem dX8_solve_48 : decode cX8_solve 48 = .ok (.getfield 80, 3) := by decide +kernel
theorem dX8_solve_51 : decode cX8_solve 51 = .ok (.iconst 5, 1) := by decide +kernel
theorem dX8_solve_52 : decode cX8_solve 52 = .ok (.iload_n 1, 1) := by decide +kernel
theorem dX8_solve_53 : decode cX8_solve 53 = .ok (.imul, 1) := by decide +kernel
theorem dX8_solve_54 : decode cX8_solve 54 = .ok (.iconst 4, 1) := by decide +kernel
theorem dX8_solve_55 : decode cX8_solve 55 = .ok (.iadd, 1) := by decide +kernel
theorem dX8_solve_56 : decode cX8_solve 56 = .ok (.aload_n 0, 1) := by decide +kernel
theorem dX8_solve_57 : decode cX8_solve 57 = .ok (.getfield 62, 3) := by decide +kernel
theorem dX8_solve_60 : decode cX8_solve 60 = .ok (.iload_n 1, 1) := by decide +kernel
theorem dX8_solve_61 : decode cX8_solve 61 = .ok (.iaload, 1) := by decide +kernel
theorem dX8_solve_62 : decode cX8_solve 62 = .ok (.iastore, 1) := by decide +kernel
theorem dX8_solve_63 : decode cX8_solve 63 = .ok (.iinc 1 1, 3) := by decide +kernel
theorem dX8_solve_66 : decode cX8_solve 66 = .ok (.goto (-64), 3) := by decide +kernel
theorem dX8_solve_69 : decode cX8_solve 69 = .ok (.iconst 0, 1) := by decide +kernel
theorem dX8_solve_70 : decode cX8_solve 70 = .ok (.istore_n 1, 1) := by decide +kernel
theorem dX8_solve_71 : decode cX8_solve 71 = .ok (.iload_n 1, 1) := by decide +kernel
theorem dX8_solve_72 : decode cX8_solve 72 = .ok (.aload_n 0, 1) := by decide +kernel
theorem dX8_solve_73 : decode cX8_solve 73 = .ok (.getfield 143, 3) := by decide +kernel
theorem dX8_solve_76 : decode cX8_solve 76 = .ok (.if_icmp .ge 251, 3) := by decide +kernel
theorem dX8_solve_79 : decode cX8_solve 79 = .ok (.iload_n 1, 1) := by decide +kernel
theorem dX8_solve_80 : decode cX8_solve 80 = .ok (.istore_n 2, 1) := by decide +kernel
theorem dX8_solve_81 : decode cX8_solve 81 = .ok (.aload_n 0, 1) := by decide +kernel
theorem dX8_solve_82 : decode cX8_solve 82 = .ok (.getfield 80, 3) := by decide +kernel
theorem dX8_solve_85 : decode cX8_solve 85 = .ok (.iconst 5, 1) := by decide +kernel
theorem dX8_solve_86 : decode cX8_solve 86 = .ok (.iload_n 2, 1) := by decide +kernel
theorem dX8_solve_87 : decode cX8_solve 87 = .ok (.imul, 1) := by decide +kernel
theorem dX8_solve_88 : decode cX8_solve 88 = .ok (.iload_n 1, 1) := by decide +kernel
theorem dX8_solve_89 : decode cX8_solve 89 = .ok (.iadd, 1) := by decide +kernel
theorem dX8_solve_90 : decode cX8_solve 90 = .ok (.iaload, 1) := by decide +kernel
theorem dX8_solve_91 : decode cX8_solve 91 = .ok (.ifCond .ne 9, 3) := by decide +kernel
theorem dX8_solve_94 : decode cX8_solve 94 = .ok (.iinc 2 1, 3) := by decide +kernel
theorem dX8_solve_97 : decode cX8_solve 97 = .ok (.goto (-16), 3) := by decide +kernel
theorem dX8_solve_100 : decode cX8_solve 100 = .ok (.iconst 0, 1) := by decide +kernel
theorem dX8_solve_101 : decode cX8_solve 101 = .ok (.istore_n 3, 1) := by decide +kernel
theorem dX8_solve_102 : decode cX8_solve 102 = .ok (.iload_n 3, 1) := by decide +kernel
theorem dX8_solve_103 : decode cX8_solve 103 = .ok (.iconst 5, 1) := by decide +kernel
theorem dX8_solve_104 : decode cX8_solve 104 = .ok (.if_icmp .ge 53, 3) := by decide +kernel
theorem dX8_solve_107 : decode cX8_solve 107 = .ok (.aload_n 0, 1) := by decide +kernel
theorem dX8_solve_108 : decode cX8_solve 108 = .ok (.getfield 80, 3) := by decide +kernel
theorem dX8_solve_111 : decode cX8_solve 111 = .ok (.iconst 5, 1) := by decide +kernel
theorem dX8_solve_112 : decode cX8_solve 112 = .ok (.iload_n 1, 1) := by decide +kernel
theorem dX8_solve_113 : decode cX8_solve 113 = .ok (.imul, 1) := by decide +kernel
theorem dX8_solve_114 : decode cX8_solve 114 = .ok (.iload_n 3, 1) := by decide +kernel
theorem dX8_solve_115 : decode cX8_solve 115 = .ok (.iadd, 1) := by decide +kernel
theorem dX8_solve_116 : decode cX8_solve 116 = .ok (.iaload, 1) := by decide +kernel
theorem dX8_solve_117 : decode cX8_solve 117 = .ok (.istore 4, 2) := by decide +kernel
theorem dX8_solve_119 : decode cX8_solve 119 = .ok (.aload_n 0, 1) := by decide +kernel
theorem dX8_solve_120 : decode cX8_solve 120 = .ok (.getfield 80, 3) := by decide +kernel
theorem dX8_solve_123 : decode cX8_solve 123 = .ok (.iconst 5, 1) := by decide +kernel
theorem dX8_solve_124 : decode cX8_solve 124 = .ok (.iload_n 1, 1) := by decide +kernel
theorem dX8_solve_125 : decode cX8_solve 125 = .ok (.imul, 1) := by decide +kernel
theorem dX8_solve_126 : decode cX8_solve 126 = .ok (.iload_n 3, 1) := by decide +kernel
theorem dX8_solve_127 : decode cX8_solve 127 = .ok (.iadd, 1) := by decide +kernel
theorem dX8_solve_128 : decode cX8_solve 128 = .ok (.aload_n 0, 1) := by decide +kernel
theorem dX8_solve_129 : decode cX8_solve 129 = .ok (.getfield 80, 3) := by decide +kernel
theorem dX8_solve_132 : decode cX8_solve 132 = .ok (.iconst 5, 1) := by decide +kernel
theorem dX8_solve_133 : decode cX8_solve 133 = .ok (.iload_n 2, 1) := by decide +kernel
theorem dX8_solve_134 : decode cX8_solve 134 = .ok (.imul, 1) := by decide +kernel
theorem dX8_solve_135 : decode cX8_solve 135 = .ok (.iload_n 3, 1) := by decide +kernel
theorem dX8_solve_136 : decode cX8_solve 136 = .ok (.iadd, 1) := by decide +kernel
theorem dX8_solve_137 : decode cX8_solve 137 = .ok (.iaload, 1) := by decide +kernel
theorem dX8_solve_138 : decode cX8_solve 138 = .ok (.iastore, 1) := by decide +kernel
theorem dX8_solve_139 : decode cX8_solve 139 = .ok (.aload_n 0, 1) := by decide +kernel
theorem dX8_solve_140 : decode cX8_solve 140 = .ok (.getfield 80, 3) := by decide +kernel
theorem dX8_solve_143 : decode cX8_solve 143 = .ok (.iconst 5, 1) := by decide +kernel
theorem dX8_solve_144 : decode cX8_solve 144 = .ok (.iload_n 2, 1) := by decide +kernel
theorem dX8_solve_145 : decode cX8_solve 145 = .ok (.imul, 1) := by decide +kernel
theorem dX8_solve_146 : decode cX8_solve 146 = .ok (.iload_n 3, 1) := by decide +kernel
theorem dX8_solve_147 : decode cX8_solve 147 = .ok (.iadd, 1) := by decide +kernel
theorem dX8_solve_148 : decode cX8_solve 148 = .ok (.iload 4, 2) := by decide +kernel
theorem dX8_solve_150 : decode cX8_solve 150 = .ok (.iastore, 1) := by decide +kernel
theorem dX8_solve_151 : decode cX8_solve 151 = .ok (.iinc 3 1, 3) := by decide +kernel
theorem dX8_solve_154 : decode cX8_solve 154 = .ok (.goto (-52), 3) := by decide +kernel
theorem dX8_solve_157 : decode cX8_solve 157 = .ok (.aload_n 0, 1) := by decide +kernel
theorem dX8_solve_158 : decode cX8_solve 158 = .ok (.aload_n 0, 1) := by decide +kernel
theorem dX8_solve_159 : decode cX8_solve 159 = .ok (.getfield 80, 3) := by decide +kernel
theorem dX8_solve_162 : decode cX8_solve 162 = .ok (.iconst 5, 1) := by decide +kernel
theorem dX8_solve_163 : decode cX8_solve 163 = .ok (.iload_n 1, 1) := by decide +kernel
theorem dX8_solve_164 : decode cX8_solve 164 = .ok (.imul, 1) := by decide +kernel
theorem dX8_solve_165 : decode cX8_solve 165 = .ok (.iload_n 1, 1) := by decide +kernel
theorem dX8_solve_166 : decode cX8_solve 166 = .ok (.iadd, 1) := by decide +kernel
theorem dX8_solve_167 : decode cX8_solve 167 = .ok (.iaload, 1) := by decide +kernel
theorem dX8_solve_168 : decode cX8_solve 168 = .ok (.invokevirtual 123, 3) := by decide +kernel
theorem dX8_solve_171 : decode cX8_solve 171 = .ok (.istore_n 3, 1) := by decide +kernel
theorem dX8_solve_172 : decode cX8_solve 172 = .ok (.iconst 0, 1) := by decide +kernel
theorem dX8_solve_173 : decode cX8_solve 173 = .ok (.istore 4, 2) := by decide +kernel
theorem dX8_solve_175 : decode cX8_solve 175 = .ok (.iload 4, 2) := by decide +kernel
theorem dX8_solve_177 : decode cX8_solve 177 = .ok (.iconst 5, 1) := by decide +kernel
theorem dX8_solve_178 : decode cX8_solve 178 = .ok (.if_icmp .ge 38, 3) := by decide +kernel
theorem dX8_solve_181 : decode cX8_solve 181 = .ok (.aload_n 0, 1) := by decide +kernel
theorem dX8_solve_182 : decode cX8_solve 182 = .ok (.getfield 80, 3) := by decide +kernel
theorem dX8_solve_185 : decode cX8_solve 185 = .ok (.iconst 5, 1) := by decide +kernel
theorem dX8_solve_186 : decode cX8_solve 186 = .ok (.iload_n 1, 1) := by decide +kernel
theorem dX8_solve_187 : decode cX8_solve 187 = .ok (.imul, 1) := by decide +kernel
theorem dX8_solve_188 : decode cX8_solve 188 = .ok (.iload 4, 2) := by decide +kernel
theorem dX8_solve_190 : decode cX8_solve 190 = .ok (.iadd, 1) := by decide +kernel
theorem dX8_solve_191 : decode cX8_solve 191 = .ok (.aload_n 0, 1) := by decide +kernel
theorem dX8_solve_192 : decode cX8_solve 192 = .ok (.getfield 80, 3) := by decide +kernel
theorem dX8_solve_195 : decode cX8_solve 195 = .ok (.iconst 5, 1) := by decide +kernel
theorem dX8_solve_196 : decode cX8_solve 196 = .ok (.iload_n 1, 1) := by decide +kernel
theorem dX8_solve_197 : decode cX8_solve 197 = .ok (.imul, 1) := by decide +kernel
theorem dX8_solve_198 : decode cX8_solve 198 = .ok (.iload 4, 2) := by decide +kernel
theorem dX8_solve_200 : decode cX8_solve 200 = .ok (.iadd, 1) := by decide +kernel
theorem dX8_solve_201 : decode cX8_solve 201 = .ok (.iaload, 1) := by decide +kernel
theorem dX8_solve_202 : decode cX8_solve 202 = .ok (.iload_n 3, 1) := by decide +kernel
theorem dX8_solve_203 : decode cX8_solve 203 = .ok (.imul, 1) := by decide +kernel
theorem dX8_solve_204 : decode cX8_solve 204 = .ok (.aload_n 0, 1) := by decide +kernel
theorem dX8_solve_205 : decode cX8_solve 205 = .ok (.getfield 7, 3) := by decide +kernel
theorem dX8_solve_208 : decode cX8_solve 208 = .ok (.irem, 1) := by decide +kernel
theorem dX8_solve_209 : decode cX8_solve 209 = .ok (.iastore, 1) := by decide +kernel
theorem dX8_solve_210 : decode cX8_solve 210 = .ok (.iinc 4 1, 3) := by decide +kernel
theorem dX8_solve_213 : decode cX8_solve 213 = .ok (.goto (-38), 3) := by decide +kernel
theorem dX8_solve_216 : decode cX8_solve 216 = .ok (.iconst 0, 1) := by decide +kernel
theorem dX8_solve_217 : decode cX8_solve 217 = .ok (.istore 4, 2) := by decide +kernel
theorem dX8_solve_219 : decode cX8_solve 219 = .ok (.iload 4, 2) := by decide +kernel
theorem dX8_solve_221 : decode cX8_solve 221 = .ok (.aload_n 0, 1) := by decide +kernel
theorem dX8_solve_222 : decode cX8_solve 222 = .ok (.getfield 143, 3) := by decide +kernel
theorem dX8_solve_225 : decode cX8_solve 225 = .ok (.if_icmp .ge 96, 3) := by decide +kernel
theorem dX8_solve_228 : decode cX8_solve 228 = .ok (.iload 4, 2) := by decide +kernel
theorem dX8_solve_230 : decode cX8_solve 230 = .ok (.iload_n 1, 1) := by decide +kernel
theorem dX8_solve_231 : decode cX8_solve 231 = .ok (.if_icmp .ne 7, 3) := by decide +kernel
theorem dX8_solve_234 : decode cX8_solve 234 = .ok (.iconst 0, 1) := by decide +kernel
theorem dX8_solve_235 : decode cX8_solve 235 = .ok (.goto 14, 3) := by decide +kernel
theorem dX8_solve_238 : decode cX8_solve 238 = .ok (.aload_n 0, 1) := by decide +kernel
theorem dX8_solve_239 : decode cX8_solve 239 = .ok (.getfield 80, 3) := by decide +kernel
theorem dX8_solve_242 : decode cX8_solve 242 = .ok (.iconst 5, 1) := by decide +kernel
theorem dX8_solve_243 : decode cX8_solve 243 = .ok (.iload 4, 2) := by decide +kernel
theorem dX8_solve_245 : decode cX8_solve 245 = .ok (.imul, 1) := by decide +kernel
theorem dX8_solve_246 : decode cX8_solve 246 = .ok (.iload_n 1, 1) := by decide +kernel
theorem dX8_solve_247 : decode cX8_solve 247 = .ok (.iadd, 1) := by decide +kernel
theorem dX8_solve_248 : decode cX8_solve 248 = .ok (.iaload, 1) := by decide +kernel
theorem dX8_solve_249 : decode cX8_solve 249 = .ok (.istore 5, 2) := by decide +kernel
theorem dX8_solve_251 : decode cX8_solve 251 = .ok (.iconst 0, 1) := by decide +kernel
theorem dX8_solve_252 : decode cX8_solve 252 = .ok (.istore 6, 2) := by decide +kernel
theorem dX8_solve_254 : decode cX8_solve 254 = .ok (.iload 6, 2) := by decide +kernel
theorem dX8_solve_256 : decode cX8_solve 256 = .ok (.iconst 5, 1) := by decide +kernel
theorem dX8_solve_257 : decode cX8_solve 257 = .ok (.if_icmp .ge 58, 3) := by decide +kernel
theorem dX8_solve_260 : decode cX8_solve 260 = .ok (.aload_n 0, 1) := by decide +kernel
theorem dX8_solve_261 : decode cX8_solve 261 = .ok (.getfield 80, 3) := by decide +kernel
theorem dX8_solve_264 : decode cX8_solve 264 = .ok (.iconst 5, 1) := by decide +kernel
theorem dX8_solve_265 : decode cX8_solve 265 = .ok (.iload 4, 2) := by decide +kernel
theorem dX8_solve_267 : decode cX8_solve 267 = .ok (.imul, 1) := by decide +kernel
theorem dX8_solve_268 : decode cX8_solve 268 = .ok (.iload 6, 2) := by decide +kernel
theorem dX8_solve_270 : decode cX8_solve 270 = .ok (.iadd, 1) := by decide +kernel
theorem dX8_solve_271 : decode cX8_solve 271 = .ok (.aload_n 0, 1) := by decide +kernel
theorem dX8_solve_272 : decode cX8_solve 272 = .ok (.getfield 80, 3) := by decide +kernel
theorem dX8_solve_275 : decode cX8_solve 275 = .ok (.iconst 5, 1) := by decide +kernel
theorem dX8_solve_276 : decode cX8_solve 276 = .ok (.iload 4, 2) := by decide +kernel
theorem dX8_solve_278 : decode cX8_solve 278 = .ok (.imul, 1) := by decide +kernel
theorem dX8_solve_279 : decode cX8_solve 279 = .ok (.iload 6, 2) := by decide +kernel
theorem dX8_solve_281 : decode cX8_solve 281 = .ok (.iadd, 1) := by decide +kernel
theorem dX8_solve_282 : decode cX8_solve 282 = .ok (.iaload, 1) := by decide +kernel
theorem dX8_solve_283 : decode cX8_solve 283 = .ok (.aload_n 0, 1) := by decide +kernel
theorem dX8_solve_284 : decode cX8_solve 284 = .ok (.getfield 7, 3) := by decide +kernel
theorem dX8_solve_287 : decode cX8_solve 287 = .ok (.iload 5, 2) := by decide +kernel
theorem dX8_solve_289 : decode cX8_solve 289 = .ok (.isub, 1) := by decide +kernel
theorem dX8_solve_290 : decode cX8_solve 290 = .ok (.aload_n 0, 1) := by decide +kernel
theorem dX8_solve_291 : decode cX8_solve 291 = .ok (.getfield 80, 3) := by decide +kernel
theorem dX8_solve_294 : decode cX8_solve 294 = .ok (.iconst 5, 1) := by decide +kernel
theorem dX8_solve_295 : decode cX8_solve 295 = .ok (.iload_n 1, 1) := by decide +kernel
theorem dX8_solve_296 : decode cX8_solve 296 = .ok (.imul, 1) := by decide +kernel
theorem dX8_solve_297 : decode cX8_solve 297 = .ok (.iload 6, 2) := by decide +kernel
theorem dX8_solve_299 : decode cX8_solve 299 = .ok (.iadd, 1) := by decide +kernel
theorem dX8_solve_300 : decode cX8_solve 300 = .ok (.iaload, 1) := by decide +kernel
theorem dX8_solve_301 : decode cX8_solve 301 = .ok (.imul, 1) := by decide +kernel
theorem dX8_solve_302 : decode cX8_solve 302 = .ok (.iadd, 1) := by decide +kernel
theorem dX8_solve_303 : decode cX8_solve 303 = .ok (.aload_n 0, 1) := by decide +kernel
theorem dX8_solve_304 : decode cX8_solve 304 = .ok (.getfield 7, 3) := by decide +kernel
theorem dX8_solve_307 : decode cX8_solve 307 = .ok (.irem, 1) := by decide +kernel
theorem dX8_solve_308 : decode cX8_solve 308 = .ok (.iastore, 1) := by decide +kernel
theorem dX8_solve_309 : decode cX8_solve 309 = .ok (.iinc 6 1, 3) := by decide +kernel
theorem dX8_solve_312 : decode cX8_solve 312 = .ok (.goto (-58), 3) := by decide +kernel
theorem dX8_solve_315 : decode cX8_solve 315 = .ok (.iinc 4 1, 3) := by decide +kernel
theorem dX8_solve_318 : decode cX8_solve 318 = .ok (.goto (-99), 3) := by decide +kernel
theorem dX8_solve_321 : decode cX8_solve 321 = .ok (.iinc 1 1, 3) := by decide +kernel
theorem dX8_solve_324 : decode cX8_solve 324 = .ok (.goto (-253), 3) := by decide +kernel
theorem dX8_solve_327 : decode cX8_solve 327 = .ok (.iconst 0, 1) := by decide +kernel
theorem dX8_solve_328 : decode cX8_solve 328 = .ok (.istore_n 1, 1) := by decide +kernel
theorem dX8_solve_329 : decode cX8_solve 329 = .ok (.iload_n 1, 1) := by decide +kernel
theorem dX8_solve_330 : decode cX8_solve 330 = .ok (.aload_n 0, 1) := by decide +kernel
theorem dX8_solve_331 : decode cX8_solve 331 = .ok (.getfield 143, 3) := by decide +kernel
theorem dX8_solve_334 : decode cX8_solve 334 = .ok (.if_icmp .ge 25, 3) := by decide +kernel
theorem dX8_solve_337 : decode cX8_solve 337 = .ok (.aload_n 0, 1) := by decide +kernel
theorem dX8_solve_338 : decode cX8_solve 338 = .ok (.getfield 77, 3) := by decide +kernel
theorem dX8_solve_341 : decode cX8_solve 341 = .ok (.iload_n 1, 1) := by decide +kernel
theorem dX8_solve_342 : decode cX8_solve 342 = .ok (.aload_n 0, 1) := by decide +kernel
theorem dX8_solve_343 : decode cX8_solve 343 = .ok (.getfield 80, 3) := by decide +kernel
theorem dX8_solve_346 : decode cX8_solve 346 = .ok (.iconst 5, 1) := by decide +kernel
theorem dX8_solve_347 : decode cX8_solve 347 = .ok (.iload_n 1, 1) := by decide +kernel
theorem dX8_solve_348 : decode cX8_solve 348 = .ok (.imul, 1) := by decide +kernel
theorem dX8_solve_349 : decode cX8_solve 349 = .ok (.iconst 4, 1) := by decide +kernel
theorem dX8_solve_350 : decode cX8_solve 350 = .ok (.iadd, 1) := by decide +kernel
theorem dX8_solve_351 : decode cX8_solve 351 = .ok (.iaload, 1) := by decide +kernel
theorem dX8_solve_352 : decode cX8_solve 352 = .ok (.iastore, 1) := by decide +kernel
theorem dX8_solve_353 : decode cX8_solve 353 = .ok (.iinc 1 1, 3) := by decide +kernel
theorem dX8_solve_356 : decode cX8_solve 356 = .ok (.goto (-27), 3) := by decide +kernel
theorem dX8_solve_359 : decode cX8_solve 359 = .ok (.return_, 1) := by decide +kernel
set_option maxRecDepth 20000 in
theorem ggX8_getBack_X8_raised : GoodIn wsX8_getBack wsX8_raised := goodIn_r _ [15, 3, 61, 62, 63, 64, 65, 66, 67, 68, 69, 70, 71, 72, 73, 74, 75, 76, 77, 78, 79, 80, 81, 82, 83, 84, 85, 86, 87, 88, 89] (by decide +kernel) (by decide +kernel)
set_option maxRecDepth 20000 in
theorem gX8_getBack_X8_raised : GoodIn wsX8_getBack (wsV RX8 90 RX8 yX8_raised wsX8_raised) := goodIn_app (goodIn_of _ (by decide +kernel)) ggX8_getBack_X8_raised
set_option maxRecDepth 20000 in
theorem ggX8_getBack_X8_answer : GoodIn wsX8_getBack wsX8_answer := goodIn_r _ [19, 20, 21, 22, 23, 3, 24, 25, 26, 27, 28, 14, 29, 30, 31, 11, 12, 13, 15, 61, 62, 63, 64, 65, 66, 67, 68, 69, 70, 71, 72, 73, 74, 75, 76, 77, 78, 79, 80, 81, 82, 83, 84, 85, 86, 87, 88, 89] (by decide +kernel) (by decide +kernel)
set_option maxRecDepth 20000 in
theorem gX8_getBack_X8_answer : GoodIn wsX8_getBack (wsV RX8 116 RX8 yX8_answer wsX8_answer) := goodIn_app (goodIn_of _ (by decide +kernel)) ggX8_getBack_X8_answer
set_option maxRecDepth 20000 in
theorem ggX8_getBack_X8_grow : GoodIn wsX8_getBack wsX8_grow := goodIn_r _ [35, 36, 37, 5, 4, 3, 38, 39, 40, 41, 14, 42, 61, 62, 63, 64, 65, 66, 67, 68, 69, 70, 71, 72, 73, 74, 75, 76, 77, 78, 79, 80, 81, 82, 83, 84, 85, 86, 87, 88, 89] (by decide +kernel) (by decide +kernel)
set_option maxRecDepth 20000 in
theorem gX8_getBack_X8_grow : GoodIn wsX8_getBack (wsV RX8 130 RX8 yX8_grow wsX8_grow) := goodIn_app (goodIn_of _ (by decide +kernel)) ggX8_getBack_X8_grow
set_option maxRecDepth 20000 in
theorem ggX8_getBack_X8_isRoot : GoodIn wsX8_getBack wsX8_isRoot := goodIn_r _ [46, 5, 3, 47, 48, 49, 14, 50, 36, 11, 12, 13, 15, 61, 62, 63, 64, 65, 66, 67, 68, 69, 70, 71, 72, 73, 74, 75, 76, 77, 78, 79, 80, 81, 82, 83, 84, 85, 86, 87, 88, 89] (by decide +kernel) (by decide +kernel)
set_option maxRecDepth 20000 in
theorem gX8_getBack_X8_isRoot : GoodIn wsX8_getBack (wsV RX8 146 RX8 yX8_isRoot wsX8_isRoot) := goodIn_app (goodIn_of _ (by decide +kernel)) ggX8_getBack_X8_isRoot
set_option maxRecDepth 20000 in
theorem ggX8_getBack_X8_solve : GoodIn wsX8_getBack wsX8_solve := goodIn_r _ [54, 6, 55, 7, 2, 3, 56, 11, 12, 13, 14, 15, 39, 40, 41, 42, 61, 62, 63, 64, 65, 66, 67, 68, 69, 70, 71, 72, 73, 74, 75, 76, 77, 78, 79, 80, 81, 82, 83, 84, 85, 86, 87, 88, 89] (by decide +kernel) (by decide +kernel)
set_option maxRecDepth 20000 in
theorem gX8_getBack_X8_solve : GoodIn wsX8_getBack (wsV RX8 149 RX8 yX8_solve wsX8_solve) := goodIn_app (goodIn_of _ (by decide +kernel)) ggX8_getBack_X8_solve
set_option maxRecDepth 20000 in
theorem ggX8_getBack_X8_told : GoodIn wsX8_getBack wsX8_told := goodIn_r _ [60, 6, 56, 7, 3, 11, 12, 13, 14, 15, 61, 62, 63, 64, 65, 66, 67, 68, 69, 70, 71, 72, 73, 74, 75, 76, 77, 78, 79, 80, 81, 82, 83, 84, 85, 86, 87, 88, 89] (by decide +kernel) (by decide +kernel)
set_option maxRecDepth 20000 in
theorem gX8_getBack_X8_told : GoodIn wsX8_getBack (wsV RX8 152 RX8 yX8_told wsX8_told) := goodIn_app (goodIn_of _ (by decide +kernel)) ggX8_getBack_X8_told
theorem dX8_getBack_0 : decode cX8_getBack 0 = .ok (.aload_n 0, 1) := by decide +kernel
theorem dX8_getBack_1 : decode cX8_getBack 1 = .ok (.dup, 1) := by decide +kernel
theorem dX8_getBack_2 : decode cX8_getBack 2 = .ok (.getfield 113, 3) := by decide +kernel
theorem dX8_getBack_5 : decode cX8_getBack 5 = .ok (.bipush 9, 2) := by decide +kernel
theorem dX8_getBack_7 : decode cX8_getBack 7 = .ok (.iadd, 1) := by decide +kernel
theorem dX8_getBack_8 : decode cX8_getBack 8 = .ok (.putfield 113, 3) := by decide +kernel
theorem dX8_getBack_11 : decode cX8_getBack 11 = .ok (.iconst 0, 1) := by decide +kernel
theorem dX8_getBack_12 : decode cX8_getBack 12 = .ok (.istore_n 2, 1) := by decide +kernel
theorem dX8_getBack_13 : decode cX8_getBack 13 = .ok (.iload_n 2, 1) := by decide +kernel
theorem dX8_getBack_14 : decode cX8_getBack 14 = .ok (.bipush 9, 2) := by decide +kernel
theorem dX8_getBack_16 : decode cX8_getBack 16 = .ok (.if_icmp .ge 43, 3) := by decide +kernel
theorem dX8_getBack_19 : decode cX8_getBack 19 = .ok (.aload_n 0, 1) := by decide +kernel
theorem dX8_getBack_20 : decode cX8_getBack 20 = .ok (.getfield 62, 3) := by decide +kernel
theorem dX8_getBack_23 : decode cX8_getBack 23 = .ok (.iload_n 2, 1) := by decide +kernel
theorem dX8_getBack_24 : decode cX8_getBack 24 = .ok (.aload_n 0, 1) := by decide +kernel
theorem dX8_getBack_25 : decode cX8_getBack 25 = .ok (.iload_n 1, 1) := by decide +kernel
theorem dX8_getBack_26 : decode cX8_getBack 26 = .ok (.aload_n 0, 1) := by decide +kernel
theorem dX8_getBack_27 : decode cX8_getBack 27 = .ok (.iconst 2, 1) := by decide +kernel
theorem dX8_getBack_28 : decode cX8_getBack 28 = .ok (.iload_n 2, 1) := by decide +kernel
theorem dX8_getBack_29 : decode cX8_getBack 29 = .ok (.invokevirtual 90, 3) := by decide +kernel
theorem dX8_getBack_32 : decode cX8_getBack 32 = .ok (.aload_n 0, 1) := by decide +kernel
theorem dX8_getBack_33 : decode cX8_getBack 33 = .ok (.iconst 3, 1) := by decide +kernel
theorem dX8_getBack_34 : decode cX8_getBack 34 = .ok (.iload_n 2, 1) := by decide +kernel
theorem dX8_getBack_35 : decode cX8_getBack 35 = .ok (.invokevirtual 90, 3) := by decide +kernel
theorem dX8_getBack_38 : decode cX8_getBack 38 = .ok (.aload_n 0, 1) := by decide +kernel
theorem dX8_getBack_39 : decode cX8_getBack 39 = .ok (.iconst 5, 1) := by decide +kernel
theorem dX8_getBack_40 : decode cX8_getBack 40 = .ok (.aload_n 0, 1) := by decide +kernel
theorem dX8_getBack_41 : decode cX8_getBack 41 = .ok (.getfield 7, 3) := by decide +kernel
theorem dX8_getBack_44 : decode cX8_getBack 44 = .ok (.irem, 1) := by decide +kernel
theorem dX8_getBack_45 : decode cX8_getBack 45 = .ok (.iload_n 2, 1) := by decide +kernel
theorem dX8_getBack_46 : decode cX8_getBack 46 = .ok (.invokevirtual 90, 3) := by decide +kernel
theorem dX8_getBack_49 : decode cX8_getBack 49 = .ok (.invokevirtual 116, 3) := by decide +kernel
theorem dX8_getBack_52 : decode cX8_getBack 52 = .ok (.iastore, 1) := by decide +kernel
theorem dX8_getBack_53 : decode cX8_getBack 53 = .ok (.iinc 2 1, 3) := by decide +kernel
theorem dX8_getBack_56 : decode cX8_getBack 56 = .ok (.goto (-43), 3) := by decide +kernel
theorem dX8_getBack_59 : decode cX8_getBack 59 = .ok (.iconst 0, 1) := by decide +kernel
theorem dX8_getBack_60 : decode cX8_getBack 60 = .ok (.istore_n 2, 1) := by decide +kernel
theorem dX8_getBack_61 : decode cX8_getBack 61 = .ok (.iload_n 2, 1) := by decide +kernel
theorem dX8_getBack_62 : decode cX8_getBack 62 = .ok (.bipush 8, 2) := by decide +kernel
theorem dX8_getBack_64 : decode cX8_getBack 64 = .ok (.if_icmp .ge 21, 3) := by decide +kernel
theorem dX8_getBack_67 : decode cX8_getBack 67 = .ok (.aload_n 0, 1) := by decide +kernel
theorem dX8_getBack_68 : decode cX8_getBack 68 = .ok (.getfield 41, 3) := by decide +kernel
theorem dX8_getBack_71 : decode cX8_getBack 71 = .ok (.iload_n 2, 1) := by decide +kernel
theorem dX8_getBack_72 : decode cX8_getBack 72 = .ok (.aload_n 0, 1) := by decide +kernel
theorem dX8_getBack_73 : decode cX8_getBack 73 = .ok (.getfield 62, 3) := by decide +kernel
theorem dX8_getBack_76 : decode cX8_getBack 76 = .ok (.iload_n 2, 1) := by decide +kernel
theorem dX8_getBack_77 : decode cX8_getBack 77 = .ok (.iaload, 1) := by decide +kernel
theorem dX8_getBack_78 : decode cX8_getBack 78 = .ok (.iastore, 1) := by decide +kernel
theorem dX8_getBack_79 : decode cX8_getBack 79 = .ok (.iinc 2 1, 3) := by decide +kernel
theorem dX8_getBack_82 : decode cX8_getBack 82 = .ok (.goto (-21), 3) := by decide +kernel
theorem dX8_getBack_85 : decode cX8_getBack 85 = .ok (.aload_n 0, 1) := by decide +kernel
theorem dX8_getBack_86 : decode cX8_getBack 86 = .ok (.bipush 8, 2) := by decide +kernel
theorem dX8_getBack_88 : decode cX8_getBack 88 = .ok (.bipush 16, 2) := by decide +kernel
theorem dX8_getBack_90 : decode cX8_getBack 90 = .ok (.invokevirtual 130, 3) := by decide +kernel
theorem dX8_getBack_93 : decode cX8_getBack 93 = .ok (.aload_n 0, 1) := by decide +kernel
theorem dX8_getBack_94 : decode cX8_getBack 94 = .ok (.getfield 120, 3) := by decide +kernel
theorem dX8_getBack_97 : decode cX8_getBack 97 = .ok (.iconst 4, 1) := by decide +kernel
theorem dX8_getBack_98 : decode cX8_getBack 98 = .ok (.if_icmp .le 5, 3) := by decide +kernel
theorem dX8_getBack_101 : decode cX8_getBack 101 = .ok (.iconst 0, 1) := by decide +kernel
theorem dX8_getBack_102 : decode cX8_getBack 102 = .ok (.ireturn, 1) := by decide +kernel
theorem dX8_getBack_103 : decode cX8_getBack 103 = .ok (.aload_n 0, 1) := by decide +kernel
theorem dX8_getBack_104 : decode cX8_getBack 104 = .ok (.iconst 0, 1) := by decide +kernel
theorem dX8_getBack_105 : decode cX8_getBack 105 = .ok (.putfield 143, 3) := by decide +kernel
theorem dX8_getBack_108 : decode cX8_getBack 108 = .ok (.iconst 0, 1) := by decide +kernel
theorem dX8_getBack_109 : decode cX8_getBack 109 = .ok (.istore_n 2, 1) := by decide +kernel
theorem dX8_getBack_110 : decode cX8_getBack 110 = .ok (.iload_n 2, 1) := by decide +kernel
theorem dX8_getBack_111 : decode cX8_getBack 111 = .ok (.bipush 125, 2) := by decide +kernel
theorem dX8_getBack_113 : decode cX8_getBack 113 = .ok (.if_icmp .ge 179, 3) := by decide +kernel
theorem dX8_getBack_116 : decode cX8_getBack 116 = .ok (.iload_n 2, 1) := by decide +kernel
theorem dX8_getBack_117 : decode cX8_getBack 117 = .ok (.bipush 25, 2) := by decide +kernel
theorem dX8_getBack_119 : decode cX8_getBack 119 = .ok (.idiv, 1) := by decide +kernel
theorem dX8_getBack_120 : decode cX8_getBack 120 = .ok (.istore_n 3, 1) := by decide +kernel
theorem dX8_getBack_121 : decode cX8_getBack 121 = .ok (.iload_n 2, 1) := by decide +kernel
theorem dX8_getBack_122 : decode cX8_getBack 122 = .ok (.iconst 5, 1) := by decide +kernel
theorem dX8_getBack_123 : decode cX8_getBack 123 = .ok (.idiv, 1) := by decide +kernel
theorem dX8_getBack_124 : decode cX8_getBack 124 = .ok (.iconst 5, 1) := by decide +kernel
theorem dX8_getBack_125 : decode cX8_getBack 125 = .ok (.irem, 1) := by decide +kernel
theorem dX8_getBack_126 : decode cX8_getBack 126 = .ok (.istore 4, 2) := by decide +kernel
theorem dX8_getBack_128 : decode cX8_getBack 128 = .ok (.iload_n 2, 1) := by decide +kernel
theorem dX8_getBack_129 : decode cX8_getBack 129 = .ok (.iconst 5, 1) := by decide +kernel
theorem dX8_getBack_130 : decode cX8_getBack 130 = .ok (.irem, 1) := by decide +kernel
theorem dX8_getBack_131 : decode cX8_getBack 131 = .ok (.istore 5, 2) := by decide +kernel
theorem dX8_getBack_133 : decode cX8_getBack 133 = .ok (.aload_n 0, 1) := by decide +kernel
theorem dX8_getBack_134 : decode cX8_getBack 134 = .ok (.iconst 2, 1) := by decide +kernel
theorem dX8_getBack_135 : decode cX8_getBack 135 = .ok (.iload_n 3, 1) := by decide +kernel
theorem dX8_getBack_136 : decode cX8_getBack 136 = .ok (.invokevirtual 90, 3) := by decide +kernel
theorem dX8_getBack_139 : decode cX8_getBack 139 = .ok (.aload_n 0, 1) := by decide +kernel
theorem dX8_getBack_140 : decode cX8_getBack 140 = .ok (.iconst 3, 1) := by decide +kernel
theorem dX8_getBack_141 : decode cX8_getBack 141 = .ok (.iload 4, 2) := by decide +kernel
theorem dX8_getBack_143 : decode cX8_getBack 143 = .ok (.invokevirtual 90, 3) := by decide +kernel
theorem dX8_getBack_146 : decode cX8_getBack 146 = .ok (.imul, 1) := by decide +kernel
theorem dX8_getBack_147 : decode cX8_getBack 147 = .ok (.aload_n 0, 1) := by decide +kernel
theorem dX8_getBack_148 : decode cX8_getBack 148 = .ok (.getfield 7, 3) := by decide +kernel
theorem dX8_getBack_151 : decode cX8_getBack 151 = .ok (.irem, 1) := by decide +kernel
theorem dX8_getBack_152 : decode cX8_getBack 152 = .ok (.aload_n 0, 1) := by decide +kernel
theorem dX8_getBack_153 : decode cX8_getBack 153 = .ok (.iconst 5, 1) := by decide +kernel
theorem dX8_getBack_154 : decode cX8_getBack 154 = .ok (.aload_n 0, 1) := by decide +kernel
theorem dX8_getBack_155 : decode cX8_getBack 155 = .ok (.getfield 7, 3) := by decide +kernel
theorem dX8_getBack_158 : decode cX8_getBack 158 = .ok (.irem, 1) := by decide +kernel
theorem dX8_getBack_159 : decode cX8_getBack 159 = .ok (.iload 5, 2) := by decide +kernel
theorem dX8_getBack_161 : decode cX8_getBack 161 = .ok (.invokevirtual 90, 3) := by decide +kernel
theorem dX8_getBack_164 : decode cX8_getBack 164 = .ok (.imul, 1) := by decide +kernel
theorem dX8_getBack_165 : decode cX8_getBack 165 = .ok (.aload_n 0, 1) := by decide +kernel
theorem dX8_getBack_166 : decode cX8_getBack 166 = .ok (.getfield 7, 3) := by decide +kernel
theorem dX8_getBack_169 : decode cX8_getBack 169 = .ok (.irem, 1) := by decide +kernel
theorem dX8_getBack_170 : decode cX8_getBack 170 = .ok (.istore 6, 2) := by decide +kernel
theorem dX8_getBack_172 : decode cX8_getBack 172 = .ok (.aload_n 0, 1) := by decide +kernel
theorem dX8_getBack_173 : decode cX8_getBack 173 = .ok (.getfield 120, 3) := by decide +kernel
theorem dX8_getBack_176 : decode cX8_getBack 176 = .ok (.ifCond .le 110, 3) := by decide +kernel
theorem dX8_getBack_179 : decode cX8_getBack 179 = .ok (.aload_n 0, 1) := by decide +kernel
theorem dX8_getBack_180 : decode cX8_getBack 180 = .ok (.iload 6, 2) := by decide +kernel
theorem dX8_getBack_182 : decode cX8_getBack 182 = .ok (.invokevirtual 146, 3) := by decide +kernel
theorem dX8_getBack_185 : decode cX8_getBack 185 = .ok (.ifCond .eq 101, 3) := by decide +kernel
theorem dX8_getBack_188 : decode cX8_getBack 188 = .ok (.iconst 0, 1) := by decide +kernel
theorem dX8_getBack_189 : decode cX8_getBack 189 = .ok (.istore 7, 2) := by decide +kernel
theorem dX8_getBack_191 : decode cX8_getBack 191 = .ok (.iload 7, 2) := by decide +kernel
theorem dX8_getBack_193 : decode cX8_getBack 193 = .ok (.aload_n 0, 1) := by decide +kernel
theorem dX8_getBack_194 : decode cX8_getBack 194 = .ok (.getfield 143, 3) := by decide +kernel
theorem dX8_getBack_197 : decode cX8_getBack 197 = .ok (.if_icmp .ge 23, 3) := by decide +kernel
theorem dX8_getBack_200 : decode cX8_getBack 200 = .ok (.aload_n 0, 1) := by decide +kernel
theorem dX8_getBack_201 : decode cX8_getBack 201 = .ok (.getfield 74, 3) := by decide +kernel
theorem dX8_getBack_204 : decode cX8_getBack 204 = .ok (.iload 7, 2) := by decide +kernel
theorem dX8_getBack_206 : decode cX8_getBack 206 = .ok (.iaload, 1) := by decide +kernel
theorem dX8_getBack_207 : decode cX8_getBack 207 = .ok (.iload 6, 2) := by decide +kernel
theorem dX8_getBack_209 : decode cX8_getBack 209 = .ok (.if_icmp .ne 5, 3) := by decide +kernel
theorem dX8_getBack_212 : decode cX8_getBack 212 = .ok (.iconst 0, 1) := by decide +kernel
theorem dX8_getBack_213 : decode cX8_getBack 213 = .ok (.ireturn, 1) := by decide +kernel
theorem dX8_getBack_214 : decode cX8_getBack 214 = .ok (.iinc 7 1, 3) := by decide +kernel
theorem dX8_getBack_217 : decode cX8_getBack 217 = .ok (.goto (-26), 3) := by decide +kernel
theorem dX8_getBack_220 : decode cX8_getBack 220 = .ok (.aload_n 0, 1) := by decide +kernel
theorem dX8_getBack_221 : decode cX8_getBack 221 = .ok (.getfield 143, 3) := by decide +kernel
theorem dX8_getBack_224 : decode cX8_getBack 224 = .ok (.aload_n 0, 1) := by decide +kernel
theorem dX8_getBack_225 : decode cX8_getBack 225 = .ok (.getfield 120, 3) := by decide +kernel
theorem dX8_getBack_228 : decode cX8_getBack 228 = .ok (.if_icmp .ne 5, 3) := by decide +kernel
theorem dX8_getBack_231 : decode cX8_getBack 231 = .ok (.iconst 0, 1) := by decide +kernel
theorem dX8_getBack_232 : decode cX8_getBack 232 = .ok (.ireturn, 1) := by decide +kernel
theorem dX8_getBack_233 : decode cX8_getBack 233 = .ok (.aload_n 0, 1) := by decide +kernel
theorem dX8_getBack_234 : decode cX8_getBack 234 = .ok (.getfield 65, 3) := by decide +kernel
theorem dX8_getBack_237 : decode cX8_getBack 237 = .ok (.aload_n 0, 1) := by decide +kernel
theorem dX8_getBack_238 : decode cX8_getBack 238 = .ok (.getfield 143, 3) := by decide +kernel
theorem dX8_getBack_241 : decode cX8_getBack 241 = .ok (.iload_n 3, 1) := by decide +kernel
theorem dX8_getBack_242 : decode cX8_getBack 242 = .ok (.iastore, 1) := by decide +kernel
theorem dX8_getBack_243 : decode cX8_getBack 243 = .ok (.aload_n 0, 1) := by decide +kernel
theorem dX8_getBack_244 : decode cX8_getBack 244 = .ok (.getfield 68, 3) := by decide +kernel
theorem dX8_getBack_247 : decode cX8_getBack 247 = .ok (.aload_n 0, 1) := by decide +kernel
theorem dX8_getBack_248 : decode cX8_getBack 248 = .ok (.getfield 143, 3) := by decide +kernel
theorem dX8_getBack_251 : decode cX8_getBack 251 = .ok (.iload 4, 2) := by decide +kernel
theorem dX8_getBack_253 : decode cX8_getBack 253 = .ok (.iastore, 1) := by decide +kernel
theorem dX8_getBack_254 : decode cX8_getBack 254 = .ok (.aload_n 0, 1) := by decide +kernel
theorem dX8_getBack_255 : decode cX8_getBack 255 = .ok (.getfield 71, 3) := by decide +kernel
theorem dX8_getBack_258 : decode cX8_getBack 258 = .ok (.aload_n 0, 1) := by decide +kernel
theorem dX8_getBack_259 : decode cX8_getBack 259 = .ok (.getfield 143, 3) := by decide +kernel
theorem dX8_getBack_262 : decode cX8_getBack 262 = .ok (.iload 5, 2) := by decide +kernel
theorem dX8_getBack_264 : decode cX8_getBack 264 = .ok (.iastore, 1) := by decide +kernel
theorem dX8_getBack_265 : decode cX8_getBack 265 = .ok (.aload_n 0, 1) := by decide +kernel
theorem dX8_getBack_266 : decode cX8_getBack 266 = .ok (.getfield 74, 3) := by decide +kernel
theorem dX8_getBack_269 : decode cX8_getBack 269 = .ok (.aload_n 0, 1) := by decide +kernel
theorem dX8_getBack_270 : decode cX8_getBack 270 = .ok (.getfield 143, 3) := by decide +kernel
theorem dX8_getBack_273 : decode cX8_getBack 273 = .ok (.iload 6, 2) := by decide +kernel
theorem dX8_getBack_275 : decode cX8_getBack 275 = .ok (.iastore, 1) := by decide +kernel
theorem dX8_getBack_276 : decode cX8_getBack 276 = .ok (.aload_n 0, 1) := by decide +kernel
theorem dX8_getBack_277 : decode cX8_getBack 277 = .ok (.dup, 1) := by decide +kernel
theorem dX8_getBack_278 : decode cX8_getBack 278 = .ok (.getfield 143, 3) := by decide +kernel
theorem dX8_getBack_281 : decode cX8_getBack 281 = .ok (.iconst 1, 1) := by decide +kernel
theorem dX8_getBack_282 : decode cX8_getBack 282 = .ok (.iadd, 1) := by decide +kernel
theorem dX8_getBack_283 : decode cX8_getBack 283 = .ok (.putfield 143, 3) := by decide +kernel
theorem dX8_getBack_286 : decode cX8_getBack 286 = .ok (.iinc 2 1, 3) := by decide +kernel
theorem dX8_getBack_289 : decode cX8_getBack 289 = .ok (.goto (-179), 3) := by decide +kernel
theorem dX8_getBack_292 : decode cX8_getBack 292 = .ok (.aload_n 0, 1) := by decide +kernel
theorem dX8_getBack_293 : decode cX8_getBack 293 = .ok (.getfield 143, 3) := by decide +kernel
theorem dX8_getBack_296 : decode cX8_getBack 296 = .ok (.aload_n 0, 1) := by decide +kernel
theorem dX8_getBack_297 : decode cX8_getBack 297 = .ok (.getfield 120, 3) := by decide +kernel
theorem dX8_getBack_300 : decode cX8_getBack 300 = .ok (.if_icmp .eq 5, 3) := by decide +kernel
theorem dX8_getBack_303 : decode cX8_getBack 303 = .ok (.iconst 0, 1) := by decide +kernel
theorem dX8_getBack_304 : decode cX8_getBack 304 = .ok (.ireturn, 1) := by decide +kernel
theorem dX8_getBack_305 : decode cX8_getBack 305 = .ok (.aload_n 0, 1) := by decide +kernel
theorem dX8_getBack_306 : decode cX8_getBack 306 = .ok (.invokevirtual 149, 3) := by decide +kernel
theorem dX8_getBack_309 : decode cX8_getBack 309 = .ok (.aload_n 0, 1) := by decide +kernel
theorem dX8_getBack_310 : decode cX8_getBack 310 = .ok (.bipush 8, 2) := by decide +kernel
theorem dX8_getBack_312 : decode cX8_getBack 312 = .ok (.invokevirtual 152, 3) := by decide +kernel
theorem dX8_getBack_315 : decode cX8_getBack 315 = .ok (.aload_n 0, 1) := by decide +kernel
theorem dX8_getBack_316 : decode cX8_getBack 316 = .ok (.getfield 62, 3) := by decide +kernel
theorem dX8_getBack_319 : decode cX8_getBack 319 = .ok (.bipush 8, 2) := by decide +kernel
theorem dX8_getBack_321 : decode cX8_getBack 321 = .ok (.iaload, 1) := by decide +kernel
theorem dX8_getBack_322 : decode cX8_getBack 322 = .ok (.if_icmp .ne 7, 3) := by decide +kernel
theorem dX8_getBack_325 : decode cX8_getBack 325 = .ok (.iconst 1, 1) := by decide +kernel
theorem dX8_getBack_326 : decode cX8_getBack 326 = .ok (.goto 4, 3) := by decide +kernel
theorem dX8_getBack_329 : decode cX8_getBack 329 = .ok (.iconst 0, 1) := by decide +kernel
theorem dX8_getBack_330 : decode cX8_getBack 330 = .ok (.ireturn, 1) := by decide +kernel
set_option maxRecDepth 20000 in
theorem ggX8_got_X8_isBox : GoodIn wsX8_got wsX8_isBox := goodIn_r _ [9, 10, 11, 8, 12] (by decide +kernel) (by decide +kernel)
set_option maxRecDepth 20000 in
theorem gX8_got_X8_isBox : GoodIn wsX8_got (va_wsS RX8 110 yX8_isBox wsX8_isBox) := goodIn_app (goodIn_of _ (by decide +kernel)) ggX8_got_X8_isBox
set_option maxRecDepth 20000 in
theorem ggX8_got_X8_in : GoodIn wsX8_got wsX8_in := goodIn_r _ [12] (by decide +kernel) (by decide +kernel)
set_option maxRecDepth 20000 in
theorem gX8_got_X8_in : GoodIn wsX8_got (va_wsS RX8 86 yX8_in wsX8_in) := goodIn_app (goodIn_of _ (by decide +kernel)) ggX8_got_X8_in
set_option maxRecDepth 20000 in
theorem ggX8_got_X8_getBack : GoodIn wsX8_got wsX8_getBack := goodIn_r _ [16, 17, 18, 19, 20, 21, 1, 22, 3, 4, 5, 23, 24, 25, 8, 26, 27, 28, 29, 30, 31, 32, 33, 34, 35, 36, 37, 38, 39, 40, 41, 42, 43, 44, 45, 46, 47, 48, 49, 50, 51, 52, 53, 54, 55, 56, 57, 58, 59, 60, 61, 62, 63, 64, 65, 66, 2, 67, 68, 69, 70, 71, 72, 73, 74, 75, 76, 77, 78, 79, 80, 81, 82, 83, 84, 85, 86, 87, 88, 89, 90, 91, 92, 93, 94, 95, 96, 97, 98, 99] (by decide +kernel) (by decide +kernel)
set_option maxRecDepth 20000 in
theorem gX8_got_X8_getBack : GoodIn wsX8_got (wsV RX8 155 RX8 yX8_getBack wsX8_getBack) := goodIn_app (goodIn_of _ (by decide +kernel)) ggX8_got_X8_getBack
theorem dX8_got_0 : decode cX8_got 0 = .ok (.iload_n 1, 1) := by decide +kernel
theorem dX8_got_1 : decode cX8_got 1 = .ok (.invokestatic 110, 3) := by decide +kernel
theorem dX8_got_4 : decode cX8_got 4 = .ok (.ifCond .eq 12, 3) := by decide +kernel
theorem dX8_got_7 : decode cX8_got 7 = .ok (.iload_n 2, 1) := by decide +kernel
theorem dX8_got_8 : decode cX8_got 8 = .ok (.iconst 0, 1) := by decide +kernel
theorem dX8_got_9 : decode cX8_got 9 = .ok (.iconst 4, 1) := by decide +kernel
theorem dX8_got_10 : decode cX8_got 10 = .ok (.invokestatic 86, 3) := by decide +kernel
theorem dX8_got_13 : decode cX8_got 13 = .ok (.ifCond .ne 5, 3) := by decide +kernel
theorem dX8_got_16 : decode cX8_got 16 = .ok (.iconst (-1), 1) := by decide +kernel
theorem dX8_got_17 : decode cX8_got 17 = .ok (.ireturn, 1) := by decide +kernel
theorem dX8_got_18 : decode cX8_got 18 = .ok (.aload_n 0, 1) := by decide +kernel
theorem dX8_got_19 : decode cX8_got 19 = .ok (.iload_n 1, 1) := by decide +kernel
theorem dX8_got_20 : decode cX8_got 20 = .ok (.invokevirtual 155, 3) := by decide +kernel
theorem dX8_got_23 : decode cX8_got 23 = .ok (.ifCond .ne 6, 3) := by decide +kernel
theorem dX8_got_26 : decode cX8_got 26 = .ok (.bipush (-2), 2) := by decide +kernel
theorem dX8_got_28 : decode cX8_got 28 = .ok (.ireturn, 1) := by decide +kernel
theorem dX8_got_29 : decode cX8_got 29 = .ok (.iload_n 2, 1) := by decide +kernel
theorem dX8_got_30 : decode cX8_got 30 = .ok (.ifCond .ne 8, 3) := by decide +kernel
theorem dX8_got_33 : decode cX8_got 33 = .ok (.aload_n 0, 1) := by decide +kernel
theorem dX8_got_34 : decode cX8_got 34 = .ok (.getfield 143, 3) := by decide +kernel
theorem dX8_got_37 : decode cX8_got 37 = .ok (.ireturn, 1) := by decide +kernel
theorem dX8_got_38 : decode cX8_got 38 = .ok (.iload_n 3, 1) := by decide +kernel
theorem dX8_got_39 : decode cX8_got 39 = .ok (.iconst 0, 1) := by decide +kernel
theorem dX8_got_40 : decode cX8_got 40 = .ok (.aload_n 0, 1) := by decide +kernel
theorem dX8_got_41 : decode cX8_got 41 = .ok (.getfield 143, 3) := by decide +kernel
theorem dX8_got_44 : decode cX8_got 44 = .ok (.iconst 1, 1) := by decide +kernel
theorem dX8_got_45 : decode cX8_got 45 = .ok (.isub, 1) := by decide +kernel
theorem dX8_got_46 : decode cX8_got 46 = .ok (.invokestatic 86, 3) := by decide +kernel
theorem dX8_got_49 : decode cX8_got 49 = .ok (.ifCond .ne 5, 3) := by decide +kernel
theorem dX8_got_52 : decode cX8_got 52 = .ok (.iconst (-1), 1) := by decide +kernel
theorem dX8_got_53 : decode cX8_got 53 = .ok (.ireturn, 1) := by decide +kernel
theorem dX8_got_54 : decode cX8_got 54 = .ok (.iload_n 2, 1) := by decide +kernel
theorem dX8_got_55 : decode cX8_got 55 = .ok (.iconst 1, 1) := by decide +kernel
theorem dX8_got_56 : decode cX8_got 56 = .ok (.if_icmp .ne 12, 3) := by decide +kernel
theorem dX8_got_59 : decode cX8_got 59 = .ok (.aload_n 0, 1) := by decide +kernel
theorem dX8_got_60 : decode cX8_got 60 = .ok (.getfield 77, 3) := by decide +kernel
theorem dX8_got_63 : decode cX8_got 63 = .ok (.iload_n 3, 1) := by decide +kernel
theorem dX8_got_64 : decode cX8_got 64 = .ok (.iaload, 1) := by decide +kernel
theorem dX8_got_65 : decode cX8_got 65 = .ok (.goto 37, 3) := by decide +kernel
theorem dX8_got_68 : decode cX8_got 68 = .ok (.iload_n 2, 1) := by decide +kernel
theorem dX8_got_69 : decode cX8_got 69 = .ok (.iconst 2, 1) := by decide +kernel
theorem dX8_got_70 : decode cX8_got 70 = .ok (.if_icmp .ne 12, 3) := by decide +kernel
theorem dX8_got_73 : decode cX8_got 73 = .ok (.aload_n 0, 1) := by decide +kernel
theorem dX8_got_74 : decode cX8_got 74 = .ok (.getfield 65, 3) := by decide +kernel
theorem dX8_got_77 : decode cX8_got 77 = .ok (.iload_n 3, 1) := by decide +kernel
theorem dX8_got_78 : decode cX8_got 78 = .ok (.iaload, 1) := by decide +kernel
theorem dX8_got_79 : decode cX8_got 79 = .ok (.goto 23, 3) := by decide +kernel
theorem dX8_got_82 : decode cX8_got 82 = .ok (.iload_n 2, 1) := by decide +kernel
theorem dX8_got_83 : decode cX8_got 83 = .ok (.iconst 3, 1) := by decide +kernel
theorem dX8_got_84 : decode cX8_got 84 = .ok (.if_icmp .ne 12, 3) := by decide +kernel
theorem dX8_got_87 : decode cX8_got 87 = .ok (.aload_n 0, 1) := by decide +kernel
theorem dX8_got_88 : decode cX8_got 88 = .ok (.getfield 68, 3) := by decide +kernel
theorem dX8_got_91 : decode cX8_got 91 = .ok (.iload_n 3, 1) := by decide +kernel
theorem dX8_got_92 : decode cX8_got 92 = .ok (.iaload, 1) := by decide +kernel
theorem dX8_got_93 : decode cX8_got 93 = .ok (.goto 9, 3) := by decide +kernel
theorem dX8_got_96 : decode cX8_got 96 = .ok (.aload_n 0, 1) := by decide +kernel
theorem dX8_got_97 : decode cX8_got 97 = .ok (.getfield 71, 3) := by decide +kernel
theorem dX8_got_100 : decode cX8_got 100 = .ok (.iload_n 3, 1) := by decide +kernel
theorem dX8_got_101 : decode cX8_got 101 = .ok (.iaload, 1) := by decide +kernel
theorem dX8_got_102 : decode cX8_got 102 = .ok (.ireturn, 1) := by decide +kernel
set_option maxRecDepth 20000 in
theorem ggX8_right_X8_isBox : GoodIn wsX8_right wsX8_isBox := goodIn_r _ [11, 12, 13, 10, 14] (by decide +kernel) (by decide +kernel)
set_option maxRecDepth 20000 in
theorem gX8_right_X8_isBox : GoodIn wsX8_right (va_wsS RX8 110 yX8_isBox wsX8_isBox) := goodIn_app (goodIn_of _ (by decide +kernel)) ggX8_right_X8_isBox
set_option maxRecDepth 20000 in
theorem ggX8_right_X8_isNumber : GoodIn wsX8_right wsX8_isNumber := goodIn_r _ [18, 5, 12, 13, 10, 14, 75, 76, 77, 78, 79, 80, 81, 82, 83, 84, 85, 86, 87, 88, 89, 90, 91, 92, 93, 94, 95, 96, 97, 98, 99, 100, 101, 102, 103] (by decide +kernel) (by decide +kernel)
set_option maxRecDepth 20000 in
theorem gX8_right_X8_isNumber : GoodIn wsX8_right (wsV RX8 94 RX8 yX8_isNumber wsX8_isNumber) := goodIn_app (goodIn_of _ (by decide +kernel)) ggX8_right_X8_isNumber
set_option maxRecDepth 20000 in
theorem ggX8_right_X8_getBack : GoodIn wsX8_right wsX8_getBack := goodIn_r _ [22, 1, 23, 5, 24, 25, 2, 26, 4, 6, 7, 27, 28, 29, 10, 30, 31, 32, 33, 34, 35, 36, 37, 38, 39, 40, 41, 42, 43, 44, 45, 46, 47, 48, 49, 50, 51, 52, 53, 54, 55, 56, 57, 58, 59, 60, 61, 62, 63, 64, 65, 66, 67, 68, 69, 70, 3, 71, 72, 73, 74, 75, 76, 77, 78, 79, 80, 81, 82, 83, 84, 85, 86, 87, 88, 89, 90, 91, 92, 93, 94, 95, 96, 97, 98, 99, 100, 101, 102, 103] (by decide +kernel) (by decide +kernel)
set_option maxRecDepth 20000 in
theorem gX8_right_X8_getBack : GoodIn wsX8_right (wsV RX8 155 RX8 yX8_getBack wsX8_getBack) := goodIn_app (goodIn_of _ (by decide +kernel)) ggX8_right_X8_getBack
set_option maxRecDepth 20000 in
theorem ggX8_right_X8_raised : GoodIn wsX8_right wsX8_raised := goodIn_r _ [30, 5, 75, 76, 77, 78, 79, 80, 81, 82, 83, 84, 85, 86, 87, 88, 89, 90, 91, 92, 93, 94, 95, 96, 97, 98, 99, 100, 101, 102, 103] (by decide +kernel) (by decide +kernel)
set_option maxRecDepth 20000 in
theorem gX8_right_X8_raised : GoodIn wsX8_right (wsV RX8 90 RX8 yX8_raised wsX8_raised) := goodIn_app (goodIn_of _ (by decide +kernel)) ggX8_right_X8_raised
set_option maxRecDepth 20000 in
theorem ggX8_right_X8_answer : GoodIn wsX8_right wsX8_answer := goodIn_r _ [34, 35, 36, 37, 38, 5, 39, 40, 41, 42, 43, 10, 44, 45, 46, 27, 28, 29, 30, 75, 76, 77, 78, 79, 80, 81, 82, 83, 84, 85, 86, 87, 88, 89, 90, 91, 92, 93, 94, 95, 96, 97, 98, 99, 100, 101, 102, 103] (by decide +kernel) (by decide +kernel)
set_option maxRecDepth 20000 in
theorem gX8_right_X8_answer : GoodIn wsX8_right (wsV RX8 116 RX8 yX8_answer wsX8_answer) := goodIn_app (goodIn_of _ (by decide +kernel)) ggX8_right_X8_answer
theorem dX8_right_0 : decode cX8_right 0 = .ok (.iload_n 1, 1) := by decide +kernel
theorem dX8_right_1 : decode cX8_right 1 = .ok (.invokestatic 110, 3) := by decide +kernel
theorem dX8_right_4 : decode cX8_right 4 = .ok (.ifCond .eq 28, 3) := by decide +kernel
theorem dX8_right_7 : decode cX8_right 7 = .ok (.aload_n 0, 1) := by decide +kernel
theorem dX8_right_8 : decode cX8_right 8 = .ok (.iload_n 2, 1) := by decide +kernel
theorem dX8_right_9 : decode cX8_right 9 = .ok (.invokevirtual 94, 3) := by decide +kernel
theorem dX8_right_12 : decode cX8_right 12 = .ok (.ifCond .eq 20, 3) := by decide +kernel
theorem dX8_right_15 : decode cX8_right 15 = .ok (.aload_n 0, 1) := by decide +kernel
theorem dX8_right_16 : decode cX8_right 16 = .ok (.iload_n 3, 1) := by decide +kernel
theorem dX8_right_17 : decode cX8_right 17 = .ok (.invokevirtual 94, 3) := by decide +kernel
theorem dX8_right_20 : decode cX8_right 20 = .ok (.ifCond .eq 12, 3) := by decide +kernel
theorem dX8_right_23 : decode cX8_right 23 = .ok (.aload_n 0, 1) := by decide +kernel
theorem dX8_right_24 : decode cX8_right 24 = .ok (.iload 4, 2) := by decide +kernel
theorem dX8_right_26 : decode cX8_right 26 = .ok (.invokevirtual 94, 3) := by decide +kernel
theorem dX8_right_29 : decode cX8_right 29 = .ok (.ifCond .ne 5, 3) := by decide +kernel
theorem dX8_right_32 : decode cX8_right 32 = .ok (.iconst (-1), 1) := by decide +kernel
theorem dX8_right_33 : decode cX8_right 33 = .ok (.ireturn, 1) := by decide +kernel
theorem dX8_right_34 : decode cX8_right 34 = .ok (.aload_n 0, 1) := by decide +kernel
theorem dX8_right_35 : decode cX8_right 35 = .ok (.iload_n 1, 1) := by decide +kernel
theorem dX8_right_36 : decode cX8_right 36 = .ok (.invokevirtual 155, 3) := by decide +kernel
theorem dX8_right_39 : decode cX8_right 39 = .ok (.istore 5, 2) := by decide +kernel
theorem dX8_right_41 : decode cX8_right 41 = .ok (.aload_n 0, 1) := by decide +kernel
theorem dX8_right_42 : decode cX8_right 42 = .ok (.dup, 1) := by decide +kernel
theorem dX8_right_43 : decode cX8_right 43 = .ok (.getfield 113, 3) := by decide +kernel
theorem dX8_right_46 : decode cX8_right 46 = .ok (.iconst 1, 1) := by decide +kernel
theorem dX8_right_47 : decode cX8_right 47 = .ok (.iadd, 1) := by decide +kernel
theorem dX8_right_48 : decode cX8_right 48 = .ok (.putfield 113, 3) := by decide +kernel
theorem dX8_right_51 : decode cX8_right 51 = .ok (.iload 5, 2) := by decide +kernel
theorem dX8_right_53 : decode cX8_right 53 = .ok (.ifCond .ne 6, 3) := by decide +kernel
theorem dX8_right_56 : decode cX8_right 56 = .ok (.bipush (-2), 2) := by decide +kernel
theorem dX8_right_58 : decode cX8_right 58 = .ok (.ireturn, 1) := by decide +kernel
theorem dX8_right_59 : decode cX8_right 59 = .ok (.iconst 0, 1) := by decide +kernel
theorem dX8_right_60 : decode cX8_right 60 = .ok (.istore 6, 2) := by decide +kernel
theorem dX8_right_62 : decode cX8_right 62 = .ok (.iconst 0, 1) := by decide +kernel
theorem dX8_right_63 : decode cX8_right 63 = .ok (.istore 7, 2) := by decide +kernel
theorem dX8_right_65 : decode cX8_right 65 = .ok (.iload 7, 2) := by decide +kernel
theorem dX8_right_67 : decode cX8_right 67 = .ok (.aload_n 0, 1) := by decide +kernel
theorem dX8_right_68 : decode cX8_right 68 = .ok (.getfield 143, 3) := by decide +kernel
theorem dX8_right_71 : decode cX8_right 71 = .ok (.if_icmp .ge 84, 3) := by decide +kernel
theorem dX8_right_74 : decode cX8_right 74 = .ok (.aload_n 0, 1) := by decide +kernel
theorem dX8_right_75 : decode cX8_right 75 = .ok (.getfield 77, 3) := by decide +kernel
theorem dX8_right_78 : decode cX8_right 78 = .ok (.iload 7, 2) := by decide +kernel
theorem dX8_right_80 : decode cX8_right 80 = .ok (.iaload, 1) := by decide +kernel
theorem dX8_right_81 : decode cX8_right 81 = .ok (.aload_n 0, 1) := by decide +kernel
theorem dX8_right_82 : decode cX8_right 82 = .ok (.iload_n 2, 1) := by decide +kernel
theorem dX8_right_83 : decode cX8_right 83 = .ok (.aload_n 0, 1) := by decide +kernel
theorem dX8_right_84 : decode cX8_right 84 = .ok (.getfield 65, 3) := by decide +kernel
theorem dX8_right_87 : decode cX8_right 87 = .ok (.iload 7, 2) := by decide +kernel
theorem dX8_right_89 : decode cX8_right 89 = .ok (.iaload, 1) := by decide +kernel
theorem dX8_right_90 : decode cX8_right 90 = .ok (.invokevirtual 90, 3) := by decide +kernel
theorem dX8_right_93 : decode cX8_right 93 = .ok (.imul, 1) := by decide +kernel
theorem dX8_right_94 : decode cX8_right 94 = .ok (.aload_n 0, 1) := by decide +kernel
theorem dX8_right_95 : decode cX8_right 95 = .ok (.getfield 7, 3) := by decide +kernel
theorem dX8_right_98 : decode cX8_right 98 = .ok (.irem, 1) := by decide +kernel
theorem dX8_right_99 : decode cX8_right 99 = .ok (.istore 8, 2) := by decide +kernel
theorem dX8_right_101 : decode cX8_right 101 = .ok (.iload 8, 2) := by decide +kernel
theorem dX8_right_103 : decode cX8_right 103 = .ok (.aload_n 0, 1) := by decide +kernel
theorem dX8_right_104 : decode cX8_right 104 = .ok (.iload_n 3, 1) := by decide +kernel
theorem dX8_right_105 : decode cX8_right 105 = .ok (.aload_n 0, 1) := by decide +kernel
theorem dX8_right_106 : decode cX8_right 106 = .ok (.getfield 68, 3) := by decide +kernel
theorem dX8_right_109 : decode cX8_right 109 = .ok (.iload 7, 2) := by decide +kernel
theorem dX8_right_111 : decode cX8_right 111 = .ok (.iaload, 1) := by decide +kernel
theorem dX8_right_112 : decode cX8_right 112 = .ok (.invokevirtual 90, 3) := by decide +kernel
theorem dX8_right_115 : decode cX8_right 115 = .ok (.imul, 1) := by decide +kernel
theorem dX8_right_116 : decode cX8_right 116 = .ok (.aload_n 0, 1) := by decide +kernel
theorem dX8_right_117 : decode cX8_right 117 = .ok (.getfield 7, 3) := by decide +kernel
theorem dX8_right_120 : decode cX8_right 120 = .ok (.irem, 1) := by decide +kernel
theorem dX8_right_121 : decode cX8_right 121 = .ok (.istore 8, 2) := by decide +kernel
theorem dX8_right_123 : decode cX8_right 123 = .ok (.iload 6, 2) := by decide +kernel
theorem dX8_right_125 : decode cX8_right 125 = .ok (.iload 8, 2) := by decide +kernel
theorem dX8_right_127 : decode cX8_right 127 = .ok (.aload_n 0, 1) := by decide +kernel
theorem dX8_right_128 : decode cX8_right 128 = .ok (.iload 4, 2) := by decide +kernel
theorem dX8_right_130 : decode cX8_right 130 = .ok (.aload_n 0, 1) := by decide +kernel
theorem dX8_right_131 : decode cX8_right 131 = .ok (.getfield 71, 3) := by decide +kernel
theorem dX8_right_134 : decode cX8_right 134 = .ok (.iload 7, 2) := by decide +kernel
theorem dX8_right_136 : decode cX8_right 136 = .ok (.iaload, 1) := by decide +kernel
theorem dX8_right_137 : decode cX8_right 137 = .ok (.invokevirtual 90, 3) := by decide +kernel
theorem dX8_right_140 : decode cX8_right 140 = .ok (.imul, 1) := by decide +kernel
theorem dX8_right_141 : decode cX8_right 141 = .ok (.iadd, 1) := by decide +kernel
theorem dX8_right_142 : decode cX8_right 142 = .ok (.aload_n 0, 1) := by decide +kernel
theorem dX8_right_143 : decode cX8_right 143 = .ok (.getfield 7, 3) := by decide +kernel
theorem dX8_right_146 : decode cX8_right 146 = .ok (.irem, 1) := by decide +kernel
theorem dX8_right_147 : decode cX8_right 147 = .ok (.istore 6, 2) := by decide +kernel
theorem dX8_right_149 : decode cX8_right 149 = .ok (.iinc 7 1, 3) := by decide +kernel
theorem dX8_right_152 : decode cX8_right 152 = .ok (.goto (-87), 3) := by decide +kernel
theorem dX8_right_155 : decode cX8_right 155 = .ok (.iload 6, 2) := by decide +kernel
theorem dX8_right_157 : decode cX8_right 157 = .ok (.aload_n 0, 1) := by decide +kernel
theorem dX8_right_158 : decode cX8_right 158 = .ok (.iload_n 1, 1) := by decide +kernel
theorem dX8_right_159 : decode cX8_right 159 = .ok (.iload_n 2, 1) := by decide +kernel
theorem dX8_right_160 : decode cX8_right 160 = .ok (.iload_n 3, 1) := by decide +kernel
theorem dX8_right_161 : decode cX8_right 161 = .ok (.iload 4, 2) := by decide +kernel
theorem dX8_right_163 : decode cX8_right 163 = .ok (.invokevirtual 116, 3) := by decide +kernel
theorem dX8_right_166 : decode cX8_right 166 = .ok (.if_icmp .ne 7, 3) := by decide +kernel
theorem dX8_right_169 : decode cX8_right 169 = .ok (.iconst 1, 1) := by decide +kernel
theorem dX8_right_170 : decode cX8_right 170 = .ok (.goto 4, 3) := by decide +kernel
theorem dX8_right_173 : decode cX8_right 173 = .ok (.iconst 0, 1) := by decide +kernel
theorem dX8_right_174 : decode cX8_right 174 = .ok (.ireturn, 1) := by decide +kernel
set_option maxRecDepth 20000 in
theorem ggX8_zeros_X8_isBox : GoodIn wsX8_zeros wsX8_isBox := goodIn_r _ [5, 6, 7, 4, 8] (by decide +kernel) (by decide +kernel)
set_option maxRecDepth 20000 in
theorem gX8_zeros_X8_isBox : GoodIn wsX8_zeros (va_wsS RX8 110 yX8_isBox wsX8_isBox) := goodIn_app (goodIn_of _ (by decide +kernel)) ggX8_zeros_X8_isBox
set_option maxRecDepth 20000 in
theorem ggX8_zeros_X8_answer : GoodIn wsX8_zeros wsX8_answer := goodIn_r _ [12, 13, 14, 15, 16, 1, 17, 18, 19, 20, 21, 4, 22, 23, 24, 25, 26, 27, 28, 29, 30, 31, 32, 33, 34, 35, 36, 37, 38, 39, 40, 41, 42, 43, 44, 45, 46, 47, 48, 49, 50, 51, 52, 53, 54, 55, 56, 57] (by decide +kernel) (by decide +kernel)
set_option maxRecDepth 20000 in
theorem gX8_zeros_X8_answer : GoodIn wsX8_zeros (wsV RX8 116 RX8 yX8_answer wsX8_answer) := goodIn_app (goodIn_of _ (by decide +kernel)) ggX8_zeros_X8_answer
theorem dX8_zeros_0 : decode cX8_zeros 0 = .ok (.iload_n 1, 1) := by decide +kernel
theorem dX8_zeros_1 : decode cX8_zeros 1 = .ok (.invokestatic 110, 3) := by decide +kernel
theorem dX8_zeros_4 : decode cX8_zeros 4 = .ok (.ifCond .ne 5, 3) := by decide +kernel
theorem dX8_zeros_7 : decode cX8_zeros 7 = .ok (.iconst (-1), 1) := by decide +kernel
theorem dX8_zeros_8 : decode cX8_zeros 8 = .ok (.ireturn, 1) := by decide +kernel
theorem dX8_zeros_9 : decode cX8_zeros 9 = .ok (.aload_n 0, 1) := by decide +kernel
theorem dX8_zeros_10 : decode cX8_zeros 10 = .ok (.getfield 7, 3) := by decide +kernel
theorem dX8_zeros_13 : decode cX8_zeros 13 = .ok (.bipush 23, 2) := by decide +kernel
theorem dX8_zeros_15 : decode cX8_zeros 15 = .ok (.if_icmp .le 6, 3) := by decide +kernel
theorem dX8_zeros_18 : decode cX8_zeros 18 = .ok (.bipush (-2), 2) := by decide +kernel
theorem dX8_zeros_20 : decode cX8_zeros 20 = .ok (.ireturn, 1) := by decide +kernel
theorem dX8_zeros_21 : decode cX8_zeros 21 = .ok (.iconst 0, 1) := by decide +kernel
theorem dX8_zeros_22 : decode cX8_zeros 22 = .ok (.istore_n 2, 1) := by decide +kernel
theorem dX8_zeros_23 : decode cX8_zeros 23 = .ok (.iconst 0, 1) := by decide +kernel
theorem dX8_zeros_24 : decode cX8_zeros 24 = .ok (.istore_n 3, 1) := by decide +kernel
theorem dX8_zeros_25 : decode cX8_zeros 25 = .ok (.iload_n 3, 1) := by decide +kernel
theorem dX8_zeros_26 : decode cX8_zeros 26 = .ok (.aload_n 0, 1) := by decide +kernel
theorem dX8_zeros_27 : decode cX8_zeros 27 = .ok (.getfield 7, 3) := by decide +kernel
theorem dX8_zeros_30 : decode cX8_zeros 30 = .ok (.aload_n 0, 1) := by decide +kernel
theorem dX8_zeros_31 : decode cX8_zeros 31 = .ok (.getfield 7, 3) := by decide +kernel
theorem dX8_zeros_34 : decode cX8_zeros 34 = .ok (.imul, 1) := by decide +kernel
theorem dX8_zeros_35 : decode cX8_zeros 35 = .ok (.aload_n 0, 1) := by decide +kernel
theorem dX8_zeros_36 : decode cX8_zeros 36 = .ok (.getfield 7, 3) := by decide +kernel
theorem dX8_zeros_39 : decode cX8_zeros 39 = .ok (.imul, 1) := by decide +kernel
theorem dX8_zeros_40 : decode cX8_zeros 40 = .ok (.if_icmp .ge 53, 3) := by decide +kernel
theorem dX8_zeros_43 : decode cX8_zeros 43 = .ok (.iload_n 2, 1) := by decide +kernel
theorem dX8_zeros_44 : decode cX8_zeros 44 = .ok (.aload_n 0, 1) := by decide +kernel
theorem dX8_zeros_45 : decode cX8_zeros 45 = .ok (.iload_n 1, 1) := by decide +kernel
theorem dX8_zeros_46 : decode cX8_zeros 46 = .ok (.iload_n 3, 1) := by decide +kernel
theorem dX8_zeros_47 : decode cX8_zeros 47 = .ok (.aload_n 0, 1) := by decide +kernel
theorem dX8_zeros_48 : decode cX8_zeros 48 = .ok (.getfield 7, 3) := by decide +kernel
theorem dX8_zeros_51 : decode cX8_zeros 51 = .ok (.idiv, 1) := by decide +kernel
theorem dX8_zeros_52 : decode cX8_zeros 52 = .ok (.aload_n 0, 1) := by decide +kernel
theorem dX8_zeros_53 : decode cX8_zeros 53 = .ok (.getfield 7, 3) := by decide +kernel
theorem dX8_zeros_56 : decode cX8_zeros 56 = .ok (.idiv, 1) := by decide +kernel
theorem dX8_zeros_57 : decode cX8_zeros 57 = .ok (.iload_n 3, 1) := by decide +kernel
theorem dX8_zeros_58 : decode cX8_zeros 58 = .ok (.aload_n 0, 1) := by decide +kernel
theorem dX8_zeros_59 : decode cX8_zeros 59 = .ok (.getfield 7, 3) := by decide +kernel
theorem dX8_zeros_62 : decode cX8_zeros 62 = .ok (.idiv, 1) := by decide +kernel
theorem dX8_zeros_63 : decode cX8_zeros 63 = .ok (.aload_n 0, 1) := by decide +kernel
theorem dX8_zeros_64 : decode cX8_zeros 64 = .ok (.getfield 7, 3) := by decide +kernel
theorem dX8_zeros_67 : decode cX8_zeros 67 = .ok (.irem, 1) := by decide +kernel
theorem dX8_zeros_68 : decode cX8_zeros 68 = .ok (.iload_n 3, 1) := by decide +kernel
theorem dX8_zeros_69 : decode cX8_zeros 69 = .ok (.aload_n 0, 1) := by decide +kernel
theorem dX8_zeros_70 : decode cX8_zeros 70 = .ok (.getfield 7, 3) := by decide +kernel
theorem dX8_zeros_73 : decode cX8_zeros 73 = .ok (.irem, 1) := by decide +kernel
theorem dX8_zeros_74 : decode cX8_zeros 74 = .ok (.invokevirtual 116, 3) := by decide +kernel
theorem dX8_zeros_77 : decode cX8_zeros 77 = .ok (.ifCond .ne 7, 3) := by decide +kernel
theorem dX8_zeros_80 : decode cX8_zeros 80 = .ok (.iconst 1, 1) := by decide +kernel
theorem dX8_zeros_81 : decode cX8_zeros 81 = .ok (.goto 4, 3) := by decide +kernel
theorem dX8_zeros_84 : decode cX8_zeros 84 = .ok (.iconst 0, 1) := by decide +kernel
theorem dX8_zeros_85 : decode cX8_zeros 85 = .ok (.iadd, 1) := by decide +kernel
theorem dX8_zeros_86 : decode cX8_zeros 86 = .ok (.istore_n 2, 1) := by decide +kernel
theorem dX8_zeros_87 : decode cX8_zeros 87 = .ok (.iinc 3 1, 3) := by decide +kernel
theorem dX8_zeros_90 : decode cX8_zeros 90 = .ok (.goto (-65), 3) := by decide +kernel
theorem dX8_zeros_93 : decode cX8_zeros 93 = .ok (.iload_n 2, 1) := by decide +kernel
theorem dX8_zeros_94 : decode cX8_zeros 94 = .ok (.ireturn, 1) := by decide +kernel
set_option maxRecDepth 20000 in
theorem ggX8_meet_X8_answer : GoodIn wsX8_meet wsX8_answer := goodIn_r _ [6, 7, 8, 9, 10, 1, 11, 12, 13, 14, 15, 5, 16, 17, 18, 19, 20, 21, 22, 23, 24, 25, 26, 27, 28, 29, 30, 31, 32, 33, 34, 35, 36, 37, 38, 39, 40, 41, 42, 43, 44, 45, 46, 47, 48, 49, 50, 51] (by decide +kernel) (by decide +kernel)
set_option maxRecDepth 20000 in
theorem gX8_meet_X8_answer : GoodIn wsX8_meet (wsV RX8 116 RX8 yX8_answer wsX8_answer) := goodIn_app (goodIn_of _ (by decide +kernel)) ggX8_meet_X8_answer
theorem dX8_meet_0 : decode cX8_meet 0 = .ok (.aload_n 0, 1) := by decide +kernel
theorem dX8_meet_1 : decode cX8_meet 1 = .ok (.getfield 7, 3) := by decide +kernel
theorem dX8_meet_4 : decode cX8_meet 4 = .ok (.bipush 23, 2) := by decide +kernel
theorem dX8_meet_6 : decode cX8_meet 6 = .ok (.if_icmp .le 6, 3) := by decide +kernel
theorem dX8_meet_9 : decode cX8_meet 9 = .ok (.bipush (-2), 2) := by decide +kernel
theorem dX8_meet_11 : decode cX8_meet 11 = .ok (.ireturn, 1) := by decide +kernel
theorem dX8_meet_12 : decode cX8_meet 12 = .ok (.iconst 0, 1) := by decide +kernel
theorem dX8_meet_13 : decode cX8_meet 13 = .ok (.istore_n 1, 1) := by decide +kernel
theorem dX8_meet_14 : decode cX8_meet 14 = .ok (.iconst 0, 1) := by decide +kernel
theorem dX8_meet_15 : decode cX8_meet 15 = .ok (.istore_n 2, 1) := by decide +kernel
theorem dX8_meet_16 : decode cX8_meet 16 = .ok (.iload_n 2, 1) := by decide +kernel
theorem dX8_meet_17 : decode cX8_meet 17 = .ok (.aload_n 0, 1) := by decide +kernel
theorem dX8_meet_18 : decode cX8_meet 18 = .ok (.getfield 7, 3) := by decide +kernel
theorem dX8_meet_21 : decode cX8_meet 21 = .ok (.aload_n 0, 1) := by decide +kernel
theorem dX8_meet_22 : decode cX8_meet 22 = .ok (.getfield 7, 3) := by decide +kernel
theorem dX8_meet_25 : decode cX8_meet 25 = .ok (.imul, 1) := by decide +kernel
theorem dX8_meet_26 : decode cX8_meet 26 = .ok (.aload_n 0, 1) := by decide +kernel
theorem dX8_meet_27 : decode cX8_meet 27 = .ok (.getfield 7, 3) := by decide +kernel
theorem dX8_meet_30 : decode cX8_meet 30 = .ok (.imul, 1) := by decide +kernel
theorem dX8_meet_31 : decode cX8_meet 31 = .ok (.if_icmp .ge 86, 3) := by decide +kernel
theorem dX8_meet_34 : decode cX8_meet 34 = .ok (.iload_n 1, 1) := by decide +kernel
theorem dX8_meet_35 : decode cX8_meet 35 = .ok (.aload_n 0, 1) := by decide +kernel
theorem dX8_meet_36 : decode cX8_meet 36 = .ok (.iconst 0, 1) := by decide +kernel
theorem dX8_meet_37 : decode cX8_meet 37 = .ok (.iload_n 2, 1) := by decide +kernel
theorem dX8_meet_38 : decode cX8_meet 38 = .ok (.aload_n 0, 1) := by decide +kernel
theorem dX8_meet_39 : decode cX8_meet 39 = .ok (.getfield 7, 3) := by decide +kernel
theorem dX8_meet_42 : decode cX8_meet 42 = .ok (.idiv, 1) := by decide +kernel
theorem dX8_meet_43 : decode cX8_meet 43 = .ok (.aload_n 0, 1) := by decide +kernel
theorem dX8_meet_44 : decode cX8_meet 44 = .ok (.getfield 7, 3) := by decide +kernel
theorem dX8_meet_47 : decode cX8_meet 47 = .ok (.idiv, 1) := by decide +kernel
theorem dX8_meet_48 : decode cX8_meet 48 = .ok (.iload_n 2, 1) := by decide +kernel
theorem dX8_meet_49 : decode cX8_meet 49 = .ok (.aload_n 0, 1) := by decide +kernel
theorem dX8_meet_50 : decode cX8_meet 50 = .ok (.getfield 7, 3) := by decide +kernel
theorem dX8_meet_53 : decode cX8_meet 53 = .ok (.idiv, 1) := by decide +kernel
theorem dX8_meet_54 : decode cX8_meet 54 = .ok (.aload_n 0, 1) := by decide +kernel
theorem dX8_meet_55 : decode cX8_meet 55 = .ok (.getfield 7, 3) := by decide +kernel
theorem dX8_meet_58 : decode cX8_meet 58 = .ok (.irem, 1) := by decide +kernel
theorem dX8_meet_59 : decode cX8_meet 59 = .ok (.iload_n 2, 1) := by decide +kernel
theorem dX8_meet_60 : decode cX8_meet 60 = .ok (.aload_n 0, 1) := by decide +kernel
theorem dX8_meet_61 : decode cX8_meet 61 = .ok (.getfield 7, 3) := by decide +kernel
theorem dX8_meet_64 : decode cX8_meet 64 = .ok (.irem, 1) := by decide +kernel
theorem dX8_meet_65 : decode cX8_meet 65 = .ok (.invokevirtual 116, 3) := by decide +kernel
theorem dX8_meet_68 : decode cX8_meet 68 = .ok (.aload_n 0, 1) := by decide +kernel
theorem dX8_meet_69 : decode cX8_meet 69 = .ok (.iconst 1, 1) := by decide +kernel
theorem dX8_meet_70 : decode cX8_meet 70 = .ok (.iload_n 2, 1) := by decide +kernel
theorem dX8_meet_71 : decode cX8_meet 71 = .ok (.aload_n 0, 1) := by decide +kernel
theorem dX8_meet_72 : decode cX8_meet 72 = .ok (.getfield 7, 3) := by decide +kernel
theorem dX8_meet_75 : decode cX8_meet 75 = .ok (.idiv, 1) := by decide +kernel
theorem dX8_meet_76 : decode cX8_meet 76 = .ok (.aload_n 0, 1) := by decide +kernel
theorem dX8_meet_77 : decode cX8_meet 77 = .ok (.getfield 7, 3) := by decide +kernel
theorem dX8_meet_80 : decode cX8_meet 80 = .ok (.idiv, 1) := by decide +kernel
theorem dX8_meet_81 : decode cX8_meet 81 = .ok (.iload_n 2, 1) := by decide +kernel
theorem dX8_meet_82 : decode cX8_meet 82 = .ok (.aload_n 0, 1) := by decide +kernel
theorem dX8_meet_83 : decode cX8_meet 83 = .ok (.getfield 7, 3) := by decide +kernel
theorem dX8_meet_86 : decode cX8_meet 86 = .ok (.idiv, 1) := by decide +kernel
theorem dX8_meet_87 : decode cX8_meet 87 = .ok (.aload_n 0, 1) := by decide +kernel
theorem dX8_meet_88 : decode cX8_meet 88 = .ok (.getfield 7, 3) := by decide +kernel
theorem dX8_meet_91 : decode cX8_meet 91 = .ok (.irem, 1) := by decide +kernel
theorem dX8_meet_92 : decode cX8_meet 92 = .ok (.iload_n 2, 1) := by decide +kernel
theorem dX8_meet_93 : decode cX8_meet 93 = .ok (.aload_n 0, 1) := by decide +kernel
theorem dX8_meet_94 : decode cX8_meet 94 = .ok (.getfield 7, 3) := by decide +kernel
theorem dX8_meet_97 : decode cX8_meet 97 = .ok (.irem, 1) := by decide +kernel
theorem dX8_meet_98 : decode cX8_meet 98 = .ok (.invokevirtual 116, 3) := by decide +kernel
theorem dX8_meet_101 : decode cX8_meet 101 = .ok (.if_icmp .ne 7, 3) := by decide +kernel
theorem dX8_meet_104 : decode cX8_meet 104 = .ok (.iconst 1, 1) := by decide +kernel
theorem dX8_meet_105 : decode cX8_meet 105 = .ok (.goto 4, 3) := by decide +kernel
theorem dX8_meet_108 : decode cX8_meet 108 = .ok (.iconst 0, 1) := by decide +kernel
theorem dX8_meet_109 : decode cX8_meet 109 = .ok (.iadd, 1) := by decide +kernel
theorem dX8_meet_110 : decode cX8_meet 110 = .ok (.istore_n 1, 1) := by decide +kernel
theorem dX8_meet_111 : decode cX8_meet 111 = .ok (.iinc 2 1, 3) := by decide +kernel
theorem dX8_meet_114 : decode cX8_meet 114 = .ok (.goto (-98), 3) := by decide +kernel
theorem dX8_meet_117 : decode cX8_meet 117 = .ok (.iload_n 1, 1) := by decide +kernel
theorem dX8_meet_118 : decode cX8_meet 118 = .ok (.ireturn, 1) := by decide +kernel
theorem dX8_count_0 : decode cX8_count 0 = .ok (.iload_n 1, 1) := by decide +kernel
theorem dX8_count_1 : decode cX8_count 1 = .ok (.tableswitch 59 0 4 #[35, 40, 40, 49, 54], 35) := by decide +kernel
theorem dX8_count_36 : decode cX8_count 36 = .ok (.aload_n 0, 1) := by decide +kernel
theorem dX8_count_37 : decode cX8_count 37 = .ok (.getfield 7, 3) := by decide +kernel
theorem dX8_count_40 : decode cX8_count 40 = .ok (.ireturn, 1) := by decide +kernel
theorem dX8_count_41 : decode cX8_count 41 = .ok (.aload_n 0, 1) := by decide +kernel
theorem dX8_count_42 : decode cX8_count 42 = .ok (.getfield 23, 3) := by decide +kernel
theorem dX8_count_45 : decode cX8_count 45 = .ok (.iload_n 1, 1) := by decide +kernel
theorem dX8_count_46 : decode cX8_count 46 = .ok (.iconst 1, 1) := by decide +kernel
theorem dX8_count_47 : decode cX8_count 47 = .ok (.isub, 1) := by decide +kernel
theorem dX8_count_48 : decode cX8_count 48 = .ok (.iaload, 1) := by decide +kernel
theorem dX8_count_49 : decode cX8_count 49 = .ok (.ireturn, 1) := by decide +kernel
theorem dX8_count_50 : decode cX8_count 50 = .ok (.aload_n 0, 1) := by decide +kernel
theorem dX8_count_51 : decode cX8_count 51 = .ok (.getfield 83, 3) := by decide +kernel
theorem dX8_count_54 : decode cX8_count 54 = .ok (.ireturn, 1) := by decide +kernel
theorem dX8_count_55 : decode cX8_count 55 = .ok (.aload_n 0, 1) := by decide +kernel
theorem dX8_count_56 : decode cX8_count 56 = .ok (.getfield 113, 3) := by decide +kernel
theorem dX8_count_59 : decode cX8_count 59 = .ok (.ireturn, 1) := by decide +kernel
theorem dX8_count_60 : decode cX8_count 60 = .ok (.iconst (-1), 1) := by decide +kernel
theorem dX8_count_61 : decode cX8_count 61 = .ok (.ireturn, 1) := by decide +kernel
theorem dX8_trace_0 : decode cX8_trace 0 = .ok (.aload_n 0, 1) := by decide +kernel
theorem dX8_trace_1 : decode cX8_trace 1 = .ok (.getfield 98, 3) := by decide +kernel
theorem dX8_trace_4 : decode cX8_trace 4 = .ok (.lreturn, 1) := by decide +kernel
theorem dJ9_min_7cf53_0 : decode cJ9_min_7cf53 0 = .ok (.iload_n 0, 1) := by decide +kernel
theorem dJ9_min_7cf53_1 : decode cJ9_min_7cf53 1 = .ok (.iload_n 1, 1) := by decide +kernel
theorem dJ9_min_7cf53_2 : decode cJ9_min_7cf53 2 = .ok (.if_icmp .gt 7, 3) := by decide +kernel
theorem dJ9_min_7cf53_5 : decode cJ9_min_7cf53 5 = .ok (.iload_n 0, 1) := by decide +kernel
theorem dJ9_min_7cf53_6 : decode cJ9_min_7cf53 6 = .ok (.goto 4, 3) := by decide +kernel
theorem dJ9_min_7cf53_9 : decode cJ9_min_7cf53 9 = .ok (.iload_n 1, 1) := by decide +kernel
theorem dJ9_min_7cf53_10 : decode cJ9_min_7cf53 10 = .ok (.ireturn, 1) := by decide +kernel
end
section
/-! ints of the machine as integers: iI z; arrays of ints as functions of integers: aI f; uI: one place changed -/
def iI (z : Int) : Int32 := Int32.ofInt z
theorem iI_toInt {z : Int} (h1 : -2147483648 ≤ z) (h2 : z < 2147483648) : (iI z).toInt = z := Int32.toInt_ofInt_of_le (by omega) (by omega)
theorem iI_ex (x : Int32) : ∃ z : Int, x = iI z ∧ -2147483648 ≤ z ∧ z < 2147483648 := ⟨x.toInt, (Int32.ofInt_toInt x).symm, by have := x.le_toInt; omega, by have := x.toInt_lt; omega⟩
theorem iI_add (a b : Int) : iI a + iI b = iI (a + b) := (Int32.ofInt_add a b).symm
theorem iI_sub (a b : Int) : iI a - iI b = iI (a - b) := (Int32.ofInt_sub a b).symm
theorem iI_mul (a b : Int) : iI a * iI b = iI (a * b) := (Int32.ofInt_mul a b).symm
theorem iI_nat (n : Nat) : Int32.ofNat n = iI n := Int32.ofInt_eq_ofNat.symm
theorem iI_le {a b : Int} (h : -2147483648 ≤ a ∧ a < 2147483648 ∧ -2147483648 ≤ b ∧ b < 2147483648) : iI a ≤ iI b ↔ a ≤ b := by
  rw [Int32.le_iff_toInt_le, iI_toInt h.1 h.2.1, iI_toInt h.2.2.1 h.2.2.2]
theorem iI_lt {a b : Int} (h : -2147483648 ≤ a ∧ a < 2147483648 ∧ -2147483648 ≤ b ∧ b < 2147483648) : iI a < iI b ↔ a < b := by
  rw [Int32.lt_iff_toInt_lt, iI_toInt h.1 h.2.1, iI_toInt h.2.2.1 h.2.2.2]
theorem iI_eq {a b : Int} (h : -2147483648 ≤ a ∧ a < 2147483648 ∧ -2147483648 ≤ b ∧ b < 2147483648) : iI a = iI b ↔ a = b := by
  rw [← Int32.toInt_inj, iI_toInt h.1 h.2.1, iI_toInt h.2.2.1 h.2.2.2]
theorem iI_div {a d : Int} (h : 0 ≤ a ∧ a < 2147483648 ∧ 0 < d ∧ d < 2147483648) : iI a / iI d = iI (a / d) := by
  have e1 : Int32.minValue.toInt = -2147483648 := by decide
  have e2 : Int32.maxValue.toInt = 2147483647 := by decide
  have := Int32.ofInt_tdiv (a := a) (b := d) (by omega) (by omega) (by omega) (by omega)
  rw [Int.tdiv_eq_ediv_of_nonneg h.1] at this
  exact this.symm
theorem iI_rem {a d : Int} (h : 0 ≤ a ∧ a < 2147483648 ∧ 0 < d ∧ d < 2147483648) : iI a - iI a / iI d * iI d = iI (a % d) := by
  rw [iI_div h, iI_mul, iI_sub, Int.emod_def, Int.mul_comm]
theorem iI_ne0 {d : Int} (h : 0 < d ∧ d < 2147483648) : ¬ iI d = 0 := by
  have e : (0 : Int32) = iI 0 := rfl
  rw [e, iI_eq (by omega)]; omega
theorem iI_clamp {z : Int} (h : 0 ≤ z ∧ z < 2147483648) : (iI z).toNatClampNeg = z.toNat := Int32.toNatClampNeg_ofInt_of_le (by omega) (by omega)
theorem iI_in {z : Int} {n : Nat} (h : 0 ≤ z ∧ z < n ∧ n < 2147483648) : vp_in (iI z) n := by
  have e : (0 : Int32) = iI 0 := rfl
  unfold vp_in
  rw [e, iI_lt (by omega), iI_clamp (by omega)]
  omega
theorem iI_shl : ∀ n, n < 32 → ((nI n &&& 31).toBitVec.smod 32).toNat = n := by decide
theorem iI_shr {z k : Int} (h : 0 ≤ z ∧ z < 2147483648 ∧ 0 ≤ k ∧ k < 32) : iI z >>> (iI k &&& 31) = iI (z / 2 ^ k.toNat) := by
  obtain ⟨n, rfl⟩ := Int.eq_ofNat_of_zero_le h.1
  obtain ⟨j, rfl⟩ := Int.eq_ofNat_of_zero_le h.2.2.1
  rw [← iI_nat, ← iI_nat]
  have := pk_shrN (n := n) (by omega) (nI j &&& 31) j (iI_shl j (by omega))
  refine this.trans ?_
  show Int32.ofNat _ = _
  rw [iI_nat]
  congr 1
theorem iI_and1 {z : Int} (h : 0 ≤ z ∧ z < 2147483648) : iI z &&& iI 1 = iI (z % 2) := by
  obtain ⟨n, rfl⟩ := Int.eq_ofNat_of_zero_le h.1
  rw [← iI_nat]
  have := pk_andN (n := n) (by omega) (m := iI 1) 1 (by decide)
  refine this.trans ?_
  show Int32.ofNat _ = _
  rw [iI_nat]
  congr 1
def bI (P : Prop) [Decidable P] : Int := if P then 1 else 0
theorem bI_t {P : Prop} [Decidable P] (h : P) : bI P = 1 := if_pos h
theorem bI_f {P : Prop} [Decidable P] (h : ¬ P) : bI P = 0 := if_neg h
theorem bI_nar (P : Prop) [Decidable P] : narrow .boolean (.int (iI (bI P))) = .int (iI (bI P)) := by
  by_cases h : P
  · rw [bI_t h]; decide
  · rw [bI_f h]; decide
def aI (f : Int → Int) : Nat → Int32 := fun i => iI (f i)
def uI (f : Int → Int) (k v : Int) : Int → Int := fun j => if j = k then v else f j
theorem uI_s {f : Int → Int} {k v : Int} : uI f k v k = v := if_pos rfl
theorem uI_n {f : Int → Int} {k v j : Int} (h : j ≠ k) : uI f k v j = f j := if_neg h
theorem aI_upd (f : Int → Int) {k : Int} (v : Int) (h : 0 ≤ k) : upd (aI f) k.toNat (iI v) = aI (uI f k v) := by
  funext j
  unfold upd aI uI
  by_cases hj : j = k.toNat
  · rw [if_pos hj, if_pos (by omega)]
  · rw [if_neg hj, if_neg (by omega)]
def cpI (f g : Int → Int) (n : Int) : Int → Int := fun j => if j < n then f j else g j
theorem aI_cpy (f g : Int → Int) (n : Nat) : va_cpy (aI f) (aI g) 0 0 n = aI (cpI f g n) := by
  funext j
  unfold va_cpy aI cpI
  by_cases hj : j < n
  · rw [if_pos (by omega), if_pos (by omega)]
    congr 2
    omega
  · rw [if_neg (by omega), if_neg (by omega)]
theorem aI_0 : (fun _ : Nat => (0 : Int32)) = aI (fun _ => 0) := rfl
end
section
/-! one-instruction rows over integers -/
section XR
variable {p : Program} {l : Launch} {e : Env} {R : Room} {s : State} {m : MethodId} {args : Array Value} {below : List Frame} {meth : Method} {c : Code} {H : Heap} {locs : List Loc} {cells slots : Nat} {Q : State → Prop}
variable {cc : ByteArray} {pc nL : Nat} {ls : Array Slot} {rest : List Value} {Ts : List Cond} {own : String} {lv lv' : List (Nat × Value)}
theorem x_ic (S : CallFix p m c cc nL s args Ts own) {n : Int} (hdg : decode cc pc = .ok (.iconst n, 1)) (k : W p l e R s m args below meth c H locs cells slots Q (F0 m (pc + 1) ls (.int (iI n) :: rest))) : W p l e R s m args below meth c H locs cells slots Q (F0 m pc ls rest) := lv_iconst S.1 S.2.1 hdg rfl k
theorem x_bi (S : CallFix p m c cc nL s args Ts own) {n : Int} (hdg : decode cc pc = .ok (.bipush n, 2)) (hv : (Int8.ofInt n).toInt32 = iI n) (k : W p l e R s m args below meth c H locs cells slots Q (F0 m (pc + 2) ls (.int (iI n) :: rest))) : W p l e R s m args below meth c H locs cells slots Q (F0 m pc ls rest) := lv_bipush S.1 S.2.1 hdg hv k
theorem x_si (S : CallFix p m c cc nL s args Ts own) {n : Int} (hdg : decode cc pc = .ok (.sipush n, 3)) (hv : (Int16.ofInt n).toInt32 = iI n) (k : W p l e R s m args below meth c H locs cells slots Q (F0 m (pc + 3) ls (.int (iI n) :: rest))) : W p l e R s m args below meth c H locs cells slots Q (F0 m pc ls rest) := lv_sipush S.1 S.2.1 hdg hv k
theorem x_ldc (S : CallFix p m c cc nL s args Ts own) {index : Nat} {n : Int} (hm : Cond.constant own index (iI n) ∈ Ts) (hdg : decode cc pc = .ok (.ldc index, 2)) (k : W p l e R s m args below meth c H locs cells slots Q (F0 m (pc + 2) ls (.int (iI n) :: rest))) : W p l e R s m args below meth c H locs cells slots Q (F0 m pc ls rest) := lv_ldc S.1 S.2.1 S.2.2.2.1 (S.2.2.2.2 _ hm) hdg k
theorem x_iln (S : CallFix p m c cc nL s args Ts own) {k : Fin 4} {i : Nat} {x : Int32} (hdg : decode cc pc = .ok (.iload_n k, 1)) (hi : (k : Nat) = i) (hl : lv_has ls nL lv) (q : Nat) (hq : lv[q]? = some (i, .int x)) (kk : W p l e R s m args below meth c H locs cells slots Q (F0 m (pc + 1) ls (.int x :: rest))) : W p l e R s m args below meth c H locs cells slots Q (F0 m pc ls rest) := lv_iload_n S.1 S.2.1 hdg hi (lv_at hl q hq) kk
theorem x_il (S : CallFix p m c cc nL s args Ts own) {i : Nat} {x : Int32} (hdg : decode cc pc = .ok (.iload i, 2)) (hl : lv_has ls nL lv) (q : Nat) (hq : lv[q]? = some (i, .int x)) (kk : W p l e R s m args below meth c H locs cells slots Q (F0 m (pc + 2) ls (.int x :: rest))) : W p l e R s m args below meth c H locs cells slots Q (F0 m pc ls rest) := lv_iload S.1 S.2.1 hdg (lv_at hl q hq) kk
theorem x_aln (S : CallFix p m c cc nL s args Ts own) {k : Fin 4} {i : Nat} {x : Nat} (hdg : decode cc pc = .ok (.aload_n k, 1)) (hi : (k : Nat) = i) (hl : lv_has ls nL lv) (q : Nat) (hq : lv[q]? = some (i, .ref x)) (kk : W p l e R s m args below meth c H locs cells slots Q (F0 m (pc + 1) ls (.ref x :: rest))) : W p l e R s m args below meth c H locs cells slots Q (F0 m pc ls rest) := lv_aload_n S.1 S.2.1 hdg hi (lv_at hl q hq) kk
theorem x_al (S : CallFix p m c cc nL s args Ts own) {i : Nat} {x : Nat} (hdg : decode cc pc = .ok (.aload i, 2)) (hl : lv_has ls nL lv) (q : Nat) (hq : lv[q]? = some (i, .ref x)) (kk : W p l e R s m args below meth c H locs cells slots Q (F0 m (pc + 2) ls (.ref x :: rest))) : W p l e R s m args below meth c H locs cells slots Q (F0 m pc ls rest) := lv_aload S.1 S.2.1 hdg (lv_at hl q hq) kk
theorem x_isn (S : CallFix p m c cc nL s args Ts own) {k : Fin 4} {i : Nat} {x : Int32} (hdg : decode cc pc = .ok (.istore_n k, 1)) (hi : (k : Nat) = i) (h : lv_has ls nL lv) (hn : Nat.ble (i + 1) nL = true) (hl : (i, Value.int x) :: lv.filter (fun q => !(q.1 == i) && !(q.1 + 1 == i && q.2.category == 2)) = lv') (kk : ∀ ls' : Array Slot, lv_has ls' nL lv' → W p l e R s m args below meth c H locs cells slots Q (F0 m (pc + 1) ls' rest)) : W p l e R s m args below meth c H locs cells slots Q (F0 m pc ls (.int x :: rest)) := lv_istore_n S.1 S.2.1 hdg hi h (Nat.le_of_ble_eq_true hn) hl kk
theorem x_is (S : CallFix p m c cc nL s args Ts own) {i : Nat} {x : Int32} (hdg : decode cc pc = .ok (.istore i, 2)) (h : lv_has ls nL lv) (hn : Nat.ble (i + 1) nL = true) (hl : (i, Value.int x) :: lv.filter (fun q => !(q.1 == i) && !(q.1 + 1 == i && q.2.category == 2)) = lv') (kk : ∀ ls' : Array Slot, lv_has ls' nL lv' → W p l e R s m args below meth c H locs cells slots Q (F0 m (pc + 2) ls' rest)) : W p l e R s m args below meth c H locs cells slots Q (F0 m pc ls (.int x :: rest)) := lv_istore S.1 S.2.1 hdg h (Nat.le_of_ble_eq_true hn) hl kk
theorem x_asn (S : CallFix p m c cc nL s args Ts own) {k : Fin 4} {i : Nat} {x : Nat} (hdg : decode cc pc = .ok (.astore_n k, 1)) (hi : (k : Nat) = i) (h : lv_has ls nL lv) (hn : Nat.ble (i + 1) nL = true) (hl : (i, Value.ref x) :: lv.filter (fun q => !(q.1 == i) && !(q.1 + 1 == i && q.2.category == 2)) = lv') (kk : ∀ ls' : Array Slot, lv_has ls' nL lv' → W p l e R s m args below meth c H locs cells slots Q (F0 m (pc + 1) ls' rest)) : W p l e R s m args below meth c H locs cells slots Q (F0 m pc ls (.ref x :: rest)) := lv_astore_n S.1 S.2.1 hdg hi h (Nat.le_of_ble_eq_true hn) hl kk
theorem x_as (S : CallFix p m c cc nL s args Ts own) {i : Nat} {x : Nat} (hdg : decode cc pc = .ok (.astore i, 2)) (h : lv_has ls nL lv) (hn : Nat.ble (i + 1) nL = true) (hl : (i, Value.ref x) :: lv.filter (fun q => !(q.1 == i) && !(q.1 + 1 == i && q.2.category == 2)) = lv') (kk : ∀ ls' : Array Slot, lv_has ls' nL lv' → W p l e R s m args below meth c H locs cells slots Q (F0 m (pc + 2) ls' rest)) : W p l e R s m args below meth c H locs cells slots Q (F0 m pc ls (.ref x :: rest)) := lv_astore S.1 S.2.1 hdg h (Nat.le_of_ble_eq_true hn) hl kk
theorem x_iinc (S : CallFix p m c cc nL s args Ts own) {i : Nat} {n : Int} {z : Int} (hdg : decode cc pc = .ok (.iinc i n, 3)) (h : lv_has ls nL lv) (q : Nat) (hk : lv[q]? = some (i, .int (iI z))) (hn : Nat.ble (i + 1) nL = true) (hl : (i, Value.int (iI (z + n))) :: lv.filter (fun q => !(q.1 == i) && !(q.1 + 1 == i && q.2.category == 2)) = lv') (kk : ∀ ls' : Array Slot, lv_has ls' nL lv' → W p l e R s m args below meth c H locs cells slots Q (F0 m (pc + 3) ls' rest)) : W p l e R s m args below meth c H locs cells slots Q (F0 m pc ls rest) := lv_iinc S.1 S.2.1 hdg h hk (iI_add z n) (Nat.le_of_ble_eq_true hn) hl kk
theorem x_iadd (S : CallFix p m c cc nL s args Ts own) {a b : Int} (hdg : decode cc pc = .ok (.iadd, 1)) (k : W p l e R s m args below meth c H locs cells slots Q (F0 m (pc + 1) ls (.int (iI (a + b)) :: rest))) : W p l e R s m args below meth c H locs cells slots Q (F0 m pc ls (.int (iI b) :: .int (iI a) :: rest)) := lv_iadd S.1 S.2.1 hdg (by rw [iI_add]; exact k)
theorem x_isub (S : CallFix p m c cc nL s args Ts own) {a b : Int} (hdg : decode cc pc = .ok (.isub, 1)) (k : W p l e R s m args below meth c H locs cells slots Q (F0 m (pc + 1) ls (.int (iI (a - b)) :: rest))) : W p l e R s m args below meth c H locs cells slots Q (F0 m pc ls (.int (iI b) :: .int (iI a) :: rest)) := lv_isub S.1 S.2.1 hdg (by rw [iI_sub]; exact k)
theorem x_imul (S : CallFix p m c cc nL s args Ts own) {a b : Int} (hdg : decode cc pc = .ok (.imul, 1)) (k : W p l e R s m args below meth c H locs cells slots Q (F0 m (pc + 1) ls (.int (iI (a * b)) :: rest))) : W p l e R s m args below meth c H locs cells slots Q (F0 m pc ls (.int (iI b) :: .int (iI a) :: rest)) := lv_imul S.1 S.2.1 hdg (by rw [iI_mul]; exact k)
theorem x_irem (S : CallFix p m c cc nL s args Ts own) {a b : Int} (hdg : decode cc pc = .ok (.irem, 1)) (h : 0 ≤ a ∧ a < 2147483648 ∧ 0 < b ∧ b < 2147483648) (k : 0 ≤ a % b ∧ a % b < b ∧ a % b ≤ a → W p l e R s m args below meth c H locs cells slots Q (F0 m (pc + 1) ls (.int (iI (a % b)) :: rest))) : W p l e R s m args below meth c H locs cells slots Q (F0 m pc ls (.int (iI b) :: .int (iI a) :: rest)) := lv_irem S.1 S.2.1 hdg (iI_ne0 ⟨h.2.2.1, h.2.2.2⟩) (by rw [iI_rem h]; exact k ⟨Int.emod_nonneg a (by omega), Int.emod_lt_of_pos a h.2.2.1, by have h1 := Int.mul_ediv_add_emod a b; have h2 := Int.mul_nonneg (Int.le_of_lt h.2.2.1) (Int.ediv_nonneg h.1 (Int.le_of_lt h.2.2.1)); omega⟩)
theorem x_idiv (S : CallFix p m c cc nL s args Ts own) {a b : Int} (hdg : decode cc pc = .ok (.idiv, 1)) (h : 0 ≤ a ∧ a < 2147483648 ∧ 0 < b ∧ b < 2147483648) (k : 0 ≤ a / b ∧ a / b ≤ a → W p l e R s m args below meth c H locs cells slots Q (F0 m (pc + 1) ls (.int (iI (a / b)) :: rest))) : W p l e R s m args below meth c H locs cells slots Q (F0 m pc ls (.int (iI b) :: .int (iI a) :: rest)) := lv_idiv S.1 S.2.1 hdg (iI_ne0 ⟨h.2.2.1, h.2.2.2⟩) (by rw [iI_div h]; exact k ⟨Int.ediv_nonneg h.1 (by omega), Int.ediv_le_self b h.1⟩)
theorem x_ishr (S : CallFix p m c cc nL s args Ts own) {a b : Int} (hdg : decode cc pc = .ok (.ishr, 1)) (h : 0 ≤ a ∧ a < 2147483648 ∧ 0 ≤ b ∧ b < 32) (k : W p l e R s m args below meth c H locs cells slots Q (F0 m (pc + 1) ls (.int (iI (a / 2 ^ b.toNat)) :: rest))) : W p l e R s m args below meth c H locs cells slots Q (F0 m pc ls (.int (iI b) :: .int (iI a) :: rest)) := lv_ishr S.1 S.2.1 hdg (by rw [iI_shr h]; exact k)
theorem x_iand1 (S : CallFix p m c cc nL s args Ts own) {a : Int} (hdg : decode cc pc = .ok (.iand, 1)) (h : 0 ≤ a ∧ a < 2147483648) (k : W p l e R s m args below meth c H locs cells slots Q (F0 m (pc + 1) ls (.int (iI (a % 2)) :: rest))) : W p l e R s m args below meth c H locs cells slots Q (F0 m pc ls (.int (iI 1) :: .int (iI a) :: rest)) := lv_iand S.1 S.2.1 hdg (by rw [iI_and1 h]; exact k)
theorem x_dup (S : CallFix p m c cc nL s args Ts own) {va : Value} (hdg : decode cc pc = .ok (.dup, 1)) (hva : va.category = 1) (k : W p l e R s m args below meth c H locs cells slots Q (F0 m (pc + 1) ls (va :: va :: rest))) : W p l e R s m args below meth c H locs cells slots Q (F0 m pc ls (va :: rest)) := lv_dup S.1 S.2.1 hdg hva k
theorem x_dup2 (S : CallFix p m c cc nL s args Ts own) {va vb : Value} (hdg : decode cc pc = .ok (.dup2, 1)) (hva : va.category = 1) (hvb : vb.category = 1) (k : W p l e R s m args below meth c H locs cells slots Q (F0 m (pc + 1) ls (va :: vb :: va :: vb :: rest))) : W p l e R s m args below meth c H locs cells slots Q (F0 m pc ls (va :: vb :: rest)) := lv_dup2_11 S.1 S.2.1 hdg hva hvb k
theorem x_pop (S : CallFix p m c cc nL s args Ts own) {va : Value} (hdg : decode cc pc = .ok (.pop, 1)) (hva : va.category = 1) (k : W p l e R s m args below meth c H locs cells slots Q (F0 m (pc + 1) ls rest)) : W p l e R s m args below meth c H locs cells slots Q (F0 m pc ls (va :: rest)) := lv_pop S.1 S.2.1 hdg hva k
theorem x_goto (S : CallFix p m c cc nL s args Ts own) {off : Int} (tgt : Nat) (hdg : decode cc pc = .ok (.goto off, 3)) (ht : (pc : Int) + off = (tgt : Int)) (k : W p l e R s m args below meth c H locs cells slots Q (F0 m tgt ls rest)) : W p l e R s m args below meth c H locs cells slots Q (F0 m pc ls rest) := lv_goto S.1 S.2.1 hdg ht k
theorem x_ifeq (S : CallFix p m c cc nL s args Ts own) {z : Int} {off : Int} (tgt : Nat) (hdg : decode cc pc = .ok (.ifCond .eq off, 3)) (ht : (pc : Int) + off = (tgt : Int)) (hz : -2147483648 ≤ z ∧ z < 2147483648) (kt : z = 0 → W p l e R s m args below meth c H locs cells slots Q (F0 m tgt ls rest)) (kf : z ≠ 0 → W p l e R s m args below meth c H locs cells slots Q (F0 m (pc + 3) ls rest)) : W p l e R s m args below meth c H locs cells slots Q (F0 m pc ls (.int (iI z) :: rest)) := lv_if_eq S.1 S.2.1 hdg ht (fun h => kt ((iI_eq (a := z) (b := 0) (by omega)).mp h)) (fun h => kf (fun q => h ((iI_eq (a := z) (b := 0) (by omega)).mpr q)))
theorem x_ifne (S : CallFix p m c cc nL s args Ts own) {z : Int} {off : Int} (tgt : Nat) (hdg : decode cc pc = .ok (.ifCond .ne off, 3)) (ht : (pc : Int) + off = (tgt : Int)) (hz : -2147483648 ≤ z ∧ z < 2147483648) (kt : z ≠ 0 → W p l e R s m args below meth c H locs cells slots Q (F0 m tgt ls rest)) (kf : z = 0 → W p l e R s m args below meth c H locs cells slots Q (F0 m (pc + 3) ls rest)) : W p l e R s m args below meth c H locs cells slots Q (F0 m pc ls (.int (iI z) :: rest)) := lv_if_ne S.1 S.2.1 hdg ht (fun h => kt (fun q => h ((iI_eq (a := z) (b := 0) (by omega)).mpr q))) (fun h => kf ((iI_eq (a := z) (b := 0) (by omega)).mp h))
theorem x_iflt (S : CallFix p m c cc nL s args Ts own) {z : Int} {off : Int} (tgt : Nat) (hdg : decode cc pc = .ok (.ifCond .lt off, 3)) (ht : (pc : Int) + off = (tgt : Int)) (hz : -2147483648 ≤ z ∧ z < 2147483648) (kt : z < 0 → W p l e R s m args below meth c H locs cells slots Q (F0 m tgt ls rest)) (kf : 0 ≤ z → W p l e R s m args below meth c H locs cells slots Q (F0 m (pc + 3) ls rest)) : W p l e R s m args below meth c H locs cells slots Q (F0 m pc ls (.int (iI z) :: rest)) := lv_if_lt S.1 S.2.1 hdg ht (fun h => kt ((iI_lt (a := z) (b := 0) (by omega)).mp h)) (fun h => kf (Int.not_lt.mp (fun q => h ((iI_lt (a := z) (b := 0) (by omega)).mpr q))))
theorem x_ifge (S : CallFix p m c cc nL s args Ts own) {z : Int} {off : Int} (tgt : Nat) (hdg : decode cc pc = .ok (.ifCond .ge off, 3)) (ht : (pc : Int) + off = (tgt : Int)) (hz : -2147483648 ≤ z ∧ z < 2147483648) (kt : 0 ≤ z → W p l e R s m args below meth c H locs cells slots Q (F0 m tgt ls rest)) (kf : z < 0 → W p l e R s m args below meth c H locs cells slots Q (F0 m (pc + 3) ls rest)) : W p l e R s m args below meth c H locs cells slots Q (F0 m pc ls (.int (iI z) :: rest)) := lv_if_ge S.1 S.2.1 hdg ht (fun h => kt ((iI_le (a := 0) (b := z) (by omega)).mp h)) (fun h => kf (Int.not_le.mp (fun q => h ((iI_le (a := 0) (b := z) (by omega)).mpr q))))
theorem x_ifgt (S : CallFix p m c cc nL s args Ts own) {z : Int} {off : Int} (tgt : Nat) (hdg : decode cc pc = .ok (.ifCond .gt off, 3)) (ht : (pc : Int) + off = (tgt : Int)) (hz : -2147483648 ≤ z ∧ z < 2147483648) (kt : 0 < z → W p l e R s m args below meth c H locs cells slots Q (F0 m tgt ls rest)) (kf : z ≤ 0 → W p l e R s m args below meth c H locs cells slots Q (F0 m (pc + 3) ls rest)) : W p l e R s m args below meth c H locs cells slots Q (F0 m pc ls (.int (iI z) :: rest)) := lv_if_gt S.1 S.2.1 hdg ht (fun h => kt ((iI_lt (a := 0) (b := z) (by omega)).mp h)) (fun h => kf (Int.not_lt.mp (fun q => h ((iI_lt (a := 0) (b := z) (by omega)).mpr q))))
theorem x_ifle (S : CallFix p m c cc nL s args Ts own) {z : Int} {off : Int} (tgt : Nat) (hdg : decode cc pc = .ok (.ifCond .le off, 3)) (ht : (pc : Int) + off = (tgt : Int)) (hz : -2147483648 ≤ z ∧ z < 2147483648) (kt : z ≤ 0 → W p l e R s m args below meth c H locs cells slots Q (F0 m tgt ls rest)) (kf : 0 < z → W p l e R s m args below meth c H locs cells slots Q (F0 m (pc + 3) ls rest)) : W p l e R s m args below meth c H locs cells slots Q (F0 m pc ls (.int (iI z) :: rest)) := lv_if_le S.1 S.2.1 hdg ht (fun h => kt ((iI_le (a := z) (b := 0) (by omega)).mp h)) (fun h => kf (Int.not_le.mp (fun q => h ((iI_le (a := z) (b := 0) (by omega)).mpr q))))
theorem x_ifeqB (S : CallFix p m c cc nL s args Ts own) {P : Prop} [Decidable P] {off : Int} (tgt : Nat) (hdg : decode cc pc = .ok (.ifCond .eq off, 3)) (ht : (pc : Int) + off = (tgt : Int)) (kt : ¬ P → W p l e R s m args below meth c H locs cells slots Q (F0 m tgt ls rest)) (kf : P → W p l e R s m args below meth c H locs cells slots Q (F0 m (pc + 3) ls rest)) : W p l e R s m args below meth c H locs cells slots Q (F0 m pc ls (.int (iI (bI P)) :: rest)) := by
  by_cases h : P
  · rw [bI_t h]
    exact x_ifeq S tgt hdg ht (by omega) (fun h => by omega) (fun _ => kf h)
  · rw [bI_f h]
    exact x_ifeq S tgt hdg ht (by omega) (fun _ => kt h) (fun h => by omega)
theorem x_ifneB (S : CallFix p m c cc nL s args Ts own) {P : Prop} [Decidable P] {off : Int} (tgt : Nat) (hdg : decode cc pc = .ok (.ifCond .ne off, 3)) (ht : (pc : Int) + off = (tgt : Int)) (kt : P → W p l e R s m args below meth c H locs cells slots Q (F0 m tgt ls rest)) (kf : ¬ P → W p l e R s m args below meth c H locs cells slots Q (F0 m (pc + 3) ls rest)) : W p l e R s m args below meth c H locs cells slots Q (F0 m pc ls (.int (iI (bI P)) :: rest)) := by
  by_cases h : P
  · rw [bI_t h]
    exact x_ifne S tgt hdg ht (by omega) (fun _ => kt h) (fun h => by omega)
  · rw [bI_f h]
    exact x_ifne S tgt hdg ht (by omega) (fun h => by omega) (fun _ => kf h)
theorem x_cmpeq (S : CallFix p m c cc nL s args Ts own) {a b : Int} {off : Int} (tgt : Nat) (hdg : decode cc pc = .ok (.if_icmp .eq off, 3)) (ht : (pc : Int) + off = (tgt : Int)) (hz : -2147483648 ≤ a ∧ a < 2147483648 ∧ -2147483648 ≤ b ∧ b < 2147483648) (kt : a = b → W p l e R s m args below meth c H locs cells slots Q (F0 m tgt ls rest)) (kf : a ≠ b → W p l e R s m args below meth c H locs cells slots Q (F0 m (pc + 3) ls rest)) : W p l e R s m args below meth c H locs cells slots Q (F0 m pc ls (.int (iI b) :: .int (iI a) :: rest)) := lv_icmp_eq S.1 S.2.1 hdg ht (fun h => kt ((iI_eq hz).mp h)) (fun h => kf (fun q => h ((iI_eq hz).mpr q)))
theorem x_cmpne (S : CallFix p m c cc nL s args Ts own) {a b : Int} {off : Int} (tgt : Nat) (hdg : decode cc pc = .ok (.if_icmp .ne off, 3)) (ht : (pc : Int) + off = (tgt : Int)) (hz : -2147483648 ≤ a ∧ a < 2147483648 ∧ -2147483648 ≤ b ∧ b < 2147483648) (kt : a ≠ b → W p l e R s m args below meth c H locs cells slots Q (F0 m tgt ls rest)) (kf : a = b → W p l e R s m args below meth c H locs cells slots Q (F0 m (pc + 3) ls rest)) : W p l e R s m args below meth c H locs cells slots Q (F0 m pc ls (.int (iI b) :: .int (iI a) :: rest)) := lv_icmp_ne S.1 S.2.1 hdg ht (fun h => kt (fun q => h ((iI_eq hz).mpr q))) (fun h => kf ((iI_eq hz).mp h))
theorem x_cmplt (S : CallFix p m c cc nL s args Ts own) {a b : Int} {off : Int} (tgt : Nat) (hdg : decode cc pc = .ok (.if_icmp .lt off, 3)) (ht : (pc : Int) + off = (tgt : Int)) (hz : -2147483648 ≤ a ∧ a < 2147483648 ∧ -2147483648 ≤ b ∧ b < 2147483648) (kt : a < b → W p l e R s m args below meth c H locs cells slots Q (F0 m tgt ls rest)) (kf : b ≤ a → W p l e R s m args below meth c H locs cells slots Q (F0 m (pc + 3) ls rest)) : W p l e R s m args below meth c H locs cells slots Q (F0 m pc ls (.int (iI b) :: .int (iI a) :: rest)) := lv_icmp_lt S.1 S.2.1 hdg ht (fun h => kt ((iI_lt hz).mp h)) (fun h => kf (Int.not_lt.mp (fun q => h ((iI_lt hz).mpr q))))
theorem x_cmpge (S : CallFix p m c cc nL s args Ts own) {a b : Int} {off : Int} (tgt : Nat) (hdg : decode cc pc = .ok (.if_icmp .ge off, 3)) (ht : (pc : Int) + off = (tgt : Int)) (hz : -2147483648 ≤ a ∧ a < 2147483648 ∧ -2147483648 ≤ b ∧ b < 2147483648) (kt : b ≤ a → W p l e R s m args below meth c H locs cells slots Q (F0 m tgt ls rest)) (kf : a < b → W p l e R s m args below meth c H locs cells slots Q (F0 m (pc + 3) ls rest)) : W p l e R s m args below meth c H locs cells slots Q (F0 m pc ls (.int (iI b) :: .int (iI a) :: rest)) := lv_icmp_ge S.1 S.2.1 hdg ht (fun h => kt ((iI_le (by omega)).mp h)) (fun h => kf (Int.not_le.mp (fun q => h ((iI_le (by omega)).mpr q))))
theorem x_cmpgt (S : CallFix p m c cc nL s args Ts own) {a b : Int} {off : Int} (tgt : Nat) (hdg : decode cc pc = .ok (.if_icmp .gt off, 3)) (ht : (pc : Int) + off = (tgt : Int)) (hz : -2147483648 ≤ a ∧ a < 2147483648 ∧ -2147483648 ≤ b ∧ b < 2147483648) (kt : b < a → W p l e R s m args below meth c H locs cells slots Q (F0 m tgt ls rest)) (kf : a ≤ b → W p l e R s m args below meth c H locs cells slots Q (F0 m (pc + 3) ls rest)) : W p l e R s m args below meth c H locs cells slots Q (F0 m pc ls (.int (iI b) :: .int (iI a) :: rest)) := lv_icmp_gt S.1 S.2.1 hdg ht (fun h => kt ((iI_lt (by omega)).mp h)) (fun h => kf (Int.not_lt.mp (fun q => h ((iI_lt (by omega)).mpr q))))
theorem x_cmple (S : CallFix p m c cc nL s args Ts own) {a b : Int} {off : Int} (tgt : Nat) (hdg : decode cc pc = .ok (.if_icmp .le off, 3)) (ht : (pc : Int) + off = (tgt : Int)) (hz : -2147483648 ≤ a ∧ a < 2147483648 ∧ -2147483648 ≤ b ∧ b < 2147483648) (kt : a ≤ b → W p l e R s m args below meth c H locs cells slots Q (F0 m tgt ls rest)) (kf : b < a → W p l e R s m args below meth c H locs cells slots Q (F0 m (pc + 3) ls rest)) : W p l e R s m args below meth c H locs cells slots Q (F0 m pc ls (.int (iI b) :: .int (iI a) :: rest)) := lv_icmp_le S.1 S.2.1 hdg ht (fun h => kt ((iI_le hz).mp h)) (fun h => kf (Int.not_le.mp (fun q => h ((iI_le hz).mpr q))))
theorem x_imulB (S : CallFix p m c cc nL s args Ts own) {a b : Int} (hdg : decode cc pc = .ok (.imul, 1)) (h : 0 ≤ a ∧ a ≤ 1000 ∧ 0 ≤ b ∧ b ≤ 1000) (k : 0 ≤ a * b ∧ a * b ≤ 1000000 → W p l e R s m args below meth c H locs cells slots Q (F0 m (pc + 1) ls (.int (iI (a * b)) :: rest))) : W p l e R s m args below meth c H locs cells slots Q (F0 m pc ls (.int (iI b) :: .int (iI a) :: rest)) := x_imul S hdg (k ⟨Int.mul_nonneg h.1 h.2.2.1, Int.le_trans (Int.mul_le_mul_of_nonneg_left h.2.2.2 h.1) (by omega)⟩)
theorem x_topi {z : Int} (k : ∀ t : Int, t = z → W p l e R s m args below meth c H locs cells slots Q (F0 m pc ls (.int (iI t) :: rest))) : W p l e R s m args below meth c H locs cells slots Q (F0 m pc ls (.int (iI z) :: rest)) := k z rfl
theorem x_ldc2 (S : CallFix p m c cc nL s args Ts own) {index : Nat} {v : Int64} (hm : Cond.constantLong own index v ∈ Ts) (hdg : decode cc pc = .ok (.ldc2_w index, 3)) (k : W p l e R s m args below meth c H locs cells slots Q (F0 m (pc + 3) ls (.long v :: rest))) : W p l e R s m args below meth c H locs cells slots Q (F0 m pc ls rest) := lv_ldc2 S.1 S.2.1 S.2.2.2.1 (S.2.2.2.2 _ hm) hdg k
theorem x_lc (S : CallFix p m c cc nL s args Ts own) {n : Fin 2} {v : Int64} (hdg : decode cc pc = .ok (.lconst n, 1)) (hv : Int64.ofNat n = v) (k : W p l e R s m args below meth c H locs cells slots Q (F0 m (pc + 1) ls (.long v :: rest))) : W p l e R s m args below meth c H locs cells slots Q (F0 m pc ls rest) := lv_lconst S.1 S.2.1 hdg hv k
theorem x_ladd (S : CallFix p m c cc nL s args Ts own) {x y : Int64} (hdg : decode cc pc = .ok (.ladd, 1)) (k : W p l e R s m args below meth c H locs cells slots Q (F0 m (pc + 1) ls (.long (x + y) :: rest))) : W p l e R s m args below meth c H locs cells slots Q (F0 m pc ls (.long y :: .long x :: rest)) := lv_ladd S.1 S.2.1 hdg k
theorem x_i2l (S : CallFix p m c cc nL s args Ts own) {x : Int32} (hdg : decode cc pc = .ok (.i2l, 1)) (k : W p l e R s m args below meth c H locs cells slots Q (F0 m (pc + 1) ls (.long x.toInt64 :: rest))) : W p l e R s m args below meth c H locs cells slots Q (F0 m pc ls (.int x :: rest)) := lv_i2l S.1 S.2.1 hdg rfl k
theorem x_swO (S : CallFix p m c cc nL s args Ts own) {dflt lo hi : Int} {offs : Array Int} {len : Nat} {z : Int} (tgt : Nat) (hdg : decode cc pc = .ok (.tableswitch dflt lo hi offs, len)) (hz : -2147483648 ≤ z ∧ z < 2147483648) (h : z < lo ∨ hi < z) (ht : (pc : Int) + dflt = (tgt : Int)) (k : W p l e R s m args below meth c H locs cells slots Q (F0 m tgt ls rest)) : W p l e R s m args below meth c H locs cells slots Q (F0 m pc ls (.int (iI z) :: rest)) := lv_tableOut S.1 S.2.1 hdg (by rw [iI_toInt hz.1 hz.2]; exact h) ht k
theorem x_swI (S : CallFix p m c cc nL s args Ts own) {dflt lo hi : Int} {offs : Array Int} {len : Nat} {z k : Int} {off : Int} (tgt : Nat) (hdg : decode cc pc = .ok (.tableswitch dflt lo hi offs, len)) (hz : z = k) (h1 : ¬ k < lo ∧ -2147483648 ≤ k) (h2 : ¬ hi < k ∧ k < 2147483648) (ho : offs[(k - lo).toNat]? = some off) (ht : (pc : Int) + off = (tgt : Int)) (kk : W p l e R s m args below meth c H locs cells slots Q (F0 m tgt ls rest)) : W p l e R s m args below meth c H locs cells slots Q (F0 m pc ls (.int (iI z) :: rest)) := by
  subst hz
  exact lv_tableIn S.1 S.2.1 hdg (by rw [iI_toInt h1.2 h2.2]; exact h1.1) (by rw [iI_toInt h1.2 h2.2]; exact h2.1) (by rw [iI_toInt h1.2 h2.2]; exact ho) ht kk
theorem x_min (S : CallFix p m c cc nL s args Ts own) (hl : ls.size = nL) {index : Nat} (hlink : Cond.methodLink own index Lib.Math.min.name ∈ Ts) (hstat : Cond.static Lib.Math.min.name ∈ Ts) (hini : Cond.initialized "java/lang/Math" ∈ Ts) (hcode : Cond.code Lib.Math.min.name Lib.Math.min.code 2 (some .int) ∈ Ts) (hf : Nat.ble 1 R.frames = true) (hlo : Nat.ble ((rest.map fun v => v.category).sum + 13) R.locals = true) (hc : Nat.ble cells R.cells = true) (hs : Nat.ble slots R.slots = true) {x y : Int} (hz : -2147483648 ≤ x ∧ x < 2147483648 ∧ -2147483648 ≤ y ∧ y < 2147483648) (hdg : decode cc pc = .ok (.invokestatic index, 3)) (kk : W p l e R s m args below meth c H locs cells slots Q (F0 m (pc + 3) ls (.int (iI (min x y)) :: rest))) : W p l e R s m args below meth c H locs cells slots Q (F0 m pc ls (.int (iI y) :: .int (iI x) :: rest)) := by
  refine va_mmin S.1 S.2.1 (S.2.2.1.trans hl.symm) S.2.2.2.1 (S.2.2.2.2 _ hlink) (S.2.2.2.2 _ hstat) (S.2.2.2.2 _ hini) (S.2.2.2.2 _ hcode) (Nat.le_of_ble_eq_true hf) (Nat.le_of_ble_eq_true hlo) (Nat.le_of_ble_eq_true hc) (Nat.le_of_ble_eq_true hs) hdg ?_
  have e : (if iI y < iI x then iI y else iI x) = iI (min x y) := by
    by_cases h : y < x
    · rw [if_pos ((iI_lt (by omega)).mpr h)]; congr 1; omega
    · rw [if_neg (fun q => h ((iI_lt (by omega)).mp q))]; congr 1; omega
  rw [e]
  exact kk
end XR
end
section
/-! what a method may take as given beside its cells; a cell's rows; a method's entry, its ends, its calls -/
abbrev nwT : Type := String × Nat × String × String × String
def nwF : List nwT := [("SealedBox", 80, "SealedBox$PrimeField", "p", "I"), ("SealedBox$Onward", 40, "SealedBox$PrimeField", "p", "I"), ("SealedBox$LieSearch", 52, "SealedBox$PrimeField", "p", "I"), ("SealedBox$Register", 55, "SealedBox$PrimeField", "p", "I"), ("SealedBox$Box", 54, "SealedBox$PrimeField", "p", "I"), ("SealedBox$Recovery", 112, "SealedBox$PrimeField", "p", "I"), ("SealedBox", 101, "SealedBox$Bases", "shift", "I"), ("SealedBox", 104, "SealedBox$Bases", "scale", "I"), ("SealedBox", 110, "SealedBox$Box", "kind", "I"), ("SealedBox", 133, "SealedBox$Box", "terms", "I"), ("SealedBox$Onward", 29, "SealedBox$Register", "length", "I"), ("SealedBox$Recovery", 61, "SealedBox$Register", "length", "I"), ("SealedBox$LieSearch", 40, "SealedBox$Register", "length", "I"), ("SealedBox", 151, "SealedBox$Register", "length", "I"), ("SealedBox", 171, "SealedBox$Recovery", "found", "LSealedBox$Box;")]
def nwC (q : nwT) : Cond := .fieldLinkNest q.1 q.2.1 q.2.2.1 q.2.2.2.1 q.2.2.2.2 "SealedBox"
def nwM : Cond := .methodLinkNest "SealedBox$Box" 61 yX7_isExponent "SealedBox"
def xK (D : va_G) (cI : ClassId) (U : State) : Prop := va_K D vwCl [(cI, .int)] U ∧ (∀ q ∈ nwF, va_Nw (nwC q) U) ∧ va_Nw nwM U
theorem xK.blind {D : va_G} {cI : ClassId} {U : State} (h : xK D cI U) (g : JFrame) (mk : MethodId) (a : Array Value) : xK D cI (U.calling g mk a) := ⟨va_K.moved (u := U) (U := U.calling g mk a) (Vm.Alike.refl U.vm) h.1, fun q hq => va_Nw.same rfl (u := U) (U := U.calling g mk a) rfl (h.2.1 q hq), va_Nw.same rfl (u := U) (U := U.calling g mk a) rfl h.2.2⟩
theorem xK.warm {D : va_G} {cI : ClassId} {s U : State} (h : xK D cI s) (hW : s.WarmedH U.vm) : xK D cI U := ⟨va_K.moved hW.alike h.1, fun q hq => va_Nw.warmF hW (h.2.1 q hq), va_Nw.warmM hW h.2.2⟩
def xPr (av : List Value) (D : va_G) (cI : ClassId) (wc : va_W) : Array Value → State → Prop := va_Pc av (fun U => va_P D vwCl wc U.heap ∧ xK D cI U)
def xPw (av : List Value) (D : va_G) (cI : ClassId) (wc : va_W) (sz : Nat) : Array Value → State → Prop := va_Pc av (fun U => U.heap.size = sz ∧ va_P D vwCl wc U.heap ∧ xK D cI U ∧ va_D (fun _ => True) wc)
def xB {S : Type} (D : va_G) (w1 : S → va_W) (A : Nat → Prop) : S → State → Prop := fun u t => va_P D vwCl (w1 u) t.heap ∧ va_D A (w1 u)
section XE
variable {l : Launch} {y : MethodName} {ws ws' : List Cond} {rm : Room} {cc : ByteArray} {maxL : Nat} {ret : Option FieldType} {D : va_G} {cI : ClassId} {wc : va_W} {sz mc ms : Nat} {av : List Value} {own : String}
theorem x_metR {Qc : Array Value → State → Outcome → State → Prop} (hy : plainName y.cls = true) (hw : ws = Cond.code y cc maxL ret :: ws') (ho : y.cls = own) (hn : Nat.ble (lg_sl av).length maxL = true)
    (body : ∀ (p : Program) (e : Env) (s : State) (m : MethodId) (args : Array Value) (below : List Frame) (meth : Method) (c : Code) (Q : State → Prop), CallFix p m c cc maxL s args ws own → meth.sig.returnType = ret → meth.locks = false → Q = MQ below Qc args s 0 0 (fun _ => False) → xK D cI s → va_P D vwCl wc s.heap → ∀ ls : Array Slot, lv_has ls maxL (lv_args 0 av) →
      W p l e rm s m args below meth c s.heap [] 0 0 Q (F0 m 0 ls [])) : Met l y ws rm (xPr av D cI wc) Qc 0 0 (fun _ => False) := by
  refine Met.ofW (cc := cc) (maxL := maxL) (ret := ret) hy hw ?_
  intro p e s m args below meth c s₁ B hml hv
  obtain ⟨rfl, hP, hK⟩ := hv
  have hts := atoms_spec (ws := ws) B.pre
  have hown : s.vm.findClass y.cls = some m.cls := findClass_of_methodNamed B.named
  have hl := lv_entry av (n := maxL) (Nat.le_of_ble_eq_true hn)
  rw [lg_entry_eq]
  exact body p e s m _ below meth c _ ⟨B.exec, B.bytes, hml, ho ▸ hown, hts⟩ B.returns B.notSynchronized rfl hK hP _ hl
theorem x_metW {Qc : (Nat → Prop) → Array Value → State → Outcome → State → Prop} (hy : plainName y.cls = true) (hw : ws = Cond.code y cc maxL ret :: ws') (ho : y.cls = own) (hn : Nat.ble (lg_sl av).length maxL = true)
    (body : ∀ (p : Program) (e : Env) (s : State) (m : MethodId) (args : Array Value) (below : List Frame) (meth : Method) (c : Code) (A : Nat → Prop) (Q : State → Prop), CallFix p m c cc maxL s args ws own → meth.sig.returnType = ret → meth.locks = false → (y.name = meth.name) → Q = MQ below (Qc A) args s mc ms A → xK D cI s → va_P D vwCl wc s.heap → va_D A wc → (∀ q : Nat, s.heap.size ≤ q → A q) → va_S A s.heap s.heap [] → ∀ ls : Array Slot, lv_has ls maxL (lv_args 0 av) →
      W p l e rm s m args below meth c s.heap [] 0 0 Q (F0 m 0 ls [])) : Met l y ws rm (xPw av D cI wc sz) (Qc (va_A wc sz)) mc ms (va_A wc sz) := by
  refine Met.ofW (cc := cc) (maxL := maxL) (ret := ret) hy hw ?_
  intro p e s m args below meth c s₁ B hml hv
  obtain ⟨rfl, hsz, hP, hK, hD0⟩ := hv
  have hts := atoms_spec (ws := ws) B.pre
  have hown : s.vm.findClass y.cls = some m.cls := findClass_of_methodNamed B.named
  subst hsz
  have hl := lv_entry av (n := maxL) (Nat.le_of_ble_eq_true hn)
  rw [lg_entry_eq]
  exact body p e s m _ below meth c (va_A wc s.heap.size) _ ⟨B.exec, B.bytes, hml, ho ▸ hown, hts⟩ B.returns B.notSynchronized (name_of_methodNamed B.named B.method).1.symm rfl hK hP hD0.self (fun q h => Or.inr h) va_S.rf _ hl
end XE
section XW
variable {p : Program} {l : Launch} {e : Env} {R : Room} {s : State} {m : MethodId} {args : Array Value} {below : List Frame} {meth : Method} {c : Code} {H : Heap} {locs : List Loc} {cells slots : Nat} {Q : State → Prop}
variable {cc : ByteArray} {pc nL : Nat} {ls : Array Slot} {rest : List Value} {Ts : List Cond} {own : String} {D : va_G} {cI : ClassId} {ws ws' wr : va_W} {A : Nat → Prop} {H0 : Heap} {a : Nat}
theorem x_get (S : CallFix p m c cc nL s args Ts own) (hK : xK D cI s) (hP : va_P D vwCl ws H) {C : String} {T : u_T} {N ci index : Nat} (hin : ∀ w ∈ u_ws C T N, w ∈ Ts) (q0 : Nat) {fs : List Value} (he : ws[q0]? = some (a, .inr (ci, fs))) (hc : vwCl[ci]? = some (C, T, N)) (k : Nat) (hk : Nat.ble (k + 1) N = true) (hm : Cond.fieldLink own index (T k).1 (T k).2.1 (T k).2.2.1 ∈ Ts) {v : Value} (hv : fs[k]? = some v) (hdg : decode cc pc = .ok (.getfield index, 3))
    (kk : W p l e R s m args below meth c H locs cells slots Q (F0 m (pc + 3) ls (v :: rest))) : W p l e R s m args below meth c H locs cells slots Q (F0 m pc ls (.ref a :: rest)) := va_get S.1 S.2.1 S.2.2.2.2 hin S.2.2.2.1 hK.1 hP q0 he hc k (Nat.le_of_ble_eq_true hk) (S.2.2.2.2 _ hm) (fun _ h => h) hv hdg kk
theorem x_getN (S : CallFix p m c cc nL s args Ts own) (hK : xK D cI s) (hP : va_P D vwCl ws H) {C : String} {T : u_T} {N ci index : Nat} (hin : ∀ w ∈ u_ws C T N, w ∈ Ts) (q0 : Nat) {fs : List Value} (he : ws[q0]? = some (a, .inr (ci, fs))) (hc : vwCl[ci]? = some (C, T, N)) (k : Nat) (hk : Nat.ble (k + 1) N = true) (i : Nat) (hi : nwF[i]? = some (own, index, (T k).1, (T k).2.1, (T k).2.2.1)) {v : Value} (hv : fs[k]? = some v) (hdg : decode cc pc = .ok (.getfield index, 3))
    (kk : W p l e R s m args below meth c H locs cells slots Q (F0 m (pc + 3) ls (v :: rest))) : W p l e R s m args below meth c H locs cells slots Q (F0 m pc ls (.ref a :: rest)) := va_getN (host := "SealedBox") S.1 S.2.1 S.2.2.2.2 hin S.2.2.2.1 hK.1 hP q0 he hc k (Nat.le_of_ble_eq_true hk) (va_Nw.use rfl (hK.2.1 _ (List.mem_of_getElem? hi))) (fun _ h => h) hv hdg kk
theorem x_put (S : CallFix p m c cc nL s args Ts own) (hK : xK D cI s) (hP : va_P D vwCl ws H) (hD : va_D A ws) (hS : va_S A H0 H locs) {C : String} {T : u_T} {N ci index : Nat} (hin : ∀ w ∈ u_ws C T N, w ∈ Ts) {ty0 : Nat → FieldType} (hty : ∀ k, k < N → parseFieldDescriptor (T k).2.2.1 = some (ty0 k)) (hnm : ∀ a, a < N → ∀ b, b < N → a ≠ b → (T a).2.1 ≠ (T b).2.1) (q0 : Nat) {fs : List Value} (he : ws[q0]? = some (a, .inr (ci, fs))) (hc : vwCl[ci]? = some (C, T, N)) (k : Nat) (hk : Nat.ble (k + 1) N = true) (hm : Cond.fieldLink own index (T k).1 (T k).2.1 (T k).2.2.1 ∈ Ts) (hfin : (T k).2.2.2 = false) {v : Value} (hn : narrow (ty0 k) v = v) (hfit : fits (ty0 k) v = true) (hl : Nat.ble (k + 1) fs.length = true) (hdg : decode cc pc = .ok (.putfield index, 3)) (hw : ws.set q0 (a, .inr (ci, fs.set k v)) = ws')
    (kk : ∀ (H1 : Heap) (locs1 : List Loc), va_P D vwCl ws' H1 → va_D A ws' → va_S A H0 H1 locs1 → W p l e R s m args below meth c H1 locs1 cells slots Q (F0 m (pc + 3) ls rest)) : W p l e R s m args below meth c H locs cells slots Q (F0 m pc ls (v :: .ref a :: rest)) := by
  subst hw
  exact va_put S.1 S.2.1 S.2.2.2.2 hin ty0 hty hnm S.2.2.2.1 hK.1 hP hD hS q0 he hc k (Nat.le_of_ble_eq_true hk) (S.2.2.2.2 _ hm) (fun _ h => h) hfin (hty k (Nat.le_of_ble_eq_true hk)) hn hfit (Nat.le_of_ble_eq_true hl) hdg kk
theorem x_putN (S : CallFix p m c cc nL s args Ts own) (hK : xK D cI s) (hP : va_P D vwCl ws H) (hD : va_D A ws) (hS : va_S A H0 H locs) {C : String} {T : u_T} {N ci index : Nat} (hin : ∀ w ∈ u_ws C T N, w ∈ Ts) {ty0 : Nat → FieldType} (hty : ∀ k, k < N → parseFieldDescriptor (T k).2.2.1 = some (ty0 k)) (hnm : ∀ a, a < N → ∀ b, b < N → a ≠ b → (T a).2.1 ≠ (T b).2.1) (q0 : Nat) {fs : List Value} (he : ws[q0]? = some (a, .inr (ci, fs))) (hc : vwCl[ci]? = some (C, T, N)) (k : Nat) (hk : Nat.ble (k + 1) N = true) (i : Nat) (hi : nwF[i]? = some (own, index, (T k).1, (T k).2.1, (T k).2.2.1)) (hfin : (T k).2.2.2 = false) {v : Value} (hn : narrow (ty0 k) v = v) (hfit : fits (ty0 k) v = true) (hl : Nat.ble (k + 1) fs.length = true) (hdg : decode cc pc = .ok (.putfield index, 3)) (hw : ws.set q0 (a, .inr (ci, fs.set k v)) = ws')
    (kk : ∀ (H1 : Heap) (locs1 : List Loc), va_P D vwCl ws' H1 → va_D A ws' → va_S A H0 H1 locs1 → W p l e R s m args below meth c H1 locs1 cells slots Q (F0 m (pc + 3) ls rest)) : W p l e R s m args below meth c H locs cells slots Q (F0 m pc ls (v :: .ref a :: rest)) := by
  subst hw
  exact va_putN (host := "SealedBox") S.1 S.2.1 S.2.2.2.2 hin ty0 hty hnm S.2.2.2.1 hK.1 hP hD hS q0 he hc k (Nat.le_of_ble_eq_true hk) (va_Nw.use rfl (hK.2.1 _ (List.mem_of_getElem? hi))) (fun _ h => h) hfin (hty k (Nat.le_of_ble_eq_true hk)) hn hfit (Nat.le_of_ble_eq_true hl) hdg kk
theorem x_putF (S : CallFix p m c cc nL s args Ts own) (hin2 : "<init>" = meth.name) (hK : xK D cI s) (hP : va_P D vwCl ws H) (hD : va_D A ws) (hS : va_S A H0 H locs) {C : String} {T : u_T} {N ci index : Nat} (hin : ∀ w ∈ u_ws C T N, w ∈ Ts) {ty0 : Nat → FieldType} (hty : ∀ k, k < N → parseFieldDescriptor (T k).2.2.1 = some (ty0 k)) (hnm : ∀ a, a < N → ∀ b, b < N → a ≠ b → (T a).2.1 ≠ (T b).2.1) (q0 : Nat) {fs : List Value} (he : ws[q0]? = some (a, .inr (ci, fs))) (hc : vwCl[ci]? = some (C, T, N)) (k : Nat) (hk : Nat.ble (k + 1) N = true) (hm : Cond.fieldLink own index (T k).1 (T k).2.1 (T k).2.2.1 ∈ Ts) (hfin : (T k).2.2.2 = true) (hdecl : (T k).1 = own) {v : Value} (hn : narrow (ty0 k) v = v) (hfit : fits (ty0 k) v = true) (hl : Nat.ble (k + 1) fs.length = true) (hdg : decode cc pc = .ok (.putfield index, 3)) (hw : ws.set q0 (a, .inr (ci, fs.set k v)) = ws')
    (kk : ∀ (H1 : Heap) (locs1 : List Loc), va_P D vwCl ws' H1 → va_D A ws' → va_S A H0 H1 locs1 → W p l e R s m args below meth c H1 locs1 cells slots Q (F0 m (pc + 3) ls rest)) : W p l e R s m args below meth c H locs cells slots Q (F0 m pc ls (v :: .ref a :: rest)) := by
  subst hw
  exact va_putF S.1 S.2.1 S.2.2.2.2 hin ty0 hty hnm S.2.2.2.1 hK.1 hP hD hS q0 he hc k (Nat.le_of_ble_eq_true hk) (S.2.2.2.2 _ hm) (fun _ h => h) hfin hin2.symm hdecl (hty k (Nat.le_of_ble_eq_true hk)) hn hfit (Nat.le_of_ble_eq_true hl) hdg kk
theorem x_iald (S : CallFix p m c cc nL s args Ts own) (hK : xK D cI s) (hP : va_P D vwCl ws H) (q0 : Nat) {n : Nat} {f : Int → Int} (ha : ws[q0]? = some (a, .inl (cI, n, .inl (aI f)))) {z : Int} (hz : 0 ≤ z ∧ z < n ∧ n < 2147483648) (hdg : decode cc pc = .ok (.iaload, 1))
    (kk : W p l e R s m args below meth c H locs cells slots Q (F0 m (pc + 1) ls (.int (iI (f z)) :: rest))) : W p l e R s m args below meth c H locs cells slots Q (F0 m pc ls (.int (iI z) :: .ref a :: rest)) := by
  refine va_iald S.1 S.2.1 hK.1 hP q0 0 ha rfl (iI_in hz) hdg ?_
  rw [iI_clamp (by omega)]
  have e : aI f z.toNat = iI (f z) := by
    unfold aI
    rw [Int.toNat_of_nonneg hz.1]
  rw [e]
  exact kk
theorem x_iast (S : CallFix p m c cc nL s args Ts own) (hK : xK D cI s) (hP : va_P D vwCl ws H) (hD : va_D A ws) (hS : va_S A H0 H locs) (q0 : Nat) {n : Nat} {f : Int → Int} (ha : ws[q0]? = some (a, .inl (cI, n, .inl (aI f)))) {z x : Int} (hz : 0 ≤ z ∧ z < n ∧ n < 2147483648) (hdg : decode cc pc = .ok (.iastore, 1)) (hw : ws.set q0 (a, .inl (cI, n, .inl (aI (uI f z x)))) = ws')
    (kk : ∀ (H1 : Heap) (locs1 : List Loc), va_P D vwCl ws' H1 → va_D A ws' → va_S A H0 H1 locs1 → W p l e R s m args below meth c H1 locs1 cells slots Q (F0 m (pc + 1) ls rest)) : W p l e R s m args below meth c H locs cells slots Q (F0 m pc ls (.int (iI x) :: .int (iI z) :: .ref a :: rest)) := by
  subst hw
  refine va_iast S.1 S.2.1 hK.1 hP hD hS q0 0 ha rfl (iI_in hz) hdg ?_
  rw [iI_clamp (by omega), aI_upd f x hz.1]
  exact kk
theorem x_alen (S : CallFix p m c cc nL s args Ts own) (hK : xK D cI s) (hP : va_P D vwCl ws H) (q0 : Nat) {x : vp_A} (ha : ws[q0]? = some (a, .inl (cI, x))) (hdg : decode cc pc = .ok (.arraylength, 1))
    (kk : W p l e R s m args below meth c H locs cells slots Q (F0 m (pc + 1) ls (.int (iI (x.1 : Nat)) :: rest))) : W p l e R s m args below meth c H locs cells slots Q (F0 m pc ls (.ref a :: rest)) := va_alen S.1 S.2.1 hK.1 hP q0 0 ha (ty := .int) rfl (iI_nat x.1) hdg kk
theorem x_newa (S : CallFix p m c cc nL s args Ts own) (hK : xK D cI s) (hP : va_P D vwCl ws H) (hD : va_D A ws) (hS : va_S A H0 H locs) (hA : ∀ q, H0.size ≤ q → A q) (hm : Cond.arrayClass .int ∈ Ts) {n : Int} {N : Nat} (hN : n = N) (hb : Nat.ble (N * 4) 536870912 = true) {cs ss : Nat} (hcs : cells + 1 = cs) (hss : slots + N = ss) (hc1 : Nat.ble cs R.cells = true) (hs1 : Nat.ble ss R.slots = true) (hdg : decode cc pc = .ok (.newarray .int, 2))
    (kk : ∀ (q : Nat) (H1 : Heap), va_P D vwCl (ws ++ [(q, .inl (cI, N, .inl (aI (fun _ => 0))))]) H1 → va_D A (ws ++ [(q, .inl (cI, N, .inl (aI (fun _ => 0))))]) → va_S A H0 H1 locs → W p l e R s m args below meth c H1 locs cs ss Q (F0 m (pc + 2) ls (.ref q :: rest))) : W p l e R s m args below meth c H locs cells slots Q (F0 m pc ls (.int (iI n) :: rest)) := by
  subst hN; subst hcs; subst hss
  have hb := Nat.le_of_ble_eq_true hb
  refine va_newa (atype := .int) (ty := .int) (N' := N) (a0 := (N, .inl (aI (fun _ => 0)))) S.1 S.2.1 (S.2.2.2.2 _ hm) rfl hK.1 hP hD hS hA (fun cA => rfl) ?_ (by rw [iI_clamp (by omega)]; omega) hb (Nat.le_of_ble_eq_true hc1) (Nat.le_of_ble_eq_true hs1) hdg ?_
  · have e : (0 : Int32) = iI 0 := rfl
    rw [e, iI_lt (by omega)]; omega
  · intro q cA H1 hK1 hP1 hD1 hS1
    have e1 := va_nm_int (hK1.2 0 _ rfl).2
    have e2 := va_nm_int (hK1.2 1 _ rfl).2
    have e3 : cA = cI := Option.some.inj (e2.symm.trans e1)
    subst e3
    exact kk q H1 hP1 hD1 hS1
theorem x_new (S : CallFix p m c cc nL s args Ts own) (hK : xK D cI s) (hP : va_P D vwCl ws H) (hD : va_D A ws) (hS : va_S A H0 H locs) (hA : ∀ q, H0.size ≤ q → A q) {C : String} {T : u_T} {N ci index : Nat} (hin : ∀ w ∈ u_ws C T N, w ∈ Ts) {ty0 : Nat → FieldType} (hty : ∀ k, k < N → parseFieldDescriptor (T k).2.2.1 = some (ty0 k)) (hcl : Cond.classLink own index C ∈ Ts) (hinst : Cond.instantiable C N ∈ Ts) (hini : Cond.initialized C ∈ Ts) (hc : vwCl[ci]? = some (C, T, N)) {fs : List Value} (hfs : ∀ j, j < N → defaultValue (ty0 j) = vp_V fs j) {cs ss : Nat} (hcs : cells + 1 = cs) (hss : slots + N = ss) (hc1 : Nat.ble cs R.cells = true) (hs1 : Nat.ble ss R.slots = true) (hdg : decode cc pc = .ok (.new index, 3))
    (kk : ∀ (q : Nat) (H1 : Heap), va_P D vwCl (ws ++ [(q, .inr (ci, fs))]) H1 → va_D A (ws ++ [(q, .inr (ci, fs))]) → va_S A H0 H1 locs → W p l e R s m args below meth c H1 locs cs ss Q (F0 m (pc + 3) ls (.ref q :: rest))) : W p l e R s m args below meth c H locs cells slots Q (F0 m pc ls rest) := by
  subst hcs; subst hss
  exact va_new S.1 S.2.1 S.2.2.2.2 hin ty0 hty S.2.2.2.1 (S.2.2.2.2 _ hcl) (S.2.2.2.2 _ hinst) (S.2.2.2.2 _ hini) hK.1 hP hD hS hA hc hfs (Nat.le_of_ble_eq_true hc1) (Nat.le_of_ble_eq_true hs1) hdg kk
theorem x_objI (S : CallFix p m c cc nL s args Ts own) (hl : ls.size = nL) {idx : Nat} (h1 : Cond.methodLink own idx objectInit ∈ Ts) (h2 : Cond.instanceMethod objectInit ∈ Ts) (h3 : Cond.code objectInit ⟨#[0xb1]⟩ 1 none ∈ Ts) (hdg : decode cc pc = .ok (.invokespecial idx, 3)) (hf : Nat.ble 1 R.frames = true) (hlo : Nat.ble 12 R.locals = true) (kk : W p l e R s m args below meth c H locs cells slots Q (F0 m (pc + 3) ls [])) : W p l e R s m args below meth c H locs cells slots Q (F0 m pc ls [.ref a]) :=
  W.objInit S.1 S.2.1 S.2.2.2.1 (S.2.2.2.2 _ h1) (S.2.2.2.2 _ h2) (S.2.2.2.2 _ h3) rfl (by rw [S.2.2.1]; exact hl) rfl hdg (Nat.le_of_ble_eq_true hf) (Nat.le_of_ble_eq_true hlo) kk
theorem x_copy (S : CallFix p m c cc nL s args Ts own) (hl : ls.size = nL) (hK : xK D cI s) (hP : va_P D vwCl ws H) (hD : va_D A ws) (hS : va_S A H0 H locs) (q0 q1 : Nat) {a0 N : Nat} {f g : Int → Int} (ha0 : ws[q0]? = some (a0, .inl (cI, N, .inl (aI f)))) (ha1 : ws[q1]? = some (a, .inl (cI, N, .inl (aI g)))) {index : Nat} (hlink : Cond.methodLink own index arraycopyName ∈ Ts) (hnat : Cond.native arraycopyName ∈ Ts) (hstat : Cond.static arraycopyName ∈ Ts) (hini : Cond.initialized "java/lang/System" ∈ Ts) (hf : Nat.ble 1 R.frames = true) (hlo : Nat.ble ((rest.map fun v => v.category).sum + (nativeFrameWords "java/lang/System" "arraycopy" 5 + 11)) R.locals = true) (hdg : decode cc pc = .ok (.invokestatic index, 3)) (hN : Nat.ble N 2147483647 = true) (hw : ws.set q1 (a, .inl (cI, N, .inl (aI (cpI f g N)))) = ws')
    (kk : ∀ (H1 : Heap) (locs1 : List Loc), va_P D vwCl ws' H1 → va_D A ws' → va_S A H0 H1 locs1 → W p l e R s m args below meth c H1 locs1 cells slots Q (F0 m (pc + 3) ls rest)) : W p l e R s m args below meth c H locs cells slots Q (F0 m pc ls (.int (iI (N : Nat)) :: .int (iI 0) :: .ref a :: .int (iI 0) :: .ref a0 :: rest)) := by
  subst hw
  have hN := Nat.le_of_ble_eq_true hN
  have e0 : (0 : Int32) = iI 0 := rfl
  have h0 : ¬ iI 0 < (0 : Int32) := by rw [e0, iI_lt (by omega)]; omega
  have c0 : (iI 0).toNatClampNeg = 0 := by rw [iI_clamp (by omega)]; rfl
  have cN : (iI (N : Nat)).toNatClampNeg = N := by rw [iI_clamp (by omega)]; omega
  refine va_copyi (ty := .int) S.1 S.2.1 (S.2.2.1.trans hl.symm) S.2.2.2.1 (S.2.2.2.2 _ hlink) (S.2.2.2.2 _ hnat) (S.2.2.2.2 _ hstat) (S.2.2.2.2 _ hini) hK.1 hP hD hS q0 q1 0 0 ha0 ha1 rfl rfl rfl h0 h0 (by rw [e0, iI_lt (by omega)]; omega) (by rw [c0, cN]; omega) (by rw [c0, cN]; omega) (fun i _ => rfl) (Nat.le_of_ble_eq_true hf) (Nat.le_of_ble_eq_true hlo) hdg ?_
  rw [c0, cN, aI_cpy f g N]
  exact kk
end XW
end
section
/-! ends and calls -/
section XC
variable {p : Program} {l : Launch} {e : Env} {R : Room} {s : State} {m : MethodId} {args : Array Value} {below : List Frame} {meth : Method} {c : Code} {H : Heap} {locs : List Loc} {cells slots : Nat} {Q : State → Prop}
variable {cc : ByteArray} {pc nL : Nat} {ls : Array Slot} {rest st0 : List Value} {Ts : List Cond} {own : String} {D : va_G} {cI : ClassId} {ws wc wr : va_W} {A : Nat → Prop} {H0 : Heap} {a b : Nat}
theorem x_iretR (S : CallFix p m c cc nL s args Ts own) (hr : meth.sig.returnType = some .int) (hlk : meth.locks = false) {post : Int32 → Prop} {v : Int32} (hQ : Q = MQ below (vp_Si post) args s cells slots (fun _ => False)) (hdg : decode cc pc = .ok (.ireturn, 1)) (hp : post v) : W p l e R s m args below meth c s.heap [] cells slots Q (F0 m pc ls [.int v]) := by
  rw [hQ]
  exact W.iret S.1 S.2.1 hr (fun t ht _ => ⟨v, rfl, hp, ht⟩) (fun q h => by cases h) hdg hlk
theorem x_zretR (S : CallFix p m c cc nL s args Ts own) (hr : meth.sig.returnType = some .boolean) (hlk : meth.locks = false) {post : Int32 → Prop} {v : Int32} (hQ : Q = MQ below (vp_Si post) args s cells slots (fun _ => False)) (hdg : decode cc pc = .ok (.ireturn, 1)) (hn : narrow .boolean (.int v) = .int v) (hp : post v) : W p l e R s m args below meth c s.heap [] cells slots Q (F0 m pc ls [.int v]) := by
  rw [hQ]
  exact W.zret S.1 S.2.1 hr hn (fun t ht _ => ⟨v, rfl, hp, ht⟩) (fun q h => by cases h) hdg hlk
theorem x_lretR (S : CallFix p m c cc nL s args Ts own) (hr : meth.sig.returnType = some .long) (hlk : meth.locks = false) {post : Int64 → Prop} {v : Int64} (hQ : Q = MQ below (vp_Sl post) args s cells slots (fun _ => False)) (hdg : decode cc pc = .ok (.lreturn, 1)) (hp : post v) : W p l e R s m args below meth c s.heap [] cells slots Q (F0 m pc ls [.long v]) := by
  rw [hQ]
  exact W.lret S.1 S.2.1 hr (fun t ht _ => ⟨v, rfl, hp, ht⟩) (fun q h => by cases h) hdg hlk
theorem x_aretR (S : CallFix p m c cc nL s args Ts own) {C : String} (hr : meth.sig.returnType = some (.object C)) (hlk : meth.locks = false) {post : Nat → Prop} {v : Nat} (hQ : Q = MQ below (va_Sr post (fun k => .ref k)) args s cells slots (fun _ => False)) (hdg : decode cc pc = .ok (.areturn, 1)) (hp : post v) : W p l e R s m args below meth c s.heap [] cells slots Q (F0 m pc ls [.ref v]) := by
  rw [hQ]
  exact W.aret S.1 S.2.1 hr (Or.inl ⟨_, rfl⟩) (Or.inr ⟨_, rfl⟩) (fun t ht _ => ⟨v, rfl, hp, ht⟩) (fun q h => by cases h) hdg hlk
theorem x_iretW (S : CallFix p m c cc nL s args Ts own) (hr : meth.sig.returnType = some .int) (hlk : meth.locks = false) {T : Type} {post : Int32 → T → Prop} {w1 : T → va_W} {v : Int32} (hQ : Q = MQ below (va_Qi post (xB D w1 A) A) args s cells slots A) (hdg : decode cc pc = .ok (.ireturn, 1)) (u : T) (hP : va_P D vwCl (w1 u) H) (hD : va_D A (w1 u)) (hS : va_S A s.heap H locs) (hp : post v u) : W p l e R s m args below meth c H locs cells slots Q (F0 m pc ls [.int v]) := by
  rw [hQ]
  exact W.iret S.1 S.2.1 hr (fun t ht _ => ⟨⟨v, u, rfl, hp, by rw [ht]; exact hP, hD⟩, hS.F ht⟩) hS.2.2 hdg hlk
theorem x_zretW (S : CallFix p m c cc nL s args Ts own) (hr : meth.sig.returnType = some .boolean) (hlk : meth.locks = false) {T : Type} {post : Int32 → T → Prop} {w1 : T → va_W} {v : Int32} (hQ : Q = MQ below (va_Qi post (xB D w1 A) A) args s cells slots A) (hdg : decode cc pc = .ok (.ireturn, 1)) (hn : narrow .boolean (.int v) = .int v) (u : T) (hP : va_P D vwCl (w1 u) H) (hD : va_D A (w1 u)) (hS : va_S A s.heap H locs) (hp : post v u) : W p l e R s m args below meth c H locs cells slots Q (F0 m pc ls [.int v]) := by
  rw [hQ]
  exact W.zret S.1 S.2.1 hr hn (fun t ht _ => ⟨⟨v, u, rfl, hp, by rw [ht]; exact hP, hD⟩, hS.F ht⟩) hS.2.2 hdg hlk
theorem x_vretW (S : CallFix p m c cc nL s args Ts own) (hr : meth.sig.returnType = none) (hlk : meth.locks = false) {T : Type} {post : T → Prop} {w1 : T → va_W} (hQ : Q = MQ below (va_Qv post (xB D w1 A) A) args s cells slots A) (hdg : decode cc pc = .ok (.return_, 1)) (u : T) (hP : va_P D vwCl (w1 u) H) (hD : va_D A (w1 u)) (hS : va_S A s.heap H locs) (hp : post u) : W p l e R s m args below meth c H locs cells slots Q (F0 m pc ls []) := by
  rw [hQ]
  exact W.vret S.1 S.2.1 hr (fun t ht _ => ⟨⟨u, rfl, hp, by rw [ht]; exact hP, hD⟩, hS.F ht⟩) hS.2.2 hdg hlk
variable {y : MethodName} {wsy wsy' : List Cond} {rm : Room} {bytes : ByteArray} {maxL index n mc ms : Nat} {ret : Option FieldType} {As : List Value} {Qc : Array Value → State → Outcome → State → Prop} {free : Addr → Prop}
abbrev kfV (y : MethodName) (C : String) (n : Nat) : Prop := y.cls = C ∧ y.cls ≠ "java/lang/invoke/MethodHandle" ∧ y.cls ≠ "java/lang/invoke/VarHandle" ∧ (parseMethodDescriptor y.desc).map (fun d => d.parameters.length) = some n
theorem x_rmV (S : CallFix p m c cc nL s args Ts own) (hl : ls.size = nL) (hK : xK D cI s) (hM : Met l y wsy rm (xPr (.ref b :: As) D cI wc) Qc 0 0 (fun _ => False)) (hP : va_P D vwCl wc H) {C : String} {ci : Nat} {T : u_T} {N : Nat} {fs : List Value} (q0 : Nat) (he : wc[q0]? = some (b, .inr (ci, fs))) (hc : vwCl[ci]? = some (C, T, N)) (hG : GoodIn Ts (wsV own index C y wsy)) (hw : wsy = Cond.code y bytes maxL ret :: wsy') (hrc : rm.cells = 0) (hrs : rm.slots = 0) (hd : kfV y C n) (hR1 : Nat.ble (rm.frames + 1) R.frames = true) (hR2 : Nat.ble (8 + (maxL + 11) + rm.locals) R.locals = true) (hn : As.length = n) (hst : st0 = As.reverse ++ .ref b :: rest) (hrm : Nat.ble (rest.map fun v => v.category).sum 8 = true) (hdg : decode cc pc = .ok (.invokevirtual index, 3)) (hf1 : Nat.ble cells R.cells = true) (hf2 : Nat.ble slots R.slots = true) :
    CallRun p l e R s m args below meth c H locs cells slots 0 0 (F0 m pc ls st0) rest (Qc (Value.ref b :: As).toArray) (fun _ => False) :=
  W.runV S hM (cwV n S.2.2.2.2 hG hw hrc hrs hd ⟨Nat.le_of_ble_eq_true hR1, Nat.le_of_ble_eq_true hR2⟩) ⟨fun a U g mk q => ⟨q.1, q.2.1, q.2.2.blind g mk a⟩, va_recv hK.1 hP hc he, fun U hU hW => ⟨rfl, by rw [hU]; exact hP, hK.warm hW⟩⟩ rfl hn hl hst (lv_room (Nat.le_of_ble_eq_true hrm)) hdg ⟨Nat.le_of_ble_eq_true hf1, Nat.le_of_ble_eq_true hf2⟩
abbrev kfS (y : MethodName) (n : Nat) : Prop := y.cls ≠ "java/lang/invoke/MethodHandle" ∧ y.cls ≠ "java/lang/invoke/VarHandle" ∧ (parseMethodDescriptor y.desc).map (fun d => d.parameters.length) = some n
theorem x_rmS (S : CallFix p m c cc nL s args Ts own) (hl : ls.size = nL) (hK : xK D cI s) (hM : Met l y wsy rm (xPr As D cI wc) Qc 0 0 (fun _ => False)) (hP : va_P D vwCl wc H) (hG : GoodIn Ts (va_wsS own index y wsy)) (hw : wsy = Cond.code y bytes maxL ret :: wsy') (hrc : rm.cells = 0) (hrs : rm.slots = 0) (hd : kfS y n) (hR1 : Nat.ble (rm.frames + 1) R.frames = true) (hR2 : Nat.ble (8 + (maxL + 11) + rm.locals) R.locals = true) (hn : As.length = n) (hst : st0 = As.reverse ++ rest) (hrm : Nat.ble (rest.map fun v => v.category).sum 8 = true) (hdg : decode cc pc = .ok (.invokestatic index, 3)) (hf1 : Nat.ble cells R.cells = true) (hf2 : Nat.ble slots R.slots = true) :
    CallRun p l e R s m args below meth c H locs cells slots 0 0 (F0 m pc ls st0) rest (Qc As.toArray) (fun _ => False) :=
  W.runS S hM (va_cwS n S.2.2.2.2 hG hw hrc hrs hd ⟨Nat.le_of_ble_eq_true hR1, Nat.le_of_ble_eq_true hR2⟩) ⟨fun a U g mk q => ⟨q.1, q.2.1, q.2.2.blind g mk a⟩, fun U hU hW => ⟨rfl, by rw [hU]; exact hP, hK.warm hW⟩⟩ rfl hn hl hst (lv_room (Nat.le_of_ble_eq_true hrm)) hdg ⟨Nat.le_of_ble_eq_true hf1, Nat.le_of_ble_eq_true hf2⟩
theorem run_drop {g : JFrame} {Qa : State → Outcome → State → Prop} (h : va_Run p l e R s m args below meth c H locs cells slots mc ms g rest Qa free) : CallRun p l e R s m args below meth c H locs cells slots mc ms g rest Qa free := by
  intro T hT X
  obtain ⟨v, st₀, t, T', L, h0, X', hL, e1, e2, hq, st⟩ := h T hT X
  exact ⟨v, st₀, t, T', L, h0, X', hL, e1, hq, st⟩
theorem x_rmSN (S : CallFix p m c cc nL s args Ts own) (hl : ls.size = nL) (hK : xK D cI s) (hM : Met l y wsy rm (xPr As D cI wc) Qc 0 0 (fun _ => False)) (hP : va_P D vwCl wc H) (hG : GoodIn Ts wsy) (hw : wsy = Cond.code y bytes maxL ret :: wsy') (hrc : rm.cells = 0) (hrs : rm.slots = 0) (hnw : va_Nw (.methodLinkNest own index y "SealedBox") s) (hini : Cond.initialized y.cls ∈ Ts) (hstt : Cond.static y ∈ Ts) (hd : kfS y n) (hR1 : Nat.ble (rm.frames + 1) R.frames = true) (hR2 : Nat.ble (8 + (maxL + 11) + rm.locals) R.locals = true) (hn : As.length = n) (hst : st0 = As.reverse ++ rest) (hrm : Nat.ble (rest.map fun v => v.category).sum 8 = true) (hdg : decode cc pc = .ok (.invokestatic index, 3)) (hf1 : Nat.ble cells R.cells = true) (hf2 : Nat.ble slots R.slots = true) :
    CallRun p l e R s m args below meth c H locs cells slots 0 0 (F0 m pc ls st0) rest (Qc As.toArray) (fun _ => False) :=
  run_drop (va_runSN S hM ⟨va_cnB n S.2.2.2.2 hG hw hrc hrs hnw (S.2.2.2.2 _ hini) hd ⟨Nat.le_of_ble_eq_true hR1, Nat.le_of_ble_eq_true hR2⟩, S.2.2.2.2 _ hstt, trivial⟩ ⟨fun a U g mk q => ⟨q.1, q.2.1, q.2.2.blind g mk a⟩, fun U hU hW => ⟨rfl, by rw [hU]; exact hP, hK.warm hW⟩⟩ rfl hn hl hst (lv_room (Nat.le_of_ble_eq_true hrm)) hdg ⟨Nat.le_of_ble_eq_true hf1, Nat.le_of_ble_eq_true hf2⟩)
theorem x_rI {v : Int32} {av : Array Value} (hr : CallRun p l e R s m args below meth c H locs cells slots 0 0 (F0 m pc ls st0) rest (vp_Si (fun r => r = v) av) (fun _ => False)) (kk : W p l e R s m args below meth c H locs cells slots Q (F0 m (pc + 3) ls (.int v :: rest))) : W p l e R s m args below meth c H locs cells slots Q (F0 m pc ls st0) := vp_callSi hr (fun r h => by subst h; exact kk)
theorem x_rA {v : Nat} {av : Array Value} (hr : CallRun p l e R s m args below meth c H locs cells slots 0 0 (F0 m pc ls st0) rest (va_Sr (fun r => r = v) (fun k => .ref k) av) (fun _ => False)) (kk : W p l e R s m args below meth c H locs cells slots Q (F0 m (pc + 3) ls (.ref v :: rest))) : W p l e R s m args below meth c H locs cells slots Q (F0 m pc ls st0) := va_csr hr (fun r h => by subst h; exact kk)
theorem x_rnV (S : CallFix p m c cc nL s args Ts own) (hl : ls.size = nL) (hK : xK D cI s) (hM : Met l y wsy rm (xPw (.ref b :: As) D cI wc H.size) Qc mc ms free) (hP : va_P D vwCl ws H) (hD : va_D A ws) (isC : List Nat) (hs : isC.filterMap (fun i => ws[i]?) = wc) (hsC : isC.map (fun i => ws[i]?) = wc.map some) (hnC : va_nd isC = true) {C : String} {ci : Nat} {T : u_T} {N : Nat} {fs : List Value} (q0 : Nat) (he : wc[q0]? = some (b, .inr (ci, fs))) (hc : vwCl[ci]? = some (C, T, N)) (hG : GoodIn Ts (wsV own index C y wsy)) (hw : wsy = Cond.code y bytes maxL ret :: wsy') (hrc : rm.cells = mc) (hrs : rm.slots = ms) (hd : kfV y C n) (hR1 : Nat.ble (rm.frames + 1) R.frames = true) (hR2 : Nat.ble (8 + (maxL + 11) + rm.locals) R.locals = true) (hn : As.length = n) (hst : st0 = As.reverse ++ .ref b :: rest) (hrm : Nat.ble (rest.map fun v => v.category).sum 8 = true) (hdg : decode cc pc = .ok (.invokevirtual index, 3)) (hf1 : Nat.ble (cells + mc) R.cells = true) (hf2 : Nat.ble (slots + ms) R.slots = true) :
    va_Run p l e R s m args below meth c H locs cells slots mc ms (F0 m pc ls st0) rest (Qc (Value.ref b :: As).toArray) free :=
  have hPc := hP.sub isC hs
  have hDc := hD.sub isC hnC hsC
  va_runV S hM (cwV n S.2.2.2.2 hG hw hrc hrs hd ⟨Nat.le_of_ble_eq_true hR1, Nat.le_of_ble_eq_true hR2⟩) ⟨fun a U g mk q => ⟨q.1, q.2.1, q.2.2.1, q.2.2.2.1.blind g mk a, q.2.2.2.2⟩, va_recv hK.1 hPc hc he, fun U hU hW => ⟨rfl, by rw [hU], by rw [hU]; exact hPc, hK.warm hW, hDc.weaken (fun _ _ _ _ => trivial)⟩⟩ rfl hn hl hst (lv_room (Nat.le_of_ble_eq_true hrm)) hdg ⟨Nat.le_of_ble_eq_true hf1, Nat.le_of_ble_eq_true hf2⟩
theorem x_rnS (S : CallFix p m c cc nL s args Ts own) (hl : ls.size = nL) (hK : xK D cI s) (hM : Met l y wsy rm (xPw As D cI wc H.size) Qc mc ms free) (hP : va_P D vwCl ws H) (hD : va_D A ws) (isC : List Nat) (hs : isC.filterMap (fun i => ws[i]?) = wc) (hsC : isC.map (fun i => ws[i]?) = wc.map some) (hnC : va_nd isC = true) (hG : GoodIn Ts (va_wsS own index y wsy)) (hw : wsy = Cond.code y bytes maxL ret :: wsy') (hrc : rm.cells = mc) (hrs : rm.slots = ms) (hd : kfS y n) (hR1 : Nat.ble (rm.frames + 1) R.frames = true) (hR2 : Nat.ble (8 + (maxL + 11) + rm.locals) R.locals = true) (hn : As.length = n) (hst : st0 = As.reverse ++ rest) (hrm : Nat.ble (rest.map fun v => v.category).sum 8 = true) (hdg : decode cc pc = .ok (.invokestatic index, 3)) (hf1 : Nat.ble (cells + mc) R.cells = true) (hf2 : Nat.ble (slots + ms) R.slots = true) :
    va_Run p l e R s m args below meth c H locs cells slots mc ms (F0 m pc ls st0) rest (Qc As.toArray) free :=
  have hPc := hP.sub isC hs
  have hDc := hD.sub isC hnC hsC
  va_runS S hM (va_cwS n S.2.2.2.2 hG hw hrc hrs hd ⟨Nat.le_of_ble_eq_true hR1, Nat.le_of_ble_eq_true hR2⟩) ⟨fun a U g mk q => ⟨q.1, q.2.1, q.2.2.1, q.2.2.2.1.blind g mk a, q.2.2.2.2⟩, fun U hU hW => ⟨rfl, by rw [hU], by rw [hU]; exact hPc, hK.warm hW, hDc.weaken (fun _ _ _ _ => trivial)⟩⟩ rfl hn hl hst (lv_room (Nat.le_of_ble_eq_true hrm)) hdg ⟨Nat.le_of_ble_eq_true hf1, Nat.le_of_ble_eq_true hf2⟩
theorem x_rnI (S : CallFix p m c cc nL s args Ts own) (hl : ls.size = nL) (hK : xK D cI s) (hM : Met l y wsy rm (xPw (.ref b :: As) D cI wc H.size) Qc mc ms free) (hP : va_P D vwCl ws H) (hD : va_D A ws) (isC : List Nat) (hs : isC.filterMap (fun i => ws[i]?) = wc) (hsC : isC.map (fun i => ws[i]?) = wc.map some) (hnC : va_nd isC = true) (hG : GoodIn Ts wsy) (hw : wsy = Cond.code y bytes maxL none :: wsy') (hrc : rm.cells = mc) (hrs : rm.slots = ms) (hini : Cond.initialized y.cls ∈ Ts) (hml : Cond.methodLink own index y ∈ Ts) (him : Cond.instanceMethod y ∈ Ts) (hy1 : y.name = "<init>") (hd : kfS y n) (hR1 : Nat.ble (rm.frames + 1) R.frames = true) (hR2 : Nat.ble (8 + (maxL + 11) + rm.locals) R.locals = true) (hn : As.length = n) (hst : st0 = As.reverse ++ .ref b :: rest) (hrm : Nat.ble (rest.map fun v => v.category).sum 8 = true) (hdg : decode cc pc = .ok (.invokespecial index, 3)) (hf1 : Nat.ble (cells + mc) R.cells = true) (hf2 : Nat.ble (slots + ms) R.slots = true) :
    va_Run p l e R s m args below meth c H locs cells slots mc ms (F0 m pc ls st0) rest (Qc (Value.ref b :: As).toArray) free :=
  have hPc := hP.sub isC hs
  have hDc := hD.sub isC hnC hsC
  va_runI S hM (cwI n S.2.2.2.2 hG hw hrc hrs (S.2.2.2.2 _ hini) (S.2.2.2.2 _ hml) (S.2.2.2.2 _ him) hy1 hd ⟨Nat.le_of_ble_eq_true hR1, Nat.le_of_ble_eq_true hR2⟩) ⟨fun a U g mk q => ⟨q.1, q.2.1, q.2.2.1, q.2.2.2.1.blind g mk a, q.2.2.2.2⟩, fun U hU hW => ⟨rfl, by rw [hU], by rw [hU]; exact hPc, hK.warm hW, hDc.weaken (fun _ _ _ _ => trivial)⟩⟩ rfl hn hl hst (lv_room (Nat.le_of_ble_eq_true hrm)) hdg ⟨Nat.le_of_ble_eq_true hf1, Nat.le_of_ble_eq_true hf2⟩
theorem x_dis {isC isR : List Nat} (h : isR.all (fun i => !isC.contains i) = true) : ∀ i ∈ isR, i ∉ isC := by
  intro i hi hc
  have := List.all_eq_true.mp h i hi
  simp [hc] at this
theorem x_aI {T : Type} {post : Int32 → T → Prop} {w1 : T → va_W} {av : Array Value} (hP : va_P D vwCl ws H) (hD : va_D A ws) (hS : va_S A H0 H locs) (hA : ∀ q, H0.size ≤ q → A q) (isC isR : List Nat) (hsC : isC.map (fun i => ws[i]?) = wc.map some) (hsR : isR.map (fun i => ws[i]?) = wr.map some) (hnR : va_nd isR = true) (hdis : isR.all (fun i => !isC.contains i) = true) {cs ss : Nat} (hcs : cells + mc = cs) (hss : slots + ms = ss)
    (hr : va_Run p l e R s m args below meth c H locs cells slots mc ms (F0 m pc ls st0) rest (va_Qi post (xB D w1 (va_A wc H.size)) (va_A wc H.size) av) (va_A wc H.size))
    (kk : ∀ (r : Int32) (u : T) (H1 : Heap) (locs1 : List Loc), post r u → va_P D vwCl (wr ++ w1 u) H1 → va_D A (wr ++ w1 u) → va_S A H0 H1 locs1 → W p l e R s m args below meth c H1 locs1 cs ss Q (F0 m (pc + 3) ls (.int r :: rest))) : W p l e R s m args below meth c H locs cells slots Q (F0 m pc ls st0) := by
  subst hcs; subst hss
  have hF := va_free (wc := wc) hD hS hA isC hsC
  refine va_calli hr hS (fun q _ h => hF q h) hF (fun r u t H1 locs1 ht hvm hw hB hz1 hk1 hS1 => ?_)
  obtain ⟨hP1, hD1⟩ := hB
  rw [ht] at hP1
  obtain ⟨hP2, hD2⟩ := va_join (wr := wr) (w1 := w1 u) hP hD isC isR hsC hsR hnR (x_dis hdis) hk1 hF hP1 hD1
  exact kk r u H1 locs1 hw hP2 hD2 hS1
theorem x_aV {T : Type} {post : T → Prop} {w1 : T → va_W} {av : Array Value} (hP : va_P D vwCl ws H) (hD : va_D A ws) (hS : va_S A H0 H locs) (hA : ∀ q, H0.size ≤ q → A q) (isC isR : List Nat) (hsC : isC.map (fun i => ws[i]?) = wc.map some) (hsR : isR.map (fun i => ws[i]?) = wr.map some) (hnR : va_nd isR = true) (hdis : isR.all (fun i => !isC.contains i) = true) {cs ss : Nat} (hcs : cells + mc = cs) (hss : slots + ms = ss)
    (hr : va_Run p l e R s m args below meth c H locs cells slots mc ms (F0 m pc ls st0) rest (va_Qv post (xB D w1 (va_A wc H.size)) (va_A wc H.size) av) (va_A wc H.size))
    (kk : ∀ (u : T) (H1 : Heap) (locs1 : List Loc), post u → va_P D vwCl (wr ++ w1 u) H1 → va_D A (wr ++ w1 u) → va_S A H0 H1 locs1 → W p l e R s m args below meth c H1 locs1 cs ss Q (F0 m (pc + 3) ls rest)) : W p l e R s m args below meth c H locs cells slots Q (F0 m pc ls st0) := by
  subst hcs; subst hss
  have hF := va_free (wc := wc) hD hS hA isC hsC
  refine va_callv hr hS (fun q _ h => hF q h) hF (fun u t H1 locs1 ht hvm hw hB hz1 hk1 hS1 => ?_)
  obtain ⟨hP1, hD1⟩ := hB
  rw [ht] at hP1
  obtain ⟨hP2, hD2⟩ := va_join (wr := wr) (w1 := w1 u) hP hD isC isR hsC hsR hnR (x_dis hdis) hk1 hF hP1 hD1
  exact kk u H1 locs1 hw hP2 hD2 hS1
end XC
end
section
/-! sums, powers, primes: plain words for what both classes reckon -/
def smN (f : Int → Int) : Nat → Int
  | 0 => 0
  | n + 1 => smN f n + f n
def sm (f : Int → Int) (n : Int) : Int := smN f n.toNat
theorem sm_0 (f : Int → Int) : sm f 0 = 0 := rfl
theorem sm_s (f : Int → Int) {n : Int} (h : 0 ≤ n) : sm f (n + 1) = sm f n + f n := by
  unfold sm
  rw [show (n + 1).toNat = n.toNat + 1 by omega]
  show smN f n.toNat + f (n.toNat : Int) = _
  rw [Int.toNat_of_nonneg h]
theorem smN_congr {f g : Int → Int} : ∀ {n : Nat}, (∀ i : Int, 0 ≤ i → i < n → f i = g i) → smN f n = smN g n
  | 0, _ => rfl
  | n + 1, h => by
    show smN f n + f n = smN g n + g n
    rw [smN_congr (fun i h1 h2 => h i h1 (by omega)), h n (by omega) (by omega)]
theorem sm_congr {f g : Int → Int} {n : Int} (h : ∀ i : Int, 0 ≤ i → i < n → f i = g i) : sm f n = sm g n := smN_congr (fun i h1 h2 => h i h1 (by omega))
theorem smN_bound {f : Int → Int} {B : Int} : ∀ {n : Nat}, (∀ i : Int, 0 ≤ i → i < n → 0 ≤ f i ∧ f i ≤ B) → 0 ≤ smN f n ∧ smN f n ≤ n * B
  | 0, _ => ⟨Int.le_refl 0, by rw [Int.ofNat_zero, Int.zero_mul]; exact Int.le_refl 0⟩
  | n + 1, h => by
    have h1 := smN_bound (n := n) (fun i a b => h i a (by omega))
    have h2 := h n (by omega) (by omega)
    show 0 ≤ smN f n + f n ∧ smN f n + f n ≤ _
    have e : ((n + 1 : Nat) : Int) * B = n * B + B := by rw [Int.natCast_add, Int.add_mul]; omega
    rw [e]
    omega
theorem sm_bound {f : Int → Int} {B n : Int} (hn : 0 ≤ n) (h : ∀ i : Int, 0 ≤ i → i < n → 0 ≤ f i ∧ f i ≤ B) : 0 ≤ sm f n ∧ sm f n ≤ n * B := by
  have := smN_bound (n := n.toNat) (B := B) (fun i a b => h i a (by omega))
  rw [Int.toNat_of_nonneg hn] at this
  exact this
theorem smN_mod (f : Int → Int) (P : Int) : ∀ n : Nat, smN (fun i => f i % P) n % P = smN f n % P
  | 0 => rfl
  | n + 1 => by
    show (smN (fun i => f i % P) n + f n % P) % P = (smN f n + f n) % P
    rw [Int.add_emod, smN_mod f P n, Int.emod_emod, ← Int.add_emod]
theorem sm_mod (f : Int → Int) (P n : Int) : sm (fun i => f i % P) n % P = sm f n % P := smN_mod f P n.toNat
def pwN (P v : Int) : Nat → Int
  | 0 => 1
  | n + 1 => pwN P v n * v % P
def pw (P v e : Int) : Int := pwN P v e.toNat
theorem pw_0 (P v : Int) : pw P v 0 = 1 := rfl
theorem pw_s (P v : Int) {e : Int} (h : 0 ≤ e) : pw P v (e + 1) = pw P v e * v % P := by
  unfold pw
  rw [show (e + 1).toNat = e.toNat + 1 by omega]
  rfl
theorem pwN_in {P : Int} (hP : 2 ≤ P) (v : Int) : ∀ n : Nat, 0 ≤ pwN P v n ∧ pwN P v n < P
  | 0 => by show (0 : Int) ≤ 1 ∧ (1 : Int) < P; omega
  | n + 1 => ⟨Int.emod_nonneg _ (by omega), Int.emod_lt_of_pos _ (by omega)⟩
theorem pw_in {P : Int} (hP : 2 ≤ P) (v e : Int) : 0 ≤ pw P v e ∧ pw P v e < P := pwN_in hP v _
theorem emB {P : Int} (hP : 0 < P) (a : Int) : 0 ≤ a % P ∧ a % P < P := ⟨Int.emod_nonneg a (by omega), Int.emod_lt_of_pos a hP⟩
theorem mulB {a b : Int} (h : 0 ≤ a ∧ a ≤ 1000 ∧ 0 ≤ b ∧ b ≤ 1000) : 0 ≤ a * b ∧ a * b ≤ 1000000 := ⟨Int.mul_nonneg h.1 h.2.2.1, Int.le_trans (Int.mul_le_mul_of_nonneg_left h.2.2.2 h.1) (by omega)⟩
/-- no divisor from 2 on whose square is at most n -/
def prmB (n : Int) : Bool := (List.range 32).all (fun d => decide ((d : Int) < 2) || decide (n < (d : Int) * d) || decide (n % (d : Int) ≠ 0))
abbrev prm (n : Int) : Prop := prmB n = true
theorem prm_no {n d : Int} (hn : n ≤ 997) (h2 : 2 ≤ d) (hd : d * d ≤ n) (h0 : n % d = 0) : ¬ prm n := by
  intro h
  have hd32 : d < 32 := by
    rcases Int.lt_or_le d 32 with q | q
    · exact q
    · have := Int.mul_le_mul q q (by omega) (by omega)
      omega
  obtain ⟨k, rfl⟩ := Int.eq_ofNat_of_zero_le (show 0 ≤ d by omega)
  have := List.all_eq_true.mp h k (List.mem_range.mpr (by omega))
  simp only [Bool.or_eq_true, decide_eq_true_eq] at this
  rcases this with (q | q) | q
  · omega
  · omega
  · exact q h0
theorem prm_yes {n d : Int} (h : ∀ j : Int, 2 ≤ j → j < d → n % j ≠ 0) (hd : n < d * d) (h2 : 2 ≤ d) : prm n := by
  refine List.all_eq_true.mpr (fun k hk => ?_)
  simp only [Bool.or_eq_true, decide_eq_true_eq]
  rcases Int.lt_or_le (k : Int) 2 with q | q
  · exact Or.inl (Or.inl q)
  · rcases Int.lt_or_le (k : Int) d with q2 | q2
    · exact Or.inr (h k q q2)
    · refine Or.inl (Or.inr ?_)
      have := Int.mul_le_mul q2 q2 (by omega) (by omega)
      omega
abbrev okP (P : Int) : Prop := 5 ≤ P ∧ P ≤ 997 ∧ prm P
theorem prm_div {P d : Int} (h : okP P) (h2 : 2 ≤ d) (hd : d < P) : P % d ≠ 0 := by
  intro h0
  have e := Int.mul_ediv_add_emod P d
  rw [h0, Int.add_zero] at e
  generalize hq : P / d = q at e
  have hq1 : 2 ≤ q := by
    rcases Int.lt_or_le q 2 with z | z
    · have h3 : d * q ≤ d * 1 := Int.mul_le_mul_of_nonneg_left (by omega) (by omega)
      omega
    · exact z
  rcases Int.le_total d q with z | z
  · exact prm_no h.2.1 h2 (by have := Int.mul_le_mul_of_nonneg_left z (show 0 ≤ d by omega); omega) h0 h.2.2
  · refine prm_no (d := q) h.2.1 hq1 (by have := Int.mul_le_mul_of_nonneg_right z (show 0 ≤ q by omega); omega) ?_ h.2.2
    rw [← e]
    exact Int.mul_emod_left d q
end
section
/-! PrimeField: reads -/
theorem h_X4_has_X4 : ∀ w ∈ u_ws RX4 TX4 2, w ∈ wsX4_has := fun w h => List.mem_cons_of_mem _ (List.mem_append_right _ h)
theorem m_X4_has_1 : Cond.fieldLink RX4 15 "SealedBox$PrimeField" "p" "I" ∈ wsX4_has := List.mem_of_getElem? (i := 1) rfl
abbrev rm_X4_has : Room := { frames := 0, cells := 0, slots := 0, locals := 0 }
set_option maxHeartbeats 4000000 in
set_option maxRecDepth 100000 in
theorem c_X4_has (jl : Launch) (D : va_G) (cI : ClassId) (h4 q4 : Nat) (P v : Int)  (hP5 : 5 ≤ P ∧ P ≤ 997) (hv : -2147483648 ≤ v ∧ v < 2147483648) : Met jl yX4_has wsX4_has rm_X4_has (xPr [.ref h4, .int (iI v)] D cI [(h4, .inr (4, [.ref q4, .int (iI P)]))]) (vp_Si (fun r => r = (iI (bI (0 ≤ v ∧ v < P))))) 0 0 (fun _ => False) := by
  refine x_metR (own := RX4) (cc := cX4_has) (maxL := 2) (ret := (some .boolean)) (by decide) rfl rfl rfl ?_
  intro jp je js jm ja jb jt jc jQ jS jr jk jq hK hP ls hl
  have hl : lv_has ls 2 [(0, .ref h4), (1, .int (iI v))] := hl
  refine x_iln jS dX4_has_0 rfl hl 1 rfl ?_
  refine x_iflt jS 16 dX4_has_1 (by decide) (by omega) (fun hc1 => ?_) (fun hc1 => ?_)
  · skip
    refine x_ic jS dX4_has_16 ?_
    exact x_zretR jS jr jk jq dX4_has_17 rfl (congrArg iI (bI_f (by omega)).symm)
  · skip
    refine x_iln jS dX4_has_4 rfl hl 1 rfl ?_
    refine x_aln jS dX4_has_5 rfl hl 0 rfl ?_
    refine x_get jS hK hP h_X4_has_X4 0 rfl rfl 1 rfl m_X4_has_1 rfl dX4_has_6 ?_
    refine x_cmpge jS 16 dX4_has_9 (by decide) (by omega) (fun hc9 => ?_) (fun hc9 => ?_)
    · skip
      refine x_ic jS dX4_has_16 ?_
      exact x_zretR jS jr jk jq dX4_has_17 rfl (congrArg iI (bI_f (by omega)).symm)
    · skip
      refine x_ic jS dX4_has_12 ?_
      refine x_goto jS 17 dX4_has_13 (by decide) ?_
      exact x_zretR jS jr jk jq dX4_has_17 rfl (congrArg iI (bI_t (by omega)).symm)
theorem h_X4_times_X4 : ∀ w ∈ u_ws RX4 TX4 2, w ∈ wsX4_times := fun w h => List.mem_cons_of_mem _ (List.mem_append_right _ h)
theorem m_X4_times_1 : Cond.fieldLink RX4 15 "SealedBox$PrimeField" "p" "I" ∈ wsX4_times := List.mem_of_getElem? (i := 1) rfl
abbrev rm_X4_times : Room := { frames := 0, cells := 0, slots := 0, locals := 0 }
set_option maxHeartbeats 4000000 in
set_option maxRecDepth 100000 in
theorem c_X4_times (jl : Launch) (D : va_G) (cI : ClassId) (h4 q4 : Nat) (P v w : Int)  (hP5 : 5 ≤ P ∧ P ≤ 997) (hv : 0 ≤ v ∧ v ≤ 1000) (hw : 0 ≤ w ∧ w ≤ 1000) : Met jl yX4_times wsX4_times rm_X4_times (xPr [.ref h4, .int (iI v), .int (iI w)] D cI [(h4, .inr (4, [.ref q4, .int (iI P)]))]) (vp_Si (fun r => r = (iI (v * w % P)))) 0 0 (fun _ => False) := by
  refine x_metR (own := RX4) (cc := cX4_times) (maxL := 3) (ret := (some .int)) (by decide) rfl rfl rfl ?_
  intro jp je js jm ja jb jt jc jQ jS jr jk jq hK hP ls hl
  have hl : lv_has ls 3 [(0, .ref h4), (1, .int (iI v)), (2, .int (iI w))] := hl
  refine x_iln jS dX4_times_0 rfl hl 1 rfl ?_
  refine x_iln jS dX4_times_1 rfl hl 2 rfl ?_
  refine x_imulB jS dX4_times_2 (by omega) (fun hp2 => ?_)
  refine x_aln jS dX4_times_3 rfl hl 0 rfl ?_
  refine x_get jS hK hP h_X4_times_X4 0 rfl rfl 1 rfl m_X4_times_1 rfl dX4_times_4 ?_
  refine x_irem jS dX4_times_7 (by omega) (fun hm7 => ?_)
  exact x_iretR jS jr jk jq dX4_times_8 (rfl)
theorem h_X4_plus_X4 : ∀ w ∈ u_ws RX4 TX4 2, w ∈ wsX4_plus := fun w h => List.mem_cons_of_mem _ (List.mem_append_right _ h)
theorem m_X4_plus_1 : Cond.fieldLink RX4 15 "SealedBox$PrimeField" "p" "I" ∈ wsX4_plus := List.mem_of_getElem? (i := 1) rfl
abbrev rm_X4_plus : Room := { frames := 0, cells := 0, slots := 0, locals := 0 }
set_option maxHeartbeats 4000000 in
set_option maxRecDepth 100000 in
theorem c_X4_plus (jl : Launch) (D : va_G) (cI : ClassId) (h4 q4 : Nat) (P v w : Int)  (hP5 : 5 ≤ P ∧ P ≤ 997) (hv : 0 ≤ v ∧ v ≤ 1000) (hw : 0 ≤ w ∧ w ≤ 1000) : Met jl yX4_plus wsX4_plus rm_X4_plus (xPr [.ref h4, .int (iI v), .int (iI w)] D cI [(h4, .inr (4, [.ref q4, .int (iI P)]))]) (vp_Si (fun r => r = (iI ((v + w) % P)))) 0 0 (fun _ => False) := by
  refine x_metR (own := RX4) (cc := cX4_plus) (maxL := 3) (ret := (some .int)) (by decide) rfl rfl rfl ?_
  intro jp je js jm ja jb jt jc jQ jS jr jk jq hK hP ls hl
  have hl : lv_has ls 3 [(0, .ref h4), (1, .int (iI v)), (2, .int (iI w))] := hl
  refine x_iln jS dX4_plus_0 rfl hl 1 rfl ?_
  refine x_iln jS dX4_plus_1 rfl hl 2 rfl ?_
  refine x_iadd jS dX4_plus_2 ?_
  refine x_aln jS dX4_plus_3 rfl hl 0 rfl ?_
  refine x_get jS hK hP h_X4_plus_X4 0 rfl rfl 1 rfl m_X4_plus_1 rfl dX4_plus_4 ?_
  refine x_irem jS dX4_plus_7 (by omega) (fun hm7 => ?_)
  exact x_iretR jS jr jk jq dX4_plus_8 (rfl)
theorem h_X4_less_X4 : ∀ w ∈ u_ws RX4 TX4 2, w ∈ wsX4_less := fun w h => List.mem_cons_of_mem _ (List.mem_append_right _ h)
theorem m_X4_less_1 : Cond.fieldLink RX4 15 "SealedBox$PrimeField" "p" "I" ∈ wsX4_less := List.mem_of_getElem? (i := 1) rfl
abbrev rm_X4_less : Room := { frames := 0, cells := 0, slots := 0, locals := 0 }
set_option maxHeartbeats 4000000 in
set_option maxRecDepth 100000 in
theorem c_X4_less (jl : Launch) (D : va_G) (cI : ClassId) (h4 q4 : Nat) (P v w : Int)  (hP5 : 5 ≤ P ∧ P ≤ 997) (hv : 0 ≤ v ∧ v ≤ 1000) (hw : 0 ≤ w ∧ w ≤ P) : Met jl yX4_less wsX4_less rm_X4_less (xPr [.ref h4, .int (iI v), .int (iI w)] D cI [(h4, .inr (4, [.ref q4, .int (iI P)]))]) (vp_Si (fun r => r = (iI ((v + P - w) % P)))) 0 0 (fun _ => False) := by
  refine x_metR (own := RX4) (cc := cX4_less) (maxL := 3) (ret := (some .int)) (by decide) rfl rfl rfl ?_
  intro jp je js jm ja jb jt jc jQ jS jr jk jq hK hP ls hl
  have hl : lv_has ls 3 [(0, .ref h4), (1, .int (iI v)), (2, .int (iI w))] := hl
  refine x_iln jS dX4_less_0 rfl hl 1 rfl ?_
  refine x_aln jS dX4_less_1 rfl hl 0 rfl ?_
  refine x_get jS hK hP h_X4_less_X4 0 rfl rfl 1 rfl m_X4_less_1 rfl dX4_less_2 ?_
  refine x_iadd jS dX4_less_5 ?_
  refine x_iln jS dX4_less_6 rfl hl 2 rfl ?_
  refine x_isub jS dX4_less_7 ?_
  refine x_aln jS dX4_less_8 rfl hl 0 rfl ?_
  refine x_get jS hK hP h_X4_less_X4 0 rfl rfl 1 rfl m_X4_less_1 rfl dX4_less_9 ?_
  refine x_irem jS dX4_less_12 (by omega) (fun hm12 => ?_)
  exact x_iretR jS jr jk jq dX4_less_13 (rfl)
theorem h_X4_over_X4 : ∀ w ∈ u_ws RX4 TX4 2, w ∈ wsX4_over := fun w h => List.mem_cons_of_mem _ (List.mem_append_right _ h)
theorem m_X4_over_1 : Cond.fieldLink RX4 15 "SealedBox$PrimeField" "p" "I" ∈ wsX4_over := List.mem_of_getElem? (i := 1) rfl
theorem m_X4_over_2 : Cond.fieldLink RX4 9 "SealedBox$PrimeField" "inverses" "[I" ∈ wsX4_over := List.mem_of_getElem? (i := 2) rfl
abbrev rm_X4_over : Room := { frames := 0, cells := 0, slots := 0, locals := 0 }
set_option maxHeartbeats 4000000 in
set_option maxRecDepth 100000 in
theorem c_X4_over (jl : Launch) (D : va_G) (cI : ClassId) (h4 q4 : Nat) (P v w : Int) (iv : Int → Int)  (hP5 : 5 ≤ P ∧ P ≤ 997) (hv : 0 ≤ v ∧ v ≤ 1000) (hw : 0 < w ∧ w < P) (hi : 0 ≤ iv w ∧ iv w < P) : Met jl yX4_over wsX4_over rm_X4_over (xPr [.ref h4, .int (iI v), .int (iI w)] D cI [(h4, .inr (4, [.ref q4, .int (iI P)])), (q4, .inl (cI, 997, .inl (aI iv)))]) (vp_Si (fun r => r = (iI (v * iv w % P)))) 0 0 (fun _ => False) := by
  refine x_metR (own := RX4) (cc := cX4_over) (maxL := 3) (ret := (some .int)) (by decide) rfl rfl rfl ?_
  intro jp je js jm ja jb jt jc jQ jS jr jk jq hK hP ls hl
  have hl : lv_has ls 3 [(0, .ref h4), (1, .int (iI v)), (2, .int (iI w))] := hl
  refine x_iln jS dX4_over_0 rfl hl 2 rfl ?_
  refine x_ifle jS 37 dX4_over_1 (by decide) (by omega) (fun hc1 => ?_) (fun hc1 => ?_)
  · exfalso; omega
  refine x_iln jS dX4_over_4 rfl hl 2 rfl ?_
  refine x_aln jS dX4_over_5 rfl hl 0 rfl ?_
  refine x_get jS hK hP h_X4_over_X4 0 rfl rfl 1 rfl m_X4_over_1 rfl dX4_over_6 ?_
  refine x_cmpge jS 37 dX4_over_9 (by decide) (by omega) (fun hc9 => ?_) (fun hc9 => ?_)
  · exfalso; omega
  refine x_iln jS dX4_over_12 rfl hl 2 rfl ?_
  refine x_aln jS dX4_over_13 rfl hl 0 rfl ?_
  refine x_get jS hK hP h_X4_over_X4 0 rfl rfl 0 rfl m_X4_over_2 rfl dX4_over_14 ?_
  refine x_alen jS hK hP 1 rfl dX4_over_17 ?_
  refine x_cmpge jS 37 dX4_over_18 (by decide) (by omega) (fun hc18 => ?_) (fun hc18 => ?_)
  · exfalso; omega
  refine x_iln jS dX4_over_21 rfl hl 1 rfl ?_
  refine x_aln jS dX4_over_22 rfl hl 0 rfl ?_
  refine x_get jS hK hP h_X4_over_X4 0 rfl rfl 0 rfl m_X4_over_2 rfl dX4_over_23 ?_
  refine x_iln jS dX4_over_26 rfl hl 2 rfl ?_
  refine x_iald jS hK hP 1 rfl (by omega) dX4_over_27 ?_
  refine x_imulB jS dX4_over_28 (by omega) (fun hp28 => ?_)
  refine x_aln jS dX4_over_29 rfl hl 0 rfl ?_
  refine x_get jS hK hP h_X4_over_X4 0 rfl rfl 1 rfl m_X4_over_1 rfl dX4_over_30 ?_
  refine x_irem jS dX4_over_33 (by omega) (fun hm33 => ?_)
  refine x_goto jS 38 dX4_over_34 (by decide) ?_
  exact x_iretR jS jr jk jq dX4_over_38 (rfl)
theorem h_X4_power_X4 : ∀ w ∈ u_ws RX4 TX4 2, w ∈ wsX4_power := fun w h => List.mem_cons_of_mem _ (List.mem_append_right _ h)
theorem m_X4_power_1 : Cond.fieldLink RX4 15 "SealedBox$PrimeField" "p" "I" ∈ wsX4_power := List.mem_of_getElem? (i := 1) rfl
abbrev rm_X4_power : Room := { frames := 0, cells := 0, slots := 0, locals := 0 }
set_option maxHeartbeats 4000000 in
set_option maxRecDepth 100000 in
theorem c_X4_power (jl : Launch) (D : va_G) (cI : ClassId) (h4 q4 : Nat) (P v ex : Int)  (hP5 : 5 ≤ P ∧ P ≤ 997) (hv : 0 ≤ v ∧ v ≤ 1000) (he : 0 ≤ ex ∧ ex ≤ 1000) : Met jl yX4_power wsX4_power rm_X4_power (xPr [.ref h4, .int (iI v), .int (iI ex)] D cI [(h4, .inr (4, [.ref q4, .int (iI P)]))]) (vp_Si (fun r => r = (iI (pw P v ex)))) 0 0 (fun _ => False) := by
  refine x_metR (own := RX4) (cc := cX4_power) (maxL := 5) (ret := (some .int)) (by decide) rfl rfl rfl ?_
  intro jp je js jm ja jb jt jc jQ jS jr jk jq hK hP ls hl
  have hl : lv_has ls 5 [(0, .ref h4), (1, .int (iI v)), (2, .int (iI ex))] := hl
  refine x_ic jS dX4_power_0 ?_
  refine x_isn (lv' := [(3, .int (iI 1)), (0, .ref h4), (1, .int (iI v)), (2, .int (iI ex))]) jS dX4_power_1 rfl hl rfl rfl (fun ls hl => ?_)
  refine x_ic jS dX4_power_2 ?_
  refine x_is (lv' := [(4, .int (iI 0)), (3, .int (iI 1)), (0, .ref h4), (1, .int (iI v)), (2, .int (iI ex))]) jS dX4_power_3 hl rfl rfl (fun ls hl => ?_)
  have loop_5 : ∀ (mm : Nat) (r : Int) (i : Int), (ex - i).toNat = mm → (0 ≤ i ∧ i ≤ ex) → (r = pw P v i) → ∀ ls : Array Slot, lv_has ls 5 [(4, .int (iI i)), (3, .int (iI r)), (0, .ref h4), (1, .int (iI v)), (2, .int (iI ex))] → W jp jl je rm_X4_power js jm ja jb jt jc js.heap [] 0 0 jQ (F0 jm 5 ls []) := by
    intro mm
    induction mm using Nat.strongRecOn with
    | ind mm ih5 =>
      intro r i hmm5 hi hr ls hl
      have hrb := pw_in (show 2 ≤ P by omega) v i
      rw [← hr] at hrb
      refine x_il jS dX4_power_5 hl 0 rfl ?_
      refine x_iln jS dX4_power_7 rfl hl 4 rfl ?_
      refine x_cmpge jS 26 dX4_power_8 (by decide) (by omega) (fun hc8 => ?_) (fun hc8 => ?_)
      · skip
        refine x_iln jS dX4_power_26 rfl hl 1 rfl ?_
        exact x_iretR jS jr jk jq dX4_power_27 (by rw [hr, show i = ex by omega])
      · skip
        refine x_iln jS dX4_power_11 rfl hl 1 rfl ?_
        refine x_iln jS dX4_power_12 rfl hl 3 rfl ?_
        refine x_imulB jS dX4_power_13 (by omega) (fun hp13 => ?_)
        refine x_aln jS dX4_power_14 rfl hl 2 rfl ?_
        refine x_get jS hK hP h_X4_power_X4 0 rfl rfl 1 rfl m_X4_power_1 rfl dX4_power_15 ?_
        refine x_irem jS dX4_power_18 (by omega) (fun hm18 => ?_)
        refine x_isn (lv' := [(3, .int (iI ((r * v) % P))), (4, .int (iI i)), (0, .ref h4), (1, .int (iI v)), (2, .int (iI ex))]) jS dX4_power_19 rfl hl rfl rfl (fun ls hl => ?_)
        refine x_iinc (lv' := [(4, .int (iI (i + 1))), (3, .int (iI ((r * v) % P))), (0, .ref h4), (1, .int (iI v)), (2, .int (iI ex))]) jS dX4_power_20 hl 1 rfl rfl rfl (fun ls hl => ?_)
        refine x_goto jS 5 dX4_power_23 (by decide) ?_
        exact ih5 _ (by omega) ((r * v) % P) (i + 1) rfl (by omega) (by rw [pw_s P v hi.1, ← hr]) ls (lv_sub hl [0, 1, 2, 3, 4] rfl)
  exact loop_5 _ 1 0 rfl (by omega) (pw_0 P v |>.symm) ls (lv_sub hl [0, 1, 2, 3, 4] rfl)
end
section
/-! the table of inverses; letters, terms, answers -/
def tbl (P : Int) (iv : Int → Int) : Prop := ∀ w : Int, 0 < w → w < P → 0 ≤ iv w ∧ iv w < P ∧ w * iv w % P = 1
theorem inv_step {P i x : Int} (h : (P % i) * x % P = 1) : i * ((P - P / i) * x % P) % P = 1 := by
  have e := Int.mul_ediv_add_emod P i
  rw [Int.mul_emod, Int.emod_emod, ← Int.mul_emod]
  have e2 : i * ((P - P / i) * x) = (P % i) * x + P * (i * x - x) := by
    generalize P / i = q at e ⊢
    generalize P % i = r at e ⊢
    subst e
    grind
  rw [e2, Int.add_mul_emod_self_left, h]
def ltr (P sh sc k v e : Int) : Int := if k = 2 then sc * pw P ((v + sh) % P) e % P else if k = 1 then pw P ((v + sh) % P) e else pw P v e
theorem ltr_2 {P sh sc k v e : Int} (h : k = 2) : ltr P sh sc k v e = sc * pw P ((v + sh) % P) e % P := if_pos h
theorem ltr_1 {P sh sc k v e : Int} (h : k = 1) : ltr P sh sc k v e = pw P ((v + sh) % P) e := by unfold ltr; rw [if_neg (by omega), if_pos h]
theorem ltr_0 {P sh sc k v e : Int} (h : k ≠ 2) (h1 : k ≠ 1) : ltr P sh sc k v e = pw P v e := by unfold ltr; rw [if_neg h, if_neg h1]
theorem ltr_in {P : Int} (hP : 2 ≤ P) (sh sc k v e : Int) : 0 ≤ ltr P sh sc k v e ∧ ltr P sh sc k v e < P := by
  unfold ltr
  split
  · exact emB (by omega) _
  · split
    · exact pw_in hP _ _
    · exact pw_in hP _ _
def cC (pt : Int → Int) (j : Int) : Int → Int := fun t => pt (t * 4 + j)
def of2 (P sh sc k : Int) (co ex ey : Int → Int) (x y t : Int) : Int := co t * ltr P sh sc k x (ex t) % P * ltr P sh sc k y (ey t) % P
def tmg (P sh sc k : Int) (co ex ey ez : Int → Int) (x y z t : Int) : Int := of2 P sh sc k co ex ey x y t * ltr P sh sc k z (ez t)
def ans (P sh sc k n : Int) (co ex ey ez : Int → Int) (x y z : Int) : Int := sm (tmg P sh sc k co ex ey ez x y z) n % P
theorem of2_in {P : Int} (hP : 2 ≤ P) (sh sc k : Int) (co ex ey : Int → Int) (x y t : Int) : 0 ≤ of2 P sh sc k co ex ey x y t ∧ of2 P sh sc k co ex ey x y t < P := emB (by omega) _
theorem ans_in {P : Int} (hP : 2 ≤ P) (sh sc k n : Int) (co ex ey ez : Int → Int) (x y z : Int) : 0 ≤ ans P sh sc k n co ex ey ez x y z ∧ ans P sh sc k n co ex ey ez x y z < P := emB (by omega) _
/-- a box's terms are in their bounds -/
def bxOK (P n : Int) (pt : Int → Int) : Prop := ∀ t : Int, 0 ≤ t → t < n → (0 ≤ pt (t * 4 + 0) ∧ pt (t * 4 + 0) < P) ∧ (0 ≤ pt (t * 4 + 1) ∧ pt (t * 4 + 1) ≤ 4) ∧ (0 ≤ pt (t * 4 + 2) ∧ pt (t * 4 + 2) ≤ 4) ∧ (0 ≤ pt (t * 4 + 3) ∧ pt (t * 4 + 3) ≤ 4)
def pt4 (pt : Int → Int) (n co a b c : Int) : Int → Int := uI (uI (uI (uI pt (n * 4 + 0) co) (n * 4 + 1) a) (n * 4 + 2) b) (n * 4 + 3) c
theorem bxOK_add {P n : Int} {pt : Int → Int} {co a b c : Int} (h : bxOK P n pt) (h1 : 0 ≤ co ∧ co < P) (h2 : 0 ≤ a ∧ a ≤ 4) (h3 : 0 ≤ b ∧ b ≤ 4) (h4 : 0 ≤ c ∧ c ≤ 4) : bxOK P (n + 1) (pt4 pt n co a b c) := by
  intro t ht0 ht
  unfold pt4 uI
  by_cases e : t = n
  · subst e
    refine ⟨?_, ?_, ?_, ?_⟩
    · rw [if_neg (by omega), if_neg (by omega), if_neg (by omega), if_pos rfl]; exact h1
    · rw [if_neg (by omega), if_neg (by omega), if_pos rfl]; exact h2
    · rw [if_neg (by omega), if_pos rfl]; exact h3
    · rw [if_pos rfl]; exact h4
  · have := h t ht0 (by omega)
    refine ⟨?_, ?_, ?_, ?_⟩ <;> (rw [if_neg (by omega), if_neg (by omega), if_neg (by omega), if_neg (by omega)])
    · exact this.1
    · exact this.2.1
    · exact this.2.2.1
    · exact this.2.2.2
end
section
/-! PrimeField: table; Bases; Box: reads, drop, add -/
abbrev rm_X4_isPrime : Room := { frames := 0, cells := 0, slots := 0, locals := 0 }
set_option maxHeartbeats 4000000 in
set_option maxRecDepth 100000 in
theorem c_X4_isPrime (jl : Launch) (D : va_G) (cI : ClassId) (v : Int)  (hv : 5 ≤ v ∧ v ≤ 997) : Met jl yX4_isPrime wsX4_isPrime rm_X4_isPrime (xPr [.int (iI v)] D cI []) (vp_Si (fun r => r = (iI (bI (prm v))))) 0 0 (fun _ => False) := by
  refine x_metR (own := RX4) (cc := cX4_isPrime) (maxL := 2) (ret := (some .boolean)) (by decide) rfl rfl rfl ?_
  intro jp je js jm ja jb jt jc jQ jS jr jk jq hK hP ls hl
  have hl : lv_has ls 2 [(0, .int (iI v))] := hl
  refine x_ic jS dX4_isPrime_0 ?_
  refine x_isn (lv' := [(1, .int (iI 2)), (0, .int (iI v))]) jS dX4_isPrime_1 rfl hl rfl rfl (fun ls hl => ?_)
  have loop_2 : ∀ (mm : Nat) (d : Int), (v - d).toNat = mm → (2 ≤ d ∧ d ≤ 32) → (∀ j : Int, 2 ≤ j → j < d → v % j ≠ 0) → ∀ ls : Array Slot, lv_has ls 2 [(1, .int (iI d)), (0, .int (iI v))] → W jp jl je rm_X4_isPrime js jm ja jb jt jc js.heap [] 0 0 jQ (F0 jm 2 ls []) := by
    intro mm
    induction mm using Nat.strongRecOn with
    | ind mm ih2 =>
      intro d hmm2 hd hj ls hl
      refine x_iln jS dX4_isPrime_2 rfl hl 0 rfl ?_
      refine x_iln jS dX4_isPrime_3 rfl hl 0 rfl ?_
      refine x_imulB jS dX4_isPrime_4 (by omega) (fun hp4 => ?_)
      refine x_iln jS dX4_isPrime_5 rfl hl 1 rfl ?_
      refine x_cmpgt jS 23 dX4_isPrime_6 (by decide) (by omega) (fun hc6 => ?_) (fun hc6 => ?_)
      · skip
        refine x_iln jS dX4_isPrime_23 rfl hl 1 rfl ?_
        refine x_ic jS dX4_isPrime_24 ?_
        refine x_cmple jS 32 dX4_isPrime_25 (by decide) (by omega) (fun hc25 => ?_) (fun hc25 => ?_)
        · exfalso; omega
        refine x_ic jS dX4_isPrime_28 ?_
        refine x_goto jS 33 dX4_isPrime_29 (by decide) ?_
        exact x_zretR jS jr jk jq dX4_isPrime_33 rfl (congrArg iI (bI_t (prm_yes hj hc6 hd.1)).symm)
      · skip
        refine x_iln jS dX4_isPrime_9 rfl hl 1 rfl ?_
        refine x_iln jS dX4_isPrime_10 rfl hl 0 rfl ?_
        refine x_irem jS dX4_isPrime_11 (by omega) (fun hm11 => ?_)
        refine x_ifne jS 17 dX4_isPrime_12 (by decide) (by omega) (fun hc12 => ?_) (fun hc12 => ?_)
        · skip
          have hdv : d < v := by
            have := Int.mul_le_mul_of_nonneg_left (show (2:Int) ≤ d by omega) (show 0 ≤ d by omega); omega
          refine x_iinc (lv' := [(1, .int (iI (d + 1))), (0, .int (iI v))]) jS dX4_isPrime_17 hl 0 rfl rfl rfl (fun ls hl => ?_)
          refine x_goto jS 2 dX4_isPrime_20 (by decide) ?_
          have hd31 : d < 32 := by
            rcases Int.lt_or_le d 32 with z | z
            · exact z
            · have := Int.mul_le_mul z z (by omega) (by omega); omega
          exact ih2 _ (by omega) (d + 1) rfl (by omega) (fun j h1 h2 => by rcases Int.lt_or_le j d with z | z; exact hj j h1 z; rw [show j = d by omega]; exact hc12) ls (lv_sub hl [0, 1] rfl)
        · skip
          refine x_ic jS dX4_isPrime_15 ?_
          exact x_zretR jS jr jk jq dX4_isPrime_16 rfl (congrArg iI (bI_f (prm_no hv.2 (by omega) hc6 hc12)).symm)
  exact loop_2 _ 2 rfl (by omega) (fun j h1 h2 => by omega) ls (lv_sub hl [0, 1] rfl)
theorem h_X4_fillInverses_X4 : ∀ w ∈ u_ws RX4 TX4 2, w ∈ wsX4_fillInverses := fun w h => List.mem_cons_of_mem _ (List.mem_append_right _ h)
theorem m_X4_fillInverses_1 : Cond.fieldLink RX4 9 "SealedBox$PrimeField" "inverses" "[I" ∈ wsX4_fillInverses := List.mem_of_getElem? (i := 1) rfl
theorem m_X4_fillInverses_2 : Cond.fieldLink RX4 15 "SealedBox$PrimeField" "p" "I" ∈ wsX4_fillInverses := List.mem_of_getElem? (i := 2) rfl
abbrev rm_X4_fillInverses : Room := { frames := 0, cells := 0, slots := 0, locals := 0 }
set_option maxHeartbeats 4000000 in
set_option maxRecDepth 100000 in
theorem c_X4_fillInverses (jl : Launch) (D : va_G) (cI : ClassId) (h4 q4 : Nat) (P : Int) (iv : Int → Int) (sz : Nat) (hok : okP P) : Met jl yX4_fillInverses wsX4_fillInverses rm_X4_fillInverses (xPw [.ref h4] D cI [(h4, .inr (4, [.ref q4, .int (iI P)])), (q4, .inl (cI, 997, .inl (aI iv)))] sz) (va_Qv (fun (u : (Int → Int)) => tbl P u) (xB D (fun (u : (Int → Int)) => [(h4, .inr (4, [.ref q4, .int (iI P)])), (q4, .inl (cI, 997, .inl (aI u)))]) (va_A [(h4, .inr (4, [.ref q4, .int (iI P)])), (q4, .inl (cI, 997, .inl (aI iv)))] sz)) (va_A [(h4, .inr (4, [.ref q4, .int (iI P)])), (q4, .inl (cI, 997, .inl (aI iv)))] sz)) 0 0 (va_A [(h4, .inr (4, [.ref q4, .int (iI P)])), (q4, .inl (cI, 997, .inl (aI iv)))] sz) := by
  refine x_metW (own := RX4) (cc := cX4_fillInverses) (maxL := 2) (ret := none) (Qc := fun jA => va_Qv (fun (u : (Int → Int)) => tbl P u) (xB D (fun (u : (Int → Int)) => [(h4, .inr (4, [.ref q4, .int (iI P)])), (q4, .inl (cI, 997, .inl (aI u)))]) jA) jA) (by decide) rfl rfl rfl ?_
  intro jp je js jm ja jb jt jc jA jQ jS jr jk jn jq hK hP hD hA hS ls hl
  have hl : lv_has ls 2 [(0, .ref h4)] := hl
  have hok5 := hok.1
  have hok9 := hok.2.1
  refine x_aln jS dX4_fillInverses_0 rfl hl 0 rfl ?_
  refine x_get jS hK hP h_X4_fillInverses_X4 0 rfl rfl 0 rfl m_X4_fillInverses_1 rfl dX4_fillInverses_1 ?_
  refine x_ic jS dX4_fillInverses_4 ?_
  refine x_ic jS dX4_fillInverses_5 ?_
  refine x_iast (ws' := [(h4, .inr (4, [.ref q4, .int (iI P)])), (q4, .inl (cI, 997, .inl (aI (uI iv 1 1))))]) jS hK hP hD hS 1 rfl (by omega) dX4_fillInverses_6 rfl (fun jH jL hP hD hS => ?_)
  refine x_ic jS dX4_fillInverses_7 ?_
  refine x_isn (lv' := [(1, .int (iI 2)), (0, .ref h4)]) jS dX4_fillInverses_8 rfl hl rfl rfl (fun ls hl => ?_)
  have loop_9 : ∀ (mm : Nat) (i : Int) (iv1 : Int → Int) (jH : Heap) (jL : List Loc), (P - i).toNat = mm → (2 ≤ i ∧ i ≤ P) → (∀ w : Int, 0 < w → w < i → 0 ≤ iv1 w ∧ iv1 w < P ∧ w * iv1 w % P = 1) → va_P D vwCl [(h4, .inr (4, [.ref q4, .int (iI P)])), (q4, .inl (cI, 997, .inl (aI iv1)))] jH → va_D jA [(h4, .inr (4, [.ref q4, .int (iI P)])), (q4, .inl (cI, 997, .inl (aI iv1)))] → va_S jA js.heap jH jL → ∀ ls : Array Slot, lv_has ls 2 [(1, .int (iI i)), (0, .ref h4)] → W jp jl je rm_X4_fillInverses js jm ja jb jt jc jH jL 0 0 jQ (F0 jm 9 ls []) := by
    intro mm
    induction mm using Nat.strongRecOn with
    | ind mm ih9 =>
      intro i iv1 jH jL hmm9 hi ht hP hD hS ls hl
      refine x_iln jS dX4_fillInverses_9 rfl hl 0 rfl ?_
      refine x_aln jS dX4_fillInverses_10 rfl hl 1 rfl ?_
      refine x_get jS hK hP h_X4_fillInverses_X4 0 rfl rfl 1 rfl m_X4_fillInverses_2 rfl dX4_fillInverses_11 ?_
      refine x_cmpge jS 66 dX4_fillInverses_14 (by decide) (by omega) (fun hc14 => ?_) (fun hc14 => ?_)
      · skip
        exact x_vretW jS jr jk jq dX4_fillInverses_66 iv1 hP hD hS (show tbl P iv1 from fun w h1 h2 => ht w h1 (by omega))
      · skip
        refine x_iln jS dX4_fillInverses_17 rfl hl 0 rfl ?_
        refine x_aln jS dX4_fillInverses_18 rfl hl 1 rfl ?_
        refine x_get jS hK hP h_X4_fillInverses_X4 0 rfl rfl 0 rfl m_X4_fillInverses_1 rfl dX4_fillInverses_19 ?_
        refine x_alen jS hK hP 1 rfl dX4_fillInverses_22 ?_
        refine x_cmpge jS 66 dX4_fillInverses_23 (by decide) (by omega) (fun hc23 => ?_) (fun hc23 => ?_)
        · exfalso; omega
        refine x_aln jS dX4_fillInverses_26 rfl hl 1 rfl ?_
        refine x_get jS hK hP h_X4_fillInverses_X4 0 rfl rfl 0 rfl m_X4_fillInverses_1 rfl dX4_fillInverses_27 ?_
        refine x_iln jS dX4_fillInverses_30 rfl hl 0 rfl ?_
        refine x_aln jS dX4_fillInverses_31 rfl hl 1 rfl ?_
        refine x_get jS hK hP h_X4_fillInverses_X4 0 rfl rfl 1 rfl m_X4_fillInverses_2 rfl dX4_fillInverses_32 ?_
        refine x_aln jS dX4_fillInverses_35 rfl hl 1 rfl ?_
        refine x_get jS hK hP h_X4_fillInverses_X4 0 rfl rfl 1 rfl m_X4_fillInverses_2 rfl dX4_fillInverses_36 ?_
        refine x_iln jS dX4_fillInverses_39 rfl hl 0 rfl ?_
        refine x_idiv jS dX4_fillInverses_40 (by omega) (fun hm40 => ?_)
        refine x_isub jS dX4_fillInverses_41 ?_
        refine x_aln jS dX4_fillInverses_42 rfl hl 1 rfl ?_
        refine x_get jS hK hP h_X4_fillInverses_X4 0 rfl rfl 0 rfl m_X4_fillInverses_1 rfl dX4_fillInverses_43 ?_
        refine x_aln jS dX4_fillInverses_46 rfl hl 1 rfl ?_
        refine x_get jS hK hP h_X4_fillInverses_X4 0 rfl rfl 1 rfl m_X4_fillInverses_2 rfl dX4_fillInverses_47 ?_
        refine x_iln jS dX4_fillInverses_50 rfl hl 0 rfl ?_
        refine x_irem jS dX4_fillInverses_51 (by omega) (fun hm51 => ?_)
        have hne := prm_div hok hi.1 hc14
        have hx := ht (P % i) (by omega) (by omega)
        refine x_iald jS hK hP 1 rfl (by omega) dX4_fillInverses_52 ?_
        refine x_imulB jS dX4_fillInverses_53 (by omega) (fun hp53 => ?_)
        refine x_aln jS dX4_fillInverses_54 rfl hl 1 rfl ?_
        refine x_get jS hK hP h_X4_fillInverses_X4 0 rfl rfl 1 rfl m_X4_fillInverses_2 rfl dX4_fillInverses_55 ?_
        refine x_irem jS dX4_fillInverses_58 (by omega) (fun hm58 => ?_)
        refine x_iast (ws' := [(h4, .inr (4, [.ref q4, .int (iI P)])), (q4, .inl (cI, 997, .inl (aI (uI iv1 i (((P - (P / i)) * (iv1 (P % i))) % P)))))]) jS hK hP hD hS 1 rfl (by omega) dX4_fillInverses_59 rfl (fun jH jL hP hD hS => ?_)
        refine x_iinc (lv' := [(1, .int (iI (i + 1))), (0, .ref h4)]) jS dX4_fillInverses_60 hl 0 rfl rfl rfl (fun ls hl => ?_)
        refine x_goto jS 9 dX4_fillInverses_63 (by decide) ?_
        exact ih9 _ (by omega) (i + 1) (uI iv1 i (((P - (P / i)) * (iv1 (P % i))) % P)) _ _ rfl (by omega) (fun w h1 h2 => by rcases Int.lt_or_le w i with z | z; rw [uI_n (by omega)]; exact ht w h1 z; rw [show w = i by omega, uI_s]; exact ⟨hm58.1, hm58.2.1, inv_step hx.2.2⟩) hP hD hS ls (lv_sub hl [0, 1] rfl)
  exact loop_9 _ 2 (uI iv 1 1) _ _ rfl (by omega) (fun w h1 h2 => by rw [show w = 1 by omega, uI_s]; refine ⟨by omega, by omega, ?_⟩; rw [Int.one_mul]; exact Int.emod_eq_of_lt (by omega) (by omega)) hP hD hS ls (lv_sub hl [0, 1] rfl)
theorem kf_X4_isPrime : kfS yX4_isPrime 1 := by decide +kernel
theorem h_X4_become_X4 : ∀ w ∈ u_ws RX4 TX4 2, w ∈ wsX4_become := fun w h => List.mem_cons_of_mem _ (List.mem_append_right _ h)
theorem m_X4_become_1 : Cond.fieldLink RX4 15 "SealedBox$PrimeField" "p" "I" ∈ wsX4_become := List.mem_of_getElem? (i := 1) rfl
theorem kf_X4_fillInverses : kfV yX4_fillInverses RX4 0 := by decide +kernel
abbrev rm_X4_become : Room := { frames := 1, cells := 0, slots := 0, locals := 21 }
set_option maxHeartbeats 4000000 in
set_option maxRecDepth 100000 in
theorem c_X4_become (jl : Launch) (D : va_G) (cI : ClassId) (h4 q4 : Nat) (P v : Int) (iv : Int → Int) (sz : Nat) (hv : -2147483648 ≤ v ∧ v < 2147483648) : Met jl yX4_become wsX4_become rm_X4_become (xPw [.ref h4, .int (iI v)] D cI [(h4, .inr (4, [.ref q4, .int (iI P)])), (q4, .inl (cI, 997, .inl (aI iv)))] sz) (va_Qi (fun (r : Int32) (u : Int × (Int → Int)) => r = (iI (bI (okP v))) ∧ (okP v → u.1 = v ∧ tbl v u.2) ∧ (¬ okP v → u.1 = P ∧ u.2 = iv)) (xB D (fun (u : Int × (Int → Int)) => [(h4, .inr (4, [.ref q4, .int (iI u.1)])), (q4, .inl (cI, 997, .inl (aI u.2)))]) (va_A [(h4, .inr (4, [.ref q4, .int (iI P)])), (q4, .inl (cI, 997, .inl (aI iv)))] sz)) (va_A [(h4, .inr (4, [.ref q4, .int (iI P)])), (q4, .inl (cI, 997, .inl (aI iv)))] sz)) 0 0 (va_A [(h4, .inr (4, [.ref q4, .int (iI P)])), (q4, .inl (cI, 997, .inl (aI iv)))] sz) := by
  refine x_metW (own := RX4) (cc := cX4_become) (maxL := 2) (ret := (some .boolean)) (Qc := fun jA => va_Qi (fun (r : Int32) (u : Int × (Int → Int)) => r = (iI (bI (okP v))) ∧ (okP v → u.1 = v ∧ tbl v u.2) ∧ (¬ okP v → u.1 = P ∧ u.2 = iv)) (xB D (fun (u : Int × (Int → Int)) => [(h4, .inr (4, [.ref q4, .int (iI u.1)])), (q4, .inl (cI, 997, .inl (aI u.2)))]) jA) jA) (by decide) rfl rfl rfl ?_
  intro jp je js jm ja jb jt jc jA jQ jS jr jk jn jq hK hP hD hA hS ls hl
  have hl : lv_has ls 2 [(0, .ref h4), (1, .int (iI v))] := hl
  refine x_iln jS dX4_become_0 rfl hl 1 rfl ?_
  refine x_ic jS dX4_become_1 ?_
  refine x_cmplt jS 19 dX4_become_2 (by decide) (by omega) (fun hc2 => ?_) (fun hc2 => ?_)
  · skip
    refine x_ic jS dX4_become_19 ?_
    exact x_zretW jS jr jk jq dX4_become_20 rfl ⟨P, iv⟩ hP hD hS (show (iI 0) = (iI (bI (okP v))) ∧ ((okP v → P = v ∧ tbl v iv) ∧ (¬ okP v → P = P ∧ iv = iv)) from ⟨congrArg iI (bI_f (fun h => by omega)).symm, fun h => by omega, fun _ => ⟨rfl, rfl⟩⟩)
  · skip
    refine x_iln jS dX4_become_5 rfl hl 1 rfl ?_
    refine x_si jS dX4_become_6 (by decide) ?_
    refine x_cmpgt jS 19 dX4_become_9 (by decide) (by omega) (fun hc9 => ?_) (fun hc9 => ?_)
    · skip
      refine x_ic jS dX4_become_19 ?_
      exact x_zretW jS jr jk jq dX4_become_20 rfl ⟨P, iv⟩ hP hD hS (show (iI 0) = (iI (bI (okP v))) ∧ ((okP v → P = v ∧ tbl v iv) ∧ (¬ okP v → P = P ∧ iv = iv)) from ⟨congrArg iI (bI_f (fun h => by omega)).symm, fun h => by omega, fun _ => ⟨rfl, rfl⟩⟩)
    · skip
      refine x_iln jS dX4_become_12 rfl hl 1 rfl ?_
      refine x_rI (x_rmS (As := [.int (iI v)]) (rest := []) jS hl.1 hK (c_X4_isPrime jl D cI v (by first | assumption | omega)) (hP.sub [] rfl) gX4_become_X4_isPrime rfl rfl rfl kf_X4_isPrime rfl rfl rfl rfl rfl dX4_become_13 rfl rfl) ?_
      refine x_ifneB jS 21 dX4_become_16 (by decide) (fun hc16 => ?_) (fun hc16 => ?_)
      · skip
        refine x_aln jS dX4_become_21 rfl hl 0 rfl ?_
        refine x_iln jS dX4_become_22 rfl hl 1 rfl ?_
        refine x_put (ty0 := tyX4) (ws' := [(h4, .inr (4, [.ref q4, .int (iI v)])), (q4, .inl (cI, 997, .inl (aI iv)))]) jS hK hP hD hS h_X4_become_X4 tyX4_ok nmX4 0 rfl rfl 1 rfl m_X4_become_1 rfl rfl rfl rfl dX4_become_23 rfl (fun jH jL hP hD hS => ?_)
        refine x_aln jS dX4_become_26 rfl hl 0 rfl ?_
        refine x_aV (wc := [(h4, .inr (4, [.ref q4, .int (iI v)])), (q4, .inl (cI, 997, .inl (aI iv)))]) (wr := []) hP hD hS hA [0, 1] [] rfl rfl (by decide) (by decide) (cs := 0) (ss := 0) rfl rfl (x_rnV (As := []) (rest := []) jS hl.1 hK (c_X4_fillInverses jl D cI h4 q4 v iv _ (⟨by omega, by omega, hc16⟩)) hP hD [0, 1] rfl rfl (by decide) 0 rfl rfl gX4_become_X4_fillInverses rfl rfl rfl kf_X4_fillInverses rfl rfl rfl rfl rfl dX4_become_27 rfl rfl) (fun u jH jL hw hP hD hS => ?_)
        obtain ⟨iv2_1, rfl⟩ : ∃ z, z = u := ⟨_, rfl⟩
        have hw27 : tbl v iv2_1 := hw
        clear hw
        have hP : va_P D vwCl [(h4, .inr (4, [.ref q4, .int (iI v)])), (q4, .inl (cI, 997, .inl (aI iv2_1)))] jH := hP
        have hD : va_D jA [(h4, .inr (4, [.ref q4, .int (iI v)])), (q4, .inl (cI, 997, .inl (aI iv2_1)))] := hD
        refine x_ic jS dX4_become_30 ?_
        exact x_zretW jS jr jk jq dX4_become_31 rfl ⟨v, iv2_1⟩ hP hD hS (show (iI 1) = (iI (bI (okP v))) ∧ ((okP v → v = v ∧ tbl v iv2_1) ∧ (¬ okP v → v = P ∧ iv2_1 = iv)) from ⟨congrArg iI (bI_t ⟨by omega, by omega, hc16⟩).symm, fun _ => ⟨rfl, hw27⟩, fun h => absurd ⟨by omega, by omega, hc16⟩ h⟩)
      · skip
        refine x_ic jS dX4_become_19 ?_
        exact x_zretW jS jr jk jq dX4_become_20 rfl ⟨P, iv⟩ hP hD hS (show (iI 0) = (iI (bI (okP v))) ∧ ((okP v → P = v ∧ tbl v iv) ∧ (¬ okP v → P = P ∧ iv = iv)) from ⟨congrArg iI (bI_f (fun h => hc16 h.2.2)).symm, fun h => absurd h.2.2 hc16, fun _ => ⟨rfl, rfl⟩⟩)
theorem h_X0_shifted_X0 : ∀ w ∈ u_ws RX0 TX0 3, w ∈ wsX0_shifted := fun w h => List.mem_cons_of_mem _ (List.mem_append_left _ (List.mem_append_right _ h))
theorem m_X0_shifted_1 : Cond.fieldLink RX0 18 "SealedBox$Bases" "numbers" "LSealedBox$PrimeField;" ∈ wsX0_shifted := List.mem_of_getElem? (i := 1) rfl
theorem m_X0_shifted_2 : Cond.fieldLink RX0 9 "SealedBox$Bases" "shift" "I" ∈ wsX0_shifted := List.mem_of_getElem? (i := 2) rfl
theorem kf_X4_plus : kfV yX4_plus RX4 2 := by decide +kernel
theorem kf_X4_power : kfV yX4_power RX4 2 := by decide +kernel
abbrev rm_X0_shifted : Room := { frames := 1, cells := 0, slots := 0, locals := 24 }
set_option maxHeartbeats 4000000 in
set_option maxRecDepth 100000 in
theorem c_X0_shifted (jl : Launch) (D : va_G) (cI : ClassId) (h0 h4 q4 : Nat) (P sh sc v ex : Int)  (hP5 : 5 ≤ P ∧ P ≤ 997) (hs : 0 ≤ sh ∧ sh ≤ 996 ∧ 1 ≤ sc ∧ sc ≤ 996) (hv : 0 ≤ v ∧ v ≤ 1000) (he : 0 ≤ ex ∧ ex ≤ 1000) : Met jl yX0_shifted wsX0_shifted rm_X0_shifted (xPr [.ref h0, .int (iI v), .int (iI ex)] D cI [(h0, .inr (0, [.ref h4, .int (iI sh), .int (iI sc)])), (h4, .inr (4, [.ref q4, .int (iI P)]))]) (vp_Si (fun r => r = (iI (pw P ((v + sh) % P) ex)))) 0 0 (fun _ => False) := by
  refine x_metR (own := RX0) (cc := cX0_shifted) (maxL := 3) (ret := (some .int)) (by decide) rfl rfl rfl ?_
  intro jp je js jm ja jb jt jc jQ jS jr jk jq hK hP ls hl
  have hl : lv_has ls 3 [(0, .ref h0), (1, .int (iI v)), (2, .int (iI ex))] := hl
  refine x_aln jS dX0_shifted_0 rfl hl 0 rfl ?_
  refine x_get jS hK hP h_X0_shifted_X0 0 rfl rfl 0 rfl m_X0_shifted_1 rfl dX0_shifted_1 ?_
  refine x_aln jS dX0_shifted_4 rfl hl 0 rfl ?_
  refine x_get jS hK hP h_X0_shifted_X0 0 rfl rfl 0 rfl m_X0_shifted_1 rfl dX0_shifted_5 ?_
  refine x_iln jS dX0_shifted_8 rfl hl 1 rfl ?_
  refine x_aln jS dX0_shifted_9 rfl hl 0 rfl ?_
  refine x_get jS hK hP h_X0_shifted_X0 0 rfl rfl 1 rfl m_X0_shifted_2 rfl dX0_shifted_10 ?_
  refine x_rI (x_rmV (As := [.int (iI v), .int (iI sh)]) (rest := [.ref h4]) jS hl.1 hK (c_X4_plus jl D cI h4 q4 P v sh (by first | assumption | omega) (by first | assumption | omega) (by first | assumption | omega)) (hP.sub [1] rfl) 0 rfl rfl gX0_shifted_X4_plus rfl rfl rfl kf_X4_plus rfl rfl rfl rfl rfl dX0_shifted_13 rfl rfl) ?_
  refine x_iln jS dX0_shifted_16 rfl hl 2 rfl ?_
  have hq := emB (show 0 < P by omega) (v + sh)
  refine x_rI (x_rmV (As := [.int (iI ((v + sh) % P)), .int (iI ex)]) (rest := []) jS hl.1 hK (c_X4_power jl D cI h4 q4 P ((v + sh) % P) ex (by first | assumption | omega) (by first | assumption | omega) (by first | assumption | omega)) (hP.sub [1] rfl) 0 rfl rfl gX0_shifted_X4_power rfl rfl rfl kf_X4_power rfl rfl rfl rfl rfl dX0_shifted_17 rfl rfl) ?_
  exact x_iretR jS jr jk jq dX0_shifted_20 (rfl)
theorem h_X0_scaled_X0 : ∀ w ∈ u_ws RX0 TX0 3, w ∈ wsX0_scaled := fun w h => List.mem_cons_of_mem _ (List.mem_append_left _ (List.mem_append_right _ h))
theorem m_X0_scaled_1 : Cond.fieldLink RX0 18 "SealedBox$Bases" "numbers" "LSealedBox$PrimeField;" ∈ wsX0_scaled := List.mem_of_getElem? (i := 1) rfl
theorem m_X0_scaled_2 : Cond.fieldLink RX0 15 "SealedBox$Bases" "scale" "I" ∈ wsX0_scaled := List.mem_of_getElem? (i := 2) rfl
theorem kf_X0_shifted : kfV yX0_shifted RX0 2 := by decide +kernel
theorem kf_X4_times : kfV yX4_times RX4 2 := by decide +kernel
abbrev rm_X0_scaled : Room := { frames := 2, cells := 0, slots := 0, locals := 46 }
set_option maxHeartbeats 4000000 in
set_option maxRecDepth 100000 in
theorem c_X0_scaled (jl : Launch) (D : va_G) (cI : ClassId) (h0 h4 q4 : Nat) (P sh sc v ex : Int)  (hP5 : 5 ≤ P ∧ P ≤ 997) (hs : 0 ≤ sh ∧ sh ≤ 996 ∧ 1 ≤ sc ∧ sc ≤ 996) (hv : 0 ≤ v ∧ v ≤ 1000) (he : 0 ≤ ex ∧ ex ≤ 1000) : Met jl yX0_scaled wsX0_scaled rm_X0_scaled (xPr [.ref h0, .int (iI v), .int (iI ex)] D cI [(h0, .inr (0, [.ref h4, .int (iI sh), .int (iI sc)])), (h4, .inr (4, [.ref q4, .int (iI P)]))]) (vp_Si (fun r => r = (iI (sc * pw P ((v + sh) % P) ex % P)))) 0 0 (fun _ => False) := by
  refine x_metR (own := RX0) (cc := cX0_scaled) (maxL := 3) (ret := (some .int)) (by decide) rfl rfl rfl ?_
  intro jp je js jm ja jb jt jc jQ jS jr jk jq hK hP ls hl
  have hl : lv_has ls 3 [(0, .ref h0), (1, .int (iI v)), (2, .int (iI ex))] := hl
  refine x_aln jS dX0_scaled_0 rfl hl 0 rfl ?_
  refine x_get jS hK hP h_X0_scaled_X0 0 rfl rfl 0 rfl m_X0_scaled_1 rfl dX0_scaled_1 ?_
  refine x_aln jS dX0_scaled_4 rfl hl 0 rfl ?_
  refine x_get jS hK hP h_X0_scaled_X0 0 rfl rfl 2 rfl m_X0_scaled_2 rfl dX0_scaled_5 ?_
  refine x_aln jS dX0_scaled_8 rfl hl 0 rfl ?_
  refine x_iln jS dX0_scaled_9 rfl hl 1 rfl ?_
  refine x_iln jS dX0_scaled_10 rfl hl 2 rfl ?_
  refine x_rI (x_rmV (As := [.int (iI v), .int (iI ex)]) (rest := [.int (iI sc), .ref h4]) jS hl.1 hK (c_X0_shifted jl D cI h0 h4 q4 P sh sc v ex (by first | assumption | omega) (by first | assumption | omega) (by first | assumption | omega) (by first | assumption | omega)) (hP.sub [0, 1] rfl) 0 rfl rfl gX0_scaled_X0_shifted rfl rfl rfl kf_X0_shifted rfl rfl rfl rfl rfl dX0_scaled_11 rfl rfl) ?_
  have hq := pw_in (show 2 ≤ P by omega) ((v + sh) % P) ex
  refine x_rI (x_rmV (As := [.int (iI sc), .int (iI (pw P ((v + sh) % P) ex))]) (rest := []) jS hl.1 hK (c_X4_times jl D cI h4 q4 P sc (pw P ((v + sh) % P) ex) (by first | assumption | omega) (by first | assumption | omega) (by first | assumption | omega)) (hP.sub [1] rfl) 0 rfl rfl gX0_scaled_X4_times rfl rfl rfl kf_X4_times rfl rfl rfl rfl rfl dX0_scaled_14 rfl rfl) ?_
  exact x_iretR jS jr jk jq dX0_scaled_17 (rfl)
theorem h_X0_letter_X0 : ∀ w ∈ u_ws RX0 TX0 3, w ∈ wsX0_letter := fun w h => List.mem_cons_of_mem _ (List.mem_append_left _ (List.mem_append_right _ h))
theorem m_X0_letter_1 : Cond.fieldLink RX0 18 "SealedBox$Bases" "numbers" "LSealedBox$PrimeField;" ∈ wsX0_letter := List.mem_of_getElem? (i := 1) rfl
theorem kf_X0_scaled : kfV yX0_scaled RX0 2 := by decide +kernel
abbrev rm_X0_letter : Room := { frames := 3, cells := 0, slots := 0, locals := 68 }
set_option maxHeartbeats 4000000 in
set_option maxRecDepth 100000 in
theorem c_X0_letter (jl : Launch) (D : va_G) (cI : ClassId) (h0 h4 q4 : Nat) (P sh sc k v ex : Int)  (hP5 : 5 ≤ P ∧ P ≤ 997) (hs : 0 ≤ sh ∧ sh ≤ 996 ∧ 1 ≤ sc ∧ sc ≤ 996) (hk : 0 ≤ k ∧ k ≤ 2) (hv : 0 ≤ v ∧ v ≤ 1000) (he : 0 ≤ ex ∧ ex ≤ 1000) : Met jl yX0_letter wsX0_letter rm_X0_letter (xPr [.ref h0, .int (iI k), .int (iI v), .int (iI ex)] D cI [(h0, .inr (0, [.ref h4, .int (iI sh), .int (iI sc)])), (h4, .inr (4, [.ref q4, .int (iI P)]))]) (vp_Si (fun r => r = (iI (ltr P sh sc k v ex)))) 0 0 (fun _ => False) := by
  refine x_metR (own := RX0) (cc := cX0_letter) (maxL := 4) (ret := (some .int)) (by decide) rfl rfl rfl ?_
  intro jp je js jm ja jb jt jc jQ jS jr jk jq hK hP ls hl
  have hl : lv_has ls 4 [(0, .ref h0), (1, .int (iI k)), (2, .int (iI v)), (3, .int (iI ex))] := hl
  refine x_iln jS dX0_letter_0 rfl hl 1 rfl ?_
  refine x_ic jS dX0_letter_1 ?_
  refine x_cmpne jS 12 dX0_letter_2 (by decide) (by omega) (fun hc2 => ?_) (fun hc2 => ?_)
  · skip
    refine x_iln jS dX0_letter_12 rfl hl 1 rfl ?_
    refine x_ic jS dX0_letter_13 ?_
    refine x_cmpne jS 26 dX0_letter_14 (by decide) (by omega) (fun hc14 => ?_) (fun hc14 => ?_)
    · skip
      refine x_aln jS dX0_letter_26 rfl hl 0 rfl ?_
      refine x_get jS hK hP h_X0_letter_X0 0 rfl rfl 0 rfl m_X0_letter_1 rfl dX0_letter_27 ?_
      refine x_iln jS dX0_letter_30 rfl hl 2 rfl ?_
      refine x_iln jS dX0_letter_31 rfl hl 3 rfl ?_
      refine x_rI (x_rmV (As := [.int (iI v), .int (iI ex)]) (rest := []) jS hl.1 hK (c_X4_power jl D cI h4 q4 P v ex (by first | assumption | omega) (by first | assumption | omega) (by first | assumption | omega)) (hP.sub [1] rfl) 0 rfl rfl gX0_letter_X4_power rfl rfl rfl kf_X4_power rfl rfl rfl rfl rfl dX0_letter_32 rfl rfl) ?_
      exact x_iretR jS jr jk jq dX0_letter_35 (congrArg iI (ltr_0 hc2 hc14).symm)
    · skip
      refine x_aln jS dX0_letter_17 rfl hl 0 rfl ?_
      refine x_iln jS dX0_letter_18 rfl hl 2 rfl ?_
      refine x_iln jS dX0_letter_19 rfl hl 3 rfl ?_
      refine x_rI (x_rmV (As := [.int (iI v), .int (iI ex)]) (rest := []) jS hl.1 hK (c_X0_shifted jl D cI h0 h4 q4 P sh sc v ex (by first | assumption | omega) (by first | assumption | omega) (by first | assumption | omega) (by first | assumption | omega)) (hP.sub [0, 1] rfl) 0 rfl rfl gX0_letter_X0_shifted rfl rfl rfl kf_X0_shifted rfl rfl rfl rfl rfl dX0_letter_20 rfl rfl) ?_
      refine x_goto jS 35 dX0_letter_23 (by decide) ?_
      exact x_iretR jS jr jk jq dX0_letter_35 (congrArg iI (ltr_1 hc14).symm)
  · skip
    refine x_aln jS dX0_letter_5 rfl hl 0 rfl ?_
    refine x_iln jS dX0_letter_6 rfl hl 2 rfl ?_
    refine x_iln jS dX0_letter_7 rfl hl 3 rfl ?_
    refine x_rI (x_rmV (As := [.int (iI v), .int (iI ex)]) (rest := []) jS hl.1 hK (c_X0_scaled jl D cI h0 h4 q4 P sh sc v ex (by first | assumption | omega) (by first | assumption | omega) (by first | assumption | omega) (by first | assumption | omega)) (hP.sub [0, 1] rfl) 0 rfl rfl gX0_letter_X0_scaled rfl rfl rfl kf_X0_scaled rfl rfl rfl rfl rfl dX0_letter_8 rfl rfl) ?_
    exact x_iretR jS jr jk jq dX0_letter_11 (congrArg iI (ltr_2 hc2).symm)
abbrev rm_X0_bodiesAsked : Room := { frames := 0, cells := 0, slots := 0, locals := 0 }
set_option maxHeartbeats 4000000 in
set_option maxRecDepth 100000 in
theorem c_X0_bodiesAsked (jl : Launch) (D : va_G) (cI : ClassId) (k : Int)  (hk : 0 ≤ k ∧ k ≤ 2) : Met jl yX0_bodiesAsked wsX0_bodiesAsked rm_X0_bodiesAsked (xPr [.int (iI k)] D cI []) (vp_Si (fun r => r = (iI (if k = 2 then 111 else if k = 1 then 11 else 1)))) 0 0 (fun _ => False) := by
  refine x_metR (own := RX0) (cc := cX0_bodiesAsked) (maxL := 1) (ret := (some .int)) (by decide) rfl rfl rfl ?_
  intro jp je js jm ja jb jt jc jQ jS jr jk jq hK hP ls hl
  have hl : lv_has ls 1 [(0, .int (iI k))] := hl
  refine x_iln jS dX0_bodiesAsked_0 rfl hl 0 rfl ?_
  refine x_ic jS dX0_bodiesAsked_1 ?_
  refine x_cmpne jS 8 dX0_bodiesAsked_2 (by decide) (by omega) (fun hc2 => ?_) (fun hc2 => ?_)
  · skip
    refine x_iln jS dX0_bodiesAsked_8 rfl hl 0 rfl ?_
    refine x_ic jS dX0_bodiesAsked_9 ?_
    refine x_cmpne jS 18 dX0_bodiesAsked_10 (by decide) (by omega) (fun hc10 => ?_) (fun hc10 => ?_)
    · skip
      refine x_ic jS dX0_bodiesAsked_18 ?_
      exact x_iretR jS jr jk jq dX0_bodiesAsked_19 (by rw [if_neg hc2, if_neg hc10])
    · skip
      refine x_bi jS dX0_bodiesAsked_13 (by decide) ?_
      refine x_goto jS 19 dX0_bodiesAsked_15 (by decide) ?_
      exact x_iretR jS jr jk jq dX0_bodiesAsked_19 (by rw [if_neg hc2, if_pos hc10])
  · skip
    refine x_bi jS dX0_bodiesAsked_5 (by decide) ?_
    exact x_iretR jS jr jk jq dX0_bodiesAsked_7 (by rw [if_pos hc2])
abbrev rm_X7_isExponent : Room := { frames := 0, cells := 0, slots := 0, locals := 0 }
set_option maxHeartbeats 4000000 in
set_option maxRecDepth 100000 in
theorem c_X7_isExponent (jl : Launch) (D : va_G) (cI : ClassId) (v : Int)  (hv : -2147483648 ≤ v ∧ v < 2147483648) : Met jl yX7_isExponent wsX7_isExponent rm_X7_isExponent (xPr [.int (iI v)] D cI []) (vp_Si (fun r => r = (iI (bI (0 ≤ v ∧ v ≤ 4))))) 0 0 (fun _ => False) := by
  refine x_metR (own := RX7) (cc := cX7_isExponent) (maxL := 1) (ret := (some .boolean)) (by decide) rfl rfl rfl ?_
  intro jp je js jm ja jb jt jc jQ jS jr jk jq hK hP ls hl
  have hl : lv_has ls 1 [(0, .int (iI v))] := hl
  refine x_iln jS dX7_isExponent_0 rfl hl 0 rfl ?_
  refine x_iflt jS 13 dX7_isExponent_1 (by decide) (by omega) (fun hc1 => ?_) (fun hc1 => ?_)
  · skip
    refine x_ic jS dX7_isExponent_13 ?_
    exact x_zretR jS jr jk jq dX7_isExponent_14 rfl (congrArg iI (bI_f (by omega)).symm)
  · skip
    refine x_iln jS dX7_isExponent_4 rfl hl 0 rfl ?_
    refine x_ic jS dX7_isExponent_5 ?_
    refine x_cmpgt jS 13 dX7_isExponent_6 (by decide) (by omega) (fun hc6 => ?_) (fun hc6 => ?_)
    · skip
      refine x_ic jS dX7_isExponent_13 ?_
      exact x_zretR jS jr jk jq dX7_isExponent_14 rfl (congrArg iI (bI_f (by omega)).symm)
    · skip
      refine x_ic jS dX7_isExponent_9 ?_
      refine x_goto jS 14 dX7_isExponent_10 (by decide) ?_
      exact x_zretR jS jr jk jq dX7_isExponent_14 rfl (congrArg iI (bI_t (by omega)).symm)
abbrev rm_X7_isKind : Room := { frames := 0, cells := 0, slots := 0, locals := 0 }
set_option maxHeartbeats 4000000 in
set_option maxRecDepth 100000 in
theorem c_X7_isKind (jl : Launch) (D : va_G) (cI : ClassId) (v : Int)  (hv : -2147483648 ≤ v ∧ v < 2147483648) : Met jl yX7_isKind wsX7_isKind rm_X7_isKind (xPr [.int (iI v)] D cI []) (vp_Si (fun r => r = (iI (bI (0 ≤ v ∧ v ≤ 2))))) 0 0 (fun _ => False) := by
  refine x_metR (own := RX7) (cc := cX7_isKind) (maxL := 1) (ret := (some .boolean)) (by decide) rfl rfl rfl ?_
  intro jp je js jm ja jb jt jc jQ jS jr jk jq hK hP ls hl
  have hl : lv_has ls 1 [(0, .int (iI v))] := hl
  refine x_iln jS dX7_isKind_0 rfl hl 0 rfl ?_
  refine x_iflt jS 13 dX7_isKind_1 (by decide) (by omega) (fun hc1 => ?_) (fun hc1 => ?_)
  · skip
    refine x_ic jS dX7_isKind_13 ?_
    exact x_zretR jS jr jk jq dX7_isKind_14 rfl (congrArg iI (bI_f (by omega)).symm)
  · skip
    refine x_iln jS dX7_isKind_4 rfl hl 0 rfl ?_
    refine x_ic jS dX7_isKind_5 ?_
    refine x_cmpgt jS 13 dX7_isKind_6 (by decide) (by omega) (fun hc6 => ?_) (fun hc6 => ?_)
    · skip
      refine x_ic jS dX7_isKind_13 ?_
      exact x_zretR jS jr jk jq dX7_isKind_14 rfl (congrArg iI (bI_f (by omega)).symm)
    · skip
      refine x_ic jS dX7_isKind_9 ?_
      refine x_goto jS 14 dX7_isKind_10 (by decide) ?_
      exact x_zretR jS jr jk jq dX7_isKind_14 rfl (congrArg iI (bI_t (by omega)).symm)
abbrev rm_X7_isBox : Room := { frames := 0, cells := 0, slots := 0, locals := 0 }
set_option maxHeartbeats 4000000 in
set_option maxRecDepth 100000 in
theorem c_X7_isBox (jl : Launch) (D : va_G) (cI : ClassId) (v : Int)  (hv : -2147483648 ≤ v ∧ v < 2147483648) : Met jl yX7_isBox wsX7_isBox rm_X7_isBox (xPr [.int (iI v)] D cI []) (vp_Si (fun r => r = (iI (bI (v = 0 ∨ v = 1))))) 0 0 (fun _ => False) := by
  refine x_metR (own := RX7) (cc := cX7_isBox) (maxL := 1) (ret := (some .boolean)) (by decide) rfl rfl rfl ?_
  intro jp je js jm ja jb jt jc jQ jS jr jk jq hK hP ls hl
  have hl : lv_has ls 1 [(0, .int (iI v))] := hl
  refine x_iln jS dX7_isBox_0 rfl hl 0 rfl ?_
  refine x_ifeq jS 9 dX7_isBox_1 (by decide) (by omega) (fun hc1 => ?_) (fun hc1 => ?_)
  · skip
    refine x_ic jS dX7_isBox_9 ?_
    refine x_goto jS 14 dX7_isBox_10 (by decide) ?_
    exact x_zretR jS jr jk jq dX7_isBox_14 rfl (congrArg iI (bI_t (by omega)).symm)
  · skip
    refine x_iln jS dX7_isBox_4 rfl hl 0 rfl ?_
    refine x_ic jS dX7_isBox_5 ?_
    refine x_cmpne jS 13 dX7_isBox_6 (by decide) (by omega) (fun hc6 => ?_) (fun hc6 => ?_)
    · skip
      refine x_ic jS dX7_isBox_13 ?_
      exact x_zretR jS jr jk jq dX7_isBox_14 rfl (congrArg iI (bI_f (by omega)).symm)
    · skip
      refine x_ic jS dX7_isBox_9 ?_
      refine x_goto jS 14 dX7_isBox_10 (by decide) ?_
      exact x_zretR jS jr jk jq dX7_isBox_14 rfl (congrArg iI (bI_t (by omega)).symm)
theorem h_X1_part_X1 : ∀ w ∈ u_ws RX1 TX1 7, w ∈ wsX1_part := fun w h => List.mem_cons_of_mem _ (List.mem_append_right _ h)
theorem m_X1_part_1 : Cond.fieldLink RX1 11 "SealedBox$Box" "parts" "[I" ∈ wsX1_part := List.mem_of_getElem? (i := 1) rfl
abbrev rm_X1_part : Room := { frames := 0, cells := 0, slots := 0, locals := 0 }
set_option maxHeartbeats 4000000 in
set_option maxRecDepth 100000 in
theorem c_X1_part (jl : Launch) (D : va_G) (cI : ClassId) (hb qp qf ql h0 h4 : Nat) (k n t w : Int) (pt : Int → Int)  (ht : 0 ≤ t ∧ t < 4) (hw : 0 ≤ w ∧ w < 4) : Met jl yX1_part wsX1_part rm_X1_part (xPr [.ref hb, .int (iI t), .int (iI w)] D cI [(hb, .inr (1, [.ref h4, .ref h0, .ref qp, .ref qf, .ref ql, .int (iI k), .int (iI n)])), (qp, .inl (cI, 16, .inl (aI pt)))]) (vp_Si (fun r => r = (iI (pt (t * 4 + w))))) 0 0 (fun _ => False) := by
  refine x_metR (own := RX1) (cc := cX1_part) (maxL := 4) (ret := (some .int)) (by decide) rfl rfl rfl ?_
  intro jp je js jm ja jb jt jc jQ jS jr jk jq hK hP ls hl
  have hl : lv_has ls 4 [(0, .ref hb), (1, .int (iI t)), (2, .int (iI w))] := hl
  refine x_iln jS dX1_part_0 rfl hl 1 rfl ?_
  refine x_ic jS dX1_part_1 ?_
  refine x_imul jS dX1_part_2 ?_
  refine x_iln jS dX1_part_3 rfl hl 2 rfl ?_
  refine x_iadd jS dX1_part_4 ?_
  refine x_isn (lv' := [(3, .int (iI ((t * 4) + w))), (0, .ref hb), (1, .int (iI t)), (2, .int (iI w))]) jS dX1_part_5 rfl hl rfl rfl (fun ls hl => ?_)
  refine x_iln jS dX1_part_6 rfl hl 0 rfl ?_
  refine x_iflt jS 28 dX1_part_7 (by decide) (by omega) (fun hc7 => ?_) (fun hc7 => ?_)
  · exfalso; omega
  refine x_iln jS dX1_part_10 rfl hl 0 rfl ?_
  refine x_aln jS dX1_part_11 rfl hl 1 rfl ?_
  refine x_get jS hK hP h_X1_part_X1 0 rfl rfl 2 rfl m_X1_part_1 rfl dX1_part_12 ?_
  refine x_alen jS hK hP 1 rfl dX1_part_15 ?_
  refine x_cmpge jS 28 dX1_part_16 (by decide) (by omega) (fun hc16 => ?_) (fun hc16 => ?_)
  · exfalso; omega
  refine x_aln jS dX1_part_19 rfl hl 1 rfl ?_
  refine x_get jS hK hP h_X1_part_X1 0 rfl rfl 2 rfl m_X1_part_1 rfl dX1_part_20 ?_
  refine x_iln jS dX1_part_23 rfl hl 0 rfl ?_
  refine x_iald jS hK hP 1 rfl (by omega) dX1_part_24 ?_
  refine x_goto jS 29 dX1_part_25 (by decide) ?_
  exact x_iretR jS jr jk jq dX1_part_29 (rfl)
theorem h_X1_ofTwoLetters_X1 : ∀ w ∈ u_ws RX1 TX1 7, w ∈ wsX1_ofTwoLetters := fun w h => List.mem_cons_of_mem _ (List.mem_append_left _ (List.mem_append_left _ (List.mem_append_right _ h)))
theorem m_X1_ofTwoLetters_1 : Cond.fieldLink RX1 28 "SealedBox$Box" "numbers" "LSealedBox$PrimeField;" ∈ wsX1_ofTwoLetters := List.mem_of_getElem? (i := 1) rfl
theorem kf_X1_part : kfV yX1_part RX1 2 := by decide +kernel
theorem m_X1_ofTwoLetters_2 : Cond.fieldLink RX1 32 "SealedBox$Box" "bases" "LSealedBox$Bases;" ∈ wsX1_ofTwoLetters := List.mem_of_getElem? (i := 2) rfl
theorem m_X1_ofTwoLetters_3 : Cond.fieldLink RX1 21 "SealedBox$Box" "kind" "I" ∈ wsX1_ofTwoLetters := List.mem_of_getElem? (i := 3) rfl
theorem kf_X0_letter : kfV yX0_letter RX0 3 := by decide +kernel
abbrev rm_X1_ofTwoLetters : Room := { frames := 4, cells := 0, slots := 0, locals := 91 }
set_option maxHeartbeats 4000000 in
set_option maxRecDepth 100000 in
theorem c_X1_ofTwoLetters (jl : Launch) (D : va_G) (cI : ClassId) (hb qp qf ql h0 h4 q4 : Nat) (P sh sc k n : Int) (pt : Int → Int) (t x y : Int)  (hP5 : 5 ≤ P ∧ P ≤ 997) (hs : 0 ≤ sh ∧ sh ≤ 996 ∧ 1 ≤ sc ∧ sc ≤ 996) (hk : 0 ≤ k ∧ k ≤ 2) (hn : 0 ≤ n ∧ n ≤ 4) (ht : 0 ≤ t ∧ t < n) (hbx : bxOK P n pt) (hx : 0 ≤ x ∧ x ≤ 1000) (hy : 0 ≤ y ∧ y ≤ 1000) : Met jl yX1_ofTwoLetters wsX1_ofTwoLetters rm_X1_ofTwoLetters (xPr [.ref hb, .int (iI t), .int (iI x), .int (iI y)] D cI [(hb, .inr (1, [.ref h4, .ref h0, .ref qp, .ref qf, .ref ql, .int (iI k), .int (iI n)])), (qp, .inl (cI, 16, .inl (aI pt))), (h0, .inr (0, [.ref h4, .int (iI sh), .int (iI sc)])), (h4, .inr (4, [.ref q4, .int (iI P)]))]) (vp_Si (fun r => r = (iI (of2 P sh sc k (cC pt 0) (cC pt 1) (cC pt 2) x y t)))) 0 0 (fun _ => False) := by
  refine x_metR (own := RX1) (cc := cX1_ofTwoLetters) (maxL := 5) (ret := (some .int)) (by decide) rfl rfl rfl ?_
  intro jp je js jm ja jb jt jc jQ jS jr jk jq hK hP ls hl
  have hl : lv_has ls 5 [(0, .ref hb), (1, .int (iI t)), (2, .int (iI x)), (3, .int (iI y))] := hl
  have hbt := hbx t ht.1 ht.2
  refine x_aln jS dX1_ofTwoLetters_0 rfl hl 0 rfl ?_
  refine x_get jS hK hP h_X1_ofTwoLetters_X1 0 rfl rfl 0 rfl m_X1_ofTwoLetters_1 rfl dX1_ofTwoLetters_1 ?_
  refine x_aln jS dX1_ofTwoLetters_4 rfl hl 0 rfl ?_
  refine x_iln jS dX1_ofTwoLetters_5 rfl hl 1 rfl ?_
  refine x_ic jS dX1_ofTwoLetters_6 ?_
  refine x_rI (x_rmV (As := [.int (iI t), .int (iI 0)]) (rest := [.ref h4]) jS hl.1 hK (c_X1_part jl D cI hb qp qf ql h0 h4 k n t 0 pt (by first | assumption | omega) (by first | assumption | omega)) (hP.sub [0, 1] rfl) 0 rfl rfl gX1_ofTwoLetters_X1_part rfl rfl rfl kf_X1_part rfl rfl rfl rfl rfl dX1_ofTwoLetters_7 rfl rfl) ?_
  refine x_aln jS dX1_ofTwoLetters_10 rfl hl 0 rfl ?_
  refine x_get jS hK hP h_X1_ofTwoLetters_X1 0 rfl rfl 1 rfl m_X1_ofTwoLetters_2 rfl dX1_ofTwoLetters_11 ?_
  refine x_aln jS dX1_ofTwoLetters_14 rfl hl 0 rfl ?_
  refine x_get jS hK hP h_X1_ofTwoLetters_X1 0 rfl rfl 5 rfl m_X1_ofTwoLetters_3 rfl dX1_ofTwoLetters_15 ?_
  refine x_iln jS dX1_ofTwoLetters_18 rfl hl 2 rfl ?_
  refine x_aln jS dX1_ofTwoLetters_19 rfl hl 0 rfl ?_
  refine x_iln jS dX1_ofTwoLetters_20 rfl hl 1 rfl ?_
  refine x_ic jS dX1_ofTwoLetters_21 ?_
  refine x_rI (x_rmV (As := [.int (iI t), .int (iI 1)]) (rest := [.int (iI x), .int (iI k), .ref h0, .int (iI (pt (t * 4 + 0))), .ref h4]) jS hl.1 hK (c_X1_part jl D cI hb qp qf ql h0 h4 k n t 1 pt (by first | assumption | omega) (by first | assumption | omega)) (hP.sub [0, 1] rfl) 0 rfl rfl gX1_ofTwoLetters_X1_part rfl rfl rfl kf_X1_part rfl rfl rfl rfl rfl dX1_ofTwoLetters_22 rfl rfl) ?_
  refine x_rI (x_rmV (As := [.int (iI k), .int (iI x), .int (iI (pt (t * 4 + 1)))]) (rest := [.int (iI (pt (t * 4 + 0))), .ref h4]) jS hl.1 hK (c_X0_letter jl D cI h0 h4 q4 P sh sc k x (pt (t * 4 + 1)) (by first | assumption | omega) (by first | assumption | omega) (by first | assumption | omega) (by first | assumption | omega) (by first | assumption | omega)) (hP.sub [2, 3] rfl) 0 rfl rfl gX1_ofTwoLetters_X0_letter rfl rfl rfl kf_X0_letter rfl rfl rfl rfl rfl dX1_ofTwoLetters_25 rfl rfl) ?_
  have hq := ltr_in (show 2 ≤ P by omega) sh sc k x (pt (t * 4 + 1))
  refine x_rI (x_rmV (As := [.int (iI (pt (t * 4 + 0))), .int (iI (ltr P sh sc k x (pt (t * 4 + 1))))]) (rest := []) jS hl.1 hK (c_X4_times jl D cI h4 q4 P (pt (t * 4 + 0)) (ltr P sh sc k x (pt (t * 4 + 1))) (by first | assumption | omega) (by first | assumption | omega) (by first | assumption | omega)) (hP.sub [3] rfl) 0 rfl rfl gX1_ofTwoLetters_X4_times rfl rfl rfl kf_X4_times rfl rfl rfl rfl rfl dX1_ofTwoLetters_28 rfl rfl) ?_
  refine x_is (lv' := [(4, .int (iI ((pt (t * 4 + 0)) * (ltr P sh sc k x (pt (t * 4 + 1))) % P))), (0, .ref hb), (1, .int (iI t)), (2, .int (iI x)), (3, .int (iI y))]) jS dX1_ofTwoLetters_31 hl rfl rfl (fun ls hl => ?_)
  refine x_aln jS dX1_ofTwoLetters_33 rfl hl 1 rfl ?_
  refine x_get jS hK hP h_X1_ofTwoLetters_X1 0 rfl rfl 0 rfl m_X1_ofTwoLetters_1 rfl dX1_ofTwoLetters_34 ?_
  refine x_il jS dX1_ofTwoLetters_37 hl 0 rfl ?_
  refine x_aln jS dX1_ofTwoLetters_39 rfl hl 1 rfl ?_
  refine x_get jS hK hP h_X1_ofTwoLetters_X1 0 rfl rfl 1 rfl m_X1_ofTwoLetters_2 rfl dX1_ofTwoLetters_40 ?_
  refine x_aln jS dX1_ofTwoLetters_43 rfl hl 1 rfl ?_
  refine x_get jS hK hP h_X1_ofTwoLetters_X1 0 rfl rfl 5 rfl m_X1_ofTwoLetters_3 rfl dX1_ofTwoLetters_44 ?_
  refine x_iln jS dX1_ofTwoLetters_47 rfl hl 4 rfl ?_
  refine x_aln jS dX1_ofTwoLetters_48 rfl hl 1 rfl ?_
  refine x_iln jS dX1_ofTwoLetters_49 rfl hl 2 rfl ?_
  refine x_ic jS dX1_ofTwoLetters_50 ?_
  refine x_rI (x_rmV (As := [.int (iI t), .int (iI 2)]) (rest := [.int (iI y), .int (iI k), .ref h0, .int (iI ((pt (t * 4 + 0)) * (ltr P sh sc k x (pt (t * 4 + 1))) % P)), .ref h4]) jS hl.1 hK (c_X1_part jl D cI hb qp qf ql h0 h4 k n t 2 pt (by first | assumption | omega) (by first | assumption | omega)) (hP.sub [0, 1] rfl) 0 rfl rfl gX1_ofTwoLetters_X1_part rfl rfl rfl kf_X1_part rfl rfl rfl rfl rfl dX1_ofTwoLetters_51 rfl rfl) ?_
  refine x_rI (x_rmV (As := [.int (iI k), .int (iI y), .int (iI (pt (t * 4 + 2)))]) (rest := [.int (iI ((pt (t * 4 + 0)) * (ltr P sh sc k x (pt (t * 4 + 1))) % P)), .ref h4]) jS hl.1 hK (c_X0_letter jl D cI h0 h4 q4 P sh sc k y (pt (t * 4 + 2)) (by first | assumption | omega) (by first | assumption | omega) (by first | assumption | omega) (by first | assumption | omega) (by first | assumption | omega)) (hP.sub [2, 3] rfl) 0 rfl rfl gX1_ofTwoLetters_X0_letter rfl rfl rfl kf_X0_letter rfl rfl rfl rfl rfl dX1_ofTwoLetters_54 rfl rfl) ?_
  have hq2 := ltr_in (show 2 ≤ P by omega) sh sc k y (pt (t * 4 + 2))
  have hq3 := emB (show 0 < P by omega) (pt (t * 4 + 0) * ltr P sh sc k x (pt (t * 4 + 1)))
  refine x_rI (x_rmV (As := [.int (iI ((pt (t * 4 + 0)) * (ltr P sh sc k x (pt (t * 4 + 1))) % P)), .int (iI (ltr P sh sc k y (pt (t * 4 + 2))))]) (rest := []) jS hl.1 hK (c_X4_times jl D cI h4 q4 P ((pt (t * 4 + 0)) * (ltr P sh sc k x (pt (t * 4 + 1))) % P) (ltr P sh sc k y (pt (t * 4 + 2))) (by first | assumption | omega) (by first | assumption | omega) (by first | assumption | omega)) (hP.sub [3] rfl) 0 rfl rfl gX1_ofTwoLetters_X4_times rfl rfl rfl kf_X4_times rfl rfl rfl rfl rfl dX1_ofTwoLetters_57 rfl rfl) ?_
  exact x_iretR jS jr jk jq dX1_ofTwoLetters_60 (rfl)
theorem h_X1_answer_X1 : ∀ w ∈ u_ws RX1 TX1 7, w ∈ wsX1_answer := fun w h => List.mem_cons_of_mem _ (List.mem_append_left _ (List.mem_append_left _ (List.mem_append_right _ h)))
theorem m_X1_answer_1 : Cond.fieldLink RX1 25 "SealedBox$Box" "terms" "I" ∈ wsX1_answer := List.mem_of_getElem? (i := 1) rfl
theorem m_X1_answer_2 : Cond.fieldLink RX1 28 "SealedBox$Box" "numbers" "LSealedBox$PrimeField;" ∈ wsX1_answer := List.mem_of_getElem? (i := 2) rfl
theorem h_X1_answer_X4 : ∀ w ∈ u_ws RX4 TX4 2, w ∈ wsX1_answer := fun w h => List.mem_cons_of_mem _ (List.mem_append_left _ (List.mem_append_right _ h))
theorem kf_X1_ofTwoLetters : kfV yX1_ofTwoLetters RX1 3 := by decide +kernel
theorem m_X1_answer_3 : Cond.fieldLink RX1 32 "SealedBox$Box" "bases" "LSealedBox$Bases;" ∈ wsX1_answer := List.mem_of_getElem? (i := 3) rfl
theorem m_X1_answer_4 : Cond.fieldLink RX1 21 "SealedBox$Box" "kind" "I" ∈ wsX1_answer := List.mem_of_getElem? (i := 4) rfl
abbrev rm_X1_answer : Room := { frames := 5, cells := 0, slots := 0, locals := 115 }
set_option maxHeartbeats 4000000 in
set_option maxRecDepth 100000 in
theorem c_X1_answer (jl : Launch) (D : va_G) (cI : ClassId) (hb qp qf ql h0 h4 q4 : Nat) (P sh sc k n : Int) (pt : Int → Int) (x y z : Int)  (hP5 : 5 ≤ P ∧ P ≤ 997) (hs : 0 ≤ sh ∧ sh ≤ 996 ∧ 1 ≤ sc ∧ sc ≤ 996) (hk : 0 ≤ k ∧ k ≤ 2) (hn : 0 ≤ n ∧ n ≤ 4) (hbx : bxOK P n pt) (hx : 0 ≤ x ∧ x ≤ 1000) (hy : 0 ≤ y ∧ y ≤ 1000) (hz : 0 ≤ z ∧ z ≤ 1000) : Met jl yX1_answer wsX1_answer rm_X1_answer (xPr [.ref hb, .int (iI x), .int (iI y), .int (iI z)] D cI [(hb, .inr (1, [.ref h4, .ref h0, .ref qp, .ref qf, .ref ql, .int (iI k), .int (iI n)])), (qp, .inl (cI, 16, .inl (aI pt))), (h0, .inr (0, [.ref h4, .int (iI sh), .int (iI sc)])), (h4, .inr (4, [.ref q4, .int (iI P)]))]) (vp_Si (fun r => r = (iI (ans P sh sc k n (cC pt 0) (cC pt 1) (cC pt 2) (cC pt 3) x y z)))) 0 0 (fun _ => False) := by
  refine x_metR (own := RX1) (cc := cX1_answer) (maxL := 6) (ret := (some .int)) (by decide) rfl rfl rfl ?_
  intro jp je js jm ja jb jt jc jQ jS jr jk jq hK hP ls hl
  have hl : lv_has ls 6 [(0, .ref hb), (1, .int (iI x)), (2, .int (iI y)), (3, .int (iI z))] := hl
  refine x_ic jS dX1_answer_0 ?_
  refine x_is (lv' := [(4, .int (iI 0)), (0, .ref hb), (1, .int (iI x)), (2, .int (iI y)), (3, .int (iI z))]) jS dX1_answer_1 hl rfl rfl (fun ls hl => ?_)
  refine x_ic jS dX1_answer_3 ?_
  refine x_is (lv' := [(5, .int (iI 0)), (4, .int (iI 0)), (0, .ref hb), (1, .int (iI x)), (2, .int (iI y)), (3, .int (iI z))]) jS dX1_answer_4 hl rfl rfl (fun ls hl => ?_)
  have loop_6 : ∀ (mm : Nat) (r : Int) (i : Int), (n - i).toNat = mm → (0 ≤ i ∧ i ≤ n) → (r = sm (fun t => tmg P sh sc k (cC pt 0) (cC pt 1) (cC pt 2) (cC pt 3) x y z t % P) i) → (0 ≤ r ∧ r ≤ i * 997) → ∀ ls : Array Slot, lv_has ls 6 [(5, .int (iI i)), (4, .int (iI r)), (0, .ref hb), (1, .int (iI x)), (2, .int (iI y)), (3, .int (iI z))] → W jp jl je rm_X1_answer js jm ja jb jt jc js.heap [] 0 0 jQ (F0 jm 6 ls []) := by
    intro mm
    induction mm using Nat.strongRecOn with
    | ind mm ih6 =>
      intro r i hmm6 hi hr hrb ls hl
      refine x_il jS dX1_answer_6 hl 0 rfl ?_
      refine x_aln jS dX1_answer_8 rfl hl 2 rfl ?_
      refine x_get jS hK hP h_X1_answer_X1 0 rfl rfl 6 rfl m_X1_answer_1 rfl dX1_answer_9 ?_
      refine x_cmpge jS 60 dX1_answer_12 (by decide) (by omega) (fun hc12 => ?_) (fun hc12 => ?_)
      · skip
        refine x_il jS dX1_answer_60 hl 1 rfl ?_
        refine x_aln jS dX1_answer_62 rfl hl 2 rfl ?_
        refine x_get jS hK hP h_X1_answer_X1 0 rfl rfl 0 rfl m_X1_answer_2 rfl dX1_answer_63 ?_
        refine x_getN jS hK hP h_X1_answer_X4 3 rfl rfl 1 rfl 4 rfl rfl dX1_answer_66 ?_
        refine x_irem jS dX1_answer_69 (by omega) (fun hm69 => ?_)
        exact x_iretR jS jr jk jq dX1_answer_70 (by rw [hr, show i = n by omega, sm_mod]; rfl)
      · skip
        have hbt := hbx i hi.1 hc12
        refine x_il jS dX1_answer_15 hl 1 rfl ?_
        refine x_aln jS dX1_answer_17 rfl hl 2 rfl ?_
        refine x_get jS hK hP h_X1_answer_X1 0 rfl rfl 0 rfl m_X1_answer_2 rfl dX1_answer_18 ?_
        refine x_aln jS dX1_answer_21 rfl hl 2 rfl ?_
        refine x_il jS dX1_answer_22 hl 0 rfl ?_
        refine x_iln jS dX1_answer_24 rfl hl 3 rfl ?_
        refine x_iln jS dX1_answer_25 rfl hl 4 rfl ?_
        refine x_rI (x_rmV (As := [.int (iI i), .int (iI x), .int (iI y)]) (rest := [.ref h4, .int (iI r)]) jS hl.1 hK (c_X1_ofTwoLetters jl D cI hb qp qf ql h0 h4 q4 P sh sc k n pt i x y (by first | assumption | omega) (by first | assumption | omega) (by first | assumption | omega) (by first | assumption | omega) (by first | assumption | omega) (by first | assumption | omega) (by first | assumption | omega) (by first | assumption | omega)) (hP.sub [0, 1, 2, 3] rfl) 0 rfl rfl gX1_answer_X1_ofTwoLetters rfl rfl rfl kf_X1_ofTwoLetters rfl rfl rfl rfl rfl dX1_answer_26 rfl rfl) ?_
        refine x_aln jS dX1_answer_29 rfl hl 2 rfl ?_
        refine x_get jS hK hP h_X1_answer_X1 0 rfl rfl 1 rfl m_X1_answer_3 rfl dX1_answer_30 ?_
        refine x_aln jS dX1_answer_33 rfl hl 2 rfl ?_
        refine x_get jS hK hP h_X1_answer_X1 0 rfl rfl 5 rfl m_X1_answer_4 rfl dX1_answer_34 ?_
        refine x_iln jS dX1_answer_37 rfl hl 5 rfl ?_
        refine x_aln jS dX1_answer_38 rfl hl 2 rfl ?_
        refine x_il jS dX1_answer_39 hl 0 rfl ?_
        refine x_ic jS dX1_answer_41 ?_
        refine x_rI (x_rmV (As := [.int (iI i), .int (iI 3)]) (rest := [.int (iI z), .int (iI k), .ref h0, .int (iI (of2 P sh sc k (cC pt 0) (cC pt 1) (cC pt 2) x y i)), .ref h4, .int (iI r)]) jS hl.1 hK (c_X1_part jl D cI hb qp qf ql h0 h4 k n i 3 pt (by first | assumption | omega) (by first | assumption | omega)) (hP.sub [0, 1] rfl) 0 rfl rfl gX1_answer_X1_part rfl rfl rfl kf_X1_part rfl rfl rfl rfl rfl dX1_answer_42 rfl rfl) ?_
        refine x_rI (x_rmV (As := [.int (iI k), .int (iI z), .int (iI (pt (i * 4 + 3)))]) (rest := [.int (iI (of2 P sh sc k (cC pt 0) (cC pt 1) (cC pt 2) x y i)), .ref h4, .int (iI r)]) jS hl.1 hK (c_X0_letter jl D cI h0 h4 q4 P sh sc k z (pt (i * 4 + 3)) (by first | assumption | omega) (by first | assumption | omega) (by first | assumption | omega) (by first | assumption | omega) (by first | assumption | omega)) (hP.sub [2, 3] rfl) 0 rfl rfl gX1_answer_X0_letter rfl rfl rfl kf_X0_letter rfl rfl rfl rfl rfl dX1_answer_45 rfl rfl) ?_
        have hq := ltr_in (show 2 ≤ P by omega) sh sc k z (pt (i * 4 + 3))
        have hq2 := of2_in (show 2 ≤ P by omega) sh sc k (cC pt 0) (cC pt 1) (cC pt 2) x y i
        have hq3 := emB (show 0 < P by omega) (of2 P sh sc k (cC pt 0) (cC pt 1) (cC pt 2) x y i * ltr P sh sc k z (pt (i * 4 + 3)))
        refine x_rI (x_rmV (As := [.int (iI (of2 P sh sc k (cC pt 0) (cC pt 1) (cC pt 2) x y i)), .int (iI (ltr P sh sc k z (pt (i * 4 + 3))))]) (rest := [.int (iI r)]) jS hl.1 hK (c_X4_times jl D cI h4 q4 P (of2 P sh sc k (cC pt 0) (cC pt 1) (cC pt 2) x y i) (ltr P sh sc k z (pt (i * 4 + 3))) (by first | assumption | omega) (by first | assumption | omega) (by first | assumption | omega)) (hP.sub [3] rfl) 0 rfl rfl gX1_answer_X4_times rfl rfl rfl kf_X4_times rfl rfl rfl rfl rfl dX1_answer_48 rfl rfl) ?_
        refine x_iadd jS dX1_answer_51 ?_
        refine x_is (lv' := [(4, .int (iI (r + ((of2 P sh sc k (cC pt 0) (cC pt 1) (cC pt 2) x y i) * (ltr P sh sc k z (pt (i * 4 + 3))) % P)))), (5, .int (iI i)), (0, .ref hb), (1, .int (iI x)), (2, .int (iI y)), (3, .int (iI z))]) jS dX1_answer_52 hl rfl rfl (fun ls hl => ?_)
        refine x_iinc (lv' := [(5, .int (iI (i + 1))), (4, .int (iI (r + ((of2 P sh sc k (cC pt 0) (cC pt 1) (cC pt 2) x y i) * (ltr P sh sc k z (pt (i * 4 + 3))) % P)))), (0, .ref hb), (1, .int (iI x)), (2, .int (iI y)), (3, .int (iI z))]) jS dX1_answer_54 hl 1 rfl rfl rfl (fun ls hl => ?_)
        refine x_goto jS 6 dX1_answer_57 (by decide) ?_
        exact ih6 _ (by omega) (r + ((of2 P sh sc k (cC pt 0) (cC pt 1) (cC pt 2) x y i) * (ltr P sh sc k z (pt (i * 4 + 3))) % P)) (i + 1) rfl (by omega) (by rw [sm_s _ hi.1, ← hr]; rfl) (by omega) ls (lv_sub hl [0, 1, 2, 3, 4, 5] rfl)
  exact loop_6 _ 0 0 rfl (by omega) ((sm_0 _).symm) (by omega) ls (lv_sub hl [0, 1, 2, 3, 4, 5] rfl)
theorem h_X1_drop_X1 : ∀ w ∈ u_ws RX1 TX1 7, w ∈ wsX1_drop := fun w h => List.mem_cons_of_mem _ (List.mem_append_right _ h)
theorem m_X1_drop_1 : Cond.fieldLink RX1 25 "SealedBox$Box" "terms" "I" ∈ wsX1_drop := List.mem_of_getElem? (i := 1) rfl
abbrev rm_X1_drop : Room := { frames := 0, cells := 0, slots := 0, locals := 0 }
set_option maxHeartbeats 4000000 in
set_option maxRecDepth 100000 in
theorem c_X1_drop (jl : Launch) (D : va_G) (cI : ClassId) (hb qp qf ql h0 h4 : Nat) (k n : Int) (sz : Nat) : Met jl yX1_drop wsX1_drop rm_X1_drop (xPw [.ref hb] D cI [(hb, .inr (1, [.ref h4, .ref h0, .ref qp, .ref qf, .ref ql, .int (iI k), .int (iI n)]))] sz) (va_Qv (fun (u : Unit) => True) (xB D (fun (u : Unit) => [(hb, .inr (1, [.ref h4, .ref h0, .ref qp, .ref qf, .ref ql, .int (iI k), .int (iI 0)]))]) (va_A [(hb, .inr (1, [.ref h4, .ref h0, .ref qp, .ref qf, .ref ql, .int (iI k), .int (iI n)]))] sz)) (va_A [(hb, .inr (1, [.ref h4, .ref h0, .ref qp, .ref qf, .ref ql, .int (iI k), .int (iI n)]))] sz)) 0 0 (va_A [(hb, .inr (1, [.ref h4, .ref h0, .ref qp, .ref qf, .ref ql, .int (iI k), .int (iI n)]))] sz) := by
  refine x_metW (own := RX1) (cc := cX1_drop) (maxL := 1) (ret := none) (Qc := fun jA => va_Qv (fun (u : Unit) => True) (xB D (fun (u : Unit) => [(hb, .inr (1, [.ref h4, .ref h0, .ref qp, .ref qf, .ref ql, .int (iI k), .int (iI 0)]))]) jA) jA) (by decide) rfl rfl rfl ?_
  intro jp je js jm ja jb jt jc jA jQ jS jr jk jn jq hK hP hD hA hS ls hl
  have hl : lv_has ls 1 [(0, .ref hb)] := hl
  refine x_aln jS dX1_drop_0 rfl hl 0 rfl ?_
  refine x_ic jS dX1_drop_1 ?_
  refine x_put (ty0 := tyX1) (ws' := [(hb, .inr (1, [.ref h4, .ref h0, .ref qp, .ref qf, .ref ql, .int (iI k), .int (iI 0)]))]) jS hK hP hD hS h_X1_drop_X1 tyX1_ok nmX1 0 rfl rfl 6 rfl m_X1_drop_1 rfl rfl rfl rfl dX1_drop_2 rfl (fun jH jL hP hD hS => ?_)
  exact x_vretW jS jr jk jq dX1_drop_5 () hP hD hS (show True from trivial)
theorem h_X1_add_X1 : ∀ w ∈ u_ws RX1 TX1 7, w ∈ wsX1_add := fun w h => List.mem_cons_of_mem _ (List.mem_append_right _ h)
theorem m_X1_add_1 : Cond.fieldLink RX1 25 "SealedBox$Box" "terms" "I" ∈ wsX1_add := List.mem_of_getElem? (i := 1) rfl
theorem m_X1_add_2 : Cond.fieldLink RX1 11 "SealedBox$Box" "parts" "[I" ∈ wsX1_add := List.mem_of_getElem? (i := 2) rfl
abbrev rm_X1_add : Room := { frames := 0, cells := 0, slots := 0, locals := 0 }
set_option maxHeartbeats 4000000 in
set_option maxRecDepth 100000 in
theorem c_X1_add (jl : Launch) (D : va_G) (cI : ClassId) (hb qp qf ql h0 h4 : Nat) (k n co a b d : Int) (pt : Int → Int) (sz : Nat) (hn : 0 ≤ n ∧ n ≤ 4) : Met jl yX1_add wsX1_add rm_X1_add (xPw [.ref hb, .int (iI co), .int (iI a), .int (iI b), .int (iI d)] D cI [(hb, .inr (1, [.ref h4, .ref h0, .ref qp, .ref qf, .ref ql, .int (iI k), .int (iI n)])), (qp, .inl (cI, 16, .inl (aI pt)))] sz) (va_Qi (fun (r : Int32) (u : Int × (Int → Int)) => r = (iI (bI (n < 4))) ∧ (n < 4 → u.1 = n + 1 ∧ u.2 = pt4 pt n co a b d) ∧ (¬ n < 4 → u.1 = n ∧ u.2 = pt)) (xB D (fun (u : Int × (Int → Int)) => [(hb, .inr (1, [.ref h4, .ref h0, .ref qp, .ref qf, .ref ql, .int (iI k), .int (iI u.1)])), (qp, .inl (cI, 16, .inl (aI u.2)))]) (va_A [(hb, .inr (1, [.ref h4, .ref h0, .ref qp, .ref qf, .ref ql, .int (iI k), .int (iI n)])), (qp, .inl (cI, 16, .inl (aI pt)))] sz)) (va_A [(hb, .inr (1, [.ref h4, .ref h0, .ref qp, .ref qf, .ref ql, .int (iI k), .int (iI n)])), (qp, .inl (cI, 16, .inl (aI pt)))] sz)) 0 0 (va_A [(hb, .inr (1, [.ref h4, .ref h0, .ref qp, .ref qf, .ref ql, .int (iI k), .int (iI n)])), (qp, .inl (cI, 16, .inl (aI pt)))] sz) := by
  refine x_metW (own := RX1) (cc := cX1_add) (maxL := 6) (ret := (some .boolean)) (Qc := fun jA => va_Qi (fun (r : Int32) (u : Int × (Int → Int)) => r = (iI (bI (n < 4))) ∧ (n < 4 → u.1 = n + 1 ∧ u.2 = pt4 pt n co a b d) ∧ (¬ n < 4 → u.1 = n ∧ u.2 = pt)) (xB D (fun (u : Int × (Int → Int)) => [(hb, .inr (1, [.ref h4, .ref h0, .ref qp, .ref qf, .ref ql, .int (iI k), .int (iI u.1)])), (qp, .inl (cI, 16, .inl (aI u.2)))]) jA) jA) (by decide) rfl rfl rfl ?_
  intro jp je js jm ja jb jt jc jA jQ jS jr jk jn jq hK hP hD hA hS ls hl
  have hl : lv_has ls 6 [(0, .ref hb), (1, .int (iI co)), (2, .int (iI a)), (3, .int (iI b)), (4, .int (iI d))] := hl
  refine x_aln jS dX1_add_0 rfl hl 0 rfl ?_
  refine x_get jS hK hP h_X1_add_X1 0 rfl rfl 6 rfl m_X1_add_1 rfl dX1_add_1 ?_
  refine x_ic jS dX1_add_4 ?_
  refine x_cmplt jS 10 dX1_add_5 (by decide) (by omega) (fun hc5 => ?_) (fun hc5 => ?_)
  · skip
    refine x_aln jS dX1_add_10 rfl hl 0 rfl ?_
    refine x_get jS hK hP h_X1_add_X1 0 rfl rfl 6 rfl m_X1_add_1 rfl dX1_add_11 ?_
    refine x_ic jS dX1_add_14 ?_
    refine x_imul jS dX1_add_15 ?_
    refine x_is (lv' := [(5, .int (iI (n * 4))), (0, .ref hb), (1, .int (iI co)), (2, .int (iI a)), (3, .int (iI b)), (4, .int (iI d))]) jS dX1_add_16 hl rfl rfl (fun ls hl => ?_)
    refine x_aln jS dX1_add_18 rfl hl 1 rfl ?_
    refine x_get jS hK hP h_X1_add_X1 0 rfl rfl 2 rfl m_X1_add_2 rfl dX1_add_19 ?_
    refine x_il jS dX1_add_22 hl 0 rfl ?_
    refine x_ic jS dX1_add_24 ?_
    refine x_iadd jS dX1_add_25 ?_
    refine x_iln jS dX1_add_26 rfl hl 2 rfl ?_
    refine x_iast (ws' := [(hb, .inr (1, [.ref h4, .ref h0, .ref qp, .ref qf, .ref ql, .int (iI k), .int (iI n)])), (qp, .inl (cI, 16, .inl (aI (uI pt ((n * 4) + 0) co))))]) jS hK hP hD hS 1 rfl (by omega) dX1_add_27 rfl (fun jH jL hP hD hS => ?_)
    refine x_aln jS dX1_add_28 rfl hl 1 rfl ?_
    refine x_get jS hK hP h_X1_add_X1 0 rfl rfl 2 rfl m_X1_add_2 rfl dX1_add_29 ?_
    refine x_il jS dX1_add_32 hl 0 rfl ?_
    refine x_ic jS dX1_add_34 ?_
    refine x_iadd jS dX1_add_35 ?_
    refine x_iln jS dX1_add_36 rfl hl 3 rfl ?_
    refine x_iast (ws' := [(hb, .inr (1, [.ref h4, .ref h0, .ref qp, .ref qf, .ref ql, .int (iI k), .int (iI n)])), (qp, .inl (cI, 16, .inl (aI (uI (uI pt ((n * 4) + 0) co) ((n * 4) + 1) a))))]) jS hK hP hD hS 1 rfl (by omega) dX1_add_37 rfl (fun jH jL hP hD hS => ?_)
    refine x_aln jS dX1_add_38 rfl hl 1 rfl ?_
    refine x_get jS hK hP h_X1_add_X1 0 rfl rfl 2 rfl m_X1_add_2 rfl dX1_add_39 ?_
    refine x_il jS dX1_add_42 hl 0 rfl ?_
    refine x_ic jS dX1_add_44 ?_
    refine x_iadd jS dX1_add_45 ?_
    refine x_iln jS dX1_add_46 rfl hl 4 rfl ?_
    refine x_iast (ws' := [(hb, .inr (1, [.ref h4, .ref h0, .ref qp, .ref qf, .ref ql, .int (iI k), .int (iI n)])), (qp, .inl (cI, 16, .inl (aI (uI (uI (uI pt ((n * 4) + 0) co) ((n * 4) + 1) a) ((n * 4) + 2) b))))]) jS hK hP hD hS 1 rfl (by omega) dX1_add_47 rfl (fun jH jL hP hD hS => ?_)
    refine x_aln jS dX1_add_48 rfl hl 1 rfl ?_
    refine x_get jS hK hP h_X1_add_X1 0 rfl rfl 2 rfl m_X1_add_2 rfl dX1_add_49 ?_
    refine x_il jS dX1_add_52 hl 0 rfl ?_
    refine x_ic jS dX1_add_54 ?_
    refine x_iadd jS dX1_add_55 ?_
    refine x_il jS dX1_add_56 hl 5 rfl ?_
    refine x_iast (ws' := [(hb, .inr (1, [.ref h4, .ref h0, .ref qp, .ref qf, .ref ql, .int (iI k), .int (iI n)])), (qp, .inl (cI, 16, .inl (aI (uI (uI (uI (uI pt ((n * 4) + 0) co) ((n * 4) + 1) a) ((n * 4) + 2) b) ((n * 4) + 3) d))))]) jS hK hP hD hS 1 rfl (by omega) dX1_add_58 rfl (fun jH jL hP hD hS => ?_)
    refine x_aln jS dX1_add_59 rfl hl 1 rfl ?_
    refine x_dup jS dX1_add_60 rfl ?_
    refine x_get jS hK hP h_X1_add_X1 0 rfl rfl 6 rfl m_X1_add_1 rfl dX1_add_61 ?_
    refine x_ic jS dX1_add_64 ?_
    refine x_iadd jS dX1_add_65 ?_
    refine x_put (ty0 := tyX1) (ws' := [(hb, .inr (1, [.ref h4, .ref h0, .ref qp, .ref qf, .ref ql, .int (iI k), .int (iI (n + 1))])), (qp, .inl (cI, 16, .inl (aI (uI (uI (uI (uI pt ((n * 4) + 0) co) ((n * 4) + 1) a) ((n * 4) + 2) b) ((n * 4) + 3) d))))]) jS hK hP hD hS h_X1_add_X1 tyX1_ok nmX1 0 rfl rfl 6 rfl m_X1_add_1 rfl rfl rfl rfl dX1_add_66 rfl (fun jH jL hP hD hS => ?_)
    refine x_ic jS dX1_add_69 ?_
    exact x_zretW jS jr jk jq dX1_add_70 rfl ⟨(n + 1), (uI (uI (uI (uI pt ((n * 4) + 0) co) ((n * 4) + 1) a) ((n * 4) + 2) b) ((n * 4) + 3) d)⟩ hP hD hS (show (iI 1) = (iI (bI (n < 4))) ∧ ((n < 4 → (n + 1) = n + 1 ∧ (uI (uI (uI (uI pt ((n * 4) + 0) co) ((n * 4) + 1) a) ((n * 4) + 2) b) ((n * 4) + 3) d) = pt4 pt n co a b d) ∧ (¬ n < 4 → (n + 1) = n ∧ (uI (uI (uI (uI pt ((n * 4) + 0) co) ((n * 4) + 1) a) ((n * 4) + 2) b) ((n * 4) + 3) d) = pt)) from ⟨congrArg iI (bI_t hc5).symm, fun _ => ⟨rfl, rfl⟩, fun h => absurd hc5 h⟩)
  · skip
    refine x_ic jS dX1_add_8 ?_
    exact x_zretW jS jr jk jq dX1_add_9 rfl ⟨n, pt⟩ hP hD hS (show (iI 0) = (iI (bI (n < 4))) ∧ ((n < 4 → n = n + 1 ∧ pt = pt4 pt n co a b d) ∧ (¬ n < 4 → n = n ∧ pt = pt)) from ⟨congrArg iI (bI_f (by omega)).symm, fun h => by omega, fun _ => ⟨rfl, rfl⟩⟩)
end
section
/-! Box: lines -/
theorem h_X1_readyLines_X1 : ∀ w ∈ u_ws RX1 TX1 7, w ∈ wsX1_readyLines := fun w h => List.mem_cons_of_mem _ (List.mem_append_left _ (List.mem_append_left _ (List.mem_append_right _ h)))
theorem m_X1_readyLines_1 : Cond.fieldLink RX1 28 "SealedBox$Box" "numbers" "LSealedBox$PrimeField;" ∈ wsX1_readyLines := List.mem_of_getElem? (i := 1) rfl
theorem h_X1_readyLines_X4 : ∀ w ∈ u_ws RX4 TX4 2, w ∈ wsX1_readyLines := fun w h => List.mem_cons_of_mem _ (List.mem_append_left _ (List.mem_append_right _ h))
theorem m_X1_readyLines_2 : Cond.fieldLink RX1 15 "SealedBox$Box" "lineForms" "[I" ∈ wsX1_readyLines := List.mem_of_getElem? (i := 2) rfl
theorem m_X1_readyLines_3 : Cond.fieldLink RX1 32 "SealedBox$Box" "bases" "LSealedBox$Bases;" ∈ wsX1_readyLines := List.mem_of_getElem? (i := 3) rfl
theorem m_X1_readyLines_4 : Cond.fieldLink RX1 21 "SealedBox$Box" "kind" "I" ∈ wsX1_readyLines := List.mem_of_getElem? (i := 4) rfl
abbrev rm_X1_readyLines : Room := { frames := 4, cells := 0, slots := 0, locals := 91 }
set_option maxHeartbeats 4000000 in
set_option maxRecDepth 100000 in
theorem c_X1_readyLines (jl : Launch) (D : va_G) (cI : ClassId) (hb qp qf ql h0 h4 q4 : Nat) (P sh sc k n : Int) (lf : Int → Int) (sz : Nat) (hP5 : 5 ≤ P ∧ P ≤ 997) (h23 : P ≤ 23) (hs : 0 ≤ sh ∧ sh ≤ 996 ∧ 1 ≤ sc ∧ sc ≤ 996) (hk : 0 ≤ k ∧ k ≤ 2) : Met jl yX1_readyLines wsX1_readyLines rm_X1_readyLines (xPw [.ref hb] D cI [(hb, .inr (1, [.ref h4, .ref h0, .ref qp, .ref qf, .ref ql, .int (iI k), .int (iI n)])), (qf, .inl (cI, 115, .inl (aI lf))), (h0, .inr (0, [.ref h4, .int (iI sh), .int (iI sc)])), (h4, .inr (4, [.ref q4, .int (iI P)]))] sz) (va_Qv (fun (u : (Int → Int)) => ∀ i z : Int, 0 ≤ i → i ≤ 4 → 0 ≤ z → z < P → u (i * 23 + z) = ltr P sh sc k z i) (xB D (fun (u : (Int → Int)) => [(hb, .inr (1, [.ref h4, .ref h0, .ref qp, .ref qf, .ref ql, .int (iI k), .int (iI n)])), (qf, .inl (cI, 115, .inl (aI u))), (h0, .inr (0, [.ref h4, .int (iI sh), .int (iI sc)])), (h4, .inr (4, [.ref q4, .int (iI P)]))]) (va_A [(hb, .inr (1, [.ref h4, .ref h0, .ref qp, .ref qf, .ref ql, .int (iI k), .int (iI n)])), (qf, .inl (cI, 115, .inl (aI lf))), (h0, .inr (0, [.ref h4, .int (iI sh), .int (iI sc)])), (h4, .inr (4, [.ref q4, .int (iI P)]))] sz)) (va_A [(hb, .inr (1, [.ref h4, .ref h0, .ref qp, .ref qf, .ref ql, .int (iI k), .int (iI n)])), (qf, .inl (cI, 115, .inl (aI lf))), (h0, .inr (0, [.ref h4, .int (iI sh), .int (iI sc)])), (h4, .inr (4, [.ref q4, .int (iI P)]))] sz)) 0 0 (va_A [(hb, .inr (1, [.ref h4, .ref h0, .ref qp, .ref qf, .ref ql, .int (iI k), .int (iI n)])), (qf, .inl (cI, 115, .inl (aI lf))), (h0, .inr (0, [.ref h4, .int (iI sh), .int (iI sc)])), (h4, .inr (4, [.ref q4, .int (iI P)]))] sz) := by
  refine x_metW (own := RX1) (cc := cX1_readyLines) (maxL := 3) (ret := none) (Qc := fun jA => va_Qv (fun (u : (Int → Int)) => ∀ i z : Int, 0 ≤ i → i ≤ 4 → 0 ≤ z → z < P → u (i * 23 + z) = ltr P sh sc k z i) (xB D (fun (u : (Int → Int)) => [(hb, .inr (1, [.ref h4, .ref h0, .ref qp, .ref qf, .ref ql, .int (iI k), .int (iI n)])), (qf, .inl (cI, 115, .inl (aI u))), (h0, .inr (0, [.ref h4, .int (iI sh), .int (iI sc)])), (h4, .inr (4, [.ref q4, .int (iI P)]))]) jA) jA) (by decide) rfl rfl rfl ?_
  intro jp je js jm ja jb jt jc jA jQ jS jr jk jn jq hK hP hD hA hS ls hl
  have hl : lv_has ls 3 [(0, .ref hb)] := hl
  refine x_ic jS dX1_readyLines_0 ?_
  refine x_isn (lv' := [(1, .int (iI 0)), (0, .ref hb)]) jS dX1_readyLines_1 rfl hl rfl rfl (fun ls hl => ?_)
  have loop_2 : ∀ (mm : Nat) (i : Int) (lf1 : Int → Int) (jH : Heap) (jL : List Loc), (5 - i).toNat = mm → (0 ≤ i ∧ i ≤ 5) → (∀ j z : Int, 0 ≤ j → j < i → 0 ≤ z → z < P → lf1 (j * 23 + z) = ltr P sh sc k z j) → va_P D vwCl [(hb, .inr (1, [.ref h4, .ref h0, .ref qp, .ref qf, .ref ql, .int (iI k), .int (iI n)])), (qf, .inl (cI, 115, .inl (aI lf1))), (h0, .inr (0, [.ref h4, .int (iI sh), .int (iI sc)])), (h4, .inr (4, [.ref q4, .int (iI P)]))] jH → va_D jA [(hb, .inr (1, [.ref h4, .ref h0, .ref qp, .ref qf, .ref ql, .int (iI k), .int (iI n)])), (qf, .inl (cI, 115, .inl (aI lf1))), (h0, .inr (0, [.ref h4, .int (iI sh), .int (iI sc)])), (h4, .inr (4, [.ref q4, .int (iI P)]))] → va_S jA js.heap jH jL → ∀ ls : Array Slot, lv_has ls 3 [(1, .int (iI i)), (0, .ref hb)] → W jp jl je rm_X1_readyLines js jm ja jb jt jc jH jL 0 0 jQ (F0 jm 2 ls []) := by
    intro mm
    induction mm using Nat.strongRecOn with
    | ind mm ih2 =>
      intro i lf1 jH jL hmm2 hi hf hP hD hS ls hl
      refine x_iln jS dX1_readyLines_2 rfl hl 0 rfl ?_
      refine x_ic jS dX1_readyLines_3 ?_
      refine x_cmpgt jS 62 dX1_readyLines_4 (by decide) (by omega) (fun hc4 => ?_) (fun hc4 => ?_)
      · skip
        exact x_vretW jS jr jk jq dX1_readyLines_62 lf1 hP hD hS (show ∀ i z : Int, 0 ≤ i → i ≤ 4 → 0 ≤ z → z < P → lf1 (i * 23 + z) = ltr P sh sc k z i from fun j w h1 h2 h3 h4 => hf j w h1 (by omega) h3 h4)
      · skip
        refine x_ic jS dX1_readyLines_7 ?_
        refine x_isn (lv' := [(2, .int (iI 0)), (1, .int (iI i)), (0, .ref hb)]) jS dX1_readyLines_8 rfl hl rfl rfl (fun ls hl => ?_)
        have loop_9 : ∀ (mm : Nat) (z : Int) (lf3 : Int → Int) (jH : Heap) (jL : List Loc), (P - z).toNat = mm → (0 ≤ z ∧ z ≤ P) → (∀ j z : Int, 0 ≤ j → j < i → 0 ≤ z → z < P → lf3 (j * 23 + z) = ltr P sh sc k z j) → (∀ w : Int, 0 ≤ w → w < z → lf3 (i * 23 + w) = ltr P sh sc k w i) → va_P D vwCl [(hb, .inr (1, [.ref h4, .ref h0, .ref qp, .ref qf, .ref ql, .int (iI k), .int (iI n)])), (qf, .inl (cI, 115, .inl (aI lf3))), (h0, .inr (0, [.ref h4, .int (iI sh), .int (iI sc)])), (h4, .inr (4, [.ref q4, .int (iI P)]))] jH → va_D jA [(hb, .inr (1, [.ref h4, .ref h0, .ref qp, .ref qf, .ref ql, .int (iI k), .int (iI n)])), (qf, .inl (cI, 115, .inl (aI lf3))), (h0, .inr (0, [.ref h4, .int (iI sh), .int (iI sc)])), (h4, .inr (4, [.ref q4, .int (iI P)]))] → va_S jA js.heap jH jL → ∀ ls : Array Slot, lv_has ls 3 [(2, .int (iI z)), (1, .int (iI i)), (0, .ref hb)] → W jp jl je rm_X1_readyLines js jm ja jb jt jc jH jL 0 0 jQ (F0 jm 9 ls []) := by
          intro mm
          induction mm using Nat.strongRecOn with
          | ind mm ih9 =>
            intro z lf3 jH jL hmm9 hz hf3 hg3 hP hD hS ls hl
            refine x_iln jS dX1_readyLines_9 rfl hl 0 rfl ?_
            refine x_aln jS dX1_readyLines_10 rfl hl 2 rfl ?_
            refine x_get jS hK hP h_X1_readyLines_X1 0 rfl rfl 0 rfl m_X1_readyLines_1 rfl dX1_readyLines_11 ?_
            refine x_getN jS hK hP h_X1_readyLines_X4 3 rfl rfl 1 rfl 4 rfl rfl dX1_readyLines_14 ?_
            refine x_cmpge jS 56 dX1_readyLines_17 (by decide) (by omega) (fun hc17 => ?_) (fun hc17 => ?_)
            · skip
              refine x_iinc (lv' := [(1, .int (iI (i + 1))), (2, .int (iI z)), (0, .ref hb)]) jS dX1_readyLines_56 hl 1 rfl rfl rfl (fun ls hl => ?_)
              refine x_goto jS 2 dX1_readyLines_59 (by decide) ?_
              exact ih2 _ (by omega) (i + 1) lf3 _ _ rfl (by omega) (fun j w h1 h2 h3 h4 => by rcases Int.lt_or_le j i with q | q; exact hf3 j w h1 q h3 h4; rw [show j = i by omega]; exact hg3 w h3 (by omega)) hP hD hS ls (lv_sub hl [0, 2] rfl)
            · skip
              refine x_iln jS dX1_readyLines_20 rfl hl 0 rfl ?_
              refine x_bi jS dX1_readyLines_21 (by decide) ?_
              refine x_cmpge jS 56 dX1_readyLines_23 (by decide) (by omega) (fun hc23 => ?_) (fun hc23 => ?_)
              · exfalso; omega
              refine x_aln jS dX1_readyLines_26 rfl hl 2 rfl ?_
              refine x_get jS hK hP h_X1_readyLines_X1 0 rfl rfl 3 rfl m_X1_readyLines_2 rfl dX1_readyLines_27 ?_
              refine x_iln jS dX1_readyLines_30 rfl hl 1 rfl ?_
              refine x_bi jS dX1_readyLines_31 (by decide) ?_
              refine x_imul jS dX1_readyLines_33 ?_
              refine x_iln jS dX1_readyLines_34 rfl hl 0 rfl ?_
              refine x_iadd jS dX1_readyLines_35 ?_
              refine x_aln jS dX1_readyLines_36 rfl hl 2 rfl ?_
              refine x_get jS hK hP h_X1_readyLines_X1 0 rfl rfl 1 rfl m_X1_readyLines_3 rfl dX1_readyLines_37 ?_
              refine x_aln jS dX1_readyLines_40 rfl hl 2 rfl ?_
              refine x_get jS hK hP h_X1_readyLines_X1 0 rfl rfl 5 rfl m_X1_readyLines_4 rfl dX1_readyLines_41 ?_
              refine x_iln jS dX1_readyLines_44 rfl hl 0 rfl ?_
              refine x_iln jS dX1_readyLines_45 rfl hl 1 rfl ?_
              refine x_rI (x_rmV (As := [.int (iI k), .int (iI z), .int (iI i)]) (rest := [.int (iI ((i * 23) + z)), .ref qf]) jS hl.1 hK (c_X0_letter jl D cI h0 h4 q4 P sh sc k z i (by first | assumption | omega) (by first | assumption | omega) (by first | assumption | omega) (by first | assumption | omega) (by first | assumption | omega)) (hP.sub [2, 3] rfl) 0 rfl rfl gX1_readyLines_X0_letter rfl rfl rfl kf_X0_letter rfl rfl rfl rfl rfl dX1_readyLines_46 rfl rfl) ?_
              refine x_iast (ws' := [(hb, .inr (1, [.ref h4, .ref h0, .ref qp, .ref qf, .ref ql, .int (iI k), .int (iI n)])), (qf, .inl (cI, 115, .inl (aI (uI lf3 ((i * 23) + z) (ltr P sh sc k z i))))), (h0, .inr (0, [.ref h4, .int (iI sh), .int (iI sc)])), (h4, .inr (4, [.ref q4, .int (iI P)]))]) jS hK hP hD hS 1 rfl (by omega) dX1_readyLines_49 rfl (fun jH jL hP hD hS => ?_)
              refine x_iinc (lv' := [(2, .int (iI (z + 1))), (1, .int (iI i)), (0, .ref hb)]) jS dX1_readyLines_50 hl 0 rfl rfl rfl (fun ls hl => ?_)
              refine x_goto jS 9 dX1_readyLines_53 (by decide) ?_
              exact ih9 _ (by omega) (z + 1) (uI lf3 ((i * 23) + z) (ltr P sh sc k z i)) _ _ rfl (by omega) (fun j w h1 h2 h3 h4 => by rw [uI_n (by omega)]; exact hf3 j w h1 h2 h3 h4) (fun w h1 h2 => by rcases Int.lt_or_le w z with q | q; rw [uI_n (by omega)]; exact hg3 w h1 q; rw [show w = z by omega, uI_s]) hP hD hS ls (lv_sub hl [0, 1, 2] rfl)
        exact loop_9 _ 0 lf1 _ _ rfl (by omega) (hf) (fun w h1 h2 => by omega) hP hD hS ls (lv_sub hl [0, 1, 2] rfl)
  exact loop_2 _ 0 lf _ _ rfl (by omega) (fun j z h1 h2 => by omega) hP hD hS ls (lv_sub hl [0, 1] rfl)
theorem kf_X7_isExponent : kfS yX7_isExponent 1 := by decide +kernel
theorem m_X1_addToLine_5 : Cond.initialized RX7 ∈ wsX1_addToLine := List.mem_of_getElem? (i := 5) rfl
theorem m_X1_addToLine_4 : Cond.static yX7_isExponent ∈ wsX1_addToLine := List.mem_of_getElem? (i := 4) rfl
theorem h_X1_addToLine_X1 : ∀ w ∈ u_ws RX1 TX1 7, w ∈ wsX1_addToLine := fun w h => List.mem_cons_of_mem _ (List.mem_append_left _ (List.mem_append_right _ h))
theorem m_X1_addToLine_1 : Cond.fieldLink RX1 28 "SealedBox$Box" "numbers" "LSealedBox$PrimeField;" ∈ wsX1_addToLine := List.mem_of_getElem? (i := 1) rfl
theorem h_X1_addToLine_X4 : ∀ w ∈ u_ws RX4 TX4 2, w ∈ wsX1_addToLine := fun w h => List.mem_cons_of_mem _ (List.mem_append_right _ h)
theorem m_X1_addToLine_2 : Cond.fieldLink RX1 18 "SealedBox$Box" "line" "[I" ∈ wsX1_addToLine := List.mem_of_getElem? (i := 2) rfl
theorem m_X1_addToLine_3 : Cond.fieldLink RX1 15 "SealedBox$Box" "lineForms" "[I" ∈ wsX1_addToLine := List.mem_of_getElem? (i := 3) rfl
abbrev rm_X1_addToLine : Room := { frames := 1, cells := 0, slots := 0, locals := 20 }
set_option maxHeartbeats 4000000 in
set_option maxRecDepth 100000 in
theorem c_X1_addToLine (jl : Launch) (D : va_G) (cI : ClassId) (hb qp qf ql h0 h4 q4 : Nat) (P k n fa ex : Int) (lf ln : Int → Int) (sz : Nat) (hP5 : 5 ≤ P ∧ P ≤ 997) (h23 : P ≤ 23) (hfa : 0 ≤ fa ∧ fa ≤ 1000) (hex : 0 ≤ ex ∧ ex ≤ 4) (hlf : ∀ z : Int, 0 ≤ z → z < P → 0 ≤ lf (ex * 23 + z) ∧ lf (ex * 23 + z) ≤ 1000) (hln : ∀ z : Int, 0 ≤ z → z < P → 0 ≤ ln z ∧ ln z ≤ 100000000) : Met jl yX1_addToLine wsX1_addToLine rm_X1_addToLine (xPw [.ref hb, .int (iI fa), .int (iI ex)] D cI [(hb, .inr (1, [.ref h4, .ref h0, .ref qp, .ref qf, .ref ql, .int (iI k), .int (iI n)])), (qf, .inl (cI, 115, .inl (aI lf))), (ql, .inl (cI, 23, .inl (aI ln))), (h4, .inr (4, [.ref q4, .int (iI P)]))] sz) (va_Qv (fun (u : (Int → Int)) => (∀ z : Int, 0 ≤ z → z < P → u z = ln z + fa * lf (ex * 23 + z)) ∧ (∀ z : Int, P ≤ z → u z = ln z)) (xB D (fun (u : (Int → Int)) => [(hb, .inr (1, [.ref h4, .ref h0, .ref qp, .ref qf, .ref ql, .int (iI k), .int (iI n)])), (qf, .inl (cI, 115, .inl (aI lf))), (ql, .inl (cI, 23, .inl (aI u))), (h4, .inr (4, [.ref q4, .int (iI P)]))]) (va_A [(hb, .inr (1, [.ref h4, .ref h0, .ref qp, .ref qf, .ref ql, .int (iI k), .int (iI n)])), (qf, .inl (cI, 115, .inl (aI lf))), (ql, .inl (cI, 23, .inl (aI ln))), (h4, .inr (4, [.ref q4, .int (iI P)]))] sz)) (va_A [(hb, .inr (1, [.ref h4, .ref h0, .ref qp, .ref qf, .ref ql, .int (iI k), .int (iI n)])), (qf, .inl (cI, 115, .inl (aI lf))), (ql, .inl (cI, 23, .inl (aI ln))), (h4, .inr (4, [.ref q4, .int (iI P)]))] sz)) 0 0 (va_A [(hb, .inr (1, [.ref h4, .ref h0, .ref qp, .ref qf, .ref ql, .int (iI k), .int (iI n)])), (qf, .inl (cI, 115, .inl (aI lf))), (ql, .inl (cI, 23, .inl (aI ln))), (h4, .inr (4, [.ref q4, .int (iI P)]))] sz) := by
  refine x_metW (own := RX1) (cc := cX1_addToLine) (maxL := 5) (ret := none) (Qc := fun jA => va_Qv (fun (u : (Int → Int)) => (∀ z : Int, 0 ≤ z → z < P → u z = ln z + fa * lf (ex * 23 + z)) ∧ (∀ z : Int, P ≤ z → u z = ln z)) (xB D (fun (u : (Int → Int)) => [(hb, .inr (1, [.ref h4, .ref h0, .ref qp, .ref qf, .ref ql, .int (iI k), .int (iI n)])), (qf, .inl (cI, 115, .inl (aI lf))), (ql, .inl (cI, 23, .inl (aI u))), (h4, .inr (4, [.ref q4, .int (iI P)]))]) jA) jA) (by decide) rfl rfl rfl ?_
  intro jp je js jm ja jb jt jc jA jQ jS jr jk jn jq hK hP hD hA hS ls hl
  have hl : lv_has ls 5 [(0, .ref hb), (1, .int (iI fa)), (2, .int (iI ex))] := hl
  refine x_iln jS dX1_addToLine_0 rfl hl 2 rfl ?_
  refine x_rI (x_rmSN (As := [.int (iI ex)]) (rest := []) jS hl.1 hK (c_X7_isExponent jl D cI ex (by first | assumption | omega)) (hP.sub [] rfl) gX1_addToLine_X7_isExponent_n61 rfl rfl rfl hK.2.2 m_X1_addToLine_5 m_X1_addToLine_4 kf_X7_isExponent rfl rfl rfl rfl rfl dX1_addToLine_1 rfl rfl) ?_
  refine x_ifneB jS 8 dX1_addToLine_4 (by decide) (fun hc4 => ?_) (fun hc4 => ?_)
  rotate_left
  · exfalso; omega
  refine x_iln jS dX1_addToLine_8 rfl hl 2 rfl ?_
  refine x_bi jS dX1_addToLine_9 (by decide) ?_
  refine x_imul jS dX1_addToLine_11 ?_
  refine x_isn (lv' := [(3, .int (iI (ex * 23))), (0, .ref hb), (1, .int (iI fa)), (2, .int (iI ex))]) jS dX1_addToLine_12 rfl hl rfl rfl (fun ls hl => ?_)
  refine x_ic jS dX1_addToLine_13 ?_
  refine x_is (lv' := [(4, .int (iI 0)), (3, .int (iI (ex * 23))), (0, .ref hb), (1, .int (iI fa)), (2, .int (iI ex))]) jS dX1_addToLine_14 hl rfl rfl (fun ls hl => ?_)
  have loop_16 : ∀ (mm : Nat) (z : Int) (ln1 : Int → Int) (jH : Heap) (jL : List Loc), (P - z).toNat = mm → (0 ≤ z ∧ z ≤ P) → (∀ w : Int, 0 ≤ w → w < z → ln1 w = ln w + fa * lf (ex * 23 + w)) → (∀ w : Int, z ≤ w → ln1 w = ln w) → va_P D vwCl [(hb, .inr (1, [.ref h4, .ref h0, .ref qp, .ref qf, .ref ql, .int (iI k), .int (iI n)])), (qf, .inl (cI, 115, .inl (aI lf))), (ql, .inl (cI, 23, .inl (aI ln1))), (h4, .inr (4, [.ref q4, .int (iI P)]))] jH → va_D jA [(hb, .inr (1, [.ref h4, .ref h0, .ref qp, .ref qf, .ref ql, .int (iI k), .int (iI n)])), (qf, .inl (cI, 115, .inl (aI lf))), (ql, .inl (cI, 23, .inl (aI ln1))), (h4, .inr (4, [.ref q4, .int (iI P)]))] → va_S jA js.heap jH jL → ∀ ls : Array Slot, lv_has ls 5 [(4, .int (iI z)), (3, .int (iI (ex * 23))), (0, .ref hb), (1, .int (iI fa)), (2, .int (iI ex))] → W jp jl je rm_X1_addToLine js jm ja jb jt jc jH jL 0 0 jQ (F0 jm 16 ls []) := by
    intro mm
    induction mm using Nat.strongRecOn with
    | ind mm ih16 =>
      intro z ln1 jH jL hmm16 hz h1 h2 hP hD hS ls hl
      refine x_il jS dX1_addToLine_16 hl 0 rfl ?_
      refine x_aln jS dX1_addToLine_18 rfl hl 2 rfl ?_
      refine x_get jS hK hP h_X1_addToLine_X1 0 rfl rfl 0 rfl m_X1_addToLine_1 rfl dX1_addToLine_19 ?_
      refine x_getN jS hK hP h_X1_addToLine_X4 3 rfl rfl 1 rfl 4 rfl rfl dX1_addToLine_22 ?_
      refine x_cmpge jS 65 dX1_addToLine_25 (by decide) (by omega) (fun hc25 => ?_) (fun hc25 => ?_)
      · skip
        exact x_vretW jS jr jk jq dX1_addToLine_65 ln1 hP hD hS (show (∀ z : Int, 0 ≤ z → z < P → ln1 z = ln z + fa * lf (ex * 23 + z)) ∧ (∀ z : Int, P ≤ z → ln1 z = ln z) from ⟨fun w a b => h1 w a (by omega), fun w a => h2 w (by omega)⟩)
      · skip
        refine x_il jS dX1_addToLine_28 hl 0 rfl ?_
        refine x_aln jS dX1_addToLine_30 rfl hl 2 rfl ?_
        refine x_get jS hK hP h_X1_addToLine_X1 0 rfl rfl 4 rfl m_X1_addToLine_2 rfl dX1_addToLine_31 ?_
        refine x_alen jS hK hP 2 rfl dX1_addToLine_34 ?_
        refine x_cmpge jS 65 dX1_addToLine_35 (by decide) (by omega) (fun hc35 => ?_) (fun hc35 => ?_)
        · exfalso; omega
        refine x_aln jS dX1_addToLine_38 rfl hl 2 rfl ?_
        refine x_get jS hK hP h_X1_addToLine_X1 0 rfl rfl 4 rfl m_X1_addToLine_2 rfl dX1_addToLine_39 ?_
        refine x_il jS dX1_addToLine_42 hl 0 rfl ?_
        refine x_dup2 jS dX1_addToLine_44 rfl rfl ?_
        refine x_iald jS hK hP 2 rfl (by omega) dX1_addToLine_45 ?_
        refine x_iln jS dX1_addToLine_46 rfl hl 3 rfl ?_
        refine x_aln jS dX1_addToLine_47 rfl hl 2 rfl ?_
        refine x_get jS hK hP h_X1_addToLine_X1 0 rfl rfl 3 rfl m_X1_addToLine_3 rfl dX1_addToLine_48 ?_
        refine x_iln jS dX1_addToLine_51 rfl hl 1 rfl ?_
        refine x_il jS dX1_addToLine_52 hl 0 rfl ?_
        refine x_iadd jS dX1_addToLine_54 ?_
        refine x_iald jS hK hP 1 rfl (by omega) dX1_addToLine_55 ?_
        have hlz := hlf z hz.1 hc25
        refine x_imulB jS dX1_addToLine_56 (by omega) (fun hp56 => ?_)
        refine x_iadd jS dX1_addToLine_57 ?_
        refine x_iast (ws' := [(hb, .inr (1, [.ref h4, .ref h0, .ref qp, .ref qf, .ref ql, .int (iI k), .int (iI n)])), (qf, .inl (cI, 115, .inl (aI lf))), (ql, .inl (cI, 23, .inl (aI (uI ln1 z ((ln1 z) + (fa * (lf ((ex * 23) + z)))))))), (h4, .inr (4, [.ref q4, .int (iI P)]))]) jS hK hP hD hS 2 rfl (by omega) dX1_addToLine_58 rfl (fun jH jL hP hD hS => ?_)
        refine x_iinc (lv' := [(4, .int (iI (z + 1))), (3, .int (iI (ex * 23))), (0, .ref hb), (1, .int (iI fa)), (2, .int (iI ex))]) jS dX1_addToLine_59 hl 0 rfl rfl rfl (fun ls hl => ?_)
        refine x_goto jS 16 dX1_addToLine_62 (by decide) ?_
        exact ih16 _ (by omega) (z + 1) (uI ln1 z ((ln1 z) + (fa * (lf ((ex * 23) + z))))) _ _ rfl (by omega) (fun w a b => by rcases Int.lt_or_le w z with q | q; rw [uI_n (by omega)]; exact h1 w a q; rw [show w = z by omega, uI_s, h2 z (by omega)]) (fun w a => by rw [uI_n (by omega)]; exact h2 w (by omega)) hP hD hS ls (lv_sub hl [0, 1, 2, 3, 4] rfl)
  exact loop_16 _ 0 ln _ _ rfl (by omega) (fun w a b => by omega) (fun w a => rfl) hP hD hS ls (lv_sub hl [0, 1, 2, 3, 4] rfl)
theorem h_X1_answerLine_X1 : ∀ w ∈ u_ws RX1 TX1 7, w ∈ wsX1_answerLine := fun w h => List.mem_cons_of_mem _ (List.mem_append_left _ (List.mem_append_left _ (List.mem_append_right _ h)))
theorem m_X1_answerLine_1 : Cond.fieldLink RX1 18 "SealedBox$Box" "line" "[I" ∈ wsX1_answerLine := List.mem_of_getElem? (i := 1) rfl
theorem m_X1_answerLine_2 : Cond.fieldLink RX1 25 "SealedBox$Box" "terms" "I" ∈ wsX1_answerLine := List.mem_of_getElem? (i := 2) rfl
theorem m_X1_answerLine_3 : Cond.fieldLink RX1 28 "SealedBox$Box" "numbers" "LSealedBox$PrimeField;" ∈ wsX1_answerLine := List.mem_of_getElem? (i := 3) rfl
theorem h_X1_answerLine_X4 : ∀ w ∈ u_ws RX4 TX4 2, w ∈ wsX1_answerLine := fun w h => List.mem_cons_of_mem _ (List.mem_append_left _ (List.mem_append_right _ h))
theorem kf_X1_addToLine : kfV yX1_addToLine RX1 2 := by decide +kernel
abbrev rm_X1_answerLine : Room := { frames := 5, cells := 0, slots := 0, locals := 115 }
set_option maxHeartbeats 4000000 in
set_option maxRecDepth 100000 in
theorem c_X1_answerLine (jl : Launch) (D : va_G) (cI : ClassId) (hb qp qf ql h0 h4 q4 : Nat) (P sh sc k n x y : Int) (pt lf ln : Int → Int) (sz : Nat) (hP5 : 5 ≤ P ∧ P ≤ 997) (h23 : P ≤ 23) (hs : 0 ≤ sh ∧ sh ≤ 996 ∧ 1 ≤ sc ∧ sc ≤ 996) (hk : 0 ≤ k ∧ k ≤ 2) (hn : 0 ≤ n ∧ n ≤ 4) (hbx : bxOK P n pt) (hx : 0 ≤ x ∧ x ≤ 1000) (hy : 0 ≤ y ∧ y ≤ 1000) (hlf : ∀ i z : Int, 0 ≤ i → i ≤ 4 → 0 ≤ z → z < P → lf (i * 23 + z) = ltr P sh sc k z i) : Met jl yX1_answerLine wsX1_answerLine rm_X1_answerLine (xPw [.ref hb, .int (iI x), .int (iI y)] D cI [(hb, .inr (1, [.ref h4, .ref h0, .ref qp, .ref qf, .ref ql, .int (iI k), .int (iI n)])), (qp, .inl (cI, 16, .inl (aI pt))), (qf, .inl (cI, 115, .inl (aI lf))), (ql, .inl (cI, 23, .inl (aI ln))), (h0, .inr (0, [.ref h4, .int (iI sh), .int (iI sc)])), (h4, .inr (4, [.ref q4, .int (iI P)]))] sz) (va_Qv (fun (u : (Int → Int)) => ∀ z : Int, 0 ≤ z → z < P → u z = ans P sh sc k n (cC pt 0) (cC pt 1) (cC pt 2) (cC pt 3) x y z) (xB D (fun (u : (Int → Int)) => [(hb, .inr (1, [.ref h4, .ref h0, .ref qp, .ref qf, .ref ql, .int (iI k), .int (iI n)])), (qp, .inl (cI, 16, .inl (aI pt))), (qf, .inl (cI, 115, .inl (aI lf))), (ql, .inl (cI, 23, .inl (aI u))), (h0, .inr (0, [.ref h4, .int (iI sh), .int (iI sc)])), (h4, .inr (4, [.ref q4, .int (iI P)]))]) (va_A [(hb, .inr (1, [.ref h4, .ref h0, .ref qp, .ref qf, .ref ql, .int (iI k), .int (iI n)])), (qp, .inl (cI, 16, .inl (aI pt))), (qf, .inl (cI, 115, .inl (aI lf))), (ql, .inl (cI, 23, .inl (aI ln))), (h0, .inr (0, [.ref h4, .int (iI sh), .int (iI sc)])), (h4, .inr (4, [.ref q4, .int (iI P)]))] sz)) (va_A [(hb, .inr (1, [.ref h4, .ref h0, .ref qp, .ref qf, .ref ql, .int (iI k), .int (iI n)])), (qp, .inl (cI, 16, .inl (aI pt))), (qf, .inl (cI, 115, .inl (aI lf))), (ql, .inl (cI, 23, .inl (aI ln))), (h0, .inr (0, [.ref h4, .int (iI sh), .int (iI sc)])), (h4, .inr (4, [.ref q4, .int (iI P)]))] sz)) 0 0 (va_A [(hb, .inr (1, [.ref h4, .ref h0, .ref qp, .ref qf, .ref ql, .int (iI k), .int (iI n)])), (qp, .inl (cI, 16, .inl (aI pt))), (qf, .inl (cI, 115, .inl (aI lf))), (ql, .inl (cI, 23, .inl (aI ln))), (h0, .inr (0, [.ref h4, .int (iI sh), .int (iI sc)])), (h4, .inr (4, [.ref q4, .int (iI P)]))] sz) := by
  refine x_metW (own := RX1) (cc := cX1_answerLine) (maxL := 4) (ret := none) (Qc := fun jA => va_Qv (fun (u : (Int → Int)) => ∀ z : Int, 0 ≤ z → z < P → u z = ans P sh sc k n (cC pt 0) (cC pt 1) (cC pt 2) (cC pt 3) x y z) (xB D (fun (u : (Int → Int)) => [(hb, .inr (1, [.ref h4, .ref h0, .ref qp, .ref qf, .ref ql, .int (iI k), .int (iI n)])), (qp, .inl (cI, 16, .inl (aI pt))), (qf, .inl (cI, 115, .inl (aI lf))), (ql, .inl (cI, 23, .inl (aI u))), (h0, .inr (0, [.ref h4, .int (iI sh), .int (iI sc)])), (h4, .inr (4, [.ref q4, .int (iI P)]))]) jA) jA) (by decide) rfl rfl rfl ?_
  intro jp je js jm ja jb jt jc jA jQ jS jr jk jn jq hK hP hD hA hS ls hl
  have hl : lv_has ls 4 [(0, .ref hb), (1, .int (iI x)), (2, .int (iI y))] := hl
  refine x_ic jS dX1_answerLine_0 ?_
  refine x_isn (lv' := [(3, .int (iI 0)), (0, .ref hb), (1, .int (iI x)), (2, .int (iI y))]) jS dX1_answerLine_1 rfl hl rfl rfl (fun ls hl => ?_)
  have loop_2 : ∀ (mm : Nat) (i : Int) (ln1 : Int → Int) (jH : Heap) (jL : List Loc), (23 - i).toNat = mm → (0 ≤ i ∧ i ≤ 23) → (∀ z : Int, 0 ≤ z → z < i → ln1 z = 0) → va_P D vwCl [(hb, .inr (1, [.ref h4, .ref h0, .ref qp, .ref qf, .ref ql, .int (iI k), .int (iI n)])), (qp, .inl (cI, 16, .inl (aI pt))), (qf, .inl (cI, 115, .inl (aI lf))), (ql, .inl (cI, 23, .inl (aI ln1))), (h0, .inr (0, [.ref h4, .int (iI sh), .int (iI sc)])), (h4, .inr (4, [.ref q4, .int (iI P)]))] jH → va_D jA [(hb, .inr (1, [.ref h4, .ref h0, .ref qp, .ref qf, .ref ql, .int (iI k), .int (iI n)])), (qp, .inl (cI, 16, .inl (aI pt))), (qf, .inl (cI, 115, .inl (aI lf))), (ql, .inl (cI, 23, .inl (aI ln1))), (h0, .inr (0, [.ref h4, .int (iI sh), .int (iI sc)])), (h4, .inr (4, [.ref q4, .int (iI P)]))] → va_S jA js.heap jH jL → ∀ ls : Array Slot, lv_has ls 4 [(3, .int (iI i)), (0, .ref hb), (1, .int (iI x)), (2, .int (iI y))] → W jp jl je rm_X1_answerLine js jm ja jb jt jc jH jL 0 0 jQ (F0 jm 2 ls []) := by
    intro mm
    induction mm using Nat.strongRecOn with
    | ind mm ih2 =>
      intro i ln1 jH jL hmm2 hi g1 hP hD hS ls hl
      refine x_iln jS dX1_answerLine_2 rfl hl 0 rfl ?_
      refine x_aln jS dX1_answerLine_3 rfl hl 1 rfl ?_
      refine x_get jS hK hP h_X1_answerLine_X1 0 rfl rfl 4 rfl m_X1_answerLine_1 rfl dX1_answerLine_4 ?_
      refine x_alen jS hK hP 3 rfl dX1_answerLine_7 ?_
      refine x_cmpge jS 24 dX1_answerLine_8 (by decide) (by omega) (fun hc8 => ?_) (fun hc8 => ?_)
      · skip
        refine x_ic jS dX1_answerLine_24 ?_
        refine x_isn (lv' := [(3, .int (iI 0)), (0, .ref hb), (1, .int (iI x)), (2, .int (iI y))]) jS dX1_answerLine_25 rfl hl rfl rfl (fun ls hl => ?_)
        have loop_26 : ∀ (mm : Nat) (t : Int) (ln3 : Int → Int) (jH : Heap) (jL : List Loc), (n - t).toNat = mm → (0 ≤ t ∧ t ≤ n) → (∀ z : Int, 0 ≤ z → z < P → ln3 z = sm (tmg P sh sc k (cC pt 0) (cC pt 1) (cC pt 2) (cC pt 3) x y z) t) → (∀ z : Int, P ≤ z → z < 23 → ln3 z = 0) → (∀ z : Int, 0 ≤ z → z < P → 0 ≤ ln3 z ∧ ln3 z ≤ t * 1000000) → va_P D vwCl [(hb, .inr (1, [.ref h4, .ref h0, .ref qp, .ref qf, .ref ql, .int (iI k), .int (iI n)])), (qp, .inl (cI, 16, .inl (aI pt))), (qf, .inl (cI, 115, .inl (aI lf))), (ql, .inl (cI, 23, .inl (aI ln3))), (h0, .inr (0, [.ref h4, .int (iI sh), .int (iI sc)])), (h4, .inr (4, [.ref q4, .int (iI P)]))] jH → va_D jA [(hb, .inr (1, [.ref h4, .ref h0, .ref qp, .ref qf, .ref ql, .int (iI k), .int (iI n)])), (qp, .inl (cI, 16, .inl (aI pt))), (qf, .inl (cI, 115, .inl (aI lf))), (ql, .inl (cI, 23, .inl (aI ln3))), (h0, .inr (0, [.ref h4, .int (iI sh), .int (iI sc)])), (h4, .inr (4, [.ref q4, .int (iI P)]))] → va_S jA js.heap jH jL → ∀ ls : Array Slot, lv_has ls 4 [(3, .int (iI t)), (0, .ref hb), (1, .int (iI x)), (2, .int (iI y))] → W jp jl je rm_X1_answerLine js jm ja jb jt jc jH jL 0 0 jQ (F0 jm 26 ls []) := by
          intro mm
          induction mm using Nat.strongRecOn with
          | ind mm ih26 =>
            intro t ln3 jH jL hmm26 ht g3 g4 g5 hP hD hS ls hl
            refine x_iln jS dX1_answerLine_26 rfl hl 0 rfl ?_
            refine x_aln jS dX1_answerLine_27 rfl hl 1 rfl ?_
            refine x_get jS hK hP h_X1_answerLine_X1 0 rfl rfl 6 rfl m_X1_answerLine_2 rfl dX1_answerLine_28 ?_
            refine x_cmpge jS 57 dX1_answerLine_31 (by decide) (by omega) (fun hc31 => ?_) (fun hc31 => ?_)
            · skip
              refine x_ic jS dX1_answerLine_57 ?_
              refine x_isn (lv' := [(3, .int (iI 0)), (0, .ref hb), (1, .int (iI x)), (2, .int (iI y))]) jS dX1_answerLine_58 rfl hl rfl rfl (fun ls hl => ?_)
              have loop_59 : ∀ (mm : Nat) (j : Int) (ln5 : Int → Int) (jH : Heap) (jL : List Loc), (23 - j).toNat = mm → (0 ≤ j ∧ j ≤ 23) → (∀ z : Int, 0 ≤ z → z < j → z < P → ln5 z = ans P sh sc k n (cC pt 0) (cC pt 1) (cC pt 2) (cC pt 3) x y z) → (∀ z : Int, j ≤ z → ln5 z = ln3 z) → va_P D vwCl [(hb, .inr (1, [.ref h4, .ref h0, .ref qp, .ref qf, .ref ql, .int (iI k), .int (iI n)])), (qp, .inl (cI, 16, .inl (aI pt))), (qf, .inl (cI, 115, .inl (aI lf))), (ql, .inl (cI, 23, .inl (aI ln5))), (h0, .inr (0, [.ref h4, .int (iI sh), .int (iI sc)])), (h4, .inr (4, [.ref q4, .int (iI P)]))] jH → va_D jA [(hb, .inr (1, [.ref h4, .ref h0, .ref qp, .ref qf, .ref ql, .int (iI k), .int (iI n)])), (qp, .inl (cI, 16, .inl (aI pt))), (qf, .inl (cI, 115, .inl (aI lf))), (ql, .inl (cI, 23, .inl (aI ln5))), (h0, .inr (0, [.ref h4, .int (iI sh), .int (iI sc)])), (h4, .inr (4, [.ref q4, .int (iI P)]))] → va_S jA js.heap jH jL → ∀ ls : Array Slot, lv_has ls 4 [(3, .int (iI j)), (0, .ref hb), (1, .int (iI x)), (2, .int (iI y))] → W jp jl je rm_X1_answerLine js jm ja jb jt jc jH jL 0 0 jQ (F0 jm 59 ls []) := by
                intro mm
                induction mm using Nat.strongRecOn with
                | ind mm ih59 =>
                  intro j ln5 jH jL hmm59 hj g6 g7 hP hD hS ls hl
                  refine x_iln jS dX1_answerLine_59 rfl hl 0 rfl ?_
                  refine x_aln jS dX1_answerLine_60 rfl hl 1 rfl ?_
                  refine x_get jS hK hP h_X1_answerLine_X1 0 rfl rfl 4 rfl m_X1_answerLine_1 rfl dX1_answerLine_61 ?_
                  refine x_alen jS hK hP 3 rfl dX1_answerLine_64 ?_
                  refine x_cmpge jS 94 dX1_answerLine_65 (by decide) (by omega) (fun hc65 => ?_) (fun hc65 => ?_)
                  · skip
                    exact x_vretW jS jr jk jq dX1_answerLine_94 ln5 hP hD hS (show ∀ z : Int, 0 ≤ z → z < P → ln5 z = ans P sh sc k n (cC pt 0) (cC pt 1) (cC pt 2) (cC pt 3) x y z from fun z a b => g6 z a (by omega) b)
                  · skip
                    refine x_aln jS dX1_answerLine_68 rfl hl 1 rfl ?_
                    refine x_get jS hK hP h_X1_answerLine_X1 0 rfl rfl 4 rfl m_X1_answerLine_1 rfl dX1_answerLine_69 ?_
                    refine x_iln jS dX1_answerLine_72 rfl hl 0 rfl ?_
                    refine x_aln jS dX1_answerLine_73 rfl hl 1 rfl ?_
                    refine x_get jS hK hP h_X1_answerLine_X1 0 rfl rfl 4 rfl m_X1_answerLine_1 rfl dX1_answerLine_74 ?_
                    refine x_iln jS dX1_answerLine_77 rfl hl 0 rfl ?_
                    refine x_iald jS hK hP 3 rfl (by omega) dX1_answerLine_78 ?_
                    have hb78 : 0 ≤ ln5 j ∧ ln5 j ≤ 5000000 := by
                      rw [g7 j (by omega)]
                      rcases Int.lt_or_le j P with q | q
                      · have := g5 j hj.1 q; omega
                      · rw [g4 j q (by omega)]; omega
                    refine x_aln jS dX1_answerLine_79 rfl hl 1 rfl ?_
                    refine x_get jS hK hP h_X1_answerLine_X1 0 rfl rfl 0 rfl m_X1_answerLine_3 rfl dX1_answerLine_80 ?_
                    refine x_getN jS hK hP h_X1_answerLine_X4 5 rfl rfl 1 rfl 4 rfl rfl dX1_answerLine_83 ?_
                    refine x_irem jS dX1_answerLine_86 (by omega) (fun hm86 => ?_)
                    refine x_iast (ws' := [(hb, .inr (1, [.ref h4, .ref h0, .ref qp, .ref qf, .ref ql, .int (iI k), .int (iI n)])), (qp, .inl (cI, 16, .inl (aI pt))), (qf, .inl (cI, 115, .inl (aI lf))), (ql, .inl (cI, 23, .inl (aI (uI ln5 j ((ln5 j) % P))))), (h0, .inr (0, [.ref h4, .int (iI sh), .int (iI sc)])), (h4, .inr (4, [.ref q4, .int (iI P)]))]) jS hK hP hD hS 3 rfl (by omega) dX1_answerLine_87 rfl (fun jH jL hP hD hS => ?_)
                    refine x_iinc (lv' := [(3, .int (iI (j + 1))), (0, .ref hb), (1, .int (iI x)), (2, .int (iI y))]) jS dX1_answerLine_88 hl 0 rfl rfl rfl (fun ls hl => ?_)
                    refine x_goto jS 59 dX1_answerLine_91 (by decide) ?_
                    exact ih59 _ (by omega) (j + 1) (uI ln5 j ((ln5 j) % P)) _ _ rfl (by omega) (fun z a b cc => by rcases Int.lt_or_le z j with q | q; rw [uI_n (by omega)]; exact g6 z a q cc; rw [show z = j by omega, uI_s, g7 j (by omega), g3 j (by omega) (by omega), show t = n by omega]; rfl) (fun z a => by rw [uI_n (by omega)]; exact g7 z (by omega)) hP hD hS ls (lv_sub hl [0, 1, 2, 3] rfl)
              exact loop_59 _ 0 ln3 _ _ rfl (by omega) (fun z a b => by omega) (fun z a => rfl) hP hD hS ls (lv_sub hl [0, 1, 2, 3] rfl)
            · skip
              have hbt := hbx t ht.1 hc31
              have hq2 := of2_in (show 2 ≤ P by omega) sh sc k (cC pt 0) (cC pt 1) (cC pt 2) x y t
              refine x_aln jS dX1_answerLine_34 rfl hl 1 rfl ?_
              refine x_aln jS dX1_answerLine_35 rfl hl 1 rfl ?_
              refine x_iln jS dX1_answerLine_36 rfl hl 0 rfl ?_
              refine x_iln jS dX1_answerLine_37 rfl hl 2 rfl ?_
              refine x_iln jS dX1_answerLine_38 rfl hl 3 rfl ?_
              refine x_rI (x_rmV (As := [.int (iI t), .int (iI x), .int (iI y)]) (rest := [.ref hb]) jS hl.1 hK (c_X1_ofTwoLetters jl D cI hb qp qf ql h0 h4 q4 P sh sc k n pt t x y (by first | assumption | omega) (by first | assumption | omega) (by first | assumption | omega) (by first | assumption | omega) (by first | assumption | omega) (by first | assumption | omega) (by first | assumption | omega) (by first | assumption | omega)) (hP.sub [0, 1, 4, 5] rfl) 0 rfl rfl gX1_answerLine_X1_ofTwoLetters rfl rfl rfl kf_X1_ofTwoLetters rfl rfl rfl rfl rfl dX1_answerLine_39 rfl rfl) ?_
              refine x_aln jS dX1_answerLine_42 rfl hl 1 rfl ?_
              refine x_iln jS dX1_answerLine_43 rfl hl 0 rfl ?_
              refine x_ic jS dX1_answerLine_44 ?_
              refine x_rI (x_rmV (As := [.int (iI t), .int (iI 3)]) (rest := [.int (iI (of2 P sh sc k (cC pt 0) (cC pt 1) (cC pt 2) x y t)), .ref hb]) jS hl.1 hK (c_X1_part jl D cI hb qp qf ql h0 h4 k n t 3 pt (by first | assumption | omega) (by first | assumption | omega)) (hP.sub [0, 1] rfl) 0 rfl rfl gX1_answerLine_X1_part rfl rfl rfl kf_X1_part rfl rfl rfl rfl rfl dX1_answerLine_45 rfl rfl) ?_
              refine x_aV (wc := [(hb, .inr (1, [.ref h4, .ref h0, .ref qp, .ref qf, .ref ql, .int (iI k), .int (iI n)])), (qf, .inl (cI, 115, .inl (aI lf))), (ql, .inl (cI, 23, .inl (aI ln3))), (h4, .inr (4, [.ref q4, .int (iI P)]))]) (wr := [(qp, .inl (cI, 16, .inl (aI pt))), (h0, .inr (0, [.ref h4, .int (iI sh), .int (iI sc)]))]) hP hD hS hA [0, 2, 3, 5] [1, 4] rfl rfl (by decide) (by decide) (cs := 0) (ss := 0) rfl rfl (x_rnV (As := [.int (iI (of2 P sh sc k (cC pt 0) (cC pt 1) (cC pt 2) x y t)), .int (iI (pt (t * 4 + 3)))]) (rest := []) jS hl.1 hK (c_X1_addToLine jl D cI hb qp qf ql h0 h4 q4 P k n (of2 P sh sc k (cC pt 0) (cC pt 1) (cC pt 2) x y t) (pt (t * 4 + 3)) lf ln3 _ (by first | assumption | omega) (by first | assumption | omega) (by first | assumption | omega) (by first | assumption | omega) (fun z a b => by rw [hlf _ z hbt.2.2.2.1 hbt.2.2.2.2 a b]; have := ltr_in (show 2 ≤ P by omega) sh sc k z (pt (t * 4 + 3)); omega) (fun z a b => by have := g5 z a b; omega)) hP hD [0, 2, 3, 5] rfl rfl (by decide) 0 rfl rfl gX1_answerLine_X1_addToLine rfl rfl rfl kf_X1_addToLine rfl rfl rfl rfl rfl dX1_answerLine_48 rfl rfl) (fun u jH jL hw hP hD hS => ?_)
              obtain ⟨ln2_1, rfl⟩ : ∃ z, z = u := ⟨_, rfl⟩
              have hw48 : (∀ z : Int, 0 ≤ z → z < P → ln2_1 z = ln3 z + (of2 P sh sc k (cC pt 0) (cC pt 1) (cC pt 2) x y t) * lf ((pt (t * 4 + 3)) * 23 + z)) ∧ (∀ z : Int, P ≤ z → ln2_1 z = ln3 z) := hw
              clear hw
              have hP : va_P D vwCl [(qp, .inl (cI, 16, .inl (aI pt))), (h0, .inr (0, [.ref h4, .int (iI sh), .int (iI sc)])), (hb, .inr (1, [.ref h4, .ref h0, .ref qp, .ref qf, .ref ql, .int (iI k), .int (iI n)])), (qf, .inl (cI, 115, .inl (aI lf))), (ql, .inl (cI, 23, .inl (aI ln2_1))), (h4, .inr (4, [.ref q4, .int (iI P)]))] jH := hP
              have hD : va_D jA [(qp, .inl (cI, 16, .inl (aI pt))), (h0, .inr (0, [.ref h4, .int (iI sh), .int (iI sc)])), (hb, .inr (1, [.ref h4, .ref h0, .ref qp, .ref qf, .ref ql, .int (iI k), .int (iI n)])), (qf, .inl (cI, 115, .inl (aI lf))), (ql, .inl (cI, 23, .inl (aI ln2_1))), (h4, .inr (4, [.ref q4, .int (iI P)]))] := hD
              refine x_iinc (lv' := [(3, .int (iI (t + 1))), (0, .ref hb), (1, .int (iI x)), (2, .int (iI y))]) jS dX1_answerLine_51 hl 0 rfl rfl rfl (fun ls hl => ?_)
              refine x_goto jS 26 dX1_answerLine_54 (by decide) ?_
              exact ih26 _ (by omega) (t + 1) ln2_1 _ _ rfl (by omega) (fun z a b => by rw [hw48.1 z a b, g3 z a b, sm_s _ ht.1, hlf _ z hbt.2.2.2.1 hbt.2.2.2.2 a b]; rfl) (fun z a b => by rw [hw48.2 z a]; exact g4 z a b) (fun z a b => by have e1 := g5 z a b; have e2 := ltr_in (show 2 ≤ P by omega) sh sc k z (pt (t * 4 + 3)); have e3 := mulB (show 0 ≤ of2 P sh sc k (cC pt 0) (cC pt 1) (cC pt 2) x y t ∧ of2 P sh sc k (cC pt 0) (cC pt 1) (cC pt 2) x y t ≤ 1000 ∧ 0 ≤ ltr P sh sc k z (pt (t * 4 + 3)) ∧ ltr P sh sc k z (pt (t * 4 + 3)) ≤ 1000 by omega); rw [hw48.1 z a b, hlf _ z hbt.2.2.2.1 hbt.2.2.2.2 a b]; omega) (hP.sub [2, 0, 3, 4, 1, 5] rfl) (hD.sub [2, 0, 3, 4, 1, 5] (by decide) rfl) hS ls (lv_sub hl [0, 1, 2, 3] rfl)
        exact loop_26 _ 0 ln1 _ _ rfl (by omega) (fun z a b => g1 z a (by omega)) (fun z a b => g1 z (by omega) (by omega)) (fun z a b => by rw [g1 z a (by omega)]; omega) hP hD hS ls (lv_sub hl [0, 1, 2, 3] rfl)
      · skip
        refine x_aln jS dX1_answerLine_11 rfl hl 1 rfl ?_
        refine x_get jS hK hP h_X1_answerLine_X1 0 rfl rfl 4 rfl m_X1_answerLine_1 rfl dX1_answerLine_12 ?_
        refine x_iln jS dX1_answerLine_15 rfl hl 0 rfl ?_
        refine x_ic jS dX1_answerLine_16 ?_
        refine x_iast (ws' := [(hb, .inr (1, [.ref h4, .ref h0, .ref qp, .ref qf, .ref ql, .int (iI k), .int (iI n)])), (qp, .inl (cI, 16, .inl (aI pt))), (qf, .inl (cI, 115, .inl (aI lf))), (ql, .inl (cI, 23, .inl (aI (uI ln1 i 0)))), (h0, .inr (0, [.ref h4, .int (iI sh), .int (iI sc)])), (h4, .inr (4, [.ref q4, .int (iI P)]))]) jS hK hP hD hS 3 rfl (by omega) dX1_answerLine_17 rfl (fun jH jL hP hD hS => ?_)
        refine x_iinc (lv' := [(3, .int (iI (i + 1))), (0, .ref hb), (1, .int (iI x)), (2, .int (iI y))]) jS dX1_answerLine_18 hl 0 rfl rfl rfl (fun ls hl => ?_)
        refine x_goto jS 2 dX1_answerLine_21 (by decide) ?_
        exact ih2 _ (by omega) (i + 1) (uI ln1 i 0) _ _ rfl (by omega) (fun z a b => by rcases Int.lt_or_le z i with q | q; rw [uI_n (by omega)]; exact g1 z a q; rw [show z = i by omega, uI_s]) hP hD hS ls (lv_sub hl [0, 1, 2, 3] rfl)
  exact loop_2 _ 0 ln _ _ rfl (by omega) (fun z a b => by omega) hP hD hS ls (lv_sub hl [0, 1, 2, 3] rfl)
theorem h_X1_zerosInLine_X1 : ∀ w ∈ u_ws RX1 TX1 7, w ∈ wsX1_zerosInLine := fun w h => List.mem_cons_of_mem _ (List.mem_append_left _ (List.mem_append_right _ h))
theorem m_X1_zerosInLine_1 : Cond.fieldLink RX1 28 "SealedBox$Box" "numbers" "LSealedBox$PrimeField;" ∈ wsX1_zerosInLine := List.mem_of_getElem? (i := 1) rfl
theorem h_X1_zerosInLine_X4 : ∀ w ∈ u_ws RX4 TX4 2, w ∈ wsX1_zerosInLine := fun w h => List.mem_cons_of_mem _ (List.mem_append_right _ h)
theorem m_X1_zerosInLine_2 : Cond.fieldLink RX1 18 "SealedBox$Box" "line" "[I" ∈ wsX1_zerosInLine := List.mem_of_getElem? (i := 2) rfl
abbrev rm_X1_zerosInLine : Room := { frames := 0, cells := 0, slots := 0, locals := 0 }
set_option maxHeartbeats 4000000 in
set_option maxRecDepth 100000 in
theorem c_X1_zerosInLine (jl : Launch) (D : va_G) (cI : ClassId) (hb qp qf ql h0 h4 q4 : Nat) (P k n : Int) (ln : Int → Int)  (hP5 : 5 ≤ P ∧ P ≤ 997) (h23 : P ≤ 23) (hln : ∀ z : Int, 0 ≤ z → z < P → 0 ≤ ln z ∧ ln z < P) : Met jl yX1_zerosInLine wsX1_zerosInLine rm_X1_zerosInLine (xPr [.ref hb] D cI [(hb, .inr (1, [.ref h4, .ref h0, .ref qp, .ref qf, .ref ql, .int (iI k), .int (iI n)])), (ql, .inl (cI, 23, .inl (aI ln))), (h4, .inr (4, [.ref q4, .int (iI P)]))]) (vp_Si (fun r => r = (iI (sm (fun z => bI (ln z = 0)) P)))) 0 0 (fun _ => False) := by
  refine x_metR (own := RX1) (cc := cX1_zerosInLine) (maxL := 3) (ret := (some .int)) (by decide) rfl rfl rfl ?_
  intro jp je js jm ja jb jt jc jQ jS jr jk jq hK hP ls hl
  have hl : lv_has ls 3 [(0, .ref hb)] := hl
  refine x_ic jS dX1_zerosInLine_0 ?_
  refine x_isn (lv' := [(1, .int (iI 0)), (0, .ref hb)]) jS dX1_zerosInLine_1 rfl hl rfl rfl (fun ls hl => ?_)
  refine x_ic jS dX1_zerosInLine_2 ?_
  refine x_isn (lv' := [(2, .int (iI 0)), (1, .int (iI 0)), (0, .ref hb)]) jS dX1_zerosInLine_3 rfl hl rfl rfl (fun ls hl => ?_)
  have loop_4 : ∀ (mm : Nat) (r : Int) (i : Int), (P - i).toNat = mm → (0 ≤ i ∧ i ≤ P) → (r = sm (fun z => bI (ln z = 0)) i) → ∀ ls : Array Slot, lv_has ls 3 [(2, .int (iI i)), (1, .int (iI r)), (0, .ref hb)] → W jp jl je rm_X1_zerosInLine js jm ja jb jt jc js.heap [] 0 0 jQ (F0 jm 4 ls []) := by
    intro mm
    induction mm using Nat.strongRecOn with
    | ind mm ih4 =>
      intro r i hmm4 hi hr ls hl
      refine x_iln jS dX1_zerosInLine_4 rfl hl 0 rfl ?_
      refine x_aln jS dX1_zerosInLine_5 rfl hl 2 rfl ?_
      refine x_get jS hK hP h_X1_zerosInLine_X1 0 rfl rfl 0 rfl m_X1_zerosInLine_1 rfl dX1_zerosInLine_6 ?_
      refine x_getN jS hK hP h_X1_zerosInLine_X4 2 rfl rfl 1 rfl 4 rfl rfl dX1_zerosInLine_9 ?_
      refine x_cmpge jS 47 dX1_zerosInLine_12 (by decide) (by omega) (fun hc12 => ?_) (fun hc12 => ?_)
      · skip
        refine x_iln jS dX1_zerosInLine_47 rfl hl 1 rfl ?_
        exact x_iretR jS jr jk jq dX1_zerosInLine_48 (by rw [hr, show i = P by omega])
      · skip
        refine x_iln jS dX1_zerosInLine_15 rfl hl 0 rfl ?_
        refine x_aln jS dX1_zerosInLine_16 rfl hl 2 rfl ?_
        refine x_get jS hK hP h_X1_zerosInLine_X1 0 rfl rfl 4 rfl m_X1_zerosInLine_2 rfl dX1_zerosInLine_17 ?_
        refine x_alen jS hK hP 1 rfl dX1_zerosInLine_20 ?_
        refine x_cmpge jS 47 dX1_zerosInLine_21 (by decide) (by omega) (fun hc21 => ?_) (fun hc21 => ?_)
        · exfalso; omega
        refine x_iln jS dX1_zerosInLine_24 rfl hl 1 rfl ?_
        refine x_aln jS dX1_zerosInLine_25 rfl hl 2 rfl ?_
        refine x_get jS hK hP h_X1_zerosInLine_X1 0 rfl rfl 4 rfl m_X1_zerosInLine_2 rfl dX1_zerosInLine_26 ?_
        refine x_iln jS dX1_zerosInLine_29 rfl hl 0 rfl ?_
        refine x_iald jS hK hP 1 rfl (by omega) dX1_zerosInLine_30 ?_
        have hb30 := hln i hi.1 hc12
        refine x_ifne jS 38 dX1_zerosInLine_31 (by decide) (by omega) (fun hc31 => ?_) (fun hc31 => ?_)
        · skip
          refine x_ic jS dX1_zerosInLine_38 ?_
          refine x_iadd jS dX1_zerosInLine_39 ?_
          refine x_isn (lv' := [(1, .int (iI (r + 0))), (2, .int (iI i)), (0, .ref hb)]) jS dX1_zerosInLine_40 rfl hl rfl rfl (fun ls hl => ?_)
          refine x_iinc (lv' := [(2, .int (iI (i + 1))), (1, .int (iI (r + 0))), (0, .ref hb)]) jS dX1_zerosInLine_41 hl 1 rfl rfl rfl (fun ls hl => ?_)
          refine x_goto jS 4 dX1_zerosInLine_44 (by decide) ?_
          exact ih4 _ (by omega) (r + 0) (i + 1) rfl (by omega) (by rw [sm_s _ hi.1, ← hr]; simp [bI, hc31]) ls (lv_sub hl [0, 1, 2] rfl)
        · skip
          refine x_ic jS dX1_zerosInLine_34 ?_
          refine x_goto jS 39 dX1_zerosInLine_35 (by decide) ?_
          refine x_iadd jS dX1_zerosInLine_39 ?_
          refine x_isn (lv' := [(1, .int (iI (r + 1))), (2, .int (iI i)), (0, .ref hb)]) jS dX1_zerosInLine_40 rfl hl rfl rfl (fun ls hl => ?_)
          refine x_iinc (lv' := [(2, .int (iI (i + 1))), (1, .int (iI (r + 1))), (0, .ref hb)]) jS dX1_zerosInLine_41 hl 1 rfl rfl rfl (fun ls hl => ?_)
          refine x_goto jS 4 dX1_zerosInLine_44 (by decide) ?_
          exact ih4 _ (by omega) (r + 1) (i + 1) rfl (by omega) (by rw [sm_s _ hi.1, ← hr]; simp [bI, hc31]) ls (lv_sub hl [0, 1, 2] rfl)
  exact loop_4 _ 0 0 rfl (by omega) ((sm_0 _).symm) ls (lv_sub hl [0, 1, 2] rfl)
theorem h_X1_alikeInLine_X1 : ∀ w ∈ u_ws RX1 TX1 7, w ∈ wsX1_alikeInLine := fun w h => List.mem_cons_of_mem _ (List.mem_append_left _ (List.mem_append_right _ h))
theorem m_X1_alikeInLine_1 : Cond.fieldLink RX1 28 "SealedBox$Box" "numbers" "LSealedBox$PrimeField;" ∈ wsX1_alikeInLine := List.mem_of_getElem? (i := 1) rfl
theorem h_X1_alikeInLine_X4 : ∀ w ∈ u_ws RX4 TX4 2, w ∈ wsX1_alikeInLine := fun w h => List.mem_cons_of_mem _ (List.mem_append_right _ h)
theorem m_X1_alikeInLine_2 : Cond.fieldLink RX1 18 "SealedBox$Box" "line" "[I" ∈ wsX1_alikeInLine := List.mem_of_getElem? (i := 2) rfl
abbrev rm_X1_alikeInLine : Room := { frames := 0, cells := 0, slots := 0, locals := 0 }
set_option maxHeartbeats 4000000 in
set_option maxRecDepth 100000 in
theorem c_X1_alikeInLine (jl : Launch) (D : va_G) (cI : ClassId) (hb qp qf ql h0 h4 q4 hd qp2 qf2 ql2 : Nat) (P k n k2 n2 : Int) (ln ln2 : Int → Int)  (hP5 : 5 ≤ P ∧ P ≤ 997) (h23 : P ≤ 23) (hln : ∀ z : Int, 0 ≤ z → z < P → 0 ≤ ln z ∧ ln z < P) (hln2 : ∀ z : Int, 0 ≤ z → z < P → 0 ≤ ln2 z ∧ ln2 z < P) : Met jl yX1_alikeInLine wsX1_alikeInLine rm_X1_alikeInLine (xPr [.ref hb, .ref hd] D cI [(hb, .inr (1, [.ref h4, .ref h0, .ref qp, .ref qf, .ref ql, .int (iI k), .int (iI n)])), (ql, .inl (cI, 23, .inl (aI ln))), (hd, .inr (1, [.ref h4, .ref h0, .ref qp2, .ref qf2, .ref ql2, .int (iI k2), .int (iI n2)])), (ql2, .inl (cI, 23, .inl (aI ln2))), (h4, .inr (4, [.ref q4, .int (iI P)]))]) (vp_Si (fun r => r = (iI (sm (fun z => bI (ln z = ln2 z)) P)))) 0 0 (fun _ => False) := by
  refine x_metR (own := RX1) (cc := cX1_alikeInLine) (maxL := 4) (ret := (some .int)) (by decide) rfl rfl rfl ?_
  intro jp je js jm ja jb jt jc jQ jS jr jk jq hK hP ls hl
  have hl : lv_has ls 4 [(0, .ref hb), (1, .ref hd)] := hl
  refine x_ic jS dX1_alikeInLine_0 ?_
  refine x_isn (lv' := [(2, .int (iI 0)), (0, .ref hb), (1, .ref hd)]) jS dX1_alikeInLine_1 rfl hl rfl rfl (fun ls hl => ?_)
  refine x_ic jS dX1_alikeInLine_2 ?_
  refine x_isn (lv' := [(3, .int (iI 0)), (2, .int (iI 0)), (0, .ref hb), (1, .ref hd)]) jS dX1_alikeInLine_3 rfl hl rfl rfl (fun ls hl => ?_)
  have loop_4 : ∀ (mm : Nat) (r : Int) (i : Int), (P - i).toNat = mm → (0 ≤ i ∧ i ≤ P) → (r = sm (fun z => bI (ln z = ln2 z)) i) → ∀ ls : Array Slot, lv_has ls 4 [(3, .int (iI i)), (2, .int (iI r)), (0, .ref hb), (1, .ref hd)] → W jp jl je rm_X1_alikeInLine js jm ja jb jt jc js.heap [] 0 0 jQ (F0 jm 4 ls []) := by
    intro mm
    induction mm using Nat.strongRecOn with
    | ind mm ih4 =>
      intro r i hmm4 hi hr ls hl
      refine x_iln jS dX1_alikeInLine_4 rfl hl 0 rfl ?_
      refine x_aln jS dX1_alikeInLine_5 rfl hl 2 rfl ?_
      refine x_get jS hK hP h_X1_alikeInLine_X1 0 rfl rfl 0 rfl m_X1_alikeInLine_1 rfl dX1_alikeInLine_6 ?_
      refine x_getN jS hK hP h_X1_alikeInLine_X4 4 rfl rfl 1 rfl 4 rfl rfl dX1_alikeInLine_9 ?_
      refine x_cmpge jS 53 dX1_alikeInLine_12 (by decide) (by omega) (fun hc12 => ?_) (fun hc12 => ?_)
      · skip
        refine x_iln jS dX1_alikeInLine_53 rfl hl 1 rfl ?_
        exact x_iretR jS jr jk jq dX1_alikeInLine_54 (by rw [hr, show i = P by omega])
      · skip
        refine x_iln jS dX1_alikeInLine_15 rfl hl 0 rfl ?_
        refine x_aln jS dX1_alikeInLine_16 rfl hl 2 rfl ?_
        refine x_get jS hK hP h_X1_alikeInLine_X1 0 rfl rfl 4 rfl m_X1_alikeInLine_2 rfl dX1_alikeInLine_17 ?_
        refine x_alen jS hK hP 1 rfl dX1_alikeInLine_20 ?_
        refine x_cmpge jS 53 dX1_alikeInLine_21 (by decide) (by omega) (fun hc21 => ?_) (fun hc21 => ?_)
        · exfalso; omega
        refine x_iln jS dX1_alikeInLine_24 rfl hl 1 rfl ?_
        refine x_aln jS dX1_alikeInLine_25 rfl hl 2 rfl ?_
        refine x_get jS hK hP h_X1_alikeInLine_X1 0 rfl rfl 4 rfl m_X1_alikeInLine_2 rfl dX1_alikeInLine_26 ?_
        refine x_iln jS dX1_alikeInLine_29 rfl hl 0 rfl ?_
        refine x_iald jS hK hP 1 rfl (by omega) dX1_alikeInLine_30 ?_
        have hb30 := hln i hi.1 hc12
        refine x_aln jS dX1_alikeInLine_31 rfl hl 3 rfl ?_
        refine x_get jS hK hP h_X1_alikeInLine_X1 2 rfl rfl 4 rfl m_X1_alikeInLine_2 rfl dX1_alikeInLine_32 ?_
        refine x_iln jS dX1_alikeInLine_35 rfl hl 0 rfl ?_
        refine x_iald jS hK hP 3 rfl (by omega) dX1_alikeInLine_36 ?_
        have hb36 := hln2 i hi.1 hc12
        refine x_cmpne jS 44 dX1_alikeInLine_37 (by decide) (by omega) (fun hc37 => ?_) (fun hc37 => ?_)
        · skip
          refine x_ic jS dX1_alikeInLine_44 ?_
          refine x_iadd jS dX1_alikeInLine_45 ?_
          refine x_isn (lv' := [(2, .int (iI (r + 0))), (3, .int (iI i)), (0, .ref hb), (1, .ref hd)]) jS dX1_alikeInLine_46 rfl hl rfl rfl (fun ls hl => ?_)
          refine x_iinc (lv' := [(3, .int (iI (i + 1))), (2, .int (iI (r + 0))), (0, .ref hb), (1, .ref hd)]) jS dX1_alikeInLine_47 hl 1 rfl rfl rfl (fun ls hl => ?_)
          refine x_goto jS 4 dX1_alikeInLine_50 (by decide) ?_
          exact ih4 _ (by omega) (r + 0) (i + 1) rfl (by omega) (by rw [sm_s _ hi.1, ← hr]; simp [bI, hc37]) ls (lv_sub hl [0, 1, 2, 3] rfl)
        · skip
          refine x_ic jS dX1_alikeInLine_40 ?_
          refine x_goto jS 45 dX1_alikeInLine_41 (by decide) ?_
          refine x_iadd jS dX1_alikeInLine_45 ?_
          refine x_isn (lv' := [(2, .int (iI (r + 1))), (3, .int (iI i)), (0, .ref hb), (1, .ref hd)]) jS dX1_alikeInLine_46 rfl hl rfl rfl (fun ls hl => ?_)
          refine x_iinc (lv' := [(3, .int (iI (i + 1))), (2, .int (iI (r + 1))), (0, .ref hb), (1, .ref hd)]) jS dX1_alikeInLine_47 hl 1 rfl rfl rfl (fun ls hl => ?_)
          refine x_goto jS 4 dX1_alikeInLine_50 (by decide) ?_
          exact ih4 _ (by omega) (r + 1) (i + 1) rfl (by omega) (by rw [sm_s _ hi.1, ← hr]; simp [bI, hc37]) ls (lv_sub hl [0, 1, 2, 3] rfl)
  exact loop_4 _ 0 0 rfl (by omega) ((sm_0 _).symm) ls (lv_sub hl [0, 1, 2, 3] rfl)
end
section
/-! the register, place by place -/
def ivF (P w : Int) : Int := w ^ (P - 2).toNat % P
def tbF (P : Int) (iv : Int → Int) : Prop := ∀ w : Int, 0 < w → w < P → 0 ≤ iv w ∧ iv w < P ∧ iv w = ivF P w
abbrev RS : Type := (Int → Int) × (Int → Int) × Int × Int × Int
def c00 : Int → Int := fun j => if j = 0 then 1 else 0
def bm0 : RS := (c00, c00, 0, 1, 1)
def bmE (P : Int) (row : Int → Int) (n : Int) (s : RS) : Int := sm (fun k => s.1 k * row (n - k)) (s.2.2.1 + 1) % P
def bmC (P E : Int) (s : RS) : Int → Int := fun j => (s.1 j + (P - E * ivF P s.2.2.2.1 % P) * s.2.1 (j - s.2.2.2.2)) % P
def bmS (P : Int) (row : Int → Int) (n : Int) (s : RS) : RS :=
  if bmE P row n s = 0 then (s.1, s.2.1, s.2.2.1, s.2.2.2.1, s.2.2.2.2 + 1)
  else if 2 * s.2.2.1 ≤ n then (bmC P (bmE P row n s) s, s.1, n + 1 - s.2.2.1, bmE P row n s, 1)
  else (bmC P (bmE P row n s) s, s.2.1, s.2.2.1, s.2.2.2.1, s.2.2.2.2 + 1)
def bm (P : Int) (row : Int → Int) : Nat → RS
  | 0 => bm0
  | n + 1 => bmS P row n (bm P row n)
theorem bmS_0 {P n : Int} {row : Int → Int} {s : RS} (h : bmE P row n s = 0) : bmS P row n s = (s.1, s.2.1, s.2.2.1, s.2.2.2.1, s.2.2.2.2 + 1) := if_pos h
theorem bmS_1 {P n : Int} {row : Int → Int} {s : RS} (h : bmE P row n s ≠ 0) (h2 : 2 * s.2.2.1 ≤ n) : bmS P row n s = (bmC P (bmE P row n s) s, s.1, n + 1 - s.2.2.1, bmE P row n s, 1) := by unfold bmS; rw [if_neg h, if_pos h2]
theorem bmS_2 {P n : Int} {row : Int → Int} {s : RS} (h : bmE P row n s ≠ 0) (h2 : ¬ 2 * s.2.2.1 ≤ n) : bmS P row n s = (bmC P (bmE P row n s) s, s.2.1, s.2.2.1, s.2.2.2.1, s.2.2.2.2 + 1) := by unfold bmS; rw [if_neg h, if_neg h2]
/-- what holds of a register behind n places -/
def bmI (P n : Int) (s : RS) : Prop := (0 ≤ s.2.2.1 ∧ s.2.2.1 ≤ n ∧ 1 ≤ s.2.2.2.2 ∧ s.2.2.2.2 + s.2.2.1 ≤ n + 1 ∧ 1 ≤ s.2.2.2.1 ∧ s.2.2.2.1 < P) ∧ (∀ j, 0 ≤ s.1 j ∧ s.1 j < P) ∧ (∀ j, 0 ≤ s.2.1 j ∧ s.2.1 j < P) ∧ (∀ j, j < 0 → s.1 j = 0 ∧ s.2.1 j = 0) ∧ (∀ j, s.2.2.1 < j → s.1 j = 0) ∧ (∀ j, n + 1 - s.2.2.1 - s.2.2.2.2 < j → s.2.1 j = 0)
theorem c00_in {P : Int} (hP : 2 ≤ P) (j : Int) : 0 ≤ c00 j ∧ c00 j < P := by unfold c00; split <;> omega
theorem bmI_0 {P : Int} (hP : 2 ≤ P) : bmI P 0 bm0 := by
  refine ⟨⟨?_, ?_, ?_, ?_, ?_, ?_⟩, c00_in hP, c00_in hP, fun j h => ?_, fun j h => ?_, fun j h => ?_⟩ <;> unfold bm0 at * <;> dsimp only at *
  all_goals first | omega | skip
  · unfold c00; rw [if_neg (by omega)]; exact ⟨rfl, rfl⟩
  · unfold c00; rw [if_neg (by omega)]
  · unfold c00; rw [if_neg (by omega)]
theorem bmE_in {P : Int} (hP : 2 ≤ P) (row : Int → Int) (n : Int) (s : RS) : 0 ≤ bmE P row n s ∧ bmE P row n s < P := emB (by omega) _
theorem bmI_s {P : Int} (hP : 2 ≤ P) (row : Int → Int) {n : Int} {s : RS} (h : bmI P n s) : bmI P (n + 1) (bmS P row n s) := by
  obtain ⟨⟨a1, a2, a3, a4, a5, a6⟩, hc, hf, hz, hcL, hfL⟩ := h
  have hE := bmE_in hP row n s
  have hC : ∀ j, 0 ≤ bmC P (bmE P row n s) s j ∧ bmC P (bmE P row n s) s j < P := fun j => emB (by omega) _
  have hC0 : ∀ j, s.1 j = 0 → s.2.1 (j - s.2.2.2.2) = 0 → bmC P (bmE P row n s) s j = 0 := fun j h1 h2 => by
    unfold bmC; rw [h1, h2, Int.mul_zero]; rfl
  by_cases h0 : bmE P row n s = 0
  · rw [bmS_0 h0]
    exact ⟨⟨a1, by dsimp only; omega, by dsimp only; omega, by dsimp only; omega, a5, a6⟩, hc, hf, hz, hcL, fun j hj => hfL j (by dsimp only at hj; omega)⟩
  · by_cases h2 : 2 * s.2.2.1 ≤ n
    · rw [bmS_1 h0 h2]
      refine ⟨⟨by dsimp only; omega, by dsimp only; omega, by dsimp only; omega, by dsimp only; omega, by dsimp only; omega, by dsimp only; omega⟩, hC, hc, fun j hj => ⟨hC0 j (hz j hj).1 (hz _ (by omega)).2, (hz j hj).1⟩, fun j hj => ?_, fun j hj => hcL j ?_⟩
      · dsimp only at hj
        exact hC0 j (hcL j (by omega)) (hfL _ (by omega))
      · dsimp only at hj; omega
    · rw [bmS_2 h0 h2]
      refine ⟨⟨a1, by dsimp only; omega, by dsimp only; omega, by dsimp only; omega, a5, a6⟩, hC, hf, fun j hj => ⟨hC0 j (hz j hj).1 (hz _ (by omega)).2, (hz j hj).2⟩, fun j hj => ?_, fun j hj => hfL j ?_⟩
      · dsimp only at hj
        exact hC0 j (hcL j hj) (hfL _ (by omega))
      · dsimp only at hj; omega
theorem bmI_n {P : Int} (hP : 2 ≤ P) (row : Int → Int) : ∀ n : Nat, bmI P n (bm P row n)
  | 0 => bmI_0 hP
  | n + 1 => by
    have := bmI_s hP row (bmI_n hP row n)
    rw [show ((n + 1 : Nat) : Int) = (n : Int) + 1 by omega]
    exact this
/-- the rows that hold a register -/
def rgR (n : Int) (s : RS) (now fo : Int → Int) (L fL f m : Int) : Prop := L = s.2.2.1 ∧ f = s.2.2.2.1 ∧ m = s.2.2.2.2 ∧ fL = n + 1 - L - m ∧ ∀ j : Int, 0 ≤ j → j ≤ 16 → now j = s.1 j ∧ fo j = s.2.1 j
theorem add_rel {P n L f m fL fa : Int} {sC sF now fo now2 : Int → Int} (hI : bmI P n (sC, sF, L, f, m)) (hfL : fL = n + 1 - L - m) (hn : n ≤ 15) (hj : ∀ j : Int, 0 ≤ j → j ≤ 16 → now j = sC j ∧ fo j = sF j) (h2 : ∀ j : Int, 0 ≤ j → j ≤ 16 → now2 j = if m ≤ j ∧ j ≤ m + fL then (now j + fa * fo (j - m)) % P else now j) : ∀ j : Int, 0 ≤ j → j ≤ 16 → now2 j = (sC j + fa * sF (j - m)) % P := by
  obtain ⟨⟨a1, a2, a3, a4, a5, a6⟩, hc, hf, hz, hcL, hfL2⟩ := hI
  dsimp only at *
  intro j h0 h1
  rw [h2 j h0 h1]
  by_cases h : m ≤ j ∧ j ≤ m + fL
  · rw [if_pos h, (hj j h0 h1).1, (hj (j - m) (by omega) (by omega)).2]
  · rw [if_neg h, (hj j h0 h1).1]
    have e : sF (j - m) = 0 := by
      rcases Int.lt_or_le j m with q | q
      · exact (hz _ (by omega)).2
      · exact hfL2 _ (by omega)
    rw [e, Int.mul_zero, Int.add_zero]
    exact (Int.emod_eq_of_lt (hc j).1 (hc j).2).symm
end
section
/-! Register -/
theorem h_X6_errorAt_X6 : ∀ w ∈ u_ws RX6 TX6 8, w ∈ wsX6_errorAt := fun w h => List.mem_cons_of_mem _ (List.mem_append_left _ (List.mem_append_right _ h))
theorem m_X6_errorAt_1 : Cond.fieldLink RX6 21 "SealedBox$Register" "length" "I" ∈ wsX6_errorAt := List.mem_of_getElem? (i := 1) rfl
theorem m_X6_errorAt_3 : Cond.fieldLink RX6 34 "SealedBox$Register" "numbers" "LSealedBox$PrimeField;" ∈ wsX6_errorAt := List.mem_of_getElem? (i := 3) rfl
theorem h_X6_errorAt_X4 : ∀ w ∈ u_ws RX4 TX4 2, w ∈ wsX6_errorAt := fun w h => List.mem_cons_of_mem _ (List.mem_append_right _ h)
theorem m_X6_errorAt_2 : Cond.fieldLink RX6 9 "SealedBox$Register" "now" "[I" ∈ wsX6_errorAt := List.mem_of_getElem? (i := 2) rfl
abbrev rm_X6_errorAt : Room := { frames := 0, cells := 0, slots := 0, locals := 0 }
set_option maxHeartbeats 4000000 in
set_option maxRecDepth 100000 in
theorem c_X6_errorAt (jl : Launch) (D : va_G) (cI : ClassId) (h6 qn qo qs h4 q4 : Nat) (qr nr : Nat) (P L fL f m n : Int) (now row : Int → Int)  (hP5 : 5 ≤ P ∧ P ≤ 997) (hnr : nr ≤ 16) (hn : 0 ≤ n ∧ n < nr) (hL : 0 ≤ L ∧ L ≤ n) (hnow : ∀ j : Int, 0 ≤ j → j ≤ 16 → 0 ≤ now j ∧ now j < P) (hrow : ∀ j : Int, 0 ≤ j → j ≤ n → 0 ≤ row j ∧ row j < P) : Met jl yX6_errorAt wsX6_errorAt rm_X6_errorAt (xPr [.ref h6, .ref qr, .int (iI n)] D cI [(h6, .inr (6, [.ref h4, .ref qn, .ref qo, .ref qs, .int (iI L), .int (iI fL), .int (iI f), .int (iI m)])), (qn, .inl (cI, 17, .inl (aI now))), (qr, .inl (cI, nr, .inl (aI row))), (h4, .inr (4, [.ref q4, .int (iI P)]))]) (vp_Si (fun r => r = (iI (sm (fun k => now k * row (n - k)) (L + 1) % P)))) 0 0 (fun _ => False) := by
  refine x_metR (own := RX6) (cc := cX6_errorAt) (maxL := 5) (ret := (some .int)) (by decide) rfl rfl rfl ?_
  intro jp je js jm ja jb jt jc jQ jS jr jk jq hK hP ls hl
  have hl : lv_has ls 5 [(0, .ref h6), (1, .ref qr), (2, .int (iI n))] := hl
  refine x_iln jS dX6_errorAt_0 rfl hl 2 rfl ?_
  refine x_iflt jS 10 dX6_errorAt_1 (by decide) (by omega) (fun hc1 => ?_) (fun hc1 => ?_)
  · exfalso; omega
  refine x_iln jS dX6_errorAt_4 rfl hl 2 rfl ?_
  refine x_aln jS dX6_errorAt_5 rfl hl 1 rfl ?_
  refine x_alen jS hK hP 2 rfl dX6_errorAt_6 ?_
  refine x_cmplt jS 12 dX6_errorAt_7 (by decide) (by omega) (fun hc7 => ?_) (fun hc7 => ?_)
  rotate_left
  · exfalso; omega
  refine x_ic jS dX6_errorAt_12 ?_
  refine x_isn (lv' := [(3, .int (iI 0)), (0, .ref h6), (1, .ref qr), (2, .int (iI n))]) jS dX6_errorAt_13 rfl hl rfl rfl (fun ls hl => ?_)
  refine x_ic jS dX6_errorAt_14 ?_
  refine x_is (lv' := [(4, .int (iI 0)), (3, .int (iI 0)), (0, .ref h6), (1, .ref qr), (2, .int (iI n))]) jS dX6_errorAt_15 hl rfl rfl (fun ls hl => ?_)
  have loop_17 : ∀ (mm : Nat) (r : Int) (i : Int), (L + 1 - i).toNat = mm → (0 ≤ i ∧ i ≤ L + 1) → (r = sm (fun k => now k * row (n - k)) i) → (0 ≤ r ∧ r ≤ i * 1000000) → ∀ ls : Array Slot, lv_has ls 5 [(4, .int (iI i)), (3, .int (iI r)), (0, .ref h6), (1, .ref qr), (2, .int (iI n))] → W jp jl je rm_X6_errorAt js jm ja jb jt jc js.heap [] 0 0 jQ (F0 jm 17 ls []) := by
    intro mm
    induction mm using Nat.strongRecOn with
    | ind mm ih17 =>
      intro r i hmm17 hi hr hrb ls hl
      refine x_il jS dX6_errorAt_17 hl 0 rfl ?_
      refine x_aln jS dX6_errorAt_19 rfl hl 2 rfl ?_
      refine x_get jS hK hP h_X6_errorAt_X6 0 rfl rfl 4 rfl m_X6_errorAt_1 rfl dX6_errorAt_20 ?_
      refine x_cmpgt jS 65 dX6_errorAt_23 (by decide) (by omega) (fun hc23 => ?_) (fun hc23 => ?_)
      · skip
        refine x_iln jS dX6_errorAt_65 rfl hl 1 rfl ?_
        refine x_aln jS dX6_errorAt_66 rfl hl 2 rfl ?_
        refine x_get jS hK hP h_X6_errorAt_X6 0 rfl rfl 0 rfl m_X6_errorAt_3 rfl dX6_errorAt_67 ?_
        refine x_getN jS hK hP h_X6_errorAt_X4 3 rfl rfl 1 rfl 3 rfl rfl dX6_errorAt_70 ?_
        refine x_irem jS dX6_errorAt_73 (by omega) (fun hm73 => ?_)
        exact x_iretR jS jr jk jq dX6_errorAt_74 (by rw [hr, show i = L + 1 by omega])
      · skip
        refine x_il jS dX6_errorAt_26 hl 0 rfl ?_
        refine x_iln jS dX6_errorAt_28 rfl hl 4 rfl ?_
        refine x_cmpgt jS 65 dX6_errorAt_29 (by decide) (by omega) (fun hc29 => ?_) (fun hc29 => ?_)
        · exfalso; omega
        refine x_il jS dX6_errorAt_32 hl 0 rfl ?_
        refine x_aln jS dX6_errorAt_34 rfl hl 2 rfl ?_
        refine x_get jS hK hP h_X6_errorAt_X6 0 rfl rfl 1 rfl m_X6_errorAt_2 rfl dX6_errorAt_35 ?_
        refine x_alen jS hK hP 1 rfl dX6_errorAt_38 ?_
        refine x_cmpge jS 65 dX6_errorAt_39 (by decide) (by omega) (fun hc39 => ?_) (fun hc39 => ?_)
        · exfalso; omega
        refine x_iln jS dX6_errorAt_42 rfl hl 1 rfl ?_
        refine x_aln jS dX6_errorAt_43 rfl hl 2 rfl ?_
        refine x_get jS hK hP h_X6_errorAt_X6 0 rfl rfl 1 rfl m_X6_errorAt_2 rfl dX6_errorAt_44 ?_
        refine x_il jS dX6_errorAt_47 hl 0 rfl ?_
        refine x_iald jS hK hP 1 rfl (by omega) dX6_errorAt_49 ?_
        have hb49 := hnow i (by omega) (by omega)
        refine x_aln jS dX6_errorAt_50 rfl hl 3 rfl ?_
        refine x_iln jS dX6_errorAt_51 rfl hl 4 rfl ?_
        refine x_il jS dX6_errorAt_52 hl 0 rfl ?_
        refine x_isub jS dX6_errorAt_54 ?_
        refine x_iald jS hK hP 2 rfl (by omega) dX6_errorAt_55 ?_
        have hb55 := hrow (n - i) (by omega) (by omega)
        refine x_imulB jS dX6_errorAt_56 (by omega) (fun hp56 => ?_)
        refine x_iadd jS dX6_errorAt_57 ?_
        refine x_isn (lv' := [(3, .int (iI (r + ((now i) * (row (n - i)))))), (4, .int (iI i)), (0, .ref h6), (1, .ref qr), (2, .int (iI n))]) jS dX6_errorAt_58 rfl hl rfl rfl (fun ls hl => ?_)
        refine x_iinc (lv' := [(4, .int (iI (i + 1))), (3, .int (iI (r + ((now i) * (row (n - i)))))), (0, .ref h6), (1, .ref qr), (2, .int (iI n))]) jS dX6_errorAt_59 hl 1 rfl rfl rfl (fun ls hl => ?_)
        refine x_goto jS 17 dX6_errorAt_62 (by decide) ?_
        exact ih17 _ (by omega) (r + ((now i) * (row (n - i)))) (i + 1) rfl (by omega) (by rw [sm_s _ hi.1, ← hr]) (by omega) ls (lv_sub hl [0, 1, 2, 3, 4] rfl)
  exact loop_17 _ 0 0 rfl (by omega) ((sm_0 _).symm) (by omega) ls (lv_sub hl [0, 1, 2, 3, 4] rfl)
theorem h_X6_addFormer_X6 : ∀ w ∈ u_ws RX6 TX6 8, w ∈ wsX6_addFormer := fun w h => List.mem_cons_of_mem _ (List.mem_append_left _ (List.mem_append_right _ h))
theorem m_X6_addFormer_1 : Cond.fieldLink RX6 25 "SealedBox$Register" "formerLength" "I" ∈ wsX6_addFormer := List.mem_of_getElem? (i := 1) rfl
theorem m_X6_addFormer_2 : Cond.fieldLink RX6 31 "SealedBox$Register" "moved" "I" ∈ wsX6_addFormer := List.mem_of_getElem? (i := 2) rfl
theorem m_X6_addFormer_3 : Cond.fieldLink RX6 9 "SealedBox$Register" "now" "[I" ∈ wsX6_addFormer := List.mem_of_getElem? (i := 3) rfl
theorem m_X6_addFormer_4 : Cond.fieldLink RX6 15 "SealedBox$Register" "former" "[I" ∈ wsX6_addFormer := List.mem_of_getElem? (i := 4) rfl
theorem m_X6_addFormer_5 : Cond.fieldLink RX6 34 "SealedBox$Register" "numbers" "LSealedBox$PrimeField;" ∈ wsX6_addFormer := List.mem_of_getElem? (i := 5) rfl
theorem h_X6_addFormer_X4 : ∀ w ∈ u_ws RX4 TX4 2, w ∈ wsX6_addFormer := fun w h => List.mem_cons_of_mem _ (List.mem_append_right _ h)
abbrev rm_X6_addFormer : Room := { frames := 0, cells := 0, slots := 0, locals := 0 }
set_option maxHeartbeats 4000000 in
set_option maxRecDepth 100000 in
theorem c_X6_addFormer (jl : Launch) (D : va_G) (cI : ClassId) (h6 qn qo qs h4 q4 : Nat) (P L fL f m fa : Int) (now fo : Int → Int) (sz : Nat) (hP5 : 5 ≤ P ∧ P ≤ 997) (hfa : 0 ≤ fa ∧ fa ≤ 1000) (hm : 1 ≤ m ∧ 0 ≤ fL ∧ fL + m ≤ 16) (hnow : ∀ j : Int, 0 ≤ j → j ≤ 16 → 0 ≤ now j ∧ now j < P) (hfo : ∀ j : Int, 0 ≤ j → j ≤ 16 → 0 ≤ fo j ∧ fo j < P) : Met jl yX6_addFormer wsX6_addFormer rm_X6_addFormer (xPw [.ref h6, .int (iI fa)] D cI [(h6, .inr (6, [.ref h4, .ref qn, .ref qo, .ref qs, .int (iI L), .int (iI fL), .int (iI f), .int (iI m)])), (qn, .inl (cI, 17, .inl (aI now))), (qo, .inl (cI, 17, .inl (aI fo))), (h4, .inr (4, [.ref q4, .int (iI P)]))] sz) (va_Qv (fun (u : (Int → Int)) => ∀ j : Int, 0 ≤ j → j ≤ 16 → u j = if m ≤ j ∧ j ≤ m + fL then (now j + fa * fo (j - m)) % P else now j) (xB D (fun (u : (Int → Int)) => [(h6, .inr (6, [.ref h4, .ref qn, .ref qo, .ref qs, .int (iI L), .int (iI fL), .int (iI f), .int (iI m)])), (qn, .inl (cI, 17, .inl (aI u))), (qo, .inl (cI, 17, .inl (aI fo))), (h4, .inr (4, [.ref q4, .int (iI P)]))]) (va_A [(h6, .inr (6, [.ref h4, .ref qn, .ref qo, .ref qs, .int (iI L), .int (iI fL), .int (iI f), .int (iI m)])), (qn, .inl (cI, 17, .inl (aI now))), (qo, .inl (cI, 17, .inl (aI fo))), (h4, .inr (4, [.ref q4, .int (iI P)]))] sz)) (va_A [(h6, .inr (6, [.ref h4, .ref qn, .ref qo, .ref qs, .int (iI L), .int (iI fL), .int (iI f), .int (iI m)])), (qn, .inl (cI, 17, .inl (aI now))), (qo, .inl (cI, 17, .inl (aI fo))), (h4, .inr (4, [.ref q4, .int (iI P)]))] sz)) 0 0 (va_A [(h6, .inr (6, [.ref h4, .ref qn, .ref qo, .ref qs, .int (iI L), .int (iI fL), .int (iI f), .int (iI m)])), (qn, .inl (cI, 17, .inl (aI now))), (qo, .inl (cI, 17, .inl (aI fo))), (h4, .inr (4, [.ref q4, .int (iI P)]))] sz) := by
  refine x_metW (own := RX6) (cc := cX6_addFormer) (maxL := 3) (ret := none) (Qc := fun jA => va_Qv (fun (u : (Int → Int)) => ∀ j : Int, 0 ≤ j → j ≤ 16 → u j = if m ≤ j ∧ j ≤ m + fL then (now j + fa * fo (j - m)) % P else now j) (xB D (fun (u : (Int → Int)) => [(h6, .inr (6, [.ref h4, .ref qn, .ref qo, .ref qs, .int (iI L), .int (iI fL), .int (iI f), .int (iI m)])), (qn, .inl (cI, 17, .inl (aI u))), (qo, .inl (cI, 17, .inl (aI fo))), (h4, .inr (4, [.ref q4, .int (iI P)]))]) jA) jA) (by decide) rfl rfl rfl ?_
  intro jp je js jm ja jb jt jc jA jQ jS jr jk jn jq hK hP hD hA hS ls hl
  have hl : lv_has ls 3 [(0, .ref h6), (1, .int (iI fa))] := hl
  refine x_ic jS dX6_addFormer_0 ?_
  refine x_isn (lv' := [(2, .int (iI 0)), (0, .ref h6), (1, .int (iI fa))]) jS dX6_addFormer_1 rfl hl rfl rfl (fun ls hl => ?_)
  have loop_2 : ∀ (mm : Nat) (i : Int) (now1 : Int → Int) (jH : Heap) (jL : List Loc), (fL + 1 - i).toNat = mm → (0 ≤ i ∧ i ≤ fL + 1) → (∀ j : Int, now1 j = if m ≤ j ∧ j < m + i then (now j + fa * fo (j - m)) % P else now j) → va_P D vwCl [(h6, .inr (6, [.ref h4, .ref qn, .ref qo, .ref qs, .int (iI L), .int (iI fL), .int (iI f), .int (iI m)])), (qn, .inl (cI, 17, .inl (aI now1))), (qo, .inl (cI, 17, .inl (aI fo))), (h4, .inr (4, [.ref q4, .int (iI P)]))] jH → va_D jA [(h6, .inr (6, [.ref h4, .ref qn, .ref qo, .ref qs, .int (iI L), .int (iI fL), .int (iI f), .int (iI m)])), (qn, .inl (cI, 17, .inl (aI now1))), (qo, .inl (cI, 17, .inl (aI fo))), (h4, .inr (4, [.ref q4, .int (iI P)]))] → va_S jA js.heap jH jL → ∀ ls : Array Slot, lv_has ls 3 [(2, .int (iI i)), (0, .ref h6), (1, .int (iI fa))] → W jp jl je rm_X6_addFormer js jm ja jb jt jc jH jL 0 0 jQ (F0 jm 2 ls []) := by
    intro mm
    induction mm using Nat.strongRecOn with
    | ind mm ih2 =>
      intro i now1 jH jL hmm2 hi h1 hP hD hS ls hl
      refine x_iln jS dX6_addFormer_2 rfl hl 0 rfl ?_
      refine x_aln jS dX6_addFormer_3 rfl hl 1 rfl ?_
      refine x_get jS hK hP h_X6_addFormer_X6 0 rfl rfl 5 rfl m_X6_addFormer_1 rfl dX6_addFormer_4 ?_
      refine x_cmpgt jS 69 dX6_addFormer_7 (by decide) (by omega) (fun hc7 => ?_) (fun hc7 => ?_)
      · skip
        exact x_vretW jS jr jk jq dX6_addFormer_69 now1 hP hD hS (show ∀ j : Int, 0 ≤ j → j ≤ 16 → now1 j = if m ≤ j ∧ j ≤ m + fL then (now j + fa * fo (j - m)) % P else now j from fun j a b => by rw [h1 j]; by_cases q2 : m ≤ j ∧ j < m + i; rw [if_pos q2, if_pos (by omega)]; rw [if_neg q2, if_neg (by omega)])
      · skip
        refine x_iln jS dX6_addFormer_10 rfl hl 0 rfl ?_
        refine x_aln jS dX6_addFormer_11 rfl hl 1 rfl ?_
        refine x_get jS hK hP h_X6_addFormer_X6 0 rfl rfl 7 rfl m_X6_addFormer_2 rfl dX6_addFormer_12 ?_
        refine x_iadd jS dX6_addFormer_15 ?_
        refine x_aln jS dX6_addFormer_16 rfl hl 1 rfl ?_
        refine x_get jS hK hP h_X6_addFormer_X6 0 rfl rfl 1 rfl m_X6_addFormer_3 rfl dX6_addFormer_17 ?_
        refine x_alen jS hK hP 1 rfl dX6_addFormer_20 ?_
        refine x_cmpge jS 69 dX6_addFormer_21 (by decide) (by omega) (fun hc21 => ?_) (fun hc21 => ?_)
        · exfalso; omega
        refine x_aln jS dX6_addFormer_24 rfl hl 1 rfl ?_
        refine x_get jS hK hP h_X6_addFormer_X6 0 rfl rfl 1 rfl m_X6_addFormer_3 rfl dX6_addFormer_25 ?_
        refine x_iln jS dX6_addFormer_28 rfl hl 0 rfl ?_
        refine x_aln jS dX6_addFormer_29 rfl hl 1 rfl ?_
        refine x_get jS hK hP h_X6_addFormer_X6 0 rfl rfl 7 rfl m_X6_addFormer_2 rfl dX6_addFormer_30 ?_
        refine x_iadd jS dX6_addFormer_33 ?_
        refine x_aln jS dX6_addFormer_34 rfl hl 1 rfl ?_
        refine x_get jS hK hP h_X6_addFormer_X6 0 rfl rfl 1 rfl m_X6_addFormer_3 rfl dX6_addFormer_35 ?_
        refine x_iln jS dX6_addFormer_38 rfl hl 0 rfl ?_
        refine x_aln jS dX6_addFormer_39 rfl hl 1 rfl ?_
        refine x_get jS hK hP h_X6_addFormer_X6 0 rfl rfl 7 rfl m_X6_addFormer_2 rfl dX6_addFormer_40 ?_
        refine x_iadd jS dX6_addFormer_43 ?_
        refine x_iald jS hK hP 1 rfl (by omega) dX6_addFormer_44 ?_
        have hb44 : 0 ≤ now1 (i + m) ∧ now1 (i + m) < P := by rw [h1 (i + m), if_neg (by omega)]; exact hnow _ (by omega) (by omega)
        refine x_iln jS dX6_addFormer_45 rfl hl 2 rfl ?_
        refine x_aln jS dX6_addFormer_46 rfl hl 1 rfl ?_
        refine x_get jS hK hP h_X6_addFormer_X6 0 rfl rfl 2 rfl m_X6_addFormer_4 rfl dX6_addFormer_47 ?_
        refine x_iln jS dX6_addFormer_50 rfl hl 0 rfl ?_
        refine x_iald jS hK hP 2 rfl (by omega) dX6_addFormer_51 ?_
        have hb51 := hfo i (by omega) (by omega)
        refine x_imulB jS dX6_addFormer_52 (by omega) (fun hp52 => ?_)
        refine x_iadd jS dX6_addFormer_53 ?_
        refine x_aln jS dX6_addFormer_54 rfl hl 1 rfl ?_
        refine x_get jS hK hP h_X6_addFormer_X6 0 rfl rfl 0 rfl m_X6_addFormer_5 rfl dX6_addFormer_55 ?_
        refine x_getN jS hK hP h_X6_addFormer_X4 3 rfl rfl 1 rfl 3 rfl rfl dX6_addFormer_58 ?_
        refine x_irem jS dX6_addFormer_61 (by omega) (fun hm61 => ?_)
        refine x_iast (ws' := [(h6, .inr (6, [.ref h4, .ref qn, .ref qo, .ref qs, .int (iI L), .int (iI fL), .int (iI f), .int (iI m)])), (qn, .inl (cI, 17, .inl (aI (uI now1 (i + m) (((now1 (i + m)) + (fa * (fo i))) % P))))), (qo, .inl (cI, 17, .inl (aI fo))), (h4, .inr (4, [.ref q4, .int (iI P)]))]) jS hK hP hD hS 1 rfl (by omega) dX6_addFormer_62 rfl (fun jH jL hP hD hS => ?_)
        refine x_iinc (lv' := [(2, .int (iI (i + 1))), (0, .ref h6), (1, .int (iI fa))]) jS dX6_addFormer_63 hl 0 rfl rfl rfl (fun ls hl => ?_)
        refine x_goto jS 2 dX6_addFormer_66 (by decide) ?_
        exact ih2 _ (by omega) (i + 1) (uI now1 (i + m) (((now1 (i + m)) + (fa * (fo i))) % P)) _ _ rfl (by omega) (fun j => by by_cases q : j = i + m; rw [q, uI_s, if_pos (by omega), h1 (i + m), if_neg (by omega), show i + m - m = i by omega]; rw [uI_n q, h1 j]; by_cases q2 : m ≤ j ∧ j < m + i; rw [if_pos q2, if_pos (by omega)]; rw [if_neg q2, if_neg (by omega)]) hP hD hS ls (lv_sub hl [0, 1, 2] rfl)
  exact loop_2 _ 0 now _ _ rfl (by omega) (fun j => by rw [if_neg (by omega)]) hP hD hS ls (lv_sub hl [0, 1, 2] rfl)
theorem h_X6_weight_X6 : ∀ w ∈ u_ws RX6 TX6 8, w ∈ wsX6_weight := fun w h => List.mem_cons_of_mem _ (List.mem_append_left _ (List.mem_append_right _ h))
theorem m_X6_weight_1 : Cond.fieldLink RX6 9 "SealedBox$Register" "now" "[I" ∈ wsX6_weight := List.mem_of_getElem? (i := 1) rfl
theorem m_X6_weight_2 : Cond.fieldLink RX6 34 "SealedBox$Register" "numbers" "LSealedBox$PrimeField;" ∈ wsX6_weight := List.mem_of_getElem? (i := 2) rfl
theorem kf_X4_less : kfV yX4_less RX4 2 := by decide +kernel
abbrev rm_X6_weight : Room := { frames := 1, cells := 0, slots := 0, locals := 22 }
set_option maxHeartbeats 4000000 in
set_option maxRecDepth 100000 in
theorem c_X6_weight (jl : Launch) (D : va_G) (cI : ClassId) (h6 qn qo qs h4 q4 : Nat) (P L fL f m i : Int) (now : Int → Int)  (hP5 : 5 ≤ P ∧ P ≤ 997) (hi : 1 ≤ i ∧ i ≤ 16) (hnow : 0 ≤ now i ∧ now i ≤ P) : Met jl yX6_weight wsX6_weight rm_X6_weight (xPr [.ref h6, .int (iI i)] D cI [(h6, .inr (6, [.ref h4, .ref qn, .ref qo, .ref qs, .int (iI L), .int (iI fL), .int (iI f), .int (iI m)])), (qn, .inl (cI, 17, .inl (aI now))), (h4, .inr (4, [.ref q4, .int (iI P)]))]) (vp_Si (fun r => r = (iI ((0 + P - now i) % P)))) 0 0 (fun _ => False) := by
  refine x_metR (own := RX6) (cc := cX6_weight) (maxL := 2) (ret := (some .int)) (by decide) rfl rfl rfl ?_
  intro jp je js jm ja jb jt jc jQ jS jr jk jq hK hP ls hl
  have hl : lv_has ls 2 [(0, .ref h6), (1, .int (iI i))] := hl
  refine x_iln jS dX6_weight_0 rfl hl 1 rfl ?_
  refine x_ic jS dX6_weight_1 ?_
  refine x_cmplt jS 31 dX6_weight_2 (by decide) (by omega) (fun hc2 => ?_) (fun hc2 => ?_)
  · exfalso; omega
  refine x_iln jS dX6_weight_5 rfl hl 1 rfl ?_
  refine x_aln jS dX6_weight_6 rfl hl 0 rfl ?_
  refine x_get jS hK hP h_X6_weight_X6 0 rfl rfl 1 rfl m_X6_weight_1 rfl dX6_weight_7 ?_
  refine x_alen jS hK hP 1 rfl dX6_weight_10 ?_
  refine x_cmpge jS 31 dX6_weight_11 (by decide) (by omega) (fun hc11 => ?_) (fun hc11 => ?_)
  · exfalso; omega
  refine x_aln jS dX6_weight_14 rfl hl 0 rfl ?_
  refine x_get jS hK hP h_X6_weight_X6 0 rfl rfl 0 rfl m_X6_weight_2 rfl dX6_weight_15 ?_
  refine x_ic jS dX6_weight_18 ?_
  refine x_aln jS dX6_weight_19 rfl hl 0 rfl ?_
  refine x_get jS hK hP h_X6_weight_X6 0 rfl rfl 1 rfl m_X6_weight_1 rfl dX6_weight_20 ?_
  refine x_iln jS dX6_weight_23 rfl hl 1 rfl ?_
  refine x_iald jS hK hP 1 rfl (by omega) dX6_weight_24 ?_
  refine x_rI (x_rmV (As := [.int (iI 0), .int (iI (now i))]) (rest := []) jS hl.1 hK (c_X4_less jl D cI h4 q4 P 0 (now i) (by first | assumption | omega) (by first | assumption | omega) (by first | assumption | omega)) (hP.sub [2] rfl) 0 rfl rfl gX6_weight_X4_less rfl rfl rfl kf_X4_less rfl rfl rfl rfl rfl dX6_weight_25 rfl rfl) ?_
  refine x_goto jS 32 dX6_weight_28 (by decide) ?_
  exact x_iretR jS jr jk jq dX6_weight_32 (rfl)
theorem h_X6_begin_X6 : ∀ w ∈ u_ws RX6 TX6 8, w ∈ wsX6_begin := fun w h => List.mem_cons_of_mem _ (List.mem_append_right _ h)
theorem m_X6_begin_1 : Cond.fieldLink RX6 9 "SealedBox$Register" "now" "[I" ∈ wsX6_begin := List.mem_of_getElem? (i := 1) rfl
theorem m_X6_begin_2 : Cond.fieldLink RX6 15 "SealedBox$Register" "former" "[I" ∈ wsX6_begin := List.mem_of_getElem? (i := 2) rfl
theorem m_X6_begin_3 : Cond.fieldLink RX6 21 "SealedBox$Register" "length" "I" ∈ wsX6_begin := List.mem_of_getElem? (i := 3) rfl
theorem m_X6_begin_4 : Cond.fieldLink RX6 25 "SealedBox$Register" "formerLength" "I" ∈ wsX6_begin := List.mem_of_getElem? (i := 4) rfl
theorem m_X6_begin_5 : Cond.fieldLink RX6 28 "SealedBox$Register" "formerError" "I" ∈ wsX6_begin := List.mem_of_getElem? (i := 5) rfl
theorem m_X6_begin_6 : Cond.fieldLink RX6 31 "SealedBox$Register" "moved" "I" ∈ wsX6_begin := List.mem_of_getElem? (i := 6) rfl
abbrev rm_X6_begin : Room := { frames := 0, cells := 0, slots := 0, locals := 0 }
set_option maxHeartbeats 4000000 in
set_option maxRecDepth 100000 in
theorem c_X6_begin (jl : Launch) (D : va_G) (cI : ClassId) (h6 qn qo qs h4 : Nat) (L fL f m : Int) (now fo : Int → Int) (sz : Nat) : Met jl yX6_begin wsX6_begin rm_X6_begin (xPw [.ref h6] D cI [(h6, .inr (6, [.ref h4, .ref qn, .ref qo, .ref qs, .int (iI L), .int (iI fL), .int (iI f), .int (iI m)])), (qn, .inl (cI, 17, .inl (aI now))), (qo, .inl (cI, 17, .inl (aI fo)))] sz) (va_Qv (fun (u : (Int → Int) × (Int → Int)) => rgR 0 bm0 u.1 u.2 0 0 1 1) (xB D (fun (u : (Int → Int) × (Int → Int)) => [(h6, .inr (6, [.ref h4, .ref qn, .ref qo, .ref qs, .int (iI 0), .int (iI 0), .int (iI 1), .int (iI 1)])), (qn, .inl (cI, 17, .inl (aI u.1))), (qo, .inl (cI, 17, .inl (aI u.2)))]) (va_A [(h6, .inr (6, [.ref h4, .ref qn, .ref qo, .ref qs, .int (iI L), .int (iI fL), .int (iI f), .int (iI m)])), (qn, .inl (cI, 17, .inl (aI now))), (qo, .inl (cI, 17, .inl (aI fo)))] sz)) (va_A [(h6, .inr (6, [.ref h4, .ref qn, .ref qo, .ref qs, .int (iI L), .int (iI fL), .int (iI f), .int (iI m)])), (qn, .inl (cI, 17, .inl (aI now))), (qo, .inl (cI, 17, .inl (aI fo)))] sz)) 0 0 (va_A [(h6, .inr (6, [.ref h4, .ref qn, .ref qo, .ref qs, .int (iI L), .int (iI fL), .int (iI f), .int (iI m)])), (qn, .inl (cI, 17, .inl (aI now))), (qo, .inl (cI, 17, .inl (aI fo)))] sz) := by
  refine x_metW (own := RX6) (cc := cX6_begin) (maxL := 2) (ret := none) (Qc := fun jA => va_Qv (fun (u : (Int → Int) × (Int → Int)) => rgR 0 bm0 u.1 u.2 0 0 1 1) (xB D (fun (u : (Int → Int) × (Int → Int)) => [(h6, .inr (6, [.ref h4, .ref qn, .ref qo, .ref qs, .int (iI 0), .int (iI 0), .int (iI 1), .int (iI 1)])), (qn, .inl (cI, 17, .inl (aI u.1))), (qo, .inl (cI, 17, .inl (aI u.2)))]) jA) jA) (by decide) rfl rfl rfl ?_
  intro jp je js jm ja jb jt jc jA jQ jS jr jk jn jq hK hP hD hA hS ls hl
  have hl : lv_has ls 2 [(0, .ref h6)] := hl
  refine x_ic jS dX6_begin_0 ?_
  refine x_isn (lv' := [(1, .int (iI 0)), (0, .ref h6)]) jS dX6_begin_1 rfl hl rfl rfl (fun ls hl => ?_)
  have loop_2 : ∀ (mm : Nat) (i : Int) (now1 : Int → Int) (fo1 : Int → Int) (jH : Heap) (jL : List Loc), (17 - i).toNat = mm → (0 ≤ i ∧ i ≤ 17) → (∀ j : Int, 0 ≤ j → j < i → now1 j = 0 ∧ fo1 j = 0) → va_P D vwCl [(h6, .inr (6, [.ref h4, .ref qn, .ref qo, .ref qs, .int (iI L), .int (iI fL), .int (iI f), .int (iI m)])), (qn, .inl (cI, 17, .inl (aI now1))), (qo, .inl (cI, 17, .inl (aI fo1)))] jH → va_D jA [(h6, .inr (6, [.ref h4, .ref qn, .ref qo, .ref qs, .int (iI L), .int (iI fL), .int (iI f), .int (iI m)])), (qn, .inl (cI, 17, .inl (aI now1))), (qo, .inl (cI, 17, .inl (aI fo1)))] → va_S jA js.heap jH jL → ∀ ls : Array Slot, lv_has ls 2 [(1, .int (iI i)), (0, .ref h6)] → W jp jl je rm_X6_begin js jm ja jb jt jc jH jL 0 0 jQ (F0 jm 2 ls []) := by
    intro mm
    induction mm using Nat.strongRecOn with
    | ind mm ih2 =>
      intro i now1 fo1 jH jL hmm2 hi h1 hP hD hS ls hl
      refine x_iln jS dX6_begin_2 rfl hl 0 rfl ?_
      refine x_aln jS dX6_begin_3 rfl hl 1 rfl ?_
      refine x_get jS hK hP h_X6_begin_X6 0 rfl rfl 1 rfl m_X6_begin_1 rfl dX6_begin_4 ?_
      refine x_alen jS hK hP 1 rfl dX6_begin_7 ?_
      refine x_cmpge jS 31 dX6_begin_8 (by decide) (by omega) (fun hc8 => ?_) (fun hc8 => ?_)
      · skip
        refine x_aln jS dX6_begin_31 rfl hl 1 rfl ?_
        refine x_get jS hK hP h_X6_begin_X6 0 rfl rfl 1 rfl m_X6_begin_1 rfl dX6_begin_32 ?_
        refine x_ic jS dX6_begin_35 ?_
        refine x_ic jS dX6_begin_36 ?_
        refine x_iast (ws' := [(h6, .inr (6, [.ref h4, .ref qn, .ref qo, .ref qs, .int (iI L), .int (iI fL), .int (iI f), .int (iI m)])), (qn, .inl (cI, 17, .inl (aI (uI now1 0 1)))), (qo, .inl (cI, 17, .inl (aI fo1)))]) jS hK hP hD hS 1 rfl (by omega) dX6_begin_37 rfl (fun jH jL hP hD hS => ?_)
        refine x_aln jS dX6_begin_38 rfl hl 1 rfl ?_
        refine x_get jS hK hP h_X6_begin_X6 0 rfl rfl 2 rfl m_X6_begin_2 rfl dX6_begin_39 ?_
        refine x_ic jS dX6_begin_42 ?_
        refine x_ic jS dX6_begin_43 ?_
        refine x_iast (ws' := [(h6, .inr (6, [.ref h4, .ref qn, .ref qo, .ref qs, .int (iI L), .int (iI fL), .int (iI f), .int (iI m)])), (qn, .inl (cI, 17, .inl (aI (uI now1 0 1)))), (qo, .inl (cI, 17, .inl (aI (uI fo1 0 1))))]) jS hK hP hD hS 2 rfl (by omega) dX6_begin_44 rfl (fun jH jL hP hD hS => ?_)
        refine x_aln jS dX6_begin_45 rfl hl 1 rfl ?_
        refine x_ic jS dX6_begin_46 ?_
        refine x_put (ty0 := tyX6) (ws' := [(h6, .inr (6, [.ref h4, .ref qn, .ref qo, .ref qs, .int (iI 0), .int (iI fL), .int (iI f), .int (iI m)])), (qn, .inl (cI, 17, .inl (aI (uI now1 0 1)))), (qo, .inl (cI, 17, .inl (aI (uI fo1 0 1))))]) jS hK hP hD hS h_X6_begin_X6 tyX6_ok nmX6 0 rfl rfl 4 rfl m_X6_begin_3 rfl rfl rfl rfl dX6_begin_47 rfl (fun jH jL hP hD hS => ?_)
        refine x_aln jS dX6_begin_50 rfl hl 1 rfl ?_
        refine x_ic jS dX6_begin_51 ?_
        refine x_put (ty0 := tyX6) (ws' := [(h6, .inr (6, [.ref h4, .ref qn, .ref qo, .ref qs, .int (iI 0), .int (iI 0), .int (iI f), .int (iI m)])), (qn, .inl (cI, 17, .inl (aI (uI now1 0 1)))), (qo, .inl (cI, 17, .inl (aI (uI fo1 0 1))))]) jS hK hP hD hS h_X6_begin_X6 tyX6_ok nmX6 0 rfl rfl 5 rfl m_X6_begin_4 rfl rfl rfl rfl dX6_begin_52 rfl (fun jH jL hP hD hS => ?_)
        refine x_aln jS dX6_begin_55 rfl hl 1 rfl ?_
        refine x_ic jS dX6_begin_56 ?_
        refine x_put (ty0 := tyX6) (ws' := [(h6, .inr (6, [.ref h4, .ref qn, .ref qo, .ref qs, .int (iI 0), .int (iI 0), .int (iI 1), .int (iI m)])), (qn, .inl (cI, 17, .inl (aI (uI now1 0 1)))), (qo, .inl (cI, 17, .inl (aI (uI fo1 0 1))))]) jS hK hP hD hS h_X6_begin_X6 tyX6_ok nmX6 0 rfl rfl 6 rfl m_X6_begin_5 rfl rfl rfl rfl dX6_begin_57 rfl (fun jH jL hP hD hS => ?_)
        refine x_aln jS dX6_begin_60 rfl hl 1 rfl ?_
        refine x_ic jS dX6_begin_61 ?_
        refine x_put (ty0 := tyX6) (ws' := [(h6, .inr (6, [.ref h4, .ref qn, .ref qo, .ref qs, .int (iI 0), .int (iI 0), .int (iI 1), .int (iI 1)])), (qn, .inl (cI, 17, .inl (aI (uI now1 0 1)))), (qo, .inl (cI, 17, .inl (aI (uI fo1 0 1))))]) jS hK hP hD hS h_X6_begin_X6 tyX6_ok nmX6 0 rfl rfl 7 rfl m_X6_begin_6 rfl rfl rfl rfl dX6_begin_62 rfl (fun jH jL hP hD hS => ?_)
        exact x_vretW jS jr jk jq dX6_begin_65 ⟨(uI now1 0 1), (uI fo1 0 1)⟩ hP hD hS (show rgR 0 bm0 (uI now1 0 1) (uI fo1 0 1) 0 0 1 1 from ⟨rfl, rfl, rfl, rfl, fun j a b => by unfold bm0 c00; dsimp only; by_cases q : j = 0; rw [q, uI_s, uI_s]; exact ⟨rfl, rfl⟩; rw [uI_n q, uI_n q, if_neg q]; exact h1 j a (by omega)⟩)
      · skip
        refine x_aln jS dX6_begin_11 rfl hl 1 rfl ?_
        refine x_get jS hK hP h_X6_begin_X6 0 rfl rfl 1 rfl m_X6_begin_1 rfl dX6_begin_12 ?_
        refine x_iln jS dX6_begin_15 rfl hl 0 rfl ?_
        refine x_ic jS dX6_begin_16 ?_
        refine x_iast (ws' := [(h6, .inr (6, [.ref h4, .ref qn, .ref qo, .ref qs, .int (iI L), .int (iI fL), .int (iI f), .int (iI m)])), (qn, .inl (cI, 17, .inl (aI (uI now1 i 0)))), (qo, .inl (cI, 17, .inl (aI fo1)))]) jS hK hP hD hS 1 rfl (by omega) dX6_begin_17 rfl (fun jH jL hP hD hS => ?_)
        refine x_aln jS dX6_begin_18 rfl hl 1 rfl ?_
        refine x_get jS hK hP h_X6_begin_X6 0 rfl rfl 2 rfl m_X6_begin_2 rfl dX6_begin_19 ?_
        refine x_iln jS dX6_begin_22 rfl hl 0 rfl ?_
        refine x_ic jS dX6_begin_23 ?_
        refine x_iast (ws' := [(h6, .inr (6, [.ref h4, .ref qn, .ref qo, .ref qs, .int (iI L), .int (iI fL), .int (iI f), .int (iI m)])), (qn, .inl (cI, 17, .inl (aI (uI now1 i 0)))), (qo, .inl (cI, 17, .inl (aI (uI fo1 i 0))))]) jS hK hP hD hS 2 rfl (by omega) dX6_begin_24 rfl (fun jH jL hP hD hS => ?_)
        refine x_iinc (lv' := [(1, .int (iI (i + 1))), (0, .ref h6)]) jS dX6_begin_25 hl 0 rfl rfl rfl (fun ls hl => ?_)
        refine x_goto jS 2 dX6_begin_28 (by decide) ?_
        exact ih2 _ (by omega) (i + 1) (uI now1 i 0) (uI fo1 i 0) _ _ rfl (by omega) (fun j a b => by rcases Int.lt_or_le j i with q | q; rw [uI_n (by omega), uI_n (by omega)]; exact h1 j a q; rw [show j = i by omega, uI_s, uI_s]; exact ⟨rfl, rfl⟩) hP hD hS ls (lv_sub hl [0, 1] rfl)
  exact loop_2 _ 0 now fo _ _ rfl (by omega) (fun j a b => by omega) hP hD hS ls (lv_sub hl [0, 1] rfl)
theorem h_X6_copyOf_X6 : ∀ w ∈ u_ws RX6 TX6 8, w ∈ wsX6_copyOf := fun w h => List.mem_cons_of_mem _ (List.mem_append_right _ h)
theorem m_X6_copyOf_1 : Cond.fieldLink RX6 9 "SealedBox$Register" "now" "[I" ∈ wsX6_copyOf := List.mem_of_getElem? (i := 1) rfl
theorem m_X6_copyOf_2 : Cond.methodLink RX6 45 arraycopyName ∈ wsX6_copyOf := List.mem_of_getElem? (i := 2) rfl
theorem m_X6_copyOf_3 : Cond.native arraycopyName ∈ wsX6_copyOf := List.mem_of_getElem? (i := 3) rfl
theorem m_X6_copyOf_4 : Cond.static arraycopyName ∈ wsX6_copyOf := List.mem_of_getElem? (i := 4) rfl
theorem m_X6_copyOf_5 : Cond.initialized "java/lang/System" ∈ wsX6_copyOf := List.mem_of_getElem? (i := 5) rfl
theorem m_X6_copyOf_6 : Cond.fieldLink RX6 15 "SealedBox$Register" "former" "[I" ∈ wsX6_copyOf := List.mem_of_getElem? (i := 6) rfl
theorem m_X6_copyOf_7 : Cond.fieldLink RX6 21 "SealedBox$Register" "length" "I" ∈ wsX6_copyOf := List.mem_of_getElem? (i := 7) rfl
theorem m_X6_copyOf_8 : Cond.fieldLink RX6 25 "SealedBox$Register" "formerLength" "I" ∈ wsX6_copyOf := List.mem_of_getElem? (i := 8) rfl
theorem m_X6_copyOf_9 : Cond.fieldLink RX6 28 "SealedBox$Register" "formerError" "I" ∈ wsX6_copyOf := List.mem_of_getElem? (i := 9) rfl
theorem m_X6_copyOf_10 : Cond.fieldLink RX6 31 "SealedBox$Register" "moved" "I" ∈ wsX6_copyOf := List.mem_of_getElem? (i := 10) rfl
abbrev rm_X6_copyOf : Room := { frames := 1, cells := 0, slots := 0, locals := 60 }
set_option maxHeartbeats 4000000 in
set_option maxRecDepth 100000 in
theorem c_X6_copyOf (jl : Launch) (D : va_G) (cI : ClassId) (h6 qn qo qs h4 h7 qn7 qo7 qs7 : Nat) (L fL f m L7 fL7 f7 m7 : Int) (now fo now7 fo7 : Int → Int) (sz : Nat) : Met jl yX6_copyOf wsX6_copyOf rm_X6_copyOf (xPw [.ref h6, .ref h7] D cI [(h6, .inr (6, [.ref h4, .ref qn, .ref qo, .ref qs, .int (iI L), .int (iI fL), .int (iI f), .int (iI m)])), (qn, .inl (cI, 17, .inl (aI now))), (qo, .inl (cI, 17, .inl (aI fo))), (h7, .inr (6, [.ref h4, .ref qn7, .ref qo7, .ref qs7, .int (iI L7), .int (iI fL7), .int (iI f7), .int (iI m7)])), (qn7, .inl (cI, 17, .inl (aI now7))), (qo7, .inl (cI, 17, .inl (aI fo7)))] sz) (va_Qv (fun (u : (Int → Int) × (Int → Int)) => ∀ j : Int, 0 ≤ j → j ≤ 16 → u.1 j = now7 j ∧ u.2 j = fo7 j) (xB D (fun (u : (Int → Int) × (Int → Int)) => [(h6, .inr (6, [.ref h4, .ref qn, .ref qo, .ref qs, .int (iI L7), .int (iI fL7), .int (iI f7), .int (iI m7)])), (qn, .inl (cI, 17, .inl (aI u.1))), (qo, .inl (cI, 17, .inl (aI u.2))), (h7, .inr (6, [.ref h4, .ref qn7, .ref qo7, .ref qs7, .int (iI L7), .int (iI fL7), .int (iI f7), .int (iI m7)])), (qn7, .inl (cI, 17, .inl (aI now7))), (qo7, .inl (cI, 17, .inl (aI fo7)))]) (va_A [(h6, .inr (6, [.ref h4, .ref qn, .ref qo, .ref qs, .int (iI L), .int (iI fL), .int (iI f), .int (iI m)])), (qn, .inl (cI, 17, .inl (aI now))), (qo, .inl (cI, 17, .inl (aI fo))), (h7, .inr (6, [.ref h4, .ref qn7, .ref qo7, .ref qs7, .int (iI L7), .int (iI fL7), .int (iI f7), .int (iI m7)])), (qn7, .inl (cI, 17, .inl (aI now7))), (qo7, .inl (cI, 17, .inl (aI fo7)))] sz)) (va_A [(h6, .inr (6, [.ref h4, .ref qn, .ref qo, .ref qs, .int (iI L), .int (iI fL), .int (iI f), .int (iI m)])), (qn, .inl (cI, 17, .inl (aI now))), (qo, .inl (cI, 17, .inl (aI fo))), (h7, .inr (6, [.ref h4, .ref qn7, .ref qo7, .ref qs7, .int (iI L7), .int (iI fL7), .int (iI f7), .int (iI m7)])), (qn7, .inl (cI, 17, .inl (aI now7))), (qo7, .inl (cI, 17, .inl (aI fo7)))] sz)) 0 0 (va_A [(h6, .inr (6, [.ref h4, .ref qn, .ref qo, .ref qs, .int (iI L), .int (iI fL), .int (iI f), .int (iI m)])), (qn, .inl (cI, 17, .inl (aI now))), (qo, .inl (cI, 17, .inl (aI fo))), (h7, .inr (6, [.ref h4, .ref qn7, .ref qo7, .ref qs7, .int (iI L7), .int (iI fL7), .int (iI f7), .int (iI m7)])), (qn7, .inl (cI, 17, .inl (aI now7))), (qo7, .inl (cI, 17, .inl (aI fo7)))] sz) := by
  refine x_metW (own := RX6) (cc := cX6_copyOf) (maxL := 2) (ret := none) (Qc := fun jA => va_Qv (fun (u : (Int → Int) × (Int → Int)) => ∀ j : Int, 0 ≤ j → j ≤ 16 → u.1 j = now7 j ∧ u.2 j = fo7 j) (xB D (fun (u : (Int → Int) × (Int → Int)) => [(h6, .inr (6, [.ref h4, .ref qn, .ref qo, .ref qs, .int (iI L7), .int (iI fL7), .int (iI f7), .int (iI m7)])), (qn, .inl (cI, 17, .inl (aI u.1))), (qo, .inl (cI, 17, .inl (aI u.2))), (h7, .inr (6, [.ref h4, .ref qn7, .ref qo7, .ref qs7, .int (iI L7), .int (iI fL7), .int (iI f7), .int (iI m7)])), (qn7, .inl (cI, 17, .inl (aI now7))), (qo7, .inl (cI, 17, .inl (aI fo7)))]) jA) jA) (by decide) rfl rfl rfl ?_
  intro jp je js jm ja jb jt jc jA jQ jS jr jk jn jq hK hP hD hA hS ls hl
  have hl : lv_has ls 2 [(0, .ref h6), (1, .ref h7)] := hl
  refine x_aln jS dX6_copyOf_0 rfl hl 1 rfl ?_
  refine x_get jS hK hP h_X6_copyOf_X6 3 rfl rfl 1 rfl m_X6_copyOf_1 rfl dX6_copyOf_1 ?_
  refine x_ic jS dX6_copyOf_4 ?_
  refine x_aln jS dX6_copyOf_5 rfl hl 0 rfl ?_
  refine x_get jS hK hP h_X6_copyOf_X6 0 rfl rfl 1 rfl m_X6_copyOf_1 rfl dX6_copyOf_6 ?_
  refine x_ic jS dX6_copyOf_9 ?_
  refine x_aln jS dX6_copyOf_10 rfl hl 0 rfl ?_
  refine x_get jS hK hP h_X6_copyOf_X6 0 rfl rfl 1 rfl m_X6_copyOf_1 rfl dX6_copyOf_11 ?_
  refine x_alen jS hK hP 1 rfl dX6_copyOf_14 ?_
  refine x_copy (ws' := [(h6, .inr (6, [.ref h4, .ref qn, .ref qo, .ref qs, .int (iI L), .int (iI fL), .int (iI f), .int (iI m)])), (qn, .inl (cI, 17, .inl (aI (cpI now7 now ((17 : Nat) : Int))))), (qo, .inl (cI, 17, .inl (aI fo))), (h7, .inr (6, [.ref h4, .ref qn7, .ref qo7, .ref qs7, .int (iI L7), .int (iI fL7), .int (iI f7), .int (iI m7)])), (qn7, .inl (cI, 17, .inl (aI now7))), (qo7, .inl (cI, 17, .inl (aI fo7)))]) (N := 17) jS hl.1 hK hP hD hS 4 1 rfl rfl m_X6_copyOf_2 m_X6_copyOf_3 m_X6_copyOf_4 m_X6_copyOf_5 rfl rfl dX6_copyOf_15 rfl rfl (fun jH jL hP hD hS => ?_)
  refine x_aln jS dX6_copyOf_18 rfl hl 1 rfl ?_
  refine x_get jS hK hP h_X6_copyOf_X6 3 rfl rfl 2 rfl m_X6_copyOf_6 rfl dX6_copyOf_19 ?_
  refine x_ic jS dX6_copyOf_22 ?_
  refine x_aln jS dX6_copyOf_23 rfl hl 0 rfl ?_
  refine x_get jS hK hP h_X6_copyOf_X6 0 rfl rfl 2 rfl m_X6_copyOf_6 rfl dX6_copyOf_24 ?_
  refine x_ic jS dX6_copyOf_27 ?_
  refine x_aln jS dX6_copyOf_28 rfl hl 0 rfl ?_
  refine x_get jS hK hP h_X6_copyOf_X6 0 rfl rfl 2 rfl m_X6_copyOf_6 rfl dX6_copyOf_29 ?_
  refine x_alen jS hK hP 2 rfl dX6_copyOf_32 ?_
  refine x_copy (ws' := [(h6, .inr (6, [.ref h4, .ref qn, .ref qo, .ref qs, .int (iI L), .int (iI fL), .int (iI f), .int (iI m)])), (qn, .inl (cI, 17, .inl (aI (cpI now7 now ((17 : Nat) : Int))))), (qo, .inl (cI, 17, .inl (aI (cpI fo7 fo ((17 : Nat) : Int))))), (h7, .inr (6, [.ref h4, .ref qn7, .ref qo7, .ref qs7, .int (iI L7), .int (iI fL7), .int (iI f7), .int (iI m7)])), (qn7, .inl (cI, 17, .inl (aI now7))), (qo7, .inl (cI, 17, .inl (aI fo7)))]) (N := 17) jS hl.1 hK hP hD hS 5 2 rfl rfl m_X6_copyOf_2 m_X6_copyOf_3 m_X6_copyOf_4 m_X6_copyOf_5 rfl rfl dX6_copyOf_33 rfl rfl (fun jH jL hP hD hS => ?_)
  refine x_aln jS dX6_copyOf_36 rfl hl 0 rfl ?_
  refine x_aln jS dX6_copyOf_37 rfl hl 1 rfl ?_
  refine x_get jS hK hP h_X6_copyOf_X6 3 rfl rfl 4 rfl m_X6_copyOf_7 rfl dX6_copyOf_38 ?_
  refine x_put (ty0 := tyX6) (ws' := [(h6, .inr (6, [.ref h4, .ref qn, .ref qo, .ref qs, .int (iI L7), .int (iI fL), .int (iI f), .int (iI m)])), (qn, .inl (cI, 17, .inl (aI (cpI now7 now ((17 : Nat) : Int))))), (qo, .inl (cI, 17, .inl (aI (cpI fo7 fo ((17 : Nat) : Int))))), (h7, .inr (6, [.ref h4, .ref qn7, .ref qo7, .ref qs7, .int (iI L7), .int (iI fL7), .int (iI f7), .int (iI m7)])), (qn7, .inl (cI, 17, .inl (aI now7))), (qo7, .inl (cI, 17, .inl (aI fo7)))]) jS hK hP hD hS h_X6_copyOf_X6 tyX6_ok nmX6 0 rfl rfl 4 rfl m_X6_copyOf_7 rfl rfl rfl rfl dX6_copyOf_41 rfl (fun jH jL hP hD hS => ?_)
  refine x_aln jS dX6_copyOf_44 rfl hl 0 rfl ?_
  refine x_aln jS dX6_copyOf_45 rfl hl 1 rfl ?_
  refine x_get jS hK hP h_X6_copyOf_X6 3 rfl rfl 5 rfl m_X6_copyOf_8 rfl dX6_copyOf_46 ?_
  refine x_put (ty0 := tyX6) (ws' := [(h6, .inr (6, [.ref h4, .ref qn, .ref qo, .ref qs, .int (iI L7), .int (iI fL7), .int (iI f), .int (iI m)])), (qn, .inl (cI, 17, .inl (aI (cpI now7 now ((17 : Nat) : Int))))), (qo, .inl (cI, 17, .inl (aI (cpI fo7 fo ((17 : Nat) : Int))))), (h7, .inr (6, [.ref h4, .ref qn7, .ref qo7, .ref qs7, .int (iI L7), .int (iI fL7), .int (iI f7), .int (iI m7)])), (qn7, .inl (cI, 17, .inl (aI now7))), (qo7, .inl (cI, 17, .inl (aI fo7)))]) jS hK hP hD hS h_X6_copyOf_X6 tyX6_ok nmX6 0 rfl rfl 5 rfl m_X6_copyOf_8 rfl rfl rfl rfl dX6_copyOf_49 rfl (fun jH jL hP hD hS => ?_)
  refine x_aln jS dX6_copyOf_52 rfl hl 0 rfl ?_
  refine x_aln jS dX6_copyOf_53 rfl hl 1 rfl ?_
  refine x_get jS hK hP h_X6_copyOf_X6 3 rfl rfl 6 rfl m_X6_copyOf_9 rfl dX6_copyOf_54 ?_
  refine x_put (ty0 := tyX6) (ws' := [(h6, .inr (6, [.ref h4, .ref qn, .ref qo, .ref qs, .int (iI L7), .int (iI fL7), .int (iI f7), .int (iI m)])), (qn, .inl (cI, 17, .inl (aI (cpI now7 now ((17 : Nat) : Int))))), (qo, .inl (cI, 17, .inl (aI (cpI fo7 fo ((17 : Nat) : Int))))), (h7, .inr (6, [.ref h4, .ref qn7, .ref qo7, .ref qs7, .int (iI L7), .int (iI fL7), .int (iI f7), .int (iI m7)])), (qn7, .inl (cI, 17, .inl (aI now7))), (qo7, .inl (cI, 17, .inl (aI fo7)))]) jS hK hP hD hS h_X6_copyOf_X6 tyX6_ok nmX6 0 rfl rfl 6 rfl m_X6_copyOf_9 rfl rfl rfl rfl dX6_copyOf_57 rfl (fun jH jL hP hD hS => ?_)
  refine x_aln jS dX6_copyOf_60 rfl hl 0 rfl ?_
  refine x_aln jS dX6_copyOf_61 rfl hl 1 rfl ?_
  refine x_get jS hK hP h_X6_copyOf_X6 3 rfl rfl 7 rfl m_X6_copyOf_10 rfl dX6_copyOf_62 ?_
  refine x_put (ty0 := tyX6) (ws' := [(h6, .inr (6, [.ref h4, .ref qn, .ref qo, .ref qs, .int (iI L7), .int (iI fL7), .int (iI f7), .int (iI m7)])), (qn, .inl (cI, 17, .inl (aI (cpI now7 now ((17 : Nat) : Int))))), (qo, .inl (cI, 17, .inl (aI (cpI fo7 fo ((17 : Nat) : Int))))), (h7, .inr (6, [.ref h4, .ref qn7, .ref qo7, .ref qs7, .int (iI L7), .int (iI fL7), .int (iI f7), .int (iI m7)])), (qn7, .inl (cI, 17, .inl (aI now7))), (qo7, .inl (cI, 17, .inl (aI fo7)))]) jS hK hP hD hS h_X6_copyOf_X6 tyX6_ok nmX6 0 rfl rfl 7 rfl m_X6_copyOf_10 rfl rfl rfl rfl dX6_copyOf_65 rfl (fun jH jL hP hD hS => ?_)
  exact x_vretW jS jr jk jq dX6_copyOf_68 ⟨(cpI now7 now ((17 : Nat) : Int)), (cpI fo7 fo ((17 : Nat) : Int))⟩ hP hD hS (show ∀ j : Int, 0 ≤ j → j ≤ 16 → (cpI now7 now ((17 : Nat) : Int)) j = now7 j ∧ (cpI fo7 fo ((17 : Nat) : Int)) j = fo7 j from fun j a b => by unfold cpI; rw [if_pos (by omega), if_pos (by omega)]; exact ⟨rfl, rfl⟩)
theorem kf_X6_errorAt : kfV yX6_errorAt RX6 2 := by decide +kernel
theorem h_X6_take_X6 : ∀ w ∈ u_ws RX6 TX6 8, w ∈ wsX6_take := fun w h => List.mem_cons_of_mem _ (List.mem_append_left _ (List.mem_append_right _ h))
theorem m_X6_take_2 : Cond.fieldLink RX6 34 "SealedBox$Register" "numbers" "LSealedBox$PrimeField;" ∈ wsX6_take := List.mem_of_getElem? (i := 2) rfl
theorem h_X6_take_X4 : ∀ w ∈ u_ws RX4 TX4 2, w ∈ wsX6_take := fun w h => List.mem_cons_of_mem _ (List.mem_append_right _ h)
theorem m_X6_take_3 : Cond.fieldLink RX6 28 "SealedBox$Register" "formerError" "I" ∈ wsX6_take := List.mem_of_getElem? (i := 3) rfl
theorem kf_X4_over : kfV yX4_over RX4 2 := by decide +kernel
theorem m_X6_take_4 : Cond.fieldLink RX6 21 "SealedBox$Register" "length" "I" ∈ wsX6_take := List.mem_of_getElem? (i := 4) rfl
theorem m_X6_take_5 : Cond.fieldLink RX6 9 "SealedBox$Register" "now" "[I" ∈ wsX6_take := List.mem_of_getElem? (i := 5) rfl
theorem m_X6_take_6 : Cond.fieldLink RX6 18 "SealedBox$Register" "spare" "[I" ∈ wsX6_take := List.mem_of_getElem? (i := 6) rfl
theorem m_X6_take_7 : Cond.methodLink RX6 45 arraycopyName ∈ wsX6_take := List.mem_of_getElem? (i := 7) rfl
theorem m_X6_take_8 : Cond.native arraycopyName ∈ wsX6_take := List.mem_of_getElem? (i := 8) rfl
theorem m_X6_take_9 : Cond.static arraycopyName ∈ wsX6_take := List.mem_of_getElem? (i := 9) rfl
theorem m_X6_take_10 : Cond.initialized "java/lang/System" ∈ wsX6_take := List.mem_of_getElem? (i := 10) rfl
theorem kf_X6_addFormer : kfV yX6_addFormer RX6 1 := by decide +kernel
theorem m_X6_take_11 : Cond.fieldLink RX6 15 "SealedBox$Register" "former" "[I" ∈ wsX6_take := List.mem_of_getElem? (i := 11) rfl
theorem m_X6_take_12 : Cond.fieldLink RX6 25 "SealedBox$Register" "formerLength" "I" ∈ wsX6_take := List.mem_of_getElem? (i := 12) rfl
theorem m_X6_take_1 : Cond.fieldLink RX6 31 "SealedBox$Register" "moved" "I" ∈ wsX6_take := List.mem_of_getElem? (i := 1) rfl
abbrev rm_X6_take : Room := { frames := 1, cells := 0, slots := 0, locals := 60 }
set_option maxHeartbeats 4000000 in
set_option maxRecDepth 100000 in
theorem c_X6_take (jl : Launch) (D : va_G) (cI : ClassId) (h6 qn qo qs h4 q4 : Nat) (qr nr : Nat) (P L fL f m n : Int) (now fo sp iv row : Int → Int) (rs : RS) (sz : Nat) (hP5 : 5 ≤ P ∧ P ≤ 997) (htb : tbF P iv) (hnr : nr ≤ 16) (hn : 0 ≤ n ∧ n < nr) (hrow : ∀ j : Int, 0 ≤ j → j ≤ n → 0 ≤ row j ∧ row j < P) (hI : bmI P n rs) (hR : rgR n rs now fo L fL f m) : Met jl yX6_take wsX6_take rm_X6_take (xPw [.ref h6, .ref qr, .int (iI n)] D cI [(h6, .inr (6, [.ref h4, .ref qn, .ref qo, .ref qs, .int (iI L), .int (iI fL), .int (iI f), .int (iI m)])), (qn, .inl (cI, 17, .inl (aI now))), (qo, .inl (cI, 17, .inl (aI fo))), (qs, .inl (cI, 17, .inl (aI sp))), (qr, .inl (cI, nr, .inl (aI row))), (h4, .inr (4, [.ref q4, .int (iI P)])), (q4, .inl (cI, 997, .inl (aI iv)))] sz) (va_Qv (fun (u : Nat × Nat × (Int → Int) × (Int → Int) × (Int → Int) × Int × Int × Int × Int) => rgR (n + 1) (bmS P row n rs) u.2.2.1 u.2.2.2.1 u.2.2.2.2.2.1 u.2.2.2.2.2.2.1 u.2.2.2.2.2.2.2.1 u.2.2.2.2.2.2.2.2) (xB D (fun (u : Nat × Nat × (Int → Int) × (Int → Int) × (Int → Int) × Int × Int × Int × Int) => [(h6, .inr (6, [.ref h4, .ref qn, .ref u.1, .ref u.2.1, .int (iI u.2.2.2.2.2.1), .int (iI u.2.2.2.2.2.2.1), .int (iI u.2.2.2.2.2.2.2.1), .int (iI u.2.2.2.2.2.2.2.2)])), (qn, .inl (cI, 17, .inl (aI u.2.2.1))), (u.1, .inl (cI, 17, .inl (aI u.2.2.2.1))), (u.2.1, .inl (cI, 17, .inl (aI u.2.2.2.2.1))), (qr, .inl (cI, nr, .inl (aI row))), (h4, .inr (4, [.ref q4, .int (iI P)])), (q4, .inl (cI, 997, .inl (aI iv)))]) (va_A [(h6, .inr (6, [.ref h4, .ref qn, .ref qo, .ref qs, .int (iI L), .int (iI fL), .int (iI f), .int (iI m)])), (qn, .inl (cI, 17, .inl (aI now))), (qo, .inl (cI, 17, .inl (aI fo))), (qs, .inl (cI, 17, .inl (aI sp))), (qr, .inl (cI, nr, .inl (aI row))), (h4, .inr (4, [.ref q4, .int (iI P)])), (q4, .inl (cI, 997, .inl (aI iv)))] sz)) (va_A [(h6, .inr (6, [.ref h4, .ref qn, .ref qo, .ref qs, .int (iI L), .int (iI fL), .int (iI f), .int (iI m)])), (qn, .inl (cI, 17, .inl (aI now))), (qo, .inl (cI, 17, .inl (aI fo))), (qs, .inl (cI, 17, .inl (aI sp))), (qr, .inl (cI, nr, .inl (aI row))), (h4, .inr (4, [.ref q4, .int (iI P)])), (q4, .inl (cI, 997, .inl (aI iv)))] sz)) 0 0 (va_A [(h6, .inr (6, [.ref h4, .ref qn, .ref qo, .ref qs, .int (iI L), .int (iI fL), .int (iI f), .int (iI m)])), (qn, .inl (cI, 17, .inl (aI now))), (qo, .inl (cI, 17, .inl (aI fo))), (qs, .inl (cI, 17, .inl (aI sp))), (qr, .inl (cI, nr, .inl (aI row))), (h4, .inr (4, [.ref q4, .int (iI P)])), (q4, .inl (cI, 997, .inl (aI iv)))] sz) := by
  refine x_metW (own := RX6) (cc := cX6_take) (maxL := 6) (ret := none) (Qc := fun jA => va_Qv (fun (u : Nat × Nat × (Int → Int) × (Int → Int) × (Int → Int) × Int × Int × Int × Int) => rgR (n + 1) (bmS P row n rs) u.2.2.1 u.2.2.2.1 u.2.2.2.2.2.1 u.2.2.2.2.2.2.1 u.2.2.2.2.2.2.2.1 u.2.2.2.2.2.2.2.2) (xB D (fun (u : Nat × Nat × (Int → Int) × (Int → Int) × (Int → Int) × Int × Int × Int × Int) => [(h6, .inr (6, [.ref h4, .ref qn, .ref u.1, .ref u.2.1, .int (iI u.2.2.2.2.2.1), .int (iI u.2.2.2.2.2.2.1), .int (iI u.2.2.2.2.2.2.2.1), .int (iI u.2.2.2.2.2.2.2.2)])), (qn, .inl (cI, 17, .inl (aI u.2.2.1))), (u.1, .inl (cI, 17, .inl (aI u.2.2.2.1))), (u.2.1, .inl (cI, 17, .inl (aI u.2.2.2.2.1))), (qr, .inl (cI, nr, .inl (aI row))), (h4, .inr (4, [.ref q4, .int (iI P)])), (q4, .inl (cI, 997, .inl (aI iv)))]) jA) jA) (by decide) rfl rfl rfl ?_
  intro jp je js jm ja jb jt jc jA jQ jS jr jk jn jq hK hP hD hA hS ls hl
  have hl : lv_has ls 6 [(0, .ref h6), (1, .ref qr), (2, .int (iI n))] := hl
  obtain ⟨sC, sF, sL, sf, sM⟩ := rs
  unfold rgR at hR
  dsimp only at hR
  obtain ⟨hR1, hR2, hR3, hfL, hj⟩ := hR
  subst hR1; subst hR2; subst hR3
  have hI0 := hI
  obtain ⟨⟨a1, a2, a3, a4, a5, a6⟩, hcb, hfb, -, -, -⟩ := hI0
  dsimp only at a1 a2 a3 a4 a5 a6 hcb hfb
  have hnowb : ∀ j : Int, 0 ≤ j → j ≤ 16 → 0 ≤ now j ∧ now j < P := fun j x y => by rw [(hj j x y).1]; exact hcb j
  have hfob : ∀ j : Int, 0 ≤ j → j ≤ 16 → 0 ≤ fo j ∧ fo j < P := fun j x y => by rw [(hj j x y).2]; exact hfb j
  have hivf := htb f (by omega) a6
  refine x_aln jS dX6_take_0 rfl hl 0 rfl ?_
  refine x_aln jS dX6_take_1 rfl hl 1 rfl ?_
  refine x_iln jS dX6_take_2 rfl hl 2 rfl ?_
  refine x_rI (x_rmV (As := [.ref qr, .int (iI n)]) (rest := []) jS hl.1 hK (c_X6_errorAt jl D cI h6 qn qo qs h4 q4 qr nr P L fL f m n now row (by first | assumption | omega) (by first | assumption | omega) (by first | assumption | omega) (by first | assumption | omega) (by first | assumption | omega) (by first | assumption | omega)) (hP.sub [0, 1, 4, 5] rfl) 0 rfl rfl gX6_take_X6_errorAt rfl rfl rfl kf_X6_errorAt rfl rfl rfl rfl rfl dX6_take_3 rfl rfl) ?_
  refine x_topi (fun er h_er => ?_)
  have her : er = bmE P row n (sC, sF, L, f, m) := by
    rw [h_er]; unfold bmE; dsimp only; congr 1; exact sm_congr (fun k x y => by show now k * _ = sC k * _; rw [(hj k x (by omega)).1])
  have herb := bmE_in (show 2 ≤ P by omega) row n (sC, sF, L, f, m)
  rw [← her] at herb
  refine x_isn (lv' := [(3, .int (iI er)), (0, .ref h6), (1, .ref qr), (2, .int (iI n))]) jS dX6_take_6 rfl hl rfl rfl (fun ls hl => ?_)
  refine x_iln jS dX6_take_7 rfl hl 0 rfl ?_
  refine x_ifne jS 22 dX6_take_8 (by decide) (by omega) (fun hc8 => ?_) (fun hc8 => ?_)
  · skip
    refine x_aln jS dX6_take_22 rfl hl 1 rfl ?_
    refine x_get jS hK hP h_X6_take_X6 0 rfl rfl 0 rfl m_X6_take_2 rfl dX6_take_23 ?_
    refine x_getN jS hK hP h_X6_take_X4 5 rfl rfl 1 rfl 3 rfl rfl dX6_take_26 ?_
    refine x_aln jS dX6_take_29 rfl hl 1 rfl ?_
    refine x_get jS hK hP h_X6_take_X6 0 rfl rfl 0 rfl m_X6_take_2 rfl dX6_take_30 ?_
    refine x_iln jS dX6_take_33 rfl hl 0 rfl ?_
    refine x_aln jS dX6_take_34 rfl hl 1 rfl ?_
    refine x_get jS hK hP h_X6_take_X6 0 rfl rfl 6 rfl m_X6_take_3 rfl dX6_take_35 ?_
    refine x_rI (x_rmV (As := [.int (iI er), .int (iI f)]) (rest := [.int (iI P)]) jS hl.1 hK (c_X4_over jl D cI h4 q4 P er f iv (by first | assumption | omega) (by first | assumption | omega) (by first | assumption | omega) (⟨hivf.1, hivf.2.1⟩)) (hP.sub [5, 6] rfl) 0 rfl rfl gX6_take_X4_over rfl rfl rfl kf_X4_over rfl rfl rfl rfl rfl dX6_take_38 rfl rfl) ?_
    refine x_isub jS dX6_take_41 ?_
    refine x_topi (fun fa h_fa => ?_)
    have hfa0 := emB (show 0 < P by omega) (er * iv f)
    have hfa1 : fa = P - er * ivF P f % P := by rw [h_fa, hivf.2.2]
    refine x_is (lv' := [(4, .int (iI fa)), (3, .int (iI er)), (0, .ref h6), (1, .ref qr), (2, .int (iI n))]) jS dX6_take_42 hl rfl rfl (fun ls hl => ?_)
    refine x_ic jS dX6_take_44 ?_
    refine x_aln jS dX6_take_45 rfl hl 2 rfl ?_
    refine x_get jS hK hP h_X6_take_X6 0 rfl rfl 4 rfl m_X6_take_4 rfl dX6_take_46 ?_
    refine x_imul jS dX6_take_49 ?_
    refine x_iln jS dX6_take_50 rfl hl 4 rfl ?_
    refine x_cmple jS 71 dX6_take_51 (by decide) (by omega) (fun hc51 => ?_) (fun hc51 => ?_)
    · skip
      refine x_aln jS dX6_take_71 rfl hl 2 rfl ?_
      refine x_get jS hK hP h_X6_take_X6 0 rfl rfl 1 rfl m_X6_take_5 rfl dX6_take_72 ?_
      refine x_ic jS dX6_take_75 ?_
      refine x_aln jS dX6_take_76 rfl hl 2 rfl ?_
      refine x_get jS hK hP h_X6_take_X6 0 rfl rfl 3 rfl m_X6_take_6 rfl dX6_take_77 ?_
      refine x_ic jS dX6_take_80 ?_
      refine x_aln jS dX6_take_81 rfl hl 2 rfl ?_
      refine x_get jS hK hP h_X6_take_X6 0 rfl rfl 1 rfl m_X6_take_5 rfl dX6_take_82 ?_
      refine x_alen jS hK hP 1 rfl dX6_take_85 ?_
      refine x_copy (ws' := [(h6, .inr (6, [.ref h4, .ref qn, .ref qo, .ref qs, .int (iI L), .int (iI fL), .int (iI f), .int (iI m)])), (qn, .inl (cI, 17, .inl (aI now))), (qo, .inl (cI, 17, .inl (aI fo))), (qs, .inl (cI, 17, .inl (aI (cpI now sp ((17 : Nat) : Int))))), (qr, .inl (cI, nr, .inl (aI row))), (h4, .inr (4, [.ref q4, .int (iI P)])), (q4, .inl (cI, 997, .inl (aI iv)))]) (N := 17) jS hl.1 hK hP hD hS 1 3 rfl rfl m_X6_take_7 m_X6_take_8 m_X6_take_9 m_X6_take_10 rfl rfl dX6_take_86 rfl rfl (fun jH jL hP hD hS => ?_)
      refine x_aln jS dX6_take_89 rfl hl 2 rfl ?_
      refine x_il jS dX6_take_90 hl 0 rfl ?_
      refine x_aV (wc := [(h6, .inr (6, [.ref h4, .ref qn, .ref qo, .ref qs, .int (iI L), .int (iI fL), .int (iI f), .int (iI m)])), (qn, .inl (cI, 17, .inl (aI now))), (qo, .inl (cI, 17, .inl (aI fo))), (h4, .inr (4, [.ref q4, .int (iI P)]))]) (wr := [(qs, .inl (cI, 17, .inl (aI (cpI now sp ((17 : Nat) : Int))))), (qr, .inl (cI, nr, .inl (aI row))), (q4, .inl (cI, 997, .inl (aI iv)))]) hP hD hS hA [0, 1, 2, 5] [3, 4, 6] rfl rfl (by decide) (by decide) (cs := 0) (ss := 0) rfl rfl (x_rnV (As := [.int (iI fa)]) (rest := []) jS hl.1 hK (c_X6_addFormer jl D cI h6 qn qo qs h4 q4 P L fL f m fa now fo _ (by first | assumption | omega) (by first | assumption | omega) (by first | assumption | omega) (by first | assumption | omega) (by first | assumption | omega)) hP hD [0, 1, 2, 5] rfl rfl (by decide) 0 rfl rfl gX6_take_X6_addFormer rfl rfl rfl kf_X6_addFormer rfl rfl rfl rfl rfl dX6_take_92 rfl rfl) (fun u jH jL hw hP hD hS => ?_)
      obtain ⟨nw2, rfl⟩ : ∃ z, z = u := ⟨_, rfl⟩
      have hw2 : ∀ j : Int, 0 ≤ j → j ≤ 16 → nw2 j = if m ≤ j ∧ j ≤ m + fL then (now j + fa * fo (j - m)) % P else now j := hw
      clear hw
      have hP : va_P D vwCl [(qs, .inl (cI, 17, .inl (aI (cpI now sp ((17 : Nat) : Int))))), (qr, .inl (cI, nr, .inl (aI row))), (q4, .inl (cI, 997, .inl (aI iv))), (h6, .inr (6, [.ref h4, .ref qn, .ref qo, .ref qs, .int (iI L), .int (iI fL), .int (iI f), .int (iI m)])), (qn, .inl (cI, 17, .inl (aI nw2))), (qo, .inl (cI, 17, .inl (aI fo))), (h4, .inr (4, [.ref q4, .int (iI P)]))] jH := hP
      have hD : va_D jA [(qs, .inl (cI, 17, .inl (aI (cpI now sp ((17 : Nat) : Int))))), (qr, .inl (cI, nr, .inl (aI row))), (q4, .inl (cI, 997, .inl (aI iv))), (h6, .inr (6, [.ref h4, .ref qn, .ref qo, .ref qs, .int (iI L), .int (iI fL), .int (iI f), .int (iI m)])), (qn, .inl (cI, 17, .inl (aI nw2))), (qo, .inl (cI, 17, .inl (aI fo))), (h4, .inr (4, [.ref q4, .int (iI P)]))] := hD
      refine x_aln jS dX6_take_95 rfl hl 2 rfl ?_
      refine x_get jS hK hP h_X6_take_X6 3 rfl rfl 2 rfl m_X6_take_11 rfl dX6_take_96 ?_
      refine x_as (lv' := [(5, .ref qo), (4, .int (iI fa)), (3, .int (iI er)), (0, .ref h6), (1, .ref qr), (2, .int (iI n))]) jS dX6_take_99 hl rfl rfl (fun ls hl => ?_)
      refine x_aln jS dX6_take_101 rfl hl 3 rfl ?_
      refine x_aln jS dX6_take_102 rfl hl 3 rfl ?_
      refine x_get jS hK hP h_X6_take_X6 3 rfl rfl 3 rfl m_X6_take_6 rfl dX6_take_103 ?_
      refine x_put (ty0 := tyX6) (ws' := [(qs, .inl (cI, 17, .inl (aI (cpI now sp ((17 : Nat) : Int))))), (qr, .inl (cI, nr, .inl (aI row))), (q4, .inl (cI, 997, .inl (aI iv))), (h6, .inr (6, [.ref h4, .ref qn, .ref qs, .ref qs, .int (iI L), .int (iI fL), .int (iI f), .int (iI m)])), (qn, .inl (cI, 17, .inl (aI nw2))), (qo, .inl (cI, 17, .inl (aI fo))), (h4, .inr (4, [.ref q4, .int (iI P)]))]) jS hK hP hD hS h_X6_take_X6 tyX6_ok nmX6 3 rfl rfl 2 rfl m_X6_take_11 rfl rfl rfl rfl dX6_take_106 rfl (fun jH jL hP hD hS => ?_)
      refine x_aln jS dX6_take_109 rfl hl 3 rfl ?_
      refine x_al jS dX6_take_110 hl 0 rfl ?_
      refine x_put (ty0 := tyX6) (ws' := [(qs, .inl (cI, 17, .inl (aI (cpI now sp ((17 : Nat) : Int))))), (qr, .inl (cI, nr, .inl (aI row))), (q4, .inl (cI, 997, .inl (aI iv))), (h6, .inr (6, [.ref h4, .ref qn, .ref qs, .ref qo, .int (iI L), .int (iI fL), .int (iI f), .int (iI m)])), (qn, .inl (cI, 17, .inl (aI nw2))), (qo, .inl (cI, 17, .inl (aI fo))), (h4, .inr (4, [.ref q4, .int (iI P)]))]) jS hK hP hD hS h_X6_take_X6 tyX6_ok nmX6 3 rfl rfl 3 rfl m_X6_take_6 rfl rfl rfl rfl dX6_take_112 rfl (fun jH jL hP hD hS => ?_)
      refine x_aln jS dX6_take_115 rfl hl 3 rfl ?_
      refine x_aln jS dX6_take_116 rfl hl 3 rfl ?_
      refine x_get jS hK hP h_X6_take_X6 3 rfl rfl 4 rfl m_X6_take_4 rfl dX6_take_117 ?_
      refine x_put (ty0 := tyX6) (ws' := [(qs, .inl (cI, 17, .inl (aI (cpI now sp ((17 : Nat) : Int))))), (qr, .inl (cI, nr, .inl (aI row))), (q4, .inl (cI, 997, .inl (aI iv))), (h6, .inr (6, [.ref h4, .ref qn, .ref qs, .ref qo, .int (iI L), .int (iI L), .int (iI f), .int (iI m)])), (qn, .inl (cI, 17, .inl (aI nw2))), (qo, .inl (cI, 17, .inl (aI fo))), (h4, .inr (4, [.ref q4, .int (iI P)]))]) jS hK hP hD hS h_X6_take_X6 tyX6_ok nmX6 3 rfl rfl 5 rfl m_X6_take_12 rfl rfl rfl rfl dX6_take_120 rfl (fun jH jL hP hD hS => ?_)
      refine x_aln jS dX6_take_123 rfl hl 3 rfl ?_
      refine x_iln jS dX6_take_124 rfl hl 2 rfl ?_
      refine x_put (ty0 := tyX6) (ws' := [(qs, .inl (cI, 17, .inl (aI (cpI now sp ((17 : Nat) : Int))))), (qr, .inl (cI, nr, .inl (aI row))), (q4, .inl (cI, 997, .inl (aI iv))), (h6, .inr (6, [.ref h4, .ref qn, .ref qs, .ref qo, .int (iI L), .int (iI L), .int (iI er), .int (iI m)])), (qn, .inl (cI, 17, .inl (aI nw2))), (qo, .inl (cI, 17, .inl (aI fo))), (h4, .inr (4, [.ref q4, .int (iI P)]))]) jS hK hP hD hS h_X6_take_X6 tyX6_ok nmX6 3 rfl rfl 6 rfl m_X6_take_3 rfl rfl rfl rfl dX6_take_125 rfl (fun jH jL hP hD hS => ?_)
      refine x_aln jS dX6_take_128 rfl hl 3 rfl ?_
      refine x_ic jS dX6_take_129 ?_
      refine x_put (ty0 := tyX6) (ws' := [(qs, .inl (cI, 17, .inl (aI (cpI now sp ((17 : Nat) : Int))))), (qr, .inl (cI, nr, .inl (aI row))), (q4, .inl (cI, 997, .inl (aI iv))), (h6, .inr (6, [.ref h4, .ref qn, .ref qs, .ref qo, .int (iI L), .int (iI L), .int (iI er), .int (iI 1)])), (qn, .inl (cI, 17, .inl (aI nw2))), (qo, .inl (cI, 17, .inl (aI fo))), (h4, .inr (4, [.ref q4, .int (iI P)]))]) jS hK hP hD hS h_X6_take_X6 tyX6_ok nmX6 3 rfl rfl 7 rfl m_X6_take_1 rfl rfl rfl rfl dX6_take_130 rfl (fun jH jL hP hD hS => ?_)
      refine x_aln jS dX6_take_133 rfl hl 3 rfl ?_
      refine x_iln jS dX6_take_134 rfl hl 5 rfl ?_
      refine x_ic jS dX6_take_135 ?_
      refine x_iadd jS dX6_take_136 ?_
      refine x_aln jS dX6_take_137 rfl hl 3 rfl ?_
      refine x_get jS hK hP h_X6_take_X6 3 rfl rfl 4 rfl m_X6_take_4 rfl dX6_take_138 ?_
      refine x_isub jS dX6_take_141 ?_
      refine x_put (ty0 := tyX6) (ws' := [(qs, .inl (cI, 17, .inl (aI (cpI now sp ((17 : Nat) : Int))))), (qr, .inl (cI, nr, .inl (aI row))), (q4, .inl (cI, 997, .inl (aI iv))), (h6, .inr (6, [.ref h4, .ref qn, .ref qs, .ref qo, .int (iI ((n + 1) - L)), .int (iI L), .int (iI er), .int (iI 1)])), (qn, .inl (cI, 17, .inl (aI nw2))), (qo, .inl (cI, 17, .inl (aI fo))), (h4, .inr (4, [.ref q4, .int (iI P)]))]) jS hK hP hD hS h_X6_take_X6 tyX6_ok nmX6 3 rfl rfl 4 rfl m_X6_take_4 rfl rfl rfl rfl dX6_take_142 rfl (fun jH jL hP hD hS => ?_)
      exact x_vretW jS jr jk jq dX6_take_145 ⟨qs, qo, nw2, (cpI now sp ((17 : Nat) : Int)), fo, ((n + 1) - L), L, er, 1⟩ (hP.sub [3, 4, 0, 5, 1, 6, 2] rfl) (hD.sub [3, 4, 0, 5, 1, 6, 2] (by decide) rfl) hS (show rgR (n + 1) (bmS P row n (sC, sF, L, f, m)) nw2 (cpI now sp ((17 : Nat) : Int)) ((n + 1) - L) L er 1 from by have e0 : bmE P row n (sC, sF, L, f, m) ≠ 0 := fun q => hc8 (her.trans q); rw [bmS_1 e0 (by dsimp only; omega), ← her]; exact ⟨rfl, rfl, rfl, by omega, fun j x y => ⟨by rw [add_rel hI hfL (by omega) hj hw2 j x y, hfa1]; rfl, by unfold cpI; rw [if_pos (by omega)]; exact (hj j x y).1⟩⟩)
    · skip
      refine x_aln jS dX6_take_54 rfl hl 2 rfl ?_
      refine x_il jS dX6_take_55 hl 0 rfl ?_
      refine x_aV (wc := [(h6, .inr (6, [.ref h4, .ref qn, .ref qo, .ref qs, .int (iI L), .int (iI fL), .int (iI f), .int (iI m)])), (qn, .inl (cI, 17, .inl (aI now))), (qo, .inl (cI, 17, .inl (aI fo))), (h4, .inr (4, [.ref q4, .int (iI P)]))]) (wr := [(qs, .inl (cI, 17, .inl (aI sp))), (qr, .inl (cI, nr, .inl (aI row))), (q4, .inl (cI, 997, .inl (aI iv)))]) hP hD hS hA [0, 1, 2, 5] [3, 4, 6] rfl rfl (by decide) (by decide) (cs := 0) (ss := 0) rfl rfl (x_rnV (As := [.int (iI fa)]) (rest := []) jS hl.1 hK (c_X6_addFormer jl D cI h6 qn qo qs h4 q4 P L fL f m fa now fo _ (by first | assumption | omega) (by first | assumption | omega) (by first | assumption | omega) (by first | assumption | omega) (by first | assumption | omega)) hP hD [0, 1, 2, 5] rfl rfl (by decide) 0 rfl rfl gX6_take_X6_addFormer rfl rfl rfl kf_X6_addFormer rfl rfl rfl rfl rfl dX6_take_57 rfl rfl) (fun u jH jL hw hP hD hS => ?_)
      obtain ⟨nw2, rfl⟩ : ∃ z, z = u := ⟨_, rfl⟩
      have hw2 : ∀ j : Int, 0 ≤ j → j ≤ 16 → nw2 j = if m ≤ j ∧ j ≤ m + fL then (now j + fa * fo (j - m)) % P else now j := hw
      clear hw
      have hP : va_P D vwCl [(qs, .inl (cI, 17, .inl (aI sp))), (qr, .inl (cI, nr, .inl (aI row))), (q4, .inl (cI, 997, .inl (aI iv))), (h6, .inr (6, [.ref h4, .ref qn, .ref qo, .ref qs, .int (iI L), .int (iI fL), .int (iI f), .int (iI m)])), (qn, .inl (cI, 17, .inl (aI nw2))), (qo, .inl (cI, 17, .inl (aI fo))), (h4, .inr (4, [.ref q4, .int (iI P)]))] jH := hP
      have hD : va_D jA [(qs, .inl (cI, 17, .inl (aI sp))), (qr, .inl (cI, nr, .inl (aI row))), (q4, .inl (cI, 997, .inl (aI iv))), (h6, .inr (6, [.ref h4, .ref qn, .ref qo, .ref qs, .int (iI L), .int (iI fL), .int (iI f), .int (iI m)])), (qn, .inl (cI, 17, .inl (aI nw2))), (qo, .inl (cI, 17, .inl (aI fo))), (h4, .inr (4, [.ref q4, .int (iI P)]))] := hD
      refine x_aln jS dX6_take_60 rfl hl 2 rfl ?_
      refine x_dup jS dX6_take_61 rfl ?_
      refine x_get jS hK hP h_X6_take_X6 3 rfl rfl 7 rfl m_X6_take_1 rfl dX6_take_62 ?_
      refine x_ic jS dX6_take_65 ?_
      refine x_iadd jS dX6_take_66 ?_
      refine x_put (ty0 := tyX6) (ws' := [(qs, .inl (cI, 17, .inl (aI sp))), (qr, .inl (cI, nr, .inl (aI row))), (q4, .inl (cI, 997, .inl (aI iv))), (h6, .inr (6, [.ref h4, .ref qn, .ref qo, .ref qs, .int (iI L), .int (iI fL), .int (iI f), .int (iI (m + 1))])), (qn, .inl (cI, 17, .inl (aI nw2))), (qo, .inl (cI, 17, .inl (aI fo))), (h4, .inr (4, [.ref q4, .int (iI P)]))]) jS hK hP hD hS h_X6_take_X6 tyX6_ok nmX6 3 rfl rfl 7 rfl m_X6_take_1 rfl rfl rfl rfl dX6_take_67 rfl (fun jH jL hP hD hS => ?_)
      exact x_vretW jS jr jk jq dX6_take_70 ⟨qo, qs, nw2, fo, sp, L, fL, f, (m + 1)⟩ (hP.sub [3, 4, 5, 0, 1, 6, 2] rfl) (hD.sub [3, 4, 5, 0, 1, 6, 2] (by decide) rfl) hS (show rgR (n + 1) (bmS P row n (sC, sF, L, f, m)) nw2 fo L fL f (m + 1) from by have e0 : bmE P row n (sC, sF, L, f, m) ≠ 0 := fun q => hc8 (her.trans q); rw [bmS_2 e0 (by dsimp only; omega), ← her]; exact ⟨rfl, rfl, rfl, by omega, fun j x y => ⟨by rw [add_rel hI hfL (by omega) hj hw2 j x y, hfa1]; rfl, (hj j x y).2⟩⟩)
  · skip
    refine x_aln jS dX6_take_11 rfl hl 1 rfl ?_
    refine x_dup jS dX6_take_12 rfl ?_
    refine x_get jS hK hP h_X6_take_X6 0 rfl rfl 7 rfl m_X6_take_1 rfl dX6_take_13 ?_
    refine x_ic jS dX6_take_16 ?_
    refine x_iadd jS dX6_take_17 ?_
    refine x_put (ty0 := tyX6) (ws' := [(h6, .inr (6, [.ref h4, .ref qn, .ref qo, .ref qs, .int (iI L), .int (iI fL), .int (iI f), .int (iI (m + 1))])), (qn, .inl (cI, 17, .inl (aI now))), (qo, .inl (cI, 17, .inl (aI fo))), (qs, .inl (cI, 17, .inl (aI sp))), (qr, .inl (cI, nr, .inl (aI row))), (h4, .inr (4, [.ref q4, .int (iI P)])), (q4, .inl (cI, 997, .inl (aI iv)))]) jS hK hP hD hS h_X6_take_X6 tyX6_ok nmX6 0 rfl rfl 7 rfl m_X6_take_1 rfl rfl rfl rfl dX6_take_18 rfl (fun jH jL hP hD hS => ?_)
    exact x_vretW jS jr jk jq dX6_take_21 ⟨qo, qs, now, fo, sp, L, fL, f, (m + 1)⟩ hP hD hS (show rgR (n + 1) (bmS P row n (sC, sF, L, f, m)) now fo L fL f (m + 1) from by have e0 : bmE P row n (sC, sF, L, f, m) = 0 := her.symm.trans hc8; rw [bmS_0 e0]; exact ⟨rfl, rfl, rfl, by omega, hj⟩)
theorem kf_X6_begin : kfV yX6_begin RX6 0 := by decide +kernel
theorem kf_X6_take : kfV yX6_take RX6 2 := by decide +kernel
abbrev rm_X6_read : Room := { frames := 2, cells := 0, slots := 0, locals := 85 }
set_option maxHeartbeats 4000000 in
set_option maxRecDepth 100000 in
theorem c_X6_read (jl : Launch) (D : va_G) (cI : ClassId) (h6 qn qo qs h4 q4 : Nat) (qr nr : Nat) (P L fL f m n : Int) (now fo sp iv row : Int → Int) (sz : Nat) (hP5 : 5 ≤ P ∧ P ≤ 997) (htb : tbF P iv) (hnr : nr ≤ 16) (hn : 0 ≤ n ∧ n ≤ nr) (hrow : ∀ j : Int, 0 ≤ j → j < n → 0 ≤ row j ∧ row j < P) : Met jl yX6_read wsX6_read rm_X6_read (xPw [.ref h6, .ref qr, .int (iI n)] D cI [(h6, .inr (6, [.ref h4, .ref qn, .ref qo, .ref qs, .int (iI L), .int (iI fL), .int (iI f), .int (iI m)])), (qn, .inl (cI, 17, .inl (aI now))), (qo, .inl (cI, 17, .inl (aI fo))), (qs, .inl (cI, 17, .inl (aI sp))), (qr, .inl (cI, nr, .inl (aI row))), (h4, .inr (4, [.ref q4, .int (iI P)])), (q4, .inl (cI, 997, .inl (aI iv)))] sz) (va_Qv (fun (u : Nat × Nat × (Int → Int) × (Int → Int) × (Int → Int) × Int × Int × Int × Int) => rgR n (bm P row n.toNat) u.2.2.1 u.2.2.2.1 u.2.2.2.2.2.1 u.2.2.2.2.2.2.1 u.2.2.2.2.2.2.2.1 u.2.2.2.2.2.2.2.2) (xB D (fun (u : Nat × Nat × (Int → Int) × (Int → Int) × (Int → Int) × Int × Int × Int × Int) => [(h6, .inr (6, [.ref h4, .ref qn, .ref u.1, .ref u.2.1, .int (iI u.2.2.2.2.2.1), .int (iI u.2.2.2.2.2.2.1), .int (iI u.2.2.2.2.2.2.2.1), .int (iI u.2.2.2.2.2.2.2.2)])), (qn, .inl (cI, 17, .inl (aI u.2.2.1))), (u.1, .inl (cI, 17, .inl (aI u.2.2.2.1))), (u.2.1, .inl (cI, 17, .inl (aI u.2.2.2.2.1))), (qr, .inl (cI, nr, .inl (aI row))), (h4, .inr (4, [.ref q4, .int (iI P)])), (q4, .inl (cI, 997, .inl (aI iv)))]) (va_A [(h6, .inr (6, [.ref h4, .ref qn, .ref qo, .ref qs, .int (iI L), .int (iI fL), .int (iI f), .int (iI m)])), (qn, .inl (cI, 17, .inl (aI now))), (qo, .inl (cI, 17, .inl (aI fo))), (qs, .inl (cI, 17, .inl (aI sp))), (qr, .inl (cI, nr, .inl (aI row))), (h4, .inr (4, [.ref q4, .int (iI P)])), (q4, .inl (cI, 997, .inl (aI iv)))] sz)) (va_A [(h6, .inr (6, [.ref h4, .ref qn, .ref qo, .ref qs, .int (iI L), .int (iI fL), .int (iI f), .int (iI m)])), (qn, .inl (cI, 17, .inl (aI now))), (qo, .inl (cI, 17, .inl (aI fo))), (qs, .inl (cI, 17, .inl (aI sp))), (qr, .inl (cI, nr, .inl (aI row))), (h4, .inr (4, [.ref q4, .int (iI P)])), (q4, .inl (cI, 997, .inl (aI iv)))] sz)) 0 0 (va_A [(h6, .inr (6, [.ref h4, .ref qn, .ref qo, .ref qs, .int (iI L), .int (iI fL), .int (iI f), .int (iI m)])), (qn, .inl (cI, 17, .inl (aI now))), (qo, .inl (cI, 17, .inl (aI fo))), (qs, .inl (cI, 17, .inl (aI sp))), (qr, .inl (cI, nr, .inl (aI row))), (h4, .inr (4, [.ref q4, .int (iI P)])), (q4, .inl (cI, 997, .inl (aI iv)))] sz) := by
  refine x_metW (own := RX6) (cc := cX6_read) (maxL := 4) (ret := none) (Qc := fun jA => va_Qv (fun (u : Nat × Nat × (Int → Int) × (Int → Int) × (Int → Int) × Int × Int × Int × Int) => rgR n (bm P row n.toNat) u.2.2.1 u.2.2.2.1 u.2.2.2.2.2.1 u.2.2.2.2.2.2.1 u.2.2.2.2.2.2.2.1 u.2.2.2.2.2.2.2.2) (xB D (fun (u : Nat × Nat × (Int → Int) × (Int → Int) × (Int → Int) × Int × Int × Int × Int) => [(h6, .inr (6, [.ref h4, .ref qn, .ref u.1, .ref u.2.1, .int (iI u.2.2.2.2.2.1), .int (iI u.2.2.2.2.2.2.1), .int (iI u.2.2.2.2.2.2.2.1), .int (iI u.2.2.2.2.2.2.2.2)])), (qn, .inl (cI, 17, .inl (aI u.2.2.1))), (u.1, .inl (cI, 17, .inl (aI u.2.2.2.1))), (u.2.1, .inl (cI, 17, .inl (aI u.2.2.2.2.1))), (qr, .inl (cI, nr, .inl (aI row))), (h4, .inr (4, [.ref q4, .int (iI P)])), (q4, .inl (cI, 997, .inl (aI iv)))]) jA) jA) (by decide) rfl rfl rfl ?_
  intro jp je js jm ja jb jt jc jA jQ jS jr jk jn jq hK hP hD hA hS ls hl
  have hl : lv_has ls 4 [(0, .ref h6), (1, .ref qr), (2, .int (iI n))] := hl
  refine x_aln jS dX6_read_0 rfl hl 0 rfl ?_
  refine x_aV (wc := [(h6, .inr (6, [.ref h4, .ref qn, .ref qo, .ref qs, .int (iI L), .int (iI fL), .int (iI f), .int (iI m)])), (qn, .inl (cI, 17, .inl (aI now))), (qo, .inl (cI, 17, .inl (aI fo)))]) (wr := [(qs, .inl (cI, 17, .inl (aI sp))), (qr, .inl (cI, nr, .inl (aI row))), (h4, .inr (4, [.ref q4, .int (iI P)])), (q4, .inl (cI, 997, .inl (aI iv)))]) hP hD hS hA [0, 1, 2] [3, 4, 5, 6] rfl rfl (by decide) (by decide) (cs := 0) (ss := 0) rfl rfl (x_rnV (As := []) (rest := []) jS hl.1 hK (c_X6_begin jl D cI h6 qn qo qs h4 L fL f m now fo _ ) hP hD [0, 1, 2] rfl rfl (by decide) 0 rfl rfl gX6_read_X6_begin rfl rfl rfl kf_X6_begin rfl rfl rfl rfl rfl dX6_read_1 rfl rfl) (fun u jH jL hw hP hD hS => ?_)
  obtain ⟨now2_1, fo2_2⟩ := u
  have hw1 : rgR 0 bm0 now2_1 fo2_2 0 0 1 1 := hw
  clear hw
  have hP : va_P D vwCl [(qs, .inl (cI, 17, .inl (aI sp))), (qr, .inl (cI, nr, .inl (aI row))), (h4, .inr (4, [.ref q4, .int (iI P)])), (q4, .inl (cI, 997, .inl (aI iv))), (h6, .inr (6, [.ref h4, .ref qn, .ref qo, .ref qs, .int (iI 0), .int (iI 0), .int (iI 1), .int (iI 1)])), (qn, .inl (cI, 17, .inl (aI now2_1))), (qo, .inl (cI, 17, .inl (aI fo2_2)))] jH := hP
  have hD : va_D jA [(qs, .inl (cI, 17, .inl (aI sp))), (qr, .inl (cI, nr, .inl (aI row))), (h4, .inr (4, [.ref q4, .int (iI P)])), (q4, .inl (cI, 997, .inl (aI iv))), (h6, .inr (6, [.ref h4, .ref qn, .ref qo, .ref qs, .int (iI 0), .int (iI 0), .int (iI 1), .int (iI 1)])), (qn, .inl (cI, 17, .inl (aI now2_1))), (qo, .inl (cI, 17, .inl (aI fo2_2)))] := hD
  refine x_ic jS dX6_read_4 ?_
  refine x_isn (lv' := [(3, .int (iI 0)), (0, .ref h6), (1, .ref qr), (2, .int (iI n))]) jS dX6_read_5 rfl hl rfl rfl (fun ls hl => ?_)
  have loop_6 : ∀ (mm : Nat) (i : Int) (qo1 : Nat) (qs1 : Nat) (now1 : Int → Int) (fo1 : Int → Int) (sp1 : Int → Int) (L1 : Int) (fL1 : Int) (f1 : Int) (m1 : Int) (jH : Heap) (jL : List Loc), (n - i).toNat = mm → (0 ≤ i ∧ i ≤ n) → (rgR i (bm P row i.toNat) now1 fo1 L1 fL1 f1 m1) → va_P D vwCl [(qs1, .inl (cI, 17, .inl (aI sp1))), (qr, .inl (cI, nr, .inl (aI row))), (h4, .inr (4, [.ref q4, .int (iI P)])), (q4, .inl (cI, 997, .inl (aI iv))), (h6, .inr (6, [.ref h4, .ref qn, .ref qo1, .ref qs1, .int (iI L1), .int (iI fL1), .int (iI f1), .int (iI m1)])), (qn, .inl (cI, 17, .inl (aI now1))), (qo1, .inl (cI, 17, .inl (aI fo1)))] jH → va_D jA [(qs1, .inl (cI, 17, .inl (aI sp1))), (qr, .inl (cI, nr, .inl (aI row))), (h4, .inr (4, [.ref q4, .int (iI P)])), (q4, .inl (cI, 997, .inl (aI iv))), (h6, .inr (6, [.ref h4, .ref qn, .ref qo1, .ref qs1, .int (iI L1), .int (iI fL1), .int (iI f1), .int (iI m1)])), (qn, .inl (cI, 17, .inl (aI now1))), (qo1, .inl (cI, 17, .inl (aI fo1)))] → va_S jA js.heap jH jL → ∀ ls : Array Slot, lv_has ls 4 [(3, .int (iI i)), (0, .ref h6), (1, .ref qr), (2, .int (iI n))] → W jp jl je rm_X6_read js jm ja jb jt jc jH jL 0 0 jQ (F0 jm 6 ls []) := by
    intro mm
    induction mm using Nat.strongRecOn with
    | ind mm ih6 =>
      intro i qo1 qs1 now1 fo1 sp1 L1 fL1 f1 m1 jH jL hmm6 hi hR hP hD hS ls hl
      refine x_iln jS dX6_read_6 rfl hl 0 rfl ?_
      refine x_iln jS dX6_read_7 rfl hl 3 rfl ?_
      refine x_cmpge jS 29 dX6_read_8 (by decide) (by omega) (fun hc8 => ?_) (fun hc8 => ?_)
      · skip
        exact x_vretW jS jr jk jq dX6_read_29 ⟨qo1, qs1, now1, fo1, sp1, L1, fL1, f1, m1⟩ (hP.sub [4, 5, 6, 0, 1, 2, 3] rfl) (hD.sub [4, 5, 6, 0, 1, 2, 3] (by decide) rfl) hS (show rgR n (bm P row n.toNat) now1 fo1 L1 fL1 f1 m1 from by rw [show n = i by omega]; exact hR)
      · skip
        refine x_iln jS dX6_read_11 rfl hl 0 rfl ?_
        refine x_aln jS dX6_read_12 rfl hl 2 rfl ?_
        refine x_alen jS hK hP 1 rfl dX6_read_13 ?_
        refine x_cmpge jS 29 dX6_read_14 (by decide) (by omega) (fun hc14 => ?_) (fun hc14 => ?_)
        · exfalso; omega
        refine x_aln jS dX6_read_17 rfl hl 1 rfl ?_
        refine x_aln jS dX6_read_18 rfl hl 2 rfl ?_
        refine x_iln jS dX6_read_19 rfl hl 0 rfl ?_
        refine x_aV (wc := [(h6, .inr (6, [.ref h4, .ref qn, .ref qo1, .ref qs1, .int (iI L1), .int (iI fL1), .int (iI f1), .int (iI m1)])), (qn, .inl (cI, 17, .inl (aI now1))), (qo1, .inl (cI, 17, .inl (aI fo1))), (qs1, .inl (cI, 17, .inl (aI sp1))), (qr, .inl (cI, nr, .inl (aI row))), (h4, .inr (4, [.ref q4, .int (iI P)])), (q4, .inl (cI, 997, .inl (aI iv)))]) (wr := []) hP hD hS hA [4, 5, 6, 0, 1, 2, 3] [] rfl rfl (by decide) (by decide) (cs := 0) (ss := 0) rfl rfl (x_rnV (As := [.ref qr, .int (iI i)]) (rest := []) jS hl.1 hK (c_X6_take jl D cI h6 qn qo1 qs1 h4 q4 qr nr P L1 fL1 f1 m1 i now1 fo1 sp1 iv row (bm P row i.toNat) _ (by first | assumption | omega) (by first | assumption | omega) (by first | assumption | omega) (by first | assumption | omega) (fun j x y => hrow j x (by omega)) (by have := bmI_n (show 2 ≤ P by omega) row i.toNat; rw [Int.toNat_of_nonneg hi.1] at this; exact this) (by first | assumption | omega)) hP hD [4, 5, 6, 0, 1, 2, 3] rfl rfl (by decide) 0 rfl rfl gX6_read_X6_take rfl rfl rfl kf_X6_take rfl rfl rfl rfl rfl dX6_read_20 rfl rfl) (fun u jH jL hw hP hD hS => ?_)
        obtain ⟨qo2_3, qs2_4, now2_5, fo3, sp3, L2_6, fL2_7, f2_8, m2_9⟩ := u
        have hw20 : rgR (i + 1) (bmS P row i (bm P row i.toNat)) now2_5 fo3 L2_6 fL2_7 f2_8 m2_9 := hw
        clear hw
        have hP : va_P D vwCl [(h6, .inr (6, [.ref h4, .ref qn, .ref qo2_3, .ref qs2_4, .int (iI L2_6), .int (iI fL2_7), .int (iI f2_8), .int (iI m2_9)])), (qn, .inl (cI, 17, .inl (aI now2_5))), (qo2_3, .inl (cI, 17, .inl (aI fo3))), (qs2_4, .inl (cI, 17, .inl (aI sp3))), (qr, .inl (cI, nr, .inl (aI row))), (h4, .inr (4, [.ref q4, .int (iI P)])), (q4, .inl (cI, 997, .inl (aI iv)))] jH := hP
        have hD : va_D jA [(h6, .inr (6, [.ref h4, .ref qn, .ref qo2_3, .ref qs2_4, .int (iI L2_6), .int (iI fL2_7), .int (iI f2_8), .int (iI m2_9)])), (qn, .inl (cI, 17, .inl (aI now2_5))), (qo2_3, .inl (cI, 17, .inl (aI fo3))), (qs2_4, .inl (cI, 17, .inl (aI sp3))), (qr, .inl (cI, nr, .inl (aI row))), (h4, .inr (4, [.ref q4, .int (iI P)])), (q4, .inl (cI, 997, .inl (aI iv)))] := hD
        refine x_iinc (lv' := [(3, .int (iI (i + 1))), (0, .ref h6), (1, .ref qr), (2, .int (iI n))]) jS dX6_read_23 hl 0 rfl rfl rfl (fun ls hl => ?_)
        refine x_goto jS 6 dX6_read_26 (by decide) ?_
        exact ih6 _ (by omega) (i + 1) qo2_3 qs2_4 now2_5 fo3 sp3 L2_6 fL2_7 f2_8 m2_9 _ _ rfl (by omega) (by rw [show (i + 1).toNat = i.toNat + 1 by omega]; show rgR _ (bmS P row (i.toNat : Int) (bm P row i.toNat)) _ _ _ _ _ _; rw [Int.toNat_of_nonneg hi.1]; exact hw20) (hP.sub [3, 4, 5, 6, 0, 1, 2] rfl) (hD.sub [3, 4, 5, 6, 0, 1, 2] (by decide) rfl) hS ls (lv_sub hl [0, 1, 2, 3] rfl)
  exact loop_6 _ 0 qo qs now2_1 fo2_2 sp 0 0 1 1 _ _ rfl (by omega) (hw1) hP hD hS ls (lv_sub hl [0, 1, 2, 3] rfl)
end
section
/-! what a register tells far on: sums against a row that keeps to the register -/
theorem cg_add {P a b c d : Int} (h1 : a % P = b % P) (h2 : c % P = d % P) : (a + c) % P = (b + d) % P := by rw [Int.add_emod, h1, h2, ← Int.add_emod]
theorem cg_sub {P a b c d : Int} (h1 : a % P = b % P) (h2 : c % P = d % P) : (a - c) % P = (b - d) % P := by rw [Int.sub_emod, h1, h2, ← Int.sub_emod]
theorem cg_mul {P a b c d : Int} (h1 : a % P = b % P) (h2 : c % P = d % P) : (a * c) % P = (b * d) % P := by rw [Int.mul_emod, h1, h2, ← Int.mul_emod]
theorem cg_m (P a : Int) : a % P % P = a % P := Int.emod_emod a P
theorem smN_add (f g : Int → Int) : ∀ n : Nat, smN (fun i => f i + g i) n = smN f n + smN g n
  | 0 => rfl
  | n + 1 => by
    show smN (fun i => f i + g i) n + (f n + g n) = (smN f n + f n) + (smN g n + g n)
    rw [smN_add f g n]; omega
theorem sm_add (f g : Int → Int) (n : Int) : sm (fun i => f i + g i) n = sm f n + sm g n := smN_add f g _
theorem smN_mulc (c : Int) (f : Int → Int) : ∀ n : Nat, smN (fun i => c * f i) n = c * smN f n
  | 0 => (Int.mul_zero c).symm
  | n + 1 => by
    show smN (fun i => c * f i) n + c * f n = c * (smN f n + f n)
    rw [smN_mulc c f n, Int.mul_add]
theorem sm_mulc (c : Int) (f : Int → Int) (n : Int) : sm (fun i => c * f i) n = c * sm f n := smN_mulc c f _
theorem smN_cg {P : Int} {f g : Int → Int} : ∀ {n : Nat}, (∀ i : Int, 0 ≤ i → i < n → f i % P = g i % P) → smN f n % P = smN g n % P
  | 0, _ => rfl
  | n + 1, h => cg_add (smN_cg (fun i a b => h i a (by omega))) (h n (by omega) (by omega))
theorem sm_cg {P n : Int} {f g : Int → Int} (h : ∀ i : Int, 0 ≤ i → i < n → f i % P = g i % P) : sm f n % P = sm g n % P := smN_cg (fun i a b => h i a (by omega))
theorem smN_uI (f T : Int → Int) (k v : Int) : ∀ n : Nat, smN (fun q => uI f k v q * T q) n = smN (fun q => f q * T q) n + (if 0 ≤ k ∧ k < n then (v - f k) * T k else 0)
  | 0 => by rw [if_neg (by omega)]; rfl
  | n + 1 => by
    show smN (fun q => uI f k v q * T q) n + uI f k v n * T n = (smN (fun q => f q * T q) n + f n * T n) + _
    rw [smN_uI f T k v n]
    by_cases h : (n : Int) = k
    · rw [← h, uI_s, if_neg (by omega), if_pos (by omega), Int.sub_mul]; omega
    · rw [uI_n h]
      by_cases h2 : 0 ≤ k ∧ k < n
      · rw [if_pos h2, if_pos (by omega)]; omega
      · rw [if_neg h2, if_neg (by omega)]; omega
theorem sm_uI (f T : Int → Int) {k v n : Int} (h : 0 ≤ k ∧ k < n) : sm (fun q => uI f k v q * T q) n = sm (fun q => f q * T q) n + (v - f k) * T k := by
  unfold sm
  rw [smN_uI f T k v n.toNat, if_pos (by omega)]
theorem smN_zero : ∀ n : Nat, smN (fun _ => 0) n = 0
  | 0 => rfl
  | n + 1 => by show smN (fun _ => 0) n + 0 = 0; rw [smN_zero n]; rfl
theorem sm_zero {f : Int → Int} {n : Int} (h : ∀ i : Int, 0 ≤ i → i < n → f i = 0) : sm f n = 0 := (sm_congr h).trans (smN_zero _)
theorem smN_first (f : Int → Int) : ∀ n : Nat, smN f (n + 1) = f 0 + smN (fun i => f (i + 1)) n
  | 0 => by show (0 : Int) + f 0 = f 0 + 0; omega
  | n + 1 => by
    show smN f (n + 1) + f ((n + 1 : Nat) : Int) = f 0 + (smN (fun i => f (i + 1)) n + f ((n : Int) + 1))
    rw [smN_first f n, show ((n + 1 : Nat) : Int) = (n : Int) + 1 by omega]; omega
/-- the row goes on by the weights -/
def goesOn (P L : Int) (w S : Int → Int) : Prop := ∀ i : Int, L ≤ i → S i % P = sm (fun k => w (k + 1) * S (i - 1 - k)) L % P
def Rep (P L : Int) (S a : Int → Int) (n : Int) : Prop := ∀ t : Int, 0 ≤ t → sm (fun i => a i * S (t + i)) L % P = S (t + n) % P
theorem rep_sq {P L n bit : Int} {S a : Int → Int} (h : Rep P L S a n) (hn : 0 ≤ n) (hb : 0 ≤ bit) {t : Int} (ht : 0 ≤ t) : sm (fun i => sm (fun j => a i * a j * S (t + (i + j + bit))) L) L % P = S (t + (2 * n + bit)) % P := by
  have e1 : sm (fun i => sm (fun j => a i * a j * S (t + (i + j + bit))) L) L % P = sm (fun i => a i * S (t + bit + n + i)) L % P := by
    refine sm_cg (fun i h0 h1 => ?_)
    have e2 : sm (fun j => a i * a j * S (t + (i + j + bit))) L = a i * sm (fun j => a j * S (t + bit + i + j)) L := by
      rw [← sm_mulc]
      exact sm_congr (fun j _ _ => by rw [Int.mul_assoc, show t + (i + j + bit) = t + bit + i + j by omega])
    rw [e2]
    refine cg_mul rfl ?_
    rw [h (t + bit + i) (by omega), show t + bit + i + n = t + bit + n + i by omega]
  rw [e1, h (t + bit + n) (by omega), show t + bit + n + n = t + (2 * n + bit) by omega]
theorem half_step (n b : Int) (hb : 0 ≤ b) : n / 2 ^ b.toNat = 2 * (n / 2 ^ (b + 1).toNat) + n / 2 ^ b.toNat % 2 := by
  have e : n / 2 ^ (b + 1).toNat = n / 2 ^ b.toNat / 2 := by
    rw [show (b + 1).toNat = b.toNat + 1 by omega, Int.pow_succ, ← Int.ediv_ediv_of_nonneg]
    exact Int.pow_nonneg (by omega)
  rw [e]
  omega
theorem rep_1 {P L : Int} {S a : Int → Int} (h : ∀ j : Int, 0 ≤ j → j < 16 → a j = 0) (hL : 1 ≤ L ∧ L ≤ 16) : Rep P L S (uI a 0 1) 0 := by
  intro t ht
  have e : sm (fun i => uI a 0 1 i * S (t + i)) L = S (t + 0) := by
    rw [sm_uI a (fun i => S (t + i)) (by omega), h 0 (by omega) (by omega), sm_zero (fun i x y => by rw [h i x (by omega), Int.zero_mul])]
    omega
  rw [e]
theorem far_step {P L i k : Int} {w S pr1 : Int → Int} (hgo : goesOn P L w S) {t : Int} (ht : L ≤ t + i) (hi : 0 ≤ i) (hm : pr1 i % P % P = pr1 i % P) (hk : 1 ≤ k ∧ k ≤ L + 1) (hs : k = L + 1 ∨ pr1 i % P = 0) : (sm (fun q => pr1 q * S (t + q)) i + pr1 i % P * sm (fun u => w (u + 1) * (fun q => S (t + q)) (i - 1 - u)) (k - 1)) % P = (sm (fun q => pr1 q * S (t + q)) i + pr1 i * S (t + i)) % P := by
  refine cg_add rfl ?_
  rcases hs with q | q
  · rw [q, show L + 1 - 1 = L by omega]
    refine cg_mul hm ?_
    rw [hgo (t + i) ht]
    congr 1
    exact sm_congr (fun u x y => by dsimp only; rw [show t + (i - 1 - u) = t + i - 1 - u by omega])
  · rw [q, Int.zero_mul, Int.mul_emod, q, Int.zero_mul]
end
section
/-! Onward -/
theorem h_X3_takeWeights_X6 : ∀ w ∈ u_ws RX6 TX6 8, w ∈ wsX3_takeWeights := fun w h => List.mem_cons_of_mem _ (List.mem_append_left _ (List.mem_append_left _ (List.mem_append_right _ h)))
theorem h_X3_takeWeights_X3 : ∀ w ∈ u_ws RX3 TX3 5, w ∈ wsX3_takeWeights := fun w h => List.mem_cons_of_mem _ (List.mem_append_left _ (List.mem_append_right _ h))
theorem m_X3_takeWeights_1 : Cond.fieldLink RX3 21 "SealedBox$Onward" "length" "I" ∈ wsX3_takeWeights := List.mem_of_getElem? (i := 1) rfl
theorem m_X3_takeWeights_2 : Cond.fieldLink RX3 9 "SealedBox$Onward" "weights" "[I" ∈ wsX3_takeWeights := List.mem_of_getElem? (i := 2) rfl
theorem kf_X6_weight : kfV yX6_weight RX6 1 := by decide +kernel
abbrev rm_X3_takeWeights : Room := { frames := 2, cells := 0, slots := 0, locals := 43 }
set_option maxHeartbeats 4000000 in
set_option maxRecDepth 100000 in
theorem c_X3_takeWeights (jl : Launch) (D : va_G) (cI : ClassId) (o3 qw qt qd h6 qn qo qs h4 q4 : Nat) (P L0 L fL f m : Int) (w now : Int → Int) (sz : Nat) (hP5 : 5 ≤ P ∧ P ≤ 997) (hL : 1 ≤ L ∧ L ≤ 16) (hnow : ∀ j : Int, 0 ≤ j → j ≤ 16 → 0 ≤ now j ∧ now j < P) : Met jl yX3_takeWeights wsX3_takeWeights rm_X3_takeWeights (xPw [.ref o3, .ref h6] D cI [(o3, .inr (3, [.ref h4, .ref qw, .ref qt, .ref qd, .int (iI L0)])), (qw, .inl (cI, 17, .inl (aI w))), (h6, .inr (6, [.ref h4, .ref qn, .ref qo, .ref qs, .int (iI L), .int (iI fL), .int (iI f), .int (iI m)])), (qn, .inl (cI, 17, .inl (aI now))), (h4, .inr (4, [.ref q4, .int (iI P)]))] sz) (va_Qv (fun (u : (Int → Int)) => ∀ j : Int, 1 ≤ j → j ≤ L → u j = (0 + P - now j) % P) (xB D (fun (u : (Int → Int)) => [(o3, .inr (3, [.ref h4, .ref qw, .ref qt, .ref qd, .int (iI L)])), (qw, .inl (cI, 17, .inl (aI u))), (h6, .inr (6, [.ref h4, .ref qn, .ref qo, .ref qs, .int (iI L), .int (iI fL), .int (iI f), .int (iI m)])), (qn, .inl (cI, 17, .inl (aI now))), (h4, .inr (4, [.ref q4, .int (iI P)]))]) (va_A [(o3, .inr (3, [.ref h4, .ref qw, .ref qt, .ref qd, .int (iI L0)])), (qw, .inl (cI, 17, .inl (aI w))), (h6, .inr (6, [.ref h4, .ref qn, .ref qo, .ref qs, .int (iI L), .int (iI fL), .int (iI f), .int (iI m)])), (qn, .inl (cI, 17, .inl (aI now))), (h4, .inr (4, [.ref q4, .int (iI P)]))] sz)) (va_A [(o3, .inr (3, [.ref h4, .ref qw, .ref qt, .ref qd, .int (iI L0)])), (qw, .inl (cI, 17, .inl (aI w))), (h6, .inr (6, [.ref h4, .ref qn, .ref qo, .ref qs, .int (iI L), .int (iI fL), .int (iI f), .int (iI m)])), (qn, .inl (cI, 17, .inl (aI now))), (h4, .inr (4, [.ref q4, .int (iI P)]))] sz)) 0 0 (va_A [(o3, .inr (3, [.ref h4, .ref qw, .ref qt, .ref qd, .int (iI L0)])), (qw, .inl (cI, 17, .inl (aI w))), (h6, .inr (6, [.ref h4, .ref qn, .ref qo, .ref qs, .int (iI L), .int (iI fL), .int (iI f), .int (iI m)])), (qn, .inl (cI, 17, .inl (aI now))), (h4, .inr (4, [.ref q4, .int (iI P)]))] sz) := by
  refine x_metW (own := RX3) (cc := cX3_takeWeights) (maxL := 3) (ret := none) (Qc := fun jA => va_Qv (fun (u : (Int → Int)) => ∀ j : Int, 1 ≤ j → j ≤ L → u j = (0 + P - now j) % P) (xB D (fun (u : (Int → Int)) => [(o3, .inr (3, [.ref h4, .ref qw, .ref qt, .ref qd, .int (iI L)])), (qw, .inl (cI, 17, .inl (aI u))), (h6, .inr (6, [.ref h4, .ref qn, .ref qo, .ref qs, .int (iI L), .int (iI fL), .int (iI f), .int (iI m)])), (qn, .inl (cI, 17, .inl (aI now))), (h4, .inr (4, [.ref q4, .int (iI P)]))]) jA) jA) (by decide) rfl rfl rfl ?_
  intro jp je js jm ja jb jt jc jA jQ jS jr jk jn jq hK hP hD hA hS ls hl
  have hl : lv_has ls 3 [(0, .ref o3), (1, .ref h6)] := hl
  refine x_aln jS dX3_takeWeights_0 rfl hl 0 rfl ?_
  refine x_aln jS dX3_takeWeights_1 rfl hl 1 rfl ?_
  refine x_getN jS hK hP h_X3_takeWeights_X6 2 rfl rfl 4 rfl 10 rfl rfl dX3_takeWeights_2 ?_
  refine x_put (ty0 := tyX3) (ws' := [(o3, .inr (3, [.ref h4, .ref qw, .ref qt, .ref qd, .int (iI L)])), (qw, .inl (cI, 17, .inl (aI w))), (h6, .inr (6, [.ref h4, .ref qn, .ref qo, .ref qs, .int (iI L), .int (iI fL), .int (iI f), .int (iI m)])), (qn, .inl (cI, 17, .inl (aI now))), (h4, .inr (4, [.ref q4, .int (iI P)]))]) jS hK hP hD hS h_X3_takeWeights_X3 tyX3_ok nmX3 0 rfl rfl 4 rfl m_X3_takeWeights_1 rfl rfl rfl rfl dX3_takeWeights_5 rfl (fun jH jL hP hD hS => ?_)
  refine x_ic jS dX3_takeWeights_8 ?_
  refine x_isn (lv' := [(2, .int (iI 1)), (0, .ref o3), (1, .ref h6)]) jS dX3_takeWeights_9 rfl hl rfl rfl (fun ls hl => ?_)
  have loop_10 : ∀ (mm : Nat) (i : Int) (w1 : Int → Int) (jH : Heap) (jL : List Loc), (L + 1 - i).toNat = mm → (1 ≤ i ∧ i ≤ L + 1) → (∀ j : Int, 1 ≤ j → j < i → w1 j = (0 + P - now j) % P) → va_P D vwCl [(o3, .inr (3, [.ref h4, .ref qw, .ref qt, .ref qd, .int (iI L)])), (qw, .inl (cI, 17, .inl (aI w1))), (h6, .inr (6, [.ref h4, .ref qn, .ref qo, .ref qs, .int (iI L), .int (iI fL), .int (iI f), .int (iI m)])), (qn, .inl (cI, 17, .inl (aI now))), (h4, .inr (4, [.ref q4, .int (iI P)]))] jH → va_D jA [(o3, .inr (3, [.ref h4, .ref qw, .ref qt, .ref qd, .int (iI L)])), (qw, .inl (cI, 17, .inl (aI w1))), (h6, .inr (6, [.ref h4, .ref qn, .ref qo, .ref qs, .int (iI L), .int (iI fL), .int (iI f), .int (iI m)])), (qn, .inl (cI, 17, .inl (aI now))), (h4, .inr (4, [.ref q4, .int (iI P)]))] → va_S jA js.heap jH jL → ∀ ls : Array Slot, lv_has ls 3 [(2, .int (iI i)), (0, .ref o3), (1, .ref h6)] → W jp jl je rm_X3_takeWeights js jm ja jb jt jc jH jL 0 0 jQ (F0 jm 10 ls []) := by
    intro mm
    induction mm using Nat.strongRecOn with
    | ind mm ih10 =>
      intro i w1 jH jL hmm10 hi h1 hP hD hS ls hl
      refine x_iln jS dX3_takeWeights_10 rfl hl 0 rfl ?_
      refine x_aln jS dX3_takeWeights_11 rfl hl 1 rfl ?_
      refine x_get jS hK hP h_X3_takeWeights_X3 0 rfl rfl 4 rfl m_X3_takeWeights_1 rfl dX3_takeWeights_12 ?_
      refine x_cmpgt jS 35 dX3_takeWeights_15 (by decide) (by omega) (fun hc15 => ?_) (fun hc15 => ?_)
      · skip
        exact x_vretW jS jr jk jq dX3_takeWeights_35 w1 hP hD hS (show ∀ j : Int, 1 ≤ j → j ≤ L → w1 j = (0 + P - now j) % P from fun j a b => h1 j a (by omega))
      · skip
        refine x_aln jS dX3_takeWeights_18 rfl hl 1 rfl ?_
        refine x_get jS hK hP h_X3_takeWeights_X3 0 rfl rfl 1 rfl m_X3_takeWeights_2 rfl dX3_takeWeights_19 ?_
        refine x_iln jS dX3_takeWeights_22 rfl hl 0 rfl ?_
        refine x_aln jS dX3_takeWeights_23 rfl hl 2 rfl ?_
        refine x_iln jS dX3_takeWeights_24 rfl hl 0 rfl ?_
        have hni := hnow i (by omega) (by omega)
        refine x_rI (x_rmV (As := [.int (iI i)]) (rest := [.int (iI i), .ref qw]) jS hl.1 hK (c_X6_weight jl D cI h6 qn qo qs h4 q4 P L fL f m i now (by first | assumption | omega) (by first | assumption | omega) (by first | assumption | omega)) (hP.sub [2, 3, 4] rfl) 0 rfl rfl gX3_takeWeights_X6_weight rfl rfl rfl kf_X6_weight rfl rfl rfl rfl rfl dX3_takeWeights_25 rfl rfl) ?_
        refine x_iast (ws' := [(o3, .inr (3, [.ref h4, .ref qw, .ref qt, .ref qd, .int (iI L)])), (qw, .inl (cI, 17, .inl (aI (uI w1 i ((0 + P - now i) % P))))), (h6, .inr (6, [.ref h4, .ref qn, .ref qo, .ref qs, .int (iI L), .int (iI fL), .int (iI f), .int (iI m)])), (qn, .inl (cI, 17, .inl (aI now))), (h4, .inr (4, [.ref q4, .int (iI P)]))]) jS hK hP hD hS 1 rfl (by omega) dX3_takeWeights_28 rfl (fun jH jL hP hD hS => ?_)
        refine x_iinc (lv' := [(2, .int (iI (i + 1))), (0, .ref o3), (1, .ref h6)]) jS dX3_takeWeights_29 hl 0 rfl rfl rfl (fun ls hl => ?_)
        refine x_goto jS 10 dX3_takeWeights_32 (by decide) ?_
        exact ih10 _ (by omega) (i + 1) (uI w1 i ((0 + P - now i) % P)) _ _ rfl (by omega) (fun j a b => by rcases Int.lt_or_le j i with q | q; rw [uI_n (by omega)]; exact h1 j a q; rw [show j = i by omega, uI_s]) hP hD hS ls (lv_sub hl [0, 1, 2] rfl)
  exact loop_10 _ 1 w _ _ rfl (by omega) (fun j a b => by omega) hP hD hS ls (lv_sub hl [0, 1, 2] rfl)
theorem h_X3_squareInto_X3 : ∀ w ∈ u_ws RX3 TX3 5, w ∈ wsX3_squareInto := fun w h => List.mem_cons_of_mem _ (List.mem_append_right _ h)
theorem m_X3_squareInto_1 : Cond.fieldLink RX3 18 "SealedBox$Onward" "product" "[I" ∈ wsX3_squareInto := List.mem_of_getElem? (i := 1) rfl
theorem m_X3_squareInto_2 : Cond.fieldLink RX3 21 "SealedBox$Onward" "length" "I" ∈ wsX3_squareInto := List.mem_of_getElem? (i := 2) rfl
theorem m_X3_squareInto_3 : Cond.fieldLink RX3 15 "SealedBox$Onward" "rest" "[I" ∈ wsX3_squareInto := List.mem_of_getElem? (i := 3) rfl
abbrev rm_X3_squareInto : Room := { frames := 0, cells := 0, slots := 0, locals := 0 }
set_option maxHeartbeats 4000000 in
set_option maxRecDepth 100000 in
theorem c_X3_squareInto (jl : Launch) (D : va_G) (cI : ClassId) (o3 qw qt qd h4 : Nat) (P L bit : Int) (a pr : Int → Int) (sz : Nat) (hP5 : 5 ≤ P ∧ P ≤ 997) (hL : 1 ≤ L ∧ L ≤ 16) (hbit : 0 ≤ bit ∧ bit ≤ 1) (ha : ∀ j : Int, 0 ≤ j → j < L → 0 ≤ a j ∧ a j < P) : Met jl yX3_squareInto wsX3_squareInto rm_X3_squareInto (xPw [.ref o3, .int (iI bit)] D cI [(o3, .inr (3, [.ref h4, .ref qw, .ref qt, .ref qd, .int (iI L)])), (qt, .inl (cI, 16, .inl (aI a))), (qd, .inl (cI, 32, .inl (aI pr)))] sz) (va_Qv (fun (u : (Int → Int)) => (∀ T : Int → Int, sm (fun q => u q * T q) 32 = sm (fun i => sm (fun j => a i * a j * T (i + j + bit)) L) L) ∧ (∀ q : Int, 0 ≤ q → q < 32 → 0 ≤ u q ∧ u q ≤ 256000000)) (xB D (fun (u : (Int → Int)) => [(o3, .inr (3, [.ref h4, .ref qw, .ref qt, .ref qd, .int (iI L)])), (qt, .inl (cI, 16, .inl (aI a))), (qd, .inl (cI, 32, .inl (aI u)))]) (va_A [(o3, .inr (3, [.ref h4, .ref qw, .ref qt, .ref qd, .int (iI L)])), (qt, .inl (cI, 16, .inl (aI a))), (qd, .inl (cI, 32, .inl (aI pr)))] sz)) (va_A [(o3, .inr (3, [.ref h4, .ref qw, .ref qt, .ref qd, .int (iI L)])), (qt, .inl (cI, 16, .inl (aI a))), (qd, .inl (cI, 32, .inl (aI pr)))] sz)) 0 0 (va_A [(o3, .inr (3, [.ref h4, .ref qw, .ref qt, .ref qd, .int (iI L)])), (qt, .inl (cI, 16, .inl (aI a))), (qd, .inl (cI, 32, .inl (aI pr)))] sz) := by
  refine x_metW (own := RX3) (cc := cX3_squareInto) (maxL := 4) (ret := none) (Qc := fun jA => va_Qv (fun (u : (Int → Int)) => (∀ T : Int → Int, sm (fun q => u q * T q) 32 = sm (fun i => sm (fun j => a i * a j * T (i + j + bit)) L) L) ∧ (∀ q : Int, 0 ≤ q → q < 32 → 0 ≤ u q ∧ u q ≤ 256000000)) (xB D (fun (u : (Int → Int)) => [(o3, .inr (3, [.ref h4, .ref qw, .ref qt, .ref qd, .int (iI L)])), (qt, .inl (cI, 16, .inl (aI a))), (qd, .inl (cI, 32, .inl (aI u)))]) jA) jA) (by decide) rfl rfl rfl ?_
  intro jp je js jm ja jb jt jc jA jQ jS jr jk jn jq hK hP hD hA hS ls hl
  have hl : lv_has ls 4 [(0, .ref o3), (1, .int (iI bit))] := hl
  refine x_ic jS dX3_squareInto_0 ?_
  refine x_isn (lv' := [(2, .int (iI 0)), (0, .ref o3), (1, .int (iI bit))]) jS dX3_squareInto_1 rfl hl rfl rfl (fun ls hl => ?_)
  have loop_2 : ∀ (mm : Nat) (i : Int) (pr1 : Int → Int) (jH : Heap) (jL : List Loc), (32 - i).toNat = mm → (0 ≤ i ∧ i ≤ 32) → (∀ j : Int, 0 ≤ j → j < i → pr1 j = 0) → va_P D vwCl [(o3, .inr (3, [.ref h4, .ref qw, .ref qt, .ref qd, .int (iI L)])), (qt, .inl (cI, 16, .inl (aI a))), (qd, .inl (cI, 32, .inl (aI pr1)))] jH → va_D jA [(o3, .inr (3, [.ref h4, .ref qw, .ref qt, .ref qd, .int (iI L)])), (qt, .inl (cI, 16, .inl (aI a))), (qd, .inl (cI, 32, .inl (aI pr1)))] → va_S jA js.heap jH jL → ∀ ls : Array Slot, lv_has ls 4 [(2, .int (iI i)), (0, .ref o3), (1, .int (iI bit))] → W jp jl je rm_X3_squareInto js jm ja jb jt jc jH jL 0 0 jQ (F0 jm 2 ls []) := by
    intro mm
    induction mm using Nat.strongRecOn with
    | ind mm ih2 =>
      intro i pr1 jH jL hmm2 hi h1 hP hD hS ls hl
      refine x_iln jS dX3_squareInto_2 rfl hl 0 rfl ?_
      refine x_aln jS dX3_squareInto_3 rfl hl 1 rfl ?_
      refine x_get jS hK hP h_X3_squareInto_X3 0 rfl rfl 3 rfl m_X3_squareInto_1 rfl dX3_squareInto_4 ?_
      refine x_alen jS hK hP 2 rfl dX3_squareInto_7 ?_
      refine x_cmpge jS 24 dX3_squareInto_8 (by decide) (by omega) (fun hc8 => ?_) (fun hc8 => ?_)
      · skip
        refine x_ic jS dX3_squareInto_24 ?_
        refine x_isn (lv' := [(2, .int (iI 0)), (0, .ref o3), (1, .int (iI bit))]) jS dX3_squareInto_25 rfl hl rfl rfl (fun ls hl => ?_)
        have loop_26 : ∀ (mm : Nat) (i2 : Int) (pr3 : Int → Int) (jH : Heap) (jL : List Loc), (L - i2).toNat = mm → (0 ≤ i2 ∧ i2 ≤ L) → (∀ T : Int → Int, sm (fun q => pr3 q * T q) 32 = sm (fun i => sm (fun j => a i * a j * T (i + j + bit)) L) i2) → (∀ q : Int, 0 ≤ q → q < 32 → 0 ≤ pr3 q ∧ pr3 q ≤ i2 * 16000000) → va_P D vwCl [(o3, .inr (3, [.ref h4, .ref qw, .ref qt, .ref qd, .int (iI L)])), (qt, .inl (cI, 16, .inl (aI a))), (qd, .inl (cI, 32, .inl (aI pr3)))] jH → va_D jA [(o3, .inr (3, [.ref h4, .ref qw, .ref qt, .ref qd, .int (iI L)])), (qt, .inl (cI, 16, .inl (aI a))), (qd, .inl (cI, 32, .inl (aI pr3)))] → va_S jA js.heap jH jL → ∀ ls : Array Slot, lv_has ls 4 [(2, .int (iI i2)), (0, .ref o3), (1, .int (iI bit))] → W jp jl je rm_X3_squareInto js jm ja jb jt jc jH jL 0 0 jQ (F0 jm 26 ls []) := by
          intro mm
          induction mm using Nat.strongRecOn with
          | ind mm ih26 =>
            intro i2 pr3 jH jL hmm26 hi2 h3s h3b hP hD hS ls hl
            refine x_iln jS dX3_squareInto_26 rfl hl 0 rfl ?_
            refine x_aln jS dX3_squareInto_27 rfl hl 1 rfl ?_
            refine x_get jS hK hP h_X3_squareInto_X3 0 rfl rfl 4 rfl m_X3_squareInto_2 rfl dX3_squareInto_28 ?_
            refine x_cmpge jS 82 dX3_squareInto_31 (by decide) (by omega) (fun hc31 => ?_) (fun hc31 => ?_)
            · skip
              exact x_vretW jS jr jk jq dX3_squareInto_82 pr3 hP hD hS (show (∀ T : Int → Int, sm (fun q => pr3 q * T q) 32 = sm (fun i => sm (fun j => a i * a j * T (i + j + bit)) L) L) ∧ (∀ q : Int, 0 ≤ q → q < 32 → 0 ≤ pr3 q ∧ pr3 q ≤ 256000000) from ⟨fun T => by rw [h3s T, show i2 = L by omega], fun q x y => by have := h3b q x y; omega⟩)
            · skip
              refine x_ic jS dX3_squareInto_34 ?_
              refine x_isn (lv' := [(3, .int (iI 0)), (2, .int (iI i2)), (0, .ref o3), (1, .int (iI bit))]) jS dX3_squareInto_35 rfl hl rfl rfl (fun ls hl => ?_)
              have loop_36 : ∀ (mm : Nat) (j : Int) (pr5 : Int → Int) (jH : Heap) (jL : List Loc), (L - j).toNat = mm → (0 ≤ j ∧ j ≤ L) → (∀ T : Int → Int, sm (fun q => pr5 q * T q) 32 = sm (fun i => sm (fun j => a i * a j * T (i + j + bit)) L) i2 + sm (fun j => a i2 * a j * T (i2 + j + bit)) j) → (∀ q : Int, 0 ≤ q → q < 32 → 0 ≤ pr5 q ∧ pr5 q ≤ i2 * 16000000 + j * 1000000) → va_P D vwCl [(o3, .inr (3, [.ref h4, .ref qw, .ref qt, .ref qd, .int (iI L)])), (qt, .inl (cI, 16, .inl (aI a))), (qd, .inl (cI, 32, .inl (aI pr5)))] jH → va_D jA [(o3, .inr (3, [.ref h4, .ref qw, .ref qt, .ref qd, .int (iI L)])), (qt, .inl (cI, 16, .inl (aI a))), (qd, .inl (cI, 32, .inl (aI pr5)))] → va_S jA js.heap jH jL → ∀ ls : Array Slot, lv_has ls 4 [(3, .int (iI j)), (2, .int (iI i2)), (0, .ref o3), (1, .int (iI bit))] → W jp jl je rm_X3_squareInto js jm ja jb jt jc jH jL 0 0 jQ (F0 jm 36 ls []) := by
                intro mm
                induction mm using Nat.strongRecOn with
                | ind mm ih36 =>
                  intro j pr5 jH jL hmm36 hj h5s h5b hP hD hS ls hl
                  refine x_iln jS dX3_squareInto_36 rfl hl 0 rfl ?_
                  refine x_aln jS dX3_squareInto_37 rfl hl 2 rfl ?_
                  refine x_get jS hK hP h_X3_squareInto_X3 0 rfl rfl 4 rfl m_X3_squareInto_2 rfl dX3_squareInto_38 ?_
                  refine x_cmpge jS 76 dX3_squareInto_41 (by decide) (by omega) (fun hc41 => ?_) (fun hc41 => ?_)
                  · skip
                    refine x_iinc (lv' := [(2, .int (iI (i2 + 1))), (3, .int (iI j)), (0, .ref o3), (1, .int (iI bit))]) jS dX3_squareInto_76 hl 1 rfl rfl rfl (fun ls hl => ?_)
                    refine x_goto jS 26 dX3_squareInto_79 (by decide) ?_
                    exact ih26 _ (by omega) (i2 + 1) pr5 _ _ rfl (by omega) (fun T => by rw [h5s T, sm_s _ hi2.1, show j = L by omega]) (fun q x y => by have := h5b q x y; omega) hP hD hS ls (lv_sub hl [0, 2, 3] rfl)
                  · skip
                    refine x_aln jS dX3_squareInto_44 rfl hl 2 rfl ?_
                    refine x_get jS hK hP h_X3_squareInto_X3 0 rfl rfl 3 rfl m_X3_squareInto_1 rfl dX3_squareInto_45 ?_
                    refine x_iln jS dX3_squareInto_48 rfl hl 1 rfl ?_
                    refine x_iln jS dX3_squareInto_49 rfl hl 0 rfl ?_
                    refine x_iadd jS dX3_squareInto_50 ?_
                    refine x_iln jS dX3_squareInto_51 rfl hl 3 rfl ?_
                    refine x_iadd jS dX3_squareInto_52 ?_
                    refine x_dup2 jS dX3_squareInto_53 rfl rfl ?_
                    refine x_iald jS hK hP 2 rfl (by omega) dX3_squareInto_54 ?_
                    have hb54 := h5b (i2 + j + bit) (by omega) (by omega)
                    refine x_aln jS dX3_squareInto_55 rfl hl 2 rfl ?_
                    refine x_get jS hK hP h_X3_squareInto_X3 0 rfl rfl 2 rfl m_X3_squareInto_3 rfl dX3_squareInto_56 ?_
                    refine x_iln jS dX3_squareInto_59 rfl hl 1 rfl ?_
                    refine x_iald jS hK hP 1 rfl (by omega) dX3_squareInto_60 ?_
                    have hb60 := ha i2 (by omega) (by omega)
                    refine x_aln jS dX3_squareInto_61 rfl hl 2 rfl ?_
                    refine x_get jS hK hP h_X3_squareInto_X3 0 rfl rfl 2 rfl m_X3_squareInto_3 rfl dX3_squareInto_62 ?_
                    refine x_iln jS dX3_squareInto_65 rfl hl 0 rfl ?_
                    refine x_iald jS hK hP 1 rfl (by omega) dX3_squareInto_66 ?_
                    have hb66 := ha j (by omega) (by omega)
                    refine x_imulB jS dX3_squareInto_67 (by omega) (fun hp67 => ?_)
                    refine x_iadd jS dX3_squareInto_68 ?_
                    refine x_iast (ws' := [(o3, .inr (3, [.ref h4, .ref qw, .ref qt, .ref qd, .int (iI L)])), (qt, .inl (cI, 16, .inl (aI a))), (qd, .inl (cI, 32, .inl (aI (uI pr5 ((i2 + j) + bit) ((pr5 ((i2 + j) + bit)) + ((a i2) * (a j)))))))]) jS hK hP hD hS 2 rfl (by omega) dX3_squareInto_69 rfl (fun jH jL hP hD hS => ?_)
                    refine x_iinc (lv' := [(3, .int (iI (j + 1))), (2, .int (iI i2)), (0, .ref o3), (1, .int (iI bit))]) jS dX3_squareInto_70 hl 0 rfl rfl rfl (fun ls hl => ?_)
                    refine x_goto jS 36 dX3_squareInto_73 (by decide) ?_
                    exact ih36 _ (by omega) (j + 1) (uI pr5 ((i2 + j) + bit) ((pr5 ((i2 + j) + bit)) + ((a i2) * (a j)))) _ _ rfl (by omega) (fun T => by rw [sm_uI _ _ (by omega), h5s T, sm_s _ hj.1]; have e : (pr5 (i2 + j + bit) + a i2 * a j - pr5 (i2 + j + bit)) = a i2 * a j := (by omega); rw [e]; omega) (fun q x y => by have b1 := h5b q x y; by_cases e : q = i2 + j + bit; rw [e, uI_s]; rw [e] at b1; omega; rw [uI_n e]; omega) hP hD hS ls (lv_sub hl [0, 1, 2, 3] rfl)
              exact loop_36 _ 0 pr3 _ _ rfl (by omega) (fun T => by rw [sm_0, Int.add_zero]; exact h3s T) (fun q x y => by have := h3b q x y; omega) hP hD hS ls (lv_sub hl [0, 1, 2, 3] rfl)
        exact loop_26 _ 0 pr1 _ _ rfl (by omega) (fun T => by rw [sm_0]; exact sm_zero (fun q x y => by rw [h1 q x (by omega), Int.zero_mul])) (fun q x y => by rw [h1 q x (by omega)]; omega) hP hD hS ls (lv_sub hl [0, 1, 2] rfl)
      · skip
        refine x_aln jS dX3_squareInto_11 rfl hl 1 rfl ?_
        refine x_get jS hK hP h_X3_squareInto_X3 0 rfl rfl 3 rfl m_X3_squareInto_1 rfl dX3_squareInto_12 ?_
        refine x_iln jS dX3_squareInto_15 rfl hl 0 rfl ?_
        refine x_ic jS dX3_squareInto_16 ?_
        refine x_iast (ws' := [(o3, .inr (3, [.ref h4, .ref qw, .ref qt, .ref qd, .int (iI L)])), (qt, .inl (cI, 16, .inl (aI a))), (qd, .inl (cI, 32, .inl (aI (uI pr1 i 0))))]) jS hK hP hD hS 2 rfl (by omega) dX3_squareInto_17 rfl (fun jH jL hP hD hS => ?_)
        refine x_iinc (lv' := [(2, .int (iI (i + 1))), (0, .ref o3), (1, .int (iI bit))]) jS dX3_squareInto_18 hl 0 rfl rfl rfl (fun ls hl => ?_)
        refine x_goto jS 2 dX3_squareInto_21 (by decide) ?_
        exact ih2 _ (by omega) (i + 1) (uI pr1 i 0) _ _ rfl (by omega) (fun j x y => by rcases Int.lt_or_le j i with q | q; rw [uI_n (by omega)]; exact h1 j x q; rw [show j = i by omega, uI_s]) hP hD hS ls (lv_sub hl [0, 1, 2] rfl)
  exact loop_2 _ 0 pr _ _ rfl (by omega) (fun j x y => by omega) hP hD hS ls (lv_sub hl [0, 1, 2] rfl)
theorem h_X3_reduce_X3 : ∀ w ∈ u_ws RX3 TX3 5, w ∈ wsX3_reduce := fun w h => List.mem_cons_of_mem _ (List.mem_append_left _ (List.mem_append_right _ h))
theorem m_X3_reduce_1 : Cond.fieldLink RX3 18 "SealedBox$Onward" "product" "[I" ∈ wsX3_reduce := List.mem_of_getElem? (i := 1) rfl
theorem m_X3_reduce_2 : Cond.fieldLink RX3 21 "SealedBox$Onward" "length" "I" ∈ wsX3_reduce := List.mem_of_getElem? (i := 2) rfl
theorem m_X3_reduce_5 : Cond.fieldLink RX3 15 "SealedBox$Onward" "rest" "[I" ∈ wsX3_reduce := List.mem_of_getElem? (i := 5) rfl
theorem m_X3_reduce_3 : Cond.fieldLink RX3 25 "SealedBox$Onward" "numbers" "LSealedBox$PrimeField;" ∈ wsX3_reduce := List.mem_of_getElem? (i := 3) rfl
theorem h_X3_reduce_X4 : ∀ w ∈ u_ws RX4 TX4 2, w ∈ wsX3_reduce := fun w h => List.mem_cons_of_mem _ (List.mem_append_right _ h)
theorem m_X3_reduce_4 : Cond.fieldLink RX3 9 "SealedBox$Onward" "weights" "[I" ∈ wsX3_reduce := List.mem_of_getElem? (i := 4) rfl
abbrev rm_X3_reduce : Room := { frames := 0, cells := 0, slots := 0, locals := 0 }
set_option maxHeartbeats 4000000 in
set_option maxRecDepth 100000 in
theorem c_X3_reduce (jl : Launch) (D : va_G) (cI : ClassId) (o3 qw qt qd h4 q4 : Nat) (P L : Int) (w a pr SS : Int → Int) (sz : Nat) (hP5 : 5 ≤ P ∧ P ≤ 997) (hL : 1 ≤ L ∧ L ≤ 16) (hw : ∀ j : Int, 1 ≤ j → j ≤ L → 0 ≤ w j ∧ w j < P) (hgo : goesOn P L w SS) (hpr : ∀ q : Int, 0 ≤ q → q < 32 → 0 ≤ pr q ∧ pr q ≤ 256000000) : Met jl yX3_reduce wsX3_reduce rm_X3_reduce (xPw [.ref o3] D cI [(o3, .inr (3, [.ref h4, .ref qw, .ref qt, .ref qd, .int (iI L)])), (qw, .inl (cI, 17, .inl (aI w))), (qt, .inl (cI, 16, .inl (aI a))), (qd, .inl (cI, 32, .inl (aI pr))), (h4, .inr (4, [.ref q4, .int (iI P)]))] sz) (va_Qv (fun (u : (Int → Int) × (Int → Int)) => (∀ t : Int, 0 ≤ t → sm (fun i => u.1 i * SS (t + i)) L % P = sm (fun q => pr q * SS (t + q)) 32 % P) ∧ (∀ j : Int, 0 ≤ j → j < L → 0 ≤ u.1 j ∧ u.1 j < P)) (xB D (fun (u : (Int → Int) × (Int → Int)) => [(o3, .inr (3, [.ref h4, .ref qw, .ref qt, .ref qd, .int (iI L)])), (qw, .inl (cI, 17, .inl (aI w))), (qt, .inl (cI, 16, .inl (aI u.1))), (qd, .inl (cI, 32, .inl (aI u.2))), (h4, .inr (4, [.ref q4, .int (iI P)]))]) (va_A [(o3, .inr (3, [.ref h4, .ref qw, .ref qt, .ref qd, .int (iI L)])), (qw, .inl (cI, 17, .inl (aI w))), (qt, .inl (cI, 16, .inl (aI a))), (qd, .inl (cI, 32, .inl (aI pr))), (h4, .inr (4, [.ref q4, .int (iI P)]))] sz)) (va_A [(o3, .inr (3, [.ref h4, .ref qw, .ref qt, .ref qd, .int (iI L)])), (qw, .inl (cI, 17, .inl (aI w))), (qt, .inl (cI, 16, .inl (aI a))), (qd, .inl (cI, 32, .inl (aI pr))), (h4, .inr (4, [.ref q4, .int (iI P)]))] sz)) 0 0 (va_A [(o3, .inr (3, [.ref h4, .ref qw, .ref qt, .ref qd, .int (iI L)])), (qw, .inl (cI, 17, .inl (aI w))), (qt, .inl (cI, 16, .inl (aI a))), (qd, .inl (cI, 32, .inl (aI pr))), (h4, .inr (4, [.ref q4, .int (iI P)]))] sz) := by
  refine x_metW (own := RX3) (cc := cX3_reduce) (maxL := 4) (ret := none) (Qc := fun jA => va_Qv (fun (u : (Int → Int) × (Int → Int)) => (∀ t : Int, 0 ≤ t → sm (fun i => u.1 i * SS (t + i)) L % P = sm (fun q => pr q * SS (t + q)) 32 % P) ∧ (∀ j : Int, 0 ≤ j → j < L → 0 ≤ u.1 j ∧ u.1 j < P)) (xB D (fun (u : (Int → Int) × (Int → Int)) => [(o3, .inr (3, [.ref h4, .ref qw, .ref qt, .ref qd, .int (iI L)])), (qw, .inl (cI, 17, .inl (aI w))), (qt, .inl (cI, 16, .inl (aI u.1))), (qd, .inl (cI, 32, .inl (aI u.2))), (h4, .inr (4, [.ref q4, .int (iI P)]))]) jA) jA) (by decide) rfl rfl rfl ?_
  intro jp je js jm ja jb jt jc jA jQ jS jr jk jn jq hK hP hD hA hS ls hl
  have hl : lv_has ls 4 [(0, .ref o3)] := hl
  refine x_aln jS dX3_reduce_0 rfl hl 0 rfl ?_
  refine x_get jS hK hP h_X3_reduce_X3 0 rfl rfl 3 rfl m_X3_reduce_1 rfl dX3_reduce_1 ?_
  refine x_alen jS hK hP 3 rfl dX3_reduce_4 ?_
  refine x_ic jS dX3_reduce_5 ?_
  refine x_isub jS dX3_reduce_6 ?_
  refine x_isn (lv' := [(1, .int (iI (((32 : Nat) : Int) - 1))), (0, .ref o3)]) jS dX3_reduce_7 rfl hl rfl rfl (fun ls hl => ?_)
  have loop_8 : ∀ (mm : Nat) (i : Int) (pr1 : Int → Int) (jH : Heap) (jL : List Loc), (i + 1).toNat = mm → (L - 1 ≤ i ∧ i ≤ 31) → (∀ t : Int, 0 ≤ t → sm (fun q => pr1 q * SS (t + q)) (i + 1) % P = sm (fun q => pr q * SS (t + q)) 32 % P) → (∀ q : Int, 0 ≤ q → q < 32 → 0 ≤ pr1 q ∧ pr1 q ≤ 256000000) → va_P D vwCl [(o3, .inr (3, [.ref h4, .ref qw, .ref qt, .ref qd, .int (iI L)])), (qw, .inl (cI, 17, .inl (aI w))), (qt, .inl (cI, 16, .inl (aI a))), (qd, .inl (cI, 32, .inl (aI pr1))), (h4, .inr (4, [.ref q4, .int (iI P)]))] jH → va_D jA [(o3, .inr (3, [.ref h4, .ref qw, .ref qt, .ref qd, .int (iI L)])), (qw, .inl (cI, 17, .inl (aI w))), (qt, .inl (cI, 16, .inl (aI a))), (qd, .inl (cI, 32, .inl (aI pr1))), (h4, .inr (4, [.ref q4, .int (iI P)]))] → va_S jA js.heap jH jL → ∀ ls : Array Slot, lv_has ls 4 [(1, .int (iI i)), (0, .ref o3)] → W jp jl je rm_X3_reduce js jm ja jb jt jc jH jL 0 0 jQ (F0 jm 8 ls []) := by
    intro mm
    induction mm using Nat.strongRecOn with
    | ind mm ih8 =>
      intro i pr1 jH jL hmm8 hi h1 h1b hP hD hS ls hl
      refine x_iln jS dX3_reduce_8 rfl hl 0 rfl ?_
      refine x_aln jS dX3_reduce_9 rfl hl 1 rfl ?_
      refine x_get jS hK hP h_X3_reduce_X3 0 rfl rfl 4 rfl m_X3_reduce_2 rfl dX3_reduce_10 ?_
      refine x_cmplt jS 90 dX3_reduce_13 (by decide) (by omega) (fun hc13 => ?_) (fun hc13 => ?_)
      · skip
        refine x_ic jS dX3_reduce_90 ?_
        refine x_isn (lv' := [(1, .int (iI 0)), (0, .ref o3)]) jS dX3_reduce_91 rfl hl rfl rfl (fun ls hl => ?_)
        have loop_92 : ∀ (mm : Nat) (i9 : Int) (a9 : Int → Int) (jH : Heap) (jL : List Loc), (L - i9).toNat = mm → (0 ≤ i9 ∧ i9 ≤ L) → (∀ j : Int, 0 ≤ j → j < i9 → a9 j = pr1 j % P) → va_P D vwCl [(o3, .inr (3, [.ref h4, .ref qw, .ref qt, .ref qd, .int (iI L)])), (qw, .inl (cI, 17, .inl (aI w))), (qt, .inl (cI, 16, .inl (aI a9))), (qd, .inl (cI, 32, .inl (aI pr1))), (h4, .inr (4, [.ref q4, .int (iI P)]))] jH → va_D jA [(o3, .inr (3, [.ref h4, .ref qw, .ref qt, .ref qd, .int (iI L)])), (qw, .inl (cI, 17, .inl (aI w))), (qt, .inl (cI, 16, .inl (aI a9))), (qd, .inl (cI, 32, .inl (aI pr1))), (h4, .inr (4, [.ref q4, .int (iI P)]))] → va_S jA js.heap jH jL → ∀ ls : Array Slot, lv_has ls 4 [(1, .int (iI i9)), (0, .ref o3)] → W jp jl je rm_X3_reduce js jm ja jb jt jc jH jL 0 0 jQ (F0 jm 92 ls []) := by
          intro mm
          induction mm using Nat.strongRecOn with
          | ind mm ih92 =>
            intro i9 a9 jH jL hmm92 hi9 h9 hP hD hS ls hl
            refine x_iln jS dX3_reduce_92 rfl hl 0 rfl ?_
            refine x_aln jS dX3_reduce_93 rfl hl 1 rfl ?_
            refine x_get jS hK hP h_X3_reduce_X3 0 rfl rfl 4 rfl m_X3_reduce_2 rfl dX3_reduce_94 ?_
            refine x_cmpge jS 126 dX3_reduce_97 (by decide) (by omega) (fun hc97 => ?_) (fun hc97 => ?_)
            · skip
              exact x_vretW jS jr jk jq dX3_reduce_126 ⟨a9, pr1⟩ hP hD hS (show (∀ t : Int, 0 ≤ t → sm (fun i => a9 i * SS (t + i)) L % P = sm (fun q => pr q * SS (t + q)) 32 % P) ∧ (∀ j : Int, 0 ≤ j → j < L → 0 ≤ a9 j ∧ a9 j < P) from ⟨fun t x => by rw [← h1 t x, show i + 1 = L by omega]; exact sm_cg (fun j y z => cg_mul (by rw [h9 j y (by omega), cg_m]) rfl), fun j x y => by rw [h9 j x (by omega)]; exact emB (by omega) _⟩)
            · skip
              refine x_aln jS dX3_reduce_100 rfl hl 1 rfl ?_
              refine x_get jS hK hP h_X3_reduce_X3 0 rfl rfl 2 rfl m_X3_reduce_5 rfl dX3_reduce_101 ?_
              refine x_iln jS dX3_reduce_104 rfl hl 0 rfl ?_
              refine x_aln jS dX3_reduce_105 rfl hl 1 rfl ?_
              refine x_get jS hK hP h_X3_reduce_X3 0 rfl rfl 3 rfl m_X3_reduce_1 rfl dX3_reduce_106 ?_
              refine x_iln jS dX3_reduce_109 rfl hl 0 rfl ?_
              refine x_iald jS hK hP 3 rfl (by omega) dX3_reduce_110 ?_
              have hb110 := h1b i9 (by omega) (by omega)
              refine x_aln jS dX3_reduce_111 rfl hl 1 rfl ?_
              refine x_get jS hK hP h_X3_reduce_X3 0 rfl rfl 0 rfl m_X3_reduce_3 rfl dX3_reduce_112 ?_
              refine x_getN jS hK hP h_X3_reduce_X4 4 rfl rfl 1 rfl 1 rfl rfl dX3_reduce_115 ?_
              refine x_irem jS dX3_reduce_118 (by omega) (fun hm118 => ?_)
              refine x_iast (ws' := [(o3, .inr (3, [.ref h4, .ref qw, .ref qt, .ref qd, .int (iI L)])), (qw, .inl (cI, 17, .inl (aI w))), (qt, .inl (cI, 16, .inl (aI (uI a9 i9 ((pr1 i9) % P))))), (qd, .inl (cI, 32, .inl (aI pr1))), (h4, .inr (4, [.ref q4, .int (iI P)]))]) jS hK hP hD hS 2 rfl (by omega) dX3_reduce_119 rfl (fun jH jL hP hD hS => ?_)
              refine x_iinc (lv' := [(1, .int (iI (i9 + 1))), (0, .ref o3)]) jS dX3_reduce_120 hl 0 rfl rfl rfl (fun ls hl => ?_)
              refine x_goto jS 92 dX3_reduce_123 (by decide) ?_
              exact ih92 _ (by omega) (i9 + 1) (uI a9 i9 ((pr1 i9) % P)) _ _ rfl (by omega) (fun j x y => by rcases Int.lt_or_le j i9 with q | q; rw [uI_n (by omega)]; exact h9 j x q; rw [show j = i9 by omega, uI_s]) hP hD hS ls (lv_sub hl [0, 1] rfl)
        exact loop_92 _ 0 a _ _ rfl (by omega) (fun j x y => by omega) hP hD hS ls (lv_sub hl [0, 1] rfl)
      · skip
        refine x_aln jS dX3_reduce_16 rfl hl 1 rfl ?_
        refine x_get jS hK hP h_X3_reduce_X3 0 rfl rfl 3 rfl m_X3_reduce_1 rfl dX3_reduce_17 ?_
        refine x_iln jS dX3_reduce_20 rfl hl 0 rfl ?_
        refine x_iald jS hK hP 3 rfl (by omega) dX3_reduce_21 ?_
        have hb21 := h1b i (by omega) (by omega)
        refine x_aln jS dX3_reduce_22 rfl hl 1 rfl ?_
        refine x_get jS hK hP h_X3_reduce_X3 0 rfl rfl 0 rfl m_X3_reduce_3 rfl dX3_reduce_23 ?_
        refine x_getN jS hK hP h_X3_reduce_X4 4 rfl rfl 1 rfl 1 rfl rfl dX3_reduce_26 ?_
        refine x_irem jS dX3_reduce_29 (by omega) (fun hm29 => ?_)
        have hm29e : pr1 i % P % P = pr1 i % P := cg_m _ _
        refine x_isn (lv' := [(2, .int (iI ((pr1 i) % P))), (1, .int (iI i)), (0, .ref o3)]) jS dX3_reduce_30 rfl hl rfl rfl (fun ls hl => ?_)
        refine x_ic jS dX3_reduce_31 ?_
        refine x_isn (lv' := [(3, .int (iI 1)), (2, .int (iI ((pr1 i) % P))), (1, .int (iI i)), (0, .ref o3)]) jS dX3_reduce_32 rfl hl rfl rfl (fun ls hl => ?_)
        have loop_33 : ∀ (mm : Nat) (k : Int) (pr3 : Int → Int) (jH : Heap) (jL : List Loc), (L + 1 - k).toNat = mm → (1 ≤ k ∧ k ≤ L + 1) → (∀ T : Int → Int, sm (fun q => pr3 q * T q) i % P = (sm (fun q => pr1 q * T q) i + pr1 i % P * sm (fun u => w (u + 1) * T (i - 1 - u)) (k - 1)) % P) → (∀ q : Int, 0 ≤ q → q < 32 → 0 ≤ pr3 q ∧ pr3 q ≤ 256000000) → va_P D vwCl [(o3, .inr (3, [.ref h4, .ref qw, .ref qt, .ref qd, .int (iI L)])), (qw, .inl (cI, 17, .inl (aI w))), (qt, .inl (cI, 16, .inl (aI a))), (qd, .inl (cI, 32, .inl (aI pr3))), (h4, .inr (4, [.ref q4, .int (iI P)]))] jH → va_D jA [(o3, .inr (3, [.ref h4, .ref qw, .ref qt, .ref qd, .int (iI L)])), (qw, .inl (cI, 17, .inl (aI w))), (qt, .inl (cI, 16, .inl (aI a))), (qd, .inl (cI, 32, .inl (aI pr3))), (h4, .inr (4, [.ref q4, .int (iI P)]))] → va_S jA js.heap jH jL → ∀ ls : Array Slot, lv_has ls 4 [(3, .int (iI k)), (2, .int (iI ((pr1 i) % P))), (1, .int (iI i)), (0, .ref o3)] → W jp jl je rm_X3_reduce js jm ja jb jt jc jH jL 0 0 jQ (F0 jm 33 ls []) := by
          intro mm
          induction mm using Nat.strongRecOn with
          | ind mm ih33 =>
            intro k pr3 jH jL hmm33 hk h3 h3b hP hD hS ls hl
            refine x_iln jS dX3_reduce_33 rfl hl 0 rfl ?_
            refine x_aln jS dX3_reduce_34 rfl hl 3 rfl ?_
            refine x_get jS hK hP h_X3_reduce_X3 0 rfl rfl 4 rfl m_X3_reduce_2 rfl dX3_reduce_35 ?_
            refine x_cmpgt jS 84 dX3_reduce_38 (by decide) (by omega) (fun hc38 => ?_) (fun hc38 => ?_)
            · skip
              have hstop : k = L + 1 ∨ pr1 i % P = 0 := Or.inl (by omega)
              refine x_iinc (lv' := [(1, .int (iI (i + (-1)))), (3, .int (iI k)), (2, .int (iI ((pr1 i) % P))), (0, .ref o3)]) jS dX3_reduce_84 hl 2 rfl rfl rfl (fun ls hl => ?_)
              refine x_goto jS 8 dX3_reduce_87 (by decide) ?_
              exact ih8 _ (by omega) (i + (-1)) pr3 _ _ rfl (by omega) (fun t x => by rw [show i + -1 + 1 = i by omega, h3 (fun q => SS (t + q)), ← h1 t x, sm_s _ (show 0 ≤ i by omega)]; exact far_step hgo (by omega) (by omega) hm29e (by omega) hstop) (fun q x y => h3b q x y) hP hD hS ls (lv_sub hl [0, 3] rfl)
            · skip
              refine x_iln jS dX3_reduce_41 rfl hl 1 rfl ?_
              refine x_ifeq jS 84 dX3_reduce_42 (by decide) (by omega) (fun hc42 => ?_) (fun hc42 => ?_)
              · skip
                have hstop : k = L + 1 ∨ pr1 i % P = 0 := Or.inr hc42
                refine x_iinc (lv' := [(1, .int (iI (i + (-1)))), (3, .int (iI k)), (2, .int (iI ((pr1 i) % P))), (0, .ref o3)]) jS dX3_reduce_84 hl 2 rfl rfl rfl (fun ls hl => ?_)
                refine x_goto jS 8 dX3_reduce_87 (by decide) ?_
                exact ih8 _ (by omega) (i + (-1)) pr3 _ _ rfl (by omega) (fun t x => by rw [show i + -1 + 1 = i by omega, h3 (fun q => SS (t + q)), ← h1 t x, sm_s _ (show 0 ≤ i by omega)]; exact far_step hgo (by omega) (by omega) hm29e (by omega) hstop) (fun q x y => h3b q x y) hP hD hS ls (lv_sub hl [0, 3] rfl)
              · skip
                refine x_aln jS dX3_reduce_45 rfl hl 3 rfl ?_
                refine x_get jS hK hP h_X3_reduce_X3 0 rfl rfl 3 rfl m_X3_reduce_1 rfl dX3_reduce_46 ?_
                refine x_iln jS dX3_reduce_49 rfl hl 2 rfl ?_
                refine x_iln jS dX3_reduce_50 rfl hl 0 rfl ?_
                refine x_isub jS dX3_reduce_51 ?_
                refine x_aln jS dX3_reduce_52 rfl hl 3 rfl ?_
                refine x_get jS hK hP h_X3_reduce_X3 0 rfl rfl 3 rfl m_X3_reduce_1 rfl dX3_reduce_53 ?_
                refine x_iln jS dX3_reduce_56 rfl hl 2 rfl ?_
                refine x_iln jS dX3_reduce_57 rfl hl 0 rfl ?_
                refine x_isub jS dX3_reduce_58 ?_
                refine x_iald jS hK hP 3 rfl (by omega) dX3_reduce_59 ?_
                have hb59 := h3b (i - k) (by omega) (by omega)
                refine x_iln jS dX3_reduce_60 rfl hl 1 rfl ?_
                refine x_aln jS dX3_reduce_61 rfl hl 3 rfl ?_
                refine x_get jS hK hP h_X3_reduce_X3 0 rfl rfl 1 rfl m_X3_reduce_4 rfl dX3_reduce_62 ?_
                refine x_iln jS dX3_reduce_65 rfl hl 0 rfl ?_
                refine x_iald jS hK hP 1 rfl (by omega) dX3_reduce_66 ?_
                have hb66 := hw k (by omega) (by omega)
                refine x_imulB jS dX3_reduce_67 (by omega) (fun hp67 => ?_)
                refine x_iadd jS dX3_reduce_68 ?_
                refine x_aln jS dX3_reduce_69 rfl hl 3 rfl ?_
                refine x_get jS hK hP h_X3_reduce_X3 0 rfl rfl 0 rfl m_X3_reduce_3 rfl dX3_reduce_70 ?_
                refine x_getN jS hK hP h_X3_reduce_X4 4 rfl rfl 1 rfl 1 rfl rfl dX3_reduce_73 ?_
                refine x_irem jS dX3_reduce_76 (by omega) (fun hm76 => ?_)
                refine x_iast (ws' := [(o3, .inr (3, [.ref h4, .ref qw, .ref qt, .ref qd, .int (iI L)])), (qw, .inl (cI, 17, .inl (aI w))), (qt, .inl (cI, 16, .inl (aI a))), (qd, .inl (cI, 32, .inl (aI (uI pr3 (i - k) (((pr3 (i - k)) + (((pr1 i) % P) * (w k))) % P))))), (h4, .inr (4, [.ref q4, .int (iI P)]))]) jS hK hP hD hS 3 rfl (by omega) dX3_reduce_77 rfl (fun jH jL hP hD hS => ?_)
                refine x_iinc (lv' := [(3, .int (iI (k + 1))), (2, .int (iI ((pr1 i) % P))), (1, .int (iI i)), (0, .ref o3)]) jS dX3_reduce_78 hl 0 rfl rfl rfl (fun ls hl => ?_)
                refine x_goto jS 33 dX3_reduce_81 (by decide) ?_
                exact ih33 _ (by omega) (k + 1) (uI pr3 (i - k) (((pr3 (i - k)) + (((pr1 i) % P) * (w k))) % P)) _ _ rfl (by omega) (fun T => by rw [sm_uI _ _ (by omega), show k + 1 - 1 = (k - 1) + 1 by omega, sm_s _ (show 0 ≤ k - 1 by omega), Int.mul_add, ← Int.add_assoc]; refine cg_add (h3 T) ?_; rw [show k - 1 + 1 = k by omega, show i - 1 - (k - 1) = i - k by omega, ← Int.mul_assoc]; refine cg_mul ?_ rfl; rw [Int.sub_emod, cg_m, ← Int.sub_emod]; congr 1; omega) (fun q x y => by by_cases e : q = i - k; rw [e, uI_s]; omega; rw [uI_n e]; exact h3b q x y) hP hD hS ls (lv_sub hl [0, 1, 2, 3] rfl)
        exact loop_33 _ 1 pr1 _ _ rfl (by omega) (fun T => by rw [show (1 : Int) - 1 = 0 by omega, sm_0, Int.mul_zero, Int.add_zero]) (h1b) hP hD hS ls (lv_sub hl [0, 1, 2, 3] rfl)
  exact loop_8 _ (((32 : Nat) : Int) - 1) pr _ _ rfl (by omega) (fun t x => rfl) (hpr) hP hD hS ls (lv_sub hl [0, 1] rfl)
theorem h_X3_raise_X3 : ∀ w ∈ u_ws RX3 TX3 5, w ∈ wsX3_raise := fun w h => List.mem_cons_of_mem _ (List.mem_append_left _ (List.mem_append_right _ h))
theorem m_X3_raise_1 : Cond.fieldLink RX3 15 "SealedBox$Onward" "rest" "[I" ∈ wsX3_raise := List.mem_of_getElem? (i := 1) rfl
theorem kf_X3_squareInto : kfV yX3_squareInto RX3 1 := by decide +kernel
theorem kf_X3_reduce : kfV yX3_reduce RX3 0 := by decide +kernel
abbrev rm_X3_raise : Room := { frames := 1, cells := 0, slots := 0, locals := 23 }
set_option maxHeartbeats 4000000 in
set_option maxRecDepth 100000 in
theorem c_X3_raise (jl : Launch) (D : va_G) (cI : ClassId) (o3 qw qt qd h4 q4 : Nat) (P L n : Int) (w a pr SS : Int → Int) (sz : Nat) (hP5 : 5 ≤ P ∧ P ≤ 997) (hL : 1 ≤ L ∧ L ≤ 16) (hn : 0 ≤ n ∧ n ≤ 1000000000) (hw : ∀ j : Int, 1 ≤ j → j ≤ L → 0 ≤ w j ∧ w j < P) (hgo : goesOn P L w SS) : Met jl yX3_raise wsX3_raise rm_X3_raise (xPw [.ref o3, .int (iI n)] D cI [(o3, .inr (3, [.ref h4, .ref qw, .ref qt, .ref qd, .int (iI L)])), (qw, .inl (cI, 17, .inl (aI w))), (qt, .inl (cI, 16, .inl (aI a))), (qd, .inl (cI, 32, .inl (aI pr))), (h4, .inr (4, [.ref q4, .int (iI P)]))] sz) (va_Qv (fun (u : (Int → Int) × (Int → Int)) => Rep P L SS u.1 n ∧ (∀ j : Int, 0 ≤ j → j < L → 0 ≤ u.1 j ∧ u.1 j < P)) (xB D (fun (u : (Int → Int) × (Int → Int)) => [(o3, .inr (3, [.ref h4, .ref qw, .ref qt, .ref qd, .int (iI L)])), (qw, .inl (cI, 17, .inl (aI w))), (qt, .inl (cI, 16, .inl (aI u.1))), (qd, .inl (cI, 32, .inl (aI u.2))), (h4, .inr (4, [.ref q4, .int (iI P)]))]) (va_A [(o3, .inr (3, [.ref h4, .ref qw, .ref qt, .ref qd, .int (iI L)])), (qw, .inl (cI, 17, .inl (aI w))), (qt, .inl (cI, 16, .inl (aI a))), (qd, .inl (cI, 32, .inl (aI pr))), (h4, .inr (4, [.ref q4, .int (iI P)]))] sz)) (va_A [(o3, .inr (3, [.ref h4, .ref qw, .ref qt, .ref qd, .int (iI L)])), (qw, .inl (cI, 17, .inl (aI w))), (qt, .inl (cI, 16, .inl (aI a))), (qd, .inl (cI, 32, .inl (aI pr))), (h4, .inr (4, [.ref q4, .int (iI P)]))] sz)) 0 0 (va_A [(o3, .inr (3, [.ref h4, .ref qw, .ref qt, .ref qd, .int (iI L)])), (qw, .inl (cI, 17, .inl (aI w))), (qt, .inl (cI, 16, .inl (aI a))), (qd, .inl (cI, 32, .inl (aI pr))), (h4, .inr (4, [.ref q4, .int (iI P)]))] sz) := by
  refine x_metW (own := RX3) (cc := cX3_raise) (maxL := 3) (ret := none) (Qc := fun jA => va_Qv (fun (u : (Int → Int) × (Int → Int)) => Rep P L SS u.1 n ∧ (∀ j : Int, 0 ≤ j → j < L → 0 ≤ u.1 j ∧ u.1 j < P)) (xB D (fun (u : (Int → Int) × (Int → Int)) => [(o3, .inr (3, [.ref h4, .ref qw, .ref qt, .ref qd, .int (iI L)])), (qw, .inl (cI, 17, .inl (aI w))), (qt, .inl (cI, 16, .inl (aI u.1))), (qd, .inl (cI, 32, .inl (aI u.2))), (h4, .inr (4, [.ref q4, .int (iI P)]))]) jA) jA) (by decide) rfl rfl rfl ?_
  intro jp je js jm ja jb jt jc jA jQ jS jr jk jn jq hK hP hD hA hS ls hl
  have hl : lv_has ls 3 [(0, .ref o3), (1, .int (iI n))] := hl
  refine x_ic jS dX3_raise_0 ?_
  refine x_isn (lv' := [(2, .int (iI 0)), (0, .ref o3), (1, .int (iI n))]) jS dX3_raise_1 rfl hl rfl rfl (fun ls hl => ?_)
  have loop_2 : ∀ (mm : Nat) (i : Int) (a1 : Int → Int) (jH : Heap) (jL : List Loc), (16 - i).toNat = mm → (0 ≤ i ∧ i ≤ 16) → (∀ j : Int, 0 ≤ j → j < i → a1 j = 0) → va_P D vwCl [(o3, .inr (3, [.ref h4, .ref qw, .ref qt, .ref qd, .int (iI L)])), (qw, .inl (cI, 17, .inl (aI w))), (qt, .inl (cI, 16, .inl (aI a1))), (qd, .inl (cI, 32, .inl (aI pr))), (h4, .inr (4, [.ref q4, .int (iI P)]))] jH → va_D jA [(o3, .inr (3, [.ref h4, .ref qw, .ref qt, .ref qd, .int (iI L)])), (qw, .inl (cI, 17, .inl (aI w))), (qt, .inl (cI, 16, .inl (aI a1))), (qd, .inl (cI, 32, .inl (aI pr))), (h4, .inr (4, [.ref q4, .int (iI P)]))] → va_S jA js.heap jH jL → ∀ ls : Array Slot, lv_has ls 3 [(2, .int (iI i)), (0, .ref o3), (1, .int (iI n))] → W jp jl je rm_X3_raise js jm ja jb jt jc jH jL 0 0 jQ (F0 jm 2 ls []) := by
    intro mm
    induction mm using Nat.strongRecOn with
    | ind mm ih2 =>
      intro i a1 jH jL hmm2 hi h1 hP hD hS ls hl
      refine x_iln jS dX3_raise_2 rfl hl 0 rfl ?_
      refine x_aln jS dX3_raise_3 rfl hl 1 rfl ?_
      refine x_get jS hK hP h_X3_raise_X3 0 rfl rfl 2 rfl m_X3_raise_1 rfl dX3_raise_4 ?_
      refine x_alen jS hK hP 2 rfl dX3_raise_7 ?_
      refine x_cmpge jS 24 dX3_raise_8 (by decide) (by omega) (fun hc8 => ?_) (fun hc8 => ?_)
      · skip
        refine x_aln jS dX3_raise_24 rfl hl 1 rfl ?_
        refine x_get jS hK hP h_X3_raise_X3 0 rfl rfl 2 rfl m_X3_raise_1 rfl dX3_raise_25 ?_
        refine x_ic jS dX3_raise_28 ?_
        refine x_ic jS dX3_raise_29 ?_
        refine x_iast (ws' := [(o3, .inr (3, [.ref h4, .ref qw, .ref qt, .ref qd, .int (iI L)])), (qw, .inl (cI, 17, .inl (aI w))), (qt, .inl (cI, 16, .inl (aI (uI a1 0 1)))), (qd, .inl (cI, 32, .inl (aI pr))), (h4, .inr (4, [.ref q4, .int (iI P)]))]) jS hK hP hD hS 2 rfl (by omega) dX3_raise_30 rfl (fun jH jL hP hD hS => ?_)
        refine x_bi jS dX3_raise_31 (by decide) ?_
        refine x_isn (lv' := [(2, .int (iI 29)), (0, .ref o3), (1, .int (iI n))]) jS dX3_raise_33 rfl hl rfl rfl (fun ls hl => ?_)
        have loop_34 : ∀ (mm : Nat) (b : Int) (a3 : Int → Int) (pr3 : Int → Int) (jH : Heap) (jL : List Loc), (b + 1).toNat = mm → (-1 ≤ b ∧ b ≤ 29) → (Rep P L SS a3 (n / 2 ^ (b + 1).toNat)) → (∀ j : Int, 0 ≤ j → j < L → 0 ≤ a3 j ∧ a3 j < P) → va_P D vwCl [(o3, .inr (3, [.ref h4, .ref qw, .ref qt, .ref qd, .int (iI L)])), (qw, .inl (cI, 17, .inl (aI w))), (qt, .inl (cI, 16, .inl (aI a3))), (qd, .inl (cI, 32, .inl (aI pr3))), (h4, .inr (4, [.ref q4, .int (iI P)]))] jH → va_D jA [(o3, .inr (3, [.ref h4, .ref qw, .ref qt, .ref qd, .int (iI L)])), (qw, .inl (cI, 17, .inl (aI w))), (qt, .inl (cI, 16, .inl (aI a3))), (qd, .inl (cI, 32, .inl (aI pr3))), (h4, .inr (4, [.ref q4, .int (iI P)]))] → va_S jA js.heap jH jL → ∀ ls : Array Slot, lv_has ls 3 [(2, .int (iI b)), (0, .ref o3), (1, .int (iI n))] → W jp jl je rm_X3_raise js jm ja jb jt jc jH jL 0 0 jQ (F0 jm 34 ls []) := by
          intro mm
          induction mm using Nat.strongRecOn with
          | ind mm ih34 =>
            intro b a3 pr3 jH jL hmm34 hb h3 h3b hP hD hS ls hl
            refine x_iln jS dX3_raise_34 rfl hl 0 rfl ?_
            refine x_iflt jS 57 dX3_raise_35 (by decide) (by omega) (fun hc35 => ?_) (fun hc35 => ?_)
            · skip
              exact x_vretW jS jr jk jq dX3_raise_57 ⟨a3, pr3⟩ hP hD hS (show Rep P L SS a3 n ∧ (∀ j : Int, 0 ≤ j → j < L → 0 ≤ a3 j ∧ a3 j < P) from by have e : n / 2 ^ (b + 1).toNat = n := (by rw [show b + 1 = 0 by omega]; exact Int.ediv_one n); rw [e] at h3; exact ⟨h3, h3b⟩)
            · skip
              have hsh : 0 ≤ n / 2 ^ b.toNat ∧ n / 2 ^ b.toNat ≤ n := ⟨Int.ediv_nonneg hn.1 (Int.pow_nonneg (by omega)), Int.ediv_le_self _ hn.1⟩
              refine x_aln jS dX3_raise_38 rfl hl 1 rfl ?_
              refine x_iln jS dX3_raise_39 rfl hl 2 rfl ?_
              refine x_iln jS dX3_raise_40 rfl hl 0 rfl ?_
              refine x_ishr jS dX3_raise_41 (by omega) ?_
              refine x_ic jS dX3_raise_42 ?_
              refine x_iand1 jS dX3_raise_43 (by omega) ?_
              refine x_aV (wc := [(o3, .inr (3, [.ref h4, .ref qw, .ref qt, .ref qd, .int (iI L)])), (qt, .inl (cI, 16, .inl (aI a3))), (qd, .inl (cI, 32, .inl (aI pr3)))]) (wr := [(qw, .inl (cI, 17, .inl (aI w))), (h4, .inr (4, [.ref q4, .int (iI P)]))]) hP hD hS hA [0, 2, 3] [1, 4] rfl rfl (by decide) (by decide) (cs := 0) (ss := 0) rfl rfl (x_rnV (As := [.int (iI ((n / 2 ^ (b).toNat) % 2))]) (rest := []) jS hl.1 hK (c_X3_squareInto jl D cI o3 qw qt qd h4 P L ((n / 2 ^ (b).toNat) % 2) a3 pr3 _ (by first | assumption | omega) (by first | assumption | omega) (by first | assumption | omega) (by first | assumption | omega)) hP hD [0, 2, 3] rfl rfl (by decide) 0 rfl rfl gX3_raise_X3_squareInto rfl rfl rfl kf_X3_squareInto rfl rfl rfl rfl rfl dX3_raise_44 rfl rfl) (fun u jH jL hw hP hD hS => ?_)
              obtain ⟨pr2_1, rfl⟩ : ∃ z, z = u := ⟨_, rfl⟩
              have hw44 : (∀ T : Int → Int, sm (fun q => pr2_1 q * T q) 32 = sm (fun i => sm (fun j => a3 i * a3 j * T (i + j + ((n / 2 ^ (b).toNat) % 2))) L) L) ∧ (∀ q : Int, 0 ≤ q → q < 32 → 0 ≤ pr2_1 q ∧ pr2_1 q ≤ 256000000) := hw
              clear hw
              have hP : va_P D vwCl [(qw, .inl (cI, 17, .inl (aI w))), (h4, .inr (4, [.ref q4, .int (iI P)])), (o3, .inr (3, [.ref h4, .ref qw, .ref qt, .ref qd, .int (iI L)])), (qt, .inl (cI, 16, .inl (aI a3))), (qd, .inl (cI, 32, .inl (aI pr2_1)))] jH := hP
              have hD : va_D jA [(qw, .inl (cI, 17, .inl (aI w))), (h4, .inr (4, [.ref q4, .int (iI P)])), (o3, .inr (3, [.ref h4, .ref qw, .ref qt, .ref qd, .int (iI L)])), (qt, .inl (cI, 16, .inl (aI a3))), (qd, .inl (cI, 32, .inl (aI pr2_1)))] := hD
              refine x_aln jS dX3_raise_47 rfl hl 1 rfl ?_
              refine x_aV (wc := [(o3, .inr (3, [.ref h4, .ref qw, .ref qt, .ref qd, .int (iI L)])), (qw, .inl (cI, 17, .inl (aI w))), (qt, .inl (cI, 16, .inl (aI a3))), (qd, .inl (cI, 32, .inl (aI pr2_1))), (h4, .inr (4, [.ref q4, .int (iI P)]))]) (wr := []) hP hD hS hA [2, 0, 3, 4, 1] [] rfl rfl (by decide) (by decide) (cs := 0) (ss := 0) rfl rfl (x_rnV (As := []) (rest := []) jS hl.1 hK (c_X3_reduce jl D cI o3 qw qt qd h4 q4 P L w a3 pr2_1 SS _ (by first | assumption | omega) (by first | assumption | omega) (by first | assumption | omega) (by first | assumption | omega) (hw44.2)) hP hD [2, 0, 3, 4, 1] rfl rfl (by decide) 0 rfl rfl gX3_raise_X3_reduce rfl rfl rfl kf_X3_reduce rfl rfl rfl rfl rfl dX3_raise_48 rfl rfl) (fun u jH jL hw hP hD hS => ?_)
              obtain ⟨a2_2, pr2_3⟩ := u
              have hw48 : (∀ t : Int, 0 ≤ t → sm (fun i => a2_2 i * SS (t + i)) L % P = sm (fun q => pr2_1 q * SS (t + q)) 32 % P) ∧ (∀ j : Int, 0 ≤ j → j < L → 0 ≤ a2_2 j ∧ a2_2 j < P) := hw
              clear hw
              have hP : va_P D vwCl [(o3, .inr (3, [.ref h4, .ref qw, .ref qt, .ref qd, .int (iI L)])), (qw, .inl (cI, 17, .inl (aI w))), (qt, .inl (cI, 16, .inl (aI a2_2))), (qd, .inl (cI, 32, .inl (aI pr2_3))), (h4, .inr (4, [.ref q4, .int (iI P)]))] jH := hP
              have hD : va_D jA [(o3, .inr (3, [.ref h4, .ref qw, .ref qt, .ref qd, .int (iI L)])), (qw, .inl (cI, 17, .inl (aI w))), (qt, .inl (cI, 16, .inl (aI a2_2))), (qd, .inl (cI, 32, .inl (aI pr2_3))), (h4, .inr (4, [.ref q4, .int (iI P)]))] := hD
              refine x_iinc (lv' := [(2, .int (iI (b + (-1)))), (0, .ref o3), (1, .int (iI n))]) jS dX3_raise_51 hl 0 rfl rfl rfl (fun ls hl => ?_)
              refine x_goto jS 34 dX3_raise_54 (by decide) ?_
              exact ih34 _ (by omega) (b + (-1)) a2_2 pr2_3 _ _ rfl (by omega) (fun t x => by rw [hw48.1 t x, hw44.1 (fun q => SS (t + q)), rep_sq h3 (Int.ediv_nonneg hn.1 (Int.pow_nonneg (by omega))) (by omega) x, show b + -1 + 1 = b by omega, ← half_step n b (by omega)]) (hw48.2) hP hD hS ls (lv_sub hl [0, 1, 2] rfl)
        exact loop_34 _ 29 (uI a1 0 1) pr _ _ rfl (by omega) (by have e : n / 2 ^ ((29 : Int) + 1).toNat = 0 := Int.ediv_eq_zero_of_lt hn.1 (by show n < 1073741824; omega); rw [e]; exact rep_1 (fun j x y => h1 j x (by omega)) hL) (fun j x y => by by_cases e : j = 0; rw [e, uI_s]; omega; rw [uI_n e, h1 j x (by omega)]; omega) hP hD hS ls (lv_sub hl [0, 1, 2] rfl)
      · skip
        refine x_aln jS dX3_raise_11 rfl hl 1 rfl ?_
        refine x_get jS hK hP h_X3_raise_X3 0 rfl rfl 2 rfl m_X3_raise_1 rfl dX3_raise_12 ?_
        refine x_iln jS dX3_raise_15 rfl hl 0 rfl ?_
        refine x_ic jS dX3_raise_16 ?_
        refine x_iast (ws' := [(o3, .inr (3, [.ref h4, .ref qw, .ref qt, .ref qd, .int (iI L)])), (qw, .inl (cI, 17, .inl (aI w))), (qt, .inl (cI, 16, .inl (aI (uI a1 i 0)))), (qd, .inl (cI, 32, .inl (aI pr))), (h4, .inr (4, [.ref q4, .int (iI P)]))]) jS hK hP hD hS 2 rfl (by omega) dX3_raise_17 rfl (fun jH jL hP hD hS => ?_)
        refine x_iinc (lv' := [(2, .int (iI (i + 1))), (0, .ref o3), (1, .int (iI n))]) jS dX3_raise_18 hl 0 rfl rfl rfl (fun ls hl => ?_)
        refine x_goto jS 2 dX3_raise_21 (by decide) ?_
        exact ih2 _ (by omega) (i + 1) (uI a1 i 0) _ _ rfl (by omega) (fun j x y => by rcases Int.lt_or_le j i with q | q; rw [uI_n (by omega)]; exact h1 j x q; rw [show j = i by omega, uI_s]) hP hD hS ls (lv_sub hl [0, 1, 2] rfl)
  exact loop_2 _ 0 a _ _ rfl (by omega) (fun j x y => by omega) hP hD hS ls (lv_sub hl [0, 1, 2] rfl)
theorem h_X3_numberAt_X6 : ∀ w ∈ u_ws RX6 TX6 8, w ∈ wsX3_numberAt := fun w h => List.mem_cons_of_mem _ (List.mem_append_left _ (List.mem_append_left _ (List.mem_append_right _ h)))
theorem kf_X3_takeWeights : kfV yX3_takeWeights RX3 1 := by decide +kernel
theorem kf_X3_raise : kfV yX3_raise RX3 1 := by decide +kernel
theorem h_X3_numberAt_X3 : ∀ w ∈ u_ws RX3 TX3 5, w ∈ wsX3_numberAt := fun w h => List.mem_cons_of_mem _ (List.mem_append_left _ (List.mem_append_right _ h))
theorem m_X3_numberAt_1 : Cond.fieldLink RX3 21 "SealedBox$Onward" "length" "I" ∈ wsX3_numberAt := List.mem_of_getElem? (i := 1) rfl
theorem m_X3_numberAt_3 : Cond.fieldLink RX3 25 "SealedBox$Onward" "numbers" "LSealedBox$PrimeField;" ∈ wsX3_numberAt := List.mem_of_getElem? (i := 3) rfl
theorem h_X3_numberAt_X4 : ∀ w ∈ u_ws RX4 TX4 2, w ∈ wsX3_numberAt := fun w h => List.mem_cons_of_mem _ (List.mem_append_right _ h)
theorem m_X3_numberAt_2 : Cond.fieldLink RX3 15 "SealedBox$Onward" "rest" "[I" ∈ wsX3_numberAt := List.mem_of_getElem? (i := 2) rfl
abbrev rm_X3_numberAt : Room := { frames := 3, cells := 0, slots := 0, locals := 65 }
set_option maxHeartbeats 4000000 in
set_option maxRecDepth 100000 in
theorem c_X3_numberAt (jl : Launch) (D : va_G) (cI : ClassId) (o3 qw qt qd h6 qn qo qs qr h4 q4 : Nat) (P L0 L fL f m n : Int) (w a pr now row SS : Int → Int) (sz : Nat) (hP5 : 5 ≤ P ∧ P ≤ 997) (hL : 0 ≤ L ∧ L ≤ 16) (hn : 0 ≤ n ∧ n ≤ 1000000000) (hnow : ∀ j : Int, 0 ≤ j → j ≤ 16 → 0 ≤ now j ∧ now j < P) (hrow : ∀ j : Int, 0 ≤ j → j < L → 0 ≤ row j ∧ row j < P) (hgo : goesOn P L (fun j => (0 + P - now j) % P) SS) (hSS : ∀ j : Int, 0 ≤ j → j < L → SS j = row j) : Met jl yX3_numberAt wsX3_numberAt rm_X3_numberAt (xPw [.ref o3, .int (iI n), .ref h6, .ref qr] D cI [(o3, .inr (3, [.ref h4, .ref qw, .ref qt, .ref qd, .int (iI L0)])), (qw, .inl (cI, 17, .inl (aI w))), (qt, .inl (cI, 16, .inl (aI a))), (qd, .inl (cI, 32, .inl (aI pr))), (h6, .inr (6, [.ref h4, .ref qn, .ref qo, .ref qs, .int (iI L), .int (iI fL), .int (iI f), .int (iI m)])), (qn, .inl (cI, 17, .inl (aI now))), (qr, .inl (cI, 16, .inl (aI row))), (h4, .inr (4, [.ref q4, .int (iI P)]))] sz) (va_Qi (fun (r : Int32) (u : Int × (Int → Int) × (Int → Int) × (Int → Int)) => r = (iI (if L = 0 then 0 else SS n % P)) ∧ True) (xB D (fun (u : Int × (Int → Int) × (Int → Int) × (Int → Int)) => [(o3, .inr (3, [.ref h4, .ref qw, .ref qt, .ref qd, .int (iI u.1)])), (qw, .inl (cI, 17, .inl (aI u.2.1))), (qt, .inl (cI, 16, .inl (aI u.2.2.1))), (qd, .inl (cI, 32, .inl (aI u.2.2.2))), (h6, .inr (6, [.ref h4, .ref qn, .ref qo, .ref qs, .int (iI L), .int (iI fL), .int (iI f), .int (iI m)])), (qn, .inl (cI, 17, .inl (aI now))), (qr, .inl (cI, 16, .inl (aI row))), (h4, .inr (4, [.ref q4, .int (iI P)]))]) (va_A [(o3, .inr (3, [.ref h4, .ref qw, .ref qt, .ref qd, .int (iI L0)])), (qw, .inl (cI, 17, .inl (aI w))), (qt, .inl (cI, 16, .inl (aI a))), (qd, .inl (cI, 32, .inl (aI pr))), (h6, .inr (6, [.ref h4, .ref qn, .ref qo, .ref qs, .int (iI L), .int (iI fL), .int (iI f), .int (iI m)])), (qn, .inl (cI, 17, .inl (aI now))), (qr, .inl (cI, 16, .inl (aI row))), (h4, .inr (4, [.ref q4, .int (iI P)]))] sz)) (va_A [(o3, .inr (3, [.ref h4, .ref qw, .ref qt, .ref qd, .int (iI L0)])), (qw, .inl (cI, 17, .inl (aI w))), (qt, .inl (cI, 16, .inl (aI a))), (qd, .inl (cI, 32, .inl (aI pr))), (h6, .inr (6, [.ref h4, .ref qn, .ref qo, .ref qs, .int (iI L), .int (iI fL), .int (iI f), .int (iI m)])), (qn, .inl (cI, 17, .inl (aI now))), (qr, .inl (cI, 16, .inl (aI row))), (h4, .inr (4, [.ref q4, .int (iI P)]))] sz)) 0 0 (va_A [(o3, .inr (3, [.ref h4, .ref qw, .ref qt, .ref qd, .int (iI L0)])), (qw, .inl (cI, 17, .inl (aI w))), (qt, .inl (cI, 16, .inl (aI a))), (qd, .inl (cI, 32, .inl (aI pr))), (h6, .inr (6, [.ref h4, .ref qn, .ref qo, .ref qs, .int (iI L), .int (iI fL), .int (iI f), .int (iI m)])), (qn, .inl (cI, 17, .inl (aI now))), (qr, .inl (cI, 16, .inl (aI row))), (h4, .inr (4, [.ref q4, .int (iI P)]))] sz) := by
  refine x_metW (own := RX3) (cc := cX3_numberAt) (maxL := 6) (ret := (some .int)) (Qc := fun jA => va_Qi (fun (r : Int32) (u : Int × (Int → Int) × (Int → Int) × (Int → Int)) => r = (iI (if L = 0 then 0 else SS n % P)) ∧ True) (xB D (fun (u : Int × (Int → Int) × (Int → Int) × (Int → Int)) => [(o3, .inr (3, [.ref h4, .ref qw, .ref qt, .ref qd, .int (iI u.1)])), (qw, .inl (cI, 17, .inl (aI u.2.1))), (qt, .inl (cI, 16, .inl (aI u.2.2.1))), (qd, .inl (cI, 32, .inl (aI u.2.2.2))), (h6, .inr (6, [.ref h4, .ref qn, .ref qo, .ref qs, .int (iI L), .int (iI fL), .int (iI f), .int (iI m)])), (qn, .inl (cI, 17, .inl (aI now))), (qr, .inl (cI, 16, .inl (aI row))), (h4, .inr (4, [.ref q4, .int (iI P)]))]) jA) jA) (by decide) rfl rfl rfl ?_
  intro jp je js jm ja jb jt jc jA jQ jS jr jk jn jq hK hP hD hA hS ls hl
  have hl : lv_has ls 6 [(0, .ref o3), (1, .int (iI n)), (2, .ref h6), (3, .ref qr)] := hl
  refine x_aln jS dX3_numberAt_0 rfl hl 2 rfl ?_
  refine x_getN jS hK hP h_X3_numberAt_X6 4 rfl rfl 4 rfl 10 rfl rfl dX3_numberAt_1 ?_
  refine x_ic jS dX3_numberAt_4 ?_
  refine x_cmplt jS 17 dX3_numberAt_5 (by decide) (by omega) (fun hc5 => ?_) (fun hc5 => ?_)
  · skip
    refine x_ic jS dX3_numberAt_17 ?_
    exact x_iretW jS jr jk jq dX3_numberAt_18 ⟨L0, w, a, pr⟩ hP hD hS (show (iI 0) = (iI (if L = 0 then 0 else SS n % P)) ∧ True from ⟨by rw [if_pos (by omega)], trivial⟩)
  · skip
    refine x_aln jS dX3_numberAt_8 rfl hl 2 rfl ?_
    refine x_getN jS hK hP h_X3_numberAt_X6 4 rfl rfl 4 rfl 10 rfl rfl dX3_numberAt_9 ?_
    refine x_bi jS dX3_numberAt_12 (by decide) ?_
    refine x_cmple jS 19 dX3_numberAt_14 (by decide) (by omega) (fun hc14 => ?_) (fun hc14 => ?_)
    rotate_left
    · exfalso; omega
    refine x_aln jS dX3_numberAt_19 rfl hl 0 rfl ?_
    refine x_aln jS dX3_numberAt_20 rfl hl 2 rfl ?_
    refine x_aV (wc := [(o3, .inr (3, [.ref h4, .ref qw, .ref qt, .ref qd, .int (iI L0)])), (qw, .inl (cI, 17, .inl (aI w))), (h6, .inr (6, [.ref h4, .ref qn, .ref qo, .ref qs, .int (iI L), .int (iI fL), .int (iI f), .int (iI m)])), (qn, .inl (cI, 17, .inl (aI now))), (h4, .inr (4, [.ref q4, .int (iI P)]))]) (wr := [(qt, .inl (cI, 16, .inl (aI a))), (qd, .inl (cI, 32, .inl (aI pr))), (qr, .inl (cI, 16, .inl (aI row)))]) hP hD hS hA [0, 1, 4, 5, 7] [2, 3, 6] rfl rfl (by decide) (by decide) (cs := 0) (ss := 0) rfl rfl (x_rnV (As := [.ref h6]) (rest := []) jS hl.1 hK (c_X3_takeWeights jl D cI o3 qw qt qd h6 qn qo qs h4 q4 P L0 L fL f m w now _ (by first | assumption | omega) (by first | assumption | omega) (by first | assumption | omega)) hP hD [0, 1, 4, 5, 7] rfl rfl (by decide) 0 rfl rfl gX3_numberAt_X3_takeWeights rfl rfl rfl kf_X3_takeWeights rfl rfl rfl rfl rfl dX3_numberAt_21 rfl rfl) (fun u jH jL hw hP hD hS => ?_)
    obtain ⟨w3, rfl⟩ : ∃ z, z = u := ⟨_, rfl⟩
    have hw21 : ∀ j : Int, 1 ≤ j → j ≤ L → w3 j = (0 + P - now j) % P := hw
    clear hw
    have hP : va_P D vwCl [(qt, .inl (cI, 16, .inl (aI a))), (qd, .inl (cI, 32, .inl (aI pr))), (qr, .inl (cI, 16, .inl (aI row))), (o3, .inr (3, [.ref h4, .ref qw, .ref qt, .ref qd, .int (iI L)])), (qw, .inl (cI, 17, .inl (aI w3))), (h6, .inr (6, [.ref h4, .ref qn, .ref qo, .ref qs, .int (iI L), .int (iI fL), .int (iI f), .int (iI m)])), (qn, .inl (cI, 17, .inl (aI now))), (h4, .inr (4, [.ref q4, .int (iI P)]))] jH := hP
    have hD : va_D jA [(qt, .inl (cI, 16, .inl (aI a))), (qd, .inl (cI, 32, .inl (aI pr))), (qr, .inl (cI, 16, .inl (aI row))), (o3, .inr (3, [.ref h4, .ref qw, .ref qt, .ref qd, .int (iI L)])), (qw, .inl (cI, 17, .inl (aI w3))), (h6, .inr (6, [.ref h4, .ref qn, .ref qo, .ref qs, .int (iI L), .int (iI fL), .int (iI f), .int (iI m)])), (qn, .inl (cI, 17, .inl (aI now))), (h4, .inr (4, [.ref q4, .int (iI P)]))] := hD
    refine x_aln jS dX3_numberAt_24 rfl hl 0 rfl ?_
    refine x_iln jS dX3_numberAt_25 rfl hl 1 rfl ?_
    have hwb : ∀ j : Int, 1 ≤ j → j ≤ L → 0 ≤ w3 j ∧ w3 j < P := fun j x y => by rw [hw21 j x y]; exact emB (by omega) _
    have hgo3 : goesOn P L w3 SS := fun i x => by rw [hgo i x]; congr 1; exact sm_congr (fun k y z => by rw [hw21 (k + 1) (by omega) (by omega)])
    refine x_aV (wc := [(o3, .inr (3, [.ref h4, .ref qw, .ref qt, .ref qd, .int (iI L)])), (qw, .inl (cI, 17, .inl (aI w3))), (qt, .inl (cI, 16, .inl (aI a))), (qd, .inl (cI, 32, .inl (aI pr))), (h4, .inr (4, [.ref q4, .int (iI P)]))]) (wr := [(qr, .inl (cI, 16, .inl (aI row))), (h6, .inr (6, [.ref h4, .ref qn, .ref qo, .ref qs, .int (iI L), .int (iI fL), .int (iI f), .int (iI m)])), (qn, .inl (cI, 17, .inl (aI now)))]) hP hD hS hA [3, 4, 0, 1, 7] [2, 5, 6] rfl rfl (by decide) (by decide) (cs := 0) (ss := 0) rfl rfl (x_rnV (As := [.int (iI n)]) (rest := []) jS hl.1 hK (c_X3_raise jl D cI o3 qw qt qd h4 q4 P L n w3 a pr SS _ (by first | assumption | omega) (by first | assumption | omega) (by first | assumption | omega) (by first | assumption | omega) (by first | assumption | omega)) hP hD [3, 4, 0, 1, 7] rfl rfl (by decide) 0 rfl rfl gX3_numberAt_X3_raise rfl rfl rfl kf_X3_raise rfl rfl rfl rfl rfl dX3_numberAt_26 rfl rfl) (fun u jH jL hw hP hD hS => ?_)
    obtain ⟨a3, pr2_1⟩ := u
    have hw26 : Rep P L SS a3 n ∧ (∀ j : Int, 0 ≤ j → j < L → 0 ≤ a3 j ∧ a3 j < P) := hw
    clear hw
    have hP : va_P D vwCl [(qr, .inl (cI, 16, .inl (aI row))), (h6, .inr (6, [.ref h4, .ref qn, .ref qo, .ref qs, .int (iI L), .int (iI fL), .int (iI f), .int (iI m)])), (qn, .inl (cI, 17, .inl (aI now))), (o3, .inr (3, [.ref h4, .ref qw, .ref qt, .ref qd, .int (iI L)])), (qw, .inl (cI, 17, .inl (aI w3))), (qt, .inl (cI, 16, .inl (aI a3))), (qd, .inl (cI, 32, .inl (aI pr2_1))), (h4, .inr (4, [.ref q4, .int (iI P)]))] jH := hP
    have hD : va_D jA [(qr, .inl (cI, 16, .inl (aI row))), (h6, .inr (6, [.ref h4, .ref qn, .ref qo, .ref qs, .int (iI L), .int (iI fL), .int (iI f), .int (iI m)])), (qn, .inl (cI, 17, .inl (aI now))), (o3, .inr (3, [.ref h4, .ref qw, .ref qt, .ref qd, .int (iI L)])), (qw, .inl (cI, 17, .inl (aI w3))), (qt, .inl (cI, 16, .inl (aI a3))), (qd, .inl (cI, 32, .inl (aI pr2_1))), (h4, .inr (4, [.ref q4, .int (iI P)]))] := hD
    refine x_ic jS dX3_numberAt_29 ?_
    refine x_is (lv' := [(4, .int (iI 0)), (0, .ref o3), (1, .int (iI n)), (2, .ref h6), (3, .ref qr)]) jS dX3_numberAt_30 hl rfl rfl (fun ls hl => ?_)
    refine x_ic jS dX3_numberAt_32 ?_
    refine x_is (lv' := [(5, .int (iI 0)), (4, .int (iI 0)), (0, .ref o3), (1, .int (iI n)), (2, .ref h6), (3, .ref qr)]) jS dX3_numberAt_33 hl rfl rfl (fun ls hl => ?_)
    have loop_35 : ∀ (mm : Nat) (r : Int) (i : Int), (L - i).toNat = mm → (0 ≤ i ∧ i ≤ L) → (r = sm (fun k => a3 k * row k) i) → (0 ≤ r ∧ r ≤ i * 1000000) → ∀ ls : Array Slot, lv_has ls 6 [(5, .int (iI i)), (4, .int (iI r)), (0, .ref o3), (1, .int (iI n)), (2, .ref h6), (3, .ref qr)] → W jp jl je rm_X3_numberAt js jm ja jb jt jc jH jL 0 0 jQ (F0 jm 35 ls []) := by
      intro mm
      induction mm using Nat.strongRecOn with
      | ind mm ih35 =>
        intro r i hmm35 hi hr hrb ls hl
        refine x_il jS dX3_numberAt_35 hl 0 rfl ?_
        refine x_aln jS dX3_numberAt_37 rfl hl 2 rfl ?_
        refine x_get jS hK hP h_X3_numberAt_X3 3 rfl rfl 4 rfl m_X3_numberAt_1 rfl dX3_numberAt_38 ?_
        refine x_cmpge jS 74 dX3_numberAt_41 (by decide) (by omega) (fun hc41 => ?_) (fun hc41 => ?_)
        · skip
          refine x_il jS dX3_numberAt_74 hl 1 rfl ?_
          refine x_aln jS dX3_numberAt_76 rfl hl 2 rfl ?_
          refine x_get jS hK hP h_X3_numberAt_X3 3 rfl rfl 0 rfl m_X3_numberAt_3 rfl dX3_numberAt_77 ?_
          refine x_getN jS hK hP h_X3_numberAt_X4 7 rfl rfl 1 rfl 1 rfl rfl dX3_numberAt_80 ?_
          refine x_irem jS dX3_numberAt_83 (by omega) (fun hm83 => ?_)
          exact x_iretW jS jr jk jq dX3_numberAt_84 ⟨L, w3, a3, pr2_1⟩ (hP.sub [3, 4, 5, 6, 1, 2, 0, 7] rfl) (hD.sub [3, 4, 5, 6, 1, 2, 0, 7] (by decide) rfl) hS (show (iI (r % P)) = (iI (if L = 0 then 0 else SS n % P)) ∧ True from ⟨by rw [if_neg (by omega), hr, show i = L by omega]; congr 1; have e := hw26.1 0 (by omega); rw [show (0 : Int) + n = n by omega] at e; rw [← e]; congr 1; exact sm_congr (fun k x y => by rw [show (0 : Int) + k = k by omega, hSS k x y]), trivial⟩)
        · skip
          refine x_il jS dX3_numberAt_44 hl 0 rfl ?_
          refine x_aln jS dX3_numberAt_46 rfl hl 5 rfl ?_
          refine x_alen jS hK hP 0 rfl dX3_numberAt_47 ?_
          refine x_cmpge jS 74 dX3_numberAt_48 (by decide) (by omega) (fun hc48 => ?_) (fun hc48 => ?_)
          · exfalso; omega
          refine x_il jS dX3_numberAt_51 hl 1 rfl ?_
          refine x_aln jS dX3_numberAt_53 rfl hl 2 rfl ?_
          refine x_get jS hK hP h_X3_numberAt_X3 3 rfl rfl 2 rfl m_X3_numberAt_2 rfl dX3_numberAt_54 ?_
          refine x_il jS dX3_numberAt_57 hl 0 rfl ?_
          refine x_iald jS hK hP 5 rfl (by omega) dX3_numberAt_59 ?_
          have hb59 := hw26.2 i (by omega) (by omega)
          refine x_aln jS dX3_numberAt_60 rfl hl 5 rfl ?_
          refine x_il jS dX3_numberAt_61 hl 0 rfl ?_
          refine x_iald jS hK hP 0 rfl (by omega) dX3_numberAt_63 ?_
          have hb63 := hrow i (by omega) (by omega)
          refine x_imulB jS dX3_numberAt_64 (by omega) (fun hp64 => ?_)
          refine x_iadd jS dX3_numberAt_65 ?_
          refine x_is (lv' := [(4, .int (iI (r + ((a3 i) * (row i))))), (5, .int (iI i)), (0, .ref o3), (1, .int (iI n)), (2, .ref h6), (3, .ref qr)]) jS dX3_numberAt_66 hl rfl rfl (fun ls hl => ?_)
          refine x_iinc (lv' := [(5, .int (iI (i + 1))), (4, .int (iI (r + ((a3 i) * (row i))))), (0, .ref o3), (1, .int (iI n)), (2, .ref h6), (3, .ref qr)]) jS dX3_numberAt_68 hl 1 rfl rfl rfl (fun ls hl => ?_)
          refine x_goto jS 35 dX3_numberAt_71 (by decide) ?_
          exact ih35 _ (by omega) (r + ((a3 i) * (row i))) (i + 1) rfl (by omega) (by rw [sm_s _ hi.1, ← hr]) (by omega) ls (lv_sub hl [0, 1, 2, 3, 4, 5] rfl)
    exact loop_35 _ 0 0 rfl (by omega) ((sm_0 _).symm) (by omega) ls (lv_sub hl [0, 1, 2, 3, 4, 5] rfl)
end
