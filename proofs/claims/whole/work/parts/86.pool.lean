/-! a call beside cells that are not spoken of; the words both sides answer with -/
section XP
variable {p : Program} {l : Launch} {e : Env} {R : Room} {s : State} {m : MethodId} {args : Array Value} {below : List Frame} {meth : Method} {c : Code} {H : Heap} {locs : List Loc} {cells slots mc ms : Nat} {Q : State → Prop}
variable {pc : Nat} {ls : Array Slot} {rest st0 : List Value} {D : va_G} {X wc wr pl : va_W} {A : Nat → Prop} {H0 : Heap}
theorem x_aIp {T : Type} {post : Int32 → T → Prop} {w1 : T → va_W} {av : Array Value} (hP : va_P D vwCl (X ++ pl) H) (hD : va_D A (X ++ pl)) (hS : va_S A H0 H locs) (hA : ∀ q, H0.size ≤ q → A q) (isC isR : List Nat) (hsC : isC.map (fun i => X[i]?) = wc.map some) (hsD : isC.map (fun i => (X ++ pl)[i]?) = wc.map some) (hsR : isR.map (fun i => X[i]?) = wr.map some) (hnR : va_nd isR = true) (hdis : isR.all (fun i => !isC.contains i) = true) {cs ss : Nat} (hcs : cells + mc = cs) (hss : slots + ms = ss)
    (hr : va_Run p l e R s m args below meth c H locs cells slots mc ms (F0 m pc ls st0) rest (va_Qi post (xB D w1 (va_A wc H.size)) (va_A wc H.size) av) (va_A wc H.size))
    (kk : ∀ (r : Int32) (u : T) (H1 : Heap) (locs1 : List Loc), post r u → va_P D vwCl ((wr ++ w1 u) ++ pl) H1 → va_D A ((wr ++ w1 u) ++ pl) → va_S A H0 H1 locs1 → W p l e R s m args below meth c H1 locs1 cs ss Q (F0 m (pc + 3) ls (.int r :: rest))) : W p l e R s m args below meth c H locs cells slots Q (F0 m pc ls st0) := by
  subst hcs; subst hss
  have hF := va_free (wc := wc) hD hS hA isC hsD
  refine va_calli hr hS (fun q _ h => hF q h) hF (fun r u t H1 locs1 ht hvm hw hB hz1 hk1 hS1 => ?_)
  obtain ⟨hP1, hD1⟩ := hB
  rw [ht] at hP1
  obtain ⟨hP2, hD2⟩ := va_joinQ (wr := wr) (w1 := w1 u) hP hD isC isR hsC hsR hnR (x_dis hdis) hk1 hF hP1 hD1
  exact kk r u H1 locs1 hw hP2 hD2 hS1
end XP
theorem sq_go (P : Int) {L : Int} (w row : Int → Int) : goesOn P L w (sqV L w row) := by
  intro i hi
  congr 1
  have e : (i - L + 1).toNat = (i - L).toNat + 1 := by omega
  show sqN L w row (i - L + 1).toNat i = _
  rw [e]
  show (if i = L + ((i - L).toNat : Int) then _ else _) = _
  rw [if_pos (by omega)]
  exact sm_congr (fun k a b => by rw [sqV_at L w row (by omega)])
theorem sq_st (L : Int) (w row : Int → Int) : ∀ j : Int, 0 ≤ j → j < L → sqV L w row j = row j := fun j a b => by
  unfold sqV
  rw [show (j - L + 1).toNat = 0 by omega]
  rfl
noncomputable def kcF (P : Int) (AN : Int → Int) : Int → Int := (kc_ex P AN).choose
theorem kcF_ok (P : Int) (AN : Int → Int) : gKC P AN (kcF P AN) := (kc_ex P AN).choose_spec
noncomputable def xsF (P : Int) (AN : Int → Int) : Int → Int := if h : okP P then (xs_ex h AN (kcF P AN)).choose else fun _ => 0
theorem xsF_ok {P : Int} (h : okP P) (AN : Int → Int) : gXS P AN (kcF P AN) (xsF P AN) := by
  unfold xsF
  rw [dif_pos h]
  exact (xs_ex h AN (kcF P AN)).choose_spec
theorem tbl_F {P : Int} {iv : Int → Int} (h : okP P) (t : tbl P iv) : tbF P iv := fun w a b => by
  have q := t w a b
  refine ⟨q.1, q.2.1, ?_⟩
  have i := ivF_in (show 0 < P by omega) w
  have e : (w * (iv w - ivF P w)) % P = 0 := by
    rw [Int.mul_sub, Int.sub_emod, q.2.2, ivF_ok h a b]; rfl
  rcases mod_z h e with z | z
  · rw [Int.emod_eq_of_lt (by omega) b] at z; omega
  · exact Classical.byContradiction (fun n => gs_dif ⟨q.1, q.2.1⟩ i n z)
/-- what holds of every state -/
def stOK (P sh sc k1 n1 k2 n2 cnt : Int) (pt1 pt2 row : Int → Int) : Prop := okP P ∧ (0 ≤ sh ∧ sh ≤ 996 ∧ 1 ≤ sc ∧ sc ≤ 996) ∧ (0 ≤ k1 ∧ k1 ≤ 2) ∧ (0 ≤ k2 ∧ k2 ≤ 2) ∧ (0 ≤ n1 ∧ n1 ≤ 4) ∧ (0 ≤ n2 ∧ n2 ≤ 4) ∧ bxOK P n1 pt1 ∧ bxOK P n2 pt2 ∧ (0 ≤ cnt ∧ cnt ≤ 16) ∧ ∀ j : Int, 0 ≤ j → j < cnt → 0 ≤ row j ∧ row j < P
