/-! calls beside cells that are not spoken of; pictures of the two objects -/
theorem map_app : ∀ {is : List Nat} {X wc pl : va_W}, is.map (fun i => X[i]?) = wc.map some → is.map (fun i => (X ++ pl)[i]?) = wc.map some
  | [], _, _, _, h => h
  | _ :: _, _, [], _, h => by cases h
  | i :: is, X, w :: wc, pl, h => by
    have h1 : X[i]? = some w := (List.cons.inj h).1
    have h2 : is.map (fun i => X[i]?) = wc.map some := (List.cons.inj h).2
    have h3 : (X ++ pl)[i]? = some w := by rw [List.getElem?_append_left (List.getElem?_eq_some_iff.mp h1).1]; exact h1
    show (X ++ pl)[i]? :: is.map (fun i => (X ++ pl)[i]?) = some w :: wc.map some
    rw [map_app h2, h3]
theorem map_fm : ∀ {is : List Nat} {X wc : va_W}, is.map (fun i => X[i]?) = wc.map some → is.filterMap (fun i => X[i]?) = wc
  | [], _, [], _ => rfl
  | [], _, _ :: _, h => by cases h
  | _ :: _, _, [], h => by cases h
  | i :: is, X, w :: wc, h => by
    have h1 : X[i]? = some w := (List.cons.inj h).1
    have h2 : is.map (fun i => X[i]?) = wc.map some := (List.cons.inj h).2
    rw [List.filterMap_cons_some (f := fun i => X[i]?) h1, map_fm h2]
theorem sw_at {a b : va_W} {k : Nat} {q : Nat × va_E} (h : (b ++ a)[k]? = some q) : (a ++ b)[if k < b.length then a.length + k else k - b.length]? = some q ∧ k < b.length + a.length := by
  have hk : k < (b ++ a).length := (List.getElem?_eq_some_iff.mp h).1
  rw [List.length_append] at hk
  refine ⟨?_, hk⟩
  by_cases hb : k < b.length
  · rw [if_pos hb, List.getElem?_append_right (by omega), show a.length + k - a.length = k by omega]
    rw [List.getElem?_append_left hb] at h
    exact h
  · rw [if_neg hb, List.getElem?_append_left (by omega)]
    rw [List.getElem?_append_right (by omega)] at h
    exact h
theorem va_Pswap {D : va_G} {a b : va_W} {H : Heap} (h : va_P D vwCl (a ++ b) H) : va_P D vwCl (b ++ a) H := fun _ q hk => h _ q (sw_at hk).1
theorem va_Dswap {A : Nat → Prop} {a b : va_W} (h : va_D A (a ++ b)) : va_D A (b ++ a) := ⟨fun i j p q hp hq e => by
  have h1 := sw_at hp
  have h2 := sw_at hq
  have h3 := h.1 _ _ p q h1.1 h2.1 e
  have b1 := h1.2
  have b2 := h2.2
  by_cases x : i < b.length
  · rw [if_pos x] at h3
    by_cases z : j < b.length
    · rw [if_pos z] at h3; omega
    · rw [if_neg z] at h3; omega
  · rw [if_neg x] at h3
    by_cases z : j < b.length
    · rw [if_pos z] at h3; omega
    · rw [if_neg z] at h3; omega, fun _ q hk => h.2 _ q (sw_at hk).1⟩
theorem x_part {D : va_G} {A : Nat → Prop} {X cx pl : va_W} {H : Heap} (hP : va_P D vwCl (X ++ pl) H) (hD : va_D A (X ++ pl)) (is : List Nat) (hn : va_nd is = true) (hs : is.map (fun i => X[i]?) = cx.map some) : va_P D vwCl (cx ++ pl) H ∧ va_D A (cx ++ pl) := ⟨hP.part is hs, hD.part is hn hs⟩
section XQ
variable {p : Program} {l : Launch} {e : Env} {R : Room} {s : State} {m : MethodId} {args : Array Value} {below : List Frame} {meth : Method} {c : Code} {H : Heap} {locs : List Loc} {cells slots : Nat} {Q : State → Prop}
variable {cc : ByteArray} {pc nL : Nat} {ls : Array Slot} {rest st0 : List Value} {Ts : List Cond} {own : String} {D : va_G} {cI : ClassId} {X wc wr pl : va_W} {A : Nat → Prop} {H0 : Heap} {b : Nat}
variable {y : MethodName} {wsy wsy' : List Cond} {rm : Room} {bytes : ByteArray} {maxL index n : Nat} {ret : Option FieldType} {As : List Value}
theorem x_aIq {T : Type} {post : Int32 → T → Prop} {w1 : T → va_W} (S : CallFix p m c cc nL s args Ts own) (hl : ls.size = nL) (hK : xK D cI s) (hM : Met l y wsy rm (xPw (.ref b :: As) D cI wc H.size) (va_Qi post (xB D w1 (va_A wc H.size)) (va_A wc H.size)) 0 0 (va_A wc H.size)) (hP : va_P D vwCl (X ++ pl) H) (hD : va_D A (X ++ pl)) (hS : va_S A H0 H locs) (hA : ∀ q, H0.size ≤ q → A q) (isC isR : List Nat) (hsC : isC.map (fun i => X[i]?) = wc.map some) (hsR : isR.map (fun i => X[i]?) = wr.map some) (hnC : va_nd isC = true) (hnR : va_nd isR = true) (hdis : isR.all (fun i => !isC.contains i) = true) {C : String} {ci : Nat} {T0 : u_T} {N : Nat} {fs : List Value} (he : wc[0]? = some (b, .inr (ci, fs))) (hc : vwCl[ci]? = some (C, T0, N)) (hG : GoodIn Ts (wsV own index C y wsy)) (hw : wsy = Cond.code y bytes maxL ret :: wsy') (hrc : rm.cells = 0) (hrs : rm.slots = 0) (hd : kfV y C n) (hR1 : Nat.ble (rm.frames + 1) R.frames = true) (hR2 : Nat.ble (8 + (maxL + 11) + rm.locals) R.locals = true) (hn : As.length = n) (hst : st0 = As.reverse ++ .ref b :: rest) (hrm : Nat.ble (rest.map fun v => v.category).sum 8 = true) (hdg : decode cc pc = .ok (.invokevirtual index, 3)) (hf1 : Nat.ble cells R.cells = true) (hf2 : Nat.ble slots R.slots = true)
    (kk : ∀ (r : Int32) (u : T) (H1 : Heap) (locs1 : List Loc), post r u → va_P D vwCl ((wr ++ w1 u) ++ pl) H1 → va_D A ((wr ++ w1 u) ++ pl) → va_S A H0 H1 locs1 → W p l e R s m args below meth c H1 locs1 cells slots Q (F0 m (pc + 3) ls (.int r :: rest))) : W p l e R s m args below meth c H locs cells slots Q (F0 m pc ls st0) :=
  have hsD := map_app (pl := pl) hsC
  x_aIp (mc := 0) (ms := 0) (cs := cells) (ss := slots) hP hD hS hA isC isR hsC hsD hsR hnR hdis rfl rfl (x_rnV (As := As) (rest := rest) S hl hK hM hP hD isC (map_fm hsD) hsD hnC 0 he hc hG hw hrc hrs hd hR1 hR2 hn hst hrm hdg hf1 hf2) kk
theorem x_rIq {v : Int32} (S : CallFix p m c cc nL s args Ts own) (hl : ls.size = nL) (hK : xK D cI s) (hM : Met l y wsy rm (xPr (.ref b :: As) D cI wc) (vp_Si (fun r => r = v)) 0 0 (fun _ => False)) (hP : va_P D vwCl (X ++ pl) H) (isC : List Nat) (hsC : isC.map (fun i => X[i]?) = wc.map some) {C : String} {ci : Nat} {T0 : u_T} {N : Nat} {fs : List Value} (he : wc[0]? = some (b, .inr (ci, fs))) (hc : vwCl[ci]? = some (C, T0, N)) (hG : GoodIn Ts (wsV own index C y wsy)) (hw : wsy = Cond.code y bytes maxL ret :: wsy') (hrc : rm.cells = 0) (hrs : rm.slots = 0) (hd : kfV y C n) (hR1 : Nat.ble (rm.frames + 1) R.frames = true) (hR2 : Nat.ble (8 + (maxL + 11) + rm.locals) R.locals = true) (hn : As.length = n) (hst : st0 = As.reverse ++ .ref b :: rest) (hrm : Nat.ble (rest.map fun v => v.category).sum 8 = true) (hdg : decode cc pc = .ok (.invokevirtual index, 3)) (hf1 : Nat.ble cells R.cells = true) (hf2 : Nat.ble slots R.slots = true)
    (kk : W p l e R s m args below meth c H locs cells slots Q (F0 m (pc + 3) ls (.int v :: rest))) : W p l e R s m args below meth c H locs cells slots Q (F0 m pc ls st0) :=
  x_rI (x_rmV (As := As) (rest := rest) S hl hK hM (hP.sub isC (map_fm (map_app hsC))) 0 he hc hG hw hrc hrs hd hR1 hR2 hn hst hrm hdg hf1 hf2) kk
theorem x_rLq {v : Int64} (S : CallFix p m c cc nL s args Ts own) (hl : ls.size = nL) (hK : xK D cI s) (hM : Met l y wsy rm (xPr (.ref b :: As) D cI wc) (vp_Sl (fun r => r = v)) 0 0 (fun _ => False)) (hP : va_P D vwCl (X ++ pl) H) (isC : List Nat) (hsC : isC.map (fun i => X[i]?) = wc.map some) {C : String} {ci : Nat} {T0 : u_T} {N : Nat} {fs : List Value} (he : wc[0]? = some (b, .inr (ci, fs))) (hc : vwCl[ci]? = some (C, T0, N)) (hG : GoodIn Ts (wsV own index C y wsy)) (hw : wsy = Cond.code y bytes maxL ret :: wsy') (hrc : rm.cells = 0) (hrs : rm.slots = 0) (hd : kfV y C n) (hR1 : Nat.ble (rm.frames + 1) R.frames = true) (hR2 : Nat.ble (8 + (maxL + 11) + rm.locals) R.locals = true) (hn : As.length = n) (hst : st0 = As.reverse ++ .ref b :: rest) (hrm : Nat.ble (rest.map fun v => v.category).sum 8 = true) (hdg : decode cc pc = .ok (.invokevirtual index, 3)) (hf1 : Nat.ble cells R.cells = true) (hf2 : Nat.ble slots R.slots = true)
    (kk : W p l e R s m args below meth c H locs cells slots Q (F0 m (pc + 3) ls (.long v :: rest))) : W p l e R s m args below meth c H locs cells slots Q (F0 m pc ls st0) :=
  vp_callSl (x_rmV (As := As) (rest := rest) S hl hK hM (hP.sub isC (map_fm (map_app hsC))) 0 he hc hG hw hrc hrs hd hR1 hR2 hn hst hrm hdg hf1 hf2) (fun _ h => by subst h; exact kk)
end XQ
/-- the reference's boxes are the component's -/
def mRel (k1 n1 k2 n2 : Int) (pt1 pt2 kd tm co ex ey ez : Int → Int) : Prop := (kd 0 = k1 ∧ kd 1 = k2 ∧ tm 0 = n1 ∧ tm 1 = n2) ∧ (∀ t : Int, 0 ≤ t → t < n1 → mB co 0 t = cC pt1 0 t ∧ mB ex 0 t = cC pt1 1 t ∧ mB ey 0 t = cC pt1 2 t ∧ mB ez 0 t = cC pt1 3 t) ∧ (∀ t : Int, 0 ≤ t → t < n2 → mB co 1 t = cC pt2 0 t ∧ mB ex 1 t = cC pt2 1 t ∧ mB ey 1 t = cC pt2 2 t ∧ mB ez 1 t = cC pt2 3 t)
def isC (cI : ClassId) (sb : Nat) (P sh sc k1 n1 k2 n2 cnt ak : Int) (tr : Int64) (pt1 pt2 row : Int → Int) (wc : va_W) : Prop := ∀ G : Prop, (∀ (h4 q4 h0 b1 p1 f1 l1 b2 p2 f2 l2 qr r1 rn ro rs o3 qw qt qd o2 ra na fa sa rt nt ft st qm o5 h6 qn qo qs hf bq bf bl qa qk qe qx : Nat) (cL cfL cfe cm Lo La fLa fea ma Lt fLt fet mt Kc eL efL ef em nf : Int) (iv lf1 ln1 lf2 ln2 rnw rfo rsp ow oa opr nwa foa spa nwt fot spt md now fo sp pf lff lnf an kn ke ot : Int → Int), wc = [(sb, .inr (7, [.ref h4, .ref h0, .ref b1, .ref b2, .ref qr, .ref r1, .ref o3, .ref o2, .ref o5, .int (iI cnt), .int (iI ak), .long tr])), (h4, .inr (4, [.ref q4, .int (iI P)])), (q4, .inl (cI, 997, .inl (aI iv))), (h0, .inr (0, [.ref h4, .int (iI sh), .int (iI sc)])), (b1, .inr (1, [.ref h4, .ref h0, .ref p1, .ref f1, .ref l1, .int (iI k1), .int (iI n1)])), (p1, .inl (cI, 16, .inl (aI pt1))), (f1, .inl (cI, 115, .inl (aI lf1))), (l1, .inl (cI, 23, .inl (aI ln1))), (b2, .inr (1, [.ref h4, .ref h0, .ref p2, .ref f2, .ref l2, .int (iI k2), .int (iI n2)])), (p2, .inl (cI, 16, .inl (aI pt2))), (f2, .inl (cI, 115, .inl (aI lf2))), (l2, .inl (cI, 23, .inl (aI ln2))), (qr, .inl (cI, 16, .inl (aI row))), (r1, .inr (6, [.ref h4, .ref rn, .ref ro, .ref rs, .int (iI cL), .int (iI cfL), .int (iI cfe), .int (iI cm)])), (rn, .inl (cI, 17, .inl (aI rnw))), (ro, .inl (cI, 17, .inl (aI rfo))), (rs, .inl (cI, 17, .inl (aI rsp))), (o3, .inr (3, [.ref h4, .ref qw, .ref qt, .ref qd, .int (iI Lo)])), (qw, .inl (cI, 17, .inl (aI ow))), (qt, .inl (cI, 16, .inl (aI oa))), (qd, .inl (cI, 32, .inl (aI opr))), (o2, .inr (2, [.ref h4, .ref ra, .ref rt, .ref qm])), (ra, .inr (6, [.ref h4, .ref na, .ref fa, .ref sa, .int (iI La), .int (iI fLa), .int (iI fea), .int (iI ma)])), (na, .inl (cI, 17, .inl (aI nwa))), (fa, .inl (cI, 17, .inl (aI foa))), (sa, .inl (cI, 17, .inl (aI spa))), (rt, .inr (6, [.ref h4, .ref nt, .ref ft, .ref st, .int (iI Lt), .int (iI fLt), .int (iI fet), .int (iI mt)])), (nt, .inl (cI, 17, .inl (aI nwt))), (ft, .inl (cI, 17, .inl (aI fot))), (st, .inl (cI, 17, .inl (aI spt))), (qm, .inl (cI, 16, .inl (aI md))), (o5, .inr (5, [.ref h4, .ref h6, .ref hf, .ref qa, .ref qk, .ref qe, .ref qx, .int (iI Kc)])), (h6, .inr (6, [.ref h4, .ref qn, .ref qo, .ref qs, .int (iI eL), .int (iI efL), .int (iI ef), .int (iI em)])), (qn, .inl (cI, 17, .inl (aI now))), (qo, .inl (cI, 17, .inl (aI fo))), (qs, .inl (cI, 17, .inl (aI sp))), (hf, .inr (1, [.ref h4, .ref h0, .ref bq, .ref bf, .ref bl, .int (iI 0), .int (iI nf)])), (bq, .inl (cI, 16, .inl (aI pf))), (bf, .inl (cI, 115, .inl (aI lff))), (bl, .inl (cI, 23, .inl (aI lnf))), (qa, .inl (cI, 9, .inl (aI an))), (qk, .inl (cI, 4, .inl (aI kn))), (qe, .inl (cI, 12, .inl (aI ke))), (qx, .inl (cI, 5, .inl (aI ot)))] → tbF P iv → G) → G
def isM (cI : ClassId) (mo : Nat) (P sh sc k1 n1 k2 n2 cnt ak : Int) (tr : Int64) (pt1 pt2 row : Int → Int) (wc : va_W) : Prop := ∀ G : Prop, (∀ (xk xt xc xx xy xz xr xl xC xF xK xn xb xw xa yx yy yz yn yc yl : Nat) (uL uK : Int) (ud ut uc ux uy uz ulk ucr ufr ukp unw ubs uwd uan ukx uky ukz ukn ukf uli : Int → Int), wc = [(mo, .inr (8, [.int (iI P), .int (iI sh), .int (iI sc), .ref xk, .ref xt, .ref xc, .ref xx, .ref xy, .ref xz, .int (iI cnt), .ref xr, .int (iI ak), .long tr, .ref xl, .int (iI uL), .ref xC, .ref xF, .ref xK, .ref xn, .ref xb, .ref xw, .ref xa, .int (iI uK), .ref yx, .ref yy, .ref yz, .ref yn, .ref yc, .ref yl])), (xk, .inl (cI, 2, .inl (aI ud))), (xt, .inl (cI, 2, .inl (aI ut))), (xc, .inl (cI, 8, .inl (aI uc))), (xx, .inl (cI, 8, .inl (aI ux))), (xy, .inl (cI, 8, .inl (aI uy))), (xz, .inl (cI, 8, .inl (aI uz))), (xr, .inl (cI, 16, .inl (aI row))), (xl, .inl (cI, 16, .inl (aI ulk))), (xC, .inl (cI, 40, .inl (aI ucr))), (xF, .inl (cI, 40, .inl (aI ufr))), (xK, .inl (cI, 40, .inl (aI ukp))), (xn, .inl (cI, 16, .inl (aI unw))), (xb, .inl (cI, 16, .inl (aI ubs))), (xw, .inl (cI, 40, .inl (aI uwd))), (xa, .inl (cI, 9, .inl (aI uan))), (yx, .inl (cI, 5, .inl (aI ukx))), (yy, .inl (cI, 5, .inl (aI uky))), (yz, .inl (cI, 5, .inl (aI ukz))), (yn, .inl (cI, 5, .inl (aI ukn))), (yc, .inl (cI, 5, .inl (aI ukf))), (yl, .inl (cI, 20, .inl (aI uli)))] → mRel k1 n1 k2 n2 pt1 pt2 ud ut uc ux uy uz → (∀ q : Int, 0 ≤ q → q < 20 → 0 ≤ uli q ∧ uli q ≤ 1000) → G) → G
