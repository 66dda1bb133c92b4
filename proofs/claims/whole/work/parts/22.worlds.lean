/-! what a method may take as given beside its cells; a cell's rows; a method's entry, its ends, its calls -/
abbrev nwT : Type := String × Nat × String × String × String
def nwF : List nwT := [("SealedBox", 80, "SealedBox$PrimeField", "p", "I"), ("SealedBox$Onward", 40, "SealedBox$PrimeField", "p", "I"), ("SealedBox$LieSearch", 52, "SealedBox$PrimeField", "p", "I"), ("SealedBox$Register", 55, "SealedBox$PrimeField", "p", "I"), ("SealedBox$Box", 54, "SealedBox$PrimeField", "p", "I"), ("SealedBox$Recovery", 112, "SealedBox$PrimeField", "p", "I"), ("SealedBox", 101, "SealedBox$Bases", "shift", "I"), ("SealedBox", 104, "SealedBox$Bases", "scale", "I"), ("SealedBox", 110, "SealedBox$Box", "kind", "I"), ("SealedBox", 133, "SealedBox$Box", "terms", "I"), ("SealedBox$Onward", 29, "SealedBox$Register", "length", "I"), ("SealedBox$Recovery", 61, "SealedBox$Register", "length", "I"), ("SealedBox$LieSearch", 40, "SealedBox$Register", "length", "I"), ("SealedBox", 151, "SealedBox$Register", "length", "I"), ("SealedBox", 171, "SealedBox$Recovery", "found", "LSealedBox$Box;")]
def nwC (q : nwT) : Cond := .fieldLinkNest q.1 q.2.1 q.2.2.1 q.2.2.2.1 q.2.2.2.2 "SealedBox"
def nwM : Cond := .methodLinkNest "SealedBox$Box" 61 yX7_isExponent "SealedBox"
def xK (D : va_G) (cI : ClassId) (U : State) : Prop := va_K D vwCl [(cI, .int)] U ∧ (∀ q ∈ nwF, va_Nw (nwC q) U) ∧ va_Nw nwM U
theorem xK.blind {D : va_G} {cI : ClassId} {U : State} (h : xK D cI U) (g : JFrame) (mk : MethodId) (a : Array Value) : xK D cI (U.calling g mk a) := ⟨va_K.moved (u := U) (U := U.calling g mk a) (Vm.Alike.refl U.vm) h.1, fun q hq => va_Nw.same rfl (u := U) (U := U.calling g mk a) rfl (h.2.1 q hq), va_Nw.same rfl (u := U) (U := U.calling g mk a) rfl h.2.2⟩
theorem xK.warm {D : va_G} {cI : ClassId} {s U : State} (h : xK D cI s) (hW : s.WarmedH U.vm) : xK D cI U := ⟨va_K.moved hW.alike h.1, fun q hq => va_Nw.warmF hW (h.2.1 q hq), va_Nw.warmM hW h.2.2⟩
def xPr (av : List Value) (D : va_G) (cI : ClassId) (wc : va_W) : Array Value → State → Prop := va_Pc av (fun U => va_P D vwCl wc U.heap ∧ xK D cI U)
def xPw (av : List Value) (D : va_G) (cI : ClassId) (wc : va_W) (sz : Nat) : Array Value → State → Prop := va_Pc av (fun U => U.heap.size = sz ∧ va_P D vwCl wc U.heap ∧ xK D cI U ∧ va_D (fun _ => True) wc)
def xB {S : Type} (D : va_G) (w1 : S → va_W) (A : Nat → Prop) : S → State → Prop := fun u t => va_P D vwCl (w1 u) t.heap ∧ va_D A (w1 u)
section XE
variable {l : Launch} {y : MethodName} {ws ws' : List Cond} {rm : Room} {cc : ByteArray} {maxL : Nat} {ret : Option FieldType} {D : va_G} {cI : ClassId} {wc : va_W} {sz mc ms : Nat} {av : List Value} {own : String}
theorem x_metR {Qc : Array Value → State → Outcome → State → Prop} (hy : plainName y.cls = true) (hw : ws = Cond.code y cc maxL ret :: ws') (ho : y.cls = own) (hn : Nat.ble (lg_sl av).length maxL = true)
    (body : ∀ (p : Program) (e : Env) (s : State) (m : MethodId) (args : Array Value) (below : List Frame) (meth : Method) (c : Code) (Q : State → Prop), CallFix p m c cc maxL s args ws own → meth.sig.returnType = ret → meth.locks = false → Q = MQ below Qc args s 0 0 (fun _ => False) → xK D cI s → va_P D vwCl wc s.heap → ∀ ls : Array Slot, lv_has ls maxL (lv_args 0 av) →
      W p l e rm s m args below meth c s.heap [] 0 0 Q (F0 m 0 ls [])) : Met l y ws rm (xPr av D cI wc) Qc 0 0 (fun _ => False) := by
  refine Met.ofW (cc := cc) (maxL := maxL) (ret := ret) hy hw ?_
  intro p e s m args below meth c s₁ B hml hv
  obtain ⟨rfl, hP, hK⟩ := hv
  have hts := atoms_spec (ws := ws) B.pre
  have hown : s.vm.findClass y.cls = some m.cls := findClass_of_methodNamed B.named
  have hl := lv_entry av (n := maxL) (Nat.le_of_ble_eq_true hn)
  rw [lg_entry_eq]
  exact body p e s m _ below meth c _ ⟨B.exec, B.bytes, hml, ho ▸ hown, hts⟩ B.returns B.notSynchronized rfl hK hP _ hl
theorem x_metW {Qc : (Nat → Prop) → Array Value → State → Outcome → State → Prop} (hy : plainName y.cls = true) (hw : ws = Cond.code y cc maxL ret :: ws') (ho : y.cls = own) (hn : Nat.ble (lg_sl av).length maxL = true)
    (body : ∀ (p : Program) (e : Env) (s : State) (m : MethodId) (args : Array Value) (below : List Frame) (meth : Method) (c : Code) (A : Nat → Prop) (Q : State → Prop), CallFix p m c cc maxL s args ws own → meth.sig.returnType = ret → meth.locks = false → (y.name = meth.name) → Q = MQ below (Qc A) args s mc ms A → xK D cI s → va_P D vwCl wc s.heap → va_D A wc → (∀ q : Nat, s.heap.size ≤ q → A q) → va_S A s.heap s.heap [] → ∀ ls : Array Slot, lv_has ls maxL (lv_args 0 av) →
      W p l e rm s m args below meth c s.heap [] 0 0 Q (F0 m 0 ls [])) : Met l y ws rm (xPw av D cI wc sz) (Qc (va_A wc sz)) mc ms (va_A wc sz) := by
  refine Met.ofW (cc := cc) (maxL := maxL) (ret := ret) hy hw ?_
  intro p e s m args below meth c s₁ B hml hv
  obtain ⟨rfl, hsz, hP, hK, hD0⟩ := hv
  have hts := atoms_spec (ws := ws) B.pre
  have hown : s.vm.findClass y.cls = some m.cls := findClass_of_methodNamed B.named
  subst hsz
  have hl := lv_entry av (n := maxL) (Nat.le_of_ble_eq_true hn)
  rw [lg_entry_eq]
  exact body p e s m _ below meth c (va_A wc s.heap.size) _ ⟨B.exec, B.bytes, hml, ho ▸ hown, hts⟩ B.returns B.notSynchronized (name_of_methodNamed B.named B.method).1.symm rfl hK hP hD0.self (fun q h => Or.inr h) va_S.rf _ hl
end XE
section XW
variable {p : Program} {l : Launch} {e : Env} {R : Room} {s : State} {m : MethodId} {args : Array Value} {below : List Frame} {meth : Method} {c : Code} {H : Heap} {locs : List Loc} {cells slots : Nat} {Q : State → Prop}
variable {cc : ByteArray} {pc nL : Nat} {ls : Array Slot} {rest : List Value} {Ts : List Cond} {own : String} {D : va_G} {cI : ClassId} {ws ws' wr : va_W} {A : Nat → Prop} {H0 : Heap} {a : Nat}
theorem x_get (S : CallFix p m c cc nL s args Ts own) (hK : xK D cI s) (hP : va_P D vwCl ws H) {C : String} {T : u_T} {N ci index : Nat} (hin : ∀ w ∈ u_ws C T N, w ∈ Ts) (q0 : Nat) {fs : List Value} (he : ws[q0]? = some (a, .inr (ci, fs))) (hc : vwCl[ci]? = some (C, T, N)) (k : Nat) (hk : Nat.ble (k + 1) N = true) (hm : Cond.fieldLink own index (T k).1 (T k).2.1 (T k).2.2.1 ∈ Ts) {v : Value} (hv : fs[k]? = some v) (hdg : decode cc pc = .ok (.getfield index, 3))
    (kk : W p l e R s m args below meth c H locs cells slots Q (F0 m (pc + 3) ls (v :: rest))) : W p l e R s m args below meth c H locs cells slots Q (F0 m pc ls (.ref a :: rest)) := va_get S.1 S.2.1 S.2.2.2.2 hin S.2.2.2.1 hK.1 hP q0 he hc k (Nat.le_of_ble_eq_true hk) (S.2.2.2.2 _ hm) (fun _ h => h) hv hdg kk
theorem x_getN (S : CallFix p m c cc nL s args Ts own) (hK : xK D cI s) (hP : va_P D vwCl ws H) {C : String} {T : u_T} {N ci index : Nat} (hin : ∀ w ∈ u_ws C T N, w ∈ Ts) (q0 : Nat) {fs : List Value} (he : ws[q0]? = some (a, .inr (ci, fs))) (hc : vwCl[ci]? = some (C, T, N)) (k : Nat) (hk : Nat.ble (k + 1) N = true) (i : Nat) (hi : nwF[i]? = some (own, index, (T k).1, (T k).2.1, (T k).2.2.1)) {v : Value} (hv : fs[k]? = some v) (hdg : decode cc pc = .ok (.getfield index, 3))
    (kk : W p l e R s m args below meth c H locs cells slots Q (F0 m (pc + 3) ls (v :: rest))) : W p l e R s m args below meth c H locs cells slots Q (F0 m pc ls (.ref a :: rest)) := va_getN (host := "SealedBox") S.1 S.2.1 S.2.2.2.2 hin S.2.2.2.1 hK.1 hP q0 he hc k (Nat.le_of_ble_eq_true hk) (va_Nw.use rfl (hK.2.1 _ (List.mem_of_getElem? hi))) (fun _ h => h) hv hdg kk
theorem x_put (S : CallFix p m c cc nL s args Ts own) (hK : xK D cI s) (hP : va_P D vwCl ws H) (hD : va_D A ws) (hS : va_S A H0 H locs) {C : String} {T : u_T} {N ci index : Nat} (hin : ∀ w ∈ u_ws C T N, w ∈ Ts) {ty0 : Nat → FieldType} (hty : ∀ k, k < N → parseFieldDescriptor (T k).2.2.1 = some (ty0 k)) (hnm : ∀ a, a < N → ∀ b, b < N → a ≠ b → (T a).2.1 ≠ (T b).2.1) (q0 : Nat) {fs : List Value} (he : ws[q0]? = some (a, .inr (ci, fs))) (hc : vwCl[ci]? = some (C, T, N)) (k : Nat) (hk : Nat.ble (k + 1) N = true) (hm : Cond.fieldLink own index (T k).1 (T k).2.1 (T k).2.2.1 ∈ Ts) (hfin : (T k).2.2.2 = false) {v : Value} (hn : narrow (ty0 k) v = v) (hfit : fits (ty0 k) v = true) (hl : Nat.ble (k + 1) fs.length = true) (hdg : decode cc pc = .ok (.putfield index, 3)) (hw : ws.set q0 (a, .inr (ci, fs.set k v)) = ws')
    (kk : ∀ (H1 : Heap) (locs1 : List Loc), va_P D vwCl ws' H1 → va_D A ws' → va_S A H0 H1 locs1 → W p l e R s m args below meth c H1 locs1 cells slots Q (F0 m (pc + 3) ls rest)) : W p l e R s m args below meth c H locs cells slots Q (F0 m pc ls (v :: .ref a :: rest)) := by
  subst hw
  exact va_put S.1 S.2.1 S.2.2.2.2 hin ty0 hty hnm S.2.2.2.1 hK.1 hP hD hS q0 he hc k (Nat.le_of_ble_eq_true hk) (S.2.2.2.2 _ hm) (fun _ h => h) hfin (hty k (Nat.le_of_ble_eq_true hk)) hn hfit (Nat.le_of_ble_eq_true hl) hdg kk
theorem x_putN (S : CallFix p m c cc nL s args Ts own) (hK : xK D cI s) (hP : va_P D vwCl ws H) (hD : va_D A ws) (hS : va_S A H0 H locs) {C : String} {T : u_T} {N ci index : Nat} (hin : ∀ w ∈ u_ws C T N, w ∈ Ts) {ty0 : Nat → FieldType} (hty : ∀ k, k < N → parseFieldDescriptor (T k).2.2.1 = some (ty0 k)) (hnm : ∀ a, a < N → ∀ b, b < N → a ≠ b → (T a).2.1 ≠ (T b).2.1) (q0 : Nat) {fs : List Value} (he : ws[q0]? = some (a, .inr (ci, fs))) (hc : vwCl[ci]? = some (C, T, N)) (k : Nat) (hk : Nat.ble (k + 1) N = true) (i : Nat) (hi : nwF[i]? = some (own, index, (T k).1, (T k).2.1, (T k).2.2.1)) (hfin : (T k).2.2.2 = false) {v : Value} (hn : narrow (ty0 k) v = v) (hfit : fits (ty0 k) v = true) (hl : Nat.ble (k + 1) fs.length = true) (hdg : decode cc pc = .ok (.putfield index, 3)) (hw : ws.set q0 (a, .inr (ci, fs.set k v)) = ws')
    (kk : ∀ (H1 : Heap) (locs1 : List Loc), va_P D vwCl ws' H1 → va_D A ws' → va_S A H0 H1 locs1 → W p l e R s m args below meth c H1 locs1 cells slots Q (F0 m (pc + 3) ls rest)) : W p l e R s m args below meth c H locs cells slots Q (F0 m pc ls (v :: .ref a :: rest)) := by
  subst hw
  exact va_putN (host := "SealedBox") S.1 S.2.1 S.2.2.2.2 hin ty0 hty hnm S.2.2.2.1 hK.1 hP hD hS q0 he hc k (Nat.le_of_ble_eq_true hk) (va_Nw.use rfl (hK.2.1 _ (List.mem_of_getElem? hi))) (fun _ h => h) hfin (hty k (Nat.le_of_ble_eq_true hk)) hn hfit (Nat.le_of_ble_eq_true hl) hdg kk
theorem x_putF (S : CallFix p m c cc nL s args Ts own) (hin2 : "<init>" = meth.name) (hK : xK D cI s) (hP : va_P D vwCl ws H) (hD : va_D A ws) (hS : va_S A H0 H locs) {C : String} {T : u_T} {N ci index : Nat} (hin : ∀ w ∈ u_ws C T N, w ∈ Ts) {ty0 : Nat → FieldType} (hty : ∀ k, k < N → parseFieldDescriptor (T k).2.2.1 = some (ty0 k)) (hnm : ∀ a, a < N → ∀ b, b < N → a ≠ b → (T a).2.1 ≠ (T b).2.1) (q0 : Nat) {fs : List Value} (he : ws[q0]? = some (a, .inr (ci, fs))) (hc : vwCl[ci]? = some (C, T, N)) (k : Nat) (hk : Nat.ble (k + 1) N = true) (hm : Cond.fieldLink own index (T k).1 (T k).2.1 (T k).2.2.1 ∈ Ts) (hfin : (T k).2.2.2 = true) (hdecl : (T k).1 = own) {v : Value} (hn : narrow (ty0 k) v = v) (hfit : fits (ty0 k) v = true) (hl : Nat.ble (k + 1) fs.length = true) (hdg : decode cc pc = .ok (.putfield index, 3)) (hw : ws.set q0 (a, .inr (ci, fs.set k v)) = ws')
    (kk : ∀ (H1 : Heap) (locs1 : List Loc), va_P D vwCl ws' H1 → va_D A ws' → va_S A H0 H1 locs1 → W p l e R s m args below meth c H1 locs1 cells slots Q (F0 m (pc + 3) ls rest)) : W p l e R s m args below meth c H locs cells slots Q (F0 m pc ls (v :: .ref a :: rest)) := by
  subst hw
  exact va_putF S.1 S.2.1 S.2.2.2.2 hin ty0 hty hnm S.2.2.2.1 hK.1 hP hD hS q0 he hc k (Nat.le_of_ble_eq_true hk) (S.2.2.2.2 _ hm) (fun _ h => h) hfin hin2.symm hdecl (hty k (Nat.le_of_ble_eq_true hk)) hn hfit (Nat.le_of_ble_eq_true hl) hdg kk
theorem x_iald (S : CallFix p m c cc nL s args Ts own) (hK : xK D cI s) (hP : va_P D vwCl ws H) (q0 : Nat) {n : Nat} {f : Int → Int} (ha : ws[q0]? = some (a, .inl (cI, n, .inl (aI f)))) {z : Int} (hz : 0 ≤ z ∧ z < n ∧ n < 2147483648) (hdg : decode cc pc = .ok (.iaload, 1))
    (kk : W p l e R s m args below meth c H locs cells slots Q (F0 m (pc + 1) ls (.int (iI (f z)) :: rest))) : W p l e R s m args below meth c H locs cells slots Q (F0 m pc ls (.int (iI z) :: .ref a :: rest)) := by
  refine va_iald S.1 S.2.1 hK.1 hP q0 0 ha rfl (iI_in hz) hdg ?_
  rw [iI_clamp (by omega)]
  have e : aI f z.toNat = iI (f z) := by
    unfold aI
    rw [Int.toNat_of_nonneg hz.1]
  rw [e]
  exact kk
theorem x_iast (S : CallFix p m c cc nL s args Ts own) (hK : xK D cI s) (hP : va_P D vwCl ws H) (hD : va_D A ws) (hS : va_S A H0 H locs) (q0 : Nat) {n : Nat} {f : Int → Int} (ha : ws[q0]? = some (a, .inl (cI, n, .inl (aI f)))) {z x : Int} (hz : 0 ≤ z ∧ z < n ∧ n < 2147483648) (hdg : decode cc pc = .ok (.iastore, 1)) (hw : ws.set q0 (a, .inl (cI, n, .inl (aI (uI f z x)))) = ws')
    (kk : ∀ (H1 : Heap) (locs1 : List Loc), va_P D vwCl ws' H1 → va_D A ws' → va_S A H0 H1 locs1 → W p l e R s m args below meth c H1 locs1 cells slots Q (F0 m (pc + 1) ls rest)) : W p l e R s m args below meth c H locs cells slots Q (F0 m pc ls (.int (iI x) :: .int (iI z) :: .ref a :: rest)) := by
  subst hw
  refine va_iast S.1 S.2.1 hK.1 hP hD hS q0 0 ha rfl (iI_in hz) hdg ?_
  rw [iI_clamp (by omega), aI_upd f x hz.1]
  exact kk
theorem x_alen (S : CallFix p m c cc nL s args Ts own) (hK : xK D cI s) (hP : va_P D vwCl ws H) (q0 : Nat) {x : vp_A} (ha : ws[q0]? = some (a, .inl (cI, x))) (hdg : decode cc pc = .ok (.arraylength, 1))
    (kk : W p l e R s m args below meth c H locs cells slots Q (F0 m (pc + 1) ls (.int (iI (x.1 : Nat)) :: rest))) : W p l e R s m args below meth c H locs cells slots Q (F0 m pc ls (.ref a :: rest)) := va_alen S.1 S.2.1 hK.1 hP q0 0 ha (ty := .int) rfl (iI_nat x.1) hdg kk
theorem x_newa (S : CallFix p m c cc nL s args Ts own) (hK : xK D cI s) (hP : va_P D vwCl ws H) (hD : va_D A ws) (hS : va_S A H0 H locs) (hA : ∀ q, H0.size ≤ q → A q) (hm : Cond.arrayClass .int ∈ Ts) {n : Int} {N : Nat} (hN : n = N) (hb : Nat.ble (N * 4) 536870912 = true) {cs ss : Nat} (hcs : cells + 1 = cs) (hss : slots + N = ss) (hc1 : Nat.ble cs R.cells = true) (hs1 : Nat.ble ss R.slots = true) (hdg : decode cc pc = .ok (.newarray .int, 2))
    (kk : ∀ (q : Nat) (H1 : Heap), va_P D vwCl (ws ++ [(q, .inl (cI, N, .inl (aI (fun _ => 0))))]) H1 → va_D A (ws ++ [(q, .inl (cI, N, .inl (aI (fun _ => 0))))]) → va_S A H0 H1 locs → W p l e R s m args below meth c H1 locs cs ss Q (F0 m (pc + 2) ls (.ref q :: rest))) : W p l e R s m args below meth c H locs cells slots Q (F0 m pc ls (.int (iI n) :: rest)) := by
  subst hN; subst hcs; subst hss
  have hb := Nat.le_of_ble_eq_true hb
  refine va_newa (atype := .int) (ty := .int) (N' := N) (a0 := (N, .inl (aI (fun _ => 0)))) S.1 S.2.1 (S.2.2.2.2 _ hm) rfl hK.1 hP hD hS hA (fun cA => rfl) ?_ (by rw [iI_clamp (by omega)]; omega) hb (Nat.le_of_ble_eq_true hc1) (Nat.le_of_ble_eq_true hs1) hdg ?_
  · have e : (0 : Int32) = iI 0 := rfl
    rw [e, iI_lt (by omega)]; omega
  · intro q cA H1 hK1 hP1 hD1 hS1
    have e1 := va_nm_int (hK1.2 0 _ rfl).2
    have e2 := va_nm_int (hK1.2 1 _ rfl).2
    have e3 : cA = cI := Option.some.inj (e2.symm.trans e1)
    subst e3
    exact kk q H1 hP1 hD1 hS1
theorem x_new (S : CallFix p m c cc nL s args Ts own) (hK : xK D cI s) (hP : va_P D vwCl ws H) (hD : va_D A ws) (hS : va_S A H0 H locs) (hA : ∀ q, H0.size ≤ q → A q) {C : String} {T : u_T} {N ci index : Nat} (hin : ∀ w ∈ u_ws C T N, w ∈ Ts) {ty0 : Nat → FieldType} (hty : ∀ k, k < N → parseFieldDescriptor (T k).2.2.1 = some (ty0 k)) (hcl : Cond.classLink own index C ∈ Ts) (hinst : Cond.instantiable C N ∈ Ts) (hini : Cond.initialized C ∈ Ts) (hc : vwCl[ci]? = some (C, T, N)) {fs : List Value} (hfs : ∀ j, j < N → defaultValue (ty0 j) = vp_V fs j) {cs ss : Nat} (hcs : cells + 1 = cs) (hss : slots + N = ss) (hc1 : Nat.ble cs R.cells = true) (hs1 : Nat.ble ss R.slots = true) (hdg : decode cc pc = .ok (.new index, 3))
    (kk : ∀ (q : Nat) (H1 : Heap), va_P D vwCl (ws ++ [(q, .inr (ci, fs))]) H1 → va_D A (ws ++ [(q, .inr (ci, fs))]) → va_S A H0 H1 locs → W p l e R s m args below meth c H1 locs cs ss Q (F0 m (pc + 3) ls (.ref q :: rest))) : W p l e R s m args below meth c H locs cells slots Q (F0 m pc ls rest) := by
  subst hcs; subst hss
  exact va_new S.1 S.2.1 S.2.2.2.2 hin ty0 hty S.2.2.2.1 (S.2.2.2.2 _ hcl) (S.2.2.2.2 _ hinst) (S.2.2.2.2 _ hini) hK.1 hP hD hS hA hc hfs (Nat.le_of_ble_eq_true hc1) (Nat.le_of_ble_eq_true hs1) hdg kk
theorem x_objI (S : CallFix p m c cc nL s args Ts own) (hl : ls.size = nL) {idx : Nat} (h1 : Cond.methodLink own idx objectInit ∈ Ts) (h2 : Cond.instanceMethod objectInit ∈ Ts) (h3 : Cond.code objectInit ⟨#[0xb1]⟩ 1 none ∈ Ts) (hdg : decode cc pc = .ok (.invokespecial idx, 3)) (hf : Nat.ble 1 R.frames = true) (hlo : Nat.ble 12 R.locals = true) (kk : W p l e R s m args below meth c H locs cells slots Q (F0 m (pc + 3) ls [])) : W p l e R s m args below meth c H locs cells slots Q (F0 m pc ls [.ref a]) :=
  W.objInit S.1 S.2.1 S.2.2.2.1 (S.2.2.2.2 _ h1) (S.2.2.2.2 _ h2) (S.2.2.2.2 _ h3) rfl (by rw [S.2.2.1]; exact hl) rfl hdg (Nat.le_of_ble_eq_true hf) (Nat.le_of_ble_eq_true hlo) kk
theorem x_copy (S : CallFix p m c cc nL s args Ts own) (hl : ls.size = nL) (hK : xK D cI s) (hP : va_P D vwCl ws H) (hD : va_D A ws) (hS : va_S A H0 H locs) (q0 q1 : Nat) {a0 N : Nat} {f g : Int → Int} (ha0 : ws[q0]? = some (a0, .inl (cI, N, .inl (aI f)))) (ha1 : ws[q1]? = some (a, .inl (cI, N, .inl (aI g)))) {index : Nat} (hlink : Cond.methodLink own index arraycopyName ∈ Ts) (hnat : Cond.native arraycopyName ∈ Ts) (hstat : Cond.static arraycopyName ∈ Ts) (hini : Cond.initialized "java/lang/System" ∈ Ts) (hf : Nat.ble 1 R.frames = true) (hlo : Nat.ble ((rest.map fun v => v.category).sum + (nativeFrameWords "java/lang/System" "arraycopy" 5 + 11)) R.locals = true) (hdg : decode cc pc = .ok (.invokestatic index, 3)) (hN : Nat.ble N 2147483647 = true) (hw : ws.set q1 (a, .inl (cI, N, .inl (aI (cpI f g N)))) = ws')
    (kk : ∀ (H1 : Heap) (locs1 : List Loc), va_P D vwCl ws' H1 → va_D A ws' → va_S A H0 H1 locs1 → W p l e R s m args below meth c H1 locs1 cells slots Q (F0 m (pc + 3) ls rest)) : W p l e R s m args below meth c H locs cells slots Q (F0 m pc ls (.int (iI (N : Nat)) :: .int (iI 0) :: .ref a :: .int (iI 0) :: .ref a0 :: rest)) := by
  subst hw
  have hN := Nat.le_of_ble_eq_true hN
  have e0 : (0 : Int32) = iI 0 := rfl
  have h0 : ¬ iI 0 < (0 : Int32) := by rw [e0, iI_lt (by omega)]; omega
  have c0 : (iI 0).toNatClampNeg = 0 := by rw [iI_clamp (by omega)]; rfl
  have cN : (iI (N : Nat)).toNatClampNeg = N := by rw [iI_clamp (by omega)]; omega
  refine va_copyi (ty := .int) S.1 S.2.1 (S.2.2.1.trans hl.symm) S.2.2.2.1 (S.2.2.2.2 _ hlink) (S.2.2.2.2 _ hnat) (S.2.2.2.2 _ hstat) (S.2.2.2.2 _ hini) hK.1 hP hD hS q0 q1 0 0 ha0 ha1 rfl rfl rfl h0 h0 (by rw [e0, iI_lt (by omega)]; omega) (by rw [c0, cN]; omega) (by rw [c0, cN]; omega) (fun i _ => rfl) (Nat.le_of_ble_eq_true hf) (Nat.le_of_ble_eq_true hlo) hdg ?_
  rw [c0, cN, aI_cpy f g N]
  exact kk
end XW
