/-! constructors: worlds X ++ l, l a list of cells under the hands of the constructor -/
theorem apx_get {X l : va_W} {j : Nat} : (X ++ l)[X.length + j]? = l[j]? := by
  rw [List.getElem?_append_right (Nat.le_add_right _ _), Nat.add_sub_cancel_left]
theorem apx_set {X l : va_W} {j : Nat} {q : Nat × va_E} : (X ++ l).set (X.length + j) q = X ++ l.set j q := by
  rw [List.set_append_right _ _ (Nat.le_add_right _ _), Nat.add_sub_cancel_left]
/-- the nest's links and the array classes over own classes -/
def nn (U : State) : Prop := va_Nw (.methodLinkNest RX1 3 yX0_init "TunnelWatch") U ∧ va_Nw (.methodLinkNest RX3 11 yX0_init "TunnelWatch") U ∧ va_Nw (.methodLinkNest RX3 46 yX2_init "TunnelWatch") U ∧ va_Nw (.methodLinkNest RX3 47 yX1_init "TunnelWatch") U ∧ va_AO "TunnelWatch$Section" U ∧ va_AO "TunnelWatch$Fan" U
theorem nn_warm {s U : State} (hW : s.WarmedH U.vm) (h : nn s) : nn U := ⟨va_Nw.warmM hW h.1, va_Nw.warmM hW h.2.1, va_Nw.warmM hW h.2.2.1, va_Nw.warmM hW h.2.2.2.1, va_AO.moved hW.alike h.2.2.2.2.1, va_AO.moved hW.alike h.2.2.2.2.2⟩
theorem nn_same {u U : State} (hv : u.vm = U.vm) (h : nn u) : nn U := ⟨va_Nw.same rfl hv h.1, va_Nw.same rfl hv h.2.1, va_Nw.same rfl hv h.2.2.1, va_Nw.same rfl hv h.2.2.2.1, va_AO.moved (by rw [← hv]; exact Vm.Alike.refl u.vm) h.2.2.2.2.1, va_AO.moved (by rw [← hv]; exact Vm.Alike.refl u.vm) h.2.2.2.2.2⟩
def pn (D : va_G) (A : Nat → Prop) (tys : List (ClassId × FieldType)) (as : List Value) (ws : va_W) : Array Value → State → Prop := va_Pc as (fun U => va_P D vwCl ws U.heap ∧ va_K D vwCl tys U ∧ va_D A ws ∧ (∀ q, U.heap.size ≤ q → A q) ∧ zz A U U.heap ∧ nn U)
theorem pn_blind {D : va_G} {A : Nat → Prop} {tys : List (ClassId × FieldType)} {as : List Value} {ws : va_W} : FrameBlind (pn D A tys as ws) := by
  intro a U g mk h
  obtain ⟨h0, h1, h2, h3, h4, h5, h6⟩ := h
  exact ⟨h0, h1, va_K.moved (u := U) (U := U.calling g mk a) (Vm.Alike.refl U.vm) h2, h3, h4, ⟨vx_Zq.moved (u := U) (U := U.calling g mk a) (Vm.Alike.refl U.vm) h5.1, vx_Zq.moved (u := U) (U := U.calling g mk a) (Vm.Alike.refl U.vm) h5.2.1, nw_same (u := U) (U := U.calling g mk a) rfl h5.2.2⟩, nn_same (u := U) (U := U.calling g mk a) rfl h6⟩
def CN {α : Type} (l : Launch) (y : MethodName) (ws : List Cond) (rm : Room) (mc ms : Nat) (D : va_G) (A : Nat → Prop) (tys : List (ClassId × FieldType)) (as : List Value) (pre : va_W) (Pp : α → Prop) (Wn : α → va_W) : Prop := Met l y ws rm (pn D A tys as pre) (va_Qv Pp (fun u t => wo D A tys (Wn u) t) A) mc ms A
def cxn (p : Program) (s : State) (m : MethodId) (args : Array Value) (meth : Method) (c : Code) (cc : ByteArray) (nL : Nat) (Ts : List Cond) (own : String) (D : va_G) (tys : List (ClassId × FieldType)) (A : Nat → Prop) : Prop :=
  CallFix p m c cc nL s args Ts own ∧ va_K D vwCl tys s ∧ (∀ q, s.heap.size ≤ q → A q) ∧ zz A s s.heap ∧ nn s ∧ meth.sig.returnType = none ∧ meth.locks = false ∧ meth.name = "<init>"
theorem CN_of {α : Type} {l : Launch} {y : MethodName} {ws ws' : List Cond} {rm : Room} {mc ms : Nat} {D : va_G} {A : Nat → Prop} {tys : List (ClassId × FieldType)} {as : List Value} {pre : va_W} {Pp : α → Prop} {Wn : α → va_W} {cc : ByteArray} {maxL : Nat} (hy : plainName y.cls = true) (hyn : y.name = "<init>") (hw : ws = Cond.code y cc maxL none :: ws') (hn : (lg_sl as).length ≤ maxL) (body : ∀ (p : Program) (e : Env) (s : State) (m : MethodId) (below : List Frame) (meth : Method) (c : Code), cxn p s m as.toArray meth c cc maxL ws y.cls D tys A → sk p l e rm s m as.toArray below meth c D A maxL 0 0 (fun _ : Unit => MQ below (va_Qv Pp (fun u t => wo D A tys (Wn u) t) A) as.toArray s mc ms A) pre 0 (lv_args 0 as) [] (some ())) : CN l y ws rm mc ms D A tys as pre Pp Wn := by
  refine Met.ofW (cc := cc) (maxL := maxL) (ret := none) hy hw ?_
  intro p e s m args below meth c s₁ B hml hv
  obtain ⟨rfl, hP, hK, hD, hA, hZ, hN⟩ := hv
  have hl := lv_entry as (n := maxL) hn
  rw [lg_entry_eq]
  exact body p e s m below meth c ⟨⟨B.exec, B.bytes, hml, findClass_of_methodNamed B.named, atoms_spec B.pre⟩, hK, hA, hZ, hN, B.returns, B.notSynchronized, (name_of_methodNamed B.named B.method).1.trans hyn⟩ () rfl s.heap [] _ hP hD va_S.rf hl
section SKN
variable {p : Program} {l : Launch} {e : Env} {R : Room} {s : State} {m : MethodId} {args : Array Value} {below : List Frame} {meth : Method} {c : Code} {cc : ByteArray} {nL : Nat} {Ts : List Cond} {own : String} {D : va_G} {tys : List (ClassId × FieldType)} {A : Nat → Prop} {cells slots : Nat} {ρ : Type} {Q : ρ → State → Prop} {pc : Nat} {lv : List (Nat × Value)} {st rest st0 : List Value} {K : Option ρ} {X l0 : va_W} {a ci index N : Nat} {C ref : String} {T : u_T}
theorem sk_objI (F : CallFix p m c cc nL s args Ts own) {idx : Nat} {ws : va_W} (hlink : Cond.methodLink own idx Lib.objectInit ∈ Ts) (hinst : Cond.instanceMethod Lib.objectInit ∈ Ts) (hcode : Cond.code Lib.objectInit ⟨#[0xb1]⟩ 1 none ∈ Ts) (hd : decode cc pc = .ok (.invokespecial idx, 3)) (hfr : 1 ≤ R.frames) (hlo : (st.map fun v => v.category).sum + 12 ≤ R.locals) (kk : sk p l e R s m args below meth c D A nL cells slots Q ws (pc + 3) lv st K) : sk p l e R s m args below meth c D A nL cells slots Q ws pc lv (.ref a :: st) K := by
  intro res hK H locs ls hP hD hS hl
  refine W.objInit F.1 F.2.1 F.2.2.2.1 (F.2.2.2.2 _ hlink) (F.2.2.2.2 _ hinst) (F.2.2.2.2 _ hcode) rfl (hl.1.trans F.2.2.1.symm) rfl hd hfr (by show 2 * 0 + _ + 12 ≤ _; omega) ?_
  exact kk res hK H locs ls hP hD hS hl
theorem sk_gx (F : CallFix p m c cc nL s args Ts own) (hK : va_K D vwCl tys s) (j : Nat) {fs : List Value} {x : Value} (he : l0[j]? = some (a, .inr (ci, fs))) (hc : vwCl[ci]? = some (C, T, N)) (hin : ∀ w ∈ u_ws C T N, w ∈ Ts) (k : Nat) (hk : k < N) (hlink : Cond.fieldLink own index ref (T k).2.1 (T k).2.2.1 ∈ Ts) (hsame : ∀ x, s.fieldFound? (T k).1 (T k).2.1 (T k).2.2.1 = some x → s.fieldFound? ref (T k).2.1 (T k).2.2.1 = some x) (hv : fs[k]? = some x) (hd : decode cc pc = .ok (.getfield index, 3)) (kk : sk p l e R s m args below meth c D A nL cells slots Q (X ++ l0) (pc + 3) lv (x :: st) K) : sk p l e R s m args below meth c D A nL cells slots Q (X ++ l0) pc lv (.ref a :: st) K := by
  intro res hKK H locs ls hP hD hS hl
  exact va_get (D := D) (ci := ci) (v := x) (C := C) (T := T) (N := N) F.1 F.2.1 F.2.2.2.2 hin F.2.2.2.1 hK hP (X.length + j) (apx_get.trans he) hc k hk (F.2.2.2.2 _ hlink) hsame hv hd (kk res hKK H locs ls hP hD hS hl)
theorem sk_px (F : CallFix p m c cc nL s args Ts own) (hK : va_K D vwCl tys s) (j : Nat) {fs : List Value} {x : Value} {ty : FieldType} {l1 : va_W} (he : l0[j]? = some (a, .inr (ci, fs))) (hc : vwCl[ci]? = some (C, T, N)) (hin : ∀ w ∈ u_ws C T N, w ∈ Ts) (ty0 : Nat → FieldType) (hty : ∀ k, k < N → parseFieldDescriptor (T k).2.2.1 = some (ty0 k)) (hnm : ∀ a, a < N → ∀ b, b < N → a ≠ b → (T a).2.1 ≠ (T b).2.1) (k : Nat) (hk : k < N) (hlink : Cond.fieldLink own index ref (T k).2.1 (T k).2.2.1 ∈ Ts) (hsame : ∀ x, s.fieldFound? (T k).1 (T k).2.1 (T k).2.2.1 = some x → s.fieldFound? ref (T k).2.1 (T k).2.2.1 = some x) (hfin : (T k).2.2.2 = false) (hpd : parseFieldDescriptor (T k).2.2.1 = some ty) (hn : narrow ty x = x) (hfit : fits ty x = true) (hl0 : k < fs.length) (hl1 : l0.set j (a, .inr (ci, fs.set k x)) = l1) (hd : decode cc pc = .ok (.putfield index, 3)) (kk : sk p l e R s m args below meth c D A nL cells slots Q (X ++ l1) (pc + 3) lv st K) : sk p l e R s m args below meth c D A nL cells slots Q (X ++ l0) pc lv (x :: .ref a :: st) K := by
  intro res hKK H locs ls hP hD hS hl
  refine va_put (D := D) (ci := ci) (v := x) (ty := ty) (C := C) (T := T) (N := N) F.1 F.2.1 F.2.2.2.2 hin ty0 hty hnm F.2.2.2.1 hK hP hD hS (X.length + j) (apx_get.trans he) hc k hk (F.2.2.2.2 _ hlink) hsame hfin hpd hn hfit hl0 hd (fun H1 locs1 hP1 hD1 hS1 => ?_)
  rw [apx_set, hl1] at hP1 hD1
  exact kk res hKK H1 locs1 ls hP1 hD1 hS1 hl
theorem sk_pxF (F : CallFix p m c cc nL s args Ts own) (hK : va_K D vwCl tys s) (j : Nat) {fs : List Value} {x : Value} {ty : FieldType} {l1 : va_W} (he : l0[j]? = some (a, .inr (ci, fs))) (hc : vwCl[ci]? = some (C, T, N)) (hin : ∀ w ∈ u_ws C T N, w ∈ Ts) (ty0 : Nat → FieldType) (hty : ∀ k, k < N → parseFieldDescriptor (T k).2.2.1 = some (ty0 k)) (hnm : ∀ a, a < N → ∀ b, b < N → a ≠ b → (T a).2.1 ≠ (T b).2.1) (k : Nat) (hk : k < N) (hlink : Cond.fieldLink own index ref (T k).2.1 (T k).2.2.1 ∈ Ts) (hsame : ∀ x, s.fieldFound? (T k).1 (T k).2.1 (T k).2.2.1 = some x → s.fieldFound? ref (T k).2.1 (T k).2.2.1 = some x) (hfin : (T k).2.2.2 = true) (hin2 : meth.name = "<init>") (hdecl : (T k).1 = own) (hpd : parseFieldDescriptor (T k).2.2.1 = some ty) (hn : narrow ty x = x) (hfit : fits ty x = true) (hl0 : k < fs.length) (hl1 : l0.set j (a, .inr (ci, fs.set k x)) = l1) (hd : decode cc pc = .ok (.putfield index, 3)) (kk : sk p l e R s m args below meth c D A nL cells slots Q (X ++ l1) (pc + 3) lv st K) : sk p l e R s m args below meth c D A nL cells slots Q (X ++ l0) pc lv (x :: .ref a :: st) K := by
  intro res hKK H locs ls hP hD hS hl
  refine va_putF (D := D) (ci := ci) (v := x) (ty := ty) (C := C) (T := T) (N := N) F.1 F.2.1 F.2.2.2.2 hin ty0 hty hnm F.2.2.2.1 hK hP hD hS (X.length + j) (apx_get.trans he) hc k hk (F.2.2.2.2 _ hlink) hsame hfin hin2 hdecl hpd hn hfit hl0 hd (fun H1 locs1 hP1 hD1 hS1 => ?_)
  rw [apx_set, hl1] at hP1 hD1
  exact kk res hKK H1 locs1 ls hP1 hD1 hS1 hl
theorem sk_nx (F : CallFix p m c cc nL s args Ts own) (hK : va_K D vwCl tys s) (hA : ∀ q, s.heap.size ≤ q → A q) {fs : List Value} (hc : vwCl[ci]? = some (C, T, N)) (hin : ∀ w ∈ u_ws C T N, w ∈ Ts) (ty0 : Nat → FieldType) (hty : ∀ k, k < N → parseFieldDescriptor (T k).2.2.1 = some (ty0 k)) (hcl : Cond.classLink own index C ∈ Ts) (hinst : Cond.instantiable C N ∈ Ts) (hini : Cond.initialized C ∈ Ts) (hfs : ∀ j, j < N → defaultValue (ty0 j) = vp_V fs j) (hcells : cells + 1 ≤ R.cells) (hslots : slots + N ≤ R.slots) (hd : decode cc pc = .ok (.new index, 3)) (kk : ∀ q, sk p l e R s m args below meth c D A nL (cells + 1) (slots + N) Q (X ++ (l0 ++ [(q, .inr (ci, fs))])) (pc + 3) lv (.ref q :: st) K) : sk p l e R s m args below meth c D A nL cells slots Q (X ++ l0) pc lv st K := by
  intro res hKK H locs ls hP hD hS hl
  refine va_new (D := D) (ci := ci) (fs := fs) (C := C) (T := T) (N := N) F.1 F.2.1 F.2.2.2.2 hin ty0 hty F.2.2.2.1 (F.2.2.2.2 _ hcl) (F.2.2.2.2 _ hinst) (F.2.2.2.2 _ hini) hK hP hD hS hA hc hfs hcells hslots hd (fun q H1 hP1 hD1 hS1 => ?_)
  rw [List.append_assoc] at hP1 hD1
  exact kk q res hKK H1 locs ls hP1 hD1 hS1 hl
theorem uq {cA cB : ClassId} {ty : FieldType} (h1 : va_RA s cA ty) (h2 : va_RA s cB ty) : cA = cB := by
  cases ty with
  | object C =>
    obtain ⟨_, _, _, _, _, h1⟩ := h1
    obtain ⟨_, _, _, _, _, h2⟩ := h2
    exact Option.some.inj (h1.symm.trans h2)
  | _ => exact Option.some.inj (h1.symm.trans h2)
theorem sk_nax (F : CallFix p m c cc nL s args Ts own) (hK : va_K D vwCl tys s) (hA : ∀ q, s.heap.size ≤ q → A q) (t0 : Nat) {cA : ClassId} {atype : ArrayType} {ty : FieldType} (ht : tys[t0]? = some (cA, ty)) (harr : Cond.arrayClass (newarray.typeOf atype) ∈ Ts) (hty : newarray.typeOf atype = ty) {x : Int32} {N' : Nat} {a0 : vp_A} (ha : ∀ cA : ClassId, vp_cell cA a0 = arrV cA N' (fun _ => defaultValue ty)) (hn : ¬ x < 0) (hN : x.toNatClampNeg = N') (hbytes : N' * componentBytes ty ≤ 536870912) (hcells : cells + 1 ≤ R.cells) (hslots : slots + N' ≤ R.slots) (hd : decode cc pc = .ok (.newarray atype, 2)) (kk : ∀ q, sk p l e R s m args below meth c D A nL (cells + 1) (slots + N') Q (X ++ (l0 ++ [(q, .inl (cA, a0))])) (pc + 2) lv (.ref q :: st) K) : sk p l e R s m args below meth c D A nL cells slots Q (X ++ l0) pc lv (.int x :: st) K := by
  intro res hKK H locs ls hP hD hS hl
  refine va_newa F.1 F.2.1 (F.2.2.2.2 _ harr) hty hK hP hD hS hA ha hn hN hbytes hcells hslots hd (fun q cB H1 hK1 hP1 hD1 hS1 => ?_)
  have e : cB = cA := uq (hK1.2 tys.length (cB, ty) (by simp)).2 (hK.2 t0 _ ht).2
  subst e
  rw [List.append_assoc] at hP1 hD1
  exact kk q res hKK H1 locs ls hP1 hD1 hS1 hl
theorem sk_nqx (F : CallFix p m c cc nL s args Ts own) (hK : va_K D vwCl tys s) (hA : ∀ q, s.heap.size ≤ q → A q) (t0 : Nat) {cA : ClassId} (ht : tys[t0]? = some (cA, .object C)) (hcl : Cond.classLink own index C ∈ Ts) (hov : va_AO C s) {x : Int32} {N' : Nat} (hn : ¬ x < 0) (hN : x.toNatClampNeg = N') (hbytes : N' * 4 ≤ 536870912) (hcells : cells + 1 ≤ R.cells) (hslots : slots + N' ≤ R.slots) (hd : decode cc pc = .ok (.anewarray index, 3)) (kk : ∀ q, sk p l e R s m args below meth c D A nL (cells + 1) (slots + N') Q (X ++ (l0 ++ [(q, .inl (cA, N', .inr (.inr (.inr (.inr (fun _ => none))))))])) (pc + 3) lv (.ref q :: st) K) : sk p l e R s m args below meth c D A nL cells slots Q (X ++ l0) pc lv (.int x :: st) K := by
  intro res hKK H locs ls hP hD hS hl
  refine va_newq F.1 F.2.1 F.2.2.2.1 (F.2.2.2.2 _ hcl) hov hK hP hD hS hA hn hN hbytes hcells hslots hd (fun q cB H1 hK1 hP1 hD1 hS1 => ?_)
  have e : cB = cA := uq (hK1.2 tys.length (cB, .object C) (by simp)).2 (hK.2 t0 _ ht).2
  subst e
  rw [List.append_assoc] at hP1 hD1
  exact kk q res hKK H1 locs ls hP1 hD1 hS1 hl
theorem sk_iasx (F : CallFix p m c cc nL s args Ts own) (hK : va_K D vwCl tys s) (j t0 : Nat) {cA : ClassId} {n : Nat} {f : Nat → Int32} {i x : Int32} {l1 : va_W} (he : l0[j]? = some (a, .inl (cA, n, .inl f))) (ht : tys[t0]? = some (cA, .int)) (hi : inb i n) (hl1 : l0.set j (a, .inl (cA, n, .inl (upd f i.toNatClampNeg x))) = l1) (hd : decode cc pc = .ok (.iastore, 1)) (kk : sk p l e R s m args below meth c D A nL cells slots Q (X ++ l1) (pc + 1) lv st K) : sk p l e R s m args below meth c D A nL cells slots Q (X ++ l0) pc lv (.int x :: .int i :: .ref a :: st) K := by
  intro res hKK H locs ls hP hD hS hl
  refine va_iast F.1 F.2.1 hK hP hD hS (X.length + j) t0 (apx_get.trans he) ht hi hd (fun H1 locs1 hP1 hD1 hS1 => ?_)
  rw [apx_set, hl1] at hP1 hD1
  exact kk res hKK H1 locs1 ls hP1 hD1 hS1 hl
theorem sk_aasx (F : CallFix p m c cc nL s args Ts own) (hK : va_K D vwCl tys s) (j t0 jk ck : Nat) {cA : ClassId} {n v : Nat} {f : Nat → Option Nat} {vs : List Value} {r : vw_C} {i : Int32} {l1 : va_W} (he : l0[j]? = some (a, .inl (cA, n, .inr (.inr (.inr (.inr f)))))) (ht : tys[t0]? = some (cA, .object r.1)) (hv : l0[jk]? = some (v, .inr (ck, vs))) (hc : vwCl[ck]? = some r) (hi : inb i n) (hl1 : l0.set j (a, .inl (cA, n, .inr (.inr (.inr (.inr (va_up f i.toNatClampNeg (some v))))))) = l1) (hd : decode cc pc = .ok (.aastore, 1)) (kk : sk p l e R s m args below meth c D A nL cells slots Q (X ++ l1) (pc + 1) lv st K) : sk p l e R s m args below meth c D A nL cells slots Q (X ++ l0) pc lv (.ref v :: .int i :: .ref a :: st) K := by
  intro res hKK H locs ls hP hD hS hl
  refine va_astq F.1 F.2.1 hK hP hD hS (X.length + j) t0 (X.length + jk) ck (apx_get.trans he) ht (apx_get.trans hv) hc hi hd (fun H1 locs1 hP1 hD1 hS1 => ?_)
  rw [apx_set, hl1] at hP1 hD1
  exact kk res hKK H1 locs1 ls hP1 hD1 hS1 hl
theorem pn_now {as : List Value} {ws : va_W} {H : Heap} {locs : List Loc} (hK : va_K D vwCl tys s) (hA : ∀ q, s.heap.size ≤ q → A q) (hZ : zz A s s.heap) (hN : nn s) (hP : va_P D vwCl ws H) (hD : va_D A ws) (hS : va_S A s.heap H locs) : ∀ U : State, U.heap = H → s.WarmedH U.vm → pn D A tys as ws as.toArray U := by
  intro U hU hW
  exact ⟨rfl, by rw [hU]; exact hP, va_K.moved hW.alike hK, hD, fun q h => hA q (Nat.le_trans hS.1 (by rw [← hU]; exact h)), ⟨by rw [hU]; exact vx_Zq.kept (vx_Zq.moved hW.alike hZ.1) (fun a h1 h2 => hS.2.1 a h1 h2), by rw [hU]; exact vx_Zq.kept (vx_Zq.moved hW.alike hZ.2.1) (fun a h1 h2 => hS.2.1 a h1 h2), nw_warm hW hZ.2.2⟩, nn_warm hW hN⟩
theorem sk_ctorN (F : CallFix p m c cc nL s args Ts own) (hK : va_K D vwCl tys s) (hA : ∀ q, s.heap.size ≤ q → A q) (hZ : zz A s s.heap) (hN : nn s) {α : Type} {y : MethodName} {bytes : ByteArray} {maxL n mc1 ms1 b : Nat} {wy : List Cond} {rm : Room} {host : String} {As : List Value} {ws : va_W} {Pp : α → Prop} {Wn : α → va_W} (hM : CN l y wy rm mc1 ms1 D A tys (.ref b :: As) ws Pp Wn) (cw : va_CN R s args own index y host bytes maxL none wy rm mc1 ms1 n ∧ y.name = "<init>" ∧ (Cond.instanceMethod y).before args s = true) (hst : st0 = (As.reverse ++ .ref b :: rest)) (hn : As.length = n) (hr8 : (rest.map fun v => v.category).sum ≤ 8) (hf : cells + mc1 ≤ R.cells ∧ slots + ms1 ≤ R.slots) (hd : decode cc pc = .ok (.invokespecial index, 3)) (kk : ∀ u, Pp u → sk p l e R s m args below meth c D A nL (cells + mc1) (slots + ms1) Q (Wn u) (pc + 3) lv rest K) : sk p l e R s m args below meth c D A nL cells slots Q ws pc lv st0 K := by
  subst hst
  intro res hKK H locs ls hP hD hS hl
  refine va_callv (va_runIN (As := As) (rest := rest) F hM cw ⟨pn_blind, pn_now hK hA hZ hN hP hD hS⟩ rfl hn hl.1 rfl (lv_room hr8) hd hf) hS (fun q _ h => h) (fun q h => h) (fun u t H1 locs1 ht hvm hw hB hz1 hk1 hS1 => ?_)
  obtain ⟨hP1, -, hD1⟩ := hB
  rw [ht] at hP1
  exact kk u hw res hKK H1 locs1 ls hP1 hD1 hS1 hl
theorem sk_ctorI (F : CallFix p m c cc nL s args Ts own) (hK : va_K D vwCl tys s) (hA : ∀ q, s.heap.size ≤ q → A q) (hZ : zz A s s.heap) (hN : nn s) {α : Type} {y : MethodName} {bytes : ByteArray} {maxL n mc1 ms1 b : Nat} {wy : List Cond} {rm : Room} {As : List Value} {ws : va_W} {Pp : α → Prop} {Wn : α → va_W} (hM : CN l y wy rm mc1 ms1 D A tys (.ref b :: As) ws Pp Wn) (cw : CallB R s args own index y bytes maxL none wy rm mc1 ms1 n ∧ y.name = "<init>" ∧ (Cond.instanceMethod y).before args s = true) (hst : st0 = (As.reverse ++ .ref b :: rest)) (hn : As.length = n) (hr8 : (rest.map fun v => v.category).sum ≤ 8) (hf : cells + mc1 ≤ R.cells ∧ slots + ms1 ≤ R.slots) (hd : decode cc pc = .ok (.invokespecial index, 3)) (kk : ∀ u, Pp u → sk p l e R s m args below meth c D A nL (cells + mc1) (slots + ms1) Q (Wn u) (pc + 3) lv rest K) : sk p l e R s m args below meth c D A nL cells slots Q ws pc lv st0 K := by
  subst hst
  intro res hKK H locs ls hP hD hS hl
  refine va_callv (va_runI (As := As) (rest := rest) F hM cw ⟨pn_blind, pn_now hK hA hZ hN hP hD hS⟩ rfl hn hl.1 rfl (lv_room hr8) hd hf) hS (fun q _ h => h) (fun q h => h) (fun u t H1 locs1 ht hvm hw hB hz1 hk1 hS1 => ?_)
  obtain ⟨hP1, -, hD1⟩ := hB
  rw [ht] at hP1
  exact kk u hw res hKK H1 locs1 ls hP1 hD1 hS1 hl
theorem sk_nvret (F : CallFix p m c cc nL s args Ts own) (hK : va_K D vwCl tys s) (hr : meth.sig.returnType = none) (hlocks : meth.locks = false) {α : Type} {Pp : α → Prop} {Wn : α → va_W} {ws : va_W} {mc ms : Nat} (u : α) (hu : Pp u) (hw : ws = Wn u) (hmc : cells ≤ mc) (hms : slots ≤ ms) (hd : decode cc pc = .ok (.return_, 1)) : sk p l e R s m args below meth c D A nL cells slots (fun _ : Unit => MQ below (va_Qv Pp (fun u t => wo D A tys (Wn u) t) A) args s mc ms A) ws pc lv [] (some ()) := by
  subst hw
  intro res hKK H locs ls hP hD hS hl
  exact W.widen hmc hms (W.vret F.1 F.2.1 hr (fun t ht hW => ⟨⟨u, rfl, hu, by rw [ht]; exact hP, va_K.moved hW.alike hK, hD⟩, hS.F ht⟩) hS.2.2 hd)
theorem sk_eqw {ws ws' : va_W} (h : ws = ws') (kk : sk p l e R s m args below meth c D A nL cells slots Q ws' pc lv st K) : sk p l e R s m args below meth c D A nL cells slots Q ws pc lv st K := h ▸ kk
theorem sk_imp {ws ws' : va_W} (h1 : ∀ H : Heap, va_P D vwCl ws H → va_P D vwCl ws' H) (h2 : va_D A ws → va_D A ws') (kk : sk p l e R s m args below meth c D A nL cells slots Q ws' pc lv st K) : sk p l e R s m args below meth c D A nL cells slots Q ws pc lv st K := fun res hK H locs ls hP hD hS hl => kk res hK H locs ls (h1 H hP) (h2 hD) hS hl
theorem sk_sw {ws : va_W} {τ : Type} {Q' : τ → State → Prop} {K' : Option τ} {r : τ} {q : ρ} (h : K' = some r) (hq : ∀ t, Q' r t → Q q t) (kk : sk p l e R s m args below meth c D A nL cells slots Q' ws pc lv st K') : sk p l e R s m args below meth c D A nL cells slots Q ws pc lv st (some q) := by
  intro res hK H locs ls hP hD hS hl T hT X9
  cases hK
  obtain ⟨t, a1, b1⟩ := kk r h H locs ls hP hD hS hl T hT X9
  exact ⟨t, a1, hq t b1⟩
theorem sk_putF (F : CallFix p m c cc nL s args Ts own) {L : List Nat} {ad : Nat → Nat} {sh : Nat → (Nat → Int32) → va_E} {v : Mem} (hK : va_K D vwCl tys s) (nd : L.Nodup) {o : Nat} {fs : (Nat → Int32) → List Value} {x : Int32} {ty : FieldType} (ho : o ∈ L) (hsh : ∀ r, sh o r = .inr (ci, fs r)) (hc : vwCl[ci]? = some (C, T, N)) (hin : ∀ w ∈ u_ws C T N, w ∈ Ts) (ty0 : Nat → FieldType) (hty : ∀ k, k < N → parseFieldDescriptor (T k).2.2.1 = some (ty0 k)) (hnm : ∀ a, a < N → ∀ b, b < N → a ≠ b → (T a).2.1 ≠ (T b).2.1) (k : Nat) (hk : k < N) (hlink : Cond.fieldLink own index ref (T k).2.1 (T k).2.2.1 ∈ Ts) (hsame : ∀ x, s.fieldFound? (T k).1 (T k).2.1 (T k).2.2.1 = some x → s.fieldFound? ref (T k).2.1 (T k).2.2.1 = some x) (hfin : (T k).2.2.2 = true) (hin2 : meth.name = "<init>") (hdecl : (T k).1 = own) (hpd : parseFieldDescriptor (T k).2.2.1 = some ty) (hn : narrow ty (.int x) = .int x) (hfit : fits ty (.int x) = true) (hl0 : k < (fs (v o)).length) (hset : (fs (v o)).set k (.int x) = fs (upd (v o) k x)) (hd : decode cc pc = .ok (.putfield index, 3)) (kk : sk p l e R s m args below meth c D A nL cells slots Q (ow L ad sh (up2 v o k x) ++ X) (pc + 3) lv st K) : sk p l e R s m args below meth c D A nL cells slots Q (ow L ad sh v ++ X) pc lv (.int x :: .ref (ad o) :: st) K := by
  intro res hKK H locs ls hP hD hS hl
  obtain ⟨q0, h1, h2⟩ := ow_get (ad := ad) (sh := sh) (v := v) (X := X) ho
  rw [hsh] at h2
  refine va_putF (D := D) (ci := ci) (v := .int x) (ty := ty) (C := C) (T := T) (N := N) F.1 F.2.1 F.2.2.2.2 hin ty0 hty hnm F.2.2.2.1 hK hP hD hS q0 h2 hc k hk (F.2.2.2.2 _ hlink) hsame hfin hin2 hdecl hpd hn hfit hl0 hd (fun H1 locs1 hP1 hD1 hS1 => ?_)
  have e := ow_set nd (ad := ad) (sh := sh) (v := v) (X := X) (j := k) (x := x) h1
  rw [hsh, ← hset] at e
  rw [e] at hP1 hD1
  exact kk res hKK H1 locs1 ls hP1 hD1 hS1 hl
theorem sk_tret (F : CallFix p m c cc nL s args Ts own) {α σ : Type} (hK : va_K D vwCl tys s) (hr : meth.sig.returnType = none) (hlocks : meth.locks = false) {Pp : σ → α → Prop} {Wn : α → va_W} {ws : va_W} {mc ms : Nat} (r : σ) (u : α) (hu : Pp r u) (hw : ws = Wn u) (hmc : cells ≤ mc) (hms : slots ≤ ms) (hd : decode cc pc = .ok (.return_, 1)) : sk p l e R s m args below meth c D A nL cells slots (fun res : σ => MQ below (va_Qv (Pp res) (fun u t => wo D A tys (Wn u) t) A) args s mc ms A) ws pc lv [] (some r) := by
  subst hw
  intro res hKK H locs ls hP hD hS hl
  cases hKK
  exact W.widen hmc hms (W.vret F.1 F.2.1 hr (fun t ht hW => ⟨⟨u, rfl, hu, by rw [ht]; exact hP, va_K.moved hW.alike hK, hD⟩, hS.F ht⟩) hS.2.2 hd)
end SKN
