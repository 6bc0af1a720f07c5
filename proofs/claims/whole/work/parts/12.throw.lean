def xd {α τ σ : Type} (Kc : Option ((α ⊕ String) × σ)) (K : α → σ → Option ((τ ⊕ String) × σ)) : Option ((τ ⊕ String) × σ) := Kc.bind fun q => match q.1 with
  | .inl a => K a q.2
  | .inr E => some (.inr E, q.2)
theorem xd_l {α τ σ : Type} {a : α} {v : σ} {K : α → σ → Option ((τ ⊕ String) × σ)} : xd (some (.inl a, v)) K = K a v := rfl
theorem xd_r {α τ σ : Type} {E : String} {v : σ} {K : α → σ → Option ((τ ⊕ String) × σ)} : xd (some (.inr E, v)) K = some (.inr E, v) := rfl
def xc {τ σ : Type} (D : va_G) (A : Nat → Prop) (tys : List (ClassId × FieldType)) (Ws : σ → va_W) (res : (τ ⊕ String) × σ) : String → State → State → Prop := vx_X (fun _ : σ => True) (fun E u t => (Sum.inr E, u) = res ∧ wo D A tys (Ws u) t) A
abbrev xi {σ : Type} (D : va_G) (A : Nat → Prop) (tys : List (ClassId × FieldType)) (Ws : σ → va_W) (res : (Int32 ⊕ String) × σ) : Array Value → State → Outcome → State → Prop := va_Qi (fun r v' => (Sum.inl r, v') = res) (fun v' t => wo D A tys (Ws v') t) A
abbrev xv {σ : Type} (D : va_G) (A : Nat → Prop) (tys : List (ClassId × FieldType)) (Ws : σ → va_W) (res : (Unit ⊕ String) × σ) : Array Value → State → Outcome → State → Prop := va_Qv (fun v' => (Sum.inl (), v') = res) (fun v' t => wo D A tys (Ws v') t) A
def XI {σ : Type} (l : Launch) (y : MethodName) (ws : List Cond) (rm : Room) (mc ms : Nat) (D : va_G) (A : Nat → Prop) (tys : List (ClassId × FieldType)) (Ws : σ → va_W) (as : List Value) (v : σ) (K : Option ((Int32 ⊕ String) × σ)) : Prop := ∀ res, K = some res → vx_Met l y ws rm (pq D A tys as (Ws v)) (xi D A tys Ws res) (xc D A tys Ws res) mc ms A
def XV {σ : Type} (l : Launch) (y : MethodName) (ws : List Cond) (rm : Room) (mc ms : Nat) (D : va_G) (A : Nat → Prop) (tys : List (ClassId × FieldType)) (Ws : σ → va_W) (as : List Value) (v : σ) (K : Option ((Unit ⊕ String) × σ)) : Prop := ∀ res, K = some res → vx_Met l y ws rm (pq D A tys as (Ws v)) (xv D A tys Ws res) (xc D A tys Ws res) mc ms A
section SKX
variable {p : Program} {l : Launch} {e : Env} {R : Room} {s : State} {m : MethodId} {args : Array Value} {below : List Frame} {meth : Method} {c : Code} {cc : ByteArray} {nL : Nat} {Ts : List Cond} {own : String} {D : va_G} {tys : List (ClassId × FieldType)} {A : Nat → Prop} {cells slots : Nat} {τ : Type} {pc : Nat} {lv : List (Nat × Value)} {rest st0 : List Value}
variable {σ : Type} {Ws : σ → va_W} {v : σ} {y x : MethodName} {bytes : ByteArray} {maxL n index mc ms mc1 ms1 : Nat} {ret : Option FieldType} {wy : List Cond} {rm : Room} {As : List Value} {b : Nat} {C owner : String} {ad : Nat → Nat}
variable {Qc : ((τ ⊕ String) × σ) → Array Value → State → Outcome → State → Prop}
theorem sk_xSv (F : CallFix p m c cc nL s args Ts own) (hK : va_K D vwCl tys s) (hA : ∀ q, s.heap.size ≤ q → A q) (hZ : zz A s s.heap) (hlocks : meth.locks = false) (hno : ∀ x ∈ c.exceptionTable.toList, False) {Kc : Option ((Unit ⊕ String) × σ)} (K : Unit → σ → Option ((τ ⊕ String) × σ)) (hM : XV l y wy rm mc1 ms1 D A tys Ws As v Kc) (cw : CallB R s args own index y bytes maxL ret wy rm mc1 ms1 n ∧ (Cond.static y).before args s = true) (hst : st0 = (As.reverse ++ rest)) (hn : As.length = n) (hr8 : (rest.map fun v => v.category).sum ≤ 8) (hf : cells + mc1 ≤ R.cells ∧ slots + ms1 ≤ R.slots) (hmc : cells + mc1 ≤ mc) (hms : slots + ms1 ≤ ms) (hd : decode cc pc = .ok (.invokestatic index, 3)) (kk : ∀ v1, Kc = some (.inl (), v1) → sk p l e R s m args below meth c D A nL (cells + mc1) (slots + ms1) (fun res => vx_MQ below (Qc res) (xc D A tys Ws res) args s mc ms A) (Ws v1) (pc + 3) lv rest (K () v1)) : sk p l e R s m args below meth c D A nL cells slots (fun res => vx_MQ below (Qc res) (xc D A tys Ws res) args s mc ms A) (Ws v) pc lv st0 (xd Kc K) := by
  subst hst
  intro res hKK H locs ls hP hD hS hl
  obtain ⟨⟨a0, v0⟩, hc, hk⟩ := Option.bind_eq_some_iff.mp hKK
  refine vx_callv (vx_runS (As := As) (rest := rest) F (hM (a0, v0) hc) cw ⟨pq_blind, pq_now hK hA hZ hP hD hS⟩ rfl hn hl.1 rfl (lv_room hr8) hd hf) hS (fun q _ h => h) (fun q h => h) (fun q _ h => h) (fun E ce q9 u t H1 locs1 ht hvm hp hb hz1 hk1 hS1 hcell hv hcl => ?_) (fun u t H1 locs1 ht hvm hw hB hz1 hk1 hS1 => ?_)
  · obtain ⟨hw, hP1, -, hD1⟩ := hb
    cases hw
    cases hk
    rw [ht] at hP1
    exact vx_out (fun x hx => (hno x hx).elim) hlocks hcell hv hcl (fun t2 ht2 hvm2 => ⟨v0, trivial, ⟨rfl, by rw [ht2]; exact hP1, va_K.moved hvm2 hK, hD1⟩, hS1.F ht2⟩) hS1.2.2 hmc hms
  · cases hw
    obtain ⟨hP1, -, hD1⟩ := hB
    rw [ht] at hP1
    exact kk _ hc res hk H1 locs1 ls hP1 hD1 hS1 hl
theorem sk_xVv (F : CallFix p m c cc nL s args Ts own) (hK : va_K D vwCl tys s) (hA : ∀ q, s.heap.size ≤ q → A q) (hZ : zz A s s.heap) (hlocks : meth.locks = false) (hno : ∀ x ∈ c.exceptionTable.toList, False) {Kc : Option ((Unit ⊕ String) × σ)} (K : Unit → σ → Option ((τ ⊕ String) × σ)) (hM : XV l y wy rm mc1 ms1 D A tys Ws (.ref b :: As) v Kc) (cw : CallW R s args own C index y bytes maxL ret wy rm mc1 ms1 n) (hrec : ∀ H : Heap, va_P D vwCl (Ws v) H → ∃ cell : Cell, H[b]? = some cell ∧ cell.vm.isStatics = false ∧ s.vm.findClass C = some cell.cls) (hst : st0 = (As.reverse ++ .ref b :: rest)) (hn : As.length = n) (hr8 : (rest.map fun v => v.category).sum ≤ 8) (hf : cells + mc1 ≤ R.cells ∧ slots + ms1 ≤ R.slots) (hmc : cells + mc1 ≤ mc) (hms : slots + ms1 ≤ ms) (hd : decode cc pc = .ok (.invokevirtual index, 3)) (kk : ∀ v1, Kc = some (.inl (), v1) → sk p l e R s m args below meth c D A nL (cells + mc1) (slots + ms1) (fun res => vx_MQ below (Qc res) (xc D A tys Ws res) args s mc ms A) (Ws v1) (pc + 3) lv rest (K () v1)) : sk p l e R s m args below meth c D A nL cells slots (fun res => vx_MQ below (Qc res) (xc D A tys Ws res) args s mc ms A) (Ws v) pc lv st0 (xd Kc K) := by
  subst hst
  intro res hKK H locs ls hP hD hS hl
  obtain ⟨⟨a0, v0⟩, hc, hk⟩ := Option.bind_eq_some_iff.mp hKK
  refine vx_callv (vx_runV (As := As) (rest := rest) F (hM (a0, v0) hc) cw ⟨pq_blind, hrec H hP, pq_now hK hA hZ hP hD hS⟩ rfl hn hl.1 rfl (lv_room hr8) hd hf) hS (fun q _ h => h) (fun q h => h) (fun q _ h => h) (fun E ce q9 u t H1 locs1 ht hvm hp hb hz1 hk1 hS1 hcell hv hcl => ?_) (fun u t H1 locs1 ht hvm hw hB hz1 hk1 hS1 => ?_)
  · obtain ⟨hw, hP1, -, hD1⟩ := hb
    cases hw
    cases hk
    rw [ht] at hP1
    exact vx_out (fun x hx => (hno x hx).elim) hlocks hcell hv hcl (fun t2 ht2 hvm2 => ⟨v0, trivial, ⟨rfl, by rw [ht2]; exact hP1, va_K.moved hvm2 hK, hD1⟩, hS1.F ht2⟩) hS1.2.2 hmc hms
  · cases hw
    obtain ⟨hP1, -, hD1⟩ := hB
    rw [ht] at hP1
    exact kk _ hc res hk H1 locs1 ls hP1 hD1 hS1 hl
theorem sk_throw0 (F : CallFix p m c cc nL s args Ts own) (hK : va_K D vwCl tys s) (hA : ∀ q, s.heap.size ≤ q → A q) (hZ : zz A s s.heap) (hlocks : meth.locks = false) (hno : ∀ x ∈ c.exceptionTable.toList, False) (hl : l.stackTraces = false) {cls : String} {names : List String} {ik ic : Nat} {B : List Cond} (hcls : Bundle.fit cls = true) (hnames : ∀ n ∈ names, Bundle.fit n = true) (hk : Cond.classLink own ik cls ∈ Ts) (hini : Cond.initialized cls ∈ Ts) (hat : ∀ w ∈ (vx_at0 own ic cls names).filter goodWord, w ∈ Ts) (hB : ∀ w ∈ (vx_at0 own ic cls names).filter (fun w => !goodWord w), w ∈ B) (hB2 : ∀ w ∈ B, w.before args s = true) (hgood : ∀ w ∈ Cond.classLink own ik cls :: Cond.initialized cls :: vx_at0 own ic cls names, vx_ot w = true) (d0 : decode cc pc = .ok (.new ik, 3)) (d3 : decode cc (pc + 3) = .ok (.dup, 1)) (d4 : decode cc (pc + 4) = .ok (.invokespecial ic, 3)) (d7 : decode cc (pc + 7) = .ok (.athrow, 1)) (hRf : names.length + 3 < R.frames) (hRl : (rest.map fun v => v.category).sum + (13 * (names.length + 1) + 42) ≤ R.locals) (hRc : cells + 1 ≤ R.cells) (hRs : slots + 6 ≤ R.slots) (hmc : cells + 1 ≤ mc) (hms : slots + 6 ≤ ms) : sk p l e R s m args below meth c D A nL cells slots (fun res => vx_MQ below (Qc res) (xc D A tys Ws res) args s mc ms A) (Ws v) pc lv rest (some (.inr cls, v)) := by
  intro res hKK H locs ls hP hD hS hlv
  cases hKK
  refine vx_throw0 F.1 F.2.1 hl F.2.2.2.1 hcls hnames (F.2.2.2.2 _ hk) (F.2.2.2.2 _ hini) (vx_hat (fun w h => F.2.2.2.2 w (hat w h)) hB hB2) hgood hZ.1 hZ.2.1 hS (hlv.1.trans F.2.2.1.symm) d0 d3 d4 d7 (fun x hx => (hno x hx).elim) hRf hRl hRc hRs hlocks (fun t hvm hz hk1 => ⟨v, trivial, ⟨rfl, hP.kept (fun k q hq => hk1 q.1 (hP k q hq).lt), va_K.moved hvm hK, hD⟩, ⟨Nat.le_trans hS.1 hz, fun q h1 h2 => (hk1 q (Nat.lt_of_lt_of_le h1 hS.1)).trans (hS.2.1 q h1 h2)⟩⟩) hS.2.2 hmc hms
theorem sk_xiret (F : CallFix p m c cc nL s args Ts own) (hK : va_K D vwCl tys s) (hr : meth.sig.returnType = some .int) (hlocks : meth.locks = false) {r : Int32} (hmc : cells ≤ mc) (hms : slots ≤ ms) (hd : decode cc pc = .ok (.ireturn, 1)) : sk p l e R s m args below meth c D A nL cells slots (fun res => vx_MQ below (xi D A tys Ws res) (xc D A tys Ws res) args s mc ms A) (Ws v) pc lv [.int r] (some (.inl r, v)) := by
  intro res hKK H locs ls hP hD hS hl
  cases hKK
  exact vx_ret (W.widen hmc hms (W.iret F.1 F.2.1 hr (fun t ht hW => ⟨⟨r, v, rfl, rfl, by rw [ht]; exact hP, va_K.moved hW.alike hK, hD⟩, hS.F ht⟩) hS.2.2 hd))
theorem sk_xzret (F : CallFix p m c cc nL s args Ts own) (hK : va_K D vwCl tys s) (hr : meth.sig.returnType = some .boolean) (hlocks : meth.locks = false) {r : Int32} (hmc : cells ≤ mc) (hms : slots ≤ ms) (hd : decode cc pc = .ok (.ireturn, 1)) : sk p l e R s m args below meth c D A nL cells slots (fun res => vx_MQ below (xi D A tys Ws res) (xc D A tys Ws res) args s mc ms A) (Ws v) pc lv [.int r] (gd (bo r) (some (.inl r, v))) := by
  intro res hKK H locs ls hP hD hS hl
  obtain ⟨hb, hKK⟩ := gd_some hKK
  cases hKK
  exact vx_ret (W.widen hmc hms (W.zret F.1 F.2.1 hr (bo_n hb) (fun t ht hW => ⟨⟨r, v, rfl, rfl, by rw [ht]; exact hP, va_K.moved hW.alike hK, hD⟩, hS.F ht⟩) hS.2.2 hd))
theorem sk_xvret (F : CallFix p m c cc nL s args Ts own) (hK : va_K D vwCl tys s) (hr : meth.sig.returnType = none) (hlocks : meth.locks = false) (hmc : cells ≤ mc) (hms : slots ≤ ms) (hd : decode cc pc = .ok (.return_, 1)) : sk p l e R s m args below meth c D A nL cells slots (fun res => vx_MQ below (xv D A tys Ws res) (xc D A tys Ws res) args s mc ms A) (Ws v) pc lv [] (some (.inl (), v)) := by
  intro res hKK H locs ls hP hD hS hl
  cases hKK
  exact vx_ret (W.widen hmc hms (W.vret F.1 F.2.1 hr (fun t ht hW => ⟨⟨v, rfl, rfl, by rw [ht]; exact hP, va_K.moved hW.alike hK, hD⟩, hS.F ht⟩) hS.2.2 hd))
end SKX
def cxx (p : Program) (s : State) (m : MethodId) (args : Array Value) (meth : Method) (c : Code) (cc : ByteArray) (nL : Nat) (Ts : List Cond) (own : String) (D : va_G) (tys : List (ClassId × FieldType)) (A : Nat → Prop) (ret : Option FieldType) : Prop :=
  CallFix p m c cc nL s args Ts own ∧ va_K D vwCl tys s ∧ (∀ q, s.heap.size ≤ q → A q) ∧ zz A s s.heap ∧ meth.sig.returnType = ret ∧ meth.locks = false ∧ (∀ x ∈ c.exceptionTable.toList, False)
section SKP
variable {l : Launch} {y : MethodName} {ws ws' : List Cond} {rm : Room} {mc ms : Nat} {D : va_G} {A : Nat → Prop} {tys : List (ClassId × FieldType)} {σ : Type} {Ws : σ → va_W} {as : List Value} {v : σ} {cc : ByteArray} {maxL : Nat} {ret : Option FieldType}
theorem XI_of {K : Option ((Int32 ⊕ String) × σ)} (hy : plainName y.cls = true) (hw : ws = Cond.code y cc maxL ret :: ws') (hn : (lg_sl as).length ≤ maxL) (body : ∀ (p : Program) (e : Env) (s : State) (m : MethodId) (below : List Frame) (meth : Method) (c : Code), cxx p s m as.toArray meth c cc maxL ws y.cls D tys A ret → sk p l e rm s m as.toArray below meth c D A maxL 0 0 (fun res => vx_MQ below (xi D A tys Ws res) (xc D A tys Ws res) as.toArray s mc ms A) (Ws v) 0 (lv_args 0 as) [] K) : XI l y ws rm mc ms D A tys Ws as v K := by
  intro res hres
  refine vx_ofW (cc := cc) (maxL := maxL) (ret := ret) hy hw ?_
  intro p e s m args below meth c s₁ B hml hno hv
  obtain ⟨rfl, hP, hK, hD, hA, hZ⟩ := hv
  have hl := lv_entry as (n := maxL) hn
  rw [lg_entry_eq]
  exact body p e s m below meth c ⟨⟨B.exec, B.bytes, hml, findClass_of_methodNamed B.named, atoms_spec B.pre⟩, hK, hA, hZ, B.returns, B.notSynchronized, hno⟩ res hres s.heap [] _ hP hD va_S.rf hl
theorem XV_of {K : Option ((Unit ⊕ String) × σ)} (hy : plainName y.cls = true) (hw : ws = Cond.code y cc maxL ret :: ws') (hn : (lg_sl as).length ≤ maxL) (body : ∀ (p : Program) (e : Env) (s : State) (m : MethodId) (below : List Frame) (meth : Method) (c : Code), cxx p s m as.toArray meth c cc maxL ws y.cls D tys A ret → sk p l e rm s m as.toArray below meth c D A maxL 0 0 (fun res => vx_MQ below (xv D A tys Ws res) (xc D A tys Ws res) as.toArray s mc ms A) (Ws v) 0 (lv_args 0 as) [] K) : XV l y ws rm mc ms D A tys Ws as v K := by
  intro res hres
  refine vx_ofW (cc := cc) (maxL := maxL) (ret := ret) hy hw ?_
  intro p e s m args below meth c s₁ B hml hno hv
  obtain ⟨rfl, hP, hK, hD, hA, hZ⟩ := hv
  have hl := lv_entry as (n := maxL) hn
  rw [lg_entry_eq]
  exact body p e s m below meth c ⟨⟨B.exec, B.bytes, hml, findClass_of_methodNamed B.named, atoms_spec B.pre⟩, hK, hA, hZ, B.returns, B.notSynchronized, hno⟩ res hres s.heap [] _ hP hD va_S.rf hl
end SKP
section SKD
variable {p : Program} {l : Launch} {e : Env} {R : Room} {s : State} {m : MethodId} {args : Array Value} {below : List Frame} {meth : Method} {c : Code} {cc : ByteArray} {nL : Nat} {Ts : List Cond} {own : String} {D : va_G} {tys : List (ClassId × FieldType)} {A : Nat → Prop} {cells slots : Nat} {ρ : Type} {Q : ρ → State → Prop} {pc : Nat} {lv : List (Nat × Value)} {rest : List Value}
variable {σ : Type} {Ws : σ → va_W} {v : σ} {y x : MethodName} {bytes : ByteArray} {maxL n index : Nat} {ret : Option FieldType} {wy : List Cond} {rm : Room} {As : List Value} {b : Nat} {C C1 owner : String}
theorem sk_callDi (F : CallFix p m c cc nL s args Ts own) (hK : va_K D vwCl tys s) (hA : ∀ q, s.heap.size ≤ q → A q) (hZ : zz A s s.heap) {Kc : Option (Int32 × σ)} (K : Int32 → σ → Option ρ) (hM : CI l y wy rm D A tys Ws (.ref b :: As) v Kc) (cw : (CallW R s args own C index y bytes maxL ret wy rm 0 0 n ∧ ∀ H : Heap, va_P D vwCl (Ws v) H → ∃ cell : Cell, H[b]? = some cell ∧ cell.vm.isStatics = false ∧ s.vm.findClass C = some cell.cls) ∨ (va_CU R s args own C1 owner index x y bytes maxL ret wy rm 0 0 n ∧ ∀ H : Heap, va_P D vwCl (Ws v) H → ∃ cell : Cell, H[b]? = some cell ∧ cell.vm.isStatics = false ∧ s.vm.findClass C1 = some cell.cls)) {st0 : List Value} (hst : st0 = (As.reverse ++ .ref b :: rest)) (hn : As.length = n) (hr8 : (rest.map fun v => v.category).sum ≤ 8) (hf : cells + 0 ≤ R.cells ∧ slots + 0 ≤ R.slots) (hd : decode cc pc = .ok (.invokevirtual index, 3)) (kk : ∀ r v1, Kc = some (r, v1) → sk p l e R s m args below meth c D A nL cells slots Q (Ws v1) (pc + 3) lv (.int r :: rest) (K r v1)) : sk p l e R s m args below meth c D A nL cells slots Q (Ws v) pc lv st0 (bd Kc K) := by
  rcases cw with ⟨cw, hr⟩ | ⟨cw, hr⟩
  · exact sk_callVi F hK hA hZ K hM cw hr hst hn hr8 hf hd kk
  · exact sk_callUi F hK hA hZ K hM cw hr hst hn hr8 hf hd kk
end SKD
