/-! the walk of a body against a value: sk says: if the program's own text (K) has the end res, the machine comes from here to Q res -/
def gd {ρ : Type} (c : Prop) [Decidable c] (K : Option ρ) : Option ρ := if c then K else none
theorem gd_some {ρ : Type} {c : Prop} [Decidable c] {K : Option ρ} {res : ρ} (h : gd c K = some res) : c ∧ K = some res := by
  unfold gd at h
  by_cases hc : c
  · rw [if_pos hc] at h; exact ⟨hc, h⟩
  · rw [if_neg hc] at h; cases h
def bd {α σ ρ : Type} (Kc : Option (α × σ)) (K : α → σ → Option ρ) : Option ρ := Kc.bind fun q => K q.1 q.2
theorem bd_some {α σ ρ : Type} {a : α} {b : σ} {K : α → σ → Option ρ} : bd (some (a, b)) K = K a b := rfl
theorem gd_pos {ρ : Type} {c : Prop} [Decidable c] {K : Option ρ} (h : c) : gd c K = K := if_pos h
abbrev inb (i : Int32) (n : Nat) : Prop := ¬ (i < 0 ∨ n ≤ i.toNatClampNeg)
abbrev bo (x : Int32) : Prop := x = 0 ∨ x = 1
abbrev Mem : Type := Nat → Nat → Int32
def up2 (v : Mem) (o k : Nat) (x : Int32) : Mem := fun a => if a = o then upd (v o) k x else v a
/-- a world of numbered things: thing o lies at ad o and looks as sh says of its row -/
def ow (L : List Nat) (ad : Nat → Nat) (sh : Nat → (Nat → Int32) → va_E) (v : Mem) : va_W := L.map (fun o => (ad o, sh o (v o)))
theorem ow_get {L : List Nat} {ad : Nat → Nat} {sh : Nat → (Nat → Int32) → va_E} {v : Mem} {X : va_W} {o : Nat} (h : o ∈ L) : ∃ k : Nat, L[k]? = some o ∧ (ow L ad sh v ++ X)[k]? = some (ad o, sh o (v o)) := by
  obtain ⟨k, hk⟩ := List.getElem?_of_mem h
  refine ⟨k, hk, ?_⟩
  have hlt : k < L.length := (List.getElem?_eq_some_iff.mp hk).1
  rw [List.getElem?_append_left (by simpa [ow] using hlt)]
  simp [ow, hk]
theorem ow_set {L : List Nat} (nd : L.Nodup) {ad : Nat → Nat} {sh : Nat → (Nat → Int32) → va_E} {v : Mem} {X : va_W} {o k j : Nat} {x : Int32} (hk : L[k]? = some o) : (ow L ad sh v ++ X).set k (ad o, sh o (upd (v o) j x)) = ow L ad sh (up2 v o j x) ++ X := by
  have hlt : k < L.length := (List.getElem?_eq_some_iff.mp hk).1
  rw [List.set_append_left _ _ (by simpa [ow] using hlt)]
  congr 1
  apply List.ext_getElem?
  intro i
  by_cases hi : i = k
  · subst hi
    rw [List.getElem?_set_self (by simpa [ow] using hlt)]
    simp [ow, hk, up2]
  · rw [List.getElem?_set_ne (Ne.symm hi)]
    simp only [ow, List.getElem?_map]
    cases hL : L[i]? with
    | none => rfl
    | some a =>
      have hne : a ≠ o := fun e => by
        subst e
        exact hi ((List.getElem?_inj (List.getElem?_eq_some_iff.mp hL).1 nd).mp (hL.trans hk.symm))
      simp [up2, hne]
/-- the fixed part of a world: classes' numbers, array classes, what may change -/
def wo (D : va_G) (A : Nat → Prop) (tys : List (ClassId × FieldType)) (ws : va_W) (t : State) : Prop := va_P D vwCl ws t.heap ∧ va_K D vwCl tys t ∧ va_D A ws
abbrev IAE : String := "java/lang/IllegalArgumentException"
abbrev ISE : String := "java/lang/IllegalStateException"
/-- words that a throw and its catching read, and that no table keeps by itself -/
def nw (U : State) : Prop := va_Nw (.declares (Bundle.init0 "java/lang/RuntimeException")) U ∧ va_Nw (.declares (Bundle.init0 "java/lang/Exception")) U ∧ va_Nw (.declares (Bundle.init0 "java/lang/Throwable")) U ∧ va_Nw (.castable IAE IAE) U ∧ va_Nw (.castable ISE ISE) U ∧ va_Nc ISE IAE U
theorem nw_warm {s U : State} (hW : s.WarmedH U.vm) (h : nw s) : nw U := ⟨va_Nw.warmD hW h.1, va_Nw.warmD hW h.2.1, va_Nw.warmD hW h.2.2.1, va_Nw.warmC hW h.2.2.2.1, va_Nw.warmC hW h.2.2.2.2.1, va_Nc.moved hW.alike h.2.2.2.2.2⟩
theorem nw_same {u U : State} (hv : u.vm = U.vm) (h : nw u) : nw U := ⟨va_Nw.same rfl hv h.1, va_Nw.same rfl hv h.2.1, va_Nw.same rfl hv h.2.2.1, va_Nw.same rfl hv h.2.2.2.1, va_Nw.same rfl hv h.2.2.2.2.1, va_Nc.moved (by rw [← hv]; exact Vm.Alike.refl u.vm) h.2.2.2.2.2⟩
def zz (A : Nat → Prop) (U : State) (H : Heap) : Prop := vx_Zq Bundle.tN "UNASSIGNED_STACK" Bundle.steD A U H ∧ vx_Zq Bundle.tN "SUPPRESSED_SENTINEL" Bundle.listD A U H ∧ nw U
def pq (D : va_G) (A : Nat → Prop) (tys : List (ClassId × FieldType)) (as : List Value) (ws : va_W) : Array Value → State → Prop := va_Pc as (fun U => va_P D vwCl ws U.heap ∧ va_K D vwCl tys U ∧ va_D A ws ∧ (∀ q, U.heap.size ≤ q → A q) ∧ zz A U U.heap)
theorem pq_blind {D : va_G} {A : Nat → Prop} {tys : List (ClassId × FieldType)} {as : List Value} {ws : va_W} : FrameBlind (pq D A tys as ws) := by
  intro a U g mk h
  obtain ⟨h0, h1, h2, h3, h4, h5, h6, h7⟩ := h
  exact ⟨h0, h1, va_K.moved (u := U) (U := U.calling g mk a) (Vm.Alike.refl U.vm) h2, h3, h4, vx_Zq.moved (u := U) (U := U.calling g mk a) (Vm.Alike.refl U.vm) h5, vx_Zq.moved (u := U) (U := U.calling g mk a) (Vm.Alike.refl U.vm) h6, nw_same (u := U) (U := U.calling g mk a) rfl h7⟩
abbrev qi {σ : Type} (D : va_G) (A : Nat → Prop) (tys : List (ClassId × FieldType)) (Ws : σ → va_W) (res : Int32 × σ) : Array Value → State → Outcome → State → Prop := va_Qi (fun r v' => (r, v') = res) (fun v' t => wo D A tys (Ws v') t) A
abbrev qv {σ : Type} (D : va_G) (A : Nat → Prop) (tys : List (ClassId × FieldType)) (Ws : σ → va_W) (res : σ) : Array Value → State → Outcome → State → Prop := va_Qv (fun v' => v' = res) (fun v' t => wo D A tys (Ws v') t) A
abbrev qr {σ : Type} (D : va_G) (A : Nat → Prop) (tys : List (ClassId × FieldType)) (ad : Nat → Nat) (Ws : σ → va_W) (res : Nat × σ) : Array Value → State → Outcome → State → Prop := va_Qr (fun u => u = res) (fun u a t => a = ad u.1 ∧ wo D A tys (Ws u.2) t) A
/-- contracts: the machine's method ends as the text K says -/
def CI {σ : Type} (l : Launch) (y : MethodName) (ws : List Cond) (rm : Room) (D : va_G) (A : Nat → Prop) (tys : List (ClassId × FieldType)) (Ws : σ → va_W) (as : List Value) (v : σ) (K : Option (Int32 × σ)) : Prop := ∀ res, K = some res → Met l y ws rm (pq D A tys as (Ws v)) (qi D A tys Ws res) 0 0 A
def CV {σ : Type} (l : Launch) (y : MethodName) (ws : List Cond) (rm : Room) (D : va_G) (A : Nat → Prop) (tys : List (ClassId × FieldType)) (Ws : σ → va_W) (as : List Value) (v : σ) (K : Option σ) : Prop := ∀ res, K = some res → Met l y ws rm (pq D A tys as (Ws v)) (qv D A tys Ws res) 0 0 A
def CR {σ : Type} (l : Launch) (y : MethodName) (ws : List Cond) (rm : Room) (D : va_G) (A : Nat → Prop) (tys : List (ClassId × FieldType)) (ad : Nat → Nat) (Ws : σ → va_W) (as : List Value) (v : σ) (K : Option (Nat × σ)) : Prop := ∀ res, K = some res → Met l y ws rm (pq D A tys as (Ws v)) (qr D A tys ad Ws res) 0 0 A
section SKA
variable {p : Program} {l : Launch} {e : Env} {R : Room} {s : State} {m : MethodId} {args : Array Value} {below : List Frame} {meth : Method} {c : Code} {cc : ByteArray} {nL : Nat} {Ts : List Cond} {own : String} {D : va_G} {tys : List (ClassId × FieldType)} {A : Nat → Prop} {cells slots : Nat} {ρ : Type} {Q : ρ → State → Prop} {ws : va_W} {pc : Nat} {lv : List (Nat × Value)} {st : List Value} {K : Option ρ}
def sk (p : Program) (l : Launch) (e : Env) (R : Room) (s : State) (m : MethodId) (args : Array Value) (below : List Frame) (meth : Method) (c : Code) (D : va_G) (A : Nat → Prop) (nL cells slots : Nat) {ρ : Type} (Q : ρ → State → Prop) (ws : va_W) (pc : Nat) (lv : List (Nat × Value)) (st : List Value) (K : Option ρ) : Prop :=
  ∀ res, K = some res → ∀ (H : Heap) (locs : List Loc) (ls : Array Slot), va_P D vwCl ws H → va_D A ws → va_S A s.heap H locs → lv_has ls nL lv → W p l e R s m args below meth c H locs cells slots (Q res) (F0 m pc ls st)
theorem sk_none : sk p l e R s m args below meth c D A nL cells slots Q ws pc lv st (none : Option ρ) := fun _ h => by cases h
theorem sk_lv {lv' : List (Nat × Value)} (ks : List Nat) (h : lv_pick lv ks = lv') (kk : sk p l e R s m args below meth c D A nL cells slots Q ws pc lv' st K) : sk p l e R s m args below meth c D A nL cells slots Q ws pc lv st K := fun res hK H locs ls hP hD hS hl => kk res hK H locs ls hP hD hS (lv_sub hl ks h)
theorem sk_gd {c0 : Prop} [Decidable c0] (kk : c0 → sk p l e R s m args below meth c D A nL cells slots Q ws pc lv st K) : sk p l e R s m args below meth c D A nL cells slots Q ws pc lv st (gd c0 K) := fun res hK => kk (gd_some hK).1 res (gd_some hK).2
theorem sk_eq {K' : Option ρ} (h : K = K') (kk : sk p l e R s m args below meth c D A nL cells slots Q ws pc lv st K') : sk p l e R s m args below meth c D A nL cells slots Q ws pc lv st K := h ▸ kk
theorem sk_iconst (F : CallFix p m c cc nL s args Ts own) {n : Int} {x : Int32} (hd : decode cc pc = .ok (.iconst n, 1)) (hv : Int32.ofInt n = x) (kk : sk p l e R s m args below meth c D A nL cells slots Q ws (pc + 1) lv (.int x :: st) K) : sk p l e R s m args below meth c D A nL cells slots Q ws pc lv (st) K := fun res hK H locs ls hP hD hS hl => lv_iconst F.1 F.2.1 hd hv (kk res hK H locs ls hP hD hS hl)
theorem sk_bipush (F : CallFix p m c cc nL s args Ts own) {n : Int} {x : Int32} (hd : decode cc pc = .ok (.bipush n, 2)) (hv : (Int8.ofInt n).toInt32 = x) (kk : sk p l e R s m args below meth c D A nL cells slots Q ws (pc + 2) lv (.int x :: st) K) : sk p l e R s m args below meth c D A nL cells slots Q ws pc lv (st) K := fun res hK H locs ls hP hD hS hl => lv_bipush F.1 F.2.1 hd hv (kk res hK H locs ls hP hD hS hl)
theorem sk_sipush (F : CallFix p m c cc nL s args Ts own) {n : Int} {x : Int32} (hd : decode cc pc = .ok (.sipush n, 3)) (hv : (Int16.ofInt n).toInt32 = x) (kk : sk p l e R s m args below meth c D A nL cells slots Q ws (pc + 3) lv (.int x :: st) K) : sk p l e R s m args below meth c D A nL cells slots Q ws pc lv (st) K := fun res hK H locs ls hP hD hS hl => lv_sipush F.1 F.2.1 hd hv (kk res hK H locs ls hP hD hS hl)
theorem sk_ldc (F : CallFix p m c cc nL s args Ts own) {index : Nat} {x : Int32} (hd : decode cc pc = .ok (.ldc index, 2)) (hc : (Jvm.Cond.constant own index x).before args s = true) (kk : sk p l e R s m args below meth c D A nL cells slots Q ws (pc + 2) lv (.int x :: st) K) : sk p l e R s m args below meth c D A nL cells slots Q ws pc lv (st) K := fun res hK H locs ls hP hD hS hl => lv_ldc F.1 F.2.1 F.2.2.2.1 hc hd (kk res hK H locs ls hP hD hS hl)
theorem sk_lconst (F : CallFix p m c cc nL s args Ts own) {n : Fin 2} {x : Int64} (hd : decode cc pc = .ok (.lconst n, 1)) (hv : Int64.ofNat (n : Nat) = x) (kk : sk p l e R s m args below meth c D A nL cells slots Q ws (pc + 1) lv (.long x :: st) K) : sk p l e R s m args below meth c D A nL cells slots Q ws pc lv (st) K := fun res hK H locs ls hP hD hS hl => lv_lconst F.1 F.2.1 hd hv (kk res hK H locs ls hP hD hS hl)
theorem sk_iload_n (F : CallFix p m c cc nL s args Ts own) {k : Fin 4} {i : Nat} {x : Int32} (hd : decode cc pc = .ok (.iload_n k, 1)) (hi : (k : Nat) = i) (j : Nat) (hj : lv[j]? = some (i, .int x)) (kk : sk p l e R s m args below meth c D A nL cells slots Q ws (pc + 1) lv (.int x :: st) K) : sk p l e R s m args below meth c D A nL cells slots Q ws pc lv st K := fun res hK H locs ls hP hD hS hl => lv_iload_n F.1 F.2.1 hd hi (lv_at hl j hj) (kk res hK H locs ls hP hD hS hl)
theorem sk_iload (F : CallFix p m c cc nL s args Ts own) {i : Nat} {x : Int32} (hd : decode cc pc = .ok (.iload i, 2)) (j : Nat) (hj : lv[j]? = some (i, .int x)) (kk : sk p l e R s m args below meth c D A nL cells slots Q ws (pc + 2) lv (.int x :: st) K) : sk p l e R s m args below meth c D A nL cells slots Q ws pc lv st K := fun res hK H locs ls hP hD hS hl => lv_iload F.1 F.2.1 hd (lv_at hl j hj) (kk res hK H locs ls hP hD hS hl)
theorem sk_aload_n (F : CallFix p m c cc nL s args Ts own) {k : Fin 4} {i : Nat} {x : Nat} (hd : decode cc pc = .ok (.aload_n k, 1)) (hi : (k : Nat) = i) (j : Nat) (hj : lv[j]? = some (i, .ref x)) (kk : sk p l e R s m args below meth c D A nL cells slots Q ws (pc + 1) lv (.ref x :: st) K) : sk p l e R s m args below meth c D A nL cells slots Q ws pc lv st K := fun res hK H locs ls hP hD hS hl => lv_aload_n F.1 F.2.1 hd hi (lv_at hl j hj) (kk res hK H locs ls hP hD hS hl)
theorem sk_aload (F : CallFix p m c cc nL s args Ts own) {i : Nat} {x : Nat} (hd : decode cc pc = .ok (.aload i, 2)) (j : Nat) (hj : lv[j]? = some (i, .ref x)) (kk : sk p l e R s m args below meth c D A nL cells slots Q ws (pc + 2) lv (.ref x :: st) K) : sk p l e R s m args below meth c D A nL cells slots Q ws pc lv st K := fun res hK H locs ls hP hD hS hl => lv_aload F.1 F.2.1 hd (lv_at hl j hj) (kk res hK H locs ls hP hD hS hl)
theorem sk_istore_n (F : CallFix p m c cc nL s args Ts own) {k : Fin 4} {i : Nat} {x : Int32} {lv' : List (Nat × Value)} (hd : decode cc pc = .ok (.istore_n k, 1)) (hi : (k : Nat) = i) (hn : i < nL) (hv : (i, Value.int x) :: lv.filter (fun q => !(q.1 == i) && !(q.1 + 1 == i && q.2.category == 2)) = lv') (kk : sk p l e R s m args below meth c D A nL cells slots Q ws (pc + 1) lv' st K) : sk p l e R s m args below meth c D A nL cells slots Q ws pc lv (.int x :: st) K := fun res hK H locs ls hP hD hS hl => lv_istore_n F.1 F.2.1 hd hi hl hn hv (fun ls hl => kk res hK H locs ls hP hD hS hl)
theorem sk_istore (F : CallFix p m c cc nL s args Ts own) {i : Nat} {x : Int32} {lv' : List (Nat × Value)} (hd : decode cc pc = .ok (.istore i, 2)) (hn : i < nL) (hv : (i, Value.int x) :: lv.filter (fun q => !(q.1 == i) && !(q.1 + 1 == i && q.2.category == 2)) = lv') (kk : sk p l e R s m args below meth c D A nL cells slots Q ws (pc + 2) lv' st K) : sk p l e R s m args below meth c D A nL cells slots Q ws pc lv (.int x :: st) K := fun res hK H locs ls hP hD hS hl => lv_istore F.1 F.2.1 hd hl hn hv (fun ls hl => kk res hK H locs ls hP hD hS hl)
theorem sk_astore_n (F : CallFix p m c cc nL s args Ts own) {k : Fin 4} {i : Nat} {x : Nat} {lv' : List (Nat × Value)} (hd : decode cc pc = .ok (.astore_n k, 1)) (hi : (k : Nat) = i) (hn : i < nL) (hv : (i, Value.ref x) :: lv.filter (fun q => !(q.1 == i) && !(q.1 + 1 == i && q.2.category == 2)) = lv') (kk : sk p l e R s m args below meth c D A nL cells slots Q ws (pc + 1) lv' st K) : sk p l e R s m args below meth c D A nL cells slots Q ws pc lv (.ref x :: st) K := fun res hK H locs ls hP hD hS hl => lv_astore_n F.1 F.2.1 hd hi hl hn hv (fun ls hl => kk res hK H locs ls hP hD hS hl)
theorem sk_astore (F : CallFix p m c cc nL s args Ts own) {i : Nat} {x : Nat} {lv' : List (Nat × Value)} (hd : decode cc pc = .ok (.astore i, 2)) (hn : i < nL) (hv : (i, Value.ref x) :: lv.filter (fun q => !(q.1 == i) && !(q.1 + 1 == i && q.2.category == 2)) = lv') (kk : sk p l e R s m args below meth c D A nL cells slots Q ws (pc + 2) lv' st K) : sk p l e R s m args below meth c D A nL cells slots Q ws pc lv (.ref x :: st) K := fun res hK H locs ls hP hD hS hl => lv_astore F.1 F.2.1 hd hl hn hv (fun ls hl => kk res hK H locs ls hP hD hS hl)
theorem sk_iinc (F : CallFix p m c cc nL s args Ts own) {i : Nat} {n : Int} {x y : Int32} {lv' : List (Nat × Value)} (hd : decode cc pc = .ok (.iinc i n, 3)) (k : Nat) (hk : lv[k]? = some (i, .int x)) (hy : x + Int32.ofInt n = y) (hn : i < nL) (hv : (i, Value.int y) :: lv.filter (fun q => !(q.1 == i) && !(q.1 + 1 == i && q.2.category == 2)) = lv') (kk : sk p l e R s m args below meth c D A nL cells slots Q ws (pc + 3) lv' st K) : sk p l e R s m args below meth c D A nL cells slots Q ws pc lv st K := fun res hK H locs ls hP hD hS hl => lv_iinc F.1 F.2.1 hd hl hk hy hn hv (fun ls hl => kk res hK H locs ls hP hD hS hl)
theorem sk_iadd (F : CallFix p m c cc nL s args Ts own) {x y : Int32} (hd : decode cc pc = .ok (.iadd, 1))  (kk : sk p l e R s m args below meth c D A nL cells slots Q ws (pc + 1) lv (.int (x + y) :: st) K) : sk p l e R s m args below meth c D A nL cells slots Q ws pc lv (.int y :: .int x :: st) K := fun res hK H locs ls hP hD hS hl => lv_iadd F.1 F.2.1 hd (kk res hK H locs ls hP hD hS hl)
theorem sk_isub (F : CallFix p m c cc nL s args Ts own) {x y : Int32} (hd : decode cc pc = .ok (.isub, 1))  (kk : sk p l e R s m args below meth c D A nL cells slots Q ws (pc + 1) lv (.int (x - y) :: st) K) : sk p l e R s m args below meth c D A nL cells slots Q ws pc lv (.int y :: .int x :: st) K := fun res hK H locs ls hP hD hS hl => lv_isub F.1 F.2.1 hd (kk res hK H locs ls hP hD hS hl)
theorem sk_imul (F : CallFix p m c cc nL s args Ts own) {x y : Int32} (hd : decode cc pc = .ok (.imul, 1))  (kk : sk p l e R s m args below meth c D A nL cells slots Q ws (pc + 1) lv (.int (x * y) :: st) K) : sk p l e R s m args below meth c D A nL cells slots Q ws pc lv (.int y :: .int x :: st) K := fun res hK H locs ls hP hD hS hl => lv_imul F.1 F.2.1 hd (kk res hK H locs ls hP hD hS hl)
theorem sk_iand (F : CallFix p m c cc nL s args Ts own) {x y : Int32} (hd : decode cc pc = .ok (.iand, 1))  (kk : sk p l e R s m args below meth c D A nL cells slots Q ws (pc + 1) lv (.int (x &&& y) :: st) K) : sk p l e R s m args below meth c D A nL cells slots Q ws pc lv (.int y :: .int x :: st) K := fun res hK H locs ls hP hD hS hl => lv_iand F.1 F.2.1 hd (kk res hK H locs ls hP hD hS hl)
theorem sk_irem (F : CallFix p m c cc nL s args Ts own) {x y : Int32} (hd : decode cc pc = .ok (.irem, 1)) (hne : ¬ y = 0) (kk : sk p l e R s m args below meth c D A nL cells slots Q ws (pc + 1) lv (.int (x - x / y * y) :: st) K) : sk p l e R s m args below meth c D A nL cells slots Q ws pc lv (.int y :: .int x :: st) K := fun res hK H locs ls hP hD hS hl => lv_irem F.1 F.2.1 hd hne (kk res hK H locs ls hP hD hS hl)
theorem sk_idiv (F : CallFix p m c cc nL s args Ts own) {x y : Int32} (hd : decode cc pc = .ok (.idiv, 1)) (hne : ¬ y = 0) (kk : sk p l e R s m args below meth c D A nL cells slots Q ws (pc + 1) lv (.int (x / y) :: st) K) : sk p l e R s m args below meth c D A nL cells slots Q ws pc lv (.int y :: .int x :: st) K := fun res hK H locs ls hP hD hS hl => lv_idiv F.1 F.2.1 hd hne (kk res hK H locs ls hP hD hS hl)
theorem sk_ineg (F : CallFix p m c cc nL s args Ts own) {x : Int32} (hd : decode cc pc = .ok (.ineg, 1))  (kk : sk p l e R s m args below meth c D A nL cells slots Q ws (pc + 1) lv (.int (-x) :: st) K) : sk p l e R s m args below meth c D A nL cells slots Q ws pc lv (.int x :: st) K := fun res hK H locs ls hP hD hS hl => lv_ineg F.1 F.2.1 hd (kk res hK H locs ls hP hD hS hl)
theorem sk_i2l (F : CallFix p m c cc nL s args Ts own) {x : Int32} (hd : decode cc pc = .ok (.i2l, 1))  (kk : sk p l e R s m args below meth c D A nL cells slots Q ws (pc + 1) lv (.long x.toInt64 :: st) K) : sk p l e R s m args below meth c D A nL cells slots Q ws pc lv (.int x :: st) K := fun res hK H locs ls hP hD hS hl => lv_i2l F.1 F.2.1 hd rfl (kk res hK H locs ls hP hD hS hl)
theorem sk_lcmp (F : CallFix p m c cc nL s args Ts own) {x y : Int64} (hd : decode cc pc = .ok (.lcmp, 1))  (kk : sk p l e R s m args below meth c D A nL cells slots Q ws (pc + 1) lv (.int (lg_cmp x y) :: st) K) : sk p l e R s m args below meth c D A nL cells slots Q ws pc lv (.long y :: .long x :: st) K := fun res hK H locs ls hP hD hS hl => W.lcmp F.1 F.2.1 hd (kk res hK H locs ls hP hD hS hl)
theorem sk_dup (F : CallFix p m c cc nL s args Ts own) {a : Value} (hd : decode cc pc = .ok (.dup, 1)) (ha : a.category = 1) (kk : sk p l e R s m args below meth c D A nL cells slots Q ws (pc + 1) lv (a :: a :: st) K) : sk p l e R s m args below meth c D A nL cells slots Q ws pc lv (a :: st) K := fun res hK H locs ls hP hD hS hl => lv_dup F.1 F.2.1 hd ha (kk res hK H locs ls hP hD hS hl)
theorem sk_pop (F : CallFix p m c cc nL s args Ts own) {a : Value} (hd : decode cc pc = .ok (.pop, 1)) (ha : a.category = 1) (kk : sk p l e R s m args below meth c D A nL cells slots Q ws (pc + 1) lv (st) K) : sk p l e R s m args below meth c D A nL cells slots Q ws pc lv (a :: st) K := fun res hK H locs ls hP hD hS hl => lv_pop F.1 F.2.1 hd ha (kk res hK H locs ls hP hD hS hl)
theorem sk_dup_x1 (F : CallFix p m c cc nL s args Ts own) {a b : Value} (hd : decode cc pc = .ok (.dup_x1, 1)) (ha : a.category = 1) (hb : b.category = 1) (kk : sk p l e R s m args below meth c D A nL cells slots Q ws (pc + 1) lv (a :: b :: a :: st) K) : sk p l e R s m args below meth c D A nL cells slots Q ws pc lv (a :: b :: st) K := fun res hK H locs ls hP hD hS hl => lv_dup_x1 F.1 F.2.1 hd ha hb (kk res hK H locs ls hP hD hS hl)
theorem sk_dup_x2 (F : CallFix p m c cc nL s args Ts own) {a b d : Value} (hd : decode cc pc = .ok (.dup_x2, 1)) (ha : a.category = 1) (hb : b.category = 1) (hc : d.category = 1) (kk : sk p l e R s m args below meth c D A nL cells slots Q ws (pc + 1) lv (a :: b :: d :: a :: st) K) : sk p l e R s m args below meth c D A nL cells slots Q ws pc lv (a :: b :: d :: st) K := fun res hK H locs ls hP hD hS hl => lv_dup_x2 F.1 F.2.1 hd ha hb hc (kk res hK H locs ls hP hD hS hl)
theorem sk_dup2 (F : CallFix p m c cc nL s args Ts own) {a b : Value} (hd : decode cc pc = .ok (.dup2, 1)) (ha : a.category = 1) (hb : b.category = 1) (kk : sk p l e R s m args below meth c D A nL cells slots Q ws (pc + 1) lv (a :: b :: a :: b :: st) K) : sk p l e R s m args below meth c D A nL cells slots Q ws pc lv (a :: b :: st) K := fun res hK H locs ls hP hD hS hl => lv_dup2_11 F.1 F.2.1 hd ha hb (kk res hK H locs ls hP hD hS hl)
theorem sk_if_eq (F : CallFix p m c cc nL s args Ts own) {x : Int32} {off : Int} (tgt : Nat) {K1 K2 : Option ρ} (hd : decode cc pc = .ok (.ifCond .eq off, 3)) (ht : (pc : Int) + off = (tgt : Int)) (k1 : x = 0 → sk p l e R s m args below meth c D A nL cells slots Q ws tgt lv st K1) (k2 : ¬ x = 0 → sk p l e R s m args below meth c D A nL cells slots Q ws (pc + 3) lv st K2) : sk p l e R s m args below meth c D A nL cells slots Q ws pc lv (.int x :: st) (if x = 0 then K1 else K2) := fun res hK H locs ls hP hD hS hl => lv_if_eq F.1 F.2.1 hd ht (fun h => k1 h res (by rwa [if_pos h] at hK) H locs ls hP hD hS hl) (fun h => k2 h res (by rwa [if_neg h] at hK) H locs ls hP hD hS hl)
theorem sk_icmp_eq (F : CallFix p m c cc nL s args Ts own) {x y : Int32} {off : Int} (tgt : Nat) {K1 K2 : Option ρ} (hd : decode cc pc = .ok (.if_icmp .eq off, 3)) (ht : (pc : Int) + off = (tgt : Int)) (k1 : x = y → sk p l e R s m args below meth c D A nL cells slots Q ws tgt lv st K1) (k2 : ¬ x = y → sk p l e R s m args below meth c D A nL cells slots Q ws (pc + 3) lv st K2) : sk p l e R s m args below meth c D A nL cells slots Q ws pc lv (.int y :: .int x :: st) (if x = y then K1 else K2) := fun res hK H locs ls hP hD hS hl => lv_icmp_eq F.1 F.2.1 hd ht (fun h => k1 h res (by rwa [if_pos h] at hK) H locs ls hP hD hS hl) (fun h => k2 h res (by rwa [if_neg h] at hK) H locs ls hP hD hS hl)
theorem sk_if_lt (F : CallFix p m c cc nL s args Ts own) {x : Int32} {off : Int} (tgt : Nat) {K1 K2 : Option ρ} (hd : decode cc pc = .ok (.ifCond .lt off, 3)) (ht : (pc : Int) + off = (tgt : Int)) (k1 : x < 0 → sk p l e R s m args below meth c D A nL cells slots Q ws tgt lv st K1) (k2 : ¬ x < 0 → sk p l e R s m args below meth c D A nL cells slots Q ws (pc + 3) lv st K2) : sk p l e R s m args below meth c D A nL cells slots Q ws pc lv (.int x :: st) (if x < 0 then K1 else K2) := fun res hK H locs ls hP hD hS hl => lv_if_lt F.1 F.2.1 hd ht (fun h => k1 h res (by rwa [if_pos h] at hK) H locs ls hP hD hS hl) (fun h => k2 h res (by rwa [if_neg h] at hK) H locs ls hP hD hS hl)
theorem sk_icmp_lt (F : CallFix p m c cc nL s args Ts own) {x y : Int32} {off : Int} (tgt : Nat) {K1 K2 : Option ρ} (hd : decode cc pc = .ok (.if_icmp .lt off, 3)) (ht : (pc : Int) + off = (tgt : Int)) (k1 : x < y → sk p l e R s m args below meth c D A nL cells slots Q ws tgt lv st K1) (k2 : ¬ x < y → sk p l e R s m args below meth c D A nL cells slots Q ws (pc + 3) lv st K2) : sk p l e R s m args below meth c D A nL cells slots Q ws pc lv (.int y :: .int x :: st) (if x < y then K1 else K2) := fun res hK H locs ls hP hD hS hl => lv_icmp_lt F.1 F.2.1 hd ht (fun h => k1 h res (by rwa [if_pos h] at hK) H locs ls hP hD hS hl) (fun h => k2 h res (by rwa [if_neg h] at hK) H locs ls hP hD hS hl)
theorem sk_if_ge (F : CallFix p m c cc nL s args Ts own) {x : Int32} {off : Int} (tgt : Nat) {K1 K2 : Option ρ} (hd : decode cc pc = .ok (.ifCond .ge off, 3)) (ht : (pc : Int) + off = (tgt : Int)) (k1 : 0 ≤ x → sk p l e R s m args below meth c D A nL cells slots Q ws tgt lv st K1) (k2 : ¬ 0 ≤ x → sk p l e R s m args below meth c D A nL cells slots Q ws (pc + 3) lv st K2) : sk p l e R s m args below meth c D A nL cells slots Q ws pc lv (.int x :: st) (if 0 ≤ x then K1 else K2) := fun res hK H locs ls hP hD hS hl => lv_if_ge F.1 F.2.1 hd ht (fun h => k1 h res (by rwa [if_pos h] at hK) H locs ls hP hD hS hl) (fun h => k2 h res (by rwa [if_neg h] at hK) H locs ls hP hD hS hl)
theorem sk_icmp_ge (F : CallFix p m c cc nL s args Ts own) {x y : Int32} {off : Int} (tgt : Nat) {K1 K2 : Option ρ} (hd : decode cc pc = .ok (.if_icmp .ge off, 3)) (ht : (pc : Int) + off = (tgt : Int)) (k1 : y ≤ x → sk p l e R s m args below meth c D A nL cells slots Q ws tgt lv st K1) (k2 : ¬ y ≤ x → sk p l e R s m args below meth c D A nL cells slots Q ws (pc + 3) lv st K2) : sk p l e R s m args below meth c D A nL cells slots Q ws pc lv (.int y :: .int x :: st) (if y ≤ x then K1 else K2) := fun res hK H locs ls hP hD hS hl => lv_icmp_ge F.1 F.2.1 hd ht (fun h => k1 h res (by rwa [if_pos h] at hK) H locs ls hP hD hS hl) (fun h => k2 h res (by rwa [if_neg h] at hK) H locs ls hP hD hS hl)
theorem sk_if_gt (F : CallFix p m c cc nL s args Ts own) {x : Int32} {off : Int} (tgt : Nat) {K1 K2 : Option ρ} (hd : decode cc pc = .ok (.ifCond .gt off, 3)) (ht : (pc : Int) + off = (tgt : Int)) (k1 : 0 < x → sk p l e R s m args below meth c D A nL cells slots Q ws tgt lv st K1) (k2 : ¬ 0 < x → sk p l e R s m args below meth c D A nL cells slots Q ws (pc + 3) lv st K2) : sk p l e R s m args below meth c D A nL cells slots Q ws pc lv (.int x :: st) (if 0 < x then K1 else K2) := fun res hK H locs ls hP hD hS hl => lv_if_gt F.1 F.2.1 hd ht (fun h => k1 h res (by rwa [if_pos h] at hK) H locs ls hP hD hS hl) (fun h => k2 h res (by rwa [if_neg h] at hK) H locs ls hP hD hS hl)
theorem sk_icmp_gt (F : CallFix p m c cc nL s args Ts own) {x y : Int32} {off : Int} (tgt : Nat) {K1 K2 : Option ρ} (hd : decode cc pc = .ok (.if_icmp .gt off, 3)) (ht : (pc : Int) + off = (tgt : Int)) (k1 : y < x → sk p l e R s m args below meth c D A nL cells slots Q ws tgt lv st K1) (k2 : ¬ y < x → sk p l e R s m args below meth c D A nL cells slots Q ws (pc + 3) lv st K2) : sk p l e R s m args below meth c D A nL cells slots Q ws pc lv (.int y :: .int x :: st) (if y < x then K1 else K2) := fun res hK H locs ls hP hD hS hl => lv_icmp_gt F.1 F.2.1 hd ht (fun h => k1 h res (by rwa [if_pos h] at hK) H locs ls hP hD hS hl) (fun h => k2 h res (by rwa [if_neg h] at hK) H locs ls hP hD hS hl)
theorem sk_if_le (F : CallFix p m c cc nL s args Ts own) {x : Int32} {off : Int} (tgt : Nat) {K1 K2 : Option ρ} (hd : decode cc pc = .ok (.ifCond .le off, 3)) (ht : (pc : Int) + off = (tgt : Int)) (k1 : x ≤ 0 → sk p l e R s m args below meth c D A nL cells slots Q ws tgt lv st K1) (k2 : ¬ x ≤ 0 → sk p l e R s m args below meth c D A nL cells slots Q ws (pc + 3) lv st K2) : sk p l e R s m args below meth c D A nL cells slots Q ws pc lv (.int x :: st) (if x ≤ 0 then K1 else K2) := fun res hK H locs ls hP hD hS hl => lv_if_le F.1 F.2.1 hd ht (fun h => k1 h res (by rwa [if_pos h] at hK) H locs ls hP hD hS hl) (fun h => k2 h res (by rwa [if_neg h] at hK) H locs ls hP hD hS hl)
theorem sk_icmp_le (F : CallFix p m c cc nL s args Ts own) {x y : Int32} {off : Int} (tgt : Nat) {K1 K2 : Option ρ} (hd : decode cc pc = .ok (.if_icmp .le off, 3)) (ht : (pc : Int) + off = (tgt : Int)) (k1 : x ≤ y → sk p l e R s m args below meth c D A nL cells slots Q ws tgt lv st K1) (k2 : ¬ x ≤ y → sk p l e R s m args below meth c D A nL cells slots Q ws (pc + 3) lv st K2) : sk p l e R s m args below meth c D A nL cells slots Q ws pc lv (.int y :: .int x :: st) (if x ≤ y then K1 else K2) := fun res hK H locs ls hP hD hS hl => lv_icmp_le F.1 F.2.1 hd ht (fun h => k1 h res (by rwa [if_pos h] at hK) H locs ls hP hD hS hl) (fun h => k2 h res (by rwa [if_neg h] at hK) H locs ls hP hD hS hl)
theorem sk_if_ne (F : CallFix p m c cc nL s args Ts own) {x : Int32} {off : Int} (tgt : Nat) {K1 K2 : Option ρ} (hd : decode cc pc = .ok (.ifCond .ne off, 3)) (ht : (pc : Int) + off = (tgt : Int)) (k1 : ¬ x = 0 → sk p l e R s m args below meth c D A nL cells slots Q ws tgt lv st K1) (k2 : x = 0 → sk p l e R s m args below meth c D A nL cells slots Q ws (pc + 3) lv st K2) : sk p l e R s m args below meth c D A nL cells slots Q ws pc lv (.int x :: st) (if x = 0 then K2 else K1) := fun res hK H locs ls hP hD hS hl => lv_if_ne F.1 F.2.1 hd ht (fun h => k1 h res (by rwa [if_neg h] at hK) H locs ls hP hD hS hl) (fun h => k2 h res (by rwa [if_pos h] at hK) H locs ls hP hD hS hl)
theorem sk_icmp_ne (F : CallFix p m c cc nL s args Ts own) {x y : Int32} {off : Int} (tgt : Nat) {K1 K2 : Option ρ} (hd : decode cc pc = .ok (.if_icmp .ne off, 3)) (ht : (pc : Int) + off = (tgt : Int)) (k1 : ¬ x = y → sk p l e R s m args below meth c D A nL cells slots Q ws tgt lv st K1) (k2 : x = y → sk p l e R s m args below meth c D A nL cells slots Q ws (pc + 3) lv st K2) : sk p l e R s m args below meth c D A nL cells slots Q ws pc lv (.int y :: .int x :: st) (if x = y then K2 else K1) := fun res hK H locs ls hP hD hS hl => lv_icmp_ne F.1 F.2.1 hd ht (fun h => k1 h res (by rwa [if_neg h] at hK) H locs ls hP hD hS hl) (fun h => k2 h res (by rwa [if_pos h] at hK) H locs ls hP hD hS hl)
theorem sk_goto (F : CallFix p m c cc nL s args Ts own) {off : Int} (tgt : Nat) (hd : decode cc pc = .ok (.goto off, 3)) (ht : (pc : Int) + off = (tgt : Int)) (kk : sk p l e R s m args below meth c D A nL cells slots Q ws tgt lv st K) : sk p l e R s m args below meth c D A nL cells slots Q ws pc lv st K := fun res hK H locs ls hP hD hS hl => lv_goto F.1 F.2.1 hd ht (kk res hK H locs ls hP hD hS hl)
theorem sk_mmax (F : CallFix p m c cc nL s args Ts own) {index : Nat} (hlink : (Cond.methodLink own index Lib.Math.max.name) ∈ Ts) (hstat : (Cond.static Lib.Math.max.name) ∈ Ts) (hini : (Cond.initialized "java/lang/Math") ∈ Ts) (hcode : (Cond.code Lib.Math.max.name Lib.Math.max.code 2 (some .int)) ∈ Ts) (hfr : 1 ≤ R.frames) (hlo : (st.map fun v => v.category).sum + 13 ≤ R.locals) (hc : cells ≤ R.cells) (hs : slots ≤ R.slots) {x y : Int32} (hd : decode cc pc = .ok (.invokestatic index, 3)) (kk : sk p l e R s m args below meth c D A nL cells slots Q ws (pc + 3) lv (.int (if x < y then y else x) :: st) K) : sk p l e R s m args below meth c D A nL cells slots Q ws pc lv (.int y :: .int x :: st) K := fun res hK H locs ls hP hD hS hl => va_mmax F.1 F.2.1 (F.2.2.1.trans hl.1.symm) F.2.2.2.1 (F.2.2.2.2 _ hlink) (F.2.2.2.2 _ hstat) (F.2.2.2.2 _ hini) (F.2.2.2.2 _ hcode) hfr hlo hc hs hd (kk res hK H locs ls hP hD hS hl)
theorem sk_mmin (F : CallFix p m c cc nL s args Ts own) {index : Nat} (hlink : (Cond.methodLink own index Lib.Math.min.name) ∈ Ts) (hstat : (Cond.static Lib.Math.min.name) ∈ Ts) (hini : (Cond.initialized "java/lang/Math") ∈ Ts) (hcode : (Cond.code Lib.Math.min.name Lib.Math.min.code 2 (some .int)) ∈ Ts) (hfr : 1 ≤ R.frames) (hlo : (st.map fun v => v.category).sum + 13 ≤ R.locals) (hc : cells ≤ R.cells) (hs : slots ≤ R.slots) {x y : Int32} (hd : decode cc pc = .ok (.invokestatic index, 3)) (kk : sk p l e R s m args below meth c D A nL cells slots Q ws (pc + 3) lv (.int (if y < x then y else x) :: st) K) : sk p l e R s m args below meth c D A nL cells slots Q ws pc lv (.int y :: .int x :: st) K := fun res hK H locs ls hP hD hS hl => va_mmin F.1 F.2.1 (F.2.2.1.trans hl.1.symm) F.2.2.2.1 (F.2.2.2.2 _ hlink) (F.2.2.2.2 _ hstat) (F.2.2.2.2 _ hini) (F.2.2.2.2 _ hcode) hfr hlo hc hs hd (kk res hK H locs ls hP hD hS hl)
theorem sk_tcase (F : CallFix p m c cc nL s args Ts own) {dflt lo hi : Int} {offs : Array Int} {len : Nat} {x : Int32} {off : Int} (j : Int32) (tgt : Nat) {K1 K2 : Option ρ} (hd : decode cc pc = .ok (.tableswitch dflt lo hi offs, len)) (h1 : ¬ j.toInt < lo) (h2 : ¬ hi < j.toInt) (ho : offs[(j.toInt - lo).toNat]? = some off) (ht : (pc : Int) + off = (tgt : Int)) (k1 : x = j → sk p l e R s m args below meth c D A nL cells slots Q ws tgt lv st K1) (k2 : ¬ x = j → sk p l e R s m args below meth c D A nL cells slots Q ws pc lv (.int x :: st) K2) : sk p l e R s m args below meth c D A nL cells slots Q ws pc lv (.int x :: st) (if x = j then K1 else K2) := by
  intro res hK H locs ls hP hD hS hl
  by_cases h : x = j
  · rw [if_pos h] at hK
    subst h
    exact lv_tableIn F.1 F.2.1 hd h1 h2 ho ht (k1 rfl res hK H locs ls hP hD hS hl)
  · rw [if_neg h] at hK
    exact k2 h res hK H locs ls hP hD hS hl
theorem sk_tdef (F : CallFix p m c cc nL s args Ts own) {dflt lo hi : Int} {offs : Array Int} {len : Nat} {x : Int32} (tgt : Nat) (hd : decode cc pc = .ok (.tableswitch dflt lo hi offs, len)) (h : x.toInt < lo ∨ hi < x.toInt) (ht : (pc : Int) + dflt = (tgt : Int)) (kk : sk p l e R s m args below meth c D A nL cells slots Q ws tgt lv st K) : sk p l e R s m args below meth c D A nL cells slots Q ws pc lv (.int x :: st) K := fun res hK H locs ls hP hD hS hl => lv_tableOut F.1 F.2.1 hd h ht (kk res hK H locs ls hP hD hS hl)
end SKA
theorem ts_out {x : Int32} {m : Nat} (hm : m + 1 < 2 ^ 31) (h : ∀ j : Nat, j ≤ m → ¬ x = nI j) : x.toInt < 0 ∨ (m : Int) < x.toInt := by
  rcases pk_ix x (n := m + 1) hm with h1 | h1 | ⟨j, hj, e⟩
  · exact Or.inl (by simpa [Int32.lt_iff_toInt_lt] using h1)
  · refine Or.inr ?_
    have h2 := Int32.le_iff_toInt_le.mp h1
    rw [nI_toInt hm] at h2
    omega
  · exact absurd e (h j (by omega))
theorem bo_n {x : Int32} (h : bo x) : narrow .boolean (.int x) = .int x := by rcases h with rfl | rfl <;> rfl
theorem bo_f {x : Int32} (h : bo x) : fits .boolean (.int x) = true := by rcases h with rfl | rfl <;> rfl
section SKM
variable {p : Program} {l : Launch} {e : Env} {R : Room} {s : State} {m : MethodId} {args : Array Value} {below : List Frame} {meth : Method} {c : Code} {cc : ByteArray} {nL : Nat} {Ts : List Cond} {own : String} {D : va_G} {tys : List (ClassId × FieldType)} {A : Nat → Prop} {cells slots : Nat} {ρ : Type} {Q : ρ → State → Prop} {pc : Nat} {lv : List (Nat × Value)} {st : List Value} {K : Option ρ}
variable {L : List Nat} {ad : Nat → Nat} {sh : Nat → (Nat → Int32) → va_E} {v : Mem} {X : va_W}
theorem sk_get (F : CallFix p m c cc nL s args Ts own) (hK : va_K D vwCl tys s) {ref C : String} {T : u_T} {N ci index o : Nat} {fs : List Value} {x : Value} (ho : o ∈ L) (hsh : sh o (v o) = .inr (ci, fs)) (hc : vwCl[ci]? = some (C, T, N)) (hin : ∀ w ∈ u_ws C T N, w ∈ Ts) (k : Nat) (hk : k < N) (hlink : Cond.fieldLink own index ref (T k).2.1 (T k).2.2.1 ∈ Ts) (hsame : ∀ x, s.fieldFound? (T k).1 (T k).2.1 (T k).2.2.1 = some x → s.fieldFound? ref (T k).2.1 (T k).2.2.1 = some x) (hv : fs[k]? = some x) (hd : decode cc pc = .ok (.getfield index, 3)) (kk : sk p l e R s m args below meth c D A nL cells slots Q (ow L ad sh v ++ X) (pc + 3) lv (x :: st) K) : sk p l e R s m args below meth c D A nL cells slots Q (ow L ad sh v ++ X) pc lv (.ref (ad o) :: st) K := by
  intro res hKK H locs ls hP hD hS hl
  obtain ⟨q0, h1, h2⟩ := ow_get (ad := ad) (sh := sh) (v := v) (X := X) ho
  rw [hsh] at h2
  exact va_get (D := D) (ci := ci) (v := x) (C := C) (T := T) (N := N) F.1 F.2.1 F.2.2.2.2 hin F.2.2.2.1 hK hP q0 h2 hc k hk (F.2.2.2.2 _ hlink) hsame hv hd (kk res hKK H locs ls hP hD hS hl)
theorem sk_put (F : CallFix p m c cc nL s args Ts own) (hK : va_K D vwCl tys s) (nd : L.Nodup) {ref C : String} {T : u_T} {N ci index o : Nat} {fs : (Nat → Int32) → List Value} {x : Int32} {ty : FieldType} (ho : o ∈ L) (hsh : ∀ r, sh o r = .inr (ci, fs r)) (hc : vwCl[ci]? = some (C, T, N)) (hin : ∀ w ∈ u_ws C T N, w ∈ Ts) (ty0 : Nat → FieldType) (hty : ∀ k, k < N → parseFieldDescriptor (T k).2.2.1 = some (ty0 k)) (hnm : ∀ a, a < N → ∀ b, b < N → a ≠ b → (T a).2.1 ≠ (T b).2.1) (k : Nat) (hk : k < N) (hlink : Cond.fieldLink own index ref (T k).2.1 (T k).2.2.1 ∈ Ts) (hsame : ∀ x, s.fieldFound? (T k).1 (T k).2.1 (T k).2.2.1 = some x → s.fieldFound? ref (T k).2.1 (T k).2.2.1 = some x) (hfin : (T k).2.2.2 = false) (hpd : parseFieldDescriptor (T k).2.2.1 = some ty) (hn : narrow ty (.int x) = .int x) (hfit : fits ty (.int x) = true) (hl0 : k < (fs (v o)).length) (hset : (fs (v o)).set k (.int x) = fs (upd (v o) k x)) (hd : decode cc pc = .ok (.putfield index, 3)) (kk : sk p l e R s m args below meth c D A nL cells slots Q (ow L ad sh (up2 v o k x) ++ X) (pc + 3) lv st K) : sk p l e R s m args below meth c D A nL cells slots Q (ow L ad sh v ++ X) pc lv (.int x :: .ref (ad o) :: st) K := by
  intro res hKK H locs ls hP hD hS hl
  obtain ⟨q0, h1, h2⟩ := ow_get (ad := ad) (sh := sh) (v := v) (X := X) ho
  rw [hsh] at h2
  refine va_put (D := D) (ci := ci) (v := .int x) (ty := ty) (C := C) (T := T) (N := N) F.1 F.2.1 F.2.2.2.2 hin ty0 hty hnm F.2.2.2.1 hK hP hD hS q0 h2 hc k hk (F.2.2.2.2 _ hlink) hsame hfin hpd hn hfit hl0 hd (fun H1 locs1 hP1 hD1 hS1 => ?_)
  have e := ow_set nd (ad := ad) (sh := sh) (v := v) (X := X) (j := k) (x := x) h1
  rw [hsh, ← hset] at e
  rw [e] at hP1 hD1
  exact kk res hKK H1 locs1 ls hP1 hD1 hS1 hl
theorem sk_iald (F : CallFix p m c cc nL s args Ts own) (hK : va_K D vwCl tys s) {o n : Nat} {cA : ClassId} {i : Int32} (ho : o ∈ L) (hsh : sh o (v o) = .inl (cA, n, .inl (v o))) (t0 : Nat) (ht : tys[t0]? = some (cA, .int)) (hd : decode cc pc = .ok (.iaload, 1)) (kk : inb i n → sk p l e R s m args below meth c D A nL cells slots Q (ow L ad sh v ++ X) (pc + 1) lv (.int (v o i.toNatClampNeg) :: st) K) : sk p l e R s m args below meth c D A nL cells slots Q (ow L ad sh v ++ X) pc lv (.int i :: .ref (ad o) :: st) (gd (inb i n) K) := by
  intro res hKK H locs ls hP hD hS hl
  obtain ⟨hin, hKK⟩ := gd_some hKK
  obtain ⟨q0, h1, h2⟩ := ow_get (ad := ad) (sh := sh) (v := v) (X := X) ho
  rw [hsh] at h2
  exact va_iald F.1 F.2.1 hK hP q0 t0 h2 ht hin hd (kk hin res hKK H locs ls hP hD hS hl)
theorem sk_zald (F : CallFix p m c cc nL s args Ts own) (hK : va_K D vwCl tys s) {o n : Nat} {cA : ClassId} {i : Int32} (ho : o ∈ L) (hsh : sh o (v o) = .inl (cA, n, .inl (v o))) (t0 : Nat) (ht : tys[t0]? = some (cA, .boolean)) (hd : decode cc pc = .ok (.baload, 1)) (kk : inb i n → sk p l e R s m args below meth c D A nL cells slots Q (ow L ad sh v ++ X) (pc + 1) lv (.int (v o i.toNatClampNeg) :: st) K) : sk p l e R s m args below meth c D A nL cells slots Q (ow L ad sh v ++ X) pc lv (.int i :: .ref (ad o) :: st) (gd (inb i n) K) := by
  intro res hKK H locs ls hP hD hS hl
  obtain ⟨hin, hKK⟩ := gd_some hKK
  obtain ⟨q0, h1, h2⟩ := ow_get (ad := ad) (sh := sh) (v := v) (X := X) ho
  rw [hsh] at h2
  exact va_zald F.1 F.2.1 hK hP q0 t0 h2 ht hin hd (kk hin res hKK H locs ls hP hD hS hl)
theorem sk_iast (F : CallFix p m c cc nL s args Ts own) (hK : va_K D vwCl tys s) (nd : L.Nodup) {o n : Nat} {cA : ClassId} {i x : Int32} (ho : o ∈ L) (hsh : ∀ r, sh o r = .inl (cA, n, .inl r)) (t0 : Nat) (ht : tys[t0]? = some (cA, .int)) (hd : decode cc pc = .ok (.iastore, 1)) (kk : inb i n → sk p l e R s m args below meth c D A nL cells slots Q (ow L ad sh (up2 v o i.toNatClampNeg x) ++ X) (pc + 1) lv st K) : sk p l e R s m args below meth c D A nL cells slots Q (ow L ad sh v ++ X) pc lv (.int x :: .int i :: .ref (ad o) :: st) (gd (inb i n) K) := by
  intro res hKK H locs ls hP hD hS hl
  obtain ⟨hin, hKK⟩ := gd_some hKK
  obtain ⟨q0, h1, h2⟩ := ow_get (ad := ad) (sh := sh) (v := v) (X := X) ho
  rw [hsh] at h2
  refine va_iast F.1 F.2.1 hK hP hD hS q0 t0 h2 ht hin hd (fun H1 locs1 hP1 hD1 hS1 => ?_)
  have e := ow_set nd (ad := ad) (sh := sh) (v := v) (X := X) (j := i.toNatClampNeg) (x := x) h1
  rw [hsh] at e
  rw [e] at hP1 hD1
  exact kk hin res hKK H1 locs1 ls hP1 hD1 hS1 hl
theorem sk_zast (F : CallFix p m c cc nL s args Ts own) (hK : va_K D vwCl tys s) (nd : L.Nodup) {o n : Nat} {cA : ClassId} {i x : Int32} (ho : o ∈ L) (hsh : ∀ r, sh o r = .inl (cA, n, .inl r)) (t0 : Nat) (ht : tys[t0]? = some (cA, .boolean)) (hd : decode cc pc = .ok (.bastore, 1)) (kk : inb i n → sk p l e R s m args below meth c D A nL cells slots Q (ow L ad sh (up2 v o i.toNatClampNeg (vp_nar .boolean x)) ++ X) (pc + 1) lv st K) : sk p l e R s m args below meth c D A nL cells slots Q (ow L ad sh v ++ X) pc lv (.int x :: .int i :: .ref (ad o) :: st) (gd (inb i n) K) := by
  intro res hKK H locs ls hP hD hS hl
  obtain ⟨hin, hKK⟩ := gd_some hKK
  obtain ⟨q0, h1, h2⟩ := ow_get (ad := ad) (sh := sh) (v := v) (X := X) ho
  rw [hsh] at h2
  refine va_zast F.1 F.2.1 hK hP hD hS q0 t0 h2 ht hin hd (fun H1 locs1 hP1 hD1 hS1 => ?_)
  have e := ow_set nd (ad := ad) (sh := sh) (v := v) (X := X) (j := i.toNatClampNeg) (x := (vp_nar .boolean x)) h1
  rw [hsh] at e
  rw [e] at hP1 hD1
  exact kk hin res hKK H1 locs1 ls hP1 hD1 hS1 hl
theorem sk_aald (F : CallFix p m c cc nL s args Ts own) (hK : va_K D vwCl tys s) {o n : Nat} {cA : ClassId} {C : String} {g : Nat → Nat} {i : Int32} (ho : o ∈ L) (hsh : sh o (v o) = .inl (cA, n, .inr (.inr (.inr (.inr (fun j => some (ad (g j)))))))) (t0 : Nat) (ht : tys[t0]? = some (cA, .object C)) (hd : decode cc pc = .ok (.aaload, 1)) (kk : inb i n → sk p l e R s m args below meth c D A nL cells slots Q (ow L ad sh v ++ X) (pc + 1) lv (.ref (ad (g i.toNatClampNeg)) :: st) K) : sk p l e R s m args below meth c D A nL cells slots Q (ow L ad sh v ++ X) pc lv (.int i :: .ref (ad o) :: st) (gd (inb i n) K) := by
  intro res hKK H locs ls hP hD hS hl
  obtain ⟨hin, hKK⟩ := gd_some hKK
  obtain ⟨q0, h1, h2⟩ := ow_get (ad := ad) (sh := sh) (v := v) (X := X) ho
  rw [hsh] at h2
  exact va_aldq F.1 F.2.1 hK hP q0 t0 h2 ht hin hd (kk hin res hKK H locs ls hP hD hS hl)
theorem sk_alen (F : CallFix p m c cc nL s args Ts own) (hK : va_K D vwCl tys s) {o : Nat} {cA : ClassId} {z : vp_A} {x : Int32} {ty : FieldType} (ho : o ∈ L) (hsh : sh o (v o) = .inl (cA, z)) (t0 : Nat) (ht : tys[t0]? = some (cA, ty)) (hx : nI z.1 = x) (hd : decode cc pc = .ok (.arraylength, 1)) (kk : sk p l e R s m args below meth c D A nL cells slots Q (ow L ad sh v ++ X) (pc + 1) lv (.int x :: st) K) : sk p l e R s m args below meth c D A nL cells slots Q (ow L ad sh v ++ X) pc lv (.ref (ad o) :: st) K := by
  intro res hKK H locs ls hP hD hS hl
  obtain ⟨q0, h1, h2⟩ := ow_get (ad := ad) (sh := sh) (v := v) (X := X) ho
  rw [hsh] at h2
  exact va_alen F.1 F.2.1 hK hP q0 t0 h2 ht hx hd (kk res hKK H locs ls hP hD hS hl)
/-- the receiver of a call -/
theorem ow_recv {H : Heap} {o ci : Nat} {q : vw_C} {fs : List Value} (hK : va_K D vwCl tys s) (hP : va_P D vwCl (ow L ad sh v ++ X) H) (hc : vwCl[ci]? = some q) (ho : o ∈ L) (hsh : sh o (v o) = .inr (ci, fs)) : ∃ cell : Cell, H[ad o]? = some cell ∧ cell.vm.isStatics = false ∧ s.vm.findClass q.1 = some cell.cls := by
  obtain ⟨q0, h1, h2⟩ := ow_get (ad := ad) (sh := sh) (v := v) (X := X) ho
  rw [hsh] at h2
  exact va_recv hK hP hc h2
end SKM
section SKC
variable {p : Program} {l : Launch} {e : Env} {R : Room} {s : State} {m : MethodId} {args : Array Value} {below : List Frame} {meth : Method} {c : Code} {cc : ByteArray} {nL : Nat} {Ts : List Cond} {own : String} {D : va_G} {tys : List (ClassId × FieldType)} {A : Nat → Prop} {cells slots : Nat} {ρ : Type} {Q : ρ → State → Prop} {pc : Nat} {lv : List (Nat × Value)} {rest : List Value}
variable {σ : Type} {Ws : σ → va_W} {v : σ} {y x : MethodName} {bytes : ByteArray} {maxL n index : Nat} {ret : Option FieldType} {wy : List Cond} {rm : Room} {As : List Value} {b : Nat} {C owner : String} {ad : Nat → Nat}
theorem pq_now {as : List Value} {ws : va_W} {H : Heap} {locs : List Loc} (hK : va_K D vwCl tys s) (hA : ∀ q, s.heap.size ≤ q → A q) (hZ : zz A s s.heap) (hP : va_P D vwCl ws H) (hD : va_D A ws) (hS : va_S A s.heap H locs) : ∀ U : State, U.heap = H → s.WarmedH U.vm → pq D A tys as ws as.toArray U := by
  intro U hU hW
  refine ⟨rfl, by rw [hU]; exact hP, va_K.moved hW.alike hK, hD, fun q h => hA q (Nat.le_trans hS.1 (by rw [← hU]; exact h)), ?_, ?_, nw_warm hW hZ.2.2⟩
  · rw [hU]; exact vx_Zq.kept (vx_Zq.moved hW.alike hZ.1) (fun a h1 h2 => hS.2.1 a h1 h2)
  · rw [hU]; exact vx_Zq.kept (vx_Zq.moved hW.alike hZ.2.1) (fun a h1 h2 => hS.2.1 a h1 h2)
theorem sk_callVi (F : CallFix p m c cc nL s args Ts own) (hK : va_K D vwCl tys s) (hA : ∀ q, s.heap.size ≤ q → A q) (hZ : zz A s s.heap) {Kc : Option (Int32 × σ)} (K : Int32 → σ → Option ρ) (hM : CI l y wy rm D A tys Ws (.ref b :: As) v Kc) (cw : CallW R s args own C index y bytes maxL ret wy rm 0 0 n) (hrec : ∀ H : Heap, va_P D vwCl (Ws v) H → ∃ cell : Cell, H[b]? = some cell ∧ cell.vm.isStatics = false ∧ s.vm.findClass C = some cell.cls) {st0 : List Value} (hst : st0 = (As.reverse ++ .ref b :: rest)) (hn : As.length = n) (hr8 : (rest.map fun v => v.category).sum ≤ 8) (hf : cells + 0 ≤ R.cells ∧ slots + 0 ≤ R.slots) (hd : decode cc pc = .ok (.invokevirtual index, 3)) (kk : ∀ r v1, Kc = some (r, v1) → sk p l e R s m args below meth c D A nL cells slots Q (Ws v1) (pc + 3) lv (.int r :: rest) (K r v1)) : sk p l e R s m args below meth c D A nL cells slots Q (Ws v) pc lv st0 (bd Kc K) := by
  subst hst
  intro res hKK H locs ls hP hD hS hl
  obtain ⟨⟨r0, v0⟩, hc, hk⟩ := Option.bind_eq_some_iff.mp hKK
  refine va_calli (va_runV (As := As) (rest := rest) F (hM (r0, v0) hc) cw ⟨pq_blind, hrec H hP, pq_now hK hA hZ hP hD hS⟩ rfl hn hl.1 rfl (lv_room hr8) hd hf) hS (fun q _ h => h) (fun q h => h) (fun r u t H1 locs1 ht hvm hw hB hz1 hk1 hS1 => ?_)
  cases hw
  obtain ⟨hP1, -, hD1⟩ := hB
  rw [ht] at hP1
  exact kk r0 v0 hc res hk H1 locs1 ls hP1 hD1 hS1 hl
theorem sk_callUi (F : CallFix p m c cc nL s args Ts own) (hK : va_K D vwCl tys s) (hA : ∀ q, s.heap.size ≤ q → A q) (hZ : zz A s s.heap) {Kc : Option (Int32 × σ)} (K : Int32 → σ → Option ρ) (hM : CI l y wy rm D A tys Ws (.ref b :: As) v Kc) (cw : va_CU R s args own C owner index x y bytes maxL ret wy rm 0 0 n) (hrec : ∀ H : Heap, va_P D vwCl (Ws v) H → ∃ cell : Cell, H[b]? = some cell ∧ cell.vm.isStatics = false ∧ s.vm.findClass C = some cell.cls) {st0 : List Value} (hst : st0 = (As.reverse ++ .ref b :: rest)) (hn : As.length = n) (hr8 : (rest.map fun v => v.category).sum ≤ 8) (hf : cells + 0 ≤ R.cells ∧ slots + 0 ≤ R.slots) (hd : decode cc pc = .ok (.invokevirtual index, 3)) (kk : ∀ r v1, Kc = some (r, v1) → sk p l e R s m args below meth c D A nL cells slots Q (Ws v1) (pc + 3) lv (.int r :: rest) (K r v1)) : sk p l e R s m args below meth c D A nL cells slots Q (Ws v) pc lv st0 (bd Kc K) := by
  subst hst
  intro res hKK H locs ls hP hD hS hl
  obtain ⟨⟨r0, v0⟩, hc, hk⟩ := Option.bind_eq_some_iff.mp hKK
  refine va_calli (va_runU (As := As) (rest := rest) F (hM (r0, v0) hc) cw ⟨pq_blind, hrec H hP, pq_now hK hA hZ hP hD hS⟩ rfl hn hl.1 rfl (lv_room hr8) hd hf) hS (fun q _ h => h) (fun q h => h) (fun r u t H1 locs1 ht hvm hw hB hz1 hk1 hS1 => ?_)
  cases hw
  obtain ⟨hP1, -, hD1⟩ := hB
  rw [ht] at hP1
  exact kk r0 v0 hc res hk H1 locs1 ls hP1 hD1 hS1 hl
theorem sk_callSi (F : CallFix p m c cc nL s args Ts own) (hK : va_K D vwCl tys s) (hA : ∀ q, s.heap.size ≤ q → A q) (hZ : zz A s s.heap) {Kc : Option (Int32 × σ)} (K : Int32 → σ → Option ρ) (hM : CI l y wy rm D A tys Ws As v Kc) (cw : CallB R s args own index y bytes maxL ret wy rm 0 0 n ∧ (Cond.static y).before args s = true) {st0 : List Value} (hst : st0 = (As.reverse ++ rest)) (hn : As.length = n) (hr8 : (rest.map fun v => v.category).sum ≤ 8) (hf : cells + 0 ≤ R.cells ∧ slots + 0 ≤ R.slots) (hd : decode cc pc = .ok (.invokestatic index, 3)) (kk : ∀ r v1, Kc = some (r, v1) → sk p l e R s m args below meth c D A nL cells slots Q (Ws v1) (pc + 3) lv (.int r :: rest) (K r v1)) : sk p l e R s m args below meth c D A nL cells slots Q (Ws v) pc lv st0 (bd Kc K) := by
  subst hst
  intro res hKK H locs ls hP hD hS hl
  obtain ⟨⟨r0, v0⟩, hc, hk⟩ := Option.bind_eq_some_iff.mp hKK
  refine va_calli (va_runS (As := As) (rest := rest) F (hM (r0, v0) hc) cw ⟨pq_blind, pq_now hK hA hZ hP hD hS⟩ rfl hn hl.1 rfl (lv_room hr8) hd hf) hS (fun q _ h => h) (fun q h => h) (fun r u t H1 locs1 ht hvm hw hB hz1 hk1 hS1 => ?_)
  cases hw
  obtain ⟨hP1, -, hD1⟩ := hB
  rw [ht] at hP1
  exact kk r0 v0 hc res hk H1 locs1 ls hP1 hD1 hS1 hl
theorem sk_callVv (F : CallFix p m c cc nL s args Ts own) (hK : va_K D vwCl tys s) (hA : ∀ q, s.heap.size ≤ q → A q) (hZ : zz A s s.heap) {Kc : Option σ} (K : σ → Option ρ) (hM : CV l y wy rm D A tys Ws (.ref b :: As) v Kc) (cw : CallW R s args own C index y bytes maxL ret wy rm 0 0 n) (hrec : ∀ H : Heap, va_P D vwCl (Ws v) H → ∃ cell : Cell, H[b]? = some cell ∧ cell.vm.isStatics = false ∧ s.vm.findClass C = some cell.cls) {st0 : List Value} (hst : st0 = (As.reverse ++ .ref b :: rest)) (hn : As.length = n) (hr8 : (rest.map fun v => v.category).sum ≤ 8) (hf : cells + 0 ≤ R.cells ∧ slots + 0 ≤ R.slots) (hd : decode cc pc = .ok (.invokevirtual index, 3)) (kk : ∀ v1, Kc = some v1 → sk p l e R s m args below meth c D A nL cells slots Q (Ws v1) (pc + 3) lv rest (K v1)) : sk p l e R s m args below meth c D A nL cells slots Q (Ws v) pc lv st0 (Kc.bind K) := by
  subst hst
  intro res hKK H locs ls hP hD hS hl
  obtain ⟨v0, hc, hk⟩ := Option.bind_eq_some_iff.mp hKK
  refine va_callv (va_runV (As := As) (rest := rest) F (hM v0 hc) cw ⟨pq_blind, hrec H hP, pq_now hK hA hZ hP hD hS⟩ rfl hn hl.1 rfl (lv_room hr8) hd hf) hS (fun q _ h => h) (fun q h => h) (fun u t H1 locs1 ht hvm hw hB hz1 hk1 hS1 => ?_)
  subst hw
  obtain ⟨hP1, -, hD1⟩ := hB
  rw [ht] at hP1
  exact kk u hc res hk H1 locs1 ls hP1 hD1 hS1 hl
theorem sk_callUv (F : CallFix p m c cc nL s args Ts own) (hK : va_K D vwCl tys s) (hA : ∀ q, s.heap.size ≤ q → A q) (hZ : zz A s s.heap) {Kc : Option σ} (K : σ → Option ρ) (hM : CV l y wy rm D A tys Ws (.ref b :: As) v Kc) (cw : va_CU R s args own C owner index x y bytes maxL ret wy rm 0 0 n) (hrec : ∀ H : Heap, va_P D vwCl (Ws v) H → ∃ cell : Cell, H[b]? = some cell ∧ cell.vm.isStatics = false ∧ s.vm.findClass C = some cell.cls) {st0 : List Value} (hst : st0 = (As.reverse ++ .ref b :: rest)) (hn : As.length = n) (hr8 : (rest.map fun v => v.category).sum ≤ 8) (hf : cells + 0 ≤ R.cells ∧ slots + 0 ≤ R.slots) (hd : decode cc pc = .ok (.invokevirtual index, 3)) (kk : ∀ v1, Kc = some v1 → sk p l e R s m args below meth c D A nL cells slots Q (Ws v1) (pc + 3) lv rest (K v1)) : sk p l e R s m args below meth c D A nL cells slots Q (Ws v) pc lv st0 (Kc.bind K) := by
  subst hst
  intro res hKK H locs ls hP hD hS hl
  obtain ⟨v0, hc, hk⟩ := Option.bind_eq_some_iff.mp hKK
  refine va_callv (va_runU (As := As) (rest := rest) F (hM v0 hc) cw ⟨pq_blind, hrec H hP, pq_now hK hA hZ hP hD hS⟩ rfl hn hl.1 rfl (lv_room hr8) hd hf) hS (fun q _ h => h) (fun q h => h) (fun u t H1 locs1 ht hvm hw hB hz1 hk1 hS1 => ?_)
  subst hw
  obtain ⟨hP1, -, hD1⟩ := hB
  rw [ht] at hP1
  exact kk u hc res hk H1 locs1 ls hP1 hD1 hS1 hl
theorem sk_callSv (F : CallFix p m c cc nL s args Ts own) (hK : va_K D vwCl tys s) (hA : ∀ q, s.heap.size ≤ q → A q) (hZ : zz A s s.heap) {Kc : Option σ} (K : σ → Option ρ) (hM : CV l y wy rm D A tys Ws As v Kc) (cw : CallB R s args own index y bytes maxL ret wy rm 0 0 n ∧ (Cond.static y).before args s = true) {st0 : List Value} (hst : st0 = (As.reverse ++ rest)) (hn : As.length = n) (hr8 : (rest.map fun v => v.category).sum ≤ 8) (hf : cells + 0 ≤ R.cells ∧ slots + 0 ≤ R.slots) (hd : decode cc pc = .ok (.invokestatic index, 3)) (kk : ∀ v1, Kc = some v1 → sk p l e R s m args below meth c D A nL cells slots Q (Ws v1) (pc + 3) lv rest (K v1)) : sk p l e R s m args below meth c D A nL cells slots Q (Ws v) pc lv st0 (Kc.bind K) := by
  subst hst
  intro res hKK H locs ls hP hD hS hl
  obtain ⟨v0, hc, hk⟩ := Option.bind_eq_some_iff.mp hKK
  refine va_callv (va_runS (As := As) (rest := rest) F (hM v0 hc) cw ⟨pq_blind, pq_now hK hA hZ hP hD hS⟩ rfl hn hl.1 rfl (lv_room hr8) hd hf) hS (fun q _ h => h) (fun q h => h) (fun u t H1 locs1 ht hvm hw hB hz1 hk1 hS1 => ?_)
  subst hw
  obtain ⟨hP1, -, hD1⟩ := hB
  rw [ht] at hP1
  exact kk u hc res hk H1 locs1 ls hP1 hD1 hS1 hl
theorem sk_callVr (F : CallFix p m c cc nL s args Ts own) (hK : va_K D vwCl tys s) (hA : ∀ q, s.heap.size ≤ q → A q) (hZ : zz A s s.heap) {Kc : Option (Nat × σ)} (K : Nat → σ → Option ρ) (hM : CR l y wy rm D A tys ad Ws (.ref b :: As) v Kc) (cw : CallW R s args own C index y bytes maxL ret wy rm 0 0 n) (hrec : ∀ H : Heap, va_P D vwCl (Ws v) H → ∃ cell : Cell, H[b]? = some cell ∧ cell.vm.isStatics = false ∧ s.vm.findClass C = some cell.cls) {st0 : List Value} (hst : st0 = (As.reverse ++ .ref b :: rest)) (hn : As.length = n) (hr8 : (rest.map fun v => v.category).sum ≤ 8) (hf : cells + 0 ≤ R.cells ∧ slots + 0 ≤ R.slots) (hd : decode cc pc = .ok (.invokevirtual index, 3)) (kk : ∀ r v1, Kc = some (r, v1) → sk p l e R s m args below meth c D A nL cells slots Q (Ws v1) (pc + 3) lv (.ref (ad r) :: rest) (K r v1)) : sk p l e R s m args below meth c D A nL cells slots Q (Ws v) pc lv st0 (bd Kc K) := by
  subst hst
  intro res hKK H locs ls hP hD hS hl
  obtain ⟨⟨r0, v0⟩, hc, hk⟩ := Option.bind_eq_some_iff.mp hKK
  refine va_callr (va_runV (As := As) (rest := rest) F (hM (r0, v0) hc) cw ⟨pq_blind, hrec H hP, pq_now hK hA hZ hP hD hS⟩ rfl hn hl.1 rfl (lv_room hr8) hd hf) hS (fun q _ h => h) (fun q h => h) (fun u ra t H1 locs1 ht hvm hw hB hz1 hk1 hS1 => ?_)
  subst hw
  obtain ⟨rfl, hP1, -, hD1⟩ := hB
  rw [ht] at hP1
  exact kk r0 v0 hc res hk H1 locs1 ls hP1 hD1 hS1 hl
theorem sk_callUr (F : CallFix p m c cc nL s args Ts own) (hK : va_K D vwCl tys s) (hA : ∀ q, s.heap.size ≤ q → A q) (hZ : zz A s s.heap) {Kc : Option (Nat × σ)} (K : Nat → σ → Option ρ) (hM : CR l y wy rm D A tys ad Ws (.ref b :: As) v Kc) (cw : va_CU R s args own C owner index x y bytes maxL ret wy rm 0 0 n) (hrec : ∀ H : Heap, va_P D vwCl (Ws v) H → ∃ cell : Cell, H[b]? = some cell ∧ cell.vm.isStatics = false ∧ s.vm.findClass C = some cell.cls) {st0 : List Value} (hst : st0 = (As.reverse ++ .ref b :: rest)) (hn : As.length = n) (hr8 : (rest.map fun v => v.category).sum ≤ 8) (hf : cells + 0 ≤ R.cells ∧ slots + 0 ≤ R.slots) (hd : decode cc pc = .ok (.invokevirtual index, 3)) (kk : ∀ r v1, Kc = some (r, v1) → sk p l e R s m args below meth c D A nL cells slots Q (Ws v1) (pc + 3) lv (.ref (ad r) :: rest) (K r v1)) : sk p l e R s m args below meth c D A nL cells slots Q (Ws v) pc lv st0 (bd Kc K) := by
  subst hst
  intro res hKK H locs ls hP hD hS hl
  obtain ⟨⟨r0, v0⟩, hc, hk⟩ := Option.bind_eq_some_iff.mp hKK
  refine va_callr (va_runU (As := As) (rest := rest) F (hM (r0, v0) hc) cw ⟨pq_blind, hrec H hP, pq_now hK hA hZ hP hD hS⟩ rfl hn hl.1 rfl (lv_room hr8) hd hf) hS (fun q _ h => h) (fun q h => h) (fun u ra t H1 locs1 ht hvm hw hB hz1 hk1 hS1 => ?_)
  subst hw
  obtain ⟨rfl, hP1, -, hD1⟩ := hB
  rw [ht] at hP1
  exact kk r0 v0 hc res hk H1 locs1 ls hP1 hD1 hS1 hl
theorem sk_callSr (F : CallFix p m c cc nL s args Ts own) (hK : va_K D vwCl tys s) (hA : ∀ q, s.heap.size ≤ q → A q) (hZ : zz A s s.heap) {Kc : Option (Nat × σ)} (K : Nat → σ → Option ρ) (hM : CR l y wy rm D A tys ad Ws As v Kc) (cw : CallB R s args own index y bytes maxL ret wy rm 0 0 n ∧ (Cond.static y).before args s = true) {st0 : List Value} (hst : st0 = (As.reverse ++ rest)) (hn : As.length = n) (hr8 : (rest.map fun v => v.category).sum ≤ 8) (hf : cells + 0 ≤ R.cells ∧ slots + 0 ≤ R.slots) (hd : decode cc pc = .ok (.invokestatic index, 3)) (kk : ∀ r v1, Kc = some (r, v1) → sk p l e R s m args below meth c D A nL cells slots Q (Ws v1) (pc + 3) lv (.ref (ad r) :: rest) (K r v1)) : sk p l e R s m args below meth c D A nL cells slots Q (Ws v) pc lv st0 (bd Kc K) := by
  subst hst
  intro res hKK H locs ls hP hD hS hl
  obtain ⟨⟨r0, v0⟩, hc, hk⟩ := Option.bind_eq_some_iff.mp hKK
  refine va_callr (va_runS (As := As) (rest := rest) F (hM (r0, v0) hc) cw ⟨pq_blind, pq_now hK hA hZ hP hD hS⟩ rfl hn hl.1 rfl (lv_room hr8) hd hf) hS (fun q _ h => h) (fun q h => h) (fun u ra t H1 locs1 ht hvm hw hB hz1 hk1 hS1 => ?_)
  subst hw
  obtain ⟨rfl, hP1, -, hD1⟩ := hB
  rw [ht] at hP1
  exact kk r0 v0 hc res hk H1 locs1 ls hP1 hD1 hS1 hl
theorem sk_iret (F : CallFix p m c cc nL s args Ts own) (hK : va_K D vwCl tys s) (hr : meth.sig.returnType = some .int) (hlocks : meth.locks = false) {r : Int32} (hd : decode cc pc = .ok (.ireturn, 1)) : sk p l e R s m args below meth c D A nL 0 0 (fun res => MQ below (qi D A tys Ws res) args s 0 0 A) (Ws v) pc lv [.int r] (some (r, v)) := by
  intro res hKK H locs ls hP hD hS hl
  cases hKK
  exact W.iret F.1 F.2.1 hr (fun t ht hW => ⟨⟨r, v, rfl, rfl, by rw [ht]; exact hP, va_K.moved hW.alike hK, hD⟩, hS.F ht⟩) hS.2.2 hd
theorem sk_zret (F : CallFix p m c cc nL s args Ts own) (hK : va_K D vwCl tys s) (hr : meth.sig.returnType = some .boolean) (hlocks : meth.locks = false) {r : Int32} (hd : decode cc pc = .ok (.ireturn, 1)) : sk p l e R s m args below meth c D A nL 0 0 (fun res => MQ below (qi D A tys Ws res) args s 0 0 A) (Ws v) pc lv [.int r] (gd (bo r) (some (r, v))) := by
  intro res hKK H locs ls hP hD hS hl
  obtain ⟨hb, hKK⟩ := gd_some hKK
  cases hKK
  exact W.zret F.1 F.2.1 hr (by rcases hb with rfl | rfl <;> rfl) (fun t ht hW => ⟨⟨r, v, rfl, rfl, by rw [ht]; exact hP, va_K.moved hW.alike hK, hD⟩, hS.F ht⟩) hS.2.2 hd
theorem sk_zretc (F : CallFix p m c cc nL s args Ts own) (hK : va_K D vwCl tys s) (hr : meth.sig.returnType = some .boolean) (hlocks : meth.locks = false) {r : Int32} (hb : bo r) (hd : decode cc pc = .ok (.ireturn, 1)) : sk p l e R s m args below meth c D A nL 0 0 (fun res => MQ below (qi D A tys Ws res) args s 0 0 A) (Ws v) pc lv [.int r] (some (r, v)) := by
  intro res hKK H locs ls hP hD hS hl
  cases hKK
  exact W.zret F.1 F.2.1 hr (bo_n hb) (fun t ht hW => ⟨⟨r, v, rfl, rfl, by rw [ht]; exact hP, va_K.moved hW.alike hK, hD⟩, hS.F ht⟩) hS.2.2 hd
theorem sk_vret (F : CallFix p m c cc nL s args Ts own) (hK : va_K D vwCl tys s) (hr : meth.sig.returnType = none) (hlocks : meth.locks = false) (hd : decode cc pc = .ok (.return_, 1)) : sk p l e R s m args below meth c D A nL 0 0 (fun res => MQ below (qv D A tys Ws res) args s 0 0 A) (Ws v) pc lv [] (some v) := by
  intro res hKK H locs ls hP hD hS hl
  cases hKK
  exact W.vret F.1 F.2.1 hr (fun t ht hW => ⟨⟨v, rfl, rfl, by rw [ht]; exact hP, va_K.moved hW.alike hK, hD⟩, hS.F ht⟩) hS.2.2 hd
theorem sk_aret (F : CallFix p m c cc nL s args Ts own) (hK : va_K D vwCl tys s) {rt : FieldType} (hr : meth.sig.returnType = some rt) (hrt : (∃ n, rt = .object n) ∨ ∃ t, rt = .array t) (hlocks : meth.locks = false) {r : Nat} (hd : decode cc pc = .ok (.areturn, 1)) : sk p l e R s m args below meth c D A nL 0 0 (fun res => MQ below (qr D A tys ad Ws res) args s 0 0 A) (Ws v) pc lv [.ref (ad r)] (some (r, v)) := by
  intro res hKK H locs ls hP hD hS hl
  cases hKK
  exact W.aret F.1 F.2.1 hr hrt (Or.inr ⟨_, rfl⟩) (fun t ht hW => ⟨⟨(r, v), ad r, rfl, rfl, rfl, by rw [ht]; exact hP, va_K.moved hW.alike hK, hD⟩, hS.F ht⟩) hS.2.2 hd
end SKC
/-- what holds through a body: the machine, the code, the words, the classes, the statics that a throw reads -/
def cx (p : Program) (s : State) (m : MethodId) (args : Array Value) (meth : Method) (c : Code) (cc : ByteArray) (nL : Nat) (Ts : List Cond) (own : String) (D : va_G) (tys : List (ClassId × FieldType)) (A : Nat → Prop) (ret : Option FieldType) : Prop :=
  CallFix p m c cc nL s args Ts own ∧ va_K D vwCl tys s ∧ (∀ q, s.heap.size ≤ q → A q) ∧ zz A s s.heap ∧ meth.sig.returnType = ret ∧ meth.locks = false
section SKO
variable {l : Launch} {y : MethodName} {ws ws' : List Cond} {rm : Room} {D : va_G} {A : Nat → Prop} {tys : List (ClassId × FieldType)} {σ : Type} {Ws : σ → va_W} {as : List Value} {v : σ} {cc : ByteArray} {maxL : Nat} {ret : Option FieldType} {ad : Nat → Nat}
theorem CI_of {K : Option (Int32 × σ)} (hy : plainName y.cls = true) (hw : ws = Cond.code y cc maxL ret :: ws') (hn : (lg_sl as).length ≤ maxL) (body : ∀ (p : Program) (e : Env) (s : State) (m : MethodId) (below : List Frame) (meth : Method) (c : Code), cx p s m as.toArray meth c cc maxL ws y.cls D tys A ret → sk p l e rm s m as.toArray below meth c D A maxL 0 0 (fun res => MQ below (qi D A tys Ws res) as.toArray s 0 0 A) (Ws v) 0 (lv_args 0 as) [] K) : CI l y ws rm D A tys Ws as v K := by
  intro res hres
  refine Met.ofW (cc := cc) (maxL := maxL) (ret := ret) hy hw ?_
  intro p e s m args below meth c s₁ B hml hv
  obtain ⟨rfl, hP, hK, hD, hA, hZ⟩ := hv
  have hl := lv_entry as (n := maxL) hn
  rw [lg_entry_eq]
  exact body p e s m below meth c ⟨⟨B.exec, B.bytes, hml, findClass_of_methodNamed B.named, atoms_spec B.pre⟩, hK, hA, hZ, B.returns, B.notSynchronized⟩ res hres s.heap [] _ hP hD va_S.rf hl
theorem CV_of {K : Option σ} (hy : plainName y.cls = true) (hw : ws = Cond.code y cc maxL ret :: ws') (hn : (lg_sl as).length ≤ maxL) (body : ∀ (p : Program) (e : Env) (s : State) (m : MethodId) (below : List Frame) (meth : Method) (c : Code), cx p s m as.toArray meth c cc maxL ws y.cls D tys A ret → sk p l e rm s m as.toArray below meth c D A maxL 0 0 (fun res => MQ below (qv D A tys Ws res) as.toArray s 0 0 A) (Ws v) 0 (lv_args 0 as) [] K) : CV l y ws rm D A tys Ws as v K := by
  intro res hres
  refine Met.ofW (cc := cc) (maxL := maxL) (ret := ret) hy hw ?_
  intro p e s m args below meth c s₁ B hml hv
  obtain ⟨rfl, hP, hK, hD, hA, hZ⟩ := hv
  have hl := lv_entry as (n := maxL) hn
  rw [lg_entry_eq]
  exact body p e s m below meth c ⟨⟨B.exec, B.bytes, hml, findClass_of_methodNamed B.named, atoms_spec B.pre⟩, hK, hA, hZ, B.returns, B.notSynchronized⟩ res hres s.heap [] _ hP hD va_S.rf hl
theorem CR_of {K : Option (Nat × σ)} (hy : plainName y.cls = true) (hw : ws = Cond.code y cc maxL ret :: ws') (hn : (lg_sl as).length ≤ maxL) (body : ∀ (p : Program) (e : Env) (s : State) (m : MethodId) (below : List Frame) (meth : Method) (c : Code), cx p s m as.toArray meth c cc maxL ws y.cls D tys A ret → sk p l e rm s m as.toArray below meth c D A maxL 0 0 (fun res => MQ below (qr D A tys ad Ws res) as.toArray s 0 0 A) (Ws v) 0 (lv_args 0 as) [] K) : CR l y ws rm D A tys ad Ws as v K := by
  intro res hres
  refine Met.ofW (cc := cc) (maxL := maxL) (ret := ret) hy hw ?_
  intro p e s m args below meth c s₁ B hml hv
  obtain ⟨rfl, hP, hK, hD, hA, hZ⟩ := hv
  have hl := lv_entry as (n := maxL) hn
  rw [lg_entry_eq]
  exact body p e s m below meth c ⟨⟨B.exec, B.bytes, hml, findClass_of_methodNamed B.named, atoms_spec B.pre⟩, hK, hA, hZ, B.returns, B.notSynchronized⟩ res hres s.heap [] _ hP hD va_S.rf hl
end SKO
abbrev ty5 (cI cS cF cZ cJ : ClassId) : List (ClassId × FieldType) := [(cI, .int), (cS, .object "TunnelWatch$Section"), (cF, .object "TunnelWatch$Fan"), (cZ, .boolean), (cJ, .long)]
theorem inb_lt {i : Int32} {n : Nat} (h : inb i n) : i.toNatClampNeg < n := Nat.not_le.mp fun q => h (Or.inr q)
