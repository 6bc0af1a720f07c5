abbrev oc (cJ : ClassId) (w : Nat → Int64) : va_E := .inl (cJ, 1, .inr (.inl w))
abbrev Wo (cI cS cF cJ : ClassId) (ad : Nat → Nat) (n : Nat) (Y : va_W) (ao : Nat) : Mem × (Nat → Int64) → va_W := fun q => Wc cI cS cF ad n (Y ++ [(ao, oc cJ q.2)]) q.1
theorem lst_get {B Y : va_W} {c : Nat × va_E} : (B ++ (Y ++ [c]))[(B ++ Y).length]? = some c := by
  rw [← List.append_assoc, List.getElem?_append_right (Nat.le_refl _)]
  simp
theorem lst_set {B Y : va_W} {c d : Nat × va_E} : (B ++ (Y ++ [c])).set (B ++ Y).length d = B ++ (Y ++ [d]) := by
  rw [← List.append_assoc, List.set_append_right _ _ (Nat.le_refl _)]
  simp
def cd1 {α σ ρ : Type} (Kc : Option ((α ⊕ String) × σ)) (K : α → σ → Option ρ) (K1 : σ → Option ρ) : Option ρ := Kc.bind fun q => match q.1 with
  | .inl a => K a q.2
  | .inr E => if E = IAE then K1 q.2 else none
def cd2 {α σ ρ : Type} (Kc : Option ((α ⊕ String) × σ)) (K : α → σ → Option ρ) (K1 K2 : σ → Option ρ) : Option ρ := Kc.bind fun q => match q.1 with
  | .inl a => K a q.2
  | .inr E => if E = IAE then K1 q.2 else if E = ISE then K2 q.2 else none
def CJ {σ : Type} (l : Launch) (y : MethodName) (ws : List Cond) (rm : Room) (mc ms : Nat) (D : va_G) (A : Nat → Prop) (tys : List (ClassId × FieldType)) (Ws : σ → va_W) (as : List Value) (pre : va_W) (K : Option (Int32 × σ)) : Prop := ∀ res, K = some res → Met l y ws rm (pq D A tys as pre) (qi D A tys Ws res) mc ms A
section SKW
variable {p : Program} {l : Launch} {e : Env} {R : Room} {s : State} {m : MethodId} {args : Array Value} {below : List Frame} {meth : Method} {c : Code} {cc : ByteArray} {nL : Nat} {Ts : List Cond} {own : String} {D : va_G} {tys : List (ClassId × FieldType)} {A : Nat → Prop} {cells slots : Nat} {ρ : Type} {Q : ρ → State → Prop} {pc : Nat} {lv : List (Nat × Value)} {st rest st0 : List Value} {K : Option ρ} {cI cS cF cZ cJ : ClassId} {B Y : va_W} {ao : Nat} {w : Nat → Int64}
theorem sk_last (F : CallFix p m c cc nL s args Ts own) (hK : va_K D vwCl (ty5 cI cS cF cZ cJ) s) {x : Int64} (hd : decode cc pc = .ok (.lastore, 1)) (kk : sk p l e R s m args below meth c D A nL cells slots Q (B ++ (Y ++ [(ao, oc cJ (vp_updL w 0 x))])) (pc + 1) lv st K) : sk p l e R s m args below meth c D A nL cells slots Q (B ++ (Y ++ [(ao, oc cJ w)])) pc lv (.long x :: .int 0 :: .ref ao :: st) K := by
  intro res hKK H locs ls hP hD hS hl
  refine va_last F.1 F.2.1 hK hP hD hS (B ++ Y).length 4 lst_get rfl (i := 0) (by show ¬ _; decide) hd (fun H1 locs1 hP1 hD1 hS1 => ?_)
  rw [lst_set] at hP1 hD1
  exact kk res hKK H1 locs1 ls hP1 hD1 hS1 hl
theorem sk_lald (F : CallFix p m c cc nL s args Ts own) (hK : va_K D vwCl (ty5 cI cS cF cZ cJ) s) (hd : decode cc pc = .ok (.laload, 1)) (kk : sk p l e R s m args below meth c D A nL cells slots Q (B ++ (Y ++ [(ao, oc cJ w)])) (pc + 1) lv (.long (w 0) :: st) K) : sk p l e R s m args below meth c D A nL cells slots Q (B ++ (Y ++ [(ao, oc cJ w)])) pc lv (.int 0 :: .ref ao :: st) K := by
  intro res hKK H locs ls hP hD hS hl
  exact va_lald F.1 F.2.1 hK hP (B ++ Y).length 4 lst_get rfl (i := 0) (by show ¬ _; decide) hd (kk res hKK H locs ls hP hD hS hl)
end SKW
section SKY
variable {p : Program} {l : Launch} {e : Env} {R : Room} {s : State} {m : MethodId} {args : Array Value} {below : List Frame} {meth : Method} {c : Code} {cc : ByteArray} {nL : Nat} {Ts : List Cond} {own : String} {D : va_G} {tys : List (ClassId × FieldType)} {A : Nat → Prop} {cells slots : Nat} {ρ : Type} {Q : ρ → State → Prop} {pc : Nat} {lv : List (Nat × Value)} {rest st0 : List Value}
variable {σ : Type} {Ws : σ → va_W} {v : σ} {y : MethodName} {bytes : ByteArray} {maxL n index mc1 ms1 : Nat} {ret : Option FieldType} {wy : List Cond} {rm : Room} {As : List Value} {b : Nat} {C : String} {a1 b1 h1 k1 a2 b2 h2 k2 : Nat}
theorem sk_c1i (F : CallFix p m c cc nL s args Ts own) (hK : va_K D vwCl tys s) (hA : ∀ q, s.heap.size ≤ q → A q) (hZ : zz A s s.heap) (htab : c.exceptionTable.toList = tableOf [(a1, b1, h1, k1)]) (hc1 : a1 ≤ pc ∧ pc < b1) (hk1 : k1 ≠ 0) (hl1 : Cond.classLink own k1 IAE ∈ Ts) {Kc : Option ((Int32 ⊕ String) × σ)} (K : Int32 → σ → Option ρ) (K1 : σ → Option ρ) (hM : XI l y wy rm mc1 ms1 D A tys Ws (.ref b :: As) v Kc) (cw : CallW R s args own C index y bytes maxL ret wy rm mc1 ms1 n) (hrec : ∀ H : Heap, va_P D vwCl (Ws v) H → ∃ cell : Cell, H[b]? = some cell ∧ cell.vm.isStatics = false ∧ s.vm.findClass C = some cell.cls) (hst : st0 = (As.reverse ++ .ref b :: rest)) (hn : As.length = n) (hr8 : (rest.map fun v => v.category).sum ≤ 8) (hf : cells + mc1 ≤ R.cells ∧ slots + ms1 ≤ R.slots) (hd : decode cc pc = .ok (.invokevirtual index, 3)) (kk : ∀ r v1, Kc = some (.inl r, v1) → sk p l e R s m args below meth c D A nL (cells + mc1) (slots + ms1) Q (Ws v1) (pc + 3) lv (.int r :: rest) (K r v1)) (kx1 : ∀ v1 q, Kc = some (.inr IAE, v1) → sk p l e R s m args below meth c D A nL (cells + mc1) (slots + ms1) Q (Ws v1) h1 lv [.ref q] (K1 v1)) : sk p l e R s m args below meth c D A nL cells slots Q (Ws v) pc lv st0 (cd1 Kc K K1) := by
  subst hst
  intro res hKK H locs ls hP hD hS hl
  obtain ⟨⟨a0, v0⟩, hc, hk⟩ := Option.bind_eq_some_iff.mp hKK
  refine vx_calli (vx_runV (As := As) (rest := rest) F (hM (a0, v0) hc) cw ⟨pq_blind, hrec H hP, pq_now hK hA hZ hP hD hS⟩ rfl hn hl.1 rfl (lv_room hr8) hd hf) hS (fun q _ h => h) (fun q h => h) (fun q _ h => h) (fun E ce q9 u t H1 locs1 ht hvm hp hb hz1 hk9 hS1 hcell hv hcl => ?_) (fun r u t H1 locs1 ht hvm hw hB hz1 hk9 hS1 => ?_)
  · obtain ⟨hw, hP1, -, hD1⟩ := hb
    cases hw
    rw [ht] at hP1
    dsimp only at hk
    by_cases hE : E = IAE
    · rw [if_pos hE] at hk
      subst hE
      exact ct_catch (own := own) (name := IAE) F.2.2.2.1 [] _ _ (by rw [htab]; rfl) (fun z hz => by cases hz) (by simp [covers, hc1]) hk1 (F.2.2.2.2 _ hl1) (va_Nw.use rfl hZ.2.2.2.2.2.1) hcell hv hcl (kx1 v0 q9 hc res hk H1 locs1 ls hP1 hD1 hS1 hl)
    · rw [if_neg hE] at hk
      cases hk
  · cases hw
    obtain ⟨hP1, -, hD1⟩ := hB
    rw [ht] at hP1
    exact kk _ _ hc res hk H1 locs1 ls hP1 hD1 hS1 hl
theorem sk_c2i (F : CallFix p m c cc nL s args Ts own) (hK : va_K D vwCl tys s) (hA : ∀ q, s.heap.size ≤ q → A q) (hZ : zz A s s.heap) (htab : c.exceptionTable.toList = tableOf [(a1, b1, h1, k1), (a2, b2, h2, k2)]) (hc1 : a1 ≤ pc ∧ pc < b1) (hk1 : k1 ≠ 0) (hl1 : Cond.classLink own k1 IAE ∈ Ts) (hc2 : a2 ≤ pc ∧ pc < b2) (hk2 : k2 ≠ 0) (hl2 : Cond.classLink own k2 ISE ∈ Ts) {Kc : Option ((Int32 ⊕ String) × σ)} (K : Int32 → σ → Option ρ) (K1 : σ → Option ρ) (K2 : σ → Option ρ) (hM : XI l y wy rm mc1 ms1 D A tys Ws (.ref b :: As) v Kc) (cw : CallW R s args own C index y bytes maxL ret wy rm mc1 ms1 n) (hrec : ∀ H : Heap, va_P D vwCl (Ws v) H → ∃ cell : Cell, H[b]? = some cell ∧ cell.vm.isStatics = false ∧ s.vm.findClass C = some cell.cls) (hst : st0 = (As.reverse ++ .ref b :: rest)) (hn : As.length = n) (hr8 : (rest.map fun v => v.category).sum ≤ 8) (hf : cells + mc1 ≤ R.cells ∧ slots + ms1 ≤ R.slots) (hd : decode cc pc = .ok (.invokevirtual index, 3)) (kk : ∀ r v1, Kc = some (.inl r, v1) → sk p l e R s m args below meth c D A nL (cells + mc1) (slots + ms1) Q (Ws v1) (pc + 3) lv (.int r :: rest) (K r v1)) (kx1 : ∀ v1 q, Kc = some (.inr IAE, v1) → sk p l e R s m args below meth c D A nL (cells + mc1) (slots + ms1) Q (Ws v1) h1 lv [.ref q] (K1 v1)) (kx2 : ∀ v1 q, Kc = some (.inr ISE, v1) → sk p l e R s m args below meth c D A nL (cells + mc1) (slots + ms1) Q (Ws v1) h2 lv [.ref q] (K2 v1)) : sk p l e R s m args below meth c D A nL cells slots Q (Ws v) pc lv st0 (cd2 Kc K K1 K2) := by
  subst hst
  intro res hKK H locs ls hP hD hS hl
  obtain ⟨⟨a0, v0⟩, hc, hk⟩ := Option.bind_eq_some_iff.mp hKK
  refine vx_calli (vx_runV (As := As) (rest := rest) F (hM (a0, v0) hc) cw ⟨pq_blind, hrec H hP, pq_now hK hA hZ hP hD hS⟩ rfl hn hl.1 rfl (lv_room hr8) hd hf) hS (fun q _ h => h) (fun q h => h) (fun q _ h => h) (fun E ce q9 u t H1 locs1 ht hvm hp hb hz1 hk9 hS1 hcell hv hcl => ?_) (fun r u t H1 locs1 ht hvm hw hB hz1 hk9 hS1 => ?_)
  · obtain ⟨hw, hP1, -, hD1⟩ := hb
    cases hw
    rw [ht] at hP1
    dsimp only at hk
    by_cases hE : E = IAE
    · rw [if_pos hE] at hk
      subst hE
      exact ct_catch (own := own) (name := IAE) F.2.2.2.1 [] _ _ (by rw [htab]; rfl) (fun z hz => by cases hz) (by simp [covers, hc1]) hk1 (F.2.2.2.2 _ hl1) (va_Nw.use rfl hZ.2.2.2.2.2.1) hcell hv hcl (kx1 v0 q9 hc res hk H1 locs1 ls hP1 hD1 hS1 hl)
    · rw [if_neg hE] at hk
      by_cases hE2 : E = ISE
      · rw [if_pos hE2] at hk
        subst hE2
        exact ct_catch (own := own) (name := ISE) F.2.2.2.1 [_] _ [] (by rw [htab]; rfl) (fun z hz => by rw [List.mem_singleton.mp hz]; exact Or.inr ⟨hk1, IAE, F.2.2.2.2 _ hl1, hZ.2.2.2.2.2.2.2⟩) (by simp [covers, hc2]) hk2 (F.2.2.2.2 _ hl2) (va_Nw.use rfl hZ.2.2.2.2.2.2.1) hcell hv hcl (kx2 v0 q9 hc res hk H1 locs1 ls hP1 hD1 hS1 hl)
      · rw [if_neg hE2] at hk
        cases hk
  · cases hw
    obtain ⟨hP1, -, hD1⟩ := hB
    rw [ht] at hP1
    exact kk _ _ hc res hk H1 locs1 ls hP1 hD1 hS1 hl
theorem sk_c1v (F : CallFix p m c cc nL s args Ts own) (hK : va_K D vwCl tys s) (hA : ∀ q, s.heap.size ≤ q → A q) (hZ : zz A s s.heap) (htab : c.exceptionTable.toList = tableOf [(a1, b1, h1, k1)]) (hc1 : a1 ≤ pc ∧ pc < b1) (hk1 : k1 ≠ 0) (hl1 : Cond.classLink own k1 IAE ∈ Ts) {Kc : Option ((Unit ⊕ String) × σ)} (K : Unit → σ → Option ρ) (K1 : σ → Option ρ) (hM : XV l y wy rm mc1 ms1 D A tys Ws (.ref b :: As) v Kc) (cw : CallW R s args own C index y bytes maxL ret wy rm mc1 ms1 n) (hrec : ∀ H : Heap, va_P D vwCl (Ws v) H → ∃ cell : Cell, H[b]? = some cell ∧ cell.vm.isStatics = false ∧ s.vm.findClass C = some cell.cls) (hst : st0 = (As.reverse ++ .ref b :: rest)) (hn : As.length = n) (hr8 : (rest.map fun v => v.category).sum ≤ 8) (hf : cells + mc1 ≤ R.cells ∧ slots + ms1 ≤ R.slots) (hd : decode cc pc = .ok (.invokevirtual index, 3)) (kk : ∀ v1, Kc = some (.inl (), v1) → sk p l e R s m args below meth c D A nL (cells + mc1) (slots + ms1) Q (Ws v1) (pc + 3) lv rest (K () v1)) (kx1 : ∀ v1 q, Kc = some (.inr IAE, v1) → sk p l e R s m args below meth c D A nL (cells + mc1) (slots + ms1) Q (Ws v1) h1 lv [.ref q] (K1 v1)) : sk p l e R s m args below meth c D A nL cells slots Q (Ws v) pc lv st0 (cd1 Kc K K1) := by
  subst hst
  intro res hKK H locs ls hP hD hS hl
  obtain ⟨⟨a0, v0⟩, hc, hk⟩ := Option.bind_eq_some_iff.mp hKK
  refine vx_callv (vx_runV (As := As) (rest := rest) F (hM (a0, v0) hc) cw ⟨pq_blind, hrec H hP, pq_now hK hA hZ hP hD hS⟩ rfl hn hl.1 rfl (lv_room hr8) hd hf) hS (fun q _ h => h) (fun q h => h) (fun q _ h => h) (fun E ce q9 u t H1 locs1 ht hvm hp hb hz1 hk9 hS1 hcell hv hcl => ?_) (fun u t H1 locs1 ht hvm hw hB hz1 hk9 hS1 => ?_)
  · obtain ⟨hw, hP1, -, hD1⟩ := hb
    cases hw
    rw [ht] at hP1
    dsimp only at hk
    by_cases hE : E = IAE
    · rw [if_pos hE] at hk
      subst hE
      exact ct_catch (own := own) (name := IAE) F.2.2.2.1 [] _ _ (by rw [htab]; rfl) (fun z hz => by cases hz) (by simp [covers, hc1]) hk1 (F.2.2.2.2 _ hl1) (va_Nw.use rfl hZ.2.2.2.2.2.1) hcell hv hcl (kx1 v0 q9 hc res hk H1 locs1 ls hP1 hD1 hS1 hl)
    · rw [if_neg hE] at hk
      cases hk
  · cases hw
    obtain ⟨hP1, -, hD1⟩ := hB
    rw [ht] at hP1
    exact kk _ hc res hk H1 locs1 ls hP1 hD1 hS1 hl
theorem sk_c2v (F : CallFix p m c cc nL s args Ts own) (hK : va_K D vwCl tys s) (hA : ∀ q, s.heap.size ≤ q → A q) (hZ : zz A s s.heap) (htab : c.exceptionTable.toList = tableOf [(a1, b1, h1, k1), (a2, b2, h2, k2)]) (hc1 : a1 ≤ pc ∧ pc < b1) (hk1 : k1 ≠ 0) (hl1 : Cond.classLink own k1 IAE ∈ Ts) (hc2 : a2 ≤ pc ∧ pc < b2) (hk2 : k2 ≠ 0) (hl2 : Cond.classLink own k2 ISE ∈ Ts) {Kc : Option ((Unit ⊕ String) × σ)} (K : Unit → σ → Option ρ) (K1 : σ → Option ρ) (K2 : σ → Option ρ) (hM : XV l y wy rm mc1 ms1 D A tys Ws (.ref b :: As) v Kc) (cw : CallW R s args own C index y bytes maxL ret wy rm mc1 ms1 n) (hrec : ∀ H : Heap, va_P D vwCl (Ws v) H → ∃ cell : Cell, H[b]? = some cell ∧ cell.vm.isStatics = false ∧ s.vm.findClass C = some cell.cls) (hst : st0 = (As.reverse ++ .ref b :: rest)) (hn : As.length = n) (hr8 : (rest.map fun v => v.category).sum ≤ 8) (hf : cells + mc1 ≤ R.cells ∧ slots + ms1 ≤ R.slots) (hd : decode cc pc = .ok (.invokevirtual index, 3)) (kk : ∀ v1, Kc = some (.inl (), v1) → sk p l e R s m args below meth c D A nL (cells + mc1) (slots + ms1) Q (Ws v1) (pc + 3) lv rest (K () v1)) (kx1 : ∀ v1 q, Kc = some (.inr IAE, v1) → sk p l e R s m args below meth c D A nL (cells + mc1) (slots + ms1) Q (Ws v1) h1 lv [.ref q] (K1 v1)) (kx2 : ∀ v1 q, Kc = some (.inr ISE, v1) → sk p l e R s m args below meth c D A nL (cells + mc1) (slots + ms1) Q (Ws v1) h2 lv [.ref q] (K2 v1)) : sk p l e R s m args below meth c D A nL cells slots Q (Ws v) pc lv st0 (cd2 Kc K K1 K2) := by
  subst hst
  intro res hKK H locs ls hP hD hS hl
  obtain ⟨⟨a0, v0⟩, hc, hk⟩ := Option.bind_eq_some_iff.mp hKK
  refine vx_callv (vx_runV (As := As) (rest := rest) F (hM (a0, v0) hc) cw ⟨pq_blind, hrec H hP, pq_now hK hA hZ hP hD hS⟩ rfl hn hl.1 rfl (lv_room hr8) hd hf) hS (fun q _ h => h) (fun q h => h) (fun q _ h => h) (fun E ce q9 u t H1 locs1 ht hvm hp hb hz1 hk9 hS1 hcell hv hcl => ?_) (fun u t H1 locs1 ht hvm hw hB hz1 hk9 hS1 => ?_)
  · obtain ⟨hw, hP1, -, hD1⟩ := hb
    cases hw
    rw [ht] at hP1
    dsimp only at hk
    by_cases hE : E = IAE
    · rw [if_pos hE] at hk
      subst hE
      exact ct_catch (own := own) (name := IAE) F.2.2.2.1 [] _ _ (by rw [htab]; rfl) (fun z hz => by cases hz) (by simp [covers, hc1]) hk1 (F.2.2.2.2 _ hl1) (va_Nw.use rfl hZ.2.2.2.2.2.1) hcell hv hcl (kx1 v0 q9 hc res hk H1 locs1 ls hP1 hD1 hS1 hl)
    · rw [if_neg hE] at hk
      by_cases hE2 : E = ISE
      · rw [if_pos hE2] at hk
        subst hE2
        exact ct_catch (own := own) (name := ISE) F.2.2.2.1 [_] _ [] (by rw [htab]; rfl) (fun z hz => by rw [List.mem_singleton.mp hz]; exact Or.inr ⟨hk1, IAE, F.2.2.2.2 _ hl1, hZ.2.2.2.2.2.2.2⟩) (by simp [covers, hc2]) hk2 (F.2.2.2.2 _ hl2) (va_Nw.use rfl hZ.2.2.2.2.2.2.1) hcell hv hcl (kx2 v0 q9 hc res hk H1 locs1 ls hP1 hD1 hS1 hl)
      · rw [if_neg hE2] at hk
        cases hk
  · cases hw
    obtain ⟨hP1, -, hD1⟩ := hB
    rw [ht] at hP1
    exact kk _ hc res hk H1 locs1 ls hP1 hD1 hS1 hl
theorem sk_jiret (F : CallFix p m c cc nL s args Ts own) (hK : va_K D vwCl tys s) (hr : meth.sig.returnType = some .int) (hlocks : meth.locks = false) {r : Int32} {mc ms : Nat} (hmc : cells ≤ mc) (hms : slots ≤ ms) (hd : decode cc pc = .ok (.ireturn, 1)) : sk p l e R s m args below meth c D A nL cells slots (fun res => MQ below (qi D A tys Ws res) args s mc ms A) (Ws v) pc lv [.int r] (some (r, v)) := by
  intro res hKK H locs ls hP hD hS hl
  cases hKK
  exact W.widen hmc hms (W.iret F.1 F.2.1 hr (fun t ht hW => ⟨⟨r, v, rfl, rfl, by rw [ht]; exact hP, va_K.moved hW.alike hK, hD⟩, hS.F ht⟩) hS.2.2 hd)
end SKY
def cxw (p : Program) (s : State) (m : MethodId) (args : Array Value) (meth : Method) (c : Code) (cc : ByteArray) (nL : Nat) (Ts : List Cond) (own : String) (D : va_G) (tys : List (ClassId × FieldType)) (A : Nat → Prop) (ret : Option FieldType) (hh : List (Nat × Nat × Nat × Nat)) : Prop :=
  CallFix p m c cc nL s args Ts own ∧ va_K D vwCl tys s ∧ (∀ q, s.heap.size ≤ q → A q) ∧ zz A s s.heap ∧ meth.sig.returnType = ret ∧ meth.locks = false ∧ c.exceptionTable.toList = tableOf hh
theorem CJ_of {l : Launch} {y : MethodName} {ws ws' : List Cond} {rm : Room} {mc ms : Nat} {D : va_G} {A : Nat → Prop} {tys : List (ClassId × FieldType)} {σ : Type} {Ws : σ → va_W} {as : List Value} {pre : va_W} {cc : ByteArray} {maxL : Nat} {ret : Option FieldType} {hh : List (Nat × Nat × Nat × Nat)} {K : Option (Int32 × σ)} (hy : plainName y.cls = true) (hw : ws = Cond.codeWith y cc maxL ret hh :: ws') (hn : (lg_sl as).length ≤ maxL) (body : ∀ (p : Program) (e : Env) (s : State) (m : MethodId) (below : List Frame) (meth : Method) (c : Code), cxw p s m as.toArray meth c cc maxL ws y.cls D tys A ret hh → sk p l e rm s m as.toArray below meth c D A maxL 0 0 (fun res => MQ below (qi D A tys Ws res) as.toArray s mc ms A) pre 0 (lv_args 0 as) [] K) : CJ l y ws rm mc ms D A tys Ws as pre K := by
  intro res hres
  refine va_MetW (cc := cc) (maxL := maxL) (ret := ret) (hh := hh) hy hw ?_
  intro p e s m args below meth c s₁ B hml hv
  obtain ⟨rfl, hP, hK, hD, hA, hZ⟩ := hv
  have hl := lv_entry as (n := maxL) hn
  have hts := atoms_spec (ws := ws) B.pre
  rw [lg_entry_eq]
  exact body p e s m below meth c ⟨⟨B.exec, B.bytes, hml, findClass_of_methodNamed B.named, hts⟩, hK, hA, hZ, B.returns, B.notSynchronized, vx_table (x := y) B (hts _ (by rw [hw]; exact List.mem_cons_self))⟩ res hres s.heap [] _ hP hD va_S.rf hl
