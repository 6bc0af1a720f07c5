/-! THE CLAIM OUT OF ONE WALK OF THE LAW'S BODY. Your part is whole_start (and what it stands on); all else here is the same for every law, but numbers. -/
def R_law : String := "TunnelWatchLaw"
def lw_P (b : Addr) (xs : List Int32) (args : Array Value) (s : State) : Prop := args = #[.ref b] ∧ s.IntsAt b xs ∧ xs.length ≤ 3587 ∧ (Jvm.Cond.and given_1 narrow_1).before args s = true
def lw_Q (_ : Array Value) (s : State) (o : Outcome) (t : State) : Prop := o = .returned (some (.int 1)) ∧ Framed s o t [] 601024 7293000
def lw_Z (below : List Frame) (a : Array Value) (s : State) : State → Prop := fun t => ∃ o, t.status = .running ∧ Ended t below o ∧ lw_Q a s o t
/-- the law's own end, with 1 on the stack, nothing written that was there before, its room as the claim has it -/
theorem lw_ret {p : Program} {l : Launch} {e : Env} {s : State} {m : MethodId} {below : List Frame} {meth : Method} {c : Code} {b : Nat} (hx : p.tables.exec = Jvm.exec) (hb : c.code = code) (hr : meth.sig.returnType = ret) (hlocks : meth.locks = false) {pc : Nat} {H : Heap} {ls : Array Slot} (hdg : decode code pc = .ok (.ireturn, 1)) : W p l e room_1 s m #[Value.ref b] below meth c H [] 601024 7293000 (lw_Z below #[Value.ref b] s) (F0 m pc ls [.int 1]) := by
  intro T hT X
  obtain ⟨fs, hret, hrun, hended, hW, hframe⟩ := X.leave (v := some (.int 1)) (hlocks := hlocks) (fun h => by rw [hr] at h; cases h)
  have hmeth' : T.vm.method? m = some meth := X.method'
  refine ⟨T.setFrames fs, ?_, .returned (some (.int 1)), hrun, hended, rfl, ⟨_, rfl⟩, hW, hframe⟩
  jvm_step X.here [X.here.top, hx, hb, hdg, hmeth', hr, ret, narrow_b1]
  (try refine ⟨rfl, ?_⟩); (try refine ⟨rfl, ?_⟩)
  first | (intro acts; rw [hret _ acts rfl rfl rfl]) | rw [hret _ _ rfl rfl rfl]
  exact Steps.refl _
/-- what holds at the law's entry: the machine, the code, the tables' words (any of lw_tbl by 'hts w (by decide +kernel)'), the script of L ints xs at the cell b, what the Statement gives of the start (any of its parts by flat_of_before) -/
def lw_At (p : Program) (s : State) (m : MethodId) (meth : Method) (c : Code) (b L : Nat) (xs : Nat → Int32) : Prop :=
  p.tables.exec = Jvm.exec ∧ c.code = code ∧ meth.sig.returnType = ret ∧ c.maxLocals = 7 ∧ s.vm.findClass R_law = some m.cls ∧ (∀ w ∈ lw_tbl, w.before #[Value.ref b] s = true) ∧ va_X b L xs s s.heap ∧ b < s.heap.size ∧ meth.locks = false ∧ (Jvm.Cond.and given_1 narrow_1).before #[Value.ref b] s = true

theorem va_P_perm {D : va_G} {cl : List vw_C} {ws ws' : va_W} {H : Heap} (h : ws.Perm ws') (hP : va_P D cl ws H) : va_P D cl ws' H := by
  intro k q hq
  obtain ⟨i, hi⟩ := List.getElem?_of_mem (h.mem_iff.mpr (List.mem_of_getElem? hq))
  exact hP i q hi
theorem va_D_nd {A : Nat → Prop} {ws : va_W} : va_D A ws ↔ (ws.map (fun q => q.1)).Nodup ∧ ∀ q ∈ ws, A q.1 := by
  constructor
  · intro h
    refine ⟨?_, fun q hq => ?_⟩
    · rw [List.nodup_iff_pairwise_ne, List.pairwise_iff_getElem]
      intro i j hi hj hij e
      simp only [List.length_map] at hi hj
      simp only [List.getElem_map] at e
      have := h.1 i j ws[i] ws[j] (List.getElem?_eq_getElem hi) (List.getElem?_eq_getElem hj) e
      omega
    · obtain ⟨i, hi⟩ := List.getElem?_of_mem hq
      exact h.2 i q hi
  · intro h
    refine ⟨fun i j p q hi hj e => ?_, fun k q hq => h.2 q (List.mem_of_getElem? hq)⟩
    have hi' : (ws.map (fun q => q.1))[i]? = some p.1 := by rw [List.getElem?_map, hi]; rfl
    have hj' : (ws.map (fun q => q.1))[j]? = some p.1 := by rw [List.getElem?_map, hj, e]; rfl
    exact (List.getElem?_inj (List.getElem?_eq_some_iff.mp hi').1 h.1).mp (hi'.trans hj'.symm)
theorem va_D_perm {A : Nat → Prop} {ws ws' : va_W} (h : ws.Perm ws') (hD : va_D A ws) : va_D A ws' := by
  rw [va_D_nd] at hD ⊢
  exact ⟨(h.map _).nodup_iff.mp hD.1, fun q hq => hD.2 q (h.mem_iff.mpr hq)⟩
section SKL
variable {p : Program} {l : Launch} {e : Env} {R : Room} {s : State} {m : MethodId} {args : Array Value} {below : List Frame} {meth : Method} {c : Code} {cc : ByteArray} {nL : Nat} {Ts : List Cond} {own : String} {D : va_G} {tys : List (ClassId × FieldType)} {A : Nat → Prop} {cells slots : Nat} {ρ : Type} {Q : ρ → State → Prop} {ws : va_W} {pc : Nat} {lv : List (Nat × Value)} {st rest st0 : List Value} {K : Option ρ} {b L : Nat} {xs : Nat → Int32}
theorem sk_perm {ws' : va_W} (h : ws.Perm ws') (kk : sk p l e R s m args below meth c D A nL cells slots Q ws' pc lv st K) : sk p l e R s m args below meth c D A nL cells slots Q ws pc lv st K := fun res hK H locs ls hP hD hS hl => kk res hK H locs ls (va_P_perm h hP) (va_D_perm h hD) hS hl
theorem sk_widen {c1 z1 : Nat} (h1 : cells ≤ c1) (h2 : slots ≤ z1) (kk : sk p l e R s m args below meth c D A nL c1 z1 Q ws pc lv st K) : sk p l e R s m args below meth c D A nL cells slots Q ws pc lv st K := fun res hK H locs ls hP hD hS hl => W.widen h1 h2 (kk res hK H locs ls hP hD hS hl)
theorem sk_sld (F : CallFix p m c cc nL s args Ts own) (hX : va_X b L xs s s.heap) (hbl : b < s.heap.size) (hbA : ¬ A b) {i : Int32} (hd : decode cc pc = .ok (.iaload, 1)) (kk : inb i L → sk p l e R s m args below meth c D A nL cells slots Q ws (pc + 1) lv (.int (xs i.toNatClampNeg) :: st) K) : sk p l e R s m args below meth c D A nL cells slots Q ws pc lv (.int i :: .ref b :: st) (gd (inb i L) K) := by
  intro res hKK H locs ls hP hD hS hl
  obtain ⟨hin, hKK⟩ := gd_some hKK
  exact va_sld F.1 F.2.1 hX hbl hbA hS hin hd (kk hin res hKK H locs ls hP hD hS hl)
theorem sk_slen (F : CallFix p m c cc nL s args Ts own) (hX : va_X b L xs s s.heap) (hbl : b < s.heap.size) (hbA : ¬ A b) (hd : decode cc pc = .ok (.arraylength, 1)) (kk : sk p l e R s m args below meth c D A nL cells slots Q ws (pc + 1) lv (.int (nI L) :: st) K) : sk p l e R s m args below meth c D A nL cells slots Q ws pc lv (.ref b :: st) K := by
  intro res hKK H locs ls hP hD hS hl
  exact va_slen F.1 F.2.1 hX hbl hbA hS hd (kk res hKK H locs ls hP hD hS hl)
theorem sk_callJ (F : CallFix p m c cc nL s args Ts own) (hK : va_K D vwCl tys s) (hA : ∀ q, s.heap.size ≤ q → A q) (hZ : zz A s s.heap) {σ : Type} {Ws : σ → va_W} {y : MethodName} {bytes : ByteArray} {maxL n index mc1 ms1 : Nat} {ret : Option FieldType} {hh : List (Nat × Nat × Nat × Nat)} {wy : List Cond} {rm : Room} {As : List Value} {Kc : Option (Int32 × σ)} (K : Int32 → σ → Option ρ) (hM : CJ l y wy rm mc1 ms1 D A tys Ws As ws Kc) (cw : vx_CSW R s args own index y bytes maxL ret hh wy rm mc1 ms1 n) (hst : st0 = As.reverse ++ rest) (hn : As.length = n) (hr8 : (rest.map fun v => v.category).sum ≤ 8) (hf : cells + mc1 ≤ R.cells ∧ slots + ms1 ≤ R.slots) (hd : decode cc pc = .ok (.invokestatic index, 3)) (kk : ∀ r v1, Kc = some (r, v1) → sk p l e R s m args below meth c D A nL (cells + mc1) (slots + ms1) Q (Ws v1) (pc + 3) lv (.int r :: rest) (K r v1)) : sk p l e R s m args below meth c D A nL cells slots Q ws pc lv st0 (bd Kc K) := by
  subst hst
  intro res hKK H locs ls hP hD hS hl
  obtain ⟨⟨r0, v0⟩, hc, hk⟩ := Option.bind_eq_some_iff.mp hKK
  refine va_calli (vx_runSW (As := As) (rest := rest) F (hM (r0, v0) hc) cw ⟨pq_blind, pq_now hK hA hZ hP hD hS⟩ rfl hn hl.1 rfl (lv_room hr8) hd hf) hS (fun q _ h => h) (fun q h => h) (fun r u t H1 locs1 ht hvm hw hB hz1 hk1 hS1 => ?_)
  cases hw
  obtain ⟨hP1, -, hD1⟩ := hB
  rw [ht] at hP1
  exact kk r0 v0 hc res hk H1 locs1 ls hP1 hD1 hS1 hl
end SKL
/-- the law's end: K's value is 1, or nothing is claimed -/
def lQ (below : List Frame) (b : Nat) (s : State) : Int32 → State → Prop := fun r t => r = 1 → lw_Z below #[Value.ref b] s t
theorem sk_law0 {p : Program} {l : Launch} {e : Env} {R : Room} {s : State} {m : MethodId} {args : Array Value} {below : List Frame} {meth : Method} {c : Code} {D : va_G} {A : Nat → Prop} {nL cells slots b : Nat} {ws : va_W} {pc : Nat} {lv : List (Nat × Value)} {st : List Value} : sk p l e R s m args below meth c D A nL cells slots (lQ below b s) ws pc lv st (some 0) := by
  intro res hKK H locs ls hP hD hS hl T hT X
  cases hKK
  exact ⟨_, Steps.refl _, fun h => absurd h (by decide)⟩
theorem sk_law1 {p : Program} {l : Launch} {e : Env} {s : State} {m : MethodId} {below : List Frame} {meth : Method} {c : Code} {D : va_G} {nL cells slots b : Nat} {ws : va_W} {pc : Nat} {lv : List (Nat × Value)} (hx : p.tables.exec = Jvm.exec) (hb : c.code = code) (hr : meth.sig.returnType = ret) (hlocks : meth.locks = false) (hc : cells ≤ 601024) (hs : slots ≤ 7293000) (hdg : decode code pc = .ok (.ireturn, 1)) : sk p l e room_1 s m #[Value.ref b] below meth c D (fun q : Nat => s.heap.size ≤ q) nL cells slots (lQ below b s) ws pc lv [.int 1] (some 1) := by
  intro res hKK H locs ls hP hD hS hl
  cases hKK
  have h := va_forget (fun q hq => hS.2.2 q hq) (W.widen (k := 601024) (n := 7293000) hc hs (lw_ret (p := p) (l := l) (e := e) (H := H) (ls := ls) (m := m) (below := below) (s := s) (b := b) hx hb hr hlocks hdg))
  intro T hT X
  obtain ⟨t, a1, b1⟩ := h T hT X
  exact ⟨t, a1, fun _ => b1⟩
