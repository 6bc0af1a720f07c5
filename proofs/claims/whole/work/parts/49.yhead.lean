/-! the law's start: the words of the tables as the walks want them; its first 53 bytes -/
theorem ka_prim {args : Array Value} {s : State} {ty : FieldType} (h : (Cond.arrayClass ty).before args s = true) : ∃ cA : ClassId, ArrOfT s cA ty ∧ s.vm.findClass ("[" ++ ty.toString) = some cA := by
  obtain ⟨cA, kA, comp, h1, h2, h3⟩ := Cond.arrayClass_spec h
  exact ⟨cA, fun n z => ⟨fun k h => (by cases h), kA, h2, comp, h3⟩, h1⟩
theorem ka_obj {s : State} {C : String} (h : va_AO C s) : ∃ cA : ClassId, ArrOfT s cA (.object C) ∧ va_RA s cA (.object C) := by
  obtain ⟨comp, c, k, h1, h2, h3, h4, h5⟩ := Cond.arrayOver_spec h
  exact ⟨c, fun n z => ⟨fun k h => (by cases h), k, h3, comp, h4⟩, k, comp, h3, h4, h1, h5⟩
/-- what the tables say of every class and array of the run -/
def tb (args : Array Value) (s : State) : Prop := ∀ w ∈ lw_tbl, w.before args s = true
theorem K_start {args : Array Value} {s : State} (hts : tb args s) : ∃ (D : va_G) (cI cS cF cZ cJ : ClassId), va_K D vwCl (ty5 cI cS cF cZ cJ) s := by
  obtain ⟨c0, i0, k0⟩ := u_known (T := TX0) (N := 6) hts inX0 (hts (.instantiable RX0 6) (by decide +kernel))
  obtain ⟨c1, i1, k1⟩ := u_known (T := TX1) (N := 9) hts inX1 (hts (.instantiable RX1 9) (by decide +kernel))
  obtain ⟨c2, i2, k2⟩ := u_known (T := TX2) (N := 8) hts inX2 (hts (.instantiable RX2 8) (by decide +kernel))
  obtain ⟨c3, i3, k3⟩ := u_known (T := TX3) (N := 12) hts inX3 (hts (.instantiable RX3 12) (by decide +kernel))
  obtain ⟨c4, i4, k4⟩ := u_known (T := TX4) (N := 9) hts inX4 (hts (.instantiable RX4 9) (by decide +kernel))
  obtain ⟨c5, i5, k5⟩ := u_known (T := TX5) (N := 35) hts inX5 (hts (.instantiable RX5 35) (by decide +kernel))
  obtain ⟨cI, a1, b1⟩ := ka_prim (hts (.arrayClass .int) (by decide +kernel))
  obtain ⟨cS, a2, b2⟩ := ka_obj (va_AO.of (hts (.arrayOver (.object "TunnelWatch$Section")) (by decide +kernel)))
  obtain ⟨cF, a3, b3⟩ := ka_obj (va_AO.of (hts (.arrayOver (.object "TunnelWatch$Fan")) (by decide +kernel)))
  obtain ⟨cZ, a4, b4⟩ := ka_prim (hts (.arrayClass .boolean) (by decide +kernel))
  obtain ⟨cJ, a5, b5⟩ := ka_prim (hts (.arrayClass .long) (by decide +kernel))
  refine ⟨(fun k => match k with | 0 => c0 | 1 => c1 | 2 => c2 | 3 => c3 | 4 => c4 | _ => c5, fun k => match k with | 0 => i0 | 1 => i1 | 2 => i2 | 3 => i3 | 4 => i4 | _ => i5), cI, cS, cF, cZ, cJ, ?_, ?_⟩
  · intro k q hq
    match k, hq with
    | 0, hq => cases hq; exact k0
    | 1, hq => cases hq; exact k1
    | 2, hq => cases hq; exact k2
    | 3, hq => cases hq; exact k3
    | 4, hq => cases hq; exact k4
    | 5, hq => cases hq; exact k5
  · intro k q hq
    match k, hq with
    | 0, hq => cases hq; exact ⟨a1, b1⟩
    | 1, hq => cases hq; exact ⟨a2, b2⟩
    | 2, hq => cases hq; exact ⟨a3, b3⟩
    | 3, hq => cases hq; exact ⟨a4, b4⟩
    | 4, hq => cases hq; exact ⟨a5, b5⟩
theorem nn_start {args : Array Value} {s : State} (hts : tb args s) : nn s :=
  ⟨va_Nw.of rfl (hts (.methodLinkNest RX1 3 yX0_init "TunnelWatch") (by decide +kernel)), va_Nw.of rfl (hts (.methodLinkNest RX3 11 yX0_init "TunnelWatch") (by decide +kernel)), va_Nw.of rfl (hts (.methodLinkNest RX3 46 yX2_init "TunnelWatch") (by decide +kernel)), va_Nw.of rfl (hts (.methodLinkNest RX3 47 yX1_init "TunnelWatch") (by decide +kernel)), va_AO.of (hts (.arrayOver (.object "TunnelWatch$Section")) (by decide +kernel)), va_AO.of (hts (.arrayOver (.object "TunnelWatch$Fan")) (by decide +kernel))⟩
theorem zz_start {args : Array Value} {s : State} (hts : tb args s) (h : (Jvm.Cond.and given_1 narrow_1).before args s = true) : zz (fun q : Nat => s.heap.size ≤ q) s s.heap := by
  have hs := flat_of_before _ h
  refine ⟨vx_Zqof (hts (.laysStatic Bundle.tN "UNASSIGNED_STACK" Bundle.steD) (by decide +kernel)) (hts (.initialized Bundle.tN) (by decide +kernel)) (hs _ (by decide +kernel)) (fun a h1 h2 => absurd h1 (Nat.not_lt.mpr h2)), vx_Zqof (hts (.laysStatic Bundle.tN "SUPPRESSED_SENTINEL" Bundle.listD) (by decide +kernel)) (hts (.initialized Bundle.tN) (by decide +kernel)) (hs _ (by decide +kernel)) (fun a h1 h2 => absurd h1 (Nat.not_lt.mpr h2)), ?_⟩
  exact ⟨va_Nw.of rfl (hts (.declares (Bundle.init0 "java/lang/RuntimeException")) (by decide +kernel)), va_Nw.of rfl (hts (.declares (Bundle.init0 "java/lang/Exception")) (by decide +kernel)), va_Nw.of rfl (hts (.declares (Bundle.init0 "java/lang/Throwable")) (by decide +kernel)), va_Nw.of rfl (hts (.castable IAE IAE) (by decide +kernel)), va_Nw.of rfl (hts (.castable ISE ISE) (by decide +kernel)), va_Nc.of (hs (.not (.castable ISE IAE)) (by decide +kernel))⟩
/-! cell -/
def px (D : va_G) (A : Nat → Prop) (tys : List (ClassId × FieldType)) (as : List Value) (ws : va_W) (b L : Nat) (xs : Nat → Int32) : Array Value → State → Prop := va_Pc as (fun U => (va_P D vwCl ws U.heap ∧ va_K D vwCl tys U ∧ va_D A ws ∧ (∀ q, U.heap.size ≤ q → A q)) ∧ va_X b L xs U U.heap ∧ b < U.heap.size)
theorem px_blind {D : va_G} {A : Nat → Prop} {tys : List (ClassId × FieldType)} {as : List Value} {ws : va_W} {b L : Nat} {xs : Nat → Int32} : FrameBlind (px D A tys as ws b L xs) := by
  intro a U g mk h
  obtain ⟨h0, ⟨h1, h2, h3, h4⟩, h5, h6⟩ := h
  exact ⟨h0, ⟨h1, va_K.moved (u := U) (U := U.calling g mk a) (Vm.Alike.refl U.vm) h2, h3, h4⟩, va_X.moved (u := U) (U := U.calling g mk a) (Vm.Alike.refl U.vm) h5, h6⟩
def ce (L : Nat) (xs : Nat → Int32) (k : Nat) : Int32 := if L ≤ k then 0 else xs k
def rmL_cell : Room := { frames := 0, cells := 0, slots := 0, locals := 0 }
theorem ce_eq {L : Nat} {xs : Nat → Int32} {k : Nat} {α : Type} {w : α} (hL : L ≤ 3587) (hk : k < 3) : (if nI L ≤ nI k then some ((0 : Int32), w) else gd (inb (nI k) L) (some (xs (nI k).toNatClampNeg, w))) = some (ce L xs k, w) := by
  unfold ce
  by_cases h : L ≤ k
  · rw [if_pos (nI_le h (by omega)), if_pos h]
  · rw [if_neg (nI_ge (by omega) (by omega)), if_neg h]
    unfold gd
    rw [if_pos (nI_in (by omega) (by omega)), nI_clamp (by omega)]
set_option maxRecDepth 100000 in
set_option maxHeartbeats 4000000 in
theorem tcell {l : Launch} {D : va_G} {A : Nat → Prop} {tys : List (ClassId × FieldType)} {ws : va_W} {b L : Nat} {xs : Nat → Int32} (hbA : ¬ A b) (hL : L ≤ 3587) {k : Nat} (hk : k < 3) : Met l yL_cell wsL_cell rmL_cell (px D A tys [.ref b, .int (nI k)] ws b L xs) (qi D A tys (fun w : va_W => w) (ce L xs k, ws)) 0 0 A := by
  refine Met.ofW (cc := cL_cell) (maxL := 2) (ret := some .int) (by decide) rfl ?_
  intro p e s m args below meth c s₁ B hml hv
  obtain ⟨rfl, ⟨hP, hK, hD, hA⟩, hX, hbl⟩ := hv
  have hl := lv_entry ([.ref b, .int (nI k)] : List Value) (n := 2) (Nat.le_of_ble_eq_true rfl)
  rw [lg_entry_eq]
  have F : CallFix p m c cL_cell 2 s ([.ref b, .int (nI k)] : List Value).toArray wsL_cell RL := ⟨B.exec, B.bytes, hml, findClass_of_methodNamed B.named, atoms_spec B.pre⟩
  have body : sk p l e rmL_cell s m ([.ref b, .int (nI k)] : List Value).toArray below meth c D A 2 0 0 (fun res => MQ below (qi D A tys (fun w : va_W => w) res) ([.ref b, .int (nI k)] : List Value).toArray s 0 0 A) ws 0 (lv_args 0 [.ref b, .int (nI k)]) [] (some (ce L xs k, ws)) := by
    refine sk_iload_n F dL_cell_0 rfl 1 rfl ?_
    refine sk_aload_n F dL_cell_1 rfl 0 rfl ?_
    refine sk_slen F hX hbl hbA dL_cell_2 ?_
    refine sk_eq (ce_eq hL hk).symm ?_
    refine sk_icmp_ge F 12 dL_cell_3 (by decide) (fun h => ?_) (fun h => ?_)
    · refine sk_iconst (x := 0) F dL_cell_12 (by decide) ?_
      exact sk_iret (Ws := fun w : va_W => w) F hK B.returns B.notSynchronized dL_cell_13
    · refine sk_aload_n F dL_cell_6 rfl 0 rfl ?_
      refine sk_iload_n F dL_cell_7 rfl 1 rfl ?_
      refine sk_sld F hX hbl hbA dL_cell_8 (fun h2 => ?_)
      refine sk_goto F 13 dL_cell_9 (by decide) ?_
      exact sk_iret (Ws := fun w : va_W => w) F hK B.returns B.notSynchronized dL_cell_13
  exact body _ rfl s.heap [] _ hP hD va_S.rf hl
section HEAD
variable {p : Program} {l : Launch} {e : Env} {s : State} {m : MethodId} {below : List Frame} {meth : Method} {c : Code} {D : va_G} {cI cS cF cZ cJ : ClassId} {b L : Nat} {xs : Nat → Int32}
theorem sk_cell {Q : Int32 → State → Prop} {ws : va_W} {pc : Nat} {lv : List (Nat × Value)} {rest : List Value} {K : Option Int32} {cells slots : Nat} {x : Int32} (F : CallFix p m c cL_law 7 s #[Value.ref b] wsL_law RL) (hK : va_K D vwCl (ty5 cI cS cF cZ cJ) s) (hX : va_X b L xs s s.heap) (hbl : b < s.heap.size) (hL : L ≤ 3587) {k : Nat} (hk : k < 3) (hx : x = nI k) (hr8 : (rest.map fun v => v.category).sum ≤ 8) (hf : cells ≤ 601024 ∧ slots ≤ 7293000) (hd : decode cL_law pc = .ok (.invokestatic 73, 3)) (kk : sk p l e room_1 s m #[Value.ref b] below meth c D (fun q : Nat => s.heap.size ≤ q) 7 cells slots Q ws (pc + 3) lv (.int (ce L xs k) :: rest) K) : sk p l e room_1 s m #[Value.ref b] below meth c D (fun q : Nat => s.heap.size ≤ q) 7 cells slots Q ws pc lv (.int x :: .ref b :: rest) K := by
  subst hx
  intro res hKK H locs ls hP hD hS hl
  have hbA : ¬ (fun q : Nat => s.heap.size ≤ q) b := Nat.not_le.mpr hbl
  refine va_calli (va_runS (As := [.ref b, .int (nI k)]) (rest := rest) F (tcell (D := D) (tys := ty5 cI cS cF cZ cJ) (ws := ws) (xs := xs) hbA hL hk) (va_cwS 2 F.2.2.2.2 gL_law_L_cell rfl rfl rfl (by decide +kernel) ⟨Nat.le_of_ble_eq_true rfl, Nat.le_of_ble_eq_true rfl⟩) ⟨px_blind, fun U hU hW => ⟨rfl, ⟨by rw [hU]; exact hP, va_K.moved hW.alike hK, hD, fun q h => Nat.le_trans hS.1 (by rw [← hU]; exact h)⟩, va_X.kept (va_X.moved hW.alike hX) (by rw [hU]; exact hS.2.1 b hbl hbA), Nat.lt_of_lt_of_le hbl (by rw [hU]; exact hS.1)⟩⟩ rfl rfl hl.1 rfl (lv_room hr8) hd hf) hS (fun q _ h => h) (fun q h => h) (fun r u t H1 locs1 ht hvm hw hB hz1 hk1 hS1 => ?_)
  cases hw
  obtain ⟨hP1, -, hD1⟩ := hB
  rw [ht] at hP1
  exact kk res hKK H1 locs1 ls hP1 hD1 hS1 hl
set_option maxRecDepth 100000 in
set_option maxHeartbeats 4000000 in
theorem kHead (F : CallFix p m c cL_law 7 s #[Value.ref b] wsL_law RL) (hK : va_K D vwCl (ty5 cI cS cF cZ cJ) s) (hZ : zz (fun q : Nat => s.heap.size ≤ q) s s.heap) (hN : nn s) (hX : va_X b L xs s s.heap) (hbl : b < s.heap.size) (hl : l.stackTraces = false) (hr : meth.sig.returnType = ret) (hlocks : meth.locks = false) (hL : L ≤ 3587) {n : Nat} (hn : n ≤ 24) (hp : kl (ce L xs 0) 2 24 = nI n) {r : Mem} (hres : fX5_init_221 (ce L xs 0) (ce L xs 1) (ce L xs 2) (fun _ _ => 0) = some r) : sk p l e room_1 s m #[Value.ref b] below meth c D (fun q : Nat => s.heap.size ≤ q) 7 0 0 (lQ below b s) [] 0 [(0, .ref b)] [] (fLaw n L xs 1000 (v0 n (kl (ce L xs 1) 0 300) (kl (ce L xs 2) 0 100000)) r (fun _ => 0) 3) := by
  have hA : ∀ q : Nat, s.heap.size ≤ q → (fun q : Nat => s.heap.size ≤ q) q := fun _ h => h
  refine sk_eqw (ws' := ([] : va_W) ++ ([] : va_W)) rfl ?_
  refine sk_nx (ci := 4) (fs := [.int 0, .int 0, .null, .null, .null, .int 0, .int 0, .int 0, .int 0]) F hK hA rfl inlX4 tyX4 tyX4_ok (by decide +kernel) (by decide +kernel) (by decide +kernel) (fun j hj => by rcases (show j = 0 ∨ j = 1 ∨ j = 2 ∨ j = 3 ∨ j = 4 ∨ j = 5 ∨ j = 6 ∨ j = 7 ∨ j = 8 by omega) with rfl | rfl | rfl | rfl | rfl | rfl | rfl | rfl | rfl <;> rfl) (by decide) (by decide) dL_law_0 (fun h0 => ?_)
  refine sk_dup F dL_law_3 rfl ?_
  refine sk_aload_n F dL_law_4 rfl 0 rfl ?_
  refine sk_iconst (x := 0) F dL_law_5 (by decide) ?_
  refine sk_cell F hK hX hbl hL (k := 0) (by decide) (by decide) (by simp [Value.category]) (by decide) dL_law_6 ?_
  refine sk_aload_n F dL_law_9 rfl 0 rfl ?_
  refine sk_iconst (x := 1) F dL_law_10 (by decide) ?_
  refine sk_cell F hK hX hbl hL (k := 1) (by decide) (by decide) (by simp [Value.category]) (by decide) dL_law_11 ?_
  refine sk_aload_n F dL_law_14 rfl 0 rfl ?_
  refine sk_iconst (x := 2) F dL_law_15 (by decide) ?_
  refine sk_cell F hK hX hbl hL (k := 2) (by decide) (by decide) (by simp [Value.category]) (by decide) dL_law_16 ?_
  refine sk_ctorI (As := [.int (ce L xs 0), .int (ce L xs 1), .int (ce L xs 2)]) (rest := [.ref h0]) F hK hA hZ hN (nX4 (X := []) hn hp) ⟨callB_of 3 F.2.2.2.2 gL_law_X4_init rfl rfl rfl (F.2.2.2.2 _ (by decide +kernel)) (F.2.2.2.2 _ (by decide +kernel)) (by decide +kernel) ⟨Nat.le_of_ble_eq_true rfl, Nat.le_of_ble_eq_true rfl⟩, rfl, F.2.2.2.2 _ (by decide +kernel)⟩ rfl rfl (Nat.le_of_ble_eq_true rfl) (by decide) dL_law_19 (fun ad had => ?_)
  refine sk_astore_n F dL_law_22 rfl (by decide) rfl ?_
  refine sk_eqw (List.append_nil _).symm ?_
  refine sk_nx (ci := 5) (fs := [.int 0, .int 0, .int 0, .int 0, .int 0, .null, .null, .null, .null, .null, .null, .null, .null, .null, .null, .null, .null, .null, .null, .null, .null, .null, .null, .null, .null, .null, .null, .null, .null, .null, .null, .null, .null, .int 0, .int 0]) F hK hA rfl inlX5 tyX5 tyX5_ok (by decide +kernel) (by decide +kernel) (by decide +kernel) (by decide +kernel) (by decide) (by decide) dL_law_23 (fun h5 => ?_)
  refine sk_dup F dL_law_26 rfl ?_
  refine sk_aload_n F dL_law_27 rfl 1 rfl ?_
  refine sk_iconst (x := 0) F dL_law_28 (by decide) ?_
  refine sk_cell F hK hX hbl hL (k := 0) (by decide) (by decide) (by simp [Value.category]) (by decide) dL_law_29 ?_
  refine sk_aload_n F dL_law_32 rfl 1 rfl ?_
  refine sk_iconst (x := 1) F dL_law_33 (by decide) ?_
  refine sk_cell F hK hX hbl hL (k := 1) (by decide) (by decide) (by simp [Value.category]) (by decide) dL_law_34 ?_
  refine sk_aload_n F dL_law_37 rfl 1 rfl ?_
  refine sk_iconst (x := 2) F dL_law_38 (by decide) ?_
  refine sk_cell F hK hX hbl hL (k := 2) (by decide) (by decide) (by simp [Value.category]) (by decide) dL_law_39 ?_
  refine sk_ctorI (As := [.int (ce L xs 0), .int (ce L xs 1), .int (ce L xs 2)]) (rest := [.ref h5]) F hK hA hZ hN (nX5 hres) ⟨callB_of 3 F.2.2.2.2 gL_law_X5_init rfl rfl rfl (F.2.2.2.2 _ (by decide +kernel)) (F.2.2.2.2 _ (by decide +kernel)) (by decide +kernel) ⟨Nat.le_of_ble_eq_true rfl, Nat.le_of_ble_eq_true rfl⟩, rfl, F.2.2.2.2 _ (by decide +kernel)⟩ rfl rfl (Nat.le_of_ble_eq_true rfl) (by decide) dL_law_42 (fun z hz => ?_)
  obtain ⟨ar, u⟩ := z
  obtain ⟨har, hu⟩ := hz
  simp only at har hu
  subst hu
  refine sk_astore_n F dL_law_45 rfl (by decide) rfl ?_
  refine sk_iconst (x := 1) F dL_law_46 (by decide) ?_
  refine sk_eqw (List.append_nil _).symm ?_
  refine sk_nax F hK hA 4 (a0 := (1, .inr (.inl (fun _ => 0)))) (ty := .long) rfl (by decide +kernel) rfl (fun _ => rfl) (by decide) (by decide) (by decide) (by decide) (by decide) dL_law_47 (fun ao => ?_)
  refine sk_astore_n F dL_law_49 rfl (by decide) rfl ?_
  refine sk_iconst (x := 3) F dL_law_50 (by decide) ?_
  refine sk_istore F dL_law_51 (by decide) rfl ?_
  subst had
  subst har
  refine sk_perm (ws' := Wc cI cS cF ad n (ow Lr ar (shR cI cZ ar) u ++ [(ao, oc cJ (fun _ => 0))]) (v0 n (kl (ce L xs 1) 0 300) (kl (ce L xs 2) 0 100000))) ?_ ?_
  · show (((ow Lr ar (shR cI cZ ar) u) ++ (ow (Lc n) ad (shC cI cS cF ad n) (v0 n (kl (ce L xs 1) 0 300) (kl (ce L xs 2) 0 100000)) ++ [])) ++ ([] ++ [(ao, oc cJ (fun _ => 0))])).Perm (ow (Lc n) ad (shC cI cS cF ad n) (v0 n (kl (ce L xs 1) 0 300) (kl (ce L xs 2) 0 100000)) ++ (ow Lr ar (shR cI cZ ar) u ++ [(ao, oc cJ (fun _ => 0))]))
    rw [List.append_nil, List.nil_append, List.append_assoc]
    exact perm3
  refine sk_lv [4, 3, 2, 1, 0] rfl ?_
  exact kLaw (c0 := 114) (z0 := 21484) F hK hZ hX hbl hn hl hr hlocks (by decide) (by decide) 1000 (by decide) _ _ _ _
end HEAD
/-- from the entry, for every script of at most 3587 ints, the law comes to its end with true: what is left is of numbers -/
theorem whole_start_of {p : Program} {e : Env} {s : State} {m : MethodId} {below : List Frame} {meth : Method} {c : Code} (l : Launch) (hl : l.stackTraces = false) {b L : Nat} {xs : Nat → Int32} (hL : L ≤ 3587) (C0 : lw_At p s m meth c b L xs) {n : Nat} (hn : n ≤ 24) (hp : kl (ce L xs 0) 2 24 = nI n) {r : Mem} (hres : fX5_init_221 (ce L xs 0) (ce L xs 1) (ce L xs 2) (fun _ _ => 0) = some r) (hlaw : fLaw n L xs 1000 (v0 n (kl (ce L xs 1) 0 300) (kl (ce L xs 2) 0 100000)) r (fun _ => 0) 3 = some 1) : W p l e room_1 s m #[Value.ref b] below meth c s.heap [] 0 0 (lw_Z below #[Value.ref b] s) (entryFrame m ([Value.ref b] : List Value).toArray 7) := by
  obtain ⟨hx, hb, hret, hml, hown, hts, hX, hbl, hlocks, hgv⟩ := C0
  obtain ⟨D, cI, cS, cF, cZ, cJ, hK⟩ := K_start hts
  have F : CallFix p m c cL_law 7 s #[Value.ref b] wsL_law RL := ⟨hx, hb, hml, hown, fun w hw => hts w (wsL_law_in w hw)⟩
  have hv := lv_entry ([.ref b] : List Value) (n := 7) (Nat.le_of_ble_eq_true rfl)
  rw [lg_entry_eq]
  have k := kHead (p := p) (l := l) (e := e) (s := s) (m := m) (below := below) (meth := meth) (c := c) F hK (zz_start hts hgv) (nn_start hts) hX hbl hl hret hlocks hL hn hp hres 1 hlaw s.heap [] _ (fun k q hq => by simp at hq) ⟨fun i j p q h => by simp at h, fun k q h => by simp at h⟩ va_S.rf hv
  intro T hT X
  obtain ⟨t, a1, b1⟩ := k T hT X
  exact ⟨t, a1, b1 rfl⟩
